/-! THE METHODS' INSTRUCTIONS -/
def T18_15 : List Tok := []
def T18_14 : List Tok := (.return_, 1, 0, 0) :: T18_15
def T18_13 : List Tok := (.invokestatic 30, 3, 178, 300000) :: T18_14
def T18_12 : List Tok := (.getfield 15, 3, 66, 201) :: T18_13
def T18_11 : List Tok := (.aload_n 0, 1, 0, 0) :: T18_12
def T18_10 : List Tok := (.getfield 15, 3, 66, 201) :: T18_11
def T18_9 : List Tok := (.aload_n 1, 1, 0, 0) :: T18_10
def T18_8 : List Tok := (.invokestatic 30, 3, 178, 300000) :: T18_9
def T18_7 : List Tok := (.getfield 9, 3, 65, 200) :: T18_8
def T18_6 : List Tok := (.aload_n 0, 1, 0, 0) :: T18_7
def T18_5 : List Tok := (.getfield 9, 3, 65, 200) :: T18_6
def T18_4 : List Tok := (.aload_n 1, 1, 0, 0) :: T18_5
def T18_3 : List Tok := (.putfield 22, 3, 64, 198) :: T18_4
def T18_2 : List Tok := (.getfield 22, 3, 64, 198) :: T18_3
def T18_1 : List Tok := (.aload_n 1, 1, 0, 0) :: T18_2
def T18_0 : List Tok := (.aload_n 0, 1, 0, 0) :: T18_1
theorem o18_0 (hB : BytesOK) : okL 18 0 T18_0 = true := by
  have h := hB.1 18
  rw [show tk 18 = T18_0 from by decide +kernel] at h
  exact h
theorem o18_1 (hB : BytesOK) : okL 18 1 T18_1 = true := (okL_c (o18_0 hB)).2.2
theorem o18_2 (hB : BytesOK) : okL 18 2 T18_2 = true := (okL_c (o18_1 hB)).2.2
theorem o18_3 (hB : BytesOK) : okL 18 5 T18_3 = true := (okL_c (o18_2 hB)).2.2
theorem o18_4 (hB : BytesOK) : okL 18 8 T18_4 = true := (okL_c (o18_3 hB)).2.2
theorem o18_5 (hB : BytesOK) : okL 18 9 T18_5 = true := (okL_c (o18_4 hB)).2.2
theorem o18_6 (hB : BytesOK) : okL 18 12 T18_6 = true := (okL_c (o18_5 hB)).2.2
theorem o18_7 (hB : BytesOK) : okL 18 13 T18_7 = true := (okL_c (o18_6 hB)).2.2
theorem o18_8 (hB : BytesOK) : okL 18 16 T18_8 = true := (okL_c (o18_7 hB)).2.2
theorem o18_9 (hB : BytesOK) : okL 18 19 T18_9 = true := (okL_c (o18_8 hB)).2.2
theorem o18_10 (hB : BytesOK) : okL 18 20 T18_10 = true := (okL_c (o18_9 hB)).2.2
theorem o18_11 (hB : BytesOK) : okL 18 23 T18_11 = true := (okL_c (o18_10 hB)).2.2
theorem o18_12 (hB : BytesOK) : okL 18 24 T18_12 = true := (okL_c (o18_11 hB)).2.2
theorem o18_13 (hB : BytesOK) : okL 18 27 T18_13 = true := (okL_c (o18_12 hB)).2.2
theorem o18_14 (hB : BytesOK) : okL 18 30 T18_14 = true := (okL_c (o18_13 hB)).2.2
theorem ml18 : mml 18 = 2 := by decide +kernel
theorem mr18 : mret 18 = none := by decide +kernel
theorem mg18 : kGood 18 = true := by decide +kernel

def T43_49 : List Tok := []
def T43_48 : List Tok := (.return_, 1, 0, 0) :: T43_49
def T43_47 : List Tok := (.goto (-39), 3, 0, 0) :: T43_48
def T43_46 : List Tok := (.iinc 2 1, 3, 0, 0) :: T43_47
def T43_45 : List Tok := (.invokevirtual 84, 3, 105, 818) :: T43_46
def T43_44 : List Tok := (.aload 4, 2, 0, 0) :: T43_45
def T43_43 : List Tok := (.aload_n 3, 1, 0, 0) :: T43_44
def T43_42 : List Tok := (.ifnull 9, 3, 0, 0) :: T43_43
def T43_41 : List Tok := (.aload 4, 2, 0, 0) :: T43_42
def T43_40 : List Tok := (.ifnull 14, 3, 0, 0) :: T43_41
def T43_39 : List Tok := (.aload_n 3, 1, 0, 0) :: T43_40
def T43_38 : List Tok := (.astore 4, 2, 0, 0) :: T43_39
def T43_37 : List Tok := (.aaload, 1, 0, 0) :: T43_38
def T43_36 : List Tok := (.iload_n 2, 1, 0, 0) :: T43_37
def T43_35 : List Tok := (.getfield 41, 3, 133, 375) :: T43_36
def T43_34 : List Tok := (.aload_n 1, 1, 0, 0) :: T43_35
def T43_33 : List Tok := (.astore_n 3, 1, 0, 0) :: T43_34
def T43_32 : List Tok := (.aaload, 1, 0, 0) :: T43_33
def T43_31 : List Tok := (.iload_n 2, 1, 0, 0) :: T43_32
def T43_30 : List Tok := (.getfield 41, 3, 133, 375) :: T43_31
def T43_29 : List Tok := (.aload_n 0, 1, 0, 0) :: T43_30
def T43_28 : List Tok := (.if_icmp .ge 39, 3, 0, 0) :: T43_29
def T43_27 : List Tok := (.bipush 6, 2, 0, 0) :: T43_28
def T43_26 : List Tok := (.iload_n 2, 1, 0, 0) :: T43_27
def T43_25 : List Tok := (.istore_n 2, 1, 0, 0) :: T43_26
def T43_24 : List Tok := (.iconst 0, 1, 0, 0) :: T43_25
def T43_23 : List Tok := (.putfield 81, 3, 132, 373) :: T43_24
def T43_22 : List Tok := (.getfield 81, 3, 132, 373) :: T43_23
def T43_21 : List Tok := (.aload_n 1, 1, 0, 0) :: T43_22
def T43_20 : List Tok := (.aload_n 0, 1, 0, 0) :: T43_21
def T43_19 : List Tok := (.invokevirtual 237, 3, 79, 1330) :: T43_20
def T43_18 : List Tok := (.getfield 35, 3, 131, 371) :: T43_19
def T43_17 : List Tok := (.aload_n 1, 1, 0, 0) :: T43_18
def T43_16 : List Tok := (.getfield 35, 3, 131, 371) :: T43_17
def T43_15 : List Tok := (.aload_n 0, 1, 0, 0) :: T43_16
def T43_14 : List Tok := (.invokevirtual 234, 3, 121, 1325) :: T43_15
def T43_13 : List Tok := (.getfield 28, 3, 130, 369) :: T43_14
def T43_12 : List Tok := (.aload_n 1, 1, 0, 0) :: T43_13
def T43_11 : List Tok := (.getfield 28, 3, 130, 369) :: T43_12
def T43_10 : List Tok := (.aload_n 0, 1, 0, 0) :: T43_11
def T43_9 : List Tok := (.invokevirtual 231, 3, 18, 1320) :: T43_10
def T43_8 : List Tok := (.getfield 21, 3, 129, 367) :: T43_9
def T43_7 : List Tok := (.aload_n 1, 1, 0, 0) :: T43_8
def T43_6 : List Tok := (.getfield 21, 3, 129, 367) :: T43_7
def T43_5 : List Tok := (.aload_n 0, 1, 0, 0) :: T43_6
def T43_4 : List Tok := (.invokevirtual 228, 3, 57, 1315) :: T43_5
def T43_3 : List Tok := (.getfield 12, 3, 128, 364) :: T43_4
def T43_2 : List Tok := (.aload_n 1, 1, 0, 0) :: T43_3
def T43_1 : List Tok := (.getfield 12, 3, 128, 364) :: T43_2
def T43_0 : List Tok := (.aload_n 0, 1, 0, 0) :: T43_1
theorem o43_0 (hB : BytesOK) : okL 43 0 T43_0 = true := by
  have h := hB.1 43
  rw [show tk 43 = T43_0 from by decide +kernel] at h
  exact h
theorem o43_1 (hB : BytesOK) : okL 43 1 T43_1 = true := (okL_c (o43_0 hB)).2.2
theorem o43_2 (hB : BytesOK) : okL 43 4 T43_2 = true := (okL_c (o43_1 hB)).2.2
theorem o43_3 (hB : BytesOK) : okL 43 5 T43_3 = true := (okL_c (o43_2 hB)).2.2
theorem o43_4 (hB : BytesOK) : okL 43 8 T43_4 = true := (okL_c (o43_3 hB)).2.2
theorem o43_5 (hB : BytesOK) : okL 43 11 T43_5 = true := (okL_c (o43_4 hB)).2.2
theorem o43_6 (hB : BytesOK) : okL 43 12 T43_6 = true := (okL_c (o43_5 hB)).2.2
theorem o43_7 (hB : BytesOK) : okL 43 15 T43_7 = true := (okL_c (o43_6 hB)).2.2
theorem o43_8 (hB : BytesOK) : okL 43 16 T43_8 = true := (okL_c (o43_7 hB)).2.2
theorem o43_9 (hB : BytesOK) : okL 43 19 T43_9 = true := (okL_c (o43_8 hB)).2.2
theorem o43_10 (hB : BytesOK) : okL 43 22 T43_10 = true := (okL_c (o43_9 hB)).2.2
theorem o43_11 (hB : BytesOK) : okL 43 23 T43_11 = true := (okL_c (o43_10 hB)).2.2
theorem o43_12 (hB : BytesOK) : okL 43 26 T43_12 = true := (okL_c (o43_11 hB)).2.2
theorem o43_13 (hB : BytesOK) : okL 43 27 T43_13 = true := (okL_c (o43_12 hB)).2.2
theorem o43_14 (hB : BytesOK) : okL 43 30 T43_14 = true := (okL_c (o43_13 hB)).2.2
theorem o43_15 (hB : BytesOK) : okL 43 33 T43_15 = true := (okL_c (o43_14 hB)).2.2
theorem o43_16 (hB : BytesOK) : okL 43 34 T43_16 = true := (okL_c (o43_15 hB)).2.2
theorem o43_17 (hB : BytesOK) : okL 43 37 T43_17 = true := (okL_c (o43_16 hB)).2.2
theorem o43_18 (hB : BytesOK) : okL 43 38 T43_18 = true := (okL_c (o43_17 hB)).2.2
theorem o43_19 (hB : BytesOK) : okL 43 41 T43_19 = true := (okL_c (o43_18 hB)).2.2
theorem o43_20 (hB : BytesOK) : okL 43 44 T43_20 = true := (okL_c (o43_19 hB)).2.2
theorem o43_21 (hB : BytesOK) : okL 43 45 T43_21 = true := (okL_c (o43_20 hB)).2.2
theorem o43_22 (hB : BytesOK) : okL 43 46 T43_22 = true := (okL_c (o43_21 hB)).2.2
theorem o43_23 (hB : BytesOK) : okL 43 49 T43_23 = true := (okL_c (o43_22 hB)).2.2
theorem o43_24 (hB : BytesOK) : okL 43 52 T43_24 = true := (okL_c (o43_23 hB)).2.2
theorem o43_25 (hB : BytesOK) : okL 43 53 T43_25 = true := (okL_c (o43_24 hB)).2.2
theorem o43_26 (hB : BytesOK) : okL 43 54 T43_26 = true := (okL_c (o43_25 hB)).2.2
theorem o43_27 (hB : BytesOK) : okL 43 55 T43_27 = true := (okL_c (o43_26 hB)).2.2
theorem o43_28 (hB : BytesOK) : okL 43 57 T43_28 = true := (okL_c (o43_27 hB)).2.2
theorem o43_29 (hB : BytesOK) : okL 43 60 T43_29 = true := (okL_c (o43_28 hB)).2.2
theorem o43_30 (hB : BytesOK) : okL 43 61 T43_30 = true := (okL_c (o43_29 hB)).2.2
theorem o43_31 (hB : BytesOK) : okL 43 64 T43_31 = true := (okL_c (o43_30 hB)).2.2
theorem o43_32 (hB : BytesOK) : okL 43 65 T43_32 = true := (okL_c (o43_31 hB)).2.2
theorem o43_33 (hB : BytesOK) : okL 43 66 T43_33 = true := (okL_c (o43_32 hB)).2.2
theorem o43_34 (hB : BytesOK) : okL 43 67 T43_34 = true := (okL_c (o43_33 hB)).2.2
theorem o43_35 (hB : BytesOK) : okL 43 68 T43_35 = true := (okL_c (o43_34 hB)).2.2
theorem o43_36 (hB : BytesOK) : okL 43 71 T43_36 = true := (okL_c (o43_35 hB)).2.2
theorem o43_37 (hB : BytesOK) : okL 43 72 T43_37 = true := (okL_c (o43_36 hB)).2.2
theorem o43_38 (hB : BytesOK) : okL 43 73 T43_38 = true := (okL_c (o43_37 hB)).2.2
theorem o43_39 (hB : BytesOK) : okL 43 75 T43_39 = true := (okL_c (o43_38 hB)).2.2
theorem o43_40 (hB : BytesOK) : okL 43 76 T43_40 = true := (okL_c (o43_39 hB)).2.2
theorem o43_41 (hB : BytesOK) : okL 43 79 T43_41 = true := (okL_c (o43_40 hB)).2.2
theorem o43_42 (hB : BytesOK) : okL 43 81 T43_42 = true := (okL_c (o43_41 hB)).2.2
theorem o43_43 (hB : BytesOK) : okL 43 84 T43_43 = true := (okL_c (o43_42 hB)).2.2
theorem o43_44 (hB : BytesOK) : okL 43 85 T43_44 = true := (okL_c (o43_43 hB)).2.2
theorem o43_45 (hB : BytesOK) : okL 43 87 T43_45 = true := (okL_c (o43_44 hB)).2.2
theorem o43_46 (hB : BytesOK) : okL 43 90 T43_46 = true := (okL_c (o43_45 hB)).2.2
theorem o43_47 (hB : BytesOK) : okL 43 93 T43_47 = true := (okL_c (o43_46 hB)).2.2
theorem o43_48 (hB : BytesOK) : okL 43 96 T43_48 = true := (okL_c (o43_47 hB)).2.2
theorem ml43 : mml 43 = 5 := by decide +kernel
theorem mr43 : mret 43 = none := by decide +kernel
theorem mg43 : kGood 43 = true := by decide +kernel

def T45_10 : List Tok := []
def T45_9 : List Tok := (.ireturn, 1, 0, 0) :: T45_10
def T45_8 : List Tok := (.iconst 0, 1, 0, 0) :: T45_9
def T45_7 : List Tok := (.goto 4, 3, 0, 0) :: T45_8
def T45_6 : List Tok := (.iconst 1, 1, 0, 0) :: T45_7
def T45_5 : List Tok := (.if_icmp .ge 7, 3, 0, 0) :: T45_6
def T45_4 : List Tok := (.getfield 45, 3, 193, 124) :: T45_5
def T45_3 : List Tok := (.aload_n 0, 1, 0, 0) :: T45_4
def T45_2 : List Tok := (.iload_n 1, 1, 0, 0) :: T45_3
def T45_1 : List Tok := (.ifCond .lt 15, 3, 0, 0) :: T45_2
def T45_0 : List Tok := (.iload_n 1, 1, 0, 0) :: T45_1
theorem o45_0 (hB : BytesOK) : okL 45 0 T45_0 = true := by
  have h := hB.1 45
  rw [show tk 45 = T45_0 from by decide +kernel] at h
  exact h
theorem o45_1 (hB : BytesOK) : okL 45 1 T45_1 = true := (okL_c (o45_0 hB)).2.2
theorem o45_2 (hB : BytesOK) : okL 45 4 T45_2 = true := (okL_c (o45_1 hB)).2.2
theorem o45_3 (hB : BytesOK) : okL 45 5 T45_3 = true := (okL_c (o45_2 hB)).2.2
theorem o45_4 (hB : BytesOK) : okL 45 6 T45_4 = true := (okL_c (o45_3 hB)).2.2
theorem o45_5 (hB : BytesOK) : okL 45 9 T45_5 = true := (okL_c (o45_4 hB)).2.2
theorem o45_6 (hB : BytesOK) : okL 45 12 T45_6 = true := (okL_c (o45_5 hB)).2.2
theorem o45_7 (hB : BytesOK) : okL 45 13 T45_7 = true := (okL_c (o45_6 hB)).2.2
theorem o45_8 (hB : BytesOK) : okL 45 16 T45_8 = true := (okL_c (o45_7 hB)).2.2
theorem o45_9 (hB : BytesOK) : okL 45 17 T45_9 = true := (okL_c (o45_8 hB)).2.2
theorem ml45 : mml 45 = 2 := by decide +kernel
theorem mr45 : mret 45 = some .boolean := by decide +kernel
theorem mg45 : kGood 45 = true := by decide +kernel

def T46_118 : List Tok := []
def T46_117 : List Tok := (.ireturn, 1, 0, 0) :: T46_118
def T46_116 : List Tok := (.putfield 45, 3, 193, 124) :: T46_117
def T46_115 : List Tok := (.iadd, 1, 0, 0) :: T46_116
def T46_114 : List Tok := (.iconst 1, 1, 0, 0) :: T46_115
def T46_113 : List Tok := (.dup_x1, 1, 0, 0) :: T46_114
def T46_112 : List Tok := (.getfield 45, 3, 193, 124) :: T46_113
def T46_111 : List Tok := (.dup, 1, 0, 0) :: T46_112
def T46_110 : List Tok := (.aload_n 0, 1, 0, 0) :: T46_111
def T46_109 : List Tok := (.iastore, 1, 0, 0) :: T46_110
def T46_108 : List Tok := (.iload 4, 2, 0, 0) :: T46_109
def T46_107 : List Tok := (.getfield 45, 3, 193, 124) :: T46_108
def T46_106 : List Tok := (.aload_n 0, 1, 0, 0) :: T46_107
def T46_105 : List Tok := (.getfield 30, 3, 200, 139) :: T46_106
def T46_104 : List Tok := (.aload_n 0, 1, 0, 0) :: T46_105
def T46_103 : List Tok := (.iastore, 1, 0, 0) :: T46_104
def T46_102 : List Tok := (.irem, 1, 0, 0) :: T46_103
def T46_101 : List Tok := (.sipush 1000, 3, 0, 0) :: T46_102
def T46_100 : List Tok := (.iload_n 3, 1, 0, 0) :: T46_101
def T46_99 : List Tok := (.getfield 45, 3, 193, 124) :: T46_100
def T46_98 : List Tok := (.aload_n 0, 1, 0, 0) :: T46_99
def T46_97 : List Tok := (.getfield 24, 3, 198, 135) :: T46_98
def T46_96 : List Tok := (.aload_n 0, 1, 0, 0) :: T46_97
def T46_95 : List Tok := (.iastore, 1, 0, 0) :: T46_96
def T46_94 : List Tok := (.idiv, 1, 0, 0) :: T46_95
def T46_93 : List Tok := (.sipush 1000, 3, 0, 0) :: T46_94
def T46_92 : List Tok := (.iload_n 3, 1, 0, 0) :: T46_93
def T46_91 : List Tok := (.getfield 45, 3, 193, 124) :: T46_92
def T46_90 : List Tok := (.aload_n 0, 1, 0, 0) :: T46_91
def T46_89 : List Tok := (.getfield 21, 3, 197, 134) :: T46_90
def T46_88 : List Tok := (.aload_n 0, 1, 0, 0) :: T46_89
def T46_87 : List Tok := (.iastore, 1, 0, 0) :: T46_88
def T46_86 : List Tok := (.iload_n 2, 1, 0, 0) :: T46_87
def T46_85 : List Tok := (.getfield 45, 3, 193, 124) :: T46_86
def T46_84 : List Tok := (.aload_n 0, 1, 0, 0) :: T46_85
def T46_83 : List Tok := (.getfield 15, 3, 195, 129) :: T46_84
def T46_82 : List Tok := (.aload_n 0, 1, 0, 0) :: T46_83
def T46_81 : List Tok := (.iastore, 1, 0, 0) :: T46_82
def T46_80 : List Tok := (.irem, 1, 0, 0) :: T46_81
def T46_79 : List Tok := (.bipush 10, 2, 0, 0) :: T46_80
def T46_78 : List Tok := (.iload_n 1, 1, 0, 0) :: T46_79
def T46_77 : List Tok := (.getfield 45, 3, 193, 124) :: T46_78
def T46_76 : List Tok := (.aload_n 0, 1, 0, 0) :: T46_77
def T46_75 : List Tok := (.getfield 27, 3, 199, 136) :: T46_76
def T46_74 : List Tok := (.aload_n 0, 1, 0, 0) :: T46_75
def T46_73 : List Tok := (.iastore, 1, 0, 0) :: T46_74
def T46_72 : List Tok := (.irem, 1, 0, 0) :: T46_73
def T46_71 : List Tok := (.bipush 10, 2, 0, 0) :: T46_72
def T46_70 : List Tok := (.idiv, 1, 0, 0) :: T46_71
def T46_69 : List Tok := (.bipush 10, 2, 0, 0) :: T46_70
def T46_68 : List Tok := (.iload_n 1, 1, 0, 0) :: T46_69
def T46_67 : List Tok := (.getfield 45, 3, 193, 124) :: T46_68
def T46_66 : List Tok := (.aload_n 0, 1, 0, 0) :: T46_67
def T46_65 : List Tok := (.getfield 18, 3, 196, 132) :: T46_66
def T46_64 : List Tok := (.aload_n 0, 1, 0, 0) :: T46_65
def T46_63 : List Tok := (.iastore, 1, 0, 0) :: T46_64
def T46_62 : List Tok := (.idiv, 1, 0, 0) :: T46_63
def T46_61 : List Tok := (.bipush 100, 2, 0, 0) :: T46_62
def T46_60 : List Tok := (.iload_n 1, 1, 0, 0) :: T46_61
def T46_59 : List Tok := (.getfield 45, 3, 193, 124) :: T46_60
def T46_58 : List Tok := (.aload_n 0, 1, 0, 0) :: T46_59
def T46_57 : List Tok := (.getfield 9, 3, 194, 127) :: T46_58
def T46_56 : List Tok := (.aload_n 0, 1, 0, 0) :: T46_57
def T46_55 : List Tok := (.ireturn, 1, 0, 0) :: T46_56
def T46_54 : List Tok := (.bipush (-2), 2, 0, 0) :: T46_55
def T46_53 : List Tok := (.if_icmp .lt 6, 3, 0, 0) :: T46_54
def T46_52 : List Tok := (.bipush 16, 2, 0, 0) :: T46_53
def T46_51 : List Tok := (.getfield 45, 3, 193, 124) :: T46_52
def T46_50 : List Tok := (.aload_n 0, 1, 0, 0) :: T46_51
def T46_49 : List Tok := (.ireturn, 1, 0, 0) :: T46_50
def T46_48 : List Tok := (.iconst (-1), 1, 0, 0) :: T46_49
def T46_47 : List Tok := (.if_icmp .ge 5, 3, 0, 0) :: T46_48
def T46_46 : List Tok := (.idiv, 1, 0, 0) :: T46_47
def T46_45 : List Tok := (.sipush 1000, 3, 0, 0) :: T46_46
def T46_44 : List Tok := (.iload_n 3, 1, 0, 0) :: T46_45
def T46_43 : List Tok := (.irem, 1, 0, 0) :: T46_44
def T46_42 : List Tok := (.sipush 1000, 3, 0, 0) :: T46_43
def T46_41 : List Tok := (.iload_n 3, 1, 0, 0) :: T46_42
def T46_40 : List Tok := (.ifCond .eq 16, 3, 0, 0) :: T46_41
def T46_39 : List Tok := (.invokestatic 53, 3, 171, 300000) :: T46_40
def T46_38 : List Tok := (.irem, 1, 0, 0) :: T46_39
def T46_37 : List Tok := (.sipush 1000, 3, 0, 0) :: T46_38
def T46_36 : List Tok := (.iload_n 3, 1, 0, 0) :: T46_37
def T46_35 : List Tok := (.ifCond .eq 27, 3, 0, 0) :: T46_36
def T46_34 : List Tok := (.invokestatic 53, 3, 171, 300000) :: T46_35
def T46_33 : List Tok := (.idiv, 1, 0, 0) :: T46_34
def T46_32 : List Tok := (.sipush 1000, 3, 0, 0) :: T46_33
def T46_31 : List Tok := (.iload_n 3, 1, 0, 0) :: T46_32
def T46_30 : List Tok := (.ireturn, 1, 0, 0) :: T46_31
def T46_29 : List Tok := (.iconst (-1), 1, 0, 0) :: T46_30
def T46_28 : List Tok := (.if_icmp .le 5, 3, 0, 0) :: T46_29
def T46_27 : List Tok := (.bipush 7, 2, 0, 0) :: T46_28
def T46_26 : List Tok := (.iload 4, 2, 0, 0) :: T46_27
def T46_25 : List Tok := (.if_icmp .lt 10, 3, 0, 0) :: T46_26
def T46_24 : List Tok := (.iconst (-1), 1, 0, 0) :: T46_25
def T46_23 : List Tok := (.iload 4, 2, 0, 0) :: T46_24
def T46_22 : List Tok := (.ifCond .eq 16, 3, 0, 0) :: T46_23
def T46_21 : List Tok := (.invokestatic 49, 3, 174, 300000) :: T46_22
def T46_20 : List Tok := (.iload_n 2, 1, 0, 0) :: T46_21
def T46_19 : List Tok := (.ireturn, 1, 0, 0) :: T46_20
def T46_18 : List Tok := (.iconst (-1), 1, 0, 0) :: T46_19
def T46_17 : List Tok := (.ifCond .ne 5, 3, 0, 0) :: T46_18
def T46_16 : List Tok := (.irem, 1, 0, 0) :: T46_17
def T46_15 : List Tok := (.bipush 10, 2, 0, 0) :: T46_16
def T46_14 : List Tok := (.iload_n 1, 1, 0, 0) :: T46_15
def T46_13 : List Tok := (.if_icmp .ge 10, 3, 0, 0) :: T46_14
def T46_12 : List Tok := (.iconst 4, 1, 0, 0) :: T46_13
def T46_11 : List Tok := (.irem, 1, 0, 0) :: T46_12
def T46_10 : List Tok := (.bipush 10, 2, 0, 0) :: T46_11
def T46_9 : List Tok := (.idiv, 1, 0, 0) :: T46_10
def T46_8 : List Tok := (.bipush 10, 2, 0, 0) :: T46_9
def T46_7 : List Tok := (.iload_n 1, 1, 0, 0) :: T46_8
def T46_6 : List Tok := (.if_icmp .ge 21, 3, 0, 0) :: T46_7
def T46_5 : List Tok := (.bipush 8, 2, 0, 0) :: T46_6
def T46_4 : List Tok := (.idiv, 1, 0, 0) :: T46_5
def T46_3 : List Tok := (.bipush 100, 2, 0, 0) :: T46_4
def T46_2 : List Tok := (.iload_n 1, 1, 0, 0) :: T46_3
def T46_1 : List Tok := (.ifCond .lt 30, 3, 0, 0) :: T46_2
def T46_0 : List Tok := (.iload_n 1, 1, 0, 0) :: T46_1
theorem o46_0 (hB : BytesOK) : okL 46 0 T46_0 = true := by
  have h := hB.1 46
  rw [show tk 46 = T46_0 from by decide +kernel] at h
  exact h
theorem o46_1 (hB : BytesOK) : okL 46 1 T46_1 = true := (okL_c (o46_0 hB)).2.2
theorem o46_2 (hB : BytesOK) : okL 46 4 T46_2 = true := (okL_c (o46_1 hB)).2.2
theorem o46_3 (hB : BytesOK) : okL 46 5 T46_3 = true := (okL_c (o46_2 hB)).2.2
theorem o46_4 (hB : BytesOK) : okL 46 7 T46_4 = true := (okL_c (o46_3 hB)).2.2
theorem o46_5 (hB : BytesOK) : okL 46 8 T46_5 = true := (okL_c (o46_4 hB)).2.2
theorem o46_6 (hB : BytesOK) : okL 46 10 T46_6 = true := (okL_c (o46_5 hB)).2.2
theorem o46_7 (hB : BytesOK) : okL 46 13 T46_7 = true := (okL_c (o46_6 hB)).2.2
theorem o46_8 (hB : BytesOK) : okL 46 14 T46_8 = true := (okL_c (o46_7 hB)).2.2
theorem o46_9 (hB : BytesOK) : okL 46 16 T46_9 = true := (okL_c (o46_8 hB)).2.2
theorem o46_10 (hB : BytesOK) : okL 46 17 T46_10 = true := (okL_c (o46_9 hB)).2.2
theorem o46_11 (hB : BytesOK) : okL 46 19 T46_11 = true := (okL_c (o46_10 hB)).2.2
theorem o46_12 (hB : BytesOK) : okL 46 20 T46_12 = true := (okL_c (o46_11 hB)).2.2
theorem o46_13 (hB : BytesOK) : okL 46 21 T46_13 = true := (okL_c (o46_12 hB)).2.2
theorem o46_14 (hB : BytesOK) : okL 46 24 T46_14 = true := (okL_c (o46_13 hB)).2.2
theorem o46_15 (hB : BytesOK) : okL 46 25 T46_15 = true := (okL_c (o46_14 hB)).2.2
theorem o46_16 (hB : BytesOK) : okL 46 27 T46_16 = true := (okL_c (o46_15 hB)).2.2
theorem o46_17 (hB : BytesOK) : okL 46 28 T46_17 = true := (okL_c (o46_16 hB)).2.2
theorem o46_18 (hB : BytesOK) : okL 46 31 T46_18 = true := (okL_c (o46_17 hB)).2.2
theorem o46_19 (hB : BytesOK) : okL 46 32 T46_19 = true := (okL_c (o46_18 hB)).2.2
theorem o46_20 (hB : BytesOK) : okL 46 33 T46_20 = true := (okL_c (o46_19 hB)).2.2
theorem o46_21 (hB : BytesOK) : okL 46 34 T46_21 = true := (okL_c (o46_20 hB)).2.2
theorem o46_22 (hB : BytesOK) : okL 46 37 T46_22 = true := (okL_c (o46_21 hB)).2.2
theorem o46_23 (hB : BytesOK) : okL 46 40 T46_23 = true := (okL_c (o46_22 hB)).2.2
theorem o46_24 (hB : BytesOK) : okL 46 42 T46_24 = true := (okL_c (o46_23 hB)).2.2
theorem o46_25 (hB : BytesOK) : okL 46 43 T46_25 = true := (okL_c (o46_24 hB)).2.2
theorem o46_26 (hB : BytesOK) : okL 46 46 T46_26 = true := (okL_c (o46_25 hB)).2.2
theorem o46_27 (hB : BytesOK) : okL 46 48 T46_27 = true := (okL_c (o46_26 hB)).2.2
theorem o46_28 (hB : BytesOK) : okL 46 50 T46_28 = true := (okL_c (o46_27 hB)).2.2
theorem o46_29 (hB : BytesOK) : okL 46 53 T46_29 = true := (okL_c (o46_28 hB)).2.2
theorem o46_30 (hB : BytesOK) : okL 46 54 T46_30 = true := (okL_c (o46_29 hB)).2.2
theorem o46_31 (hB : BytesOK) : okL 46 55 T46_31 = true := (okL_c (o46_30 hB)).2.2
theorem o46_32 (hB : BytesOK) : okL 46 56 T46_32 = true := (okL_c (o46_31 hB)).2.2
theorem o46_33 (hB : BytesOK) : okL 46 59 T46_33 = true := (okL_c (o46_32 hB)).2.2
theorem o46_34 (hB : BytesOK) : okL 46 60 T46_34 = true := (okL_c (o46_33 hB)).2.2
theorem o46_35 (hB : BytesOK) : okL 46 63 T46_35 = true := (okL_c (o46_34 hB)).2.2
theorem o46_36 (hB : BytesOK) : okL 46 66 T46_36 = true := (okL_c (o46_35 hB)).2.2
theorem o46_37 (hB : BytesOK) : okL 46 67 T46_37 = true := (okL_c (o46_36 hB)).2.2
theorem o46_38 (hB : BytesOK) : okL 46 70 T46_38 = true := (okL_c (o46_37 hB)).2.2
theorem o46_39 (hB : BytesOK) : okL 46 71 T46_39 = true := (okL_c (o46_38 hB)).2.2
theorem o46_40 (hB : BytesOK) : okL 46 74 T46_40 = true := (okL_c (o46_39 hB)).2.2
theorem o46_41 (hB : BytesOK) : okL 46 77 T46_41 = true := (okL_c (o46_40 hB)).2.2
theorem o46_42 (hB : BytesOK) : okL 46 78 T46_42 = true := (okL_c (o46_41 hB)).2.2
theorem o46_43 (hB : BytesOK) : okL 46 81 T46_43 = true := (okL_c (o46_42 hB)).2.2
theorem o46_44 (hB : BytesOK) : okL 46 82 T46_44 = true := (okL_c (o46_43 hB)).2.2
theorem o46_45 (hB : BytesOK) : okL 46 83 T46_45 = true := (okL_c (o46_44 hB)).2.2
theorem o46_46 (hB : BytesOK) : okL 46 86 T46_46 = true := (okL_c (o46_45 hB)).2.2
theorem o46_47 (hB : BytesOK) : okL 46 87 T46_47 = true := (okL_c (o46_46 hB)).2.2
theorem o46_48 (hB : BytesOK) : okL 46 90 T46_48 = true := (okL_c (o46_47 hB)).2.2
theorem o46_49 (hB : BytesOK) : okL 46 91 T46_49 = true := (okL_c (o46_48 hB)).2.2
theorem o46_50 (hB : BytesOK) : okL 46 92 T46_50 = true := (okL_c (o46_49 hB)).2.2
theorem o46_51 (hB : BytesOK) : okL 46 93 T46_51 = true := (okL_c (o46_50 hB)).2.2
theorem o46_52 (hB : BytesOK) : okL 46 96 T46_52 = true := (okL_c (o46_51 hB)).2.2
theorem o46_53 (hB : BytesOK) : okL 46 98 T46_53 = true := (okL_c (o46_52 hB)).2.2
theorem o46_54 (hB : BytesOK) : okL 46 101 T46_54 = true := (okL_c (o46_53 hB)).2.2
theorem o46_55 (hB : BytesOK) : okL 46 103 T46_55 = true := (okL_c (o46_54 hB)).2.2
theorem o46_56 (hB : BytesOK) : okL 46 104 T46_56 = true := (okL_c (o46_55 hB)).2.2
theorem o46_57 (hB : BytesOK) : okL 46 105 T46_57 = true := (okL_c (o46_56 hB)).2.2
theorem o46_58 (hB : BytesOK) : okL 46 108 T46_58 = true := (okL_c (o46_57 hB)).2.2
theorem o46_59 (hB : BytesOK) : okL 46 109 T46_59 = true := (okL_c (o46_58 hB)).2.2
theorem o46_60 (hB : BytesOK) : okL 46 112 T46_60 = true := (okL_c (o46_59 hB)).2.2
theorem o46_61 (hB : BytesOK) : okL 46 113 T46_61 = true := (okL_c (o46_60 hB)).2.2
theorem o46_62 (hB : BytesOK) : okL 46 115 T46_62 = true := (okL_c (o46_61 hB)).2.2
theorem o46_63 (hB : BytesOK) : okL 46 116 T46_63 = true := (okL_c (o46_62 hB)).2.2
theorem o46_64 (hB : BytesOK) : okL 46 117 T46_64 = true := (okL_c (o46_63 hB)).2.2
theorem o46_65 (hB : BytesOK) : okL 46 118 T46_65 = true := (okL_c (o46_64 hB)).2.2
theorem o46_66 (hB : BytesOK) : okL 46 121 T46_66 = true := (okL_c (o46_65 hB)).2.2
theorem o46_67 (hB : BytesOK) : okL 46 122 T46_67 = true := (okL_c (o46_66 hB)).2.2
theorem o46_68 (hB : BytesOK) : okL 46 125 T46_68 = true := (okL_c (o46_67 hB)).2.2
theorem o46_69 (hB : BytesOK) : okL 46 126 T46_69 = true := (okL_c (o46_68 hB)).2.2
theorem o46_70 (hB : BytesOK) : okL 46 128 T46_70 = true := (okL_c (o46_69 hB)).2.2
theorem o46_71 (hB : BytesOK) : okL 46 129 T46_71 = true := (okL_c (o46_70 hB)).2.2
theorem o46_72 (hB : BytesOK) : okL 46 131 T46_72 = true := (okL_c (o46_71 hB)).2.2
theorem o46_73 (hB : BytesOK) : okL 46 132 T46_73 = true := (okL_c (o46_72 hB)).2.2
theorem o46_74 (hB : BytesOK) : okL 46 133 T46_74 = true := (okL_c (o46_73 hB)).2.2
theorem o46_75 (hB : BytesOK) : okL 46 134 T46_75 = true := (okL_c (o46_74 hB)).2.2
theorem o46_76 (hB : BytesOK) : okL 46 137 T46_76 = true := (okL_c (o46_75 hB)).2.2
theorem o46_77 (hB : BytesOK) : okL 46 138 T46_77 = true := (okL_c (o46_76 hB)).2.2
theorem o46_78 (hB : BytesOK) : okL 46 141 T46_78 = true := (okL_c (o46_77 hB)).2.2
theorem o46_79 (hB : BytesOK) : okL 46 142 T46_79 = true := (okL_c (o46_78 hB)).2.2
theorem o46_80 (hB : BytesOK) : okL 46 144 T46_80 = true := (okL_c (o46_79 hB)).2.2
theorem o46_81 (hB : BytesOK) : okL 46 145 T46_81 = true := (okL_c (o46_80 hB)).2.2
theorem o46_82 (hB : BytesOK) : okL 46 146 T46_82 = true := (okL_c (o46_81 hB)).2.2
theorem o46_83 (hB : BytesOK) : okL 46 147 T46_83 = true := (okL_c (o46_82 hB)).2.2
theorem o46_84 (hB : BytesOK) : okL 46 150 T46_84 = true := (okL_c (o46_83 hB)).2.2
theorem o46_85 (hB : BytesOK) : okL 46 151 T46_85 = true := (okL_c (o46_84 hB)).2.2
theorem o46_86 (hB : BytesOK) : okL 46 154 T46_86 = true := (okL_c (o46_85 hB)).2.2
theorem o46_87 (hB : BytesOK) : okL 46 155 T46_87 = true := (okL_c (o46_86 hB)).2.2
theorem o46_88 (hB : BytesOK) : okL 46 156 T46_88 = true := (okL_c (o46_87 hB)).2.2
theorem o46_89 (hB : BytesOK) : okL 46 157 T46_89 = true := (okL_c (o46_88 hB)).2.2
theorem o46_90 (hB : BytesOK) : okL 46 160 T46_90 = true := (okL_c (o46_89 hB)).2.2
theorem o46_91 (hB : BytesOK) : okL 46 161 T46_91 = true := (okL_c (o46_90 hB)).2.2
theorem o46_92 (hB : BytesOK) : okL 46 164 T46_92 = true := (okL_c (o46_91 hB)).2.2
theorem o46_93 (hB : BytesOK) : okL 46 165 T46_93 = true := (okL_c (o46_92 hB)).2.2
theorem o46_94 (hB : BytesOK) : okL 46 168 T46_94 = true := (okL_c (o46_93 hB)).2.2
theorem o46_95 (hB : BytesOK) : okL 46 169 T46_95 = true := (okL_c (o46_94 hB)).2.2
theorem o46_96 (hB : BytesOK) : okL 46 170 T46_96 = true := (okL_c (o46_95 hB)).2.2
theorem o46_97 (hB : BytesOK) : okL 46 171 T46_97 = true := (okL_c (o46_96 hB)).2.2
theorem o46_98 (hB : BytesOK) : okL 46 174 T46_98 = true := (okL_c (o46_97 hB)).2.2
theorem o46_99 (hB : BytesOK) : okL 46 175 T46_99 = true := (okL_c (o46_98 hB)).2.2
theorem o46_100 (hB : BytesOK) : okL 46 178 T46_100 = true := (okL_c (o46_99 hB)).2.2
theorem o46_101 (hB : BytesOK) : okL 46 179 T46_101 = true := (okL_c (o46_100 hB)).2.2
theorem o46_102 (hB : BytesOK) : okL 46 182 T46_102 = true := (okL_c (o46_101 hB)).2.2
theorem o46_103 (hB : BytesOK) : okL 46 183 T46_103 = true := (okL_c (o46_102 hB)).2.2
theorem o46_104 (hB : BytesOK) : okL 46 184 T46_104 = true := (okL_c (o46_103 hB)).2.2
theorem o46_105 (hB : BytesOK) : okL 46 185 T46_105 = true := (okL_c (o46_104 hB)).2.2
theorem o46_106 (hB : BytesOK) : okL 46 188 T46_106 = true := (okL_c (o46_105 hB)).2.2
theorem o46_107 (hB : BytesOK) : okL 46 189 T46_107 = true := (okL_c (o46_106 hB)).2.2
theorem o46_108 (hB : BytesOK) : okL 46 192 T46_108 = true := (okL_c (o46_107 hB)).2.2
theorem o46_109 (hB : BytesOK) : okL 46 194 T46_109 = true := (okL_c (o46_108 hB)).2.2
theorem o46_110 (hB : BytesOK) : okL 46 195 T46_110 = true := (okL_c (o46_109 hB)).2.2
theorem o46_111 (hB : BytesOK) : okL 46 196 T46_111 = true := (okL_c (o46_110 hB)).2.2
theorem o46_112 (hB : BytesOK) : okL 46 197 T46_112 = true := (okL_c (o46_111 hB)).2.2
theorem o46_113 (hB : BytesOK) : okL 46 200 T46_113 = true := (okL_c (o46_112 hB)).2.2
theorem o46_114 (hB : BytesOK) : okL 46 201 T46_114 = true := (okL_c (o46_113 hB)).2.2
theorem o46_115 (hB : BytesOK) : okL 46 202 T46_115 = true := (okL_c (o46_114 hB)).2.2
theorem o46_116 (hB : BytesOK) : okL 46 203 T46_116 = true := (okL_c (o46_115 hB)).2.2
theorem o46_117 (hB : BytesOK) : okL 46 206 T46_117 = true := (okL_c (o46_116 hB)).2.2
theorem ml46 : mml 46 = 5 := by decide +kernel
theorem mr46 : mret 46 = some .int := by decide +kernel
theorem mg46 : kGood 46 = true := by decide +kernel

def T47_41 : List Tok := []
def T47_40 : List Tok := (.ireturn, 1, 0, 0) :: T47_41
def T47_39 : List Tok := (.putfield 59, 3, 203, 143) :: T47_40
def T47_38 : List Tok := (.iadd, 1, 0, 0) :: T47_39
def T47_37 : List Tok := (.iconst 1, 1, 0, 0) :: T47_38
def T47_36 : List Tok := (.dup_x1, 1, 0, 0) :: T47_37
def T47_35 : List Tok := (.getfield 59, 3, 203, 143) :: T47_36
def T47_34 : List Tok := (.dup, 1, 0, 0) :: T47_35
def T47_33 : List Tok := (.aload_n 0, 1, 0, 0) :: T47_34
def T47_32 : List Tok := (.putfield 65, 3, 204, 145) :: T47_33
def T47_31 : List Tok := (.invokestatic 68, 3, 49, 555) :: T47_32
def T47_30 : List Tok := (.iload_n 2, 1, 0, 0) :: T47_31
def T47_29 : List Tok := (.getfield 59, 3, 203, 143) :: T47_30
def T47_28 : List Tok := (.aload_n 0, 1, 0, 0) :: T47_29
def T47_27 : List Tok := (.getfield 65, 3, 204, 145) :: T47_28
def T47_26 : List Tok := (.aload_n 0, 1, 0, 0) :: T47_27
def T47_25 : List Tok := (.aload_n 0, 1, 0, 0) :: T47_26
def T47_24 : List Tok := (.iastore, 1, 0, 0) :: T47_25
def T47_23 : List Tok := (.getfield 62, 3, 192, 122) :: T47_24
def T47_22 : List Tok := (.aload_n 0, 1, 0, 0) :: T47_23
def T47_21 : List Tok := (.getfield 59, 3, 203, 143) :: T47_22
def T47_20 : List Tok := (.aload_n 0, 1, 0, 0) :: T47_21
def T47_19 : List Tok := (.getfield 36, 3, 206, 147) :: T47_20
def T47_18 : List Tok := (.aload_n 0, 1, 0, 0) :: T47_19
def T47_17 : List Tok := (.iastore, 1, 0, 0) :: T47_18
def T47_16 : List Tok := (.iload_n 1, 1, 0, 0) :: T47_17
def T47_15 : List Tok := (.getfield 59, 3, 203, 143) :: T47_16
def T47_14 : List Tok := (.aload_n 0, 1, 0, 0) :: T47_15
def T47_13 : List Tok := (.getfield 33, 3, 205, 146) :: T47_14
def T47_12 : List Tok := (.aload_n 0, 1, 0, 0) :: T47_13
def T47_11 : List Tok := (.ireturn, 1, 0, 0) :: T47_12
def T47_10 : List Tok := (.bipush (-2), 2, 0, 0) :: T47_11
def T47_9 : List Tok := (.if_icmp .lt 6, 3, 0, 0) :: T47_10
def T47_8 : List Tok := (.bipush 20, 2, 0, 0) :: T47_9
def T47_7 : List Tok := (.getfield 59, 3, 203, 143) :: T47_8
def T47_6 : List Tok := (.aload_n 0, 1, 0, 0) :: T47_7
def T47_5 : List Tok := (.ireturn, 1, 0, 0) :: T47_6
def T47_4 : List Tok := (.iconst (-1), 1, 0, 0) :: T47_5
def T47_3 : List Tok := (.ifCond .ne 5, 3, 0, 0) :: T47_4
def T47_2 : List Tok := (.invokevirtual 56, 3, 45, 551) :: T47_3
def T47_1 : List Tok := (.iload_n 1, 1, 0, 0) :: T47_2
def T47_0 : List Tok := (.aload_n 0, 1, 0, 0) :: T47_1
theorem o47_0 (hB : BytesOK) : okL 47 0 T47_0 = true := by
  have h := hB.1 47
  rw [show tk 47 = T47_0 from by decide +kernel] at h
  exact h
theorem o47_1 (hB : BytesOK) : okL 47 1 T47_1 = true := (okL_c (o47_0 hB)).2.2
theorem o47_2 (hB : BytesOK) : okL 47 2 T47_2 = true := (okL_c (o47_1 hB)).2.2
theorem o47_3 (hB : BytesOK) : okL 47 5 T47_3 = true := (okL_c (o47_2 hB)).2.2
theorem o47_4 (hB : BytesOK) : okL 47 8 T47_4 = true := (okL_c (o47_3 hB)).2.2
theorem o47_5 (hB : BytesOK) : okL 47 9 T47_5 = true := (okL_c (o47_4 hB)).2.2
theorem o47_6 (hB : BytesOK) : okL 47 10 T47_6 = true := (okL_c (o47_5 hB)).2.2
theorem o47_7 (hB : BytesOK) : okL 47 11 T47_7 = true := (okL_c (o47_6 hB)).2.2
theorem o47_8 (hB : BytesOK) : okL 47 14 T47_8 = true := (okL_c (o47_7 hB)).2.2
theorem o47_9 (hB : BytesOK) : okL 47 16 T47_9 = true := (okL_c (o47_8 hB)).2.2
theorem o47_10 (hB : BytesOK) : okL 47 19 T47_10 = true := (okL_c (o47_9 hB)).2.2
theorem o47_11 (hB : BytesOK) : okL 47 21 T47_11 = true := (okL_c (o47_10 hB)).2.2
theorem o47_12 (hB : BytesOK) : okL 47 22 T47_12 = true := (okL_c (o47_11 hB)).2.2
theorem o47_13 (hB : BytesOK) : okL 47 23 T47_13 = true := (okL_c (o47_12 hB)).2.2
theorem o47_14 (hB : BytesOK) : okL 47 26 T47_14 = true := (okL_c (o47_13 hB)).2.2
theorem o47_15 (hB : BytesOK) : okL 47 27 T47_15 = true := (okL_c (o47_14 hB)).2.2
theorem o47_16 (hB : BytesOK) : okL 47 30 T47_16 = true := (okL_c (o47_15 hB)).2.2
theorem o47_17 (hB : BytesOK) : okL 47 31 T47_17 = true := (okL_c (o47_16 hB)).2.2
theorem o47_18 (hB : BytesOK) : okL 47 32 T47_18 = true := (okL_c (o47_17 hB)).2.2
theorem o47_19 (hB : BytesOK) : okL 47 33 T47_19 = true := (okL_c (o47_18 hB)).2.2
theorem o47_20 (hB : BytesOK) : okL 47 36 T47_20 = true := (okL_c (o47_19 hB)).2.2
theorem o47_21 (hB : BytesOK) : okL 47 37 T47_21 = true := (okL_c (o47_20 hB)).2.2
theorem o47_22 (hB : BytesOK) : okL 47 40 T47_22 = true := (okL_c (o47_21 hB)).2.2
theorem o47_23 (hB : BytesOK) : okL 47 41 T47_23 = true := (okL_c (o47_22 hB)).2.2
theorem o47_24 (hB : BytesOK) : okL 47 44 T47_24 = true := (okL_c (o47_23 hB)).2.2
theorem o47_25 (hB : BytesOK) : okL 47 45 T47_25 = true := (okL_c (o47_24 hB)).2.2
theorem o47_26 (hB : BytesOK) : okL 47 46 T47_26 = true := (okL_c (o47_25 hB)).2.2
theorem o47_27 (hB : BytesOK) : okL 47 47 T47_27 = true := (okL_c (o47_26 hB)).2.2
theorem o47_28 (hB : BytesOK) : okL 47 50 T47_28 = true := (okL_c (o47_27 hB)).2.2
theorem o47_29 (hB : BytesOK) : okL 47 51 T47_29 = true := (okL_c (o47_28 hB)).2.2
theorem o47_30 (hB : BytesOK) : okL 47 54 T47_30 = true := (okL_c (o47_29 hB)).2.2
theorem o47_31 (hB : BytesOK) : okL 47 55 T47_31 = true := (okL_c (o47_30 hB)).2.2
theorem o47_32 (hB : BytesOK) : okL 47 58 T47_32 = true := (okL_c (o47_31 hB)).2.2
theorem o47_33 (hB : BytesOK) : okL 47 61 T47_33 = true := (okL_c (o47_32 hB)).2.2
theorem o47_34 (hB : BytesOK) : okL 47 62 T47_34 = true := (okL_c (o47_33 hB)).2.2
theorem o47_35 (hB : BytesOK) : okL 47 63 T47_35 = true := (okL_c (o47_34 hB)).2.2
theorem o47_36 (hB : BytesOK) : okL 47 66 T47_36 = true := (okL_c (o47_35 hB)).2.2
theorem o47_37 (hB : BytesOK) : okL 47 67 T47_37 = true := (okL_c (o47_36 hB)).2.2
theorem o47_38 (hB : BytesOK) : okL 47 68 T47_38 = true := (okL_c (o47_37 hB)).2.2
theorem o47_39 (hB : BytesOK) : okL 47 69 T47_39 = true := (okL_c (o47_38 hB)).2.2
theorem o47_40 (hB : BytesOK) : okL 47 72 T47_40 = true := (okL_c (o47_39 hB)).2.2
theorem ml47 : mml 47 = 3 := by decide +kernel
theorem mr47 : mret 47 = some .int := by decide +kernel
theorem mg47 : kGood 47 = true := by decide +kernel

def T49_16 : List Tok := []
def T49_15 : List Tok := (.ireturn, 1, 0, 0) :: T49_16
def T49_14 : List Tok := (.iand, 1, 0, 0) :: T49_15
def T49_13 : List Tok := (.ixor, 1, 0, 0) :: T49_14
def T49_12 : List Tok := (.iconst (-1), 1, 0, 0) :: T49_13
def T49_11 : List Tok := (.ishl, 1, 0, 0) :: T49_12
def T49_10 : List Tok := (.iload_n 1, 1, 0, 0) :: T49_11
def T49_9 : List Tok := (.iconst 1, 1, 0, 0) :: T49_10
def T49_8 : List Tok := (.iload_n 0, 1, 0, 0) :: T49_9
def T49_7 : List Tok := (.goto 10, 3, 0, 0) :: T49_8
def T49_6 : List Tok := (.ior, 1, 0, 0) :: T49_7
def T49_5 : List Tok := (.ishl, 1, 0, 0) :: T49_6
def T49_4 : List Tok := (.iload_n 1, 1, 0, 0) :: T49_5
def T49_3 : List Tok := (.iconst 1, 1, 0, 0) :: T49_4
def T49_2 : List Tok := (.iload_n 0, 1, 0, 0) :: T49_3
def T49_1 : List Tok := (.ifCond .eq 11, 3, 0, 0) :: T49_2
def T49_0 : List Tok := (.iload_n 2, 1, 0, 0) :: T49_1
theorem o49_0 (hB : BytesOK) : okL 49 0 T49_0 = true := by
  have h := hB.1 49
  rw [show tk 49 = T49_0 from by decide +kernel] at h
  exact h
theorem o49_1 (hB : BytesOK) : okL 49 1 T49_1 = true := (okL_c (o49_0 hB)).2.2
theorem o49_2 (hB : BytesOK) : okL 49 4 T49_2 = true := (okL_c (o49_1 hB)).2.2
theorem o49_3 (hB : BytesOK) : okL 49 5 T49_3 = true := (okL_c (o49_2 hB)).2.2
theorem o49_4 (hB : BytesOK) : okL 49 6 T49_4 = true := (okL_c (o49_3 hB)).2.2
theorem o49_5 (hB : BytesOK) : okL 49 7 T49_5 = true := (okL_c (o49_4 hB)).2.2
theorem o49_6 (hB : BytesOK) : okL 49 8 T49_6 = true := (okL_c (o49_5 hB)).2.2
theorem o49_7 (hB : BytesOK) : okL 49 9 T49_7 = true := (okL_c (o49_6 hB)).2.2
theorem o49_8 (hB : BytesOK) : okL 49 12 T49_8 = true := (okL_c (o49_7 hB)).2.2
theorem o49_9 (hB : BytesOK) : okL 49 13 T49_9 = true := (okL_c (o49_8 hB)).2.2
theorem o49_10 (hB : BytesOK) : okL 49 14 T49_10 = true := (okL_c (o49_9 hB)).2.2
theorem o49_11 (hB : BytesOK) : okL 49 15 T49_11 = true := (okL_c (o49_10 hB)).2.2
theorem o49_12 (hB : BytesOK) : okL 49 16 T49_12 = true := (okL_c (o49_11 hB)).2.2
theorem o49_13 (hB : BytesOK) : okL 49 17 T49_13 = true := (okL_c (o49_12 hB)).2.2
theorem o49_14 (hB : BytesOK) : okL 49 18 T49_14 = true := (okL_c (o49_13 hB)).2.2
theorem o49_15 (hB : BytesOK) : okL 49 19 T49_15 = true := (okL_c (o49_14 hB)).2.2
theorem ml49 : mml 49 = 3 := by decide +kernel
theorem mr49 : mret 49 = some .int := by decide +kernel
theorem mg49 : kGood 49 = true := by decide +kernel

def T50_54 : List Tok := []
def T50_53 : List Tok := (.ireturn, 1, 0, 0) :: T50_54
def T50_52 : List Tok := (.iconst 1, 1, 0, 0) :: T50_53
def T50_51 : List Tok := (.goto (-48), 3, 0, 0) :: T50_52
def T50_50 : List Tok := (.iinc 4 (-1), 3, 0, 0) :: T50_51
def T50_49 : List Tok := (.ireturn, 1, 0, 0) :: T50_50
def T50_48 : List Tok := (.iconst 0, 1, 0, 0) :: T50_49
def T50_47 : List Tok := (.goto 4, 3, 0, 0) :: T50_48
def T50_46 : List Tok := (.iconst 1, 1, 0, 0) :: T50_47
def T50_45 : List Tok := (.ifCond .ne 7, 3, 0, 0) :: T50_46
def T50_44 : List Tok := (.iand, 1, 0, 0) :: T50_45
def T50_43 : List Tok := (.iconst 1, 1, 0, 0) :: T50_44
def T50_42 : List Tok := (.ishr, 1, 0, 0) :: T50_43
def T50_41 : List Tok := (.iload 4, 2, 0, 0) :: T50_42
def T50_40 : List Tok := (.getfield 65, 3, 204, 145) :: T50_41
def T50_39 : List Tok := (.aload_n 0, 1, 0, 0) :: T50_40
def T50_38 : List Tok := (.if_icmp .gt 21, 3, 0, 0) :: T50_39
def T50_37 : List Tok := (.iload_n 3, 1, 0, 0) :: T50_38
def T50_36 : List Tok := (.iaload, 1, 0, 0) :: T50_37
def T50_35 : List Tok := (.iload 4, 2, 0, 0) :: T50_36
def T50_34 : List Tok := (.getfield 36, 3, 206, 147) :: T50_35
def T50_33 : List Tok := (.aload_n 0, 1, 0, 0) :: T50_34
def T50_32 : List Tok := (.if_icmp .ne 32, 3, 0, 0) :: T50_33
def T50_31 : List Tok := (.iload_n 1, 1, 0, 0) :: T50_32
def T50_30 : List Tok := (.iaload, 1, 0, 0) :: T50_31
def T50_29 : List Tok := (.iload 4, 2, 0, 0) :: T50_30
def T50_28 : List Tok := (.getfield 33, 3, 205, 146) :: T50_29
def T50_27 : List Tok := (.aload_n 0, 1, 0, 0) :: T50_28
def T50_26 : List Tok := (.ifCond .lt 49, 3, 0, 0) :: T50_27
def T50_25 : List Tok := (.iload 4, 2, 0, 0) :: T50_26
def T50_24 : List Tok := (.istore 4, 2, 0, 0) :: T50_25
def T50_23 : List Tok := (.isub, 1, 0, 0) :: T50_24
def T50_22 : List Tok := (.iconst 1, 1, 0, 0) :: T50_23
def T50_21 : List Tok := (.getfield 59, 3, 203, 143) :: T50_22
def T50_20 : List Tok := (.aload_n 0, 1, 0, 0) :: T50_21
def T50_19 : List Tok := (.ireturn, 1, 0, 0) :: T50_20
def T50_18 : List Tok := (.iconst 0, 1, 0, 0) :: T50_19
def T50_17 : List Tok := (.if_icmp .le 5, 3, 0, 0) :: T50_18
def T50_16 : List Tok := (.iaload, 1, 0, 0) :: T50_17
def T50_15 : List Tok := (.iload_n 1, 1, 0, 0) :: T50_16
def T50_14 : List Tok := (.getfield 24, 3, 198, 135) :: T50_15
def T50_13 : List Tok := (.aload_n 0, 1, 0, 0) :: T50_14
def T50_12 : List Tok := (.iload_n 2, 1, 0, 0) :: T50_13
def T50_11 : List Tok := (.if_icmp .lt 13, 3, 0, 0) :: T50_12
def T50_10 : List Tok := (.iaload, 1, 0, 0) :: T50_11
def T50_9 : List Tok := (.iload_n 1, 1, 0, 0) :: T50_10
def T50_8 : List Tok := (.getfield 21, 3, 197, 134) :: T50_9
def T50_7 : List Tok := (.aload_n 0, 1, 0, 0) :: T50_8
def T50_6 : List Tok := (.iload_n 2, 1, 0, 0) :: T50_7
def T50_5 : List Tok := (.if_icmp .ge 23, 3, 0, 0) :: T50_6
def T50_4 : List Tok := (.getfield 45, 3, 193, 124) :: T50_5
def T50_3 : List Tok := (.aload_n 0, 1, 0, 0) :: T50_4
def T50_2 : List Tok := (.iload_n 1, 1, 0, 0) :: T50_3
def T50_1 : List Tok := (.ifCond .lt 31, 3, 0, 0) :: T50_2
def T50_0 : List Tok := (.iload_n 1, 1, 0, 0) :: T50_1
theorem o50_0 (hB : BytesOK) : okL 50 0 T50_0 = true := by
  have h := hB.1 50
  rw [show tk 50 = T50_0 from by decide +kernel] at h
  exact h
theorem o50_1 (hB : BytesOK) : okL 50 1 T50_1 = true := (okL_c (o50_0 hB)).2.2
theorem o50_2 (hB : BytesOK) : okL 50 4 T50_2 = true := (okL_c (o50_1 hB)).2.2
theorem o50_3 (hB : BytesOK) : okL 50 5 T50_3 = true := (okL_c (o50_2 hB)).2.2
theorem o50_4 (hB : BytesOK) : okL 50 6 T50_4 = true := (okL_c (o50_3 hB)).2.2
theorem o50_5 (hB : BytesOK) : okL 50 9 T50_5 = true := (okL_c (o50_4 hB)).2.2
theorem o50_6 (hB : BytesOK) : okL 50 12 T50_6 = true := (okL_c (o50_5 hB)).2.2
theorem o50_7 (hB : BytesOK) : okL 50 13 T50_7 = true := (okL_c (o50_6 hB)).2.2
theorem o50_8 (hB : BytesOK) : okL 50 14 T50_8 = true := (okL_c (o50_7 hB)).2.2
theorem o50_9 (hB : BytesOK) : okL 50 17 T50_9 = true := (okL_c (o50_8 hB)).2.2
theorem o50_10 (hB : BytesOK) : okL 50 18 T50_10 = true := (okL_c (o50_9 hB)).2.2
theorem o50_11 (hB : BytesOK) : okL 50 19 T50_11 = true := (okL_c (o50_10 hB)).2.2
theorem o50_12 (hB : BytesOK) : okL 50 22 T50_12 = true := (okL_c (o50_11 hB)).2.2
theorem o50_13 (hB : BytesOK) : okL 50 23 T50_13 = true := (okL_c (o50_12 hB)).2.2
theorem o50_14 (hB : BytesOK) : okL 50 24 T50_14 = true := (okL_c (o50_13 hB)).2.2
theorem o50_15 (hB : BytesOK) : okL 50 27 T50_15 = true := (okL_c (o50_14 hB)).2.2
theorem o50_16 (hB : BytesOK) : okL 50 28 T50_16 = true := (okL_c (o50_15 hB)).2.2
theorem o50_17 (hB : BytesOK) : okL 50 29 T50_17 = true := (okL_c (o50_16 hB)).2.2
theorem o50_18 (hB : BytesOK) : okL 50 32 T50_18 = true := (okL_c (o50_17 hB)).2.2
theorem o50_19 (hB : BytesOK) : okL 50 33 T50_19 = true := (okL_c (o50_18 hB)).2.2
theorem o50_20 (hB : BytesOK) : okL 50 34 T50_20 = true := (okL_c (o50_19 hB)).2.2
theorem o50_21 (hB : BytesOK) : okL 50 35 T50_21 = true := (okL_c (o50_20 hB)).2.2
theorem o50_22 (hB : BytesOK) : okL 50 38 T50_22 = true := (okL_c (o50_21 hB)).2.2
theorem o50_23 (hB : BytesOK) : okL 50 39 T50_23 = true := (okL_c (o50_22 hB)).2.2
theorem o50_24 (hB : BytesOK) : okL 50 40 T50_24 = true := (okL_c (o50_23 hB)).2.2
theorem o50_25 (hB : BytesOK) : okL 50 42 T50_25 = true := (okL_c (o50_24 hB)).2.2
theorem o50_26 (hB : BytesOK) : okL 50 44 T50_26 = true := (okL_c (o50_25 hB)).2.2
theorem o50_27 (hB : BytesOK) : okL 50 47 T50_27 = true := (okL_c (o50_26 hB)).2.2
theorem o50_28 (hB : BytesOK) : okL 50 48 T50_28 = true := (okL_c (o50_27 hB)).2.2
theorem o50_29 (hB : BytesOK) : okL 50 51 T50_29 = true := (okL_c (o50_28 hB)).2.2
theorem o50_30 (hB : BytesOK) : okL 50 53 T50_30 = true := (okL_c (o50_29 hB)).2.2
theorem o50_31 (hB : BytesOK) : okL 50 54 T50_31 = true := (okL_c (o50_30 hB)).2.2
theorem o50_32 (hB : BytesOK) : okL 50 55 T50_32 = true := (okL_c (o50_31 hB)).2.2
theorem o50_33 (hB : BytesOK) : okL 50 58 T50_33 = true := (okL_c (o50_32 hB)).2.2
theorem o50_34 (hB : BytesOK) : okL 50 59 T50_34 = true := (okL_c (o50_33 hB)).2.2
theorem o50_35 (hB : BytesOK) : okL 50 62 T50_35 = true := (okL_c (o50_34 hB)).2.2
theorem o50_36 (hB : BytesOK) : okL 50 64 T50_36 = true := (okL_c (o50_35 hB)).2.2
theorem o50_37 (hB : BytesOK) : okL 50 65 T50_37 = true := (okL_c (o50_36 hB)).2.2
theorem o50_38 (hB : BytesOK) : okL 50 66 T50_38 = true := (okL_c (o50_37 hB)).2.2
theorem o50_39 (hB : BytesOK) : okL 50 69 T50_39 = true := (okL_c (o50_38 hB)).2.2
theorem o50_40 (hB : BytesOK) : okL 50 70 T50_40 = true := (okL_c (o50_39 hB)).2.2
theorem o50_41 (hB : BytesOK) : okL 50 73 T50_41 = true := (okL_c (o50_40 hB)).2.2
theorem o50_42 (hB : BytesOK) : okL 50 75 T50_42 = true := (okL_c (o50_41 hB)).2.2
theorem o50_43 (hB : BytesOK) : okL 50 76 T50_43 = true := (okL_c (o50_42 hB)).2.2
theorem o50_44 (hB : BytesOK) : okL 50 77 T50_44 = true := (okL_c (o50_43 hB)).2.2
theorem o50_45 (hB : BytesOK) : okL 50 78 T50_45 = true := (okL_c (o50_44 hB)).2.2
theorem o50_46 (hB : BytesOK) : okL 50 81 T50_46 = true := (okL_c (o50_45 hB)).2.2
theorem o50_47 (hB : BytesOK) : okL 50 82 T50_47 = true := (okL_c (o50_46 hB)).2.2
theorem o50_48 (hB : BytesOK) : okL 50 85 T50_48 = true := (okL_c (o50_47 hB)).2.2
theorem o50_49 (hB : BytesOK) : okL 50 86 T50_49 = true := (okL_c (o50_48 hB)).2.2
theorem o50_50 (hB : BytesOK) : okL 50 87 T50_50 = true := (okL_c (o50_49 hB)).2.2
theorem o50_51 (hB : BytesOK) : okL 50 90 T50_51 = true := (okL_c (o50_50 hB)).2.2
theorem o50_52 (hB : BytesOK) : okL 50 93 T50_52 = true := (okL_c (o50_51 hB)).2.2
theorem o50_53 (hB : BytesOK) : okL 50 94 T50_53 = true := (okL_c (o50_52 hB)).2.2
theorem ml50 : mml 50 = 5 := by decide +kernel
theorem mr50 : mret 50 = some .boolean := by decide +kernel
theorem mg50 : kGood 50 = true := by decide +kernel

def T53_11 : List Tok := []
def T53_10 : List Tok := (.ireturn, 1, 0, 0) :: T53_11
def T53_9 : List Tok := (.iconst 0, 1, 0, 0) :: T53_10
def T53_8 : List Tok := (.goto 4, 3, 0, 0) :: T53_9
def T53_7 : List Tok := (.iconst 1, 1, 0, 0) :: T53_8
def T53_6 : List Tok := (.ifCond .eq 7, 3, 0, 0) :: T53_7
def T53_5 : List Tok := (.iand, 1, 0, 0) :: T53_6
def T53_4 : List Tok := (.iconst 1, 1, 0, 0) :: T53_5
def T53_3 : List Tok := (.ishr, 1, 0, 0) :: T53_4
def T53_2 : List Tok := (.iload_n 1, 1, 0, 0) :: T53_3
def T53_1 : List Tok := (.getfield 85, 3, 201, 141) :: T53_2
def T53_0 : List Tok := (.aload_n 0, 1, 0, 0) :: T53_1
theorem o53_0 (hB : BytesOK) : okL 53 0 T53_0 = true := by
  have h := hB.1 53
  rw [show tk 53 = T53_0 from by decide +kernel] at h
  exact h
theorem o53_1 (hB : BytesOK) : okL 53 1 T53_1 = true := (okL_c (o53_0 hB)).2.2
theorem o53_2 (hB : BytesOK) : okL 53 4 T53_2 = true := (okL_c (o53_1 hB)).2.2
theorem o53_3 (hB : BytesOK) : okL 53 5 T53_3 = true := (okL_c (o53_2 hB)).2.2
theorem o53_4 (hB : BytesOK) : okL 53 6 T53_4 = true := (okL_c (o53_3 hB)).2.2
theorem o53_5 (hB : BytesOK) : okL 53 7 T53_5 = true := (okL_c (o53_4 hB)).2.2
theorem o53_6 (hB : BytesOK) : okL 53 8 T53_6 = true := (okL_c (o53_5 hB)).2.2
theorem o53_7 (hB : BytesOK) : okL 53 11 T53_7 = true := (okL_c (o53_6 hB)).2.2
theorem o53_8 (hB : BytesOK) : okL 53 12 T53_8 = true := (okL_c (o53_7 hB)).2.2
theorem o53_9 (hB : BytesOK) : okL 53 15 T53_9 = true := (okL_c (o53_8 hB)).2.2
theorem o53_10 (hB : BytesOK) : okL 53 16 T53_10 = true := (okL_c (o53_9 hB)).2.2
theorem ml53 : mml 53 = 2 := by decide +kernel
theorem mr53 : mret 53 = some .boolean := by decide +kernel
theorem mg53 : kGood 53 = true := by decide +kernel

def T54_11 : List Tok := []
def T54_10 : List Tok := (.ireturn, 1, 0, 0) :: T54_11
def T54_9 : List Tok := (.iconst 0, 1, 0, 0) :: T54_10
def T54_8 : List Tok := (.goto 4, 3, 0, 0) :: T54_9
def T54_7 : List Tok := (.iconst 1, 1, 0, 0) :: T54_8
def T54_6 : List Tok := (.ifCond .eq 7, 3, 0, 0) :: T54_7
def T54_5 : List Tok := (.iand, 1, 0, 0) :: T54_6
def T54_4 : List Tok := (.iconst 1, 1, 0, 0) :: T54_5
def T54_3 : List Tok := (.ishr, 1, 0, 0) :: T54_4
def T54_2 : List Tok := (.iload_n 1, 1, 0, 0) :: T54_3
def T54_1 : List Tok := (.getfield 88, 3, 202, 142) :: T54_2
def T54_0 : List Tok := (.aload_n 0, 1, 0, 0) :: T54_1
theorem o54_0 (hB : BytesOK) : okL 54 0 T54_0 = true := by
  have h := hB.1 54
  rw [show tk 54 = T54_0 from by decide +kernel] at h
  exact h
theorem o54_1 (hB : BytesOK) : okL 54 1 T54_1 = true := (okL_c (o54_0 hB)).2.2
theorem o54_2 (hB : BytesOK) : okL 54 4 T54_2 = true := (okL_c (o54_1 hB)).2.2
theorem o54_3 (hB : BytesOK) : okL 54 5 T54_3 = true := (okL_c (o54_2 hB)).2.2
theorem o54_4 (hB : BytesOK) : okL 54 6 T54_4 = true := (okL_c (o54_3 hB)).2.2
theorem o54_5 (hB : BytesOK) : okL 54 7 T54_5 = true := (okL_c (o54_4 hB)).2.2
theorem o54_6 (hB : BytesOK) : okL 54 8 T54_6 = true := (okL_c (o54_5 hB)).2.2
theorem o54_7 (hB : BytesOK) : okL 54 11 T54_7 = true := (okL_c (o54_6 hB)).2.2
theorem o54_8 (hB : BytesOK) : okL 54 12 T54_8 = true := (okL_c (o54_7 hB)).2.2
theorem o54_9 (hB : BytesOK) : okL 54 15 T54_9 = true := (okL_c (o54_8 hB)).2.2
theorem o54_10 (hB : BytesOK) : okL 54 16 T54_10 = true := (okL_c (o54_9 hB)).2.2
theorem ml54 : mml 54 = 2 := by decide +kernel
theorem mr54 : mret 54 = some .boolean := by decide +kernel
theorem mg54 : kGood 54 = true := by decide +kernel

def T55_16 : List Tok := []
def T55_15 : List Tok := (.ireturn, 1, 0, 0) :: T55_16
def T55_14 : List Tok := (.iconst 1, 1, 0, 0) :: T55_15
def T55_13 : List Tok := (.putfield 85, 3, 201, 141) :: T55_14
def T55_12 : List Tok := (.ior, 1, 0, 0) :: T55_13
def T55_11 : List Tok := (.ishl, 1, 0, 0) :: T55_12
def T55_10 : List Tok := (.iload_n 1, 1, 0, 0) :: T55_11
def T55_9 : List Tok := (.iconst 1, 1, 0, 0) :: T55_10
def T55_8 : List Tok := (.getfield 85, 3, 201, 141) :: T55_9
def T55_7 : List Tok := (.dup, 1, 0, 0) :: T55_8
def T55_6 : List Tok := (.aload_n 0, 1, 0, 0) :: T55_7
def T55_5 : List Tok := (.ireturn, 1, 0, 0) :: T55_6
def T55_4 : List Tok := (.iconst 0, 1, 0, 0) :: T55_5
def T55_3 : List Tok := (.ifCond .eq 5, 3, 0, 0) :: T55_4
def T55_2 : List Tok := (.invokevirtual 91, 3, 53, 638) :: T55_3
def T55_1 : List Tok := (.iload_n 1, 1, 0, 0) :: T55_2
def T55_0 : List Tok := (.aload_n 0, 1, 0, 0) :: T55_1
theorem o55_0 (hB : BytesOK) : okL 55 0 T55_0 = true := by
  have h := hB.1 55
  rw [show tk 55 = T55_0 from by decide +kernel] at h
  exact h
theorem o55_1 (hB : BytesOK) : okL 55 1 T55_1 = true := (okL_c (o55_0 hB)).2.2
theorem o55_2 (hB : BytesOK) : okL 55 2 T55_2 = true := (okL_c (o55_1 hB)).2.2
theorem o55_3 (hB : BytesOK) : okL 55 5 T55_3 = true := (okL_c (o55_2 hB)).2.2
theorem o55_4 (hB : BytesOK) : okL 55 8 T55_4 = true := (okL_c (o55_3 hB)).2.2
theorem o55_5 (hB : BytesOK) : okL 55 9 T55_5 = true := (okL_c (o55_4 hB)).2.2
theorem o55_6 (hB : BytesOK) : okL 55 10 T55_6 = true := (okL_c (o55_5 hB)).2.2
theorem o55_7 (hB : BytesOK) : okL 55 11 T55_7 = true := (okL_c (o55_6 hB)).2.2
theorem o55_8 (hB : BytesOK) : okL 55 12 T55_8 = true := (okL_c (o55_7 hB)).2.2
theorem o55_9 (hB : BytesOK) : okL 55 15 T55_9 = true := (okL_c (o55_8 hB)).2.2
theorem o55_10 (hB : BytesOK) : okL 55 16 T55_10 = true := (okL_c (o55_9 hB)).2.2
theorem o55_11 (hB : BytesOK) : okL 55 17 T55_11 = true := (okL_c (o55_10 hB)).2.2
theorem o55_12 (hB : BytesOK) : okL 55 18 T55_12 = true := (okL_c (o55_11 hB)).2.2
theorem o55_13 (hB : BytesOK) : okL 55 19 T55_13 = true := (okL_c (o55_12 hB)).2.2
theorem o55_14 (hB : BytesOK) : okL 55 22 T55_14 = true := (okL_c (o55_13 hB)).2.2
theorem o55_15 (hB : BytesOK) : okL 55 23 T55_15 = true := (okL_c (o55_14 hB)).2.2
theorem ml55 : mml 55 = 2 := by decide +kernel
theorem mr55 : mret 55 = some .int := by decide +kernel
theorem mg55 : kGood 55 = true := by decide +kernel

def T56_22 : List Tok := []
def T56_21 : List Tok := (.ireturn, 1, 0, 0) :: T56_22
def T56_20 : List Tok := (.iconst 1, 1, 0, 0) :: T56_21
def T56_19 : List Tok := (.putfield 88, 3, 202, 142) :: T56_20
def T56_18 : List Tok := (.ior, 1, 0, 0) :: T56_19
def T56_17 : List Tok := (.ishl, 1, 0, 0) :: T56_18
def T56_16 : List Tok := (.iload_n 1, 1, 0, 0) :: T56_17
def T56_15 : List Tok := (.iconst 1, 1, 0, 0) :: T56_16
def T56_14 : List Tok := (.getfield 88, 3, 202, 142) :: T56_15
def T56_13 : List Tok := (.dup, 1, 0, 0) :: T56_14
def T56_12 : List Tok := (.aload_n 0, 1, 0, 0) :: T56_13
def T56_11 : List Tok := (.ireturn, 1, 0, 0) :: T56_12
def T56_10 : List Tok := (.iconst 0, 1, 0, 0) :: T56_11
def T56_9 : List Tok := (.ifCond .eq 5, 3, 0, 0) :: T56_10
def T56_8 : List Tok := (.invokevirtual 94, 3, 54, 646) :: T56_9
def T56_7 : List Tok := (.iload_n 1, 1, 0, 0) :: T56_8
def T56_6 : List Tok := (.aload_n 0, 1, 0, 0) :: T56_7
def T56_5 : List Tok := (.ireturn, 1, 0, 0) :: T56_6
def T56_4 : List Tok := (.bipush (-4), 2, 0, 0) :: T56_5
def T56_3 : List Tok := (.ifCond .ne 6, 3, 0, 0) :: T56_4
def T56_2 : List Tok := (.invokevirtual 91, 3, 53, 638) :: T56_3
def T56_1 : List Tok := (.iload_n 1, 1, 0, 0) :: T56_2
def T56_0 : List Tok := (.aload_n 0, 1, 0, 0) :: T56_1
theorem o56_0 (hB : BytesOK) : okL 56 0 T56_0 = true := by
  have h := hB.1 56
  rw [show tk 56 = T56_0 from by decide +kernel] at h
  exact h
theorem o56_1 (hB : BytesOK) : okL 56 1 T56_1 = true := (okL_c (o56_0 hB)).2.2
theorem o56_2 (hB : BytesOK) : okL 56 2 T56_2 = true := (okL_c (o56_1 hB)).2.2
theorem o56_3 (hB : BytesOK) : okL 56 5 T56_3 = true := (okL_c (o56_2 hB)).2.2
theorem o56_4 (hB : BytesOK) : okL 56 8 T56_4 = true := (okL_c (o56_3 hB)).2.2
theorem o56_5 (hB : BytesOK) : okL 56 10 T56_5 = true := (okL_c (o56_4 hB)).2.2
theorem o56_6 (hB : BytesOK) : okL 56 11 T56_6 = true := (okL_c (o56_5 hB)).2.2
theorem o56_7 (hB : BytesOK) : okL 56 12 T56_7 = true := (okL_c (o56_6 hB)).2.2
theorem o56_8 (hB : BytesOK) : okL 56 13 T56_8 = true := (okL_c (o56_7 hB)).2.2
theorem o56_9 (hB : BytesOK) : okL 56 16 T56_9 = true := (okL_c (o56_8 hB)).2.2
theorem o56_10 (hB : BytesOK) : okL 56 19 T56_10 = true := (okL_c (o56_9 hB)).2.2
theorem o56_11 (hB : BytesOK) : okL 56 20 T56_11 = true := (okL_c (o56_10 hB)).2.2
theorem o56_12 (hB : BytesOK) : okL 56 21 T56_12 = true := (okL_c (o56_11 hB)).2.2
theorem o56_13 (hB : BytesOK) : okL 56 22 T56_13 = true := (okL_c (o56_12 hB)).2.2
theorem o56_14 (hB : BytesOK) : okL 56 23 T56_14 = true := (okL_c (o56_13 hB)).2.2
theorem o56_15 (hB : BytesOK) : okL 56 26 T56_15 = true := (okL_c (o56_14 hB)).2.2
theorem o56_16 (hB : BytesOK) : okL 56 27 T56_16 = true := (okL_c (o56_15 hB)).2.2
theorem o56_17 (hB : BytesOK) : okL 56 28 T56_17 = true := (okL_c (o56_16 hB)).2.2
theorem o56_18 (hB : BytesOK) : okL 56 29 T56_18 = true := (okL_c (o56_17 hB)).2.2
theorem o56_19 (hB : BytesOK) : okL 56 30 T56_19 = true := (okL_c (o56_18 hB)).2.2
theorem o56_20 (hB : BytesOK) : okL 56 33 T56_20 = true := (okL_c (o56_19 hB)).2.2
theorem o56_21 (hB : BytesOK) : okL 56 34 T56_21 = true := (okL_c (o56_20 hB)).2.2
theorem ml56 : mml 56 = 2 := by decide +kernel
theorem mr56 : mret 56 = some .int := by decide +kernel
theorem mg56 : kGood 56 = true := by decide +kernel

def T57_88 : List Tok := []
def T57_87 : List Tok := (.return_, 1, 0, 0) :: T57_88
def T57_86 : List Tok := (.invokestatic 97, 3, 178, 300000) :: T57_87
def T57_85 : List Tok := (.getfield 42, 3, 210, 151) :: T57_86
def T57_84 : List Tok := (.aload_n 0, 1, 0, 0) :: T57_85
def T57_83 : List Tok := (.getfield 42, 3, 210, 151) :: T57_84
def T57_82 : List Tok := (.aload_n 1, 1, 0, 0) :: T57_83
def T57_81 : List Tok := (.invokestatic 97, 3, 178, 300000) :: T57_82
def T57_80 : List Tok := (.getfield 39, 3, 209, 150) :: T57_81
def T57_79 : List Tok := (.aload_n 0, 1, 0, 0) :: T57_80
def T57_78 : List Tok := (.getfield 39, 3, 209, 150) :: T57_79
def T57_77 : List Tok := (.aload_n 1, 1, 0, 0) :: T57_78
def T57_76 : List Tok := (.putfield 82, 3, 208, 149) :: T57_77
def T57_75 : List Tok := (.getfield 82, 3, 208, 149) :: T57_76
def T57_74 : List Tok := (.aload_n 1, 1, 0, 0) :: T57_75
def T57_73 : List Tok := (.aload_n 0, 1, 0, 0) :: T57_74
def T57_72 : List Tok := (.putfield 75, 3, 207, 148) :: T57_73
def T57_71 : List Tok := (.getfield 75, 3, 207, 148) :: T57_72
def T57_70 : List Tok := (.aload_n 1, 1, 0, 0) :: T57_71
def T57_69 : List Tok := (.aload_n 0, 1, 0, 0) :: T57_70
def T57_68 : List Tok := (.invokestatic 97, 3, 178, 300000) :: T57_69
def T57_67 : List Tok := (.getfield 36, 3, 206, 147) :: T57_68
def T57_66 : List Tok := (.aload_n 0, 1, 0, 0) :: T57_67
def T57_65 : List Tok := (.getfield 36, 3, 206, 147) :: T57_66
def T57_64 : List Tok := (.aload_n 1, 1, 0, 0) :: T57_65
def T57_63 : List Tok := (.invokestatic 97, 3, 178, 300000) :: T57_64
def T57_62 : List Tok := (.getfield 33, 3, 205, 146) :: T57_63
def T57_61 : List Tok := (.aload_n 0, 1, 0, 0) :: T57_62
def T57_60 : List Tok := (.getfield 33, 3, 205, 146) :: T57_61
def T57_59 : List Tok := (.aload_n 1, 1, 0, 0) :: T57_60
def T57_58 : List Tok := (.putfield 65, 3, 204, 145) :: T57_59
def T57_57 : List Tok := (.getfield 65, 3, 204, 145) :: T57_58
def T57_56 : List Tok := (.aload_n 1, 1, 0, 0) :: T57_57
def T57_55 : List Tok := (.aload_n 0, 1, 0, 0) :: T57_56
def T57_54 : List Tok := (.putfield 59, 3, 203, 143) :: T57_55
def T57_53 : List Tok := (.getfield 59, 3, 203, 143) :: T57_54
def T57_52 : List Tok := (.aload_n 1, 1, 0, 0) :: T57_53
def T57_51 : List Tok := (.aload_n 0, 1, 0, 0) :: T57_52
def T57_50 : List Tok := (.putfield 88, 3, 202, 142) :: T57_51
def T57_49 : List Tok := (.getfield 88, 3, 202, 142) :: T57_50
def T57_48 : List Tok := (.aload_n 1, 1, 0, 0) :: T57_49
def T57_47 : List Tok := (.aload_n 0, 1, 0, 0) :: T57_48
def T57_46 : List Tok := (.putfield 85, 3, 201, 141) :: T57_47
def T57_45 : List Tok := (.getfield 85, 3, 201, 141) :: T57_46
def T57_44 : List Tok := (.aload_n 1, 1, 0, 0) :: T57_45
def T57_43 : List Tok := (.aload_n 0, 1, 0, 0) :: T57_44
def T57_42 : List Tok := (.invokestatic 97, 3, 178, 300000) :: T57_43
def T57_41 : List Tok := (.getfield 30, 3, 200, 139) :: T57_42
def T57_40 : List Tok := (.aload_n 0, 1, 0, 0) :: T57_41
def T57_39 : List Tok := (.getfield 30, 3, 200, 139) :: T57_40
def T57_38 : List Tok := (.aload_n 1, 1, 0, 0) :: T57_39
def T57_37 : List Tok := (.invokestatic 97, 3, 178, 300000) :: T57_38
def T57_36 : List Tok := (.getfield 27, 3, 199, 136) :: T57_37
def T57_35 : List Tok := (.aload_n 0, 1, 0, 0) :: T57_36
def T57_34 : List Tok := (.getfield 27, 3, 199, 136) :: T57_35
def T57_33 : List Tok := (.aload_n 1, 1, 0, 0) :: T57_34
def T57_32 : List Tok := (.invokestatic 97, 3, 178, 300000) :: T57_33
def T57_31 : List Tok := (.getfield 24, 3, 198, 135) :: T57_32
def T57_30 : List Tok := (.aload_n 0, 1, 0, 0) :: T57_31
def T57_29 : List Tok := (.getfield 24, 3, 198, 135) :: T57_30
def T57_28 : List Tok := (.aload_n 1, 1, 0, 0) :: T57_29
def T57_27 : List Tok := (.invokestatic 97, 3, 178, 300000) :: T57_28
def T57_26 : List Tok := (.getfield 21, 3, 197, 134) :: T57_27
def T57_25 : List Tok := (.aload_n 0, 1, 0, 0) :: T57_26
def T57_24 : List Tok := (.getfield 21, 3, 197, 134) :: T57_25
def T57_23 : List Tok := (.aload_n 1, 1, 0, 0) :: T57_24
def T57_22 : List Tok := (.invokestatic 97, 3, 178, 300000) :: T57_23
def T57_21 : List Tok := (.getfield 18, 3, 196, 132) :: T57_22
def T57_20 : List Tok := (.aload_n 0, 1, 0, 0) :: T57_21
def T57_19 : List Tok := (.getfield 18, 3, 196, 132) :: T57_20
def T57_18 : List Tok := (.aload_n 1, 1, 0, 0) :: T57_19
def T57_17 : List Tok := (.invokestatic 97, 3, 178, 300000) :: T57_18
def T57_16 : List Tok := (.getfield 15, 3, 195, 129) :: T57_17
def T57_15 : List Tok := (.aload_n 0, 1, 0, 0) :: T57_16
def T57_14 : List Tok := (.getfield 15, 3, 195, 129) :: T57_15
def T57_13 : List Tok := (.aload_n 1, 1, 0, 0) :: T57_14
def T57_12 : List Tok := (.invokestatic 97, 3, 178, 300000) :: T57_13
def T57_11 : List Tok := (.getfield 9, 3, 194, 127) :: T57_12
def T57_10 : List Tok := (.aload_n 0, 1, 0, 0) :: T57_11
def T57_9 : List Tok := (.getfield 9, 3, 194, 127) :: T57_10
def T57_8 : List Tok := (.aload_n 1, 1, 0, 0) :: T57_9
def T57_7 : List Tok := (.putfield 45, 3, 193, 124) :: T57_8
def T57_6 : List Tok := (.getfield 45, 3, 193, 124) :: T57_7
def T57_5 : List Tok := (.aload_n 1, 1, 0, 0) :: T57_6
def T57_4 : List Tok := (.aload_n 0, 1, 0, 0) :: T57_5
def T57_3 : List Tok := (.putfield 62, 3, 192, 122) :: T57_4
def T57_2 : List Tok := (.getfield 62, 3, 192, 122) :: T57_3
def T57_1 : List Tok := (.aload_n 1, 1, 0, 0) :: T57_2
def T57_0 : List Tok := (.aload_n 0, 1, 0, 0) :: T57_1
theorem o57_0 (hB : BytesOK) : okL 57 0 T57_0 = true := by
  have h := hB.1 57
  rw [show tk 57 = T57_0 from by decide +kernel] at h
  exact h
theorem o57_1 (hB : BytesOK) : okL 57 1 T57_1 = true := (okL_c (o57_0 hB)).2.2
theorem o57_2 (hB : BytesOK) : okL 57 2 T57_2 = true := (okL_c (o57_1 hB)).2.2
theorem o57_3 (hB : BytesOK) : okL 57 5 T57_3 = true := (okL_c (o57_2 hB)).2.2
theorem o57_4 (hB : BytesOK) : okL 57 8 T57_4 = true := (okL_c (o57_3 hB)).2.2
theorem o57_5 (hB : BytesOK) : okL 57 9 T57_5 = true := (okL_c (o57_4 hB)).2.2
theorem o57_6 (hB : BytesOK) : okL 57 10 T57_6 = true := (okL_c (o57_5 hB)).2.2
theorem o57_7 (hB : BytesOK) : okL 57 13 T57_7 = true := (okL_c (o57_6 hB)).2.2
theorem o57_8 (hB : BytesOK) : okL 57 16 T57_8 = true := (okL_c (o57_7 hB)).2.2
theorem o57_9 (hB : BytesOK) : okL 57 17 T57_9 = true := (okL_c (o57_8 hB)).2.2
theorem o57_10 (hB : BytesOK) : okL 57 20 T57_10 = true := (okL_c (o57_9 hB)).2.2
theorem o57_11 (hB : BytesOK) : okL 57 21 T57_11 = true := (okL_c (o57_10 hB)).2.2
theorem o57_12 (hB : BytesOK) : okL 57 24 T57_12 = true := (okL_c (o57_11 hB)).2.2
theorem o57_13 (hB : BytesOK) : okL 57 27 T57_13 = true := (okL_c (o57_12 hB)).2.2
theorem o57_14 (hB : BytesOK) : okL 57 28 T57_14 = true := (okL_c (o57_13 hB)).2.2
theorem o57_15 (hB : BytesOK) : okL 57 31 T57_15 = true := (okL_c (o57_14 hB)).2.2
theorem o57_16 (hB : BytesOK) : okL 57 32 T57_16 = true := (okL_c (o57_15 hB)).2.2
theorem o57_17 (hB : BytesOK) : okL 57 35 T57_17 = true := (okL_c (o57_16 hB)).2.2
theorem o57_18 (hB : BytesOK) : okL 57 38 T57_18 = true := (okL_c (o57_17 hB)).2.2
theorem o57_19 (hB : BytesOK) : okL 57 39 T57_19 = true := (okL_c (o57_18 hB)).2.2
theorem o57_20 (hB : BytesOK) : okL 57 42 T57_20 = true := (okL_c (o57_19 hB)).2.2
theorem o57_21 (hB : BytesOK) : okL 57 43 T57_21 = true := (okL_c (o57_20 hB)).2.2
theorem o57_22 (hB : BytesOK) : okL 57 46 T57_22 = true := (okL_c (o57_21 hB)).2.2
theorem o57_23 (hB : BytesOK) : okL 57 49 T57_23 = true := (okL_c (o57_22 hB)).2.2
theorem o57_24 (hB : BytesOK) : okL 57 50 T57_24 = true := (okL_c (o57_23 hB)).2.2
theorem o57_25 (hB : BytesOK) : okL 57 53 T57_25 = true := (okL_c (o57_24 hB)).2.2
theorem o57_26 (hB : BytesOK) : okL 57 54 T57_26 = true := (okL_c (o57_25 hB)).2.2
theorem o57_27 (hB : BytesOK) : okL 57 57 T57_27 = true := (okL_c (o57_26 hB)).2.2
theorem o57_28 (hB : BytesOK) : okL 57 60 T57_28 = true := (okL_c (o57_27 hB)).2.2
theorem o57_29 (hB : BytesOK) : okL 57 61 T57_29 = true := (okL_c (o57_28 hB)).2.2
theorem o57_30 (hB : BytesOK) : okL 57 64 T57_30 = true := (okL_c (o57_29 hB)).2.2
theorem o57_31 (hB : BytesOK) : okL 57 65 T57_31 = true := (okL_c (o57_30 hB)).2.2
theorem o57_32 (hB : BytesOK) : okL 57 68 T57_32 = true := (okL_c (o57_31 hB)).2.2
theorem o57_33 (hB : BytesOK) : okL 57 71 T57_33 = true := (okL_c (o57_32 hB)).2.2
theorem o57_34 (hB : BytesOK) : okL 57 72 T57_34 = true := (okL_c (o57_33 hB)).2.2
theorem o57_35 (hB : BytesOK) : okL 57 75 T57_35 = true := (okL_c (o57_34 hB)).2.2
theorem o57_36 (hB : BytesOK) : okL 57 76 T57_36 = true := (okL_c (o57_35 hB)).2.2
theorem o57_37 (hB : BytesOK) : okL 57 79 T57_37 = true := (okL_c (o57_36 hB)).2.2
theorem o57_38 (hB : BytesOK) : okL 57 82 T57_38 = true := (okL_c (o57_37 hB)).2.2
theorem o57_39 (hB : BytesOK) : okL 57 83 T57_39 = true := (okL_c (o57_38 hB)).2.2
theorem o57_40 (hB : BytesOK) : okL 57 86 T57_40 = true := (okL_c (o57_39 hB)).2.2
theorem o57_41 (hB : BytesOK) : okL 57 87 T57_41 = true := (okL_c (o57_40 hB)).2.2
theorem o57_42 (hB : BytesOK) : okL 57 90 T57_42 = true := (okL_c (o57_41 hB)).2.2
theorem o57_43 (hB : BytesOK) : okL 57 93 T57_43 = true := (okL_c (o57_42 hB)).2.2
theorem o57_44 (hB : BytesOK) : okL 57 94 T57_44 = true := (okL_c (o57_43 hB)).2.2
theorem o57_45 (hB : BytesOK) : okL 57 95 T57_45 = true := (okL_c (o57_44 hB)).2.2
theorem o57_46 (hB : BytesOK) : okL 57 98 T57_46 = true := (okL_c (o57_45 hB)).2.2
theorem o57_47 (hB : BytesOK) : okL 57 101 T57_47 = true := (okL_c (o57_46 hB)).2.2
theorem o57_48 (hB : BytesOK) : okL 57 102 T57_48 = true := (okL_c (o57_47 hB)).2.2
theorem o57_49 (hB : BytesOK) : okL 57 103 T57_49 = true := (okL_c (o57_48 hB)).2.2
theorem o57_50 (hB : BytesOK) : okL 57 106 T57_50 = true := (okL_c (o57_49 hB)).2.2
theorem o57_51 (hB : BytesOK) : okL 57 109 T57_51 = true := (okL_c (o57_50 hB)).2.2
theorem o57_52 (hB : BytesOK) : okL 57 110 T57_52 = true := (okL_c (o57_51 hB)).2.2
theorem o57_53 (hB : BytesOK) : okL 57 111 T57_53 = true := (okL_c (o57_52 hB)).2.2
theorem o57_54 (hB : BytesOK) : okL 57 114 T57_54 = true := (okL_c (o57_53 hB)).2.2
theorem o57_55 (hB : BytesOK) : okL 57 117 T57_55 = true := (okL_c (o57_54 hB)).2.2
theorem o57_56 (hB : BytesOK) : okL 57 118 T57_56 = true := (okL_c (o57_55 hB)).2.2
theorem o57_57 (hB : BytesOK) : okL 57 119 T57_57 = true := (okL_c (o57_56 hB)).2.2
theorem o57_58 (hB : BytesOK) : okL 57 122 T57_58 = true := (okL_c (o57_57 hB)).2.2
theorem o57_59 (hB : BytesOK) : okL 57 125 T57_59 = true := (okL_c (o57_58 hB)).2.2
theorem o57_60 (hB : BytesOK) : okL 57 126 T57_60 = true := (okL_c (o57_59 hB)).2.2
theorem o57_61 (hB : BytesOK) : okL 57 129 T57_61 = true := (okL_c (o57_60 hB)).2.2
theorem o57_62 (hB : BytesOK) : okL 57 130 T57_62 = true := (okL_c (o57_61 hB)).2.2
theorem o57_63 (hB : BytesOK) : okL 57 133 T57_63 = true := (okL_c (o57_62 hB)).2.2
theorem o57_64 (hB : BytesOK) : okL 57 136 T57_64 = true := (okL_c (o57_63 hB)).2.2
theorem o57_65 (hB : BytesOK) : okL 57 137 T57_65 = true := (okL_c (o57_64 hB)).2.2
theorem o57_66 (hB : BytesOK) : okL 57 140 T57_66 = true := (okL_c (o57_65 hB)).2.2
theorem o57_67 (hB : BytesOK) : okL 57 141 T57_67 = true := (okL_c (o57_66 hB)).2.2
theorem o57_68 (hB : BytesOK) : okL 57 144 T57_68 = true := (okL_c (o57_67 hB)).2.2
theorem o57_69 (hB : BytesOK) : okL 57 147 T57_69 = true := (okL_c (o57_68 hB)).2.2
theorem o57_70 (hB : BytesOK) : okL 57 148 T57_70 = true := (okL_c (o57_69 hB)).2.2
theorem o57_71 (hB : BytesOK) : okL 57 149 T57_71 = true := (okL_c (o57_70 hB)).2.2
theorem o57_72 (hB : BytesOK) : okL 57 152 T57_72 = true := (okL_c (o57_71 hB)).2.2
theorem o57_73 (hB : BytesOK) : okL 57 155 T57_73 = true := (okL_c (o57_72 hB)).2.2
theorem o57_74 (hB : BytesOK) : okL 57 156 T57_74 = true := (okL_c (o57_73 hB)).2.2
theorem o57_75 (hB : BytesOK) : okL 57 157 T57_75 = true := (okL_c (o57_74 hB)).2.2
theorem o57_76 (hB : BytesOK) : okL 57 160 T57_76 = true := (okL_c (o57_75 hB)).2.2
theorem o57_77 (hB : BytesOK) : okL 57 163 T57_77 = true := (okL_c (o57_76 hB)).2.2
theorem o57_78 (hB : BytesOK) : okL 57 164 T57_78 = true := (okL_c (o57_77 hB)).2.2
theorem o57_79 (hB : BytesOK) : okL 57 167 T57_79 = true := (okL_c (o57_78 hB)).2.2
theorem o57_80 (hB : BytesOK) : okL 57 168 T57_80 = true := (okL_c (o57_79 hB)).2.2
theorem o57_81 (hB : BytesOK) : okL 57 171 T57_81 = true := (okL_c (o57_80 hB)).2.2
theorem o57_82 (hB : BytesOK) : okL 57 174 T57_82 = true := (okL_c (o57_81 hB)).2.2
theorem o57_83 (hB : BytesOK) : okL 57 175 T57_83 = true := (okL_c (o57_82 hB)).2.2
theorem o57_84 (hB : BytesOK) : okL 57 178 T57_84 = true := (okL_c (o57_83 hB)).2.2
theorem o57_85 (hB : BytesOK) : okL 57 179 T57_85 = true := (okL_c (o57_84 hB)).2.2
theorem o57_86 (hB : BytesOK) : okL 57 182 T57_86 = true := (okL_c (o57_85 hB)).2.2
theorem o57_87 (hB : BytesOK) : okL 57 185 T57_87 = true := (okL_c (o57_86 hB)).2.2
theorem ml57 : mml 57 = 2 := by decide +kernel
theorem mr57 : mret 57 = none := by decide +kernel
theorem mg57 : kGood 57 = true := by decide +kernel

def T68_52 : List Tok := []
def T68_51 : List Tok := (.ireturn, 1, 0, 0) :: T68_52
def T68_50 : List Tok := (.iconst 1, 1, 0, 0) :: T68_51
def T68_49 : List Tok := (.goto (-20), 3, 0, 0) :: T68_50
def T68_48 : List Tok := (.iinc 4 1, 3, 0, 0) :: T68_49
def T68_47 : List Tok := (.lastore, 1, 0, 0) :: T68_48
def T68_46 : List Tok := (.lconst 0, 1, 0, 0) :: T68_47
def T68_45 : List Tok := (.iload 4, 2, 0, 0) :: T68_46
def T68_44 : List Tok := (.aaload, 1, 1, 0) :: T68_45
def T68_43 : List Tok := (.iload_n 1, 1, 0, 0) :: T68_44
def T68_42 : List Tok := (.getfield 20, 3, 322, 462) :: T68_43
def T68_41 : List Tok := (.aload_n 0, 1, 0, 0) :: T68_42
def T68_40 : List Tok := (.if_icmp .ge 19, 3, 0, 0) :: T68_41
def T68_39 : List Tok := (.bipush 40, 2, 0, 0) :: T68_40
def T68_38 : List Tok := (.iload 4, 2, 0, 0) :: T68_39
def T68_37 : List Tok := (.istore 4, 2, 0, 0) :: T68_38
def T68_36 : List Tok := (.iconst 0, 1, 0, 0) :: T68_37
def T68_35 : List Tok := (.iastore, 1, 0, 0) :: T68_36
def T68_34 : List Tok := (.iload_n 3, 1, 0, 0) :: T68_35
def T68_33 : List Tok := (.goto 4, 3, 0, 0) :: T68_34
def T68_32 : List Tok := (.iconst 0, 1, 0, 0) :: T68_33
def T68_31 : List Tok := (.ifCond .ge 7, 3, 0, 0) :: T68_32
def T68_30 : List Tok := (.iload_n 2, 1, 0, 0) :: T68_31
def T68_29 : List Tok := (.iload_n 1, 1, 0, 0) :: T68_30
def T68_28 : List Tok := (.getfield 15, 3, 321, 461) :: T68_29
def T68_27 : List Tok := (.aload_n 0, 1, 0, 0) :: T68_28
def T68_26 : List Tok := (.iastore, 1, 0, 0) :: T68_27
def T68_25 : List Tok := (.iload_n 2, 1, 0, 0) :: T68_26
def T68_24 : List Tok := (.iload_n 1, 1, 0, 0) :: T68_25
def T68_23 : List Tok := (.getfield 9, 3, 320, 460) :: T68_24
def T68_22 : List Tok := (.aload_n 0, 1, 0, 0) :: T68_23
def T68_21 : List Tok := (.ireturn, 1, 0, 0) :: T68_22
def T68_20 : List Tok := (.bipush (-14), 2, 0, 0) :: T68_21
def T68_19 : List Tok := (.ifCond .ge 6, 3, 0, 0) :: T68_20
def T68_18 : List Tok := (.iload_n 3, 1, 0, 0) :: T68_19
def T68_17 : List Tok := (.ifCond .lt 10, 3, 0, 0) :: T68_18
def T68_16 : List Tok := (.iload_n 2, 1, 0, 0) :: T68_17
def T68_15 : List Tok := (.ireturn, 1, 0, 0) :: T68_16
def T68_14 : List Tok := (.iconst (-1), 1, 0, 0) :: T68_15
def T68_13 : List Tok := (.if_icmp .le 5, 3, 0, 0) :: T68_14
def T68_12 : List Tok := (.bipush 40, 2, 0, 0) :: T68_13
def T68_11 : List Tok := (.iload_n 3, 1, 0, 0) :: T68_12
def T68_10 : List Tok := (.ifCond .lt 11, 3, 0, 0) :: T68_11
def T68_9 : List Tok := (.iload_n 2, 1, 0, 0) :: T68_10
def T68_8 : List Tok := (.if_icmp .gt 13, 3, 0, 0) :: T68_9
def T68_7 : List Tok := (.iconst 3, 1, 0, 0) :: T68_8
def T68_6 : List Tok := (.iload_n 2, 1, 0, 0) :: T68_7
def T68_5 : List Tok := (.if_icmp .lt 18, 3, 0, 0) :: T68_6
def T68_4 : List Tok := (.iconst (-1), 1, 0, 0) :: T68_5
def T68_3 : List Tok := (.iload_n 2, 1, 0, 0) :: T68_4
def T68_2 : List Tok := (.ifCond .eq 23, 3, 0, 0) :: T68_3
def T68_1 : List Tok := (.invokestatic 23, 3, 175, 300000) :: T68_2
def T68_0 : List Tok := (.iload_n 1, 1, 0, 0) :: T68_1
theorem o68_0 (hB : BytesOK) : okL 68 0 T68_0 = true := by
  have h := hB.1 68
  rw [show tk 68 = T68_0 from by decide +kernel] at h
  exact h
theorem o68_1 (hB : BytesOK) : okL 68 1 T68_1 = true := (okL_c (o68_0 hB)).2.2
theorem o68_2 (hB : BytesOK) : okL 68 4 T68_2 = true := (okL_c (o68_1 hB)).2.2
theorem o68_3 (hB : BytesOK) : okL 68 7 T68_3 = true := (okL_c (o68_2 hB)).2.2
theorem o68_4 (hB : BytesOK) : okL 68 8 T68_4 = true := (okL_c (o68_3 hB)).2.2
theorem o68_5 (hB : BytesOK) : okL 68 9 T68_5 = true := (okL_c (o68_4 hB)).2.2
theorem o68_6 (hB : BytesOK) : okL 68 12 T68_6 = true := (okL_c (o68_5 hB)).2.2
theorem o68_7 (hB : BytesOK) : okL 68 13 T68_7 = true := (okL_c (o68_6 hB)).2.2
theorem o68_8 (hB : BytesOK) : okL 68 14 T68_8 = true := (okL_c (o68_7 hB)).2.2
theorem o68_9 (hB : BytesOK) : okL 68 17 T68_9 = true := (okL_c (o68_8 hB)).2.2
theorem o68_10 (hB : BytesOK) : okL 68 18 T68_10 = true := (okL_c (o68_9 hB)).2.2
theorem o68_11 (hB : BytesOK) : okL 68 21 T68_11 = true := (okL_c (o68_10 hB)).2.2
theorem o68_12 (hB : BytesOK) : okL 68 22 T68_12 = true := (okL_c (o68_11 hB)).2.2
theorem o68_13 (hB : BytesOK) : okL 68 24 T68_13 = true := (okL_c (o68_12 hB)).2.2
theorem o68_14 (hB : BytesOK) : okL 68 27 T68_14 = true := (okL_c (o68_13 hB)).2.2
theorem o68_15 (hB : BytesOK) : okL 68 28 T68_15 = true := (okL_c (o68_14 hB)).2.2
theorem o68_16 (hB : BytesOK) : okL 68 29 T68_16 = true := (okL_c (o68_15 hB)).2.2
theorem o68_17 (hB : BytesOK) : okL 68 30 T68_17 = true := (okL_c (o68_16 hB)).2.2
theorem o68_18 (hB : BytesOK) : okL 68 33 T68_18 = true := (okL_c (o68_17 hB)).2.2
theorem o68_19 (hB : BytesOK) : okL 68 34 T68_19 = true := (okL_c (o68_18 hB)).2.2
theorem o68_20 (hB : BytesOK) : okL 68 37 T68_20 = true := (okL_c (o68_19 hB)).2.2
theorem o68_21 (hB : BytesOK) : okL 68 39 T68_21 = true := (okL_c (o68_20 hB)).2.2
theorem o68_22 (hB : BytesOK) : okL 68 40 T68_22 = true := (okL_c (o68_21 hB)).2.2
theorem o68_23 (hB : BytesOK) : okL 68 41 T68_23 = true := (okL_c (o68_22 hB)).2.2
theorem o68_24 (hB : BytesOK) : okL 68 44 T68_24 = true := (okL_c (o68_23 hB)).2.2
theorem o68_25 (hB : BytesOK) : okL 68 45 T68_25 = true := (okL_c (o68_24 hB)).2.2
theorem o68_26 (hB : BytesOK) : okL 68 46 T68_26 = true := (okL_c (o68_25 hB)).2.2
theorem o68_27 (hB : BytesOK) : okL 68 47 T68_27 = true := (okL_c (o68_26 hB)).2.2
theorem o68_28 (hB : BytesOK) : okL 68 48 T68_28 = true := (okL_c (o68_27 hB)).2.2
theorem o68_29 (hB : BytesOK) : okL 68 51 T68_29 = true := (okL_c (o68_28 hB)).2.2
theorem o68_30 (hB : BytesOK) : okL 68 52 T68_30 = true := (okL_c (o68_29 hB)).2.2
theorem o68_31 (hB : BytesOK) : okL 68 53 T68_31 = true := (okL_c (o68_30 hB)).2.2
theorem o68_32 (hB : BytesOK) : okL 68 56 T68_32 = true := (okL_c (o68_31 hB)).2.2
theorem o68_33 (hB : BytesOK) : okL 68 57 T68_33 = true := (okL_c (o68_32 hB)).2.2
theorem o68_34 (hB : BytesOK) : okL 68 60 T68_34 = true := (okL_c (o68_33 hB)).2.2
theorem o68_35 (hB : BytesOK) : okL 68 61 T68_35 = true := (okL_c (o68_34 hB)).2.2
theorem o68_36 (hB : BytesOK) : okL 68 62 T68_36 = true := (okL_c (o68_35 hB)).2.2
theorem o68_37 (hB : BytesOK) : okL 68 63 T68_37 = true := (okL_c (o68_36 hB)).2.2
theorem o68_38 (hB : BytesOK) : okL 68 65 T68_38 = true := (okL_c (o68_37 hB)).2.2
theorem o68_39 (hB : BytesOK) : okL 68 67 T68_39 = true := (okL_c (o68_38 hB)).2.2
theorem o68_40 (hB : BytesOK) : okL 68 69 T68_40 = true := (okL_c (o68_39 hB)).2.2
theorem o68_41 (hB : BytesOK) : okL 68 72 T68_41 = true := (okL_c (o68_40 hB)).2.2
theorem o68_42 (hB : BytesOK) : okL 68 73 T68_42 = true := (okL_c (o68_41 hB)).2.2
theorem o68_43 (hB : BytesOK) : okL 68 76 T68_43 = true := (okL_c (o68_42 hB)).2.2
theorem o68_44 (hB : BytesOK) : okL 68 77 T68_44 = true := (okL_c (o68_43 hB)).2.2
theorem o68_45 (hB : BytesOK) : okL 68 78 T68_45 = true := (okL_c (o68_44 hB)).2.2
theorem o68_46 (hB : BytesOK) : okL 68 80 T68_46 = true := (okL_c (o68_45 hB)).2.2
theorem o68_47 (hB : BytesOK) : okL 68 81 T68_47 = true := (okL_c (o68_46 hB)).2.2
theorem o68_48 (hB : BytesOK) : okL 68 82 T68_48 = true := (okL_c (o68_47 hB)).2.2
theorem o68_49 (hB : BytesOK) : okL 68 85 T68_49 = true := (okL_c (o68_48 hB)).2.2
theorem o68_50 (hB : BytesOK) : okL 68 88 T68_50 = true := (okL_c (o68_49 hB)).2.2
theorem o68_51 (hB : BytesOK) : okL 68 89 T68_51 = true := (okL_c (o68_50 hB)).2.2
theorem ml68 : mml 68 = 5 := by decide +kernel
theorem mr68 : mret 68 = some .int := by decide +kernel
theorem mg68 : kGood 68 = true := by decide +kernel

def T69_36 : List Tok := []
def T69_35 : List Tok := (.ireturn, 1, 0, 0) :: T69_36
def T69_34 : List Tok := (.iconst 1, 1, 0, 0) :: T69_35
def T69_33 : List Tok := (.lastore, 1, 0, 0) :: T69_34
def T69_32 : List Tok := (.invokestatic 27, 3, 70, 1183) :: T69_33
def T69_31 : List Tok := (.iload_n 3, 1, 0, 0) :: T69_32
def T69_30 : List Tok := (.iaload, 1, 0, 0) :: T69_31
def T69_29 : List Tok := (.iload_n 1, 1, 0, 0) :: T69_30
def T69_28 : List Tok := (.getfield 9, 3, 320, 460) :: T69_29
def T69_27 : List Tok := (.aload_n 0, 1, 0, 0) :: T69_28
def T69_26 : List Tok := (.iload_n 2, 1, 0, 0) :: T69_27
def T69_25 : List Tok := (.aaload, 1, 1, 0) :: T69_26
def T69_24 : List Tok := (.iload_n 1, 1, 0, 0) :: T69_25
def T69_23 : List Tok := (.getfield 20, 3, 322, 462) :: T69_24
def T69_22 : List Tok := (.aload_n 0, 1, 0, 0) :: T69_23
def T69_21 : List Tok := (.ireturn, 1, 0, 0) :: T69_22
def T69_20 : List Tok := (.bipush (-12), 2, 0, 0) :: T69_21
def T69_19 : List Tok := (.if_icmp .lt 6, 3, 0, 0) :: T69_20
def T69_18 : List Tok := (.iaload, 1, 0, 0) :: T69_19
def T69_17 : List Tok := (.iload_n 1, 1, 0, 0) :: T69_18
def T69_16 : List Tok := (.getfield 15, 3, 321, 461) :: T69_17
def T69_15 : List Tok := (.aload_n 0, 1, 0, 0) :: T69_16
def T69_14 : List Tok := (.iload_n 2, 1, 0, 0) :: T69_15
def T69_13 : List Tok := (.ifCond .lt 13, 3, 0, 0) :: T69_14
def T69_12 : List Tok := (.iload_n 2, 1, 0, 0) :: T69_13
def T69_11 : List Tok := (.ireturn, 1, 0, 0) :: T69_12
def T69_10 : List Tok := (.bipush (-11), 2, 0, 0) :: T69_11
def T69_9 : List Tok := (.ifCond .ge 6, 3, 0, 0) :: T69_10
def T69_8 : List Tok := (.iaload, 1, 0, 0) :: T69_9
def T69_7 : List Tok := (.iload_n 1, 1, 0, 0) :: T69_8
def T69_6 : List Tok := (.getfield 9, 3, 320, 460) :: T69_7
def T69_5 : List Tok := (.aload_n 0, 1, 0, 0) :: T69_6
def T69_4 : List Tok := (.ireturn, 1, 0, 0) :: T69_5
def T69_3 : List Tok := (.iconst (-1), 1, 0, 0) :: T69_4
def T69_2 : List Tok := (.ifCond .ne 5, 3, 0, 0) :: T69_3
def T69_1 : List Tok := (.invokestatic 23, 3, 175, 300000) :: T69_2
def T69_0 : List Tok := (.iload_n 1, 1, 0, 0) :: T69_1
theorem o69_0 (hB : BytesOK) : okL 69 0 T69_0 = true := by
  have h := hB.1 69
  rw [show tk 69 = T69_0 from by decide +kernel] at h
  exact h
theorem o69_1 (hB : BytesOK) : okL 69 1 T69_1 = true := (okL_c (o69_0 hB)).2.2
theorem o69_2 (hB : BytesOK) : okL 69 4 T69_2 = true := (okL_c (o69_1 hB)).2.2
theorem o69_3 (hB : BytesOK) : okL 69 7 T69_3 = true := (okL_c (o69_2 hB)).2.2
theorem o69_4 (hB : BytesOK) : okL 69 8 T69_4 = true := (okL_c (o69_3 hB)).2.2
theorem o69_5 (hB : BytesOK) : okL 69 9 T69_5 = true := (okL_c (o69_4 hB)).2.2
theorem o69_6 (hB : BytesOK) : okL 69 10 T69_6 = true := (okL_c (o69_5 hB)).2.2
theorem o69_7 (hB : BytesOK) : okL 69 13 T69_7 = true := (okL_c (o69_6 hB)).2.2
theorem o69_8 (hB : BytesOK) : okL 69 14 T69_8 = true := (okL_c (o69_7 hB)).2.2
theorem o69_9 (hB : BytesOK) : okL 69 15 T69_9 = true := (okL_c (o69_8 hB)).2.2
theorem o69_10 (hB : BytesOK) : okL 69 18 T69_10 = true := (okL_c (o69_9 hB)).2.2
theorem o69_11 (hB : BytesOK) : okL 69 20 T69_11 = true := (okL_c (o69_10 hB)).2.2
theorem o69_12 (hB : BytesOK) : okL 69 21 T69_12 = true := (okL_c (o69_11 hB)).2.2
theorem o69_13 (hB : BytesOK) : okL 69 22 T69_13 = true := (okL_c (o69_12 hB)).2.2
theorem o69_14 (hB : BytesOK) : okL 69 25 T69_14 = true := (okL_c (o69_13 hB)).2.2
theorem o69_15 (hB : BytesOK) : okL 69 26 T69_15 = true := (okL_c (o69_14 hB)).2.2
theorem o69_16 (hB : BytesOK) : okL 69 27 T69_16 = true := (okL_c (o69_15 hB)).2.2
theorem o69_17 (hB : BytesOK) : okL 69 30 T69_17 = true := (okL_c (o69_16 hB)).2.2
theorem o69_18 (hB : BytesOK) : okL 69 31 T69_18 = true := (okL_c (o69_17 hB)).2.2
theorem o69_19 (hB : BytesOK) : okL 69 32 T69_19 = true := (okL_c (o69_18 hB)).2.2
theorem o69_20 (hB : BytesOK) : okL 69 35 T69_20 = true := (okL_c (o69_19 hB)).2.2
theorem o69_21 (hB : BytesOK) : okL 69 37 T69_21 = true := (okL_c (o69_20 hB)).2.2
theorem o69_22 (hB : BytesOK) : okL 69 38 T69_22 = true := (okL_c (o69_21 hB)).2.2
theorem o69_23 (hB : BytesOK) : okL 69 39 T69_23 = true := (okL_c (o69_22 hB)).2.2
theorem o69_24 (hB : BytesOK) : okL 69 42 T69_24 = true := (okL_c (o69_23 hB)).2.2
theorem o69_25 (hB : BytesOK) : okL 69 43 T69_25 = true := (okL_c (o69_24 hB)).2.2
theorem o69_26 (hB : BytesOK) : okL 69 44 T69_26 = true := (okL_c (o69_25 hB)).2.2
theorem o69_27 (hB : BytesOK) : okL 69 45 T69_27 = true := (okL_c (o69_26 hB)).2.2
theorem o69_28 (hB : BytesOK) : okL 69 46 T69_28 = true := (okL_c (o69_27 hB)).2.2
theorem o69_29 (hB : BytesOK) : okL 69 49 T69_29 = true := (okL_c (o69_28 hB)).2.2
theorem o69_30 (hB : BytesOK) : okL 69 50 T69_30 = true := (okL_c (o69_29 hB)).2.2
theorem o69_31 (hB : BytesOK) : okL 69 51 T69_31 = true := (okL_c (o69_30 hB)).2.2
theorem o69_32 (hB : BytesOK) : okL 69 52 T69_32 = true := (okL_c (o69_31 hB)).2.2
theorem o69_33 (hB : BytesOK) : okL 69 55 T69_33 = true := (okL_c (o69_32 hB)).2.2
theorem o69_34 (hB : BytesOK) : okL 69 56 T69_34 = true := (okL_c (o69_33 hB)).2.2
theorem o69_35 (hB : BytesOK) : okL 69 57 T69_35 = true := (okL_c (o69_34 hB)).2.2
theorem ml69 : mml 69 = 4 := by decide +kernel
theorem mr69 : mret 69 = some .int := by decide +kernel
theorem mg69 : kGood 69 = true := by decide +kernel

def T70_16 : List Tok := []
def T70_15 : List Tok := (.lreturn, 1, 0, 0) :: T70_16
def T70_14 : List Tok := (.i2l, 1, 0, 0) :: T70_15
def T70_13 : List Tok := (.iload_n 1, 1, 0, 0) :: T70_14
def T70_12 : List Tok := (.goto 5, 3, 0, 0) :: T70_13
def T70_11 : List Tok := (.i2l, 1, 0, 0) :: T70_12
def T70_10 : List Tok := (.i2s, 1, 0, 0) :: T70_11
def T70_9 : List Tok := (.iload_n 1, 1, 0, 0) :: T70_10
def T70_8 : List Tok := (.if_icmp .ne 9, 3, 0, 0) :: T70_9
def T70_7 : List Tok := (.iconst 1, 1, 0, 0) :: T70_8
def T70_6 : List Tok := (.iload_n 0, 1, 0, 0) :: T70_7
def T70_5 : List Tok := (.goto 16, 3, 0, 0) :: T70_6
def T70_4 : List Tok := (.i2l, 1, 0, 0) :: T70_5
def T70_3 : List Tok := (.i2b, 1, 0, 0) :: T70_4
def T70_2 : List Tok := (.iload_n 1, 1, 0, 0) :: T70_3
def T70_1 : List Tok := (.ifCond .ne 9, 3, 0, 0) :: T70_2
def T70_0 : List Tok := (.iload_n 0, 1, 0, 0) :: T70_1
theorem o70_0 (hB : BytesOK) : okL 70 0 T70_0 = true := by
  have h := hB.1 70
  rw [show tk 70 = T70_0 from by decide +kernel] at h
  exact h
theorem o70_1 (hB : BytesOK) : okL 70 1 T70_1 = true := (okL_c (o70_0 hB)).2.2
theorem o70_2 (hB : BytesOK) : okL 70 4 T70_2 = true := (okL_c (o70_1 hB)).2.2
theorem o70_3 (hB : BytesOK) : okL 70 5 T70_3 = true := (okL_c (o70_2 hB)).2.2
theorem o70_4 (hB : BytesOK) : okL 70 6 T70_4 = true := (okL_c (o70_3 hB)).2.2
theorem o70_5 (hB : BytesOK) : okL 70 7 T70_5 = true := (okL_c (o70_4 hB)).2.2
theorem o70_6 (hB : BytesOK) : okL 70 10 T70_6 = true := (okL_c (o70_5 hB)).2.2
theorem o70_7 (hB : BytesOK) : okL 70 11 T70_7 = true := (okL_c (o70_6 hB)).2.2
theorem o70_8 (hB : BytesOK) : okL 70 12 T70_8 = true := (okL_c (o70_7 hB)).2.2
theorem o70_9 (hB : BytesOK) : okL 70 15 T70_9 = true := (okL_c (o70_8 hB)).2.2
theorem o70_10 (hB : BytesOK) : okL 70 16 T70_10 = true := (okL_c (o70_9 hB)).2.2
theorem o70_11 (hB : BytesOK) : okL 70 17 T70_11 = true := (okL_c (o70_10 hB)).2.2
theorem o70_12 (hB : BytesOK) : okL 70 18 T70_12 = true := (okL_c (o70_11 hB)).2.2
theorem o70_13 (hB : BytesOK) : okL 70 21 T70_13 = true := (okL_c (o70_12 hB)).2.2
theorem o70_14 (hB : BytesOK) : okL 70 22 T70_14 = true := (okL_c (o70_13 hB)).2.2
theorem o70_15 (hB : BytesOK) : okL 70 23 T70_15 = true := (okL_c (o70_14 hB)).2.2
theorem ml70 : mml 70 = 2 := by decide +kernel
theorem mr70 : mret 70 = some .long := by decide +kernel
theorem mg70 : kGood 70 = true := by decide +kernel

def T72_62 : List Tok := []
def T72_61 : List Tok := (.ireturn, 1, 0, 0) :: T72_62
def T72_60 : List Tok := (.iload 5, 2, 0, 0) :: T72_61
def T72_59 : List Tok := (.goto (-65), 3, 0, 0) :: T72_60
def T72_58 : List Tok := (.iinc 6 1, 3, 0, 0) :: T72_59
def T72_57 : List Tok := (.iinc 5 1, 3, 0, 0) :: T72_58
def T72_56 : List Tok := (.ifCond .lt 6, 3, 0, 0) :: T72_57
def T72_55 : List Tok := (.iload 7, 2, 0, 0) :: T72_56
def T72_54 : List Tok := (.ireturn, 1, 0, 0) :: T72_55
def T72_53 : List Tok := (.bipush (-2), 2, 0, 0) :: T72_54
def T72_52 : List Tok := (.if_icmp .ne 6, 3, 0, 0) :: T72_53
def T72_51 : List Tok := (.bipush (-2), 2, 0, 0) :: T72_52
def T72_50 : List Tok := (.iload 7, 2, 0, 0) :: T72_51
def T72_49 : List Tok := (.istore 7, 2, 0, 0) :: T72_50
def T72_48 : List Tok := (.invokestatic 31, 3, 73, 1203) :: T72_49
def T72_47 : List Tok := (.aload 4, 2, 0, 0) :: T72_48
def T72_46 : List Tok := (.laload, 1, 0, 0) :: T72_47
def T72_45 : List Tok := (.iadd, 1, 0, 0) :: T72_46
def T72_44 : List Tok := (.iload 6, 2, 0, 0) :: T72_45
def T72_43 : List Tok := (.iload_n 2, 1, 0, 0) :: T72_44
def T72_42 : List Tok := (.aaload, 1, 1, 0) :: T72_43
def T72_41 : List Tok := (.iload_n 1, 1, 0, 0) :: T72_42
def T72_40 : List Tok := (.getfield 20, 3, 322, 462) :: T72_41
def T72_39 : List Tok := (.aload_n 0, 1, 0, 0) :: T72_40
def T72_38 : List Tok := (.ireturn, 1, 0, 0) :: T72_39
def T72_37 : List Tok := (.bipush (-12), 2, 0, 0) :: T72_38
def T72_36 : List Tok := (.if_icmp .lt 6, 3, 0, 0) :: T72_37
def T72_35 : List Tok := (.isub, 1, 0, 0) :: T72_36
def T72_34 : List Tok := (.iload 6, 2, 0, 0) :: T72_35
def T72_33 : List Tok := (.iaload, 1, 0, 0) :: T72_34
def T72_32 : List Tok := (.iload_n 1, 1, 0, 0) :: T72_33
def T72_31 : List Tok := (.getfield 15, 3, 321, 461) :: T72_32
def T72_30 : List Tok := (.aload_n 0, 1, 0, 0) :: T72_31
def T72_29 : List Tok := (.iload_n 2, 1, 0, 0) :: T72_30
def T72_28 : List Tok := (.ifCond .lt 16, 3, 0, 0) :: T72_29
def T72_27 : List Tok := (.iload_n 2, 1, 0, 0) :: T72_28
def T72_26 : List Tok := (.if_icmp .ge 65, 3, 0, 0) :: T72_27
def T72_25 : List Tok := (.iload_n 3, 1, 0, 0) :: T72_26
def T72_24 : List Tok := (.iload 6, 2, 0, 0) :: T72_25
def T72_23 : List Tok := (.istore 6, 2, 0, 0) :: T72_24
def T72_22 : List Tok := (.iconst 0, 1, 0, 0) :: T72_23
def T72_21 : List Tok := (.istore 5, 2, 0, 0) :: T72_22
def T72_20 : List Tok := (.iconst 0, 1, 0, 0) :: T72_21
def T72_19 : List Tok := (.ireturn, 1, 0, 0) :: T72_20
def T72_18 : List Tok := (.bipush (-13), 2, 0, 0) :: T72_19
def T72_17 : List Tok := (.if_icmp .eq 6, 3, 0, 0) :: T72_18
def T72_16 : List Tok := (.iconst 3, 1, 0, 0) :: T72_17
def T72_15 : List Tok := (.iaload, 1, 0, 0) :: T72_16
def T72_14 : List Tok := (.iload_n 1, 1, 0, 0) :: T72_15
def T72_13 : List Tok := (.getfield 9, 3, 320, 460) :: T72_14
def T72_12 : List Tok := (.aload_n 0, 1, 0, 0) :: T72_13
def T72_11 : List Tok := (.ireturn, 1, 0, 0) :: T72_12
def T72_10 : List Tok := (.bipush (-11), 2, 0, 0) :: T72_11
def T72_9 : List Tok := (.ifCond .ge 6, 3, 0, 0) :: T72_10
def T72_8 : List Tok := (.iaload, 1, 0, 0) :: T72_9
def T72_7 : List Tok := (.iload_n 1, 1, 0, 0) :: T72_8
def T72_6 : List Tok := (.getfield 9, 3, 320, 460) :: T72_7
def T72_5 : List Tok := (.aload_n 0, 1, 0, 0) :: T72_6
def T72_4 : List Tok := (.ireturn, 1, 0, 0) :: T72_5
def T72_3 : List Tok := (.iconst (-1), 1, 0, 0) :: T72_4
def T72_2 : List Tok := (.ifCond .ne 5, 3, 0, 0) :: T72_3
def T72_1 : List Tok := (.invokestatic 23, 3, 175, 300000) :: T72_2
def T72_0 : List Tok := (.iload_n 1, 1, 0, 0) :: T72_1
theorem o72_0 (hB : BytesOK) : okL 72 0 T72_0 = true := by
  have h := hB.1 72
  rw [show tk 72 = T72_0 from by decide +kernel] at h
  exact h
theorem o72_1 (hB : BytesOK) : okL 72 1 T72_1 = true := (okL_c (o72_0 hB)).2.2
theorem o72_2 (hB : BytesOK) : okL 72 4 T72_2 = true := (okL_c (o72_1 hB)).2.2
theorem o72_3 (hB : BytesOK) : okL 72 7 T72_3 = true := (okL_c (o72_2 hB)).2.2
theorem o72_4 (hB : BytesOK) : okL 72 8 T72_4 = true := (okL_c (o72_3 hB)).2.2
theorem o72_5 (hB : BytesOK) : okL 72 9 T72_5 = true := (okL_c (o72_4 hB)).2.2
theorem o72_6 (hB : BytesOK) : okL 72 10 T72_6 = true := (okL_c (o72_5 hB)).2.2
theorem o72_7 (hB : BytesOK) : okL 72 13 T72_7 = true := (okL_c (o72_6 hB)).2.2
theorem o72_8 (hB : BytesOK) : okL 72 14 T72_8 = true := (okL_c (o72_7 hB)).2.2
theorem o72_9 (hB : BytesOK) : okL 72 15 T72_9 = true := (okL_c (o72_8 hB)).2.2
theorem o72_10 (hB : BytesOK) : okL 72 18 T72_10 = true := (okL_c (o72_9 hB)).2.2
theorem o72_11 (hB : BytesOK) : okL 72 20 T72_11 = true := (okL_c (o72_10 hB)).2.2
theorem o72_12 (hB : BytesOK) : okL 72 21 T72_12 = true := (okL_c (o72_11 hB)).2.2
theorem o72_13 (hB : BytesOK) : okL 72 22 T72_13 = true := (okL_c (o72_12 hB)).2.2
theorem o72_14 (hB : BytesOK) : okL 72 25 T72_14 = true := (okL_c (o72_13 hB)).2.2
theorem o72_15 (hB : BytesOK) : okL 72 26 T72_15 = true := (okL_c (o72_14 hB)).2.2
theorem o72_16 (hB : BytesOK) : okL 72 27 T72_16 = true := (okL_c (o72_15 hB)).2.2
theorem o72_17 (hB : BytesOK) : okL 72 28 T72_17 = true := (okL_c (o72_16 hB)).2.2
theorem o72_18 (hB : BytesOK) : okL 72 31 T72_18 = true := (okL_c (o72_17 hB)).2.2
theorem o72_19 (hB : BytesOK) : okL 72 33 T72_19 = true := (okL_c (o72_18 hB)).2.2
theorem o72_20 (hB : BytesOK) : okL 72 34 T72_20 = true := (okL_c (o72_19 hB)).2.2
theorem o72_21 (hB : BytesOK) : okL 72 35 T72_21 = true := (okL_c (o72_20 hB)).2.2
theorem o72_22 (hB : BytesOK) : okL 72 37 T72_22 = true := (okL_c (o72_21 hB)).2.2
theorem o72_23 (hB : BytesOK) : okL 72 38 T72_23 = true := (okL_c (o72_22 hB)).2.2
theorem o72_24 (hB : BytesOK) : okL 72 40 T72_24 = true := (okL_c (o72_23 hB)).2.2
theorem o72_25 (hB : BytesOK) : okL 72 42 T72_25 = true := (okL_c (o72_24 hB)).2.2
theorem o72_26 (hB : BytesOK) : okL 72 43 T72_26 = true := (okL_c (o72_25 hB)).2.2
theorem o72_27 (hB : BytesOK) : okL 72 46 T72_27 = true := (okL_c (o72_26 hB)).2.2
theorem o72_28 (hB : BytesOK) : okL 72 47 T72_28 = true := (okL_c (o72_27 hB)).2.2
theorem o72_29 (hB : BytesOK) : okL 72 50 T72_29 = true := (okL_c (o72_28 hB)).2.2
theorem o72_30 (hB : BytesOK) : okL 72 51 T72_30 = true := (okL_c (o72_29 hB)).2.2
theorem o72_31 (hB : BytesOK) : okL 72 52 T72_31 = true := (okL_c (o72_30 hB)).2.2
theorem o72_32 (hB : BytesOK) : okL 72 55 T72_32 = true := (okL_c (o72_31 hB)).2.2
theorem o72_33 (hB : BytesOK) : okL 72 56 T72_33 = true := (okL_c (o72_32 hB)).2.2
theorem o72_34 (hB : BytesOK) : okL 72 57 T72_34 = true := (okL_c (o72_33 hB)).2.2
theorem o72_35 (hB : BytesOK) : okL 72 59 T72_35 = true := (okL_c (o72_34 hB)).2.2
theorem o72_36 (hB : BytesOK) : okL 72 60 T72_36 = true := (okL_c (o72_35 hB)).2.2
theorem o72_37 (hB : BytesOK) : okL 72 63 T72_37 = true := (okL_c (o72_36 hB)).2.2
theorem o72_38 (hB : BytesOK) : okL 72 65 T72_38 = true := (okL_c (o72_37 hB)).2.2
theorem o72_39 (hB : BytesOK) : okL 72 66 T72_39 = true := (okL_c (o72_38 hB)).2.2
theorem o72_40 (hB : BytesOK) : okL 72 67 T72_40 = true := (okL_c (o72_39 hB)).2.2
theorem o72_41 (hB : BytesOK) : okL 72 70 T72_41 = true := (okL_c (o72_40 hB)).2.2
theorem o72_42 (hB : BytesOK) : okL 72 71 T72_42 = true := (okL_c (o72_41 hB)).2.2
theorem o72_43 (hB : BytesOK) : okL 72 72 T72_43 = true := (okL_c (o72_42 hB)).2.2
theorem o72_44 (hB : BytesOK) : okL 72 73 T72_44 = true := (okL_c (o72_43 hB)).2.2
theorem o72_45 (hB : BytesOK) : okL 72 75 T72_45 = true := (okL_c (o72_44 hB)).2.2
theorem o72_46 (hB : BytesOK) : okL 72 76 T72_46 = true := (okL_c (o72_45 hB)).2.2
theorem o72_47 (hB : BytesOK) : okL 72 77 T72_47 = true := (okL_c (o72_46 hB)).2.2
theorem o72_48 (hB : BytesOK) : okL 72 79 T72_48 = true := (okL_c (o72_47 hB)).2.2
theorem o72_49 (hB : BytesOK) : okL 72 82 T72_49 = true := (okL_c (o72_48 hB)).2.2
theorem o72_50 (hB : BytesOK) : okL 72 84 T72_50 = true := (okL_c (o72_49 hB)).2.2
theorem o72_51 (hB : BytesOK) : okL 72 86 T72_51 = true := (okL_c (o72_50 hB)).2.2
theorem o72_52 (hB : BytesOK) : okL 72 88 T72_52 = true := (okL_c (o72_51 hB)).2.2
theorem o72_53 (hB : BytesOK) : okL 72 91 T72_53 = true := (okL_c (o72_52 hB)).2.2
theorem o72_54 (hB : BytesOK) : okL 72 93 T72_54 = true := (okL_c (o72_53 hB)).2.2
theorem o72_55 (hB : BytesOK) : okL 72 94 T72_55 = true := (okL_c (o72_54 hB)).2.2
theorem o72_56 (hB : BytesOK) : okL 72 96 T72_56 = true := (okL_c (o72_55 hB)).2.2
theorem o72_57 (hB : BytesOK) : okL 72 99 T72_57 = true := (okL_c (o72_56 hB)).2.2
theorem o72_58 (hB : BytesOK) : okL 72 102 T72_58 = true := (okL_c (o72_57 hB)).2.2
theorem o72_59 (hB : BytesOK) : okL 72 105 T72_59 = true := (okL_c (o72_58 hB)).2.2
theorem o72_60 (hB : BytesOK) : okL 72 108 T72_60 = true := (okL_c (o72_59 hB)).2.2
theorem o72_61 (hB : BytesOK) : okL 72 110 T72_61 = true := (okL_c (o72_60 hB)).2.2
theorem ml72 : mml 72 = 8 := by decide +kernel
theorem mr72 : mret 72 = some .int := by decide +kernel
theorem mg72 : kGood 72 = true := by decide +kernel

def T73_41 : List Tok := []
def T73_40 : List Tok := (.ireturn, 1, 0, 0) :: T73_41
def T73_39 : List Tok := (.invokevirtual 45, 3, 46, 1211) :: T73_40
def T73_38 : List Tok := (.iconst (-1), 1, 0, 0) :: T73_39
def T73_37 : List Tok := (.iload_n 3, 1, 0, 0) :: T73_38
def T73_36 : List Tok := (.l2i, 1, 0, 0) :: T73_37
def T73_35 : List Tok := (.lrem, 1, 0, 0) :: T73_36
def T73_34 : List Tok := (.ldc2_w 43, 3, 13, 1210) :: T73_35
def T73_33 : List Tok := (.ldiv, 1, 0, 0) :: T73_34
def T73_32 : List Tok := (.ldc2_w 41, 3, 12, 1209) :: T73_33
def T73_31 : List Tok := (.lload_n 0, 1, 0, 0) :: T73_32
def T73_30 : List Tok := (.l2i, 1, 0, 0) :: T73_31
def T73_29 : List Tok := (.lrem, 1, 0, 0) :: T73_30
def T73_28 : List Tok := (.ldc2_w 41, 3, 12, 1209) :: T73_29
def T73_27 : List Tok := (.lload_n 0, 1, 0, 0) :: T73_28
def T73_26 : List Tok := (.aload_n 2, 1, 0, 0) :: T73_27
def T73_25 : List Tok := (.istore_n 3, 1, 0, 0) :: T73_26
def T73_24 : List Tok := (.iadd, 1, 0, 0) :: T73_25
def T73_23 : List Tok := (.l2i, 1, 0, 0) :: T73_24
def T73_22 : List Tok := (.ldiv, 1, 0, 0) :: T73_23
def T73_21 : List Tok := (.ldc2_w 35, 3, 9, 1206) :: T73_22
def T73_20 : List Tok := (.lload_n 0, 1, 0, 0) :: T73_21
def T73_19 : List Tok := (.imul, 1, 0, 0) :: T73_20
def T73_18 : List Tok := (.sipush 1000, 3, 0, 0) :: T73_19
def T73_17 : List Tok := (.l2i, 1, 0, 0) :: T73_18
def T73_16 : List Tok := (.lrem, 1, 0, 0) :: T73_17
def T73_15 : List Tok := (.ldc2_w 41, 3, 12, 1209) :: T73_16
def T73_14 : List Tok := (.ldiv, 1, 0, 0) :: T73_15
def T73_13 : List Tok := (.ldc2_w 39, 3, 11, 1208) :: T73_14
def T73_12 : List Tok := (.lload_n 0, 1, 0, 0) :: T73_13
def T73_11 : List Tok := (.ireturn, 1, 0, 0) :: T73_12
def T73_10 : List Tok := (.iconst (-1), 1, 0, 0) :: T73_11
def T73_9 : List Tok := (.ifCond .lt 5, 3, 0, 0) :: T73_10
def T73_8 : List Tok := (.lcmp, 1, 0, 0) :: T73_9
def T73_7 : List Tok := (.ldc2_w 37, 3, 10, 1207) :: T73_8
def T73_6 : List Tok := (.ldiv, 1, 0, 0) :: T73_7
def T73_5 : List Tok := (.ldc2_w 35, 3, 9, 1206) :: T73_6
def T73_4 : List Tok := (.lload_n 0, 1, 0, 0) :: T73_5
def T73_3 : List Tok := (.ifCond .lt 15, 3, 0, 0) :: T73_4
def T73_2 : List Tok := (.lcmp, 1, 0, 0) :: T73_3
def T73_1 : List Tok := (.lconst 0, 1, 0, 0) :: T73_2
def T73_0 : List Tok := (.lload_n 0, 1, 0, 0) :: T73_1
theorem o73_0 (hB : BytesOK) : okL 73 0 T73_0 = true := by
  have h := hB.1 73
  rw [show tk 73 = T73_0 from by decide +kernel] at h
  exact h
theorem o73_1 (hB : BytesOK) : okL 73 1 T73_1 = true := (okL_c (o73_0 hB)).2.2
theorem o73_2 (hB : BytesOK) : okL 73 2 T73_2 = true := (okL_c (o73_1 hB)).2.2
theorem o73_3 (hB : BytesOK) : okL 73 3 T73_3 = true := (okL_c (o73_2 hB)).2.2
theorem o73_4 (hB : BytesOK) : okL 73 6 T73_4 = true := (okL_c (o73_3 hB)).2.2
theorem o73_5 (hB : BytesOK) : okL 73 7 T73_5 = true := (okL_c (o73_4 hB)).2.2
theorem o73_6 (hB : BytesOK) : okL 73 10 T73_6 = true := (okL_c (o73_5 hB)).2.2
theorem o73_7 (hB : BytesOK) : okL 73 11 T73_7 = true := (okL_c (o73_6 hB)).2.2
theorem o73_8 (hB : BytesOK) : okL 73 14 T73_8 = true := (okL_c (o73_7 hB)).2.2
theorem o73_9 (hB : BytesOK) : okL 73 15 T73_9 = true := (okL_c (o73_8 hB)).2.2
theorem o73_10 (hB : BytesOK) : okL 73 18 T73_10 = true := (okL_c (o73_9 hB)).2.2
theorem o73_11 (hB : BytesOK) : okL 73 19 T73_11 = true := (okL_c (o73_10 hB)).2.2
theorem o73_12 (hB : BytesOK) : okL 73 20 T73_12 = true := (okL_c (o73_11 hB)).2.2
theorem o73_13 (hB : BytesOK) : okL 73 21 T73_13 = true := (okL_c (o73_12 hB)).2.2
theorem o73_14 (hB : BytesOK) : okL 73 24 T73_14 = true := (okL_c (o73_13 hB)).2.2
theorem o73_15 (hB : BytesOK) : okL 73 25 T73_15 = true := (okL_c (o73_14 hB)).2.2
theorem o73_16 (hB : BytesOK) : okL 73 28 T73_16 = true := (okL_c (o73_15 hB)).2.2
theorem o73_17 (hB : BytesOK) : okL 73 29 T73_17 = true := (okL_c (o73_16 hB)).2.2
theorem o73_18 (hB : BytesOK) : okL 73 30 T73_18 = true := (okL_c (o73_17 hB)).2.2
theorem o73_19 (hB : BytesOK) : okL 73 33 T73_19 = true := (okL_c (o73_18 hB)).2.2
theorem o73_20 (hB : BytesOK) : okL 73 34 T73_20 = true := (okL_c (o73_19 hB)).2.2
theorem o73_21 (hB : BytesOK) : okL 73 35 T73_21 = true := (okL_c (o73_20 hB)).2.2
theorem o73_22 (hB : BytesOK) : okL 73 38 T73_22 = true := (okL_c (o73_21 hB)).2.2
theorem o73_23 (hB : BytesOK) : okL 73 39 T73_23 = true := (okL_c (o73_22 hB)).2.2
theorem o73_24 (hB : BytesOK) : okL 73 40 T73_24 = true := (okL_c (o73_23 hB)).2.2
theorem o73_25 (hB : BytesOK) : okL 73 41 T73_25 = true := (okL_c (o73_24 hB)).2.2
theorem o73_26 (hB : BytesOK) : okL 73 42 T73_26 = true := (okL_c (o73_25 hB)).2.2
theorem o73_27 (hB : BytesOK) : okL 73 43 T73_27 = true := (okL_c (o73_26 hB)).2.2
theorem o73_28 (hB : BytesOK) : okL 73 44 T73_28 = true := (okL_c (o73_27 hB)).2.2
theorem o73_29 (hB : BytesOK) : okL 73 47 T73_29 = true := (okL_c (o73_28 hB)).2.2
theorem o73_30 (hB : BytesOK) : okL 73 48 T73_30 = true := (okL_c (o73_29 hB)).2.2
theorem o73_31 (hB : BytesOK) : okL 73 49 T73_31 = true := (okL_c (o73_30 hB)).2.2
theorem o73_32 (hB : BytesOK) : okL 73 50 T73_32 = true := (okL_c (o73_31 hB)).2.2
theorem o73_33 (hB : BytesOK) : okL 73 53 T73_33 = true := (okL_c (o73_32 hB)).2.2
theorem o73_34 (hB : BytesOK) : okL 73 54 T73_34 = true := (okL_c (o73_33 hB)).2.2
theorem o73_35 (hB : BytesOK) : okL 73 57 T73_35 = true := (okL_c (o73_34 hB)).2.2
theorem o73_36 (hB : BytesOK) : okL 73 58 T73_36 = true := (okL_c (o73_35 hB)).2.2
theorem o73_37 (hB : BytesOK) : okL 73 59 T73_37 = true := (okL_c (o73_36 hB)).2.2
theorem o73_38 (hB : BytesOK) : okL 73 60 T73_38 = true := (okL_c (o73_37 hB)).2.2
theorem o73_39 (hB : BytesOK) : okL 73 61 T73_39 = true := (okL_c (o73_38 hB)).2.2
theorem o73_40 (hB : BytesOK) : okL 73 64 T73_40 = true := (okL_c (o73_39 hB)).2.2
theorem ml73 : mml 73 = 4 := by decide +kernel
theorem mr73 : mret 73 = some .int := by decide +kernel
theorem mg73 : kGood 73 = true := by decide +kernel

def T79_28 : List Tok := []
def T79_27 : List Tok := (.return_, 1, 0, 0) :: T79_28
def T79_26 : List Tok := (.putfield 46, 3, 389, 289) :: T79_27
def T79_25 : List Tok := (.getfield 46, 3, 389, 289) :: T79_26
def T79_24 : List Tok := (.aload_n 1, 1, 0, 0) :: T79_25
def T79_23 : List Tok := (.aload_n 0, 1, 0, 0) :: T79_24
def T79_22 : List Tok := (.putfield 43, 3, 388, 287) :: T79_23
def T79_21 : List Tok := (.getfield 43, 3, 388, 287) :: T79_22
def T79_20 : List Tok := (.aload_n 1, 1, 0, 0) :: T79_21
def T79_19 : List Tok := (.aload_n 0, 1, 0, 0) :: T79_20
def T79_18 : List Tok := (.putfield 39, 3, 387, 285) :: T79_19
def T79_17 : List Tok := (.getfield 39, 3, 387, 285) :: T79_18
def T79_16 : List Tok := (.aload_n 1, 1, 0, 0) :: T79_17
def T79_15 : List Tok := (.aload_n 0, 1, 0, 0) :: T79_16
def T79_14 : List Tok := (.invokestatic 49, 3, 178, 300000) :: T79_15
def T79_13 : List Tok := (.getfield 18, 3, 386, 284) :: T79_14
def T79_12 : List Tok := (.aload_n 0, 1, 0, 0) :: T79_13
def T79_11 : List Tok := (.getfield 18, 3, 386, 284) :: T79_12
def T79_10 : List Tok := (.aload_n 1, 1, 0, 0) :: T79_11
def T79_9 : List Tok := (.invokestatic 49, 3, 178, 300000) :: T79_10
def T79_8 : List Tok := (.getfield 15, 3, 385, 282) :: T79_9
def T79_7 : List Tok := (.aload_n 0, 1, 0, 0) :: T79_8
def T79_6 : List Tok := (.getfield 15, 3, 385, 282) :: T79_7
def T79_5 : List Tok := (.aload_n 1, 1, 0, 0) :: T79_6
def T79_4 : List Tok := (.invokestatic 49, 3, 178, 300000) :: T79_5
def T79_3 : List Tok := (.getfield 9, 3, 384, 279) :: T79_4
def T79_2 : List Tok := (.aload_n 0, 1, 0, 0) :: T79_3
def T79_1 : List Tok := (.getfield 9, 3, 384, 279) :: T79_2
def T79_0 : List Tok := (.aload_n 1, 1, 0, 0) :: T79_1
theorem o79_0 (hB : BytesOK) : okL 79 0 T79_0 = true := by
  have h := hB.1 79
  rw [show tk 79 = T79_0 from by decide +kernel] at h
  exact h
theorem o79_1 (hB : BytesOK) : okL 79 1 T79_1 = true := (okL_c (o79_0 hB)).2.2
theorem o79_2 (hB : BytesOK) : okL 79 4 T79_2 = true := (okL_c (o79_1 hB)).2.2
theorem o79_3 (hB : BytesOK) : okL 79 5 T79_3 = true := (okL_c (o79_2 hB)).2.2
theorem o79_4 (hB : BytesOK) : okL 79 8 T79_4 = true := (okL_c (o79_3 hB)).2.2
theorem o79_5 (hB : BytesOK) : okL 79 11 T79_5 = true := (okL_c (o79_4 hB)).2.2
theorem o79_6 (hB : BytesOK) : okL 79 12 T79_6 = true := (okL_c (o79_5 hB)).2.2
theorem o79_7 (hB : BytesOK) : okL 79 15 T79_7 = true := (okL_c (o79_6 hB)).2.2
theorem o79_8 (hB : BytesOK) : okL 79 16 T79_8 = true := (okL_c (o79_7 hB)).2.2
theorem o79_9 (hB : BytesOK) : okL 79 19 T79_9 = true := (okL_c (o79_8 hB)).2.2
theorem o79_10 (hB : BytesOK) : okL 79 22 T79_10 = true := (okL_c (o79_9 hB)).2.2
theorem o79_11 (hB : BytesOK) : okL 79 23 T79_11 = true := (okL_c (o79_10 hB)).2.2
theorem o79_12 (hB : BytesOK) : okL 79 26 T79_12 = true := (okL_c (o79_11 hB)).2.2
theorem o79_13 (hB : BytesOK) : okL 79 27 T79_13 = true := (okL_c (o79_12 hB)).2.2
theorem o79_14 (hB : BytesOK) : okL 79 30 T79_14 = true := (okL_c (o79_13 hB)).2.2
theorem o79_15 (hB : BytesOK) : okL 79 33 T79_15 = true := (okL_c (o79_14 hB)).2.2
theorem o79_16 (hB : BytesOK) : okL 79 34 T79_16 = true := (okL_c (o79_15 hB)).2.2
theorem o79_17 (hB : BytesOK) : okL 79 35 T79_17 = true := (okL_c (o79_16 hB)).2.2
theorem o79_18 (hB : BytesOK) : okL 79 38 T79_18 = true := (okL_c (o79_17 hB)).2.2
theorem o79_19 (hB : BytesOK) : okL 79 41 T79_19 = true := (okL_c (o79_18 hB)).2.2
theorem o79_20 (hB : BytesOK) : okL 79 42 T79_20 = true := (okL_c (o79_19 hB)).2.2
theorem o79_21 (hB : BytesOK) : okL 79 43 T79_21 = true := (okL_c (o79_20 hB)).2.2
theorem o79_22 (hB : BytesOK) : okL 79 46 T79_22 = true := (okL_c (o79_21 hB)).2.2
theorem o79_23 (hB : BytesOK) : okL 79 49 T79_23 = true := (okL_c (o79_22 hB)).2.2
theorem o79_24 (hB : BytesOK) : okL 79 50 T79_24 = true := (okL_c (o79_23 hB)).2.2
theorem o79_25 (hB : BytesOK) : okL 79 51 T79_25 = true := (okL_c (o79_24 hB)).2.2
theorem o79_26 (hB : BytesOK) : okL 79 54 T79_26 = true := (okL_c (o79_25 hB)).2.2
theorem o79_27 (hB : BytesOK) : okL 79 57 T79_27 = true := (okL_c (o79_26 hB)).2.2
theorem ml79 : mml 79 = 2 := by decide +kernel
theorem mr79 : mret 79 = none := by decide +kernel
theorem mg79 : kGood 79 = true := by decide +kernel

def T121_81 : List Tok := []
def T121_80 : List Tok := (.return_, 1, 0, 0) :: T121_81
def T121_79 : List Tok := (.invokestatic 113, 3, 178, 300000) :: T121_80
def T121_78 : List Tok := (.getfield 45, 3, 592, 237) :: T121_79
def T121_77 : List Tok := (.aload_n 0, 1, 0, 0) :: T121_78
def T121_76 : List Tok := (.getfield 45, 3, 592, 237) :: T121_77
def T121_75 : List Tok := (.aload_n 1, 1, 0, 0) :: T121_76
def T121_74 : List Tok := (.invokestatic 113, 3, 178, 300000) :: T121_75
def T121_73 : List Tok := (.getfield 42, 3, 591, 236) :: T121_74
def T121_72 : List Tok := (.aload_n 0, 1, 0, 0) :: T121_73
def T121_71 : List Tok := (.getfield 42, 3, 591, 236) :: T121_72
def T121_70 : List Tok := (.aload_n 1, 1, 0, 0) :: T121_71
def T121_69 : List Tok := (.putfield 98, 3, 590, 234) :: T121_70
def T121_68 : List Tok := (.getfield 98, 3, 590, 234) :: T121_69
def T121_67 : List Tok := (.aload_n 1, 1, 0, 0) :: T121_68
def T121_66 : List Tok := (.aload_n 0, 1, 0, 0) :: T121_67
def T121_65 : List Tok := (.invokestatic 113, 3, 178, 300000) :: T121_66
def T121_64 : List Tok := (.getfield 39, 3, 589, 233) :: T121_65
def T121_63 : List Tok := (.aload_n 0, 1, 0, 0) :: T121_64
def T121_62 : List Tok := (.getfield 39, 3, 589, 233) :: T121_63
def T121_61 : List Tok := (.aload_n 1, 1, 0, 0) :: T121_62
def T121_60 : List Tok := (.invokestatic 113, 3, 178, 300000) :: T121_61
def T121_59 : List Tok := (.getfield 36, 3, 588, 232) :: T121_60
def T121_58 : List Tok := (.aload_n 0, 1, 0, 0) :: T121_59
def T121_57 : List Tok := (.getfield 36, 3, 588, 232) :: T121_58
def T121_56 : List Tok := (.aload_n 1, 1, 0, 0) :: T121_57
def T121_55 : List Tok := (.invokestatic 113, 3, 178, 300000) :: T121_56
def T121_54 : List Tok := (.getfield 33, 3, 587, 231) :: T121_55
def T121_53 : List Tok := (.aload_n 0, 1, 0, 0) :: T121_54
def T121_52 : List Tok := (.getfield 33, 3, 587, 231) :: T121_53
def T121_51 : List Tok := (.aload_n 1, 1, 0, 0) :: T121_52
def T121_50 : List Tok := (.putfield 92, 3, 586, 229) :: T121_51
def T121_49 : List Tok := (.getfield 92, 3, 586, 229) :: T121_50
def T121_48 : List Tok := (.aload_n 1, 1, 0, 0) :: T121_49
def T121_47 : List Tok := (.aload_n 0, 1, 0, 0) :: T121_48
def T121_46 : List Tok := (.invokestatic 113, 3, 178, 300000) :: T121_47
def T121_45 : List Tok := (.getfield 30, 3, 585, 228) :: T121_46
def T121_44 : List Tok := (.aload_n 0, 1, 0, 0) :: T121_45
def T121_43 : List Tok := (.getfield 30, 3, 585, 228) :: T121_44
def T121_42 : List Tok := (.aload_n 1, 1, 0, 0) :: T121_43
def T121_41 : List Tok := (.invokestatic 113, 3, 178, 300000) :: T121_42
def T121_40 : List Tok := (.getfield 27, 3, 584, 227) :: T121_41
def T121_39 : List Tok := (.aload_n 0, 1, 0, 0) :: T121_40
def T121_38 : List Tok := (.getfield 27, 3, 584, 227) :: T121_39
def T121_37 : List Tok := (.aload_n 1, 1, 0, 0) :: T121_38
def T121_36 : List Tok := (.invokestatic 113, 3, 178, 300000) :: T121_37
def T121_35 : List Tok := (.getfield 24, 3, 583, 225) :: T121_36
def T121_34 : List Tok := (.aload_n 0, 1, 0, 0) :: T121_35
def T121_33 : List Tok := (.getfield 24, 3, 583, 225) :: T121_34
def T121_32 : List Tok := (.aload_n 1, 1, 0, 0) :: T121_33
def T121_31 : List Tok := (.invokestatic 113, 3, 178, 300000) :: T121_32
def T121_30 : List Tok := (.getfield 21, 3, 582, 224) :: T121_31
def T121_29 : List Tok := (.aload_n 0, 1, 0, 0) :: T121_30
def T121_28 : List Tok := (.getfield 21, 3, 582, 224) :: T121_29
def T121_27 : List Tok := (.aload_n 1, 1, 0, 0) :: T121_28
def T121_26 : List Tok := (.putfield 62, 3, 581, 223) :: T121_27
def T121_25 : List Tok := (.getfield 62, 3, 581, 223) :: T121_26
def T121_24 : List Tok := (.aload_n 1, 1, 0, 0) :: T121_25
def T121_23 : List Tok := (.aload_n 0, 1, 0, 0) :: T121_24
def T121_22 : List Tok := (.putfield 59, 3, 580, 221) :: T121_23
def T121_21 : List Tok := (.getfield 59, 3, 580, 221) :: T121_22
def T121_20 : List Tok := (.aload_n 1, 1, 0, 0) :: T121_21
def T121_19 : List Tok := (.aload_n 0, 1, 0, 0) :: T121_20
def T121_18 : List Tok := (.invokestatic 113, 3, 178, 300000) :: T121_19
def T121_17 : List Tok := (.getfield 18, 3, 579, 220) :: T121_18
def T121_16 : List Tok := (.aload_n 0, 1, 0, 0) :: T121_17
def T121_15 : List Tok := (.getfield 18, 3, 579, 220) :: T121_16
def T121_14 : List Tok := (.aload_n 1, 1, 0, 0) :: T121_15
def T121_13 : List Tok := (.invokestatic 113, 3, 178, 300000) :: T121_14
def T121_12 : List Tok := (.getfield 15, 3, 578, 218) :: T121_13
def T121_11 : List Tok := (.aload_n 0, 1, 0, 0) :: T121_12
def T121_10 : List Tok := (.getfield 15, 3, 578, 218) :: T121_11
def T121_9 : List Tok := (.aload_n 1, 1, 0, 0) :: T121_10
def T121_8 : List Tok := (.invokestatic 113, 3, 178, 300000) :: T121_9
def T121_7 : List Tok := (.getfield 9, 3, 577, 217) :: T121_8
def T121_6 : List Tok := (.aload_n 0, 1, 0, 0) :: T121_7
def T121_5 : List Tok := (.getfield 9, 3, 577, 217) :: T121_6
def T121_4 : List Tok := (.aload_n 1, 1, 0, 0) :: T121_5
def T121_3 : List Tok := (.putfield 48, 3, 576, 215) :: T121_4
def T121_2 : List Tok := (.getfield 48, 3, 576, 215) :: T121_3
def T121_1 : List Tok := (.aload_n 1, 1, 0, 0) :: T121_2
def T121_0 : List Tok := (.aload_n 0, 1, 0, 0) :: T121_1
theorem o121_0 (hB : BytesOK) : okL 121 0 T121_0 = true := by
  have h := hB.1 121
  rw [show tk 121 = T121_0 from by decide +kernel] at h
  exact h
theorem o121_1 (hB : BytesOK) : okL 121 1 T121_1 = true := (okL_c (o121_0 hB)).2.2
theorem o121_2 (hB : BytesOK) : okL 121 2 T121_2 = true := (okL_c (o121_1 hB)).2.2
theorem o121_3 (hB : BytesOK) : okL 121 5 T121_3 = true := (okL_c (o121_2 hB)).2.2
theorem o121_4 (hB : BytesOK) : okL 121 8 T121_4 = true := (okL_c (o121_3 hB)).2.2
theorem o121_5 (hB : BytesOK) : okL 121 9 T121_5 = true := (okL_c (o121_4 hB)).2.2
theorem o121_6 (hB : BytesOK) : okL 121 12 T121_6 = true := (okL_c (o121_5 hB)).2.2
theorem o121_7 (hB : BytesOK) : okL 121 13 T121_7 = true := (okL_c (o121_6 hB)).2.2
theorem o121_8 (hB : BytesOK) : okL 121 16 T121_8 = true := (okL_c (o121_7 hB)).2.2
theorem o121_9 (hB : BytesOK) : okL 121 19 T121_9 = true := (okL_c (o121_8 hB)).2.2
theorem o121_10 (hB : BytesOK) : okL 121 20 T121_10 = true := (okL_c (o121_9 hB)).2.2
theorem o121_11 (hB : BytesOK) : okL 121 23 T121_11 = true := (okL_c (o121_10 hB)).2.2
theorem o121_12 (hB : BytesOK) : okL 121 24 T121_12 = true := (okL_c (o121_11 hB)).2.2
theorem o121_13 (hB : BytesOK) : okL 121 27 T121_13 = true := (okL_c (o121_12 hB)).2.2
theorem o121_14 (hB : BytesOK) : okL 121 30 T121_14 = true := (okL_c (o121_13 hB)).2.2
theorem o121_15 (hB : BytesOK) : okL 121 31 T121_15 = true := (okL_c (o121_14 hB)).2.2
theorem o121_16 (hB : BytesOK) : okL 121 34 T121_16 = true := (okL_c (o121_15 hB)).2.2
theorem o121_17 (hB : BytesOK) : okL 121 35 T121_17 = true := (okL_c (o121_16 hB)).2.2
theorem o121_18 (hB : BytesOK) : okL 121 38 T121_18 = true := (okL_c (o121_17 hB)).2.2
theorem o121_19 (hB : BytesOK) : okL 121 41 T121_19 = true := (okL_c (o121_18 hB)).2.2
theorem o121_20 (hB : BytesOK) : okL 121 42 T121_20 = true := (okL_c (o121_19 hB)).2.2
theorem o121_21 (hB : BytesOK) : okL 121 43 T121_21 = true := (okL_c (o121_20 hB)).2.2
theorem o121_22 (hB : BytesOK) : okL 121 46 T121_22 = true := (okL_c (o121_21 hB)).2.2
theorem o121_23 (hB : BytesOK) : okL 121 49 T121_23 = true := (okL_c (o121_22 hB)).2.2
theorem o121_24 (hB : BytesOK) : okL 121 50 T121_24 = true := (okL_c (o121_23 hB)).2.2
theorem o121_25 (hB : BytesOK) : okL 121 51 T121_25 = true := (okL_c (o121_24 hB)).2.2
theorem o121_26 (hB : BytesOK) : okL 121 54 T121_26 = true := (okL_c (o121_25 hB)).2.2
theorem o121_27 (hB : BytesOK) : okL 121 57 T121_27 = true := (okL_c (o121_26 hB)).2.2
theorem o121_28 (hB : BytesOK) : okL 121 58 T121_28 = true := (okL_c (o121_27 hB)).2.2
theorem o121_29 (hB : BytesOK) : okL 121 61 T121_29 = true := (okL_c (o121_28 hB)).2.2
theorem o121_30 (hB : BytesOK) : okL 121 62 T121_30 = true := (okL_c (o121_29 hB)).2.2
theorem o121_31 (hB : BytesOK) : okL 121 65 T121_31 = true := (okL_c (o121_30 hB)).2.2
theorem o121_32 (hB : BytesOK) : okL 121 68 T121_32 = true := (okL_c (o121_31 hB)).2.2
theorem o121_33 (hB : BytesOK) : okL 121 69 T121_33 = true := (okL_c (o121_32 hB)).2.2
theorem o121_34 (hB : BytesOK) : okL 121 72 T121_34 = true := (okL_c (o121_33 hB)).2.2
theorem o121_35 (hB : BytesOK) : okL 121 73 T121_35 = true := (okL_c (o121_34 hB)).2.2
theorem o121_36 (hB : BytesOK) : okL 121 76 T121_36 = true := (okL_c (o121_35 hB)).2.2
theorem o121_37 (hB : BytesOK) : okL 121 79 T121_37 = true := (okL_c (o121_36 hB)).2.2
theorem o121_38 (hB : BytesOK) : okL 121 80 T121_38 = true := (okL_c (o121_37 hB)).2.2
theorem o121_39 (hB : BytesOK) : okL 121 83 T121_39 = true := (okL_c (o121_38 hB)).2.2
theorem o121_40 (hB : BytesOK) : okL 121 84 T121_40 = true := (okL_c (o121_39 hB)).2.2
theorem o121_41 (hB : BytesOK) : okL 121 87 T121_41 = true := (okL_c (o121_40 hB)).2.2
theorem o121_42 (hB : BytesOK) : okL 121 90 T121_42 = true := (okL_c (o121_41 hB)).2.2
theorem o121_43 (hB : BytesOK) : okL 121 91 T121_43 = true := (okL_c (o121_42 hB)).2.2
theorem o121_44 (hB : BytesOK) : okL 121 94 T121_44 = true := (okL_c (o121_43 hB)).2.2
theorem o121_45 (hB : BytesOK) : okL 121 95 T121_45 = true := (okL_c (o121_44 hB)).2.2
theorem o121_46 (hB : BytesOK) : okL 121 98 T121_46 = true := (okL_c (o121_45 hB)).2.2
theorem o121_47 (hB : BytesOK) : okL 121 101 T121_47 = true := (okL_c (o121_46 hB)).2.2
theorem o121_48 (hB : BytesOK) : okL 121 102 T121_48 = true := (okL_c (o121_47 hB)).2.2
theorem o121_49 (hB : BytesOK) : okL 121 103 T121_49 = true := (okL_c (o121_48 hB)).2.2
theorem o121_50 (hB : BytesOK) : okL 121 106 T121_50 = true := (okL_c (o121_49 hB)).2.2
theorem o121_51 (hB : BytesOK) : okL 121 109 T121_51 = true := (okL_c (o121_50 hB)).2.2
theorem o121_52 (hB : BytesOK) : okL 121 110 T121_52 = true := (okL_c (o121_51 hB)).2.2
theorem o121_53 (hB : BytesOK) : okL 121 113 T121_53 = true := (okL_c (o121_52 hB)).2.2
theorem o121_54 (hB : BytesOK) : okL 121 114 T121_54 = true := (okL_c (o121_53 hB)).2.2
theorem o121_55 (hB : BytesOK) : okL 121 117 T121_55 = true := (okL_c (o121_54 hB)).2.2
theorem o121_56 (hB : BytesOK) : okL 121 120 T121_56 = true := (okL_c (o121_55 hB)).2.2
theorem o121_57 (hB : BytesOK) : okL 121 121 T121_57 = true := (okL_c (o121_56 hB)).2.2
theorem o121_58 (hB : BytesOK) : okL 121 124 T121_58 = true := (okL_c (o121_57 hB)).2.2
theorem o121_59 (hB : BytesOK) : okL 121 125 T121_59 = true := (okL_c (o121_58 hB)).2.2
theorem o121_60 (hB : BytesOK) : okL 121 128 T121_60 = true := (okL_c (o121_59 hB)).2.2
theorem o121_61 (hB : BytesOK) : okL 121 131 T121_61 = true := (okL_c (o121_60 hB)).2.2
theorem o121_62 (hB : BytesOK) : okL 121 132 T121_62 = true := (okL_c (o121_61 hB)).2.2
theorem o121_63 (hB : BytesOK) : okL 121 135 T121_63 = true := (okL_c (o121_62 hB)).2.2
theorem o121_64 (hB : BytesOK) : okL 121 136 T121_64 = true := (okL_c (o121_63 hB)).2.2
theorem o121_65 (hB : BytesOK) : okL 121 139 T121_65 = true := (okL_c (o121_64 hB)).2.2
theorem o121_66 (hB : BytesOK) : okL 121 142 T121_66 = true := (okL_c (o121_65 hB)).2.2
theorem o121_67 (hB : BytesOK) : okL 121 143 T121_67 = true := (okL_c (o121_66 hB)).2.2
theorem o121_68 (hB : BytesOK) : okL 121 144 T121_68 = true := (okL_c (o121_67 hB)).2.2
theorem o121_69 (hB : BytesOK) : okL 121 147 T121_69 = true := (okL_c (o121_68 hB)).2.2
theorem o121_70 (hB : BytesOK) : okL 121 150 T121_70 = true := (okL_c (o121_69 hB)).2.2
theorem o121_71 (hB : BytesOK) : okL 121 151 T121_71 = true := (okL_c (o121_70 hB)).2.2
theorem o121_72 (hB : BytesOK) : okL 121 154 T121_72 = true := (okL_c (o121_71 hB)).2.2
theorem o121_73 (hB : BytesOK) : okL 121 155 T121_73 = true := (okL_c (o121_72 hB)).2.2
theorem o121_74 (hB : BytesOK) : okL 121 158 T121_74 = true := (okL_c (o121_73 hB)).2.2
theorem o121_75 (hB : BytesOK) : okL 121 161 T121_75 = true := (okL_c (o121_74 hB)).2.2
theorem o121_76 (hB : BytesOK) : okL 121 162 T121_76 = true := (okL_c (o121_75 hB)).2.2
theorem o121_77 (hB : BytesOK) : okL 121 165 T121_77 = true := (okL_c (o121_76 hB)).2.2
theorem o121_78 (hB : BytesOK) : okL 121 166 T121_78 = true := (okL_c (o121_77 hB)).2.2
theorem o121_79 (hB : BytesOK) : okL 121 169 T121_79 = true := (okL_c (o121_78 hB)).2.2
theorem o121_80 (hB : BytesOK) : okL 121 172 T121_80 = true := (okL_c (o121_79 hB)).2.2
theorem ml121 : mml 121 = 2 := by decide +kernel
theorem mr121 : mret 121 = none := by decide +kernel
theorem mg121 : kGood 121 = true := by decide +kernel

def T123_31 : List Tok := []
def T123_30 : List Tok := (.ireturn, 1, 0, 0) :: T123_31
def T123_29 : List Tok := (.getfield 58, 3, 192, 121) :: T123_30
def T123_28 : List Tok := (.getfield 54, 3, 128, 366) :: T123_29
def T123_27 : List Tok := (.getfield 10, 3, 640, 497) :: T123_28
def T123_26 : List Tok := (.aload_n 0, 1, 0, 0) :: T123_27
def T123_25 : List Tok := (.putfield 58, 3, 192, 121) :: T123_26
def T123_24 : List Tok := (.iadd, 1, 0, 0) :: T123_25
def T123_23 : List Tok := (.iload_n 1, 1, 0, 0) :: T123_24
def T123_22 : List Tok := (.getfield 58, 3, 192, 121) :: T123_23
def T123_21 : List Tok := (.dup, 1, 0, 0) :: T123_22
def T123_20 : List Tok := (.getfield 54, 3, 128, 366) :: T123_21
def T123_19 : List Tok := (.getfield 10, 3, 640, 497) :: T123_20
def T123_18 : List Tok := (.aload_n 0, 1, 0, 0) :: T123_19
def T123_17 : List Tok := (.ireturn, 1, 0, 0) :: T123_18
def T123_16 : List Tok := (.bipush (-4), 2, 0, 0) :: T123_17
def T123_15 : List Tok := (.if_icmp .lt 6, 3, 0, 0) :: T123_16
def T123_14 : List Tok := (.sipush 240, 3, 0, 0) :: T123_15
def T123_13 : List Tok := (.iadd, 1, 0, 0) :: T123_14
def T123_12 : List Tok := (.iload_n 1, 1, 0, 0) :: T123_13
def T123_11 : List Tok := (.getfield 58, 3, 192, 121) :: T123_12
def T123_10 : List Tok := (.getfield 54, 3, 128, 366) :: T123_11
def T123_9 : List Tok := (.getfield 10, 3, 640, 497) :: T123_10
def T123_8 : List Tok := (.aload_n 0, 1, 0, 0) :: T123_9
def T123_7 : List Tok := (.ireturn, 1, 0, 0) :: T123_8
def T123_6 : List Tok := (.iconst (-1), 1, 0, 0) :: T123_7
def T123_5 : List Tok := (.if_icmp .le 5, 3, 0, 0) :: T123_6
def T123_4 : List Tok := (.bipush 60, 2, 0, 0) :: T123_5
def T123_3 : List Tok := (.iload_n 1, 1, 0, 0) :: T123_4
def T123_2 : List Tok := (.if_icmp .lt 9, 3, 0, 0) :: T123_3
def T123_1 : List Tok := (.iconst 1, 1, 0, 0) :: T123_2
def T123_0 : List Tok := (.iload_n 1, 1, 0, 0) :: T123_1
theorem o123_0 (hB : BytesOK) : okL 123 0 T123_0 = true := by
  have h := hB.1 123
  rw [show tk 123 = T123_0 from by decide +kernel] at h
  exact h
theorem o123_1 (hB : BytesOK) : okL 123 1 T123_1 = true := (okL_c (o123_0 hB)).2.2
theorem o123_2 (hB : BytesOK) : okL 123 2 T123_2 = true := (okL_c (o123_1 hB)).2.2
theorem o123_3 (hB : BytesOK) : okL 123 5 T123_3 = true := (okL_c (o123_2 hB)).2.2
theorem o123_4 (hB : BytesOK) : okL 123 6 T123_4 = true := (okL_c (o123_3 hB)).2.2
theorem o123_5 (hB : BytesOK) : okL 123 8 T123_5 = true := (okL_c (o123_4 hB)).2.2
theorem o123_6 (hB : BytesOK) : okL 123 11 T123_6 = true := (okL_c (o123_5 hB)).2.2
theorem o123_7 (hB : BytesOK) : okL 123 12 T123_7 = true := (okL_c (o123_6 hB)).2.2
theorem o123_8 (hB : BytesOK) : okL 123 13 T123_8 = true := (okL_c (o123_7 hB)).2.2
theorem o123_9 (hB : BytesOK) : okL 123 14 T123_9 = true := (okL_c (o123_8 hB)).2.2
theorem o123_10 (hB : BytesOK) : okL 123 17 T123_10 = true := (okL_c (o123_9 hB)).2.2
theorem o123_11 (hB : BytesOK) : okL 123 20 T123_11 = true := (okL_c (o123_10 hB)).2.2
theorem o123_12 (hB : BytesOK) : okL 123 23 T123_12 = true := (okL_c (o123_11 hB)).2.2
theorem o123_13 (hB : BytesOK) : okL 123 24 T123_13 = true := (okL_c (o123_12 hB)).2.2
theorem o123_14 (hB : BytesOK) : okL 123 25 T123_14 = true := (okL_c (o123_13 hB)).2.2
theorem o123_15 (hB : BytesOK) : okL 123 28 T123_15 = true := (okL_c (o123_14 hB)).2.2
theorem o123_16 (hB : BytesOK) : okL 123 31 T123_16 = true := (okL_c (o123_15 hB)).2.2
theorem o123_17 (hB : BytesOK) : okL 123 33 T123_17 = true := (okL_c (o123_16 hB)).2.2
theorem o123_18 (hB : BytesOK) : okL 123 34 T123_18 = true := (okL_c (o123_17 hB)).2.2
theorem o123_19 (hB : BytesOK) : okL 123 35 T123_19 = true := (okL_c (o123_18 hB)).2.2
theorem o123_20 (hB : BytesOK) : okL 123 38 T123_20 = true := (okL_c (o123_19 hB)).2.2
theorem o123_21 (hB : BytesOK) : okL 123 41 T123_21 = true := (okL_c (o123_20 hB)).2.2
theorem o123_22 (hB : BytesOK) : okL 123 42 T123_22 = true := (okL_c (o123_21 hB)).2.2
theorem o123_23 (hB : BytesOK) : okL 123 45 T123_23 = true := (okL_c (o123_22 hB)).2.2
theorem o123_24 (hB : BytesOK) : okL 123 46 T123_24 = true := (okL_c (o123_23 hB)).2.2
theorem o123_25 (hB : BytesOK) : okL 123 47 T123_25 = true := (okL_c (o123_24 hB)).2.2
theorem o123_26 (hB : BytesOK) : okL 123 50 T123_26 = true := (okL_c (o123_25 hB)).2.2
theorem o123_27 (hB : BytesOK) : okL 123 51 T123_27 = true := (okL_c (o123_26 hB)).2.2
theorem o123_28 (hB : BytesOK) : okL 123 54 T123_28 = true := (okL_c (o123_27 hB)).2.2
theorem o123_29 (hB : BytesOK) : okL 123 57 T123_29 = true := (okL_c (o123_28 hB)).2.2
theorem o123_30 (hB : BytesOK) : okL 123 60 T123_30 = true := (okL_c (o123_29 hB)).2.2
theorem ml123 : mml 123 = 2 := by decide +kernel
theorem mr123 : mret 123 = some .int := by decide +kernel
theorem mg123 : kGood 123 = true := by decide +kernel

def T124_9 : List Tok := []
def T124_8 : List Tok := (.ireturn, 1, 0, 0) :: T124_9
def T124_7 : List Tok := (.invokevirtual 64, 3, 46, 533) :: T124_8
def T124_6 : List Tok := (.iload 4, 2, 0, 0) :: T124_7
def T124_5 : List Tok := (.iload_n 3, 1, 0, 0) :: T124_6
def T124_4 : List Tok := (.iload_n 2, 1, 0, 0) :: T124_5
def T124_3 : List Tok := (.iload_n 1, 1, 0, 0) :: T124_4
def T124_2 : List Tok := (.getfield 54, 3, 128, 366) :: T124_3
def T124_1 : List Tok := (.getfield 10, 3, 640, 497) :: T124_2
def T124_0 : List Tok := (.aload_n 0, 1, 0, 0) :: T124_1
theorem o124_0 (hB : BytesOK) : okL 124 0 T124_0 = true := by
  have h := hB.1 124
  rw [show tk 124 = T124_0 from by decide +kernel] at h
  exact h
theorem o124_1 (hB : BytesOK) : okL 124 1 T124_1 = true := (okL_c (o124_0 hB)).2.2
theorem o124_2 (hB : BytesOK) : okL 124 4 T124_2 = true := (okL_c (o124_1 hB)).2.2
theorem o124_3 (hB : BytesOK) : okL 124 7 T124_3 = true := (okL_c (o124_2 hB)).2.2
theorem o124_4 (hB : BytesOK) : okL 124 8 T124_4 = true := (okL_c (o124_3 hB)).2.2
theorem o124_5 (hB : BytesOK) : okL 124 9 T124_5 = true := (okL_c (o124_4 hB)).2.2
theorem o124_6 (hB : BytesOK) : okL 124 10 T124_6 = true := (okL_c (o124_5 hB)).2.2
theorem o124_7 (hB : BytesOK) : okL 124 12 T124_7 = true := (okL_c (o124_6 hB)).2.2
theorem o124_8 (hB : BytesOK) : okL 124 15 T124_8 = true := (okL_c (o124_7 hB)).2.2
theorem ml124 : mml 124 = 5 := by decide +kernel
theorem mr124 : mret 124 = some .int := by decide +kernel
theorem mg124 : kGood 124 = true := by decide +kernel

def T125_7 : List Tok := []
def T125_6 : List Tok := (.ireturn, 1, 0, 0) :: T125_7
def T125_5 : List Tok := (.invokevirtual 68, 3, 47, 547) :: T125_6
def T125_4 : List Tok := (.iload_n 2, 1, 0, 0) :: T125_5
def T125_3 : List Tok := (.iload_n 1, 1, 0, 0) :: T125_4
def T125_2 : List Tok := (.getfield 54, 3, 128, 366) :: T125_3
def T125_1 : List Tok := (.getfield 10, 3, 640, 497) :: T125_2
def T125_0 : List Tok := (.aload_n 0, 1, 0, 0) :: T125_1
theorem o125_0 (hB : BytesOK) : okL 125 0 T125_0 = true := by
  have h := hB.1 125
  rw [show tk 125 = T125_0 from by decide +kernel] at h
  exact h
theorem o125_1 (hB : BytesOK) : okL 125 1 T125_1 = true := (okL_c (o125_0 hB)).2.2
theorem o125_2 (hB : BytesOK) : okL 125 4 T125_2 = true := (okL_c (o125_1 hB)).2.2
theorem o125_3 (hB : BytesOK) : okL 125 7 T125_3 = true := (okL_c (o125_2 hB)).2.2
theorem o125_4 (hB : BytesOK) : okL 125 8 T125_4 = true := (okL_c (o125_3 hB)).2.2
theorem o125_5 (hB : BytesOK) : okL 125 9 T125_5 = true := (okL_c (o125_4 hB)).2.2
theorem o125_6 (hB : BytesOK) : okL 125 12 T125_6 = true := (okL_c (o125_5 hB)).2.2
theorem ml125 : mml 125 = 3 := by decide +kernel
theorem mr125 : mret 125 = some .int := by decide +kernel
theorem mg125 : kGood 125 = true := by decide +kernel

def T126_26 : List Tok := []
def T126_25 : List Tok := (.ireturn, 1, 0, 0) :: T126_26
def T126_24 : List Tok := (.iconst 0, 1, 0, 0) :: T126_25
def T126_23 : List Tok := (.goto 4, 3, 0, 0) :: T126_24
def T126_22 : List Tok := (.iconst 1, 1, 0, 0) :: T126_23
def T126_21 : List Tok := (.ifCond .eq 7, 3, 0, 0) :: T126_22
def T126_20 : List Tok := (.invokevirtual 79, 3, 50, 564) :: T126_21
def T126_19 : List Tok := (.iload_n 3, 1, 0, 0) :: T126_20
def T126_18 : List Tok := (.iload_n 2, 1, 0, 0) :: T126_19
def T126_17 : List Tok := (.iload_n 1, 1, 0, 0) :: T126_18
def T126_16 : List Tok := (.getfield 54, 3, 128, 366) :: T126_17
def T126_15 : List Tok := (.getfield 10, 3, 640, 497) :: T126_16
def T126_14 : List Tok := (.aload_n 0, 1, 0, 0) :: T126_15
def T126_13 : List Tok := (.ireturn, 1, 0, 0) :: T126_14
def T126_12 : List Tok := (.iconst (-1), 1, 0, 0) :: T126_13
def T126_11 : List Tok := (.ifCond .ne 5, 3, 0, 0) :: T126_12
def T126_10 : List Tok := (.invokestatic 76, 3, 171, 563) :: T126_11
def T126_9 : List Tok := (.iload_n 3, 1, 0, 0) :: T126_10
def T126_8 : List Tok := (.ifCond .eq 10, 3, 0, 0) :: T126_9
def T126_7 : List Tok := (.invokestatic 76, 3, 171, 563) :: T126_8
def T126_6 : List Tok := (.iload_n 2, 1, 0, 0) :: T126_7
def T126_5 : List Tok := (.ifCond .eq 17, 3, 0, 0) :: T126_6
def T126_4 : List Tok := (.invokevirtual 72, 3, 45, 562) :: T126_5
def T126_3 : List Tok := (.iload_n 1, 1, 0, 0) :: T126_4
def T126_2 : List Tok := (.getfield 54, 3, 128, 366) :: T126_3
def T126_1 : List Tok := (.getfield 10, 3, 640, 497) :: T126_2
def T126_0 : List Tok := (.aload_n 0, 1, 0, 0) :: T126_1
theorem o126_0 (hB : BytesOK) : okL 126 0 T126_0 = true := by
  have h := hB.1 126
  rw [show tk 126 = T126_0 from by decide +kernel] at h
  exact h
theorem o126_1 (hB : BytesOK) : okL 126 1 T126_1 = true := (okL_c (o126_0 hB)).2.2
theorem o126_2 (hB : BytesOK) : okL 126 4 T126_2 = true := (okL_c (o126_1 hB)).2.2
theorem o126_3 (hB : BytesOK) : okL 126 7 T126_3 = true := (okL_c (o126_2 hB)).2.2
theorem o126_4 (hB : BytesOK) : okL 126 8 T126_4 = true := (okL_c (o126_3 hB)).2.2
theorem o126_5 (hB : BytesOK) : okL 126 11 T126_5 = true := (okL_c (o126_4 hB)).2.2
theorem o126_6 (hB : BytesOK) : okL 126 14 T126_6 = true := (okL_c (o126_5 hB)).2.2
theorem o126_7 (hB : BytesOK) : okL 126 15 T126_7 = true := (okL_c (o126_6 hB)).2.2
theorem o126_8 (hB : BytesOK) : okL 126 18 T126_8 = true := (okL_c (o126_7 hB)).2.2
theorem o126_9 (hB : BytesOK) : okL 126 21 T126_9 = true := (okL_c (o126_8 hB)).2.2
theorem o126_10 (hB : BytesOK) : okL 126 22 T126_10 = true := (okL_c (o126_9 hB)).2.2
theorem o126_11 (hB : BytesOK) : okL 126 25 T126_11 = true := (okL_c (o126_10 hB)).2.2
theorem o126_12 (hB : BytesOK) : okL 126 28 T126_12 = true := (okL_c (o126_11 hB)).2.2
theorem o126_13 (hB : BytesOK) : okL 126 29 T126_13 = true := (okL_c (o126_12 hB)).2.2
theorem o126_14 (hB : BytesOK) : okL 126 30 T126_14 = true := (okL_c (o126_13 hB)).2.2
theorem o126_15 (hB : BytesOK) : okL 126 31 T126_15 = true := (okL_c (o126_14 hB)).2.2
theorem o126_16 (hB : BytesOK) : okL 126 34 T126_16 = true := (okL_c (o126_15 hB)).2.2
theorem o126_17 (hB : BytesOK) : okL 126 37 T126_17 = true := (okL_c (o126_16 hB)).2.2
theorem o126_18 (hB : BytesOK) : okL 126 38 T126_18 = true := (okL_c (o126_17 hB)).2.2
theorem o126_19 (hB : BytesOK) : okL 126 39 T126_19 = true := (okL_c (o126_18 hB)).2.2
theorem o126_20 (hB : BytesOK) : okL 126 40 T126_20 = true := (okL_c (o126_19 hB)).2.2
theorem o126_21 (hB : BytesOK) : okL 126 43 T126_21 = true := (okL_c (o126_20 hB)).2.2
theorem o126_22 (hB : BytesOK) : okL 126 46 T126_22 = true := (okL_c (o126_21 hB)).2.2
theorem o126_23 (hB : BytesOK) : okL 126 47 T126_23 = true := (okL_c (o126_22 hB)).2.2
theorem o126_24 (hB : BytesOK) : okL 126 50 T126_24 = true := (okL_c (o126_23 hB)).2.2
theorem o126_25 (hB : BytesOK) : okL 126 51 T126_25 = true := (okL_c (o126_24 hB)).2.2
theorem ml126 : mml 126 = 4 := by decide +kernel
theorem mr126 : mret 126 = some .int := by decide +kernel
theorem mg126 : kGood 126 = true := by decide +kernel

def T133_27 : List Tok := []
def T133_26 : List Tok := (.ireturn, 1, 0, 0) :: T133_27
def T133_25 : List Tok := (.invokevirtual 115, 3, 56, 642) :: T133_26
def T133_24 : List Tok := (.iload_n 1, 1, 0, 0) :: T133_25
def T133_23 : List Tok := (.getfield 54, 3, 128, 366) :: T133_24
def T133_22 : List Tok := (.getfield 10, 3, 640, 497) :: T133_23
def T133_21 : List Tok := (.aload_n 0, 1, 0, 0) :: T133_22
def T133_20 : List Tok := (.goto 14, 3, 0, 0) :: T133_21
def T133_19 : List Tok := (.invokevirtual 112, 3, 55, 634) :: T133_20
def T133_18 : List Tok := (.iload_n 1, 1, 0, 0) :: T133_19
def T133_17 : List Tok := (.getfield 54, 3, 128, 366) :: T133_18
def T133_16 : List Tok := (.getfield 10, 3, 640, 497) :: T133_17
def T133_15 : List Tok := (.aload_n 0, 1, 0, 0) :: T133_16
def T133_14 : List Tok := (.ifCond .ne 17, 3, 0, 0) :: T133_15
def T133_13 : List Tok := (.iload_n 2, 1, 0, 0) :: T133_14
def T133_12 : List Tok := (.ireturn, 1, 0, 0) :: T133_13
def T133_11 : List Tok := (.iconst (-1), 1, 0, 0) :: T133_12
def T133_10 : List Tok := (.if_icmp .le 5, 3, 0, 0) :: T133_11
def T133_9 : List Tok := (.iconst 1, 1, 0, 0) :: T133_10
def T133_8 : List Tok := (.iload_n 2, 1, 0, 0) :: T133_9
def T133_7 : List Tok := (.ifCond .lt 8, 3, 0, 0) :: T133_8
def T133_6 : List Tok := (.iload_n 2, 1, 0, 0) :: T133_7
def T133_5 : List Tok := (.ifCond .eq 12, 3, 0, 0) :: T133_6
def T133_4 : List Tok := (.invokevirtual 72, 3, 45, 562) :: T133_5
def T133_3 : List Tok := (.iload_n 1, 1, 0, 0) :: T133_4
def T133_2 : List Tok := (.getfield 54, 3, 128, 366) :: T133_3
def T133_1 : List Tok := (.getfield 10, 3, 640, 497) :: T133_2
def T133_0 : List Tok := (.aload_n 0, 1, 0, 0) :: T133_1
theorem o133_0 (hB : BytesOK) : okL 133 0 T133_0 = true := by
  have h := hB.1 133
  rw [show tk 133 = T133_0 from by decide +kernel] at h
  exact h
theorem o133_1 (hB : BytesOK) : okL 133 1 T133_1 = true := (okL_c (o133_0 hB)).2.2
theorem o133_2 (hB : BytesOK) : okL 133 4 T133_2 = true := (okL_c (o133_1 hB)).2.2
theorem o133_3 (hB : BytesOK) : okL 133 7 T133_3 = true := (okL_c (o133_2 hB)).2.2
theorem o133_4 (hB : BytesOK) : okL 133 8 T133_4 = true := (okL_c (o133_3 hB)).2.2
theorem o133_5 (hB : BytesOK) : okL 133 11 T133_5 = true := (okL_c (o133_4 hB)).2.2
theorem o133_6 (hB : BytesOK) : okL 133 14 T133_6 = true := (okL_c (o133_5 hB)).2.2
theorem o133_7 (hB : BytesOK) : okL 133 15 T133_7 = true := (okL_c (o133_6 hB)).2.2
theorem o133_8 (hB : BytesOK) : okL 133 18 T133_8 = true := (okL_c (o133_7 hB)).2.2
theorem o133_9 (hB : BytesOK) : okL 133 19 T133_9 = true := (okL_c (o133_8 hB)).2.2
theorem o133_10 (hB : BytesOK) : okL 133 20 T133_10 = true := (okL_c (o133_9 hB)).2.2
theorem o133_11 (hB : BytesOK) : okL 133 23 T133_11 = true := (okL_c (o133_10 hB)).2.2
theorem o133_12 (hB : BytesOK) : okL 133 24 T133_12 = true := (okL_c (o133_11 hB)).2.2
theorem o133_13 (hB : BytesOK) : okL 133 25 T133_13 = true := (okL_c (o133_12 hB)).2.2
theorem o133_14 (hB : BytesOK) : okL 133 26 T133_14 = true := (okL_c (o133_13 hB)).2.2
theorem o133_15 (hB : BytesOK) : okL 133 29 T133_15 = true := (okL_c (o133_14 hB)).2.2
theorem o133_16 (hB : BytesOK) : okL 133 30 T133_16 = true := (okL_c (o133_15 hB)).2.2
theorem o133_17 (hB : BytesOK) : okL 133 33 T133_17 = true := (okL_c (o133_16 hB)).2.2
theorem o133_18 (hB : BytesOK) : okL 133 36 T133_18 = true := (okL_c (o133_17 hB)).2.2
theorem o133_19 (hB : BytesOK) : okL 133 37 T133_19 = true := (okL_c (o133_18 hB)).2.2
theorem o133_20 (hB : BytesOK) : okL 133 40 T133_20 = true := (okL_c (o133_19 hB)).2.2
theorem o133_21 (hB : BytesOK) : okL 133 43 T133_21 = true := (okL_c (o133_20 hB)).2.2
theorem o133_22 (hB : BytesOK) : okL 133 44 T133_22 = true := (okL_c (o133_21 hB)).2.2
theorem o133_23 (hB : BytesOK) : okL 133 47 T133_23 = true := (okL_c (o133_22 hB)).2.2
theorem o133_24 (hB : BytesOK) : okL 133 50 T133_24 = true := (okL_c (o133_23 hB)).2.2
theorem o133_25 (hB : BytesOK) : okL 133 51 T133_25 = true := (okL_c (o133_24 hB)).2.2
theorem o133_26 (hB : BytesOK) : okL 133 54 T133_26 = true := (okL_c (o133_25 hB)).2.2
theorem ml133 : mml 133 = 3 := by decide +kernel
theorem mr133 : mret 133 = some .int := by decide +kernel
theorem mg133 : kGood 133 = true := by decide +kernel

def T160_7 : List Tok := []
def T160_6 : List Tok := (.ireturn, 1, 0, 0) :: T160_7
def T160_5 : List Tok := (.invokevirtual 252, 3, 68, 1168) :: T160_6
def T160_4 : List Tok := (.iload_n 3, 1, 0, 0) :: T160_5
def T160_3 : List Tok := (.iload_n 2, 1, 0, 0) :: T160_4
def T160_2 : List Tok := (.iload_n 1, 1, 0, 0) :: T160_3
def T160_1 : List Tok := (.getfield 36, 3, 645, 502) :: T160_2
def T160_0 : List Tok := (.aload_n 0, 1, 0, 0) :: T160_1
theorem o160_0 (hB : BytesOK) : okL 160 0 T160_0 = true := by
  have h := hB.1 160
  rw [show tk 160 = T160_0 from by decide +kernel] at h
  exact h
theorem o160_1 (hB : BytesOK) : okL 160 1 T160_1 = true := (okL_c (o160_0 hB)).2.2
theorem o160_2 (hB : BytesOK) : okL 160 4 T160_2 = true := (okL_c (o160_1 hB)).2.2
theorem o160_3 (hB : BytesOK) : okL 160 5 T160_3 = true := (okL_c (o160_2 hB)).2.2
theorem o160_4 (hB : BytesOK) : okL 160 6 T160_4 = true := (okL_c (o160_3 hB)).2.2
theorem o160_5 (hB : BytesOK) : okL 160 7 T160_5 = true := (okL_c (o160_4 hB)).2.2
theorem o160_6 (hB : BytesOK) : okL 160 10 T160_6 = true := (okL_c (o160_5 hB)).2.2
theorem ml160 : mml 160 = 4 := by decide +kernel
theorem mr160 : mret 160 = some .int := by decide +kernel
theorem mg160 : kGood 160 = true := by decide +kernel

def T161_7 : List Tok := []
def T161_6 : List Tok := (.ireturn, 1, 0, 0) :: T161_7
def T161_5 : List Tok := (.invokevirtual 254, 3, 69, 1179) :: T161_6
def T161_4 : List Tok := (.iload_n 3, 1, 0, 0) :: T161_5
def T161_3 : List Tok := (.iload_n 2, 1, 0, 0) :: T161_4
def T161_2 : List Tok := (.iload_n 1, 1, 0, 0) :: T161_3
def T161_1 : List Tok := (.getfield 36, 3, 645, 502) :: T161_2
def T161_0 : List Tok := (.aload_n 0, 1, 0, 0) :: T161_1
theorem o161_0 (hB : BytesOK) : okL 161 0 T161_0 = true := by
  have h := hB.1 161
  rw [show tk 161 = T161_0 from by decide +kernel] at h
  exact h
theorem o161_1 (hB : BytesOK) : okL 161 1 T161_1 = true := (okL_c (o161_0 hB)).2.2
theorem o161_2 (hB : BytesOK) : okL 161 4 T161_2 = true := (okL_c (o161_1 hB)).2.2
theorem o161_3 (hB : BytesOK) : okL 161 5 T161_3 = true := (okL_c (o161_2 hB)).2.2
theorem o161_4 (hB : BytesOK) : okL 161 6 T161_4 = true := (okL_c (o161_3 hB)).2.2
theorem o161_5 (hB : BytesOK) : okL 161 7 T161_5 = true := (okL_c (o161_4 hB)).2.2
theorem o161_6 (hB : BytesOK) : okL 161 10 T161_6 = true := (okL_c (o161_5 hB)).2.2
theorem ml161 : mml 161 = 4 := by decide +kernel
theorem mr161 : mret 161 = some .int := by decide +kernel
theorem mg161 : kGood 161 = true := by decide +kernel

def T163_20 : List Tok := []
def T163_19 : List Tok := (.ireturn, 1, 0, 0) :: T163_20
def T163_18 : List Tok := (.invokevirtual 263, 3, 72, 1199) :: T163_19
def T163_17 : List Tok := (.getfield 54, 3, 128, 366) :: T163_18
def T163_16 : List Tok := (.getfield 10, 3, 640, 497) :: T163_17
def T163_15 : List Tok := (.aload_n 0, 1, 0, 0) :: T163_16
def T163_14 : List Tok := (.iload_n 3, 1, 0, 0) :: T163_15
def T163_13 : List Tok := (.iload_n 2, 1, 0, 0) :: T163_14
def T163_12 : List Tok := (.iload_n 1, 1, 0, 0) :: T163_13
def T163_11 : List Tok := (.getfield 36, 3, 645, 502) :: T163_12
def T163_10 : List Tok := (.aload_n 0, 1, 0, 0) :: T163_11
def T163_9 : List Tok := (.ireturn, 1, 0, 0) :: T163_10
def T163_8 : List Tok := (.iconst (-1), 1, 0, 0) :: T163_9
def T163_7 : List Tok := (.if_icmp .le 5, 3, 0, 0) :: T163_8
def T163_6 : List Tok := (.bipush 6, 2, 0, 0) :: T163_7
def T163_5 : List Tok := (.iload_n 3, 1, 0, 0) :: T163_6
def T163_4 : List Tok := (.ifCond .lt 9, 3, 0, 0) :: T163_5
def T163_3 : List Tok := (.iload_n 3, 1, 0, 0) :: T163_4
def T163_2 : List Tok := (.ifCond .eq 13, 3, 0, 0) :: T163_3
def T163_1 : List Tok := (.invokestatic 260, 3, 175, 1198) :: T163_2
def T163_0 : List Tok := (.iload_n 1, 1, 0, 0) :: T163_1
theorem o163_0 (hB : BytesOK) : okL 163 0 T163_0 = true := by
  have h := hB.1 163
  rw [show tk 163 = T163_0 from by decide +kernel] at h
  exact h
theorem o163_1 (hB : BytesOK) : okL 163 1 T163_1 = true := (okL_c (o163_0 hB)).2.2
theorem o163_2 (hB : BytesOK) : okL 163 4 T163_2 = true := (okL_c (o163_1 hB)).2.2
theorem o163_3 (hB : BytesOK) : okL 163 7 T163_3 = true := (okL_c (o163_2 hB)).2.2
theorem o163_4 (hB : BytesOK) : okL 163 8 T163_4 = true := (okL_c (o163_3 hB)).2.2
theorem o163_5 (hB : BytesOK) : okL 163 11 T163_5 = true := (okL_c (o163_4 hB)).2.2
theorem o163_6 (hB : BytesOK) : okL 163 12 T163_6 = true := (okL_c (o163_5 hB)).2.2
theorem o163_7 (hB : BytesOK) : okL 163 14 T163_7 = true := (okL_c (o163_6 hB)).2.2
theorem o163_8 (hB : BytesOK) : okL 163 17 T163_8 = true := (okL_c (o163_7 hB)).2.2
theorem o163_9 (hB : BytesOK) : okL 163 18 T163_9 = true := (okL_c (o163_8 hB)).2.2
theorem o163_10 (hB : BytesOK) : okL 163 19 T163_10 = true := (okL_c (o163_9 hB)).2.2
theorem o163_11 (hB : BytesOK) : okL 163 20 T163_11 = true := (okL_c (o163_10 hB)).2.2
theorem o163_12 (hB : BytesOK) : okL 163 23 T163_12 = true := (okL_c (o163_11 hB)).2.2
theorem o163_13 (hB : BytesOK) : okL 163 24 T163_13 = true := (okL_c (o163_12 hB)).2.2
theorem o163_14 (hB : BytesOK) : okL 163 25 T163_14 = true := (okL_c (o163_13 hB)).2.2
theorem o163_15 (hB : BytesOK) : okL 163 26 T163_15 = true := (okL_c (o163_14 hB)).2.2
theorem o163_16 (hB : BytesOK) : okL 163 27 T163_16 = true := (okL_c (o163_15 hB)).2.2
theorem o163_17 (hB : BytesOK) : okL 163 30 T163_17 = true := (okL_c (o163_16 hB)).2.2
theorem o163_18 (hB : BytesOK) : okL 163 33 T163_18 = true := (okL_c (o163_17 hB)).2.2
theorem o163_19 (hB : BytesOK) : okL 163 36 T163_19 = true := (okL_c (o163_18 hB)).2.2
theorem ml163 : mml 163 = 4 := by decide +kernel
theorem mr163 : mret 163 = some .int := by decide +kernel
theorem mg163 : kGood 163 = true := by decide +kernel

def T169_10 : List Tok := []
def T169_9 : List Tok := (.ireturn, 1, 0, 0) :: T169_10
def T169_8 : List Tok := (.iconst 1, 1, 0, 0) :: T169_9
def T169_7 : List Tok := (.putfield 338, 3, 642, 499) :: T169_8
def T169_6 : List Tok := (.iconst 1, 1, 0, 0) :: T169_7
def T169_5 : List Tok := (.aload_n 0, 1, 0, 0) :: T169_6
def T169_4 : List Tok := (.invokevirtual 335, 3, 43, 1311) :: T169_5
def T169_3 : List Tok := (.getfield 10, 3, 640, 497) :: T169_4
def T169_2 : List Tok := (.aload_n 0, 1, 0, 0) :: T169_3
def T169_1 : List Tok := (.getfield 16, 3, 641, 498) :: T169_2
def T169_0 : List Tok := (.aload_n 0, 1, 0, 0) :: T169_1
theorem o169_0 (hB : BytesOK) : okL 169 0 T169_0 = true := by
  have h := hB.1 169
  rw [show tk 169 = T169_0 from by decide +kernel] at h
  exact h
theorem o169_1 (hB : BytesOK) : okL 169 1 T169_1 = true := (okL_c (o169_0 hB)).2.2
theorem o169_2 (hB : BytesOK) : okL 169 4 T169_2 = true := (okL_c (o169_1 hB)).2.2
theorem o169_3 (hB : BytesOK) : okL 169 5 T169_3 = true := (okL_c (o169_2 hB)).2.2
theorem o169_4 (hB : BytesOK) : okL 169 8 T169_4 = true := (okL_c (o169_3 hB)).2.2
theorem o169_5 (hB : BytesOK) : okL 169 11 T169_5 = true := (okL_c (o169_4 hB)).2.2
theorem o169_6 (hB : BytesOK) : okL 169 12 T169_6 = true := (okL_c (o169_5 hB)).2.2
theorem o169_7 (hB : BytesOK) : okL 169 13 T169_7 = true := (okL_c (o169_6 hB)).2.2
theorem o169_8 (hB : BytesOK) : okL 169 16 T169_8 = true := (okL_c (o169_7 hB)).2.2
theorem o169_9 (hB : BytesOK) : okL 169 17 T169_9 = true := (okL_c (o169_8 hB)).2.2
theorem ml169 : mml 169 = 1 := by decide +kernel
theorem mr169 : mret 169 = some .int := by decide +kernel
theorem mg169 : kGood 169 = true := by decide +kernel

def T170_12 : List Tok := []
def T170_11 : List Tok := (.ireturn, 1, 0, 0) :: T170_12
def T170_10 : List Tok := (.iconst 1, 1, 0, 0) :: T170_11
def T170_9 : List Tok := (.invokevirtual 335, 3, 43, 1311) :: T170_10
def T170_8 : List Tok := (.getfield 16, 3, 641, 498) :: T170_9
def T170_7 : List Tok := (.aload_n 0, 1, 0, 0) :: T170_8
def T170_6 : List Tok := (.getfield 10, 3, 640, 497) :: T170_7
def T170_5 : List Tok := (.aload_n 0, 1, 0, 0) :: T170_6
def T170_4 : List Tok := (.ireturn, 1, 0, 0) :: T170_5
def T170_3 : List Tok := (.bipush (-3), 2, 0, 0) :: T170_4
def T170_2 : List Tok := (.ifCond .ne 6, 3, 0, 0) :: T170_3
def T170_1 : List Tok := (.getfield 338, 3, 642, 499) :: T170_2
def T170_0 : List Tok := (.aload_n 0, 1, 0, 0) :: T170_1
theorem o170_0 (hB : BytesOK) : okL 170 0 T170_0 = true := by
  have h := hB.1 170
  rw [show tk 170 = T170_0 from by decide +kernel] at h
  exact h
theorem o170_1 (hB : BytesOK) : okL 170 1 T170_1 = true := (okL_c (o170_0 hB)).2.2
theorem o170_2 (hB : BytesOK) : okL 170 4 T170_2 = true := (okL_c (o170_1 hB)).2.2
theorem o170_3 (hB : BytesOK) : okL 170 7 T170_3 = true := (okL_c (o170_2 hB)).2.2
theorem o170_4 (hB : BytesOK) : okL 170 9 T170_4 = true := (okL_c (o170_3 hB)).2.2
theorem o170_5 (hB : BytesOK) : okL 170 10 T170_5 = true := (okL_c (o170_4 hB)).2.2
theorem o170_6 (hB : BytesOK) : okL 170 11 T170_6 = true := (okL_c (o170_5 hB)).2.2
theorem o170_7 (hB : BytesOK) : okL 170 14 T170_7 = true := (okL_c (o170_6 hB)).2.2
theorem o170_8 (hB : BytesOK) : okL 170 15 T170_8 = true := (okL_c (o170_7 hB)).2.2
theorem o170_9 (hB : BytesOK) : okL 170 18 T170_9 = true := (okL_c (o170_8 hB)).2.2
theorem o170_10 (hB : BytesOK) : okL 170 21 T170_10 = true := (okL_c (o170_9 hB)).2.2
theorem o170_11 (hB : BytesOK) : okL 170 22 T170_11 = true := (okL_c (o170_10 hB)).2.2
theorem ml170 : mml 170 = 1 := by decide +kernel
theorem mr170 : mret 170 = some .int := by decide +kernel
theorem mg170 : kGood 170 = true := by decide +kernel

def T171_9 : List Tok := []
def T171_8 : List Tok := (.ireturn, 1, 0, 0) :: T171_9
def T171_7 : List Tok := (.iconst 0, 1, 0, 0) :: T171_8
def T171_6 : List Tok := (.goto 4, 3, 0, 0) :: T171_7
def T171_5 : List Tok := (.iconst 1, 1, 0, 0) :: T171_6
def T171_4 : List Tok := (.if_icmp .ge 7, 3, 0, 0) :: T171_5
def T171_3 : List Tok := (.sipush 240, 3, 0, 0) :: T171_4
def T171_2 : List Tok := (.iload_n 0, 1, 0, 0) :: T171_3
def T171_1 : List Tok := (.ifCond .lt 14, 3, 0, 0) :: T171_2
def T171_0 : List Tok := (.iload_n 0, 1, 0, 0) :: T171_1
theorem o171_0 (hB : BytesOK) : okL 171 0 T171_0 = true := by
  have h := hB.1 171
  rw [show tk 171 = T171_0 from by decide +kernel] at h
  exact h
theorem o171_1 (hB : BytesOK) : okL 171 1 T171_1 = true := (okL_c (o171_0 hB)).2.2
theorem o171_2 (hB : BytesOK) : okL 171 4 T171_2 = true := (okL_c (o171_1 hB)).2.2
theorem o171_3 (hB : BytesOK) : okL 171 5 T171_3 = true := (okL_c (o171_2 hB)).2.2
theorem o171_4 (hB : BytesOK) : okL 171 8 T171_4 = true := (okL_c (o171_3 hB)).2.2
theorem o171_5 (hB : BytesOK) : okL 171 11 T171_5 = true := (okL_c (o171_4 hB)).2.2
theorem o171_6 (hB : BytesOK) : okL 171 12 T171_6 = true := (okL_c (o171_5 hB)).2.2
theorem o171_7 (hB : BytesOK) : okL 171 15 T171_7 = true := (okL_c (o171_6 hB)).2.2
theorem o171_8 (hB : BytesOK) : okL 171 16 T171_8 = true := (okL_c (o171_7 hB)).2.2
theorem ml171 : mml 171 = 1 := by decide +kernel
theorem mr171 : mret 171 = some .boolean := by decide +kernel
theorem mg171 : kGood 171 = true := by decide +kernel

def T174_9 : List Tok := []
def T174_8 : List Tok := (.ireturn, 1, 0, 0) :: T174_9
def T174_7 : List Tok := (.iconst 0, 1, 0, 0) :: T174_8
def T174_6 : List Tok := (.goto 4, 3, 0, 0) :: T174_7
def T174_5 : List Tok := (.iconst 1, 1, 0, 0) :: T174_6
def T174_4 : List Tok := (.if_icmp .ge 7, 3, 0, 0) :: T174_5
def T174_3 : List Tok := (.sipush 4096, 3, 0, 0) :: T174_4
def T174_2 : List Tok := (.iload_n 0, 1, 0, 0) :: T174_3
def T174_1 : List Tok := (.ifCond .le 14, 3, 0, 0) :: T174_2
def T174_0 : List Tok := (.iload_n 0, 1, 0, 0) :: T174_1
theorem o174_0 (hB : BytesOK) : okL 174 0 T174_0 = true := by
  have h := hB.1 174
  rw [show tk 174 = T174_0 from by decide +kernel] at h
  exact h
theorem o174_1 (hB : BytesOK) : okL 174 1 T174_1 = true := (okL_c (o174_0 hB)).2.2
theorem o174_2 (hB : BytesOK) : okL 174 4 T174_2 = true := (okL_c (o174_1 hB)).2.2
theorem o174_3 (hB : BytesOK) : okL 174 5 T174_3 = true := (okL_c (o174_2 hB)).2.2
theorem o174_4 (hB : BytesOK) : okL 174 8 T174_4 = true := (okL_c (o174_3 hB)).2.2
theorem o174_5 (hB : BytesOK) : okL 174 11 T174_5 = true := (okL_c (o174_4 hB)).2.2
theorem o174_6 (hB : BytesOK) : okL 174 12 T174_6 = true := (okL_c (o174_5 hB)).2.2
theorem o174_7 (hB : BytesOK) : okL 174 15 T174_7 = true := (okL_c (o174_6 hB)).2.2
theorem o174_8 (hB : BytesOK) : okL 174 16 T174_8 = true := (okL_c (o174_7 hB)).2.2
theorem ml174 : mml 174 = 1 := by decide +kernel
theorem mr174 : mret 174 = some .boolean := by decide +kernel
theorem mg174 : kGood 174 = true := by decide +kernel

def T175_9 : List Tok := []
def T175_8 : List Tok := (.ireturn, 1, 0, 0) :: T175_9
def T175_7 : List Tok := (.iconst 0, 1, 0, 0) :: T175_8
def T175_6 : List Tok := (.goto 4, 3, 0, 0) :: T175_7
def T175_5 : List Tok := (.iconst 1, 1, 0, 0) :: T175_6
def T175_4 : List Tok := (.if_icmp .ge 7, 3, 0, 0) :: T175_5
def T175_3 : List Tok := (.iconst 4, 1, 0, 0) :: T175_4
def T175_2 : List Tok := (.iload_n 0, 1, 0, 0) :: T175_3
def T175_1 : List Tok := (.ifCond .lt 12, 3, 0, 0) :: T175_2
def T175_0 : List Tok := (.iload_n 0, 1, 0, 0) :: T175_1
theorem o175_0 (hB : BytesOK) : okL 175 0 T175_0 = true := by
  have h := hB.1 175
  rw [show tk 175 = T175_0 from by decide +kernel] at h
  exact h
theorem o175_1 (hB : BytesOK) : okL 175 1 T175_1 = true := (okL_c (o175_0 hB)).2.2
theorem o175_2 (hB : BytesOK) : okL 175 4 T175_2 = true := (okL_c (o175_1 hB)).2.2
theorem o175_3 (hB : BytesOK) : okL 175 5 T175_3 = true := (okL_c (o175_2 hB)).2.2
theorem o175_4 (hB : BytesOK) : okL 175 6 T175_4 = true := (okL_c (o175_3 hB)).2.2
theorem o175_5 (hB : BytesOK) : okL 175 9 T175_5 = true := (okL_c (o175_4 hB)).2.2
theorem o175_6 (hB : BytesOK) : okL 175 10 T175_6 = true := (okL_c (o175_5 hB)).2.2
theorem o175_7 (hB : BytesOK) : okL 175 13 T175_7 = true := (okL_c (o175_6 hB)).2.2
theorem o175_8 (hB : BytesOK) : okL 175 14 T175_8 = true := (okL_c (o175_7 hB)).2.2
theorem ml175 : mml 175 = 1 := by decide +kernel
theorem mr175 : mret 175 = some .boolean := by decide +kernel
theorem mg175 : kGood 175 = true := by decide +kernel

def T177_23 : List Tok := []
def T177_22 : List Tok := (.ireturn, 1, 0, 0) :: T177_23
def T177_21 : List Tok := (.iconst 0, 1, 0, 0) :: T177_22
def T177_20 : List Tok := (.goto 4, 3, 0, 0) :: T177_21
def T177_19 : List Tok := (.iconst 1, 1, 0, 0) :: T177_20
def T177_18 : List Tok := (.if_icmp .ge 7, 3, 0, 0) :: T177_19
def T177_17 : List Tok := (.sipush 240, 3, 0, 0) :: T177_18
def T177_16 : List Tok := (.irem, 1, 0, 0) :: T177_17
def T177_15 : List Tok := (.sipush 1000, 3, 0, 0) :: T177_16
def T177_14 : List Tok := (.iload_n 0, 1, 0, 0) :: T177_15
def T177_13 : List Tok := (.if_icmp .ge 18, 3, 0, 0) :: T177_14
def T177_12 : List Tok := (.iconst 4, 1, 0, 0) :: T177_13
def T177_11 : List Tok := (.irem, 1, 0, 0) :: T177_12
def T177_10 : List Tok := (.bipush 10, 2, 0, 0) :: T177_11
def T177_9 : List Tok := (.idiv, 1, 0, 0) :: T177_10
def T177_8 : List Tok := (.sipush 1000, 3, 0, 0) :: T177_9
def T177_7 : List Tok := (.iload_n 0, 1, 0, 0) :: T177_8
def T177_6 : List Tok := (.if_icmp .ge 30, 3, 0, 0) :: T177_7
def T177_5 : List Tok := (.bipush 6, 2, 0, 0) :: T177_6
def T177_4 : List Tok := (.idiv, 1, 0, 0) :: T177_5
def T177_3 : List Tok := (.sipush 10000, 3, 0, 0) :: T177_4
def T177_2 : List Tok := (.iload_n 0, 1, 0, 0) :: T177_3
def T177_1 : List Tok := (.ifCond .lt 40, 3, 0, 0) :: T177_2
def T177_0 : List Tok := (.iload_n 0, 1, 0, 0) :: T177_1
theorem o177_0 (hB : BytesOK) : okL 177 0 T177_0 = true := by
  have h := hB.1 177
  rw [show tk 177 = T177_0 from by decide +kernel] at h
  exact h
theorem o177_1 (hB : BytesOK) : okL 177 1 T177_1 = true := (okL_c (o177_0 hB)).2.2
theorem o177_2 (hB : BytesOK) : okL 177 4 T177_2 = true := (okL_c (o177_1 hB)).2.2
theorem o177_3 (hB : BytesOK) : okL 177 5 T177_3 = true := (okL_c (o177_2 hB)).2.2
theorem o177_4 (hB : BytesOK) : okL 177 8 T177_4 = true := (okL_c (o177_3 hB)).2.2
theorem o177_5 (hB : BytesOK) : okL 177 9 T177_5 = true := (okL_c (o177_4 hB)).2.2
theorem o177_6 (hB : BytesOK) : okL 177 11 T177_6 = true := (okL_c (o177_5 hB)).2.2
theorem o177_7 (hB : BytesOK) : okL 177 14 T177_7 = true := (okL_c (o177_6 hB)).2.2
theorem o177_8 (hB : BytesOK) : okL 177 15 T177_8 = true := (okL_c (o177_7 hB)).2.2
theorem o177_9 (hB : BytesOK) : okL 177 18 T177_9 = true := (okL_c (o177_8 hB)).2.2
theorem o177_10 (hB : BytesOK) : okL 177 19 T177_10 = true := (okL_c (o177_9 hB)).2.2
theorem o177_11 (hB : BytesOK) : okL 177 21 T177_11 = true := (okL_c (o177_10 hB)).2.2
theorem o177_12 (hB : BytesOK) : okL 177 22 T177_12 = true := (okL_c (o177_11 hB)).2.2
theorem o177_13 (hB : BytesOK) : okL 177 23 T177_13 = true := (okL_c (o177_12 hB)).2.2
theorem o177_14 (hB : BytesOK) : okL 177 26 T177_14 = true := (okL_c (o177_13 hB)).2.2
theorem o177_15 (hB : BytesOK) : okL 177 27 T177_15 = true := (okL_c (o177_14 hB)).2.2
theorem o177_16 (hB : BytesOK) : okL 177 30 T177_16 = true := (okL_c (o177_15 hB)).2.2
theorem o177_17 (hB : BytesOK) : okL 177 31 T177_17 = true := (okL_c (o177_16 hB)).2.2
theorem o177_18 (hB : BytesOK) : okL 177 34 T177_18 = true := (okL_c (o177_17 hB)).2.2
theorem o177_19 (hB : BytesOK) : okL 177 37 T177_19 = true := (okL_c (o177_18 hB)).2.2
theorem o177_20 (hB : BytesOK) : okL 177 38 T177_20 = true := (okL_c (o177_19 hB)).2.2
theorem o177_21 (hB : BytesOK) : okL 177 41 T177_21 = true := (okL_c (o177_20 hB)).2.2
theorem o177_22 (hB : BytesOK) : okL 177 42 T177_22 = true := (okL_c (o177_21 hB)).2.2
theorem ml177 : mml 177 = 1 := by decide +kernel
theorem mr177 : mret 177 = some .boolean := by decide +kernel
theorem mg177 : kGood 177 = true := by decide +kernel

def T178_11 : List Tok := []
def T178_10 : List Tok := (.return_, 1, 0, 0) :: T178_11
def T178_9 : List Tok := (.invokestatic 347, 3, 1001, 828) :: T178_10
def T178_8 : List Tok := (.invokestatic 342, 3, 300, 825) :: T178_9
def T178_7 : List Tok := (.arraylength, 1, 0, 0) :: T178_8
def T178_6 : List Tok := (.aload_n 1, 1, 0, 0) :: T178_7
def T178_5 : List Tok := (.arraylength, 1, 0, 0) :: T178_6
def T178_4 : List Tok := (.aload_n 0, 1, 0, 0) :: T178_5
def T178_3 : List Tok := (.iconst 0, 1, 0, 0) :: T178_4
def T178_2 : List Tok := (.aload_n 1, 1, 0, 0) :: T178_3
def T178_1 : List Tok := (.iconst 0, 1, 0, 0) :: T178_2
def T178_0 : List Tok := (.aload_n 0, 1, 0, 0) :: T178_1
theorem o178_0 (hB : BytesOK) : okL 178 0 T178_0 = true := by
  have h := hB.1 178
  rw [show tk 178 = T178_0 from by decide +kernel] at h
  exact h
theorem o178_1 (hB : BytesOK) : okL 178 1 T178_1 = true := (okL_c (o178_0 hB)).2.2
theorem o178_2 (hB : BytesOK) : okL 178 2 T178_2 = true := (okL_c (o178_1 hB)).2.2
theorem o178_3 (hB : BytesOK) : okL 178 3 T178_3 = true := (okL_c (o178_2 hB)).2.2
theorem o178_4 (hB : BytesOK) : okL 178 4 T178_4 = true := (okL_c (o178_3 hB)).2.2
theorem o178_5 (hB : BytesOK) : okL 178 5 T178_5 = true := (okL_c (o178_4 hB)).2.2
theorem o178_6 (hB : BytesOK) : okL 178 6 T178_6 = true := (okL_c (o178_5 hB)).2.2
theorem o178_7 (hB : BytesOK) : okL 178 7 T178_7 = true := (okL_c (o178_6 hB)).2.2
theorem o178_8 (hB : BytesOK) : okL 178 8 T178_8 = true := (okL_c (o178_7 hB)).2.2
theorem o178_9 (hB : BytesOK) : okL 178 11 T178_9 = true := (okL_c (o178_8 hB)).2.2
theorem o178_10 (hB : BytesOK) : okL 178 14 T178_10 = true := (okL_c (o178_9 hB)).2.2
theorem ml178 : mml 178 = 2 := by decide +kernel
theorem mr178 : mret 178 = none := by decide +kernel
theorem mg178 : kGood 178 = true := by decide +kernel

def T184_10 : List Tok := []
def T184_9 : List Tok := (.ireturn, 1, 0, 0) :: T184_10
def T184_8 : List Tok := (.iconst 0, 1, 0, 0) :: T184_9
def T184_7 : List Tok := (.goto 4, 3, 0, 0) :: T184_8
def T184_6 : List Tok := (.iconst 1, 1, 0, 0) :: T184_7
def T184_5 : List Tok := (.if_icmp .gt 7, 3, 0, 0) :: T184_6
def T184_4 : List Tok := (.iload_n 2, 1, 0, 0) :: T184_5
def T184_3 : List Tok := (.iload_n 0, 1, 0, 0) :: T184_4
def T184_2 : List Tok := (.if_icmp .lt 12, 3, 0, 0) :: T184_3
def T184_1 : List Tok := (.iload_n 1, 1, 0, 0) :: T184_2
def T184_0 : List Tok := (.iload_n 0, 1, 0, 0) :: T184_1
theorem o184_0 (hB : BytesOK) : okL 184 0 T184_0 = true := by
  have h := hB.1 184
  rw [show tk 184 = T184_0 from by decide +kernel] at h
  exact h
theorem o184_1 (hB : BytesOK) : okL 184 1 T184_1 = true := (okL_c (o184_0 hB)).2.2
theorem o184_2 (hB : BytesOK) : okL 184 2 T184_2 = true := (okL_c (o184_1 hB)).2.2
theorem o184_3 (hB : BytesOK) : okL 184 5 T184_3 = true := (okL_c (o184_2 hB)).2.2
theorem o184_4 (hB : BytesOK) : okL 184 6 T184_4 = true := (okL_c (o184_3 hB)).2.2
theorem o184_5 (hB : BytesOK) : okL 184 7 T184_5 = true := (okL_c (o184_4 hB)).2.2
theorem o184_6 (hB : BytesOK) : okL 184 10 T184_6 = true := (okL_c (o184_5 hB)).2.2
theorem o184_7 (hB : BytesOK) : okL 184 11 T184_7 = true := (okL_c (o184_6 hB)).2.2
theorem o184_8 (hB : BytesOK) : okL 184 14 T184_8 = true := (okL_c (o184_7 hB)).2.2
theorem o184_9 (hB : BytesOK) : okL 184 15 T184_9 = true := (okL_c (o184_8 hB)).2.2
theorem ml184 : mml 184 = 3 := by decide +kernel
theorem mr184 : mret 184 = some .boolean := by decide +kernel
theorem mg184 : kGood 184 = true := by decide +kernel

def T185_5 : List Tok := []
def T185_4 : List Tok := (.ireturn, 1, 0, 0) :: T185_5
def T185_3 : List Tok := (.invokestatic 64, 3, 184, 1491) :: T185_4
def T185_2 : List Tok := (.sipush 239, 3, 0, 0) :: T185_3
def T185_1 : List Tok := (.iconst 0, 1, 0, 0) :: T185_2
def T185_0 : List Tok := (.iload_n 0, 1, 0, 0) :: T185_1
theorem o185_0 (hB : BytesOK) : okL 185 0 T185_0 = true := by
  have h := hB.1 185
  rw [show tk 185 = T185_0 from by decide +kernel] at h
  exact h
theorem o185_1 (hB : BytesOK) : okL 185 1 T185_1 = true := (okL_c (o185_0 hB)).2.2
theorem o185_2 (hB : BytesOK) : okL 185 2 T185_2 = true := (okL_c (o185_1 hB)).2.2
theorem o185_3 (hB : BytesOK) : okL 185 5 T185_3 = true := (okL_c (o185_2 hB)).2.2
theorem o185_4 (hB : BytesOK) : okL 185 8 T185_4 = true := (okL_c (o185_3 hB)).2.2
theorem ml185 : mml 185 = 1 := by decide +kernel
theorem mr185 : mret 185 = some .boolean := by decide +kernel
theorem mg185 : kGood 185 = true := by decide +kernel

def T188_5 : List Tok := []
def T188_4 : List Tok := (.ireturn, 1, 0, 0) :: T188_5
def T188_3 : List Tok := (.invokestatic 64, 3, 184, 1491) :: T188_4
def T188_2 : List Tok := (.sipush 4095, 3, 0, 0) :: T188_3
def T188_1 : List Tok := (.iconst 1, 1, 0, 0) :: T188_2
def T188_0 : List Tok := (.iload_n 0, 1, 0, 0) :: T188_1
theorem o188_0 (hB : BytesOK) : okL 188 0 T188_0 = true := by
  have h := hB.1 188
  rw [show tk 188 = T188_0 from by decide +kernel] at h
  exact h
theorem o188_1 (hB : BytesOK) : okL 188 1 T188_1 = true := (okL_c (o188_0 hB)).2.2
theorem o188_2 (hB : BytesOK) : okL 188 2 T188_2 = true := (okL_c (o188_1 hB)).2.2
theorem o188_3 (hB : BytesOK) : okL 188 5 T188_3 = true := (okL_c (o188_2 hB)).2.2
theorem o188_4 (hB : BytesOK) : okL 188 8 T188_4 = true := (okL_c (o188_3 hB)).2.2
theorem ml188 : mml 188 = 1 := by decide +kernel
theorem mr188 : mret 188 = some .boolean := by decide +kernel
theorem mg188 : kGood 188 = true := by decide +kernel

def T189_30 : List Tok := []
def T189_29 : List Tok := (.ireturn, 1, 0, 0) :: T189_30
def T189_28 : List Tok := (.iaload, 1, 0, 0) :: T189_29
def T189_27 : List Tok := (.iconst 0, 1, 0, 0) :: T189_28
def T189_26 : List Tok := (.getfield 7, 3, 704, 1345) :: T189_27
def T189_25 : List Tok := (.aload_n 0, 1, 0, 0) :: T189_26
def T189_24 : List Tok := (.iastore, 1, 0, 0) :: T189_25
def T189_23 : List Tok := (.iadd, 1, 0, 0) :: T189_24
def T189_22 : List Tok := (.iload_n 1, 1, 0, 0) :: T189_23
def T189_21 : List Tok := (.iaload, 1, 0, 0) :: T189_22
def T189_20 : List Tok := (.dup2, 1, 0, 0) :: T189_21
def T189_19 : List Tok := (.iconst 0, 1, 0, 0) :: T189_20
def T189_18 : List Tok := (.getfield 7, 3, 704, 1345) :: T189_19
def T189_17 : List Tok := (.aload_n 0, 1, 0, 0) :: T189_18
def T189_16 : List Tok := (.ireturn, 1, 0, 0) :: T189_17
def T189_15 : List Tok := (.bipush (-4), 2, 0, 0) :: T189_16
def T189_14 : List Tok := (.if_icmp .le 6, 3, 0, 0) :: T189_15
def T189_13 : List Tok := (.sipush 239, 3, 0, 0) :: T189_14
def T189_12 : List Tok := (.iadd, 1, 0, 0) :: T189_13
def T189_11 : List Tok := (.iload_n 1, 1, 0, 0) :: T189_12
def T189_10 : List Tok := (.iaload, 1, 0, 0) :: T189_11
def T189_9 : List Tok := (.iconst 0, 1, 0, 0) :: T189_10
def T189_8 : List Tok := (.getfield 7, 3, 704, 1345) :: T189_9
def T189_7 : List Tok := (.aload_n 0, 1, 0, 0) :: T189_8
def T189_6 : List Tok := (.ireturn, 1, 0, 0) :: T189_7
def T189_5 : List Tok := (.iconst (-1), 1, 0, 0) :: T189_6
def T189_4 : List Tok := (.ifCond .ne 5, 3, 0, 0) :: T189_5
def T189_3 : List Tok := (.invokestatic 64, 3, 184, 1491) :: T189_4
def T189_2 : List Tok := (.bipush 60, 2, 0, 0) :: T189_3
def T189_1 : List Tok := (.iconst 1, 1, 0, 0) :: T189_2
def T189_0 : List Tok := (.iload_n 1, 1, 0, 0) :: T189_1
theorem o189_0 (hB : BytesOK) : okL 189 0 T189_0 = true := by
  have h := hB.1 189
  rw [show tk 189 = T189_0 from by decide +kernel] at h
  exact h
theorem o189_1 (hB : BytesOK) : okL 189 1 T189_1 = true := (okL_c (o189_0 hB)).2.2
theorem o189_2 (hB : BytesOK) : okL 189 2 T189_2 = true := (okL_c (o189_1 hB)).2.2
theorem o189_3 (hB : BytesOK) : okL 189 4 T189_3 = true := (okL_c (o189_2 hB)).2.2
theorem o189_4 (hB : BytesOK) : okL 189 7 T189_4 = true := (okL_c (o189_3 hB)).2.2
theorem o189_5 (hB : BytesOK) : okL 189 10 T189_5 = true := (okL_c (o189_4 hB)).2.2
theorem o189_6 (hB : BytesOK) : okL 189 11 T189_6 = true := (okL_c (o189_5 hB)).2.2
theorem o189_7 (hB : BytesOK) : okL 189 12 T189_7 = true := (okL_c (o189_6 hB)).2.2
theorem o189_8 (hB : BytesOK) : okL 189 13 T189_8 = true := (okL_c (o189_7 hB)).2.2
theorem o189_9 (hB : BytesOK) : okL 189 16 T189_9 = true := (okL_c (o189_8 hB)).2.2
theorem o189_10 (hB : BytesOK) : okL 189 17 T189_10 = true := (okL_c (o189_9 hB)).2.2
theorem o189_11 (hB : BytesOK) : okL 189 18 T189_11 = true := (okL_c (o189_10 hB)).2.2
theorem o189_12 (hB : BytesOK) : okL 189 19 T189_12 = true := (okL_c (o189_11 hB)).2.2
theorem o189_13 (hB : BytesOK) : okL 189 20 T189_13 = true := (okL_c (o189_12 hB)).2.2
theorem o189_14 (hB : BytesOK) : okL 189 23 T189_14 = true := (okL_c (o189_13 hB)).2.2
theorem o189_15 (hB : BytesOK) : okL 189 26 T189_15 = true := (okL_c (o189_14 hB)).2.2
theorem o189_16 (hB : BytesOK) : okL 189 28 T189_16 = true := (okL_c (o189_15 hB)).2.2
theorem o189_17 (hB : BytesOK) : okL 189 29 T189_17 = true := (okL_c (o189_16 hB)).2.2
theorem o189_18 (hB : BytesOK) : okL 189 30 T189_18 = true := (okL_c (o189_17 hB)).2.2
theorem o189_19 (hB : BytesOK) : okL 189 33 T189_19 = true := (okL_c (o189_18 hB)).2.2
theorem o189_20 (hB : BytesOK) : okL 189 34 T189_20 = true := (okL_c (o189_19 hB)).2.2
theorem o189_21 (hB : BytesOK) : okL 189 35 T189_21 = true := (okL_c (o189_20 hB)).2.2
theorem o189_22 (hB : BytesOK) : okL 189 36 T189_22 = true := (okL_c (o189_21 hB)).2.2
theorem o189_23 (hB : BytesOK) : okL 189 37 T189_23 = true := (okL_c (o189_22 hB)).2.2
theorem o189_24 (hB : BytesOK) : okL 189 38 T189_24 = true := (okL_c (o189_23 hB)).2.2
theorem o189_25 (hB : BytesOK) : okL 189 39 T189_25 = true := (okL_c (o189_24 hB)).2.2
theorem o189_26 (hB : BytesOK) : okL 189 40 T189_26 = true := (okL_c (o189_25 hB)).2.2
theorem o189_27 (hB : BytesOK) : okL 189 43 T189_27 = true := (okL_c (o189_26 hB)).2.2
theorem o189_28 (hB : BytesOK) : okL 189 44 T189_28 = true := (okL_c (o189_27 hB)).2.2
theorem o189_29 (hB : BytesOK) : okL 189 45 T189_29 = true := (okL_c (o189_28 hB)).2.2
theorem ml189 : mml 189 = 2 := by decide +kernel
theorem mr189 : mret 189 = some .int := by decide +kernel
theorem mg189 : kGood 189 = true := by decide +kernel

def T190_10 : List Tok := []
def T190_9 : List Tok := (.ireturn, 1, 0, 0) :: T190_10
def T190_8 : List Tok := (.invokestatic 64, 3, 184, 1491) :: T190_9
def T190_7 : List Tok := (.isub, 1, 0, 0) :: T190_8
def T190_6 : List Tok := (.iconst 1, 1, 0, 0) :: T190_7
def T190_5 : List Tok := (.iaload, 1, 0, 0) :: T190_6
def T190_4 : List Tok := (.iconst 1, 1, 0, 0) :: T190_5
def T190_3 : List Tok := (.getfield 7, 3, 704, 1345) :: T190_4
def T190_2 : List Tok := (.aload_n 0, 1, 0, 0) :: T190_3
def T190_1 : List Tok := (.iconst 0, 1, 0, 0) :: T190_2
def T190_0 : List Tok := (.iload_n 1, 1, 0, 0) :: T190_1
theorem o190_0 (hB : BytesOK) : okL 190 0 T190_0 = true := by
  have h := hB.1 190
  rw [show tk 190 = T190_0 from by decide +kernel] at h
  exact h
theorem o190_1 (hB : BytesOK) : okL 190 1 T190_1 = true := (okL_c (o190_0 hB)).2.2
theorem o190_2 (hB : BytesOK) : okL 190 2 T190_2 = true := (okL_c (o190_1 hB)).2.2
theorem o190_3 (hB : BytesOK) : okL 190 3 T190_3 = true := (okL_c (o190_2 hB)).2.2
theorem o190_4 (hB : BytesOK) : okL 190 6 T190_4 = true := (okL_c (o190_3 hB)).2.2
theorem o190_5 (hB : BytesOK) : okL 190 7 T190_5 = true := (okL_c (o190_4 hB)).2.2
theorem o190_6 (hB : BytesOK) : okL 190 8 T190_6 = true := (okL_c (o190_5 hB)).2.2
theorem o190_7 (hB : BytesOK) : okL 190 9 T190_7 = true := (okL_c (o190_6 hB)).2.2
theorem o190_8 (hB : BytesOK) : okL 190 10 T190_8 = true := (okL_c (o190_7 hB)).2.2
theorem o190_9 (hB : BytesOK) : okL 190 13 T190_9 = true := (okL_c (o190_8 hB)).2.2
theorem ml190 : mml 190 = 2 := by decide +kernel
theorem mr190 : mret 190 = some .boolean := by decide +kernel
theorem mg190 : kGood 190 = true := by decide +kernel

def T191_11 : List Tok := []
def T191_10 : List Tok := (.ireturn, 1, 0, 0) :: T191_11
def T191_9 : List Tok := (.iaload, 1, 0, 0) :: T191_10
def T191_8 : List Tok := (.iadd, 1, 0, 0) :: T191_9
def T191_7 : List Tok := (.iload_n 2, 1, 0, 0) :: T191_8
def T191_6 : List Tok := (.iadd, 1, 0, 0) :: T191_7
def T191_5 : List Tok := (.imul, 1, 0, 0) :: T191_6
def T191_4 : List Tok := (.iload_n 1, 1, 0, 0) :: T191_5
def T191_3 : List Tok := (.bipush 8, 2, 0, 0) :: T191_4
def T191_2 : List Tok := (.bipush 16, 2, 0, 0) :: T191_3
def T191_1 : List Tok := (.getfield 7, 3, 704, 1345) :: T191_2
def T191_0 : List Tok := (.aload_n 0, 1, 0, 0) :: T191_1
theorem o191_0 (hB : BytesOK) : okL 191 0 T191_0 = true := by
  have h := hB.1 191
  rw [show tk 191 = T191_0 from by decide +kernel] at h
  exact h
theorem o191_1 (hB : BytesOK) : okL 191 1 T191_1 = true := (okL_c (o191_0 hB)).2.2
theorem o191_2 (hB : BytesOK) : okL 191 4 T191_2 = true := (okL_c (o191_1 hB)).2.2
theorem o191_3 (hB : BytesOK) : okL 191 6 T191_3 = true := (okL_c (o191_2 hB)).2.2
theorem o191_4 (hB : BytesOK) : okL 191 8 T191_4 = true := (okL_c (o191_3 hB)).2.2
theorem o191_5 (hB : BytesOK) : okL 191 9 T191_5 = true := (okL_c (o191_4 hB)).2.2
theorem o191_6 (hB : BytesOK) : okL 191 10 T191_6 = true := (okL_c (o191_5 hB)).2.2
theorem o191_7 (hB : BytesOK) : okL 191 11 T191_7 = true := (okL_c (o191_6 hB)).2.2
theorem o191_8 (hB : BytesOK) : okL 191 12 T191_8 = true := (okL_c (o191_7 hB)).2.2
theorem o191_9 (hB : BytesOK) : okL 191 13 T191_9 = true := (okL_c (o191_8 hB)).2.2
theorem o191_10 (hB : BytesOK) : okL 191 14 T191_10 = true := (okL_c (o191_9 hB)).2.2
theorem ml191 : mml 191 = 3 := by decide +kernel
theorem mr191 : mret 191 = some .int := by decide +kernel
theorem mg191 : kGood 191 = true := by decide +kernel

def T192_141 : List Tok := []
def T192_140 : List Tok := (.ireturn, 1, 0, 0) :: T192_141
def T192_139 : List Tok := (.isub, 1, 0, 0) :: T192_140
def T192_138 : List Tok := (.iconst 1, 1, 0, 0) :: T192_139
def T192_137 : List Tok := (.iaload, 1, 0, 0) :: T192_138
def T192_136 : List Tok := (.iconst 1, 1, 0, 0) :: T192_137
def T192_135 : List Tok := (.getfield 7, 3, 704, 1345) :: T192_136
def T192_134 : List Tok := (.aload_n 0, 1, 0, 0) :: T192_135
def T192_133 : List Tok := (.iastore, 1, 0, 0) :: T192_134
def T192_132 : List Tok := (.iadd, 1, 0, 0) :: T192_133
def T192_131 : List Tok := (.iconst 1, 1, 0, 0) :: T192_132
def T192_130 : List Tok := (.iaload, 1, 0, 0) :: T192_131
def T192_129 : List Tok := (.dup2, 1, 0, 0) :: T192_130
def T192_128 : List Tok := (.iconst 1, 1, 0, 0) :: T192_129
def T192_127 : List Tok := (.getfield 7, 3, 704, 1345) :: T192_128
def T192_126 : List Tok := (.aload_n 0, 1, 0, 0) :: T192_127
def T192_125 : List Tok := (.iastore, 1, 0, 0) :: T192_126
def T192_124 : List Tok := (.iconst 0, 1, 0, 0) :: T192_125
def T192_123 : List Tok := (.iadd, 1, 0, 0) :: T192_124
def T192_122 : List Tok := (.bipush 7, 2, 0, 0) :: T192_123
def T192_121 : List Tok := (.iload 5, 2, 0, 0) :: T192_122
def T192_120 : List Tok := (.getfield 7, 3, 704, 1345) :: T192_121
def T192_119 : List Tok := (.aload_n 0, 1, 0, 0) :: T192_120
def T192_118 : List Tok := (.iastore, 1, 0, 0) :: T192_119
def T192_117 : List Tok := (.iload 4, 2, 0, 0) :: T192_118
def T192_116 : List Tok := (.iadd, 1, 0, 0) :: T192_117
def T192_115 : List Tok := (.bipush 6, 2, 0, 0) :: T192_116
def T192_114 : List Tok := (.iload 5, 2, 0, 0) :: T192_115
def T192_113 : List Tok := (.getfield 7, 3, 704, 1345) :: T192_114
def T192_112 : List Tok := (.aload_n 0, 1, 0, 0) :: T192_113
def T192_111 : List Tok := (.iastore, 1, 0, 0) :: T192_112
def T192_110 : List Tok := (.irem, 1, 0, 0) :: T192_111
def T192_109 : List Tok := (.sipush 1000, 3, 0, 0) :: T192_110
def T192_108 : List Tok := (.iload_n 3, 1, 0, 0) :: T192_109
def T192_107 : List Tok := (.iadd, 1, 0, 0) :: T192_108
def T192_106 : List Tok := (.iconst 5, 1, 0, 0) :: T192_107
def T192_105 : List Tok := (.iload 5, 2, 0, 0) :: T192_106
def T192_104 : List Tok := (.getfield 7, 3, 704, 1345) :: T192_105
def T192_103 : List Tok := (.aload_n 0, 1, 0, 0) :: T192_104
def T192_102 : List Tok := (.iastore, 1, 0, 0) :: T192_103
def T192_101 : List Tok := (.idiv, 1, 0, 0) :: T192_102
def T192_100 : List Tok := (.sipush 1000, 3, 0, 0) :: T192_101
def T192_99 : List Tok := (.iload_n 3, 1, 0, 0) :: T192_100
def T192_98 : List Tok := (.iadd, 1, 0, 0) :: T192_99
def T192_97 : List Tok := (.iconst 4, 1, 0, 0) :: T192_98
def T192_96 : List Tok := (.iload 5, 2, 0, 0) :: T192_97
def T192_95 : List Tok := (.getfield 7, 3, 704, 1345) :: T192_96
def T192_94 : List Tok := (.aload_n 0, 1, 0, 0) :: T192_95
def T192_93 : List Tok := (.iastore, 1, 0, 0) :: T192_94
def T192_92 : List Tok := (.iload_n 2, 1, 0, 0) :: T192_93
def T192_91 : List Tok := (.iadd, 1, 0, 0) :: T192_92
def T192_90 : List Tok := (.iconst 3, 1, 0, 0) :: T192_91
def T192_89 : List Tok := (.iload 5, 2, 0, 0) :: T192_90
def T192_88 : List Tok := (.getfield 7, 3, 704, 1345) :: T192_89
def T192_87 : List Tok := (.aload_n 0, 1, 0, 0) :: T192_88
def T192_86 : List Tok := (.iastore, 1, 0, 0) :: T192_87
def T192_85 : List Tok := (.irem, 1, 0, 0) :: T192_86
def T192_84 : List Tok := (.bipush 10, 2, 0, 0) :: T192_85
def T192_83 : List Tok := (.iload_n 1, 1, 0, 0) :: T192_84
def T192_82 : List Tok := (.iadd, 1, 0, 0) :: T192_83
def T192_81 : List Tok := (.iconst 2, 1, 0, 0) :: T192_82
def T192_80 : List Tok := (.iload 5, 2, 0, 0) :: T192_81
def T192_79 : List Tok := (.getfield 7, 3, 704, 1345) :: T192_80
def T192_78 : List Tok := (.aload_n 0, 1, 0, 0) :: T192_79
def T192_77 : List Tok := (.iastore, 1, 0, 0) :: T192_78
def T192_76 : List Tok := (.irem, 1, 0, 0) :: T192_77
def T192_75 : List Tok := (.bipush 10, 2, 0, 0) :: T192_76
def T192_74 : List Tok := (.idiv, 1, 0, 0) :: T192_75
def T192_73 : List Tok := (.bipush 10, 2, 0, 0) :: T192_74
def T192_72 : List Tok := (.iload_n 1, 1, 0, 0) :: T192_73
def T192_71 : List Tok := (.iadd, 1, 0, 0) :: T192_72
def T192_70 : List Tok := (.iconst 1, 1, 0, 0) :: T192_71
def T192_69 : List Tok := (.iload 5, 2, 0, 0) :: T192_70
def T192_68 : List Tok := (.getfield 7, 3, 704, 1345) :: T192_69
def T192_67 : List Tok := (.aload_n 0, 1, 0, 0) :: T192_68
def T192_66 : List Tok := (.iastore, 1, 0, 0) :: T192_67
def T192_65 : List Tok := (.idiv, 1, 0, 0) :: T192_66
def T192_64 : List Tok := (.bipush 100, 2, 0, 0) :: T192_65
def T192_63 : List Tok := (.iload_n 1, 1, 0, 0) :: T192_64
def T192_62 : List Tok := (.iadd, 1, 0, 0) :: T192_63
def T192_61 : List Tok := (.iconst 0, 1, 0, 0) :: T192_62
def T192_60 : List Tok := (.iload 5, 2, 0, 0) :: T192_61
def T192_59 : List Tok := (.getfield 7, 3, 704, 1345) :: T192_60
def T192_58 : List Tok := (.aload_n 0, 1, 0, 0) :: T192_59
def T192_57 : List Tok := (.istore 5, 2, 0, 0) :: T192_58
def T192_56 : List Tok := (.iadd, 1, 0, 0) :: T192_57
def T192_55 : List Tok := (.imul, 1, 0, 0) :: T192_56
def T192_54 : List Tok := (.iaload, 1, 0, 0) :: T192_55
def T192_53 : List Tok := (.iconst 1, 1, 0, 0) :: T192_54
def T192_52 : List Tok := (.getfield 7, 3, 704, 1345) :: T192_53
def T192_51 : List Tok := (.aload_n 0, 1, 0, 0) :: T192_52
def T192_50 : List Tok := (.bipush 8, 2, 0, 0) :: T192_51
def T192_49 : List Tok := (.bipush 16, 2, 0, 0) :: T192_50
def T192_48 : List Tok := (.ireturn, 1, 0, 0) :: T192_49
def T192_47 : List Tok := (.bipush (-2), 2, 0, 0) :: T192_48
def T192_46 : List Tok := (.if_icmp .ne 6, 3, 0, 0) :: T192_47
def T192_45 : List Tok := (.bipush 16, 2, 0, 0) :: T192_46
def T192_44 : List Tok := (.iaload, 1, 0, 0) :: T192_45
def T192_43 : List Tok := (.iconst 1, 1, 0, 0) :: T192_44
def T192_42 : List Tok := (.getfield 7, 3, 704, 1345) :: T192_43
def T192_41 : List Tok := (.aload_n 0, 1, 0, 0) :: T192_42
def T192_40 : List Tok := (.ireturn, 1, 0, 0) :: T192_41
def T192_39 : List Tok := (.iconst (-1), 1, 0, 0) :: T192_40
def T192_38 : List Tok := (.ifCond .ne 5, 3, 0, 0) :: T192_39
def T192_37 : List Tok := (.invokestatic 64, 3, 184, 1491) :: T192_38
def T192_36 : List Tok := (.bipush 7, 2, 0, 0) :: T192_37
def T192_35 : List Tok := (.iconst (-1), 1, 0, 0) :: T192_36
def T192_34 : List Tok := (.iload 4, 2, 0, 0) :: T192_35
def T192_33 : List Tok := (.if_icmp .gt 14, 3, 0, 0) :: T192_34
def T192_32 : List Tok := (.irem, 1, 0, 0) :: T192_33
def T192_31 : List Tok := (.sipush 1000, 3, 0, 0) :: T192_32
def T192_30 : List Tok := (.iload_n 3, 1, 0, 0) :: T192_31
def T192_29 : List Tok := (.idiv, 1, 0, 0) :: T192_30
def T192_28 : List Tok := (.sipush 1000, 3, 0, 0) :: T192_29
def T192_27 : List Tok := (.iload_n 3, 1, 0, 0) :: T192_28
def T192_26 : List Tok := (.ifCond .eq 27, 3, 0, 0) :: T192_27
def T192_25 : List Tok := (.invokestatic 72, 3, 185, 1501) :: T192_26
def T192_24 : List Tok := (.irem, 1, 0, 0) :: T192_25
def T192_23 : List Tok := (.sipush 1000, 3, 0, 0) :: T192_24
def T192_22 : List Tok := (.iload_n 3, 1, 0, 0) :: T192_23
def T192_21 : List Tok := (.ifCond .lt 38, 3, 0, 0) :: T192_22
def T192_20 : List Tok := (.iload_n 3, 1, 0, 0) :: T192_21
def T192_19 : List Tok := (.ifCond .eq 42, 3, 0, 0) :: T192_20
def T192_18 : List Tok := (.invokestatic 68, 3, 188, 1498) :: T192_19
def T192_17 : List Tok := (.iload_n 2, 1, 0, 0) :: T192_18
def T192_16 : List Tok := (.if_icmp .lt 49, 3, 0, 0) :: T192_17
def T192_15 : List Tok := (.iconst 1, 1, 0, 0) :: T192_16
def T192_14 : List Tok := (.irem, 1, 0, 0) :: T192_15
def T192_13 : List Tok := (.bipush 10, 2, 0, 0) :: T192_14
def T192_12 : List Tok := (.iload_n 1, 1, 0, 0) :: T192_13
def T192_11 : List Tok := (.if_icmp .gt 57, 3, 0, 0) :: T192_12
def T192_10 : List Tok := (.iconst 3, 1, 0, 0) :: T192_11
def T192_9 : List Tok := (.irem, 1, 0, 0) :: T192_10
def T192_8 : List Tok := (.bipush 10, 2, 0, 0) :: T192_9
def T192_7 : List Tok := (.idiv, 1, 0, 0) :: T192_8
def T192_6 : List Tok := (.bipush 10, 2, 0, 0) :: T192_7
def T192_5 : List Tok := (.iload_n 1, 1, 0, 0) :: T192_6
def T192_4 : List Tok := (.ifCond .eq 68, 3, 0, 0) :: T192_5
def T192_3 : List Tok := (.invokestatic 64, 3, 184, 1491) :: T192_4
def T192_2 : List Tok := (.sipush 799, 3, 0, 0) :: T192_3
def T192_1 : List Tok := (.iconst 0, 1, 0, 0) :: T192_2
def T192_0 : List Tok := (.iload_n 1, 1, 0, 0) :: T192_1
theorem o192_0 (hB : BytesOK) : okL 192 0 T192_0 = true := by
  have h := hB.1 192
  rw [show tk 192 = T192_0 from by decide +kernel] at h
  exact h
theorem o192_1 (hB : BytesOK) : okL 192 1 T192_1 = true := (okL_c (o192_0 hB)).2.2
theorem o192_2 (hB : BytesOK) : okL 192 2 T192_2 = true := (okL_c (o192_1 hB)).2.2
theorem o192_3 (hB : BytesOK) : okL 192 5 T192_3 = true := (okL_c (o192_2 hB)).2.2
theorem o192_4 (hB : BytesOK) : okL 192 8 T192_4 = true := (okL_c (o192_3 hB)).2.2
theorem o192_5 (hB : BytesOK) : okL 192 11 T192_5 = true := (okL_c (o192_4 hB)).2.2
theorem o192_6 (hB : BytesOK) : okL 192 12 T192_6 = true := (okL_c (o192_5 hB)).2.2
theorem o192_7 (hB : BytesOK) : okL 192 14 T192_7 = true := (okL_c (o192_6 hB)).2.2
theorem o192_8 (hB : BytesOK) : okL 192 15 T192_8 = true := (okL_c (o192_7 hB)).2.2
theorem o192_9 (hB : BytesOK) : okL 192 17 T192_9 = true := (okL_c (o192_8 hB)).2.2
theorem o192_10 (hB : BytesOK) : okL 192 18 T192_10 = true := (okL_c (o192_9 hB)).2.2
theorem o192_11 (hB : BytesOK) : okL 192 19 T192_11 = true := (okL_c (o192_10 hB)).2.2
theorem o192_12 (hB : BytesOK) : okL 192 22 T192_12 = true := (okL_c (o192_11 hB)).2.2
theorem o192_13 (hB : BytesOK) : okL 192 23 T192_13 = true := (okL_c (o192_12 hB)).2.2
theorem o192_14 (hB : BytesOK) : okL 192 25 T192_14 = true := (okL_c (o192_13 hB)).2.2
theorem o192_15 (hB : BytesOK) : okL 192 26 T192_15 = true := (okL_c (o192_14 hB)).2.2
theorem o192_16 (hB : BytesOK) : okL 192 27 T192_16 = true := (okL_c (o192_15 hB)).2.2
theorem o192_17 (hB : BytesOK) : okL 192 30 T192_17 = true := (okL_c (o192_16 hB)).2.2
theorem o192_18 (hB : BytesOK) : okL 192 31 T192_18 = true := (okL_c (o192_17 hB)).2.2
theorem o192_19 (hB : BytesOK) : okL 192 34 T192_19 = true := (okL_c (o192_18 hB)).2.2
theorem o192_20 (hB : BytesOK) : okL 192 37 T192_20 = true := (okL_c (o192_19 hB)).2.2
theorem o192_21 (hB : BytesOK) : okL 192 38 T192_21 = true := (okL_c (o192_20 hB)).2.2
theorem o192_22 (hB : BytesOK) : okL 192 41 T192_22 = true := (okL_c (o192_21 hB)).2.2
theorem o192_23 (hB : BytesOK) : okL 192 42 T192_23 = true := (okL_c (o192_22 hB)).2.2
theorem o192_24 (hB : BytesOK) : okL 192 45 T192_24 = true := (okL_c (o192_23 hB)).2.2
theorem o192_25 (hB : BytesOK) : okL 192 46 T192_25 = true := (okL_c (o192_24 hB)).2.2
theorem o192_26 (hB : BytesOK) : okL 192 49 T192_26 = true := (okL_c (o192_25 hB)).2.2
theorem o192_27 (hB : BytesOK) : okL 192 52 T192_27 = true := (okL_c (o192_26 hB)).2.2
theorem o192_28 (hB : BytesOK) : okL 192 53 T192_28 = true := (okL_c (o192_27 hB)).2.2
theorem o192_29 (hB : BytesOK) : okL 192 56 T192_29 = true := (okL_c (o192_28 hB)).2.2
theorem o192_30 (hB : BytesOK) : okL 192 57 T192_30 = true := (okL_c (o192_29 hB)).2.2
theorem o192_31 (hB : BytesOK) : okL 192 58 T192_31 = true := (okL_c (o192_30 hB)).2.2
theorem o192_32 (hB : BytesOK) : okL 192 61 T192_32 = true := (okL_c (o192_31 hB)).2.2
theorem o192_33 (hB : BytesOK) : okL 192 62 T192_33 = true := (okL_c (o192_32 hB)).2.2
theorem o192_34 (hB : BytesOK) : okL 192 65 T192_34 = true := (okL_c (o192_33 hB)).2.2
theorem o192_35 (hB : BytesOK) : okL 192 67 T192_35 = true := (okL_c (o192_34 hB)).2.2
theorem o192_36 (hB : BytesOK) : okL 192 68 T192_36 = true := (okL_c (o192_35 hB)).2.2
theorem o192_37 (hB : BytesOK) : okL 192 70 T192_37 = true := (okL_c (o192_36 hB)).2.2
theorem o192_38 (hB : BytesOK) : okL 192 73 T192_38 = true := (okL_c (o192_37 hB)).2.2
theorem o192_39 (hB : BytesOK) : okL 192 76 T192_39 = true := (okL_c (o192_38 hB)).2.2
theorem o192_40 (hB : BytesOK) : okL 192 77 T192_40 = true := (okL_c (o192_39 hB)).2.2
theorem o192_41 (hB : BytesOK) : okL 192 78 T192_41 = true := (okL_c (o192_40 hB)).2.2
theorem o192_42 (hB : BytesOK) : okL 192 79 T192_42 = true := (okL_c (o192_41 hB)).2.2
theorem o192_43 (hB : BytesOK) : okL 192 82 T192_43 = true := (okL_c (o192_42 hB)).2.2
theorem o192_44 (hB : BytesOK) : okL 192 83 T192_44 = true := (okL_c (o192_43 hB)).2.2
theorem o192_45 (hB : BytesOK) : okL 192 84 T192_45 = true := (okL_c (o192_44 hB)).2.2
theorem o192_46 (hB : BytesOK) : okL 192 86 T192_46 = true := (okL_c (o192_45 hB)).2.2
theorem o192_47 (hB : BytesOK) : okL 192 89 T192_47 = true := (okL_c (o192_46 hB)).2.2
theorem o192_48 (hB : BytesOK) : okL 192 91 T192_48 = true := (okL_c (o192_47 hB)).2.2
theorem o192_49 (hB : BytesOK) : okL 192 92 T192_49 = true := (okL_c (o192_48 hB)).2.2
theorem o192_50 (hB : BytesOK) : okL 192 94 T192_50 = true := (okL_c (o192_49 hB)).2.2
theorem o192_51 (hB : BytesOK) : okL 192 96 T192_51 = true := (okL_c (o192_50 hB)).2.2
theorem o192_52 (hB : BytesOK) : okL 192 97 T192_52 = true := (okL_c (o192_51 hB)).2.2
theorem o192_53 (hB : BytesOK) : okL 192 100 T192_53 = true := (okL_c (o192_52 hB)).2.2
theorem o192_54 (hB : BytesOK) : okL 192 101 T192_54 = true := (okL_c (o192_53 hB)).2.2
theorem o192_55 (hB : BytesOK) : okL 192 102 T192_55 = true := (okL_c (o192_54 hB)).2.2
theorem o192_56 (hB : BytesOK) : okL 192 103 T192_56 = true := (okL_c (o192_55 hB)).2.2
theorem o192_57 (hB : BytesOK) : okL 192 104 T192_57 = true := (okL_c (o192_56 hB)).2.2
theorem o192_58 (hB : BytesOK) : okL 192 106 T192_58 = true := (okL_c (o192_57 hB)).2.2
theorem o192_59 (hB : BytesOK) : okL 192 107 T192_59 = true := (okL_c (o192_58 hB)).2.2
theorem o192_60 (hB : BytesOK) : okL 192 110 T192_60 = true := (okL_c (o192_59 hB)).2.2
theorem o192_61 (hB : BytesOK) : okL 192 112 T192_61 = true := (okL_c (o192_60 hB)).2.2
theorem o192_62 (hB : BytesOK) : okL 192 113 T192_62 = true := (okL_c (o192_61 hB)).2.2
theorem o192_63 (hB : BytesOK) : okL 192 114 T192_63 = true := (okL_c (o192_62 hB)).2.2
theorem o192_64 (hB : BytesOK) : okL 192 115 T192_64 = true := (okL_c (o192_63 hB)).2.2
theorem o192_65 (hB : BytesOK) : okL 192 117 T192_65 = true := (okL_c (o192_64 hB)).2.2
theorem o192_66 (hB : BytesOK) : okL 192 118 T192_66 = true := (okL_c (o192_65 hB)).2.2
theorem o192_67 (hB : BytesOK) : okL 192 119 T192_67 = true := (okL_c (o192_66 hB)).2.2
theorem o192_68 (hB : BytesOK) : okL 192 120 T192_68 = true := (okL_c (o192_67 hB)).2.2
theorem o192_69 (hB : BytesOK) : okL 192 123 T192_69 = true := (okL_c (o192_68 hB)).2.2
theorem o192_70 (hB : BytesOK) : okL 192 125 T192_70 = true := (okL_c (o192_69 hB)).2.2
theorem o192_71 (hB : BytesOK) : okL 192 126 T192_71 = true := (okL_c (o192_70 hB)).2.2
theorem o192_72 (hB : BytesOK) : okL 192 127 T192_72 = true := (okL_c (o192_71 hB)).2.2
theorem o192_73 (hB : BytesOK) : okL 192 128 T192_73 = true := (okL_c (o192_72 hB)).2.2
theorem o192_74 (hB : BytesOK) : okL 192 130 T192_74 = true := (okL_c (o192_73 hB)).2.2
theorem o192_75 (hB : BytesOK) : okL 192 131 T192_75 = true := (okL_c (o192_74 hB)).2.2
theorem o192_76 (hB : BytesOK) : okL 192 133 T192_76 = true := (okL_c (o192_75 hB)).2.2
theorem o192_77 (hB : BytesOK) : okL 192 134 T192_77 = true := (okL_c (o192_76 hB)).2.2
theorem o192_78 (hB : BytesOK) : okL 192 135 T192_78 = true := (okL_c (o192_77 hB)).2.2
theorem o192_79 (hB : BytesOK) : okL 192 136 T192_79 = true := (okL_c (o192_78 hB)).2.2
theorem o192_80 (hB : BytesOK) : okL 192 139 T192_80 = true := (okL_c (o192_79 hB)).2.2
theorem o192_81 (hB : BytesOK) : okL 192 141 T192_81 = true := (okL_c (o192_80 hB)).2.2
theorem o192_82 (hB : BytesOK) : okL 192 142 T192_82 = true := (okL_c (o192_81 hB)).2.2
theorem o192_83 (hB : BytesOK) : okL 192 143 T192_83 = true := (okL_c (o192_82 hB)).2.2
theorem o192_84 (hB : BytesOK) : okL 192 144 T192_84 = true := (okL_c (o192_83 hB)).2.2
theorem o192_85 (hB : BytesOK) : okL 192 146 T192_85 = true := (okL_c (o192_84 hB)).2.2
theorem o192_86 (hB : BytesOK) : okL 192 147 T192_86 = true := (okL_c (o192_85 hB)).2.2
theorem o192_87 (hB : BytesOK) : okL 192 148 T192_87 = true := (okL_c (o192_86 hB)).2.2
theorem o192_88 (hB : BytesOK) : okL 192 149 T192_88 = true := (okL_c (o192_87 hB)).2.2
theorem o192_89 (hB : BytesOK) : okL 192 152 T192_89 = true := (okL_c (o192_88 hB)).2.2
theorem o192_90 (hB : BytesOK) : okL 192 154 T192_90 = true := (okL_c (o192_89 hB)).2.2
theorem o192_91 (hB : BytesOK) : okL 192 155 T192_91 = true := (okL_c (o192_90 hB)).2.2
theorem o192_92 (hB : BytesOK) : okL 192 156 T192_92 = true := (okL_c (o192_91 hB)).2.2
theorem o192_93 (hB : BytesOK) : okL 192 157 T192_93 = true := (okL_c (o192_92 hB)).2.2
theorem o192_94 (hB : BytesOK) : okL 192 158 T192_94 = true := (okL_c (o192_93 hB)).2.2
theorem o192_95 (hB : BytesOK) : okL 192 159 T192_95 = true := (okL_c (o192_94 hB)).2.2
theorem o192_96 (hB : BytesOK) : okL 192 162 T192_96 = true := (okL_c (o192_95 hB)).2.2
theorem o192_97 (hB : BytesOK) : okL 192 164 T192_97 = true := (okL_c (o192_96 hB)).2.2
theorem o192_98 (hB : BytesOK) : okL 192 165 T192_98 = true := (okL_c (o192_97 hB)).2.2
theorem o192_99 (hB : BytesOK) : okL 192 166 T192_99 = true := (okL_c (o192_98 hB)).2.2
theorem o192_100 (hB : BytesOK) : okL 192 167 T192_100 = true := (okL_c (o192_99 hB)).2.2
theorem o192_101 (hB : BytesOK) : okL 192 170 T192_101 = true := (okL_c (o192_100 hB)).2.2
theorem o192_102 (hB : BytesOK) : okL 192 171 T192_102 = true := (okL_c (o192_101 hB)).2.2
theorem o192_103 (hB : BytesOK) : okL 192 172 T192_103 = true := (okL_c (o192_102 hB)).2.2
theorem o192_104 (hB : BytesOK) : okL 192 173 T192_104 = true := (okL_c (o192_103 hB)).2.2
theorem o192_105 (hB : BytesOK) : okL 192 176 T192_105 = true := (okL_c (o192_104 hB)).2.2
theorem o192_106 (hB : BytesOK) : okL 192 178 T192_106 = true := (okL_c (o192_105 hB)).2.2
theorem o192_107 (hB : BytesOK) : okL 192 179 T192_107 = true := (okL_c (o192_106 hB)).2.2
theorem o192_108 (hB : BytesOK) : okL 192 180 T192_108 = true := (okL_c (o192_107 hB)).2.2
theorem o192_109 (hB : BytesOK) : okL 192 181 T192_109 = true := (okL_c (o192_108 hB)).2.2
theorem o192_110 (hB : BytesOK) : okL 192 184 T192_110 = true := (okL_c (o192_109 hB)).2.2
theorem o192_111 (hB : BytesOK) : okL 192 185 T192_111 = true := (okL_c (o192_110 hB)).2.2
theorem o192_112 (hB : BytesOK) : okL 192 186 T192_112 = true := (okL_c (o192_111 hB)).2.2
theorem o192_113 (hB : BytesOK) : okL 192 187 T192_113 = true := (okL_c (o192_112 hB)).2.2
theorem o192_114 (hB : BytesOK) : okL 192 190 T192_114 = true := (okL_c (o192_113 hB)).2.2
theorem o192_115 (hB : BytesOK) : okL 192 192 T192_115 = true := (okL_c (o192_114 hB)).2.2
theorem o192_116 (hB : BytesOK) : okL 192 194 T192_116 = true := (okL_c (o192_115 hB)).2.2
theorem o192_117 (hB : BytesOK) : okL 192 195 T192_117 = true := (okL_c (o192_116 hB)).2.2
theorem o192_118 (hB : BytesOK) : okL 192 197 T192_118 = true := (okL_c (o192_117 hB)).2.2
theorem o192_119 (hB : BytesOK) : okL 192 198 T192_119 = true := (okL_c (o192_118 hB)).2.2
theorem o192_120 (hB : BytesOK) : okL 192 199 T192_120 = true := (okL_c (o192_119 hB)).2.2
theorem o192_121 (hB : BytesOK) : okL 192 202 T192_121 = true := (okL_c (o192_120 hB)).2.2
theorem o192_122 (hB : BytesOK) : okL 192 204 T192_122 = true := (okL_c (o192_121 hB)).2.2
theorem o192_123 (hB : BytesOK) : okL 192 206 T192_123 = true := (okL_c (o192_122 hB)).2.2
theorem o192_124 (hB : BytesOK) : okL 192 207 T192_124 = true := (okL_c (o192_123 hB)).2.2
theorem o192_125 (hB : BytesOK) : okL 192 208 T192_125 = true := (okL_c (o192_124 hB)).2.2
theorem o192_126 (hB : BytesOK) : okL 192 209 T192_126 = true := (okL_c (o192_125 hB)).2.2
theorem o192_127 (hB : BytesOK) : okL 192 210 T192_127 = true := (okL_c (o192_126 hB)).2.2
theorem o192_128 (hB : BytesOK) : okL 192 213 T192_128 = true := (okL_c (o192_127 hB)).2.2
theorem o192_129 (hB : BytesOK) : okL 192 214 T192_129 = true := (okL_c (o192_128 hB)).2.2
theorem o192_130 (hB : BytesOK) : okL 192 215 T192_130 = true := (okL_c (o192_129 hB)).2.2
theorem o192_131 (hB : BytesOK) : okL 192 216 T192_131 = true := (okL_c (o192_130 hB)).2.2
theorem o192_132 (hB : BytesOK) : okL 192 217 T192_132 = true := (okL_c (o192_131 hB)).2.2
theorem o192_133 (hB : BytesOK) : okL 192 218 T192_133 = true := (okL_c (o192_132 hB)).2.2
theorem o192_134 (hB : BytesOK) : okL 192 219 T192_134 = true := (okL_c (o192_133 hB)).2.2
theorem o192_135 (hB : BytesOK) : okL 192 220 T192_135 = true := (okL_c (o192_134 hB)).2.2
theorem o192_136 (hB : BytesOK) : okL 192 223 T192_136 = true := (okL_c (o192_135 hB)).2.2
theorem o192_137 (hB : BytesOK) : okL 192 224 T192_137 = true := (okL_c (o192_136 hB)).2.2
theorem o192_138 (hB : BytesOK) : okL 192 225 T192_138 = true := (okL_c (o192_137 hB)).2.2
theorem o192_139 (hB : BytesOK) : okL 192 226 T192_139 = true := (okL_c (o192_138 hB)).2.2
theorem o192_140 (hB : BytesOK) : okL 192 227 T192_140 = true := (okL_c (o192_139 hB)).2.2
theorem ml192 : mml 192 = 6 := by decide +kernel
theorem mr192 : mret 192 = some .int := by decide +kernel
theorem mg192 : kGood 192 = true := by decide +kernel

def T193_64 : List Tok := []
def T193_63 : List Tok := (.ireturn, 1, 0, 0) :: T193_64
def T193_62 : List Tok := (.isub, 1, 0, 0) :: T193_63
def T193_61 : List Tok := (.iconst 1, 1, 0, 0) :: T193_62
def T193_60 : List Tok := (.iaload, 1, 0, 0) :: T193_61
def T193_59 : List Tok := (.iconst 2, 1, 0, 0) :: T193_60
def T193_58 : List Tok := (.getfield 7, 3, 704, 1345) :: T193_59
def T193_57 : List Tok := (.aload_n 0, 1, 0, 0) :: T193_58
def T193_56 : List Tok := (.iastore, 1, 0, 0) :: T193_57
def T193_55 : List Tok := (.iadd, 1, 0, 0) :: T193_56
def T193_54 : List Tok := (.iconst 1, 1, 0, 0) :: T193_55
def T193_53 : List Tok := (.iaload, 1, 0, 0) :: T193_54
def T193_52 : List Tok := (.dup2, 1, 0, 0) :: T193_53
def T193_51 : List Tok := (.iconst 2, 1, 0, 0) :: T193_52
def T193_50 : List Tok := (.getfield 7, 3, 704, 1345) :: T193_51
def T193_49 : List Tok := (.aload_n 0, 1, 0, 0) :: T193_50
def T193_48 : List Tok := (.iastore, 1, 0, 0) :: T193_49
def T193_47 : List Tok := (.iaload, 1, 0, 0) :: T193_48
def T193_46 : List Tok := (.iconst 0, 1, 0, 0) :: T193_47
def T193_45 : List Tok := (.getfield 7, 3, 704, 1345) :: T193_46
def T193_44 : List Tok := (.aload_n 0, 1, 0, 0) :: T193_45
def T193_43 : List Tok := (.iadd, 1, 0, 0) :: T193_44
def T193_42 : List Tok := (.iconst 2, 1, 0, 0) :: T193_43
def T193_41 : List Tok := (.iload_n 3, 1, 0, 0) :: T193_42
def T193_40 : List Tok := (.getfield 7, 3, 704, 1345) :: T193_41
def T193_39 : List Tok := (.aload_n 0, 1, 0, 0) :: T193_40
def T193_38 : List Tok := (.iastore, 1, 0, 0) :: T193_39
def T193_37 : List Tok := (.iconst 0, 1, 0, 0) :: T193_38
def T193_36 : List Tok := (.goto 4, 3, 0, 0) :: T193_37
def T193_35 : List Tok := (.iconst 1, 1, 0, 0) :: T193_36
def T193_34 : List Tok := (.ifCond .eq 7, 3, 0, 0) :: T193_35
def T193_33 : List Tok := (.iload_n 2, 1, 0, 0) :: T193_34
def T193_32 : List Tok := (.iadd, 1, 0, 0) :: T193_33
def T193_31 : List Tok := (.iconst 1, 1, 0, 0) :: T193_32
def T193_30 : List Tok := (.iload_n 3, 1, 0, 0) :: T193_31
def T193_29 : List Tok := (.getfield 7, 3, 704, 1345) :: T193_30
def T193_28 : List Tok := (.aload_n 0, 1, 0, 0) :: T193_29
def T193_27 : List Tok := (.iastore, 1, 0, 0) :: T193_28
def T193_26 : List Tok := (.iload_n 1, 1, 0, 0) :: T193_27
def T193_25 : List Tok := (.iload_n 3, 1, 0, 0) :: T193_26
def T193_24 : List Tok := (.getfield 7, 3, 704, 1345) :: T193_25
def T193_23 : List Tok := (.aload_n 0, 1, 0, 0) :: T193_24
def T193_22 : List Tok := (.istore_n 3, 1, 0, 0) :: T193_23
def T193_21 : List Tok := (.iadd, 1, 0, 0) :: T193_22
def T193_20 : List Tok := (.imul, 1, 0, 0) :: T193_21
def T193_19 : List Tok := (.iaload, 1, 0, 0) :: T193_20
def T193_18 : List Tok := (.iconst 2, 1, 0, 0) :: T193_19
def T193_17 : List Tok := (.getfield 7, 3, 704, 1345) :: T193_18
def T193_16 : List Tok := (.aload_n 0, 1, 0, 0) :: T193_17
def T193_15 : List Tok := (.iconst 3, 1, 0, 0) :: T193_16
def T193_14 : List Tok := (.sipush 144, 3, 0, 0) :: T193_15
def T193_13 : List Tok := (.ireturn, 1, 0, 0) :: T193_14
def T193_12 : List Tok := (.bipush (-2), 2, 0, 0) :: T193_13
def T193_11 : List Tok := (.if_icmp .ne 6, 3, 0, 0) :: T193_12
def T193_10 : List Tok := (.bipush 20, 2, 0, 0) :: T193_11
def T193_9 : List Tok := (.iaload, 1, 0, 0) :: T193_10
def T193_8 : List Tok := (.iconst 2, 1, 0, 0) :: T193_9
def T193_7 : List Tok := (.getfield 7, 3, 704, 1345) :: T193_8
def T193_6 : List Tok := (.aload_n 0, 1, 0, 0) :: T193_7
def T193_5 : List Tok := (.ireturn, 1, 0, 0) :: T193_6
def T193_4 : List Tok := (.iconst (-1), 1, 0, 0) :: T193_5
def T193_3 : List Tok := (.ifCond .ne 5, 3, 0, 0) :: T193_4
def T193_2 : List Tok := (.invokevirtual 75, 3, 190, 1508) :: T193_3
def T193_1 : List Tok := (.iload_n 1, 1, 0, 0) :: T193_2
def T193_0 : List Tok := (.aload_n 0, 1, 0, 0) :: T193_1
theorem o193_0 (hB : BytesOK) : okL 193 0 T193_0 = true := by
  have h := hB.1 193
  rw [show tk 193 = T193_0 from by decide +kernel] at h
  exact h
theorem o193_1 (hB : BytesOK) : okL 193 1 T193_1 = true := (okL_c (o193_0 hB)).2.2
theorem o193_2 (hB : BytesOK) : okL 193 2 T193_2 = true := (okL_c (o193_1 hB)).2.2
theorem o193_3 (hB : BytesOK) : okL 193 5 T193_3 = true := (okL_c (o193_2 hB)).2.2
theorem o193_4 (hB : BytesOK) : okL 193 8 T193_4 = true := (okL_c (o193_3 hB)).2.2
theorem o193_5 (hB : BytesOK) : okL 193 9 T193_5 = true := (okL_c (o193_4 hB)).2.2
theorem o193_6 (hB : BytesOK) : okL 193 10 T193_6 = true := (okL_c (o193_5 hB)).2.2
theorem o193_7 (hB : BytesOK) : okL 193 11 T193_7 = true := (okL_c (o193_6 hB)).2.2
theorem o193_8 (hB : BytesOK) : okL 193 14 T193_8 = true := (okL_c (o193_7 hB)).2.2
theorem o193_9 (hB : BytesOK) : okL 193 15 T193_9 = true := (okL_c (o193_8 hB)).2.2
theorem o193_10 (hB : BytesOK) : okL 193 16 T193_10 = true := (okL_c (o193_9 hB)).2.2
theorem o193_11 (hB : BytesOK) : okL 193 18 T193_11 = true := (okL_c (o193_10 hB)).2.2
theorem o193_12 (hB : BytesOK) : okL 193 21 T193_12 = true := (okL_c (o193_11 hB)).2.2
theorem o193_13 (hB : BytesOK) : okL 193 23 T193_13 = true := (okL_c (o193_12 hB)).2.2
theorem o193_14 (hB : BytesOK) : okL 193 24 T193_14 = true := (okL_c (o193_13 hB)).2.2
theorem o193_15 (hB : BytesOK) : okL 193 27 T193_15 = true := (okL_c (o193_14 hB)).2.2
theorem o193_16 (hB : BytesOK) : okL 193 28 T193_16 = true := (okL_c (o193_15 hB)).2.2
theorem o193_17 (hB : BytesOK) : okL 193 29 T193_17 = true := (okL_c (o193_16 hB)).2.2
theorem o193_18 (hB : BytesOK) : okL 193 32 T193_18 = true := (okL_c (o193_17 hB)).2.2
theorem o193_19 (hB : BytesOK) : okL 193 33 T193_19 = true := (okL_c (o193_18 hB)).2.2
theorem o193_20 (hB : BytesOK) : okL 193 34 T193_20 = true := (okL_c (o193_19 hB)).2.2
theorem o193_21 (hB : BytesOK) : okL 193 35 T193_21 = true := (okL_c (o193_20 hB)).2.2
theorem o193_22 (hB : BytesOK) : okL 193 36 T193_22 = true := (okL_c (o193_21 hB)).2.2
theorem o193_23 (hB : BytesOK) : okL 193 37 T193_23 = true := (okL_c (o193_22 hB)).2.2
theorem o193_24 (hB : BytesOK) : okL 193 38 T193_24 = true := (okL_c (o193_23 hB)).2.2
theorem o193_25 (hB : BytesOK) : okL 193 41 T193_25 = true := (okL_c (o193_24 hB)).2.2
theorem o193_26 (hB : BytesOK) : okL 193 42 T193_26 = true := (okL_c (o193_25 hB)).2.2
theorem o193_27 (hB : BytesOK) : okL 193 43 T193_27 = true := (okL_c (o193_26 hB)).2.2
theorem o193_28 (hB : BytesOK) : okL 193 44 T193_28 = true := (okL_c (o193_27 hB)).2.2
theorem o193_29 (hB : BytesOK) : okL 193 45 T193_29 = true := (okL_c (o193_28 hB)).2.2
theorem o193_30 (hB : BytesOK) : okL 193 48 T193_30 = true := (okL_c (o193_29 hB)).2.2
theorem o193_31 (hB : BytesOK) : okL 193 49 T193_31 = true := (okL_c (o193_30 hB)).2.2
theorem o193_32 (hB : BytesOK) : okL 193 50 T193_32 = true := (okL_c (o193_31 hB)).2.2
theorem o193_33 (hB : BytesOK) : okL 193 51 T193_33 = true := (okL_c (o193_32 hB)).2.2
theorem o193_34 (hB : BytesOK) : okL 193 52 T193_34 = true := (okL_c (o193_33 hB)).2.2
theorem o193_35 (hB : BytesOK) : okL 193 55 T193_35 = true := (okL_c (o193_34 hB)).2.2
theorem o193_36 (hB : BytesOK) : okL 193 56 T193_36 = true := (okL_c (o193_35 hB)).2.2
theorem o193_37 (hB : BytesOK) : okL 193 59 T193_37 = true := (okL_c (o193_36 hB)).2.2
theorem o193_38 (hB : BytesOK) : okL 193 60 T193_38 = true := (okL_c (o193_37 hB)).2.2
theorem o193_39 (hB : BytesOK) : okL 193 61 T193_39 = true := (okL_c (o193_38 hB)).2.2
theorem o193_40 (hB : BytesOK) : okL 193 62 T193_40 = true := (okL_c (o193_39 hB)).2.2
theorem o193_41 (hB : BytesOK) : okL 193 65 T193_41 = true := (okL_c (o193_40 hB)).2.2
theorem o193_42 (hB : BytesOK) : okL 193 66 T193_42 = true := (okL_c (o193_41 hB)).2.2
theorem o193_43 (hB : BytesOK) : okL 193 67 T193_43 = true := (okL_c (o193_42 hB)).2.2
theorem o193_44 (hB : BytesOK) : okL 193 68 T193_44 = true := (okL_c (o193_43 hB)).2.2
theorem o193_45 (hB : BytesOK) : okL 193 69 T193_45 = true := (okL_c (o193_44 hB)).2.2
theorem o193_46 (hB : BytesOK) : okL 193 72 T193_46 = true := (okL_c (o193_45 hB)).2.2
theorem o193_47 (hB : BytesOK) : okL 193 73 T193_47 = true := (okL_c (o193_46 hB)).2.2
theorem o193_48 (hB : BytesOK) : okL 193 74 T193_48 = true := (okL_c (o193_47 hB)).2.2
theorem o193_49 (hB : BytesOK) : okL 193 75 T193_49 = true := (okL_c (o193_48 hB)).2.2
theorem o193_50 (hB : BytesOK) : okL 193 76 T193_50 = true := (okL_c (o193_49 hB)).2.2
theorem o193_51 (hB : BytesOK) : okL 193 79 T193_51 = true := (okL_c (o193_50 hB)).2.2
theorem o193_52 (hB : BytesOK) : okL 193 80 T193_52 = true := (okL_c (o193_51 hB)).2.2
theorem o193_53 (hB : BytesOK) : okL 193 81 T193_53 = true := (okL_c (o193_52 hB)).2.2
theorem o193_54 (hB : BytesOK) : okL 193 82 T193_54 = true := (okL_c (o193_53 hB)).2.2
theorem o193_55 (hB : BytesOK) : okL 193 83 T193_55 = true := (okL_c (o193_54 hB)).2.2
theorem o193_56 (hB : BytesOK) : okL 193 84 T193_56 = true := (okL_c (o193_55 hB)).2.2
theorem o193_57 (hB : BytesOK) : okL 193 85 T193_57 = true := (okL_c (o193_56 hB)).2.2
theorem o193_58 (hB : BytesOK) : okL 193 86 T193_58 = true := (okL_c (o193_57 hB)).2.2
theorem o193_59 (hB : BytesOK) : okL 193 89 T193_59 = true := (okL_c (o193_58 hB)).2.2
theorem o193_60 (hB : BytesOK) : okL 193 90 T193_60 = true := (okL_c (o193_59 hB)).2.2
theorem o193_61 (hB : BytesOK) : okL 193 91 T193_61 = true := (okL_c (o193_60 hB)).2.2
theorem o193_62 (hB : BytesOK) : okL 193 92 T193_62 = true := (okL_c (o193_61 hB)).2.2
theorem o193_63 (hB : BytesOK) : okL 193 93 T193_63 = true := (okL_c (o193_62 hB)).2.2
theorem ml193 : mml 193 = 4 := by decide +kernel
theorem mr193 : mret 193 = some .int := by decide +kernel
theorem mg193 : kGood 193 = true := by decide +kernel

def T194_75 : List Tok := []
def T194_74 : List Tok := (.ireturn, 1, 0, 0) :: T194_75
def T194_73 : List Tok := (.iconst 0, 1, 0, 0) :: T194_74
def T194_72 : List Tok := (.goto 4, 3, 0, 0) :: T194_73
def T194_71 : List Tok := (.iconst 1, 1, 0, 0) :: T194_72
def T194_70 : List Tok := (.ifCond .eq 7, 3, 0, 0) :: T194_71
def T194_69 : List Tok := (.invokestatic 64, 3, 184, 1491) :: T194_70
def T194_68 : List Tok := (.invokevirtual 78, 3, 191, 1520) :: T194_69
def T194_67 : List Tok := (.iconst 5, 1, 0, 0) :: T194_68
def T194_66 : List Tok := (.iload_n 1, 1, 0, 0) :: T194_67
def T194_65 : List Tok := (.aload_n 0, 1, 0, 0) :: T194_66
def T194_64 : List Tok := (.invokevirtual 78, 3, 191, 1520) :: T194_65
def T194_63 : List Tok := (.iconst 4, 1, 0, 0) :: T194_64
def T194_62 : List Tok := (.iload_n 1, 1, 0, 0) :: T194_63
def T194_61 : List Tok := (.aload_n 0, 1, 0, 0) :: T194_62
def T194_60 : List Tok := (.iload_n 2, 1, 0, 0) :: T194_61
def T194_59 : List Tok := (.ifCond .ne 26, 3, 0, 0) :: T194_60
def T194_58 : List Tok := (.iload 4, 2, 0, 0) :: T194_59
def T194_57 : List Tok := (.goto (-93), 3, 0, 0) :: T194_58
def T194_56 : List Tok := (.iinc 5 1, 3, 0, 0) :: T194_57
def T194_55 : List Tok := (.istore 4, 2, 0, 0) :: T194_56
def T194_54 : List Tok := (.iload 4, 2, 0, 0) :: T194_55
def T194_53 : List Tok := (.goto 5, 3, 0, 0) :: T194_54
def T194_52 : List Tok := (.iconst 0, 1, 0, 0) :: T194_53
def T194_51 : List Tok := (.goto 9, 3, 0, 0) :: T194_52
def T194_50 : List Tok := (.iconst 1, 1, 0, 0) :: T194_51
def T194_49 : List Tok := (.if_icmp .ne 7, 3, 0, 0) :: T194_50
def T194_48 : List Tok := (.iconst 1, 1, 0, 0) :: T194_49
def T194_47 : List Tok := (.iaload, 1, 0, 0) :: T194_48
def T194_46 : List Tok := (.iadd, 1, 0, 0) :: T194_47
def T194_45 : List Tok := (.iconst 1, 1, 0, 0) :: T194_46
def T194_44 : List Tok := (.iadd, 1, 0, 0) :: T194_45
def T194_43 : List Tok := (.imul, 1, 0, 0) :: T194_44
def T194_42 : List Tok := (.iload 5, 2, 0, 0) :: T194_43
def T194_41 : List Tok := (.iconst 3, 1, 0, 0) :: T194_42
def T194_40 : List Tok := (.sipush 144, 3, 0, 0) :: T194_41
def T194_39 : List Tok := (.getfield 7, 3, 704, 1345) :: T194_40
def T194_38 : List Tok := (.aload_n 0, 1, 0, 0) :: T194_39
def T194_37 : List Tok := (.ifCond .eq 30, 3, 0, 0) :: T194_38
def T194_36 : List Tok := (.iload 6, 2, 0, 0) :: T194_37
def T194_35 : List Tok := (.istore 6, 2, 0, 0) :: T194_36
def T194_34 : List Tok := (.iconst 0, 1, 0, 0) :: T194_35
def T194_33 : List Tok := (.goto 4, 3, 0, 0) :: T194_34
def T194_32 : List Tok := (.iconst 1, 1, 0, 0) :: T194_33
def T194_31 : List Tok := (.if_icmp .gt 7, 3, 0, 0) :: T194_32
def T194_30 : List Tok := (.iload_n 3, 1, 0, 0) :: T194_31
def T194_29 : List Tok := (.iaload, 1, 0, 0) :: T194_30
def T194_28 : List Tok := (.iadd, 1, 0, 0) :: T194_29
def T194_27 : List Tok := (.iconst 2, 1, 0, 0) :: T194_28
def T194_26 : List Tok := (.iadd, 1, 0, 0) :: T194_27
def T194_25 : List Tok := (.imul, 1, 0, 0) :: T194_26
def T194_24 : List Tok := (.iload 5, 2, 0, 0) :: T194_25
def T194_23 : List Tok := (.iconst 3, 1, 0, 0) :: T194_24
def T194_22 : List Tok := (.sipush 144, 3, 0, 0) :: T194_23
def T194_21 : List Tok := (.getfield 7, 3, 704, 1345) :: T194_22
def T194_20 : List Tok := (.aload_n 0, 1, 0, 0) :: T194_21
def T194_19 : List Tok := (.if_icmp .ne 26, 3, 0, 0) :: T194_20
def T194_18 : List Tok := (.iload_n 1, 1, 0, 0) :: T194_19
def T194_17 : List Tok := (.iaload, 1, 0, 0) :: T194_18
def T194_16 : List Tok := (.iadd, 1, 0, 0) :: T194_17
def T194_15 : List Tok := (.imul, 1, 0, 0) :: T194_16
def T194_14 : List Tok := (.iload 5, 2, 0, 0) :: T194_15
def T194_13 : List Tok := (.iconst 3, 1, 0, 0) :: T194_14
def T194_12 : List Tok := (.sipush 144, 3, 0, 0) :: T194_13
def T194_11 : List Tok := (.getfield 7, 3, 704, 1345) :: T194_12
def T194_10 : List Tok := (.aload_n 0, 1, 0, 0) :: T194_11
def T194_9 : List Tok := (.if_icmp .ge 88, 3, 0, 0) :: T194_10
def T194_8 : List Tok := (.iaload, 1, 0, 0) :: T194_9
def T194_7 : List Tok := (.iconst 2, 1, 0, 0) :: T194_8
def T194_6 : List Tok := (.getfield 7, 3, 704, 1345) :: T194_7
def T194_5 : List Tok := (.aload_n 0, 1, 0, 0) :: T194_6
def T194_4 : List Tok := (.iload 5, 2, 0, 0) :: T194_5
def T194_3 : List Tok := (.istore 5, 2, 0, 0) :: T194_4
def T194_2 : List Tok := (.iconst 0, 1, 0, 0) :: T194_3
def T194_1 : List Tok := (.istore 4, 2, 0, 0) :: T194_2
def T194_0 : List Tok := (.iconst 0, 1, 0, 0) :: T194_1
theorem o194_0 (hB : BytesOK) : okL 194 0 T194_0 = true := by
  have h := hB.1 194
  rw [show tk 194 = T194_0 from by decide +kernel] at h
  exact h
theorem o194_1 (hB : BytesOK) : okL 194 1 T194_1 = true := (okL_c (o194_0 hB)).2.2
theorem o194_2 (hB : BytesOK) : okL 194 3 T194_2 = true := (okL_c (o194_1 hB)).2.2
theorem o194_3 (hB : BytesOK) : okL 194 4 T194_3 = true := (okL_c (o194_2 hB)).2.2
theorem o194_4 (hB : BytesOK) : okL 194 6 T194_4 = true := (okL_c (o194_3 hB)).2.2
theorem o194_5 (hB : BytesOK) : okL 194 8 T194_5 = true := (okL_c (o194_4 hB)).2.2
theorem o194_6 (hB : BytesOK) : okL 194 9 T194_6 = true := (okL_c (o194_5 hB)).2.2
theorem o194_7 (hB : BytesOK) : okL 194 12 T194_7 = true := (okL_c (o194_6 hB)).2.2
theorem o194_8 (hB : BytesOK) : okL 194 13 T194_8 = true := (okL_c (o194_7 hB)).2.2
theorem o194_9 (hB : BytesOK) : okL 194 14 T194_9 = true := (okL_c (o194_8 hB)).2.2
theorem o194_10 (hB : BytesOK) : okL 194 17 T194_10 = true := (okL_c (o194_9 hB)).2.2
theorem o194_11 (hB : BytesOK) : okL 194 18 T194_11 = true := (okL_c (o194_10 hB)).2.2
theorem o194_12 (hB : BytesOK) : okL 194 21 T194_12 = true := (okL_c (o194_11 hB)).2.2
theorem o194_13 (hB : BytesOK) : okL 194 24 T194_13 = true := (okL_c (o194_12 hB)).2.2
theorem o194_14 (hB : BytesOK) : okL 194 25 T194_14 = true := (okL_c (o194_13 hB)).2.2
theorem o194_15 (hB : BytesOK) : okL 194 27 T194_15 = true := (okL_c (o194_14 hB)).2.2
theorem o194_16 (hB : BytesOK) : okL 194 28 T194_16 = true := (okL_c (o194_15 hB)).2.2
theorem o194_17 (hB : BytesOK) : okL 194 29 T194_17 = true := (okL_c (o194_16 hB)).2.2
theorem o194_18 (hB : BytesOK) : okL 194 30 T194_18 = true := (okL_c (o194_17 hB)).2.2
theorem o194_19 (hB : BytesOK) : okL 194 31 T194_19 = true := (okL_c (o194_18 hB)).2.2
theorem o194_20 (hB : BytesOK) : okL 194 34 T194_20 = true := (okL_c (o194_19 hB)).2.2
theorem o194_21 (hB : BytesOK) : okL 194 35 T194_21 = true := (okL_c (o194_20 hB)).2.2
theorem o194_22 (hB : BytesOK) : okL 194 38 T194_22 = true := (okL_c (o194_21 hB)).2.2
theorem o194_23 (hB : BytesOK) : okL 194 41 T194_23 = true := (okL_c (o194_22 hB)).2.2
theorem o194_24 (hB : BytesOK) : okL 194 42 T194_24 = true := (okL_c (o194_23 hB)).2.2
theorem o194_25 (hB : BytesOK) : okL 194 44 T194_25 = true := (okL_c (o194_24 hB)).2.2
theorem o194_26 (hB : BytesOK) : okL 194 45 T194_26 = true := (okL_c (o194_25 hB)).2.2
theorem o194_27 (hB : BytesOK) : okL 194 46 T194_27 = true := (okL_c (o194_26 hB)).2.2
theorem o194_28 (hB : BytesOK) : okL 194 47 T194_28 = true := (okL_c (o194_27 hB)).2.2
theorem o194_29 (hB : BytesOK) : okL 194 48 T194_29 = true := (okL_c (o194_28 hB)).2.2
theorem o194_30 (hB : BytesOK) : okL 194 49 T194_30 = true := (okL_c (o194_29 hB)).2.2
theorem o194_31 (hB : BytesOK) : okL 194 50 T194_31 = true := (okL_c (o194_30 hB)).2.2
theorem o194_32 (hB : BytesOK) : okL 194 53 T194_32 = true := (okL_c (o194_31 hB)).2.2
theorem o194_33 (hB : BytesOK) : okL 194 54 T194_33 = true := (okL_c (o194_32 hB)).2.2
theorem o194_34 (hB : BytesOK) : okL 194 57 T194_34 = true := (okL_c (o194_33 hB)).2.2
theorem o194_35 (hB : BytesOK) : okL 194 58 T194_35 = true := (okL_c (o194_34 hB)).2.2
theorem o194_36 (hB : BytesOK) : okL 194 60 T194_36 = true := (okL_c (o194_35 hB)).2.2
theorem o194_37 (hB : BytesOK) : okL 194 62 T194_37 = true := (okL_c (o194_36 hB)).2.2
theorem o194_38 (hB : BytesOK) : okL 194 65 T194_38 = true := (okL_c (o194_37 hB)).2.2
theorem o194_39 (hB : BytesOK) : okL 194 66 T194_39 = true := (okL_c (o194_38 hB)).2.2
theorem o194_40 (hB : BytesOK) : okL 194 69 T194_40 = true := (okL_c (o194_39 hB)).2.2
theorem o194_41 (hB : BytesOK) : okL 194 72 T194_41 = true := (okL_c (o194_40 hB)).2.2
theorem o194_42 (hB : BytesOK) : okL 194 73 T194_42 = true := (okL_c (o194_41 hB)).2.2
theorem o194_43 (hB : BytesOK) : okL 194 75 T194_43 = true := (okL_c (o194_42 hB)).2.2
theorem o194_44 (hB : BytesOK) : okL 194 76 T194_44 = true := (okL_c (o194_43 hB)).2.2
theorem o194_45 (hB : BytesOK) : okL 194 77 T194_45 = true := (okL_c (o194_44 hB)).2.2
theorem o194_46 (hB : BytesOK) : okL 194 78 T194_46 = true := (okL_c (o194_45 hB)).2.2
theorem o194_47 (hB : BytesOK) : okL 194 79 T194_47 = true := (okL_c (o194_46 hB)).2.2
theorem o194_48 (hB : BytesOK) : okL 194 80 T194_48 = true := (okL_c (o194_47 hB)).2.2
theorem o194_49 (hB : BytesOK) : okL 194 81 T194_49 = true := (okL_c (o194_48 hB)).2.2
theorem o194_50 (hB : BytesOK) : okL 194 84 T194_50 = true := (okL_c (o194_49 hB)).2.2
theorem o194_51 (hB : BytesOK) : okL 194 85 T194_51 = true := (okL_c (o194_50 hB)).2.2
theorem o194_52 (hB : BytesOK) : okL 194 88 T194_52 = true := (okL_c (o194_51 hB)).2.2
theorem o194_53 (hB : BytesOK) : okL 194 89 T194_53 = true := (okL_c (o194_52 hB)).2.2
theorem o194_54 (hB : BytesOK) : okL 194 92 T194_54 = true := (okL_c (o194_53 hB)).2.2
theorem o194_55 (hB : BytesOK) : okL 194 94 T194_55 = true := (okL_c (o194_54 hB)).2.2
theorem o194_56 (hB : BytesOK) : okL 194 96 T194_56 = true := (okL_c (o194_55 hB)).2.2
theorem o194_57 (hB : BytesOK) : okL 194 99 T194_57 = true := (okL_c (o194_56 hB)).2.2
theorem o194_58 (hB : BytesOK) : okL 194 102 T194_58 = true := (okL_c (o194_57 hB)).2.2
theorem o194_59 (hB : BytesOK) : okL 194 104 T194_59 = true := (okL_c (o194_58 hB)).2.2
theorem o194_60 (hB : BytesOK) : okL 194 107 T194_60 = true := (okL_c (o194_59 hB)).2.2
theorem o194_61 (hB : BytesOK) : okL 194 108 T194_61 = true := (okL_c (o194_60 hB)).2.2
theorem o194_62 (hB : BytesOK) : okL 194 109 T194_62 = true := (okL_c (o194_61 hB)).2.2
theorem o194_63 (hB : BytesOK) : okL 194 110 T194_63 = true := (okL_c (o194_62 hB)).2.2
theorem o194_64 (hB : BytesOK) : okL 194 111 T194_64 = true := (okL_c (o194_63 hB)).2.2
theorem o194_65 (hB : BytesOK) : okL 194 114 T194_65 = true := (okL_c (o194_64 hB)).2.2
theorem o194_66 (hB : BytesOK) : okL 194 115 T194_66 = true := (okL_c (o194_65 hB)).2.2
theorem o194_67 (hB : BytesOK) : okL 194 116 T194_67 = true := (okL_c (o194_66 hB)).2.2
theorem o194_68 (hB : BytesOK) : okL 194 117 T194_68 = true := (okL_c (o194_67 hB)).2.2
theorem o194_69 (hB : BytesOK) : okL 194 120 T194_69 = true := (okL_c (o194_68 hB)).2.2
theorem o194_70 (hB : BytesOK) : okL 194 123 T194_70 = true := (okL_c (o194_69 hB)).2.2
theorem o194_71 (hB : BytesOK) : okL 194 126 T194_71 = true := (okL_c (o194_70 hB)).2.2
theorem o194_72 (hB : BytesOK) : okL 194 127 T194_72 = true := (okL_c (o194_71 hB)).2.2
theorem o194_73 (hB : BytesOK) : okL 194 130 T194_73 = true := (okL_c (o194_72 hB)).2.2
theorem o194_74 (hB : BytesOK) : okL 194 131 T194_74 = true := (okL_c (o194_73 hB)).2.2
theorem ml194 : mml 194 = 7 := by decide +kernel
theorem mr194 : mret 194 = some .boolean := by decide +kernel
theorem mg194 : kGood 194 = true := by decide +kernel

def T195_22 : List Tok := []
def T195_21 : List Tok := (.ireturn, 1, 0, 0) :: T195_22
def T195_20 : List Tok := (.iconst 0, 1, 0, 0) :: T195_21
def T195_19 : List Tok := (.goto 4, 3, 0, 0) :: T195_20
def T195_18 : List Tok := (.iconst 1, 1, 0, 0) :: T195_19
def T195_17 : List Tok := (.ifCond .eq 7, 3, 0, 0) :: T195_18
def T195_16 : List Tok := (.invokevirtual 82, 3, 194, 1516) :: T195_17
def T195_15 : List Tok := (.iload_n 3, 1, 0, 0) :: T195_16
def T195_14 : List Tok := (.iload_n 2, 1, 0, 0) :: T195_15
def T195_13 : List Tok := (.iload_n 1, 1, 0, 0) :: T195_14
def T195_12 : List Tok := (.aload_n 0, 1, 0, 0) :: T195_13
def T195_11 : List Tok := (.ireturn, 1, 0, 0) :: T195_12
def T195_10 : List Tok := (.iconst (-1), 1, 0, 0) :: T195_11
def T195_9 : List Tok := (.ifCond .ne 5, 3, 0, 0) :: T195_10
def T195_8 : List Tok := (.invokestatic 72, 3, 185, 1501) :: T195_9
def T195_7 : List Tok := (.iload_n 3, 1, 0, 0) :: T195_8
def T195_6 : List Tok := (.ifCond .eq 10, 3, 0, 0) :: T195_7
def T195_5 : List Tok := (.invokestatic 72, 3, 185, 1501) :: T195_6
def T195_4 : List Tok := (.iload_n 2, 1, 0, 0) :: T195_5
def T195_3 : List Tok := (.ifCond .eq 17, 3, 0, 0) :: T195_4
def T195_2 : List Tok := (.invokevirtual 75, 3, 190, 1508) :: T195_3
def T195_1 : List Tok := (.iload_n 1, 1, 0, 0) :: T195_2
def T195_0 : List Tok := (.aload_n 0, 1, 0, 0) :: T195_1
theorem o195_0 (hB : BytesOK) : okL 195 0 T195_0 = true := by
  have h := hB.1 195
  rw [show tk 195 = T195_0 from by decide +kernel] at h
  exact h
theorem o195_1 (hB : BytesOK) : okL 195 1 T195_1 = true := (okL_c (o195_0 hB)).2.2
theorem o195_2 (hB : BytesOK) : okL 195 2 T195_2 = true := (okL_c (o195_1 hB)).2.2
theorem o195_3 (hB : BytesOK) : okL 195 5 T195_3 = true := (okL_c (o195_2 hB)).2.2
theorem o195_4 (hB : BytesOK) : okL 195 8 T195_4 = true := (okL_c (o195_3 hB)).2.2
theorem o195_5 (hB : BytesOK) : okL 195 9 T195_5 = true := (okL_c (o195_4 hB)).2.2
theorem o195_6 (hB : BytesOK) : okL 195 12 T195_6 = true := (okL_c (o195_5 hB)).2.2
theorem o195_7 (hB : BytesOK) : okL 195 15 T195_7 = true := (okL_c (o195_6 hB)).2.2
theorem o195_8 (hB : BytesOK) : okL 195 16 T195_8 = true := (okL_c (o195_7 hB)).2.2
theorem o195_9 (hB : BytesOK) : okL 195 19 T195_9 = true := (okL_c (o195_8 hB)).2.2
theorem o195_10 (hB : BytesOK) : okL 195 22 T195_10 = true := (okL_c (o195_9 hB)).2.2
theorem o195_11 (hB : BytesOK) : okL 195 23 T195_11 = true := (okL_c (o195_10 hB)).2.2
theorem o195_12 (hB : BytesOK) : okL 195 24 T195_12 = true := (okL_c (o195_11 hB)).2.2
theorem o195_13 (hB : BytesOK) : okL 195 25 T195_13 = true := (okL_c (o195_12 hB)).2.2
theorem o195_14 (hB : BytesOK) : okL 195 26 T195_14 = true := (okL_c (o195_13 hB)).2.2
theorem o195_15 (hB : BytesOK) : okL 195 27 T195_15 = true := (okL_c (o195_14 hB)).2.2
theorem o195_16 (hB : BytesOK) : okL 195 28 T195_16 = true := (okL_c (o195_15 hB)).2.2
theorem o195_17 (hB : BytesOK) : okL 195 31 T195_17 = true := (okL_c (o195_16 hB)).2.2
theorem o195_18 (hB : BytesOK) : okL 195 34 T195_18 = true := (okL_c (o195_17 hB)).2.2
theorem o195_19 (hB : BytesOK) : okL 195 35 T195_19 = true := (okL_c (o195_18 hB)).2.2
theorem o195_20 (hB : BytesOK) : okL 195 38 T195_20 = true := (okL_c (o195_19 hB)).2.2
theorem o195_21 (hB : BytesOK) : okL 195 39 T195_21 = true := (okL_c (o195_20 hB)).2.2
theorem ml195 : mml 195 = 4 := by decide +kernel
theorem mr195 : mret 195 = some .int := by decide +kernel
theorem mg195 : kGood 195 = true := by decide +kernel

def T208_56 : List Tok := []
def T208_55 : List Tok := (.ireturn, 1, 0, 0) :: T208_56
def T208_54 : List Tok := (.iconst 1, 1, 0, 0) :: T208_55
def T208_53 : List Tok := (.goto 4, 3, 0, 0) :: T208_54
def T208_52 : List Tok := (.iconst 0, 1, 0, 0) :: T208_53
def T208_51 : List Tok := (.if_icmp .ne 7, 3, 0, 0) :: T208_52
def T208_50 : List Tok := (.iaload, 1, 0, 0) :: T208_51
def T208_49 : List Tok := (.iload_n 3, 1, 0, 0) :: T208_50
def T208_48 : List Tok := (.getfield 7, 3, 704, 1345) :: T208_49
def T208_47 : List Tok := (.aload_n 0, 1, 0, 0) :: T208_48
def T208_46 : List Tok := (.iload 4, 2, 0, 0) :: T208_47
def T208_45 : List Tok := (.iastore, 1, 0, 0) :: T208_46
def T208_44 : List Tok := (.ior, 1, 0, 0) :: T208_45
def T208_43 : List Tok := (.ishl, 1, 0, 0) :: T208_44
def T208_42 : List Tok := (.iload_n 2, 1, 0, 0) :: T208_43
def T208_41 : List Tok := (.iconst 1, 1, 0, 0) :: T208_42
def T208_40 : List Tok := (.iaload, 1, 0, 0) :: T208_41
def T208_39 : List Tok := (.dup2, 1, 0, 0) :: T208_40
def T208_38 : List Tok := (.iload_n 3, 1, 0, 0) :: T208_39
def T208_37 : List Tok := (.getfield 7, 3, 704, 1345) :: T208_38
def T208_36 : List Tok := (.aload_n 0, 1, 0, 0) :: T208_37
def T208_35 : List Tok := (.istore 4, 2, 0, 0) :: T208_36
def T208_34 : List Tok := (.iaload, 1, 0, 0) :: T208_35
def T208_33 : List Tok := (.iload_n 3, 1, 0, 0) :: T208_34
def T208_32 : List Tok := (.getfield 7, 3, 704, 1345) :: T208_33
def T208_31 : List Tok := (.aload_n 0, 1, 0, 0) :: T208_32
def T208_30 : List Tok := (.ireturn, 1, 0, 0) :: T208_31
def T208_29 : List Tok := (.bipush (-4), 2, 0, 0) :: T208_30
def T208_28 : List Tok := (.ifCond .ne 6, 3, 0, 0) :: T208_29
def T208_27 : List Tok := (.iand, 1, 0, 0) :: T208_28
def T208_26 : List Tok := (.iconst 1, 1, 0, 0) :: T208_27
def T208_25 : List Tok := (.iaload, 1, 0, 0) :: T208_26
def T208_24 : List Tok := (.iload_n 3, 1, 0, 0) :: T208_25
def T208_23 : List Tok := (.getfield 7, 3, 704, 1345) :: T208_24
def T208_22 : List Tok := (.aload_n 0, 1, 0, 0) :: T208_23
def T208_21 : List Tok := (.if_icmp .ne 17, 3, 0, 0) :: T208_22
def T208_20 : List Tok := (.iconst 1, 1, 0, 0) :: T208_21
def T208_19 : List Tok := (.iload_n 2, 1, 0, 0) :: T208_20
def T208_18 : List Tok := (.istore_n 3, 1, 0, 0) :: T208_19
def T208_17 : List Tok := (.iadd, 1, 0, 0) :: T208_18
def T208_16 : List Tok := (.bipush 7, 2, 0, 0) :: T208_17
def T208_15 : List Tok := (.iadd, 1, 0, 0) :: T208_16
def T208_14 : List Tok := (.imul, 1, 0, 0) :: T208_15
def T208_13 : List Tok := (.iload_n 1, 1, 0, 0) :: T208_14
def T208_12 : List Tok := (.bipush 8, 2, 0, 0) :: T208_13
def T208_11 : List Tok := (.bipush 16, 2, 0, 0) :: T208_12
def T208_10 : List Tok := (.ireturn, 1, 0, 0) :: T208_11
def T208_9 : List Tok := (.iconst (-1), 1, 0, 0) :: T208_10
def T208_8 : List Tok := (.ifCond .ne 5, 3, 0, 0) :: T208_9
def T208_7 : List Tok := (.invokestatic 64, 3, 184, 1491) :: T208_8
def T208_6 : List Tok := (.iconst 1, 1, 0, 0) :: T208_7
def T208_5 : List Tok := (.iconst 0, 1, 0, 0) :: T208_6
def T208_4 : List Tok := (.iload_n 2, 1, 0, 0) :: T208_5
def T208_3 : List Tok := (.ifCond .eq 12, 3, 0, 0) :: T208_4
def T208_2 : List Tok := (.invokevirtual 75, 3, 190, 1508) :: T208_3
def T208_1 : List Tok := (.iload_n 1, 1, 0, 0) :: T208_2
def T208_0 : List Tok := (.aload_n 0, 1, 0, 0) :: T208_1
theorem o208_0 (hB : BytesOK) : okL 208 0 T208_0 = true := by
  have h := hB.1 208
  rw [show tk 208 = T208_0 from by decide +kernel] at h
  exact h
theorem o208_1 (hB : BytesOK) : okL 208 1 T208_1 = true := (okL_c (o208_0 hB)).2.2
theorem o208_2 (hB : BytesOK) : okL 208 2 T208_2 = true := (okL_c (o208_1 hB)).2.2
theorem o208_3 (hB : BytesOK) : okL 208 5 T208_3 = true := (okL_c (o208_2 hB)).2.2
theorem o208_4 (hB : BytesOK) : okL 208 8 T208_4 = true := (okL_c (o208_3 hB)).2.2
theorem o208_5 (hB : BytesOK) : okL 208 9 T208_5 = true := (okL_c (o208_4 hB)).2.2
theorem o208_6 (hB : BytesOK) : okL 208 10 T208_6 = true := (okL_c (o208_5 hB)).2.2
theorem o208_7 (hB : BytesOK) : okL 208 11 T208_7 = true := (okL_c (o208_6 hB)).2.2
theorem o208_8 (hB : BytesOK) : okL 208 14 T208_8 = true := (okL_c (o208_7 hB)).2.2
theorem o208_9 (hB : BytesOK) : okL 208 17 T208_9 = true := (okL_c (o208_8 hB)).2.2
theorem o208_10 (hB : BytesOK) : okL 208 18 T208_10 = true := (okL_c (o208_9 hB)).2.2
theorem o208_11 (hB : BytesOK) : okL 208 19 T208_11 = true := (okL_c (o208_10 hB)).2.2
theorem o208_12 (hB : BytesOK) : okL 208 21 T208_12 = true := (okL_c (o208_11 hB)).2.2
theorem o208_13 (hB : BytesOK) : okL 208 23 T208_13 = true := (okL_c (o208_12 hB)).2.2
theorem o208_14 (hB : BytesOK) : okL 208 24 T208_14 = true := (okL_c (o208_13 hB)).2.2
theorem o208_15 (hB : BytesOK) : okL 208 25 T208_15 = true := (okL_c (o208_14 hB)).2.2
theorem o208_16 (hB : BytesOK) : okL 208 26 T208_16 = true := (okL_c (o208_15 hB)).2.2
theorem o208_17 (hB : BytesOK) : okL 208 28 T208_17 = true := (okL_c (o208_16 hB)).2.2
theorem o208_18 (hB : BytesOK) : okL 208 29 T208_18 = true := (okL_c (o208_17 hB)).2.2
theorem o208_19 (hB : BytesOK) : okL 208 30 T208_19 = true := (okL_c (o208_18 hB)).2.2
theorem o208_20 (hB : BytesOK) : okL 208 31 T208_20 = true := (okL_c (o208_19 hB)).2.2
theorem o208_21 (hB : BytesOK) : okL 208 32 T208_21 = true := (okL_c (o208_20 hB)).2.2
theorem o208_22 (hB : BytesOK) : okL 208 35 T208_22 = true := (okL_c (o208_21 hB)).2.2
theorem o208_23 (hB : BytesOK) : okL 208 36 T208_23 = true := (okL_c (o208_22 hB)).2.2
theorem o208_24 (hB : BytesOK) : okL 208 39 T208_24 = true := (okL_c (o208_23 hB)).2.2
theorem o208_25 (hB : BytesOK) : okL 208 40 T208_25 = true := (okL_c (o208_24 hB)).2.2
theorem o208_26 (hB : BytesOK) : okL 208 41 T208_26 = true := (okL_c (o208_25 hB)).2.2
theorem o208_27 (hB : BytesOK) : okL 208 42 T208_27 = true := (okL_c (o208_26 hB)).2.2
theorem o208_28 (hB : BytesOK) : okL 208 43 T208_28 = true := (okL_c (o208_27 hB)).2.2
theorem o208_29 (hB : BytesOK) : okL 208 46 T208_29 = true := (okL_c (o208_28 hB)).2.2
theorem o208_30 (hB : BytesOK) : okL 208 48 T208_30 = true := (okL_c (o208_29 hB)).2.2
theorem o208_31 (hB : BytesOK) : okL 208 49 T208_31 = true := (okL_c (o208_30 hB)).2.2
theorem o208_32 (hB : BytesOK) : okL 208 50 T208_32 = true := (okL_c (o208_31 hB)).2.2
theorem o208_33 (hB : BytesOK) : okL 208 53 T208_33 = true := (okL_c (o208_32 hB)).2.2
theorem o208_34 (hB : BytesOK) : okL 208 54 T208_34 = true := (okL_c (o208_33 hB)).2.2
theorem o208_35 (hB : BytesOK) : okL 208 55 T208_35 = true := (okL_c (o208_34 hB)).2.2
theorem o208_36 (hB : BytesOK) : okL 208 57 T208_36 = true := (okL_c (o208_35 hB)).2.2
theorem o208_37 (hB : BytesOK) : okL 208 58 T208_37 = true := (okL_c (o208_36 hB)).2.2
theorem o208_38 (hB : BytesOK) : okL 208 61 T208_38 = true := (okL_c (o208_37 hB)).2.2
theorem o208_39 (hB : BytesOK) : okL 208 62 T208_39 = true := (okL_c (o208_38 hB)).2.2
theorem o208_40 (hB : BytesOK) : okL 208 63 T208_40 = true := (okL_c (o208_39 hB)).2.2
theorem o208_41 (hB : BytesOK) : okL 208 64 T208_41 = true := (okL_c (o208_40 hB)).2.2
theorem o208_42 (hB : BytesOK) : okL 208 65 T208_42 = true := (okL_c (o208_41 hB)).2.2
theorem o208_43 (hB : BytesOK) : okL 208 66 T208_43 = true := (okL_c (o208_42 hB)).2.2
theorem o208_44 (hB : BytesOK) : okL 208 67 T208_44 = true := (okL_c (o208_43 hB)).2.2
theorem o208_45 (hB : BytesOK) : okL 208 68 T208_45 = true := (okL_c (o208_44 hB)).2.2
theorem o208_46 (hB : BytesOK) : okL 208 69 T208_46 = true := (okL_c (o208_45 hB)).2.2
theorem o208_47 (hB : BytesOK) : okL 208 71 T208_47 = true := (okL_c (o208_46 hB)).2.2
theorem o208_48 (hB : BytesOK) : okL 208 72 T208_48 = true := (okL_c (o208_47 hB)).2.2
theorem o208_49 (hB : BytesOK) : okL 208 75 T208_49 = true := (okL_c (o208_48 hB)).2.2
theorem o208_50 (hB : BytesOK) : okL 208 76 T208_50 = true := (okL_c (o208_49 hB)).2.2
theorem o208_51 (hB : BytesOK) : okL 208 77 T208_51 = true := (okL_c (o208_50 hB)).2.2
theorem o208_52 (hB : BytesOK) : okL 208 80 T208_52 = true := (okL_c (o208_51 hB)).2.2
theorem o208_53 (hB : BytesOK) : okL 208 81 T208_53 = true := (okL_c (o208_52 hB)).2.2
theorem o208_54 (hB : BytesOK) : okL 208 84 T208_54 = true := (okL_c (o208_53 hB)).2.2
theorem o208_55 (hB : BytesOK) : okL 208 85 T208_55 = true := (okL_c (o208_54 hB)).2.2
theorem ml208 : mml 208 = 5 := by decide +kernel
theorem mr208 : mret 208 = some .int := by decide +kernel
theorem mg208 : kGood 208 = true := by decide +kernel

def T229_21 : List Tok := []
def T229_20 : List Tok := (.ireturn, 1, 0, 0) :: T229_21
def T229_19 : List Tok := (.iconst 0, 1, 0, 0) :: T229_20
def T229_18 : List Tok := (.goto 4, 3, 0, 0) :: T229_19
def T229_17 : List Tok := (.iconst 1, 1, 0, 0) :: T229_18
def T229_16 : List Tok := (.ifCond .eq 7, 3, 0, 0) :: T229_17
def T229_15 : List Tok := (.invokestatic 72, 3, 185, 1501) :: T229_16
def T229_14 : List Tok := (.irem, 1, 0, 0) :: T229_15
def T229_13 : List Tok := (.sipush 1000, 3, 0, 0) :: T229_14
def T229_12 : List Tok := (.iload_n 0, 1, 0, 0) :: T229_13
def T229_11 : List Tok := (.if_icmp .ge 18, 3, 0, 0) :: T229_12
def T229_10 : List Tok := (.iconst 4, 1, 0, 0) :: T229_11
def T229_9 : List Tok := (.irem, 1, 0, 0) :: T229_10
def T229_8 : List Tok := (.bipush 10, 2, 0, 0) :: T229_9
def T229_7 : List Tok := (.idiv, 1, 0, 0) :: T229_8
def T229_6 : List Tok := (.sipush 1000, 3, 0, 0) :: T229_7
def T229_5 : List Tok := (.iload_n 0, 1, 0, 0) :: T229_6
def T229_4 : List Tok := (.ifCond .eq 30, 3, 0, 0) :: T229_5
def T229_3 : List Tok := (.invokestatic 64, 3, 184, 1491) :: T229_4
def T229_2 : List Tok := (.ldc 221, 2, 14, 1663) :: T229_3
def T229_1 : List Tok := (.iconst 0, 1, 0, 0) :: T229_2
def T229_0 : List Tok := (.iload_n 0, 1, 0, 0) :: T229_1
theorem o229_0 (hB : BytesOK) : okL 229 0 T229_0 = true := by
  have h := hB.1 229
  rw [show tk 229 = T229_0 from by decide +kernel] at h
  exact h
theorem o229_1 (hB : BytesOK) : okL 229 1 T229_1 = true := (okL_c (o229_0 hB)).2.2
theorem o229_2 (hB : BytesOK) : okL 229 2 T229_2 = true := (okL_c (o229_1 hB)).2.2
theorem o229_3 (hB : BytesOK) : okL 229 4 T229_3 = true := (okL_c (o229_2 hB)).2.2
theorem o229_4 (hB : BytesOK) : okL 229 7 T229_4 = true := (okL_c (o229_3 hB)).2.2
theorem o229_5 (hB : BytesOK) : okL 229 10 T229_5 = true := (okL_c (o229_4 hB)).2.2
theorem o229_6 (hB : BytesOK) : okL 229 11 T229_6 = true := (okL_c (o229_5 hB)).2.2
theorem o229_7 (hB : BytesOK) : okL 229 14 T229_7 = true := (okL_c (o229_6 hB)).2.2
theorem o229_8 (hB : BytesOK) : okL 229 15 T229_8 = true := (okL_c (o229_7 hB)).2.2
theorem o229_9 (hB : BytesOK) : okL 229 17 T229_9 = true := (okL_c (o229_8 hB)).2.2
theorem o229_10 (hB : BytesOK) : okL 229 18 T229_10 = true := (okL_c (o229_9 hB)).2.2
theorem o229_11 (hB : BytesOK) : okL 229 19 T229_11 = true := (okL_c (o229_10 hB)).2.2
theorem o229_12 (hB : BytesOK) : okL 229 22 T229_12 = true := (okL_c (o229_11 hB)).2.2
theorem o229_13 (hB : BytesOK) : okL 229 23 T229_13 = true := (okL_c (o229_12 hB)).2.2
theorem o229_14 (hB : BytesOK) : okL 229 26 T229_14 = true := (okL_c (o229_13 hB)).2.2
theorem o229_15 (hB : BytesOK) : okL 229 27 T229_15 = true := (okL_c (o229_14 hB)).2.2
theorem o229_16 (hB : BytesOK) : okL 229 30 T229_16 = true := (okL_c (o229_15 hB)).2.2
theorem o229_17 (hB : BytesOK) : okL 229 33 T229_17 = true := (okL_c (o229_16 hB)).2.2
theorem o229_18 (hB : BytesOK) : okL 229 34 T229_18 = true := (okL_c (o229_17 hB)).2.2
theorem o229_19 (hB : BytesOK) : okL 229 37 T229_19 = true := (okL_c (o229_18 hB)).2.2
theorem o229_20 (hB : BytesOK) : okL 229 38 T229_20 = true := (okL_c (o229_19 hB)).2.2
theorem ml229 : mml 229 = 1 := by decide +kernel
theorem mr229 : mret 229 = some .boolean := by decide +kernel
theorem mg229 : kGood 229 = true := by decide +kernel

def T271_5 : List Tok := []
def T271_4 : List Tok := (.ireturn, 1, 0, 0) :: T271_5
def T271_3 : List Tok := (.invokestatic 64, 3, 184, 1491) :: T271_4
def T271_2 : List Tok := (.iconst 3, 1, 0, 0) :: T271_3
def T271_1 : List Tok := (.iconst 0, 1, 0, 0) :: T271_2
def T271_0 : List Tok := (.iload_n 0, 1, 0, 0) :: T271_1
theorem o271_0 (hB : BytesOK) : okL 271 0 T271_0 = true := by
  have h := hB.1 271
  rw [show tk 271 = T271_0 from by decide +kernel] at h
  exact h
theorem o271_1 (hB : BytesOK) : okL 271 1 T271_1 = true := (okL_c (o271_0 hB)).2.2
theorem o271_2 (hB : BytesOK) : okL 271 2 T271_2 = true := (okL_c (o271_1 hB)).2.2
theorem o271_3 (hB : BytesOK) : okL 271 3 T271_3 = true := (okL_c (o271_2 hB)).2.2
theorem o271_4 (hB : BytesOK) : okL 271 6 T271_4 = true := (okL_c (o271_3 hB)).2.2
theorem ml271 : mml 271 = 1 := by decide +kernel
theorem mr271 : mret 271 = some .boolean := by decide +kernel
theorem mg271 : kGood 271 = true := by decide +kernel

def T272_50 : List Tok := []
def T272_49 : List Tok := (.ireturn, 1, 0, 0) :: T272_50
def T272_48 : List Tok := (.iload_n 1, 1, 0, 0) :: T272_49
def T272_47 : List Tok := (.goto (-69), 3, 0, 0) :: T272_48
def T272_46 : List Tok := (.istore_n 1, 1, 0, 0) :: T272_47
def T272_45 : List Tok := (.iadd, 1, 0, 0) :: T272_46
def T272_44 : List Tok := (.iconst 0, 1, 0, 0) :: T272_45
def T272_43 : List Tok := (.goto 4, 3, 0, 0) :: T272_44
def T272_42 : List Tok := (.iconst 1, 1, 0, 0) :: T272_43
def T272_41 : List Tok := (.ifCond .eq 7, 3, 0, 0) :: T272_42
def T272_40 : List Tok := (.iload_n 2, 1, 0, 0) :: T272_41
def T272_39 : List Tok := (.iload_n 1, 1, 0, 0) :: T272_40
def T272_38 : List Tok := (.goto (-46), 3, 0, 0) :: T272_39
def T272_37 : List Tok := (.iinc 3 1, 3, 0, 0) :: T272_38
def T272_36 : List Tok := (.istore_n 2, 1, 0, 0) :: T272_37
def T272_35 : List Tok := (.ior, 1, 0, 0) :: T272_36
def T272_34 : List Tok := (.iconst 0, 1, 0, 0) :: T272_35
def T272_33 : List Tok := (.goto 4, 3, 0, 0) :: T272_34
def T272_32 : List Tok := (.iconst 1, 1, 0, 0) :: T272_33
def T272_31 : List Tok := (.if_icmp .ne 7, 3, 0, 0) :: T272_32
def T272_30 : List Tok := (.iload_n 1, 1, 0, 0) :: T272_31
def T272_29 : List Tok := (.iaload, 1, 0, 0) :: T272_30
def T272_28 : List Tok := (.iload_n 3, 1, 0, 0) :: T272_29
def T272_27 : List Tok := (.getfield 58, 3, 744, 1385) :: T272_28
def T272_26 : List Tok := (.aload_n 0, 1, 0, 0) :: T272_27
def T272_25 : List Tok := (.if_icmp .ne 17, 3, 0, 0) :: T272_26
def T272_24 : List Tok := (.iconst 4, 1, 0, 0) :: T272_25
def T272_23 : List Tok := (.iaload, 1, 0, 0) :: T272_24
def T272_22 : List Tok := (.iload_n 3, 1, 0, 0) :: T272_23
def T272_21 : List Tok := (.getfield 55, 3, 743, 1384) :: T272_22
def T272_20 : List Tok := (.aload_n 0, 1, 0, 0) :: T272_21
def T272_19 : List Tok := (.if_icmp .eq 23, 3, 0, 0) :: T272_20
def T272_18 : List Tok := (.iload_n 1, 1, 0, 0) :: T272_19
def T272_17 : List Tok := (.iaload, 1, 0, 0) :: T272_18
def T272_16 : List Tok := (.iload_n 3, 1, 0, 0) :: T272_17
def T272_15 : List Tok := (.getfield 43, 3, 739, 1380) :: T272_16
def T272_14 : List Tok := (.aload_n 0, 1, 0, 0) :: T272_15
def T272_13 : List Tok := (.iload_n 2, 1, 0, 0) :: T272_14
def T272_12 : List Tok := (.if_icmp .ge 47, 3, 0, 0) :: T272_13
def T272_11 : List Tok := (.iconst 4, 1, 0, 0) :: T272_12
def T272_10 : List Tok := (.iload_n 3, 1, 0, 0) :: T272_11
def T272_9 : List Tok := (.istore_n 3, 1, 0, 0) :: T272_10
def T272_8 : List Tok := (.iconst 0, 1, 0, 0) :: T272_9
def T272_7 : List Tok := (.istore_n 2, 1, 0, 0) :: T272_8
def T272_6 : List Tok := (.iconst 0, 1, 0, 0) :: T272_7
def T272_5 : List Tok := (.ifCond .eq 71, 3, 0, 0) :: T272_6
def T272_4 : List Tok := (.iload_n 2, 1, 0, 0) :: T272_5
def T272_3 : List Tok := (.istore_n 2, 1, 0, 0) :: T272_4
def T272_2 : List Tok := (.iconst 1, 1, 0, 0) :: T272_3
def T272_1 : List Tok := (.istore_n 1, 1, 0, 0) :: T272_2
def T272_0 : List Tok := (.iconst 0, 1, 0, 0) :: T272_1
theorem o272_0 (hB : BytesOK) : okL 272 0 T272_0 = true := by
  have h := hB.1 272
  rw [show tk 272 = T272_0 from by decide +kernel] at h
  exact h
theorem o272_1 (hB : BytesOK) : okL 272 1 T272_1 = true := (okL_c (o272_0 hB)).2.2
theorem o272_2 (hB : BytesOK) : okL 272 2 T272_2 = true := (okL_c (o272_1 hB)).2.2
theorem o272_3 (hB : BytesOK) : okL 272 3 T272_3 = true := (okL_c (o272_2 hB)).2.2
theorem o272_4 (hB : BytesOK) : okL 272 4 T272_4 = true := (okL_c (o272_3 hB)).2.2
theorem o272_5 (hB : BytesOK) : okL 272 5 T272_5 = true := (okL_c (o272_4 hB)).2.2
theorem o272_6 (hB : BytesOK) : okL 272 8 T272_6 = true := (okL_c (o272_5 hB)).2.2
theorem o272_7 (hB : BytesOK) : okL 272 9 T272_7 = true := (okL_c (o272_6 hB)).2.2
theorem o272_8 (hB : BytesOK) : okL 272 10 T272_8 = true := (okL_c (o272_7 hB)).2.2
theorem o272_9 (hB : BytesOK) : okL 272 11 T272_9 = true := (okL_c (o272_8 hB)).2.2
theorem o272_10 (hB : BytesOK) : okL 272 12 T272_10 = true := (okL_c (o272_9 hB)).2.2
theorem o272_11 (hB : BytesOK) : okL 272 13 T272_11 = true := (okL_c (o272_10 hB)).2.2
theorem o272_12 (hB : BytesOK) : okL 272 14 T272_12 = true := (okL_c (o272_11 hB)).2.2
theorem o272_13 (hB : BytesOK) : okL 272 17 T272_13 = true := (okL_c (o272_12 hB)).2.2
theorem o272_14 (hB : BytesOK) : okL 272 18 T272_14 = true := (okL_c (o272_13 hB)).2.2
theorem o272_15 (hB : BytesOK) : okL 272 19 T272_15 = true := (okL_c (o272_14 hB)).2.2
theorem o272_16 (hB : BytesOK) : okL 272 22 T272_16 = true := (okL_c (o272_15 hB)).2.2
theorem o272_17 (hB : BytesOK) : okL 272 23 T272_17 = true := (okL_c (o272_16 hB)).2.2
theorem o272_18 (hB : BytesOK) : okL 272 24 T272_18 = true := (okL_c (o272_17 hB)).2.2
theorem o272_19 (hB : BytesOK) : okL 272 25 T272_19 = true := (okL_c (o272_18 hB)).2.2
theorem o272_20 (hB : BytesOK) : okL 272 28 T272_20 = true := (okL_c (o272_19 hB)).2.2
theorem o272_21 (hB : BytesOK) : okL 272 29 T272_21 = true := (okL_c (o272_20 hB)).2.2
theorem o272_22 (hB : BytesOK) : okL 272 32 T272_22 = true := (okL_c (o272_21 hB)).2.2
theorem o272_23 (hB : BytesOK) : okL 272 33 T272_23 = true := (okL_c (o272_22 hB)).2.2
theorem o272_24 (hB : BytesOK) : okL 272 34 T272_24 = true := (okL_c (o272_23 hB)).2.2
theorem o272_25 (hB : BytesOK) : okL 272 35 T272_25 = true := (okL_c (o272_24 hB)).2.2
theorem o272_26 (hB : BytesOK) : okL 272 38 T272_26 = true := (okL_c (o272_25 hB)).2.2
theorem o272_27 (hB : BytesOK) : okL 272 39 T272_27 = true := (okL_c (o272_26 hB)).2.2
theorem o272_28 (hB : BytesOK) : okL 272 42 T272_28 = true := (okL_c (o272_27 hB)).2.2
theorem o272_29 (hB : BytesOK) : okL 272 43 T272_29 = true := (okL_c (o272_28 hB)).2.2
theorem o272_30 (hB : BytesOK) : okL 272 44 T272_30 = true := (okL_c (o272_29 hB)).2.2
theorem o272_31 (hB : BytesOK) : okL 272 45 T272_31 = true := (okL_c (o272_30 hB)).2.2
theorem o272_32 (hB : BytesOK) : okL 272 48 T272_32 = true := (okL_c (o272_31 hB)).2.2
theorem o272_33 (hB : BytesOK) : okL 272 49 T272_33 = true := (okL_c (o272_32 hB)).2.2
theorem o272_34 (hB : BytesOK) : okL 272 52 T272_34 = true := (okL_c (o272_33 hB)).2.2
theorem o272_35 (hB : BytesOK) : okL 272 53 T272_35 = true := (okL_c (o272_34 hB)).2.2
theorem o272_36 (hB : BytesOK) : okL 272 54 T272_36 = true := (okL_c (o272_35 hB)).2.2
theorem o272_37 (hB : BytesOK) : okL 272 55 T272_37 = true := (okL_c (o272_36 hB)).2.2
theorem o272_38 (hB : BytesOK) : okL 272 58 T272_38 = true := (okL_c (o272_37 hB)).2.2
theorem o272_39 (hB : BytesOK) : okL 272 61 T272_39 = true := (okL_c (o272_38 hB)).2.2
theorem o272_40 (hB : BytesOK) : okL 272 62 T272_40 = true := (okL_c (o272_39 hB)).2.2
theorem o272_41 (hB : BytesOK) : okL 272 63 T272_41 = true := (okL_c (o272_40 hB)).2.2
theorem o272_42 (hB : BytesOK) : okL 272 66 T272_42 = true := (okL_c (o272_41 hB)).2.2
theorem o272_43 (hB : BytesOK) : okL 272 67 T272_43 = true := (okL_c (o272_42 hB)).2.2
theorem o272_44 (hB : BytesOK) : okL 272 70 T272_44 = true := (okL_c (o272_43 hB)).2.2
theorem o272_45 (hB : BytesOK) : okL 272 71 T272_45 = true := (okL_c (o272_44 hB)).2.2
theorem o272_46 (hB : BytesOK) : okL 272 72 T272_46 = true := (okL_c (o272_45 hB)).2.2
theorem o272_47 (hB : BytesOK) : okL 272 73 T272_47 = true := (okL_c (o272_46 hB)).2.2
theorem o272_48 (hB : BytesOK) : okL 272 76 T272_48 = true := (okL_c (o272_47 hB)).2.2
theorem o272_49 (hB : BytesOK) : okL 272 77 T272_49 = true := (okL_c (o272_48 hB)).2.2
theorem ml272 : mml 272 = 4 := by decide +kernel
theorem mr272 : mret 272 = some .int := by decide +kernel
theorem mg272 : kGood 272 = true := by decide +kernel

def T273_66 : List Tok := []
def T273_65 : List Tok := (.ireturn, 1, 0, 0) :: T273_66
def T273_64 : List Tok := (.iconst 1, 1, 0, 0) :: T273_65
def T273_63 : List Tok := (.goto (-24), 3, 0, 0) :: T273_64
def T273_62 : List Tok := (.iinc 5 1, 3, 0, 0) :: T273_63
def T273_61 : List Tok := (.iastore, 1, 0, 0) :: T273_62
def T273_60 : List Tok := (.iconst 0, 1, 0, 0) :: T273_61
def T273_59 : List Tok := (.iadd, 1, 0, 0) :: T273_60
def T273_58 : List Tok := (.iload 5, 2, 0, 0) :: T273_59
def T273_57 : List Tok := (.imul, 1, 0, 0) :: T273_58
def T273_56 : List Tok := (.iload 4, 2, 0, 0) :: T273_57
def T273_55 : List Tok := (.bipush 40, 2, 0, 0) :: T273_56
def T273_54 : List Tok := (.getfield 52, 3, 742, 1383) :: T273_55
def T273_53 : List Tok := (.aload_n 0, 1, 0, 0) :: T273_54
def T273_52 : List Tok := (.if_icmp .ge 23, 3, 0, 0) :: T273_53
def T273_51 : List Tok := (.bipush 40, 2, 0, 0) :: T273_52
def T273_50 : List Tok := (.iload 5, 2, 0, 0) :: T273_51
def T273_49 : List Tok := (.istore 5, 2, 0, 0) :: T273_50
def T273_48 : List Tok := (.iconst 0, 1, 0, 0) :: T273_49
def T273_47 : List Tok := (.iastore, 1, 0, 0) :: T273_48
def T273_46 : List Tok := (.iload_n 3, 1, 0, 0) :: T273_47
def T273_45 : List Tok := (.iload 4, 2, 0, 0) :: T273_46
def T273_44 : List Tok := (.getfield 49, 3, 741, 1382) :: T273_45
def T273_43 : List Tok := (.aload_n 0, 1, 0, 0) :: T273_44
def T273_42 : List Tok := (.iastore, 1, 0, 0) :: T273_43
def T273_41 : List Tok := (.iload_n 2, 1, 0, 0) :: T273_42
def T273_40 : List Tok := (.iload 4, 2, 0, 0) :: T273_41
def T273_39 : List Tok := (.getfield 46, 3, 740, 1381) :: T273_40
def T273_38 : List Tok := (.aload_n 0, 1, 0, 0) :: T273_39
def T273_37 : List Tok := (.iastore, 1, 0, 0) :: T273_38
def T273_36 : List Tok := (.iload 4, 2, 0, 0) :: T273_37
def T273_35 : List Tok := (.iload_n 1, 1, 0, 0) :: T273_36
def T273_34 : List Tok := (.getfield 43, 3, 739, 1380) :: T273_35
def T273_33 : List Tok := (.aload_n 0, 1, 0, 0) :: T273_34
def T273_32 : List Tok := (.istore 4, 2, 0, 0) :: T273_33
def T273_31 : List Tok := (.invokevirtual 320, 3, 272, 1844) :: T273_32
def T273_30 : List Tok := (.aload_n 0, 1, 0, 0) :: T273_31
def T273_29 : List Tok := (.ireturn, 1, 0, 0) :: T273_30
def T273_28 : List Tok := (.iconst 1, 1, 0, 0) :: T273_29
def T273_27 : List Tok := (.ifCond .ge 5, 3, 0, 0) :: T273_28
def T273_26 : List Tok := (.iload_n 2, 1, 0, 0) :: T273_27
def T273_25 : List Tok := (.iastore, 1, 0, 0) :: T273_26
def T273_24 : List Tok := (.iconst (-1), 1, 0, 0) :: T273_25
def T273_23 : List Tok := (.iload_n 1, 1, 0, 0) :: T273_24
def T273_22 : List Tok := (.getfield 43, 3, 739, 1380) :: T273_23
def T273_21 : List Tok := (.aload_n 0, 1, 0, 0) :: T273_22
def T273_20 : List Tok := (.ireturn, 1, 0, 0) :: T273_21
def T273_19 : List Tok := (.bipush (-14), 2, 0, 0) :: T273_20
def T273_18 : List Tok := (.ifCond .ge 6, 3, 0, 0) :: T273_19
def T273_17 : List Tok := (.iload_n 3, 1, 0, 0) :: T273_18
def T273_16 : List Tok := (.ifCond .lt 10, 3, 0, 0) :: T273_17
def T273_15 : List Tok := (.iload_n 2, 1, 0, 0) :: T273_16
def T273_14 : List Tok := (.ireturn, 1, 0, 0) :: T273_15
def T273_13 : List Tok := (.iconst (-1), 1, 0, 0) :: T273_14
def T273_12 : List Tok := (.if_icmp .le 5, 3, 0, 0) :: T273_13
def T273_11 : List Tok := (.bipush 40, 2, 0, 0) :: T273_12
def T273_10 : List Tok := (.iload_n 3, 1, 0, 0) :: T273_11
def T273_9 : List Tok := (.ifCond .lt 11, 3, 0, 0) :: T273_10
def T273_8 : List Tok := (.iload_n 2, 1, 0, 0) :: T273_9
def T273_7 : List Tok := (.ifCond .eq 13, 3, 0, 0) :: T273_8
def T273_6 : List Tok := (.invokestatic 64, 3, 184, 1491) :: T273_7
def T273_5 : List Tok := (.iconst 3, 1, 0, 0) :: T273_6
def T273_4 : List Tok := (.iconst (-1), 1, 0, 0) :: T273_5
def T273_3 : List Tok := (.iload_n 2, 1, 0, 0) :: T273_4
def T273_2 : List Tok := (.ifCond .eq 22, 3, 0, 0) :: T273_3
def T273_1 : List Tok := (.invokestatic 317, 3, 271, 1841) :: T273_2
def T273_0 : List Tok := (.iload_n 1, 1, 0, 0) :: T273_1
theorem o273_0 (hB : BytesOK) : okL 273 0 T273_0 = true := by
  have h := hB.1 273
  rw [show tk 273 = T273_0 from by decide +kernel] at h
  exact h
theorem o273_1 (hB : BytesOK) : okL 273 1 T273_1 = true := (okL_c (o273_0 hB)).2.2
theorem o273_2 (hB : BytesOK) : okL 273 4 T273_2 = true := (okL_c (o273_1 hB)).2.2
theorem o273_3 (hB : BytesOK) : okL 273 7 T273_3 = true := (okL_c (o273_2 hB)).2.2
theorem o273_4 (hB : BytesOK) : okL 273 8 T273_4 = true := (okL_c (o273_3 hB)).2.2
theorem o273_5 (hB : BytesOK) : okL 273 9 T273_5 = true := (okL_c (o273_4 hB)).2.2
theorem o273_6 (hB : BytesOK) : okL 273 10 T273_6 = true := (okL_c (o273_5 hB)).2.2
theorem o273_7 (hB : BytesOK) : okL 273 13 T273_7 = true := (okL_c (o273_6 hB)).2.2
theorem o273_8 (hB : BytesOK) : okL 273 16 T273_8 = true := (okL_c (o273_7 hB)).2.2
theorem o273_9 (hB : BytesOK) : okL 273 17 T273_9 = true := (okL_c (o273_8 hB)).2.2
theorem o273_10 (hB : BytesOK) : okL 273 20 T273_10 = true := (okL_c (o273_9 hB)).2.2
theorem o273_11 (hB : BytesOK) : okL 273 21 T273_11 = true := (okL_c (o273_10 hB)).2.2
theorem o273_12 (hB : BytesOK) : okL 273 23 T273_12 = true := (okL_c (o273_11 hB)).2.2
theorem o273_13 (hB : BytesOK) : okL 273 26 T273_13 = true := (okL_c (o273_12 hB)).2.2
theorem o273_14 (hB : BytesOK) : okL 273 27 T273_14 = true := (okL_c (o273_13 hB)).2.2
theorem o273_15 (hB : BytesOK) : okL 273 28 T273_15 = true := (okL_c (o273_14 hB)).2.2
theorem o273_16 (hB : BytesOK) : okL 273 29 T273_16 = true := (okL_c (o273_15 hB)).2.2
theorem o273_17 (hB : BytesOK) : okL 273 32 T273_17 = true := (okL_c (o273_16 hB)).2.2
theorem o273_18 (hB : BytesOK) : okL 273 33 T273_18 = true := (okL_c (o273_17 hB)).2.2
theorem o273_19 (hB : BytesOK) : okL 273 36 T273_19 = true := (okL_c (o273_18 hB)).2.2
theorem o273_20 (hB : BytesOK) : okL 273 38 T273_20 = true := (okL_c (o273_19 hB)).2.2
theorem o273_21 (hB : BytesOK) : okL 273 39 T273_21 = true := (okL_c (o273_20 hB)).2.2
theorem o273_22 (hB : BytesOK) : okL 273 40 T273_22 = true := (okL_c (o273_21 hB)).2.2
theorem o273_23 (hB : BytesOK) : okL 273 43 T273_23 = true := (okL_c (o273_22 hB)).2.2
theorem o273_24 (hB : BytesOK) : okL 273 44 T273_24 = true := (okL_c (o273_23 hB)).2.2
theorem o273_25 (hB : BytesOK) : okL 273 45 T273_25 = true := (okL_c (o273_24 hB)).2.2
theorem o273_26 (hB : BytesOK) : okL 273 46 T273_26 = true := (okL_c (o273_25 hB)).2.2
theorem o273_27 (hB : BytesOK) : okL 273 47 T273_27 = true := (okL_c (o273_26 hB)).2.2
theorem o273_28 (hB : BytesOK) : okL 273 50 T273_28 = true := (okL_c (o273_27 hB)).2.2
theorem o273_29 (hB : BytesOK) : okL 273 51 T273_29 = true := (okL_c (o273_28 hB)).2.2
theorem o273_30 (hB : BytesOK) : okL 273 52 T273_30 = true := (okL_c (o273_29 hB)).2.2
theorem o273_31 (hB : BytesOK) : okL 273 53 T273_31 = true := (okL_c (o273_30 hB)).2.2
theorem o273_32 (hB : BytesOK) : okL 273 56 T273_32 = true := (okL_c (o273_31 hB)).2.2
theorem o273_33 (hB : BytesOK) : okL 273 58 T273_33 = true := (okL_c (o273_32 hB)).2.2
theorem o273_34 (hB : BytesOK) : okL 273 59 T273_34 = true := (okL_c (o273_33 hB)).2.2
theorem o273_35 (hB : BytesOK) : okL 273 62 T273_35 = true := (okL_c (o273_34 hB)).2.2
theorem o273_36 (hB : BytesOK) : okL 273 63 T273_36 = true := (okL_c (o273_35 hB)).2.2
theorem o273_37 (hB : BytesOK) : okL 273 65 T273_37 = true := (okL_c (o273_36 hB)).2.2
theorem o273_38 (hB : BytesOK) : okL 273 66 T273_38 = true := (okL_c (o273_37 hB)).2.2
theorem o273_39 (hB : BytesOK) : okL 273 67 T273_39 = true := (okL_c (o273_38 hB)).2.2
theorem o273_40 (hB : BytesOK) : okL 273 70 T273_40 = true := (okL_c (o273_39 hB)).2.2
theorem o273_41 (hB : BytesOK) : okL 273 72 T273_41 = true := (okL_c (o273_40 hB)).2.2
theorem o273_42 (hB : BytesOK) : okL 273 73 T273_42 = true := (okL_c (o273_41 hB)).2.2
theorem o273_43 (hB : BytesOK) : okL 273 74 T273_43 = true := (okL_c (o273_42 hB)).2.2
theorem o273_44 (hB : BytesOK) : okL 273 75 T273_44 = true := (okL_c (o273_43 hB)).2.2
theorem o273_45 (hB : BytesOK) : okL 273 78 T273_45 = true := (okL_c (o273_44 hB)).2.2
theorem o273_46 (hB : BytesOK) : okL 273 80 T273_46 = true := (okL_c (o273_45 hB)).2.2
theorem o273_47 (hB : BytesOK) : okL 273 81 T273_47 = true := (okL_c (o273_46 hB)).2.2
theorem o273_48 (hB : BytesOK) : okL 273 82 T273_48 = true := (okL_c (o273_47 hB)).2.2
theorem o273_49 (hB : BytesOK) : okL 273 83 T273_49 = true := (okL_c (o273_48 hB)).2.2
theorem o273_50 (hB : BytesOK) : okL 273 85 T273_50 = true := (okL_c (o273_49 hB)).2.2
theorem o273_51 (hB : BytesOK) : okL 273 87 T273_51 = true := (okL_c (o273_50 hB)).2.2
theorem o273_52 (hB : BytesOK) : okL 273 89 T273_52 = true := (okL_c (o273_51 hB)).2.2
theorem o273_53 (hB : BytesOK) : okL 273 92 T273_53 = true := (okL_c (o273_52 hB)).2.2
theorem o273_54 (hB : BytesOK) : okL 273 93 T273_54 = true := (okL_c (o273_53 hB)).2.2
theorem o273_55 (hB : BytesOK) : okL 273 96 T273_55 = true := (okL_c (o273_54 hB)).2.2
theorem o273_56 (hB : BytesOK) : okL 273 98 T273_56 = true := (okL_c (o273_55 hB)).2.2
theorem o273_57 (hB : BytesOK) : okL 273 100 T273_57 = true := (okL_c (o273_56 hB)).2.2
theorem o273_58 (hB : BytesOK) : okL 273 101 T273_58 = true := (okL_c (o273_57 hB)).2.2
theorem o273_59 (hB : BytesOK) : okL 273 103 T273_59 = true := (okL_c (o273_58 hB)).2.2
theorem o273_60 (hB : BytesOK) : okL 273 104 T273_60 = true := (okL_c (o273_59 hB)).2.2
theorem o273_61 (hB : BytesOK) : okL 273 105 T273_61 = true := (okL_c (o273_60 hB)).2.2
theorem o273_62 (hB : BytesOK) : okL 273 106 T273_62 = true := (okL_c (o273_61 hB)).2.2
theorem o273_63 (hB : BytesOK) : okL 273 109 T273_63 = true := (okL_c (o273_62 hB)).2.2
theorem o273_64 (hB : BytesOK) : okL 273 112 T273_64 = true := (okL_c (o273_63 hB)).2.2
theorem o273_65 (hB : BytesOK) : okL 273 113 T273_65 = true := (okL_c (o273_64 hB)).2.2
theorem ml273 : mml 273 = 6 := by decide +kernel
theorem mr273 : mret 273 = some .int := by decide +kernel
theorem mg273 : kGood 273 = true := by decide +kernel

def T274_54 : List Tok := []
def T274_53 : List Tok := (.ireturn, 1, 0, 0) :: T274_54
def T274_52 : List Tok := (.iconst 1, 1, 0, 0) :: T274_53
def T274_51 : List Tok := (.iastore, 1, 0, 0) :: T274_52
def T274_50 : List Tok := (.iload_n 3, 1, 0, 0) :: T274_51
def T274_49 : List Tok := (.goto 4, 3, 0, 0) :: T274_50
def T274_48 : List Tok := (.i2s, 1, 0, 0) :: T274_49
def T274_47 : List Tok := (.iload_n 3, 1, 0, 0) :: T274_48
def T274_46 : List Tok := (.if_icmp .ne 8, 3, 0, 0) :: T274_47
def T274_45 : List Tok := (.iconst 1, 1, 0, 0) :: T274_46
def T274_44 : List Tok := (.iaload, 1, 0, 0) :: T274_45
def T274_43 : List Tok := (.iload 4, 2, 0, 0) :: T274_44
def T274_42 : List Tok := (.getfield 46, 3, 740, 1381) :: T274_43
def T274_41 : List Tok := (.aload_n 0, 1, 0, 0) :: T274_42
def T274_40 : List Tok := (.goto 20, 3, 0, 0) :: T274_41
def T274_39 : List Tok := (.i2b, 1, 0, 0) :: T274_40
def T274_38 : List Tok := (.iload_n 3, 1, 0, 0) :: T274_39
def T274_37 : List Tok := (.ifCond .ne 8, 3, 0, 0) :: T274_38
def T274_36 : List Tok := (.iaload, 1, 0, 0) :: T274_37
def T274_35 : List Tok := (.iload 4, 2, 0, 0) :: T274_36
def T274_34 : List Tok := (.getfield 46, 3, 740, 1381) :: T274_35
def T274_33 : List Tok := (.aload_n 0, 1, 0, 0) :: T274_34
def T274_32 : List Tok := (.iadd, 1, 0, 0) :: T274_33
def T274_31 : List Tok := (.iload_n 2, 1, 0, 0) :: T274_32
def T274_30 : List Tok := (.imul, 1, 0, 0) :: T274_31
def T274_29 : List Tok := (.iload 4, 2, 0, 0) :: T274_30
def T274_28 : List Tok := (.bipush 40, 2, 0, 0) :: T274_29
def T274_27 : List Tok := (.getfield 52, 3, 742, 1383) :: T274_28
def T274_26 : List Tok := (.aload_n 0, 1, 0, 0) :: T274_27
def T274_25 : List Tok := (.ireturn, 1, 0, 0) :: T274_26
def T274_24 : List Tok := (.bipush (-12), 2, 0, 0) :: T274_25
def T274_23 : List Tok := (.ifCond .ne 6, 3, 0, 0) :: T274_24
def T274_22 : List Tok := (.invokestatic 64, 3, 184, 1491) :: T274_23
def T274_21 : List Tok := (.isub, 1, 0, 0) :: T274_22
def T274_20 : List Tok := (.iconst 1, 1, 0, 0) :: T274_21
def T274_19 : List Tok := (.iaload, 1, 0, 0) :: T274_20
def T274_18 : List Tok := (.iload 4, 2, 0, 0) :: T274_19
def T274_17 : List Tok := (.getfield 49, 3, 741, 1382) :: T274_18
def T274_16 : List Tok := (.aload_n 0, 1, 0, 0) :: T274_17
def T274_15 : List Tok := (.iconst 0, 1, 0, 0) :: T274_16
def T274_14 : List Tok := (.iload_n 2, 1, 0, 0) :: T274_15
def T274_13 : List Tok := (.ireturn, 1, 0, 0) :: T274_14
def T274_12 : List Tok := (.bipush (-11), 2, 0, 0) :: T274_13
def T274_11 : List Tok := (.ifCond .ge 6, 3, 0, 0) :: T274_12
def T274_10 : List Tok := (.iload 4, 2, 0, 0) :: T274_11
def T274_9 : List Tok := (.istore 4, 2, 0, 0) :: T274_10
def T274_8 : List Tok := (.iaload, 1, 0, 0) :: T274_9
def T274_7 : List Tok := (.iload_n 1, 1, 0, 0) :: T274_8
def T274_6 : List Tok := (.getfield 43, 3, 739, 1380) :: T274_7
def T274_5 : List Tok := (.aload_n 0, 1, 0, 0) :: T274_6
def T274_4 : List Tok := (.ireturn, 1, 0, 0) :: T274_5
def T274_3 : List Tok := (.iconst (-1), 1, 0, 0) :: T274_4
def T274_2 : List Tok := (.ifCond .ne 5, 3, 0, 0) :: T274_3
def T274_1 : List Tok := (.invokestatic 317, 3, 271, 1841) :: T274_2
def T274_0 : List Tok := (.iload_n 1, 1, 0, 0) :: T274_1
theorem o274_0 (hB : BytesOK) : okL 274 0 T274_0 = true := by
  have h := hB.1 274
  rw [show tk 274 = T274_0 from by decide +kernel] at h
  exact h
theorem o274_1 (hB : BytesOK) : okL 274 1 T274_1 = true := (okL_c (o274_0 hB)).2.2
theorem o274_2 (hB : BytesOK) : okL 274 4 T274_2 = true := (okL_c (o274_1 hB)).2.2
theorem o274_3 (hB : BytesOK) : okL 274 7 T274_3 = true := (okL_c (o274_2 hB)).2.2
theorem o274_4 (hB : BytesOK) : okL 274 8 T274_4 = true := (okL_c (o274_3 hB)).2.2
theorem o274_5 (hB : BytesOK) : okL 274 9 T274_5 = true := (okL_c (o274_4 hB)).2.2
theorem o274_6 (hB : BytesOK) : okL 274 10 T274_6 = true := (okL_c (o274_5 hB)).2.2
theorem o274_7 (hB : BytesOK) : okL 274 13 T274_7 = true := (okL_c (o274_6 hB)).2.2
theorem o274_8 (hB : BytesOK) : okL 274 14 T274_8 = true := (okL_c (o274_7 hB)).2.2
theorem o274_9 (hB : BytesOK) : okL 274 15 T274_9 = true := (okL_c (o274_8 hB)).2.2
theorem o274_10 (hB : BytesOK) : okL 274 17 T274_10 = true := (okL_c (o274_9 hB)).2.2
theorem o274_11 (hB : BytesOK) : okL 274 19 T274_11 = true := (okL_c (o274_10 hB)).2.2
theorem o274_12 (hB : BytesOK) : okL 274 22 T274_12 = true := (okL_c (o274_11 hB)).2.2
theorem o274_13 (hB : BytesOK) : okL 274 24 T274_13 = true := (okL_c (o274_12 hB)).2.2
theorem o274_14 (hB : BytesOK) : okL 274 25 T274_14 = true := (okL_c (o274_13 hB)).2.2
theorem o274_15 (hB : BytesOK) : okL 274 26 T274_15 = true := (okL_c (o274_14 hB)).2.2
theorem o274_16 (hB : BytesOK) : okL 274 27 T274_16 = true := (okL_c (o274_15 hB)).2.2
theorem o274_17 (hB : BytesOK) : okL 274 28 T274_17 = true := (okL_c (o274_16 hB)).2.2
theorem o274_18 (hB : BytesOK) : okL 274 31 T274_18 = true := (okL_c (o274_17 hB)).2.2
theorem o274_19 (hB : BytesOK) : okL 274 33 T274_19 = true := (okL_c (o274_18 hB)).2.2
theorem o274_20 (hB : BytesOK) : okL 274 34 T274_20 = true := (okL_c (o274_19 hB)).2.2
theorem o274_21 (hB : BytesOK) : okL 274 35 T274_21 = true := (okL_c (o274_20 hB)).2.2
theorem o274_22 (hB : BytesOK) : okL 274 36 T274_22 = true := (okL_c (o274_21 hB)).2.2
theorem o274_23 (hB : BytesOK) : okL 274 39 T274_23 = true := (okL_c (o274_22 hB)).2.2
theorem o274_24 (hB : BytesOK) : okL 274 42 T274_24 = true := (okL_c (o274_23 hB)).2.2
theorem o274_25 (hB : BytesOK) : okL 274 44 T274_25 = true := (okL_c (o274_24 hB)).2.2
theorem o274_26 (hB : BytesOK) : okL 274 45 T274_26 = true := (okL_c (o274_25 hB)).2.2
theorem o274_27 (hB : BytesOK) : okL 274 46 T274_27 = true := (okL_c (o274_26 hB)).2.2
theorem o274_28 (hB : BytesOK) : okL 274 49 T274_28 = true := (okL_c (o274_27 hB)).2.2
theorem o274_29 (hB : BytesOK) : okL 274 51 T274_29 = true := (okL_c (o274_28 hB)).2.2
theorem o274_30 (hB : BytesOK) : okL 274 53 T274_30 = true := (okL_c (o274_29 hB)).2.2
theorem o274_31 (hB : BytesOK) : okL 274 54 T274_31 = true := (okL_c (o274_30 hB)).2.2
theorem o274_32 (hB : BytesOK) : okL 274 55 T274_32 = true := (okL_c (o274_31 hB)).2.2
theorem o274_33 (hB : BytesOK) : okL 274 56 T274_33 = true := (okL_c (o274_32 hB)).2.2
theorem o274_34 (hB : BytesOK) : okL 274 57 T274_34 = true := (okL_c (o274_33 hB)).2.2
theorem o274_35 (hB : BytesOK) : okL 274 60 T274_35 = true := (okL_c (o274_34 hB)).2.2
theorem o274_36 (hB : BytesOK) : okL 274 62 T274_36 = true := (okL_c (o274_35 hB)).2.2
theorem o274_37 (hB : BytesOK) : okL 274 63 T274_37 = true := (okL_c (o274_36 hB)).2.2
theorem o274_38 (hB : BytesOK) : okL 274 66 T274_38 = true := (okL_c (o274_37 hB)).2.2
theorem o274_39 (hB : BytesOK) : okL 274 67 T274_39 = true := (okL_c (o274_38 hB)).2.2
theorem o274_40 (hB : BytesOK) : okL 274 68 T274_40 = true := (okL_c (o274_39 hB)).2.2
theorem o274_41 (hB : BytesOK) : okL 274 71 T274_41 = true := (okL_c (o274_40 hB)).2.2
theorem o274_42 (hB : BytesOK) : okL 274 72 T274_42 = true := (okL_c (o274_41 hB)).2.2
theorem o274_43 (hB : BytesOK) : okL 274 75 T274_43 = true := (okL_c (o274_42 hB)).2.2
theorem o274_44 (hB : BytesOK) : okL 274 77 T274_44 = true := (okL_c (o274_43 hB)).2.2
theorem o274_45 (hB : BytesOK) : okL 274 78 T274_45 = true := (okL_c (o274_44 hB)).2.2
theorem o274_46 (hB : BytesOK) : okL 274 79 T274_46 = true := (okL_c (o274_45 hB)).2.2
theorem o274_47 (hB : BytesOK) : okL 274 82 T274_47 = true := (okL_c (o274_46 hB)).2.2
theorem o274_48 (hB : BytesOK) : okL 274 83 T274_48 = true := (okL_c (o274_47 hB)).2.2
theorem o274_49 (hB : BytesOK) : okL 274 84 T274_49 = true := (okL_c (o274_48 hB)).2.2
theorem o274_50 (hB : BytesOK) : okL 274 87 T274_50 = true := (okL_c (o274_49 hB)).2.2
theorem o274_51 (hB : BytesOK) : okL 274 88 T274_51 = true := (okL_c (o274_50 hB)).2.2
theorem o274_52 (hB : BytesOK) : okL 274 89 T274_52 = true := (okL_c (o274_51 hB)).2.2
theorem o274_53 (hB : BytesOK) : okL 274 90 T274_53 = true := (okL_c (o274_52 hB)).2.2
theorem ml274 : mml 274 = 5 := by decide +kernel
theorem mr274 : mret 274 = some .int := by decide +kernel
theorem mg274 : kGood 274 = true := by decide +kernel

def T276_99 : List Tok := []
def T276_98 : List Tok := (.ireturn, 1, 0, 0) :: T276_99
def T276_97 : List Tok := (.iload 5, 2, 0, 0) :: T276_98
def T276_96 : List Tok := (.goto (-116), 3, 0, 0) :: T276_97
def T276_95 : List Tok := (.iinc 6 1, 3, 0, 0) :: T276_96
def T276_94 : List Tok := (.istore 5, 2, 0, 0) :: T276_95
def T276_93 : List Tok := (.iadd, 1, 0, 0) :: T276_94
def T276_92 : List Tok := (.iconst 0, 1, 0, 0) :: T276_93
def T276_91 : List Tok := (.goto 4, 3, 0, 0) :: T276_92
def T276_90 : List Tok := (.iconst 1, 1, 0, 0) :: T276_91
def T276_89 : List Tok := (.ifCond .lt 7, 3, 0, 0) :: T276_90
def T276_88 : List Tok := (.iload 8, 2, 0, 0) :: T276_89
def T276_87 : List Tok := (.iload 5, 2, 0, 0) :: T276_88
def T276_86 : List Tok := (.ireturn, 1, 0, 0) :: T276_87
def T276_85 : List Tok := (.bipush (-2), 2, 0, 0) :: T276_86
def T276_84 : List Tok := (.if_icmp .ne 6, 3, 0, 0) :: T276_85
def T276_83 : List Tok := (.bipush (-2), 2, 0, 0) :: T276_84
def T276_82 : List Tok := (.iload 8, 2, 0, 0) :: T276_83
def T276_81 : List Tok := (.istore 8, 2, 0, 0) :: T276_82
def T276_80 : List Tok := (.invokevirtual 324, 3, 192, 1861) :: T276_81
def T276_79 : List Tok := (.iconst (-1), 1, 0, 0) :: T276_80
def T276_78 : List Tok := (.imul, 1, 0, 0) :: T276_79
def T276_77 : List Tok := (.idiv, 1, 0, 0) :: T276_78
def T276_76 : List Tok := (.ldc_w 323, 3, 11, 1860) :: T276_77
def T276_75 : List Tok := (.iload 7, 2, 0, 0) :: T276_76
def T276_74 : List Tok := (.sipush 1000, 3, 0, 0) :: T276_75
def T276_73 : List Tok := (.irem, 1, 0, 0) :: T276_74
def T276_72 : List Tok := (.sipush 10000, 3, 0, 0) :: T276_73
def T276_71 : List Tok := (.idiv, 1, 0, 0) :: T276_72
def T276_70 : List Tok := (.sipush 1000, 3, 0, 0) :: T276_71
def T276_69 : List Tok := (.iload 7, 2, 0, 0) :: T276_70
def T276_68 : List Tok := (.irem, 1, 0, 0) :: T276_69
def T276_67 : List Tok := (.sipush 1000, 3, 0, 0) :: T276_68
def T276_66 : List Tok := (.iload 7, 2, 0, 0) :: T276_67
def T276_65 : List Tok := (.aload_n 0, 1, 0, 0) :: T276_66
def T276_64 : List Tok := (.goto 34, 3, 0, 0) :: T276_65
def T276_63 : List Tok := (.iconst (-1), 1, 0, 0) :: T276_64
def T276_62 : List Tok := (.ifCond .ge 7, 3, 0, 0) :: T276_63
def T276_61 : List Tok := (.iload 7, 2, 0, 0) :: T276_62
def T276_60 : List Tok := (.istore 7, 2, 0, 0) :: T276_61
def T276_59 : List Tok := (.iaload, 1, 0, 0) :: T276_60
def T276_58 : List Tok := (.iadd, 1, 0, 0) :: T276_59
def T276_57 : List Tok := (.iload 6, 2, 0, 0) :: T276_58
def T276_56 : List Tok := (.iadd, 1, 0, 0) :: T276_57
def T276_55 : List Tok := (.iload_n 2, 1, 0, 0) :: T276_56
def T276_54 : List Tok := (.imul, 1, 0, 0) :: T276_55
def T276_53 : List Tok := (.iload 4, 2, 0, 0) :: T276_54
def T276_52 : List Tok := (.bipush 40, 2, 0, 0) :: T276_53
def T276_51 : List Tok := (.getfield 52, 3, 742, 1383) :: T276_52
def T276_50 : List Tok := (.aload_n 0, 1, 0, 0) :: T276_51
def T276_49 : List Tok := (.ireturn, 1, 0, 0) :: T276_50
def T276_48 : List Tok := (.bipush (-12), 2, 0, 0) :: T276_49
def T276_47 : List Tok := (.if_icmp .le 6, 3, 0, 0) :: T276_48
def T276_46 : List Tok := (.isub, 1, 0, 0) :: T276_47
def T276_45 : List Tok := (.iload 6, 2, 0, 0) :: T276_46
def T276_44 : List Tok := (.isub, 1, 0, 0) :: T276_45
def T276_43 : List Tok := (.iconst 1, 1, 0, 0) :: T276_44
def T276_42 : List Tok := (.iaload, 1, 0, 0) :: T276_43
def T276_41 : List Tok := (.iload 4, 2, 0, 0) :: T276_42
def T276_40 : List Tok := (.getfield 49, 3, 741, 1382) :: T276_41
def T276_39 : List Tok := (.aload_n 0, 1, 0, 0) :: T276_40
def T276_38 : List Tok := (.iload_n 2, 1, 0, 0) :: T276_39
def T276_37 : List Tok := (.ifCond .lt 19, 3, 0, 0) :: T276_38
def T276_36 : List Tok := (.iload_n 2, 1, 0, 0) :: T276_37
def T276_35 : List Tok := (.if_icmp .ge 116, 3, 0, 0) :: T276_36
def T276_34 : List Tok := (.iload_n 3, 1, 0, 0) :: T276_35
def T276_33 : List Tok := (.iload 6, 2, 0, 0) :: T276_34
def T276_32 : List Tok := (.istore 6, 2, 0, 0) :: T276_33
def T276_31 : List Tok := (.iconst 0, 1, 0, 0) :: T276_32
def T276_30 : List Tok := (.istore 5, 2, 0, 0) :: T276_31
def T276_29 : List Tok := (.iconst 0, 1, 0, 0) :: T276_30
def T276_28 : List Tok := (.ireturn, 1, 0, 0) :: T276_29
def T276_27 : List Tok := (.bipush (-11), 2, 0, 0) :: T276_28
def T276_26 : List Tok := (.ifCond .ge 6, 3, 0, 0) :: T276_27
def T276_25 : List Tok := (.iload 4, 2, 0, 0) :: T276_26
def T276_24 : List Tok := (.ireturn, 1, 0, 0) :: T276_25
def T276_23 : List Tok := (.bipush (-13), 2, 0, 0) :: T276_24
def T276_22 : List Tok := (.if_icmp .eq 6, 3, 0, 0) :: T276_23
def T276_21 : List Tok := (.iconst 3, 1, 0, 0) :: T276_22
def T276_20 : List Tok := (.iaload, 1, 0, 0) :: T276_21
def T276_19 : List Tok := (.iload 4, 2, 0, 0) :: T276_20
def T276_18 : List Tok := (.getfield 46, 3, 740, 1381) :: T276_19
def T276_17 : List Tok := (.aload_n 0, 1, 0, 0) :: T276_18
def T276_16 : List Tok := (.ifCond .lt 17, 3, 0, 0) :: T276_17
def T276_15 : List Tok := (.iload 4, 2, 0, 0) :: T276_16
def T276_14 : List Tok := (.istore 4, 2, 0, 0) :: T276_15
def T276_13 : List Tok := (.iaload, 1, 0, 0) :: T276_14
def T276_12 : List Tok := (.iload_n 1, 1, 0, 0) :: T276_13
def T276_11 : List Tok := (.getfield 43, 3, 739, 1380) :: T276_12
def T276_10 : List Tok := (.aload_n 0, 1, 0, 0) :: T276_11
def T276_9 : List Tok := (.ireturn, 1, 0, 0) :: T276_10
def T276_8 : List Tok := (.iconst (-1), 1, 0, 0) :: T276_9
def T276_7 : List Tok := (.ifCond .ne 5, 3, 0, 0) :: T276_8
def T276_6 : List Tok := (.invokestatic 64, 3, 184, 1491) :: T276_7
def T276_5 : List Tok := (.bipush 6, 2, 0, 0) :: T276_6
def T276_4 : List Tok := (.iconst 0, 1, 0, 0) :: T276_5
def T276_3 : List Tok := (.iload_n 3, 1, 0, 0) :: T276_4
def T276_2 : List Tok := (.ifCond .eq 13, 3, 0, 0) :: T276_3
def T276_1 : List Tok := (.invokestatic 317, 3, 271, 1841) :: T276_2
def T276_0 : List Tok := (.iload_n 1, 1, 0, 0) :: T276_1
theorem o276_0 (hB : BytesOK) : okL 276 0 T276_0 = true := by
  have h := hB.1 276
  rw [show tk 276 = T276_0 from by decide +kernel] at h
  exact h
theorem o276_1 (hB : BytesOK) : okL 276 1 T276_1 = true := (okL_c (o276_0 hB)).2.2
theorem o276_2 (hB : BytesOK) : okL 276 4 T276_2 = true := (okL_c (o276_1 hB)).2.2
theorem o276_3 (hB : BytesOK) : okL 276 7 T276_3 = true := (okL_c (o276_2 hB)).2.2
theorem o276_4 (hB : BytesOK) : okL 276 8 T276_4 = true := (okL_c (o276_3 hB)).2.2
theorem o276_5 (hB : BytesOK) : okL 276 9 T276_5 = true := (okL_c (o276_4 hB)).2.2
theorem o276_6 (hB : BytesOK) : okL 276 11 T276_6 = true := (okL_c (o276_5 hB)).2.2
theorem o276_7 (hB : BytesOK) : okL 276 14 T276_7 = true := (okL_c (o276_6 hB)).2.2
theorem o276_8 (hB : BytesOK) : okL 276 17 T276_8 = true := (okL_c (o276_7 hB)).2.2
theorem o276_9 (hB : BytesOK) : okL 276 18 T276_9 = true := (okL_c (o276_8 hB)).2.2
theorem o276_10 (hB : BytesOK) : okL 276 19 T276_10 = true := (okL_c (o276_9 hB)).2.2
theorem o276_11 (hB : BytesOK) : okL 276 20 T276_11 = true := (okL_c (o276_10 hB)).2.2
theorem o276_12 (hB : BytesOK) : okL 276 23 T276_12 = true := (okL_c (o276_11 hB)).2.2
theorem o276_13 (hB : BytesOK) : okL 276 24 T276_13 = true := (okL_c (o276_12 hB)).2.2
theorem o276_14 (hB : BytesOK) : okL 276 25 T276_14 = true := (okL_c (o276_13 hB)).2.2
theorem o276_15 (hB : BytesOK) : okL 276 27 T276_15 = true := (okL_c (o276_14 hB)).2.2
theorem o276_16 (hB : BytesOK) : okL 276 29 T276_16 = true := (okL_c (o276_15 hB)).2.2
theorem o276_17 (hB : BytesOK) : okL 276 32 T276_17 = true := (okL_c (o276_16 hB)).2.2
theorem o276_18 (hB : BytesOK) : okL 276 33 T276_18 = true := (okL_c (o276_17 hB)).2.2
theorem o276_19 (hB : BytesOK) : okL 276 36 T276_19 = true := (okL_c (o276_18 hB)).2.2
theorem o276_20 (hB : BytesOK) : okL 276 38 T276_20 = true := (okL_c (o276_19 hB)).2.2
theorem o276_21 (hB : BytesOK) : okL 276 39 T276_21 = true := (okL_c (o276_20 hB)).2.2
theorem o276_22 (hB : BytesOK) : okL 276 40 T276_22 = true := (okL_c (o276_21 hB)).2.2
theorem o276_23 (hB : BytesOK) : okL 276 43 T276_23 = true := (okL_c (o276_22 hB)).2.2
theorem o276_24 (hB : BytesOK) : okL 276 45 T276_24 = true := (okL_c (o276_23 hB)).2.2
theorem o276_25 (hB : BytesOK) : okL 276 46 T276_25 = true := (okL_c (o276_24 hB)).2.2
theorem o276_26 (hB : BytesOK) : okL 276 48 T276_26 = true := (okL_c (o276_25 hB)).2.2
theorem o276_27 (hB : BytesOK) : okL 276 51 T276_27 = true := (okL_c (o276_26 hB)).2.2
theorem o276_28 (hB : BytesOK) : okL 276 53 T276_28 = true := (okL_c (o276_27 hB)).2.2
theorem o276_29 (hB : BytesOK) : okL 276 54 T276_29 = true := (okL_c (o276_28 hB)).2.2
theorem o276_30 (hB : BytesOK) : okL 276 55 T276_30 = true := (okL_c (o276_29 hB)).2.2
theorem o276_31 (hB : BytesOK) : okL 276 57 T276_31 = true := (okL_c (o276_30 hB)).2.2
theorem o276_32 (hB : BytesOK) : okL 276 58 T276_32 = true := (okL_c (o276_31 hB)).2.2
theorem o276_33 (hB : BytesOK) : okL 276 60 T276_33 = true := (okL_c (o276_32 hB)).2.2
theorem o276_34 (hB : BytesOK) : okL 276 62 T276_34 = true := (okL_c (o276_33 hB)).2.2
theorem o276_35 (hB : BytesOK) : okL 276 63 T276_35 = true := (okL_c (o276_34 hB)).2.2
theorem o276_36 (hB : BytesOK) : okL 276 66 T276_36 = true := (okL_c (o276_35 hB)).2.2
theorem o276_37 (hB : BytesOK) : okL 276 67 T276_37 = true := (okL_c (o276_36 hB)).2.2
theorem o276_38 (hB : BytesOK) : okL 276 70 T276_38 = true := (okL_c (o276_37 hB)).2.2
theorem o276_39 (hB : BytesOK) : okL 276 71 T276_39 = true := (okL_c (o276_38 hB)).2.2
theorem o276_40 (hB : BytesOK) : okL 276 72 T276_40 = true := (okL_c (o276_39 hB)).2.2
theorem o276_41 (hB : BytesOK) : okL 276 75 T276_41 = true := (okL_c (o276_40 hB)).2.2
theorem o276_42 (hB : BytesOK) : okL 276 77 T276_42 = true := (okL_c (o276_41 hB)).2.2
theorem o276_43 (hB : BytesOK) : okL 276 78 T276_43 = true := (okL_c (o276_42 hB)).2.2
theorem o276_44 (hB : BytesOK) : okL 276 79 T276_44 = true := (okL_c (o276_43 hB)).2.2
theorem o276_45 (hB : BytesOK) : okL 276 80 T276_45 = true := (okL_c (o276_44 hB)).2.2
theorem o276_46 (hB : BytesOK) : okL 276 82 T276_46 = true := (okL_c (o276_45 hB)).2.2
theorem o276_47 (hB : BytesOK) : okL 276 83 T276_47 = true := (okL_c (o276_46 hB)).2.2
theorem o276_48 (hB : BytesOK) : okL 276 86 T276_48 = true := (okL_c (o276_47 hB)).2.2
theorem o276_49 (hB : BytesOK) : okL 276 88 T276_49 = true := (okL_c (o276_48 hB)).2.2
theorem o276_50 (hB : BytesOK) : okL 276 89 T276_50 = true := (okL_c (o276_49 hB)).2.2
theorem o276_51 (hB : BytesOK) : okL 276 90 T276_51 = true := (okL_c (o276_50 hB)).2.2
theorem o276_52 (hB : BytesOK) : okL 276 93 T276_52 = true := (okL_c (o276_51 hB)).2.2
theorem o276_53 (hB : BytesOK) : okL 276 95 T276_53 = true := (okL_c (o276_52 hB)).2.2
theorem o276_54 (hB : BytesOK) : okL 276 97 T276_54 = true := (okL_c (o276_53 hB)).2.2
theorem o276_55 (hB : BytesOK) : okL 276 98 T276_55 = true := (okL_c (o276_54 hB)).2.2
theorem o276_56 (hB : BytesOK) : okL 276 99 T276_56 = true := (okL_c (o276_55 hB)).2.2
theorem o276_57 (hB : BytesOK) : okL 276 100 T276_57 = true := (okL_c (o276_56 hB)).2.2
theorem o276_58 (hB : BytesOK) : okL 276 102 T276_58 = true := (okL_c (o276_57 hB)).2.2
theorem o276_59 (hB : BytesOK) : okL 276 103 T276_59 = true := (okL_c (o276_58 hB)).2.2
theorem o276_60 (hB : BytesOK) : okL 276 104 T276_60 = true := (okL_c (o276_59 hB)).2.2
theorem o276_61 (hB : BytesOK) : okL 276 106 T276_61 = true := (okL_c (o276_60 hB)).2.2
theorem o276_62 (hB : BytesOK) : okL 276 108 T276_62 = true := (okL_c (o276_61 hB)).2.2
theorem o276_63 (hB : BytesOK) : okL 276 111 T276_63 = true := (okL_c (o276_62 hB)).2.2
theorem o276_64 (hB : BytesOK) : okL 276 112 T276_64 = true := (okL_c (o276_63 hB)).2.2
theorem o276_65 (hB : BytesOK) : okL 276 115 T276_65 = true := (okL_c (o276_64 hB)).2.2
theorem o276_66 (hB : BytesOK) : okL 276 116 T276_66 = true := (okL_c (o276_65 hB)).2.2
theorem o276_67 (hB : BytesOK) : okL 276 118 T276_67 = true := (okL_c (o276_66 hB)).2.2
theorem o276_68 (hB : BytesOK) : okL 276 121 T276_68 = true := (okL_c (o276_67 hB)).2.2
theorem o276_69 (hB : BytesOK) : okL 276 122 T276_69 = true := (okL_c (o276_68 hB)).2.2
theorem o276_70 (hB : BytesOK) : okL 276 124 T276_70 = true := (okL_c (o276_69 hB)).2.2
theorem o276_71 (hB : BytesOK) : okL 276 127 T276_71 = true := (okL_c (o276_70 hB)).2.2
theorem o276_72 (hB : BytesOK) : okL 276 128 T276_72 = true := (okL_c (o276_71 hB)).2.2
theorem o276_73 (hB : BytesOK) : okL 276 131 T276_73 = true := (okL_c (o276_72 hB)).2.2
theorem o276_74 (hB : BytesOK) : okL 276 132 T276_74 = true := (okL_c (o276_73 hB)).2.2
theorem o276_75 (hB : BytesOK) : okL 276 135 T276_75 = true := (okL_c (o276_74 hB)).2.2
theorem o276_76 (hB : BytesOK) : okL 276 137 T276_76 = true := (okL_c (o276_75 hB)).2.2
theorem o276_77 (hB : BytesOK) : okL 276 140 T276_77 = true := (okL_c (o276_76 hB)).2.2
theorem o276_78 (hB : BytesOK) : okL 276 141 T276_78 = true := (okL_c (o276_77 hB)).2.2
theorem o276_79 (hB : BytesOK) : okL 276 142 T276_79 = true := (okL_c (o276_78 hB)).2.2
theorem o276_80 (hB : BytesOK) : okL 276 143 T276_80 = true := (okL_c (o276_79 hB)).2.2
theorem o276_81 (hB : BytesOK) : okL 276 146 T276_81 = true := (okL_c (o276_80 hB)).2.2
theorem o276_82 (hB : BytesOK) : okL 276 148 T276_82 = true := (okL_c (o276_81 hB)).2.2
theorem o276_83 (hB : BytesOK) : okL 276 150 T276_83 = true := (okL_c (o276_82 hB)).2.2
theorem o276_84 (hB : BytesOK) : okL 276 152 T276_84 = true := (okL_c (o276_83 hB)).2.2
theorem o276_85 (hB : BytesOK) : okL 276 155 T276_85 = true := (okL_c (o276_84 hB)).2.2
theorem o276_86 (hB : BytesOK) : okL 276 157 T276_86 = true := (okL_c (o276_85 hB)).2.2
theorem o276_87 (hB : BytesOK) : okL 276 158 T276_87 = true := (okL_c (o276_86 hB)).2.2
theorem o276_88 (hB : BytesOK) : okL 276 160 T276_88 = true := (okL_c (o276_87 hB)).2.2
theorem o276_89 (hB : BytesOK) : okL 276 162 T276_89 = true := (okL_c (o276_88 hB)).2.2
theorem o276_90 (hB : BytesOK) : okL 276 165 T276_90 = true := (okL_c (o276_89 hB)).2.2
theorem o276_91 (hB : BytesOK) : okL 276 166 T276_91 = true := (okL_c (o276_90 hB)).2.2
theorem o276_92 (hB : BytesOK) : okL 276 169 T276_92 = true := (okL_c (o276_91 hB)).2.2
theorem o276_93 (hB : BytesOK) : okL 276 170 T276_93 = true := (okL_c (o276_92 hB)).2.2
theorem o276_94 (hB : BytesOK) : okL 276 171 T276_94 = true := (okL_c (o276_93 hB)).2.2
theorem o276_95 (hB : BytesOK) : okL 276 173 T276_95 = true := (okL_c (o276_94 hB)).2.2
theorem o276_96 (hB : BytesOK) : okL 276 176 T276_96 = true := (okL_c (o276_95 hB)).2.2
theorem o276_97 (hB : BytesOK) : okL 276 179 T276_97 = true := (okL_c (o276_96 hB)).2.2
theorem o276_98 (hB : BytesOK) : okL 276 181 T276_98 = true := (okL_c (o276_97 hB)).2.2
theorem ml276 : mml 276 = 9 := by decide +kernel
theorem mr276 : mret 276 = some .int := by decide +kernel
theorem mg276 : kGood 276 = true := by decide +kernel

def T300_7 : List Tok := []
def T300_6 : List Tok := (.ireturn, 1, 0, 0) :: T300_7
def T300_5 : List Tok := (.iload_n 1, 1, 0, 0) :: T300_6
def T300_4 : List Tok := (.goto 4, 3, 0, 0) :: T300_5
def T300_3 : List Tok := (.iload_n 0, 1, 0, 0) :: T300_4
def T300_2 : List Tok := (.if_icmp .gt 7, 3, 0, 0) :: T300_3
def T300_1 : List Tok := (.iload_n 1, 1, 0, 0) :: T300_2
def T300_0 : List Tok := (.iload_n 0, 1, 0, 0) :: T300_1
theorem o300_0 (hB : BytesOK) : okL 300 0 T300_0 = true := by
  have h := hB.1 300
  rw [show tk 300 = T300_0 from by decide +kernel] at h
  exact h
theorem o300_1 (hB : BytesOK) : okL 300 1 T300_1 = true := (okL_c (o300_0 hB)).2.2
theorem o300_2 (hB : BytesOK) : okL 300 2 T300_2 = true := (okL_c (o300_1 hB)).2.2
theorem o300_3 (hB : BytesOK) : okL 300 5 T300_3 = true := (okL_c (o300_2 hB)).2.2
theorem o300_4 (hB : BytesOK) : okL 300 6 T300_4 = true := (okL_c (o300_3 hB)).2.2
theorem o300_5 (hB : BytesOK) : okL 300 9 T300_5 = true := (okL_c (o300_4 hB)).2.2
theorem o300_6 (hB : BytesOK) : okL 300 10 T300_6 = true := (okL_c (o300_5 hB)).2.2
theorem ml300 : mml 300 = 2 := by decide +kernel
theorem mr300 : mret 300 = some .int := by decide +kernel
theorem mg300 : kGood 300 = true := by decide +kernel
