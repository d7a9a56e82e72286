theorem kO_46 : okM 46 = true := by decide +kernel
theorem kL_57_0 : okL 57 0 kT_57_0 = true := by decide +kernel
theorem kL_57_1 : okL 57 126 kT_57_1 = true := by decide +kernel
theorem kL_57 : okL 57 0 kT_57 = true := (okL_app kL_57_0 (q := 126) (by decide +kernel) kL_57_1)
theorem kO_57 : okM 57 = true := by decide +kernel
theorem kL_84_0 : okL 84 0 kT_84_0 = true := by decide +kernel
theorem kL_84_1 : okL 84 113 kT_84_1 = true := by decide +kernel
theorem kL_84 : okL 84 0 kT_84 = true := (okL_app kL_84_0 (q := 113) (by decide +kernel) kL_84_1)
theorem kO_84 : okM 84 = true := by decide +kernel
theorem kL_90_0 : okL 90 0 kT_90_0 = true := by decide +kernel
theorem kL_90_1 : okL 90 146 kT_90_1 = true := by decide +kernel
theorem kL_90 : okL 90 0 kT_90 = true := (okL_app kL_90_0 (q := 146) (by decide +kernel) kL_90_1)
theorem kO_90 : okM 90 = true := by decide +kernel
theorem kL_92_0 : okL 92 0 kT_92_0 = true := by decide +kernel
theorem kL_92_1 : okL 92 112 kT_92_1 = true := by decide +kernel
theorem kL_92 : okL 92 0 kT_92 = true := (okL_app kL_92_0 (q := 112) (by decide +kernel) kL_92_1)
theorem kO_92 : okM 92 = true := by decide +kernel
theorem kL_103_0 : okL 103 0 kT_103_0 = true := by decide +kernel
theorem kL_103_1 : okL 103 111 kT_103_1 = true := by decide +kernel
theorem kL_103 : okL 103 0 kT_103 = true := (okL_app kL_103_0 (q := 111) (by decide +kernel) kL_103_1)
theorem kO_103 : okM 103 = true := by decide +kernel
theorem kL_121_0 : okL 121 0 kT_121_0 = true := by decide +kernel
theorem kL_121_1 : okL 121 128 kT_121_1 = true := by decide +kernel
theorem kL_121 : okL 121 0 kT_121 = true := (okL_app kL_121_0 (q := 128) (by decide +kernel) kL_121_1)
theorem kO_121 : okM 121 = true := by decide +kernel
theorem kL_168_0 : okL 168 0 kT_168_0 = true := by decide +kernel
theorem kL_168_1 : okL 168 202 kT_168_1 = true := by decide +kernel
theorem kL_168 : okL 168 0 kT_168 = true := (okL_app kL_168_0 (q := 202) (by decide +kernel) kL_168_1)
theorem kO_168 : okM 168 = true := by decide +kernel
theorem kL_183_0 : okL 183 0 kT_183_0 = true := by decide +kernel
theorem kL_183_1 : okL 183 46 kT_183_1 = true := by decide +kernel
theorem kL_183_2 : okL 183 78 kT_183_2 = true := by decide +kernel
theorem kL_183_3 : okL 183 115 kT_183_3 = true := by decide +kernel
theorem kL_183_4 : okL 183 151 kT_183_4 = true := by decide +kernel
theorem kL_183_5 : okL 183 188 kT_183_5 = true := by decide +kernel
theorem kL_183_6 : okL 183 224 kT_183_6 = true := by decide +kernel
theorem kL_183_7 : okL 183 260 kT_183_7 = true := by decide +kernel
theorem kL_183_8 : okL 183 297 kT_183_8 = true := by decide +kernel
theorem kL_183_9 : okL 183 332 kT_183_9 = true := by decide +kernel
theorem kL_183_10 : okL 183 368 kT_183_10 = true := by decide +kernel
theorem kL_183_11 : okL 183 405 kT_183_11 = true := by decide +kernel
theorem kL_183_12 : okL 183 441 kT_183_12 = true := by decide +kernel
theorem kL_183_13 : okL 183 477 kT_183_13 = true := by decide +kernel
theorem kL_183_14 : okL 183 513 kT_183_14 = true := by decide +kernel
theorem kL_183_15 : okL 183 550 kT_183_15 = true := by decide +kernel
theorem kL_183_16 : okL 183 587 kT_183_16 = true := by decide +kernel
theorem kL_183_17 : okL 183 623 kT_183_17 = true := by decide +kernel
theorem kL_183_18 : okL 183 666 kT_183_18 = true := by decide +kernel
theorem kL_183_19 : okL 183 706 kT_183_19 = true := by decide +kernel
theorem kL_183_20 : okL 183 746 kT_183_20 = true := by decide +kernel
theorem kL_183 : okL 183 0 kT_183 = true := (okL_app kL_183_0 (q := 46) (by decide +kernel) (okL_app kL_183_1 (q := 78) (by decide +kernel) (okL_app kL_183_2 (q := 115) (by decide +kernel) (okL_app kL_183_3 (q := 151) (by decide +kernel) (okL_app kL_183_4 (q := 188) (by decide +kernel) (okL_app kL_183_5 (q := 224) (by decide +kernel) (okL_app kL_183_6 (q := 260) (by decide +kernel) (okL_app kL_183_7 (q := 297) (by decide +kernel) (okL_app kL_183_8 (q := 332) (by decide +kernel) (okL_app kL_183_9 (q := 368) (by decide +kernel) (okL_app kL_183_10 (q := 405) (by decide +kernel) (okL_app kL_183_11 (q := 441) (by decide +kernel) (okL_app kL_183_12 (q := 477) (by decide +kernel) (okL_app kL_183_13 (q := 513) (by decide +kernel) (okL_app kL_183_14 (q := 550) (by decide +kernel) (okL_app kL_183_15 (q := 587) (by decide +kernel) (okL_app kL_183_16 (q := 623) (by decide +kernel) (okL_app kL_183_17 (q := 666) (by decide +kernel) (okL_app kL_183_18 (q := 706) (by decide +kernel) (okL_app kL_183_19 (q := 746) (by decide +kernel) kL_183_20))))))))))))))))))))
theorem kO_183 : okM 183 = true := by decide +kernel
theorem kL_192_0 : okL 192 0 kT_192_0 = true := by decide +kernel
theorem kL_192_1 : okL 192 110 kT_192_1 = true := by decide +kernel
theorem kL_192_2 : okL 192 199 kT_192_2 = true := by decide +kernel
theorem kL_192 : okL 192 0 kT_192 = true := (okL_app kL_192_0 (q := 110) (by decide +kernel) (okL_app kL_192_1 (q := 199) (by decide +kernel) kL_192_2))
theorem kO_192 : okM 192 = true := by decide +kernel
theorem kL_212_0 : okL 212 0 kT_212_0 = true := by decide +kernel
theorem kL_212_1 : okL 212 118 kT_212_1 = true := by decide +kernel
theorem kL_212_2 : okL 212 236 kT_212_2 = true := by decide +kernel
theorem kL_212 : okL 212 0 kT_212 = true := (okL_app kL_212_0 (q := 118) (by decide +kernel) (okL_app kL_212_1 (q := 236) (by decide +kernel) kL_212_2))
theorem kO_212 : okM 212 = true := by decide +kernel
theorem kL_218_0 : okL 218 0 kT_218_0 = true := by decide +kernel
theorem kL_218_1 : okL 218 114 kT_218_1 = true := by decide +kernel
theorem kL_218_2 : okL 218 241 kT_218_2 = true := by decide +kernel
theorem kL_218 : okL 218 0 kT_218 = true := (okL_app kL_218_0 (q := 114) (by decide +kernel) (okL_app kL_218_1 (q := 241) (by decide +kernel) kL_218_2))
theorem kO_218 : okM 218 = true := by decide +kernel
theorem kL_224_0 : okL 224 0 kT_224_0 = true := by decide +kernel
theorem kL_224_1 : okL 224 112 kT_224_1 = true := by decide +kernel
theorem kL_224 : okL 224 0 kT_224 = true := (okL_app kL_224_0 (q := 112) (by decide +kernel) kL_224_1)
