theorem kO_224 : okM 224 = true := by decide +kernel
theorem kL_240_0 : okL 240 0 kT_240_0 = true := by decide +kernel
theorem kL_240_1 : okL 240 105 kT_240_1 = true := by decide +kernel
theorem kL_240 : okL 240 0 kT_240 = true := (okL_app kL_240_0 (q := 105) (by decide +kernel) kL_240_1)
theorem kO_240 : okM 240 = true := by decide +kernel
theorem kL_243_0 : okL 243 0 kT_243_0 = true := by decide +kernel
theorem kL_243_1 : okL 243 104 kT_243_1 = true := by decide +kernel
theorem kL_243 : okL 243 0 kT_243 = true := (okL_app kL_243_0 (q := 104) (by decide +kernel) kL_243_1)
theorem kO_243 : okM 243 = true := by decide +kernel
theorem kL_246_0 : okL 246 0 kT_246_0 = true := by decide +kernel
theorem kL_246_1 : okL 246 104 kT_246_1 = true := by decide +kernel
theorem kL_246_2 : okL 246 212 kT_246_2 = true := by decide +kernel
theorem kL_246 : okL 246 0 kT_246 = true := (okL_app kL_246_0 (q := 104) (by decide +kernel) (okL_app kL_246_1 (q := 212) (by decide +kernel) kL_246_2))
theorem kO_246 : okM 246 = true := by decide +kernel
theorem kL_258_0 : okL 258 0 kT_258_0 = true := by decide +kernel
theorem kL_258_1 : okL 258 107 kT_258_1 = true := by decide +kernel
theorem kL_258 : okL 258 0 kT_258 = true := (okL_app kL_258_0 (q := 107) (by decide +kernel) kL_258_1)
theorem kO_258 : okM 258 = true := by decide +kernel
theorem kL_267_0 : okL 267 0 kT_267_0 = true := by decide +kernel
theorem kL_267_1 : okL 267 109 kT_267_1 = true := by decide +kernel
theorem kL_267 : okL 267 0 kT_267 = true := (okL_app kL_267_0 (q := 109) (by decide +kernel) kL_267_1)
theorem kO_267 : okM 267 = true := by decide +kernel
theorem kL_269_0 : okL 269 0 kT_269_0 = true := by decide +kernel
theorem kL_269_1 : okL 269 100 kT_269_1 = true := by decide +kernel
theorem kL_269 : okL 269 0 kT_269 = true := (okL_app kL_269_0 (q := 100) (by decide +kernel) kL_269_1)
theorem kO_269 : okM 269 = true := by decide +kernel
theorem kL_276_0 : okL 276 0 kT_276_0 = true := by decide +kernel
theorem kL_276_1 : okL 276 104 kT_276_1 = true := by decide +kernel
theorem kL_276 : okL 276 0 kT_276 = true := (okL_app kL_276_0 (q := 104) (by decide +kernel) kL_276_1)
theorem kO_276 : okM 276 = true := by decide +kernel
theorem kL_277_0 : okL 277 0 kT_277_0 = true := by decide +kernel
theorem kL_277_1 : okL 277 105 kT_277_1 = true := by decide +kernel
theorem kL_277 : okL 277 0 kT_277 = true := (okL_app kL_277_0 (q := 105) (by decide +kernel) kL_277_1)
theorem kO_277 : okM 277 = true := by decide +kernel
theorem kL_291_0 : okL 291 0 kT_291_0 = true := by decide +kernel
theorem kL_291_1 : okL 291 108 kT_291_1 = true := by decide +kernel
theorem kL_291 : okL 291 0 kT_291 = true := (okL_app kL_291_0 (q := 108) (by decide +kernel) kL_291_1)
theorem kO_291 : okM 291 = true := by decide +kernel
theorem kL_294_0 : okL 294 0 kT_294_0 = true := by decide +kernel
theorem kL_294_1 : okL 294 164 kT_294_1 = true := by decide +kernel
theorem kL_294 : okL 294 0 kT_294 = true := (okL_app kL_294_0 (q := 164) (by decide +kernel) kL_294_1)
theorem kO_294 : okM 294 = true := by decide +kernel
