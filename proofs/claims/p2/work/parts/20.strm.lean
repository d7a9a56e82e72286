theorem kL_302 : okL 302 0 kT_302 = true := by decide +kernel
theorem kO_302 : okM 302 = true := by decide +kernel
theorem kL_303 : okL 303 0 kT_303 = true := by decide +kernel
theorem kO_303 : okM 303 = true := by decide +kernel
theorem kL_304 : okL 304 0 kT_304 = true := by decide +kernel
theorem kO_304 : okM 304 = true := by decide +kernel
theorem kL_305 : okL 305 0 kT_305 = true := by decide +kernel
theorem kO_305 : okM 305 = true := by decide +kernel
theorem kL_306 : okL 306 0 kT_306 = true := by decide +kernel
theorem kO_306 : okM 306 = true := by decide +kernel
theorem kL_307 : okL 307 0 kT_307 = true := by decide +kernel
theorem kO_307 : okM 307 = true := by decide +kernel
theorem kO_312 : okM 312 = true := by decide +kernel
section SM
variable {g : bG} {l : Launch} {d k n : Nat} {Q : bQ}
theorem mh_coder {i : Nat} {h : bH} (hi : i < 20) (hq : Q (some (0, 0)) h) : MH g l d 304 n n [(2, ((512 + i : Nat) : Int))] h Q := by
  refine mh_of kO_304 (by decide +kernel) (Nat.le_refl n) ?_
  have L := okL_c kL_304
  refine wp_comp (ix := 38) (widx := 711) L.1 (by decide +kernel) ?_
  refine wp_at (S' := (6, largs 0 [(2, ((512 + i : Nat) : Int))], [], n, h)) kL_304 rfl rfl rfl ?_
  refine wp_at (S' := (7, largs 0 [(2, ((512 + i : Nat) : Int))], [(2, ((512 + i : Nat) : Int))], n, h)) kL_304 rfl rfl rfl ?_
  have L7 := okL_c (tkF_ok (target := 7) kL_304 rfl)
  refine wp_gcod (ix := 15) (widx := 1944) L7.1 (by decide +kernel) hi ?_
  refine wp_at (S' := (14, largs 0 [(2, ((512 + i : Nat) : Int))], [(0, 0)], n, h)) kL_304 rfl rfl rfl ?_
  have L14 := okL_c (tkF_ok (target := 14) kL_304 rfl)
  exact wp_ret (r := some (0, 0)) L14.1 rfl rfl rfl hq
end SM
