theorem kL_302 : okL 302 0 kT_302 = true := by decide +kernel
theorem kO_302 : okM 302 = true := by decide +kernel
theorem kL_303 : okL 303 0 kT_303 = true := by decide +kernel
theorem kO_303 : okM 303 = true := by decide +kernel
theorem kL_304 : okL 304 0 kT_304 = true := by decide +kernel
theorem kO_304 : okM 304 = true := by decide +kernel
theorem kL_305 : okL 305 0 kT_305 = true := by decide +kernel
theorem kO_305 : okM 305 = true := by decide +kernel
theorem kL_306 : okL 306 0 kT_306 = true := by decide +kernel
theorem kO_306 : okM 306 = true := by decide +kernel
theorem kL_307 : okL 307 0 kT_307 = true := by decide +kernel
theorem kO_307 : okM 307 = true := by decide +kernel
theorem kO_312 : okM 312 = true := by decide +kernel
theorem okT_V {k ix len aux w : Nat} (h : okT k (.invokevirtual ix, len, aux, w) = true) : okC k (.invokevirtual ix, len, aux, w) ix = true := by
  unfold okT at h
  rw [Bool.and_eq_true] at h
  exact h.2
theorem okT_S {k ix len aux w : Nat} (h : okT k (.invokestatic ix, len, aux, w) = true) : okC k (.invokestatic ix, len, aux, w) ix = true := by
  unfold okT at h
  rw [Bool.and_eq_true] at h
  exact h.2
theorem okT_I {k ix len aux w : Nat} (h : okT k (.invokespecial ix, len, aux, w) = true) : okC k (.invokespecial ix, len, aux, w) ix = true := by
  unfold okT at h
  rw [Bool.and_eq_true] at h
  exact h.2
section SMC
variable {g : bG} {l : Launch} {d k n0 n1 : Nat} {Q : bQ}
theorem wp_callT {ix k' ti n n' pc len widx : Nat} {h : bH} {lv : bL} {as rest : List bV} (hd : decode (mcode k) pc = .ok (.invokevirtual ix, 3)) (ht : okC k (.invokevirtual ix, len, k', widx) ix = true) (hk' : k' < 1000) (hw : widx ≠ 300000) (hm : okM k' = true) (hs : mst k' = false) (hni : (mname k').name ≠ "<init>")
    (ha : ti < 20) (hcl : (mname k').cls = "java/lang/String") (hl : as.length = mnp k') (hr : stw rest ≤ 8) (hn : n ≤ n' ∧ n' ≤ n1)
    (hM : MH g l d k' n n' ((2, ((512 + ti : Nat) : Int)) :: as) h (fun r h' => WP g l (d + 1) k n0 n1 Q (pc + 3, lv, r.toList ++ rest, n', h'))) : WP g l (d + 1) k n0 n1 Q (pc, lv, as.reverse ++ (2, ((512 + ti : Nat) : Int)) :: rest, n, h) := by
  intro p e R s m args below meth c Z E H locs ls q h0 h1
  obtain ⟨hx, hb, hml, hret, hlk, hown, hts, hin, hK⟩ := id E.1
  dsimp only at q h0 h1 ⊢
  obtain ⟨o1, o2, o3, o4, o5, o6, o7, o8⟩ := okM_x hm
  obtain ⟨o71, o72⟩ := o7 hs
  obtain ⟨b1, b2, b3, b4, b5, b6, b7, b8, b9, b10⟩ := callB_m (n := n) (n' := n') hts E.2.1 hm
  have hao : ∀ v ∈ (2, ((512 + ti : Nat) : Int)) :: as, okv v := okc (q.2.2.2.1 _ (List.mem_append_right _ List.mem_cons_self)) (fun v hv => q.2.2.2.1 v (List.mem_append_left _ (List.mem_reverse.mpr hv)))
  have hro : ∀ v ∈ rest, okv v := fun v hv => q.2.2.2.1 v (List.mem_append_right _ (List.mem_cons_of_mem _ hv))
  obtain ⟨cell, q1, q3, q5, -⟩ := (hK.2.2.2.2.1.1 ti ha).1.kept (kept_of q.1)
  have hcls : s.vm.findClass (mname k').cls = some cell.cls := by rw [hcl]; exact q5
  have hadd : cv g (2, ((512 + ti : Nat) : Int)) = .ref (gK g ti) := ad_k ha
  have est : (as.reverse ++ (2, ((512 + ti : Nat) : Int)) :: rest).map (cv g) = (as.map (cv g)).reverse ++ .ref (gK g ti) :: rest.map (cv g) := by
    rw [List.map_append, List.map_reverse, List.map_cons, hadd]
  rw [est]
  have eav : ((2, ((512 + ti : Nat) : Int)) :: as).map (cv g) = .ref (gK g ti) :: as.map (cv g) := by rw [List.map_cons, hadd]
  refine back_call (k' := k') (a := (Value.ref (gK g ti) :: as.map (cv g)).toArray) E hK q.2.1 q.2.2.1 hro q.2.2.2.2 h0 hn.1 hn.2 ⟨slN_mono h0, slN_mono hn.1⟩ ?_
  exact va_runV (As := as.map (cv g)) (rest := rest.map (cv g)) (n := mnp k') ⟨hx, hb, hml, hown, hts⟩ hM ⟨⟨b1, b2, b3, b4, b5, b6, b7, b8, b9, b10, link_of hts hk' hw ht⟩, wA_of hts _ o71, wA_of hts _ (o72 hni)⟩
    ⟨PcH_blind _ _ _ _, ⟨cell, q1, q3, hcls⟩, fun U hU hW => by have := pc_pre q.1 hK hao U hU hW; rw [eav] at this; exact this⟩
    rfl (by rw [List.length_map]; exact hl) (lv_sz q.2.1) rfl (lv_room (by rw [stw_cat]; exact hr)) hd ⟨by have := E.2.1.2.2.1; omega, by have := E.2.1.2.2.2; have := slN_mono h0; have := slN_mono hn.1; have := slN_mono hn.2; omega⟩
end SMC
section SM
variable {g : bG} {l : Launch} {d k n : Nat} {Q : bQ}
theorem mh_coder {i : Nat} {h : bH} (hi : i < 20) (hq : Q (some (0, 0)) h) : MH g l d 304 n n [(2, ((512 + i : Nat) : Int))] h Q := by
  refine mh_of kO_304 (show 1 ≤ mml 304 by decide +kernel) (Nat.le_refl n) ?_
  have L := okL_c kL_304
  refine wp_comp (ix := 38) (widx := 711) L.1 (by decide +kernel) ?_
  refine wp_at (S' := (6, largs 0 [(2, ((512 + i : Nat) : Int))], [], n, h)) kL_304 rfl rfl rfl ?_
  refine wp_at (S' := (7, largs 0 [(2, ((512 + i : Nat) : Int))], [(2, ((512 + i : Nat) : Int))], n, h)) kL_304 rfl rfl rfl ?_
  have L7 := okL_c (tkF_ok (target := 7) kL_304 rfl)
  refine wp_gcod (ix := 15) (widx := 1944) L7.1 (by decide +kernel) hi ?_
  refine wp_at (S' := (14, largs 0 [(2, ((512 + i : Nat) : Int))], [(0, 0)], n, h)) kL_304 rfl rfl rfl ?_
  have L14 := okL_c (tkF_ok (target := 14) kL_304 rfl)
  exact wp_ret (r := some (0, 0)) L14.1 rfl rfl rfl hq
end SM
section SM2
variable {g : bG} {l : Launch} {d k n : Nat} {Q : bQ}
theorem shr0 {x : Int} (h : in32 x) : shrI x 0 = x := by
  unfold shrI
  have : Int32.ofInt x >>> (Int32.ofInt 0 &&& 31) = Int32.ofInt x := by
    have e : (Int32.ofInt 0 &&& 31) = 0 := by decide
    rw [e]
    apply Int32.toBitVec_inj.mp
    simp
  rw [this, i32_ti h]
theorem mh_isLatin1 {i : Nat} {h : bH} (hi : i < 20) (hq : Q (some (0, 1)) h) : MH g l d 305 n n [(2, ((512 + i : Nat) : Int))] h Q := by
  refine mh_of kO_305 (show 1 ≤ mml 305 by decide +kernel) (Nat.le_refl n) ?_
  have L := okL_c kL_305
  refine wp_comp (ix := 38) (widx := 711) L.1 (by decide +kernel) ?_
  refine wp_at (S' := (6, largs 0 [(2, ((512 + i : Nat) : Int))], [], n, h)) kL_305 rfl rfl rfl ?_
  refine wp_at (S' := (7, largs 0 [(2, ((512 + i : Nat) : Int))], [(2, ((512 + i : Nat) : Int))], n, h)) kL_305 rfl rfl rfl ?_
  have L7 := okL_c (tkF_ok (target := 7) kL_305 rfl)
  refine wp_gcod (ix := 15) (widx := 1944) L7.1 (by decide +kernel) hi ?_
  refine wp_at (S' := (13, largs 0 [(2, ((512 + i : Nat) : Int))], [], n, h)) kL_305 rfl rfl rfl ?_
  refine wp_at (S' := (14, largs 0 [(2, ((512 + i : Nat) : Int))], [(0, 1)], n, h)) kL_305 rfl rfl rfl ?_
  refine wp_at (S' := (18, largs 0 [(2, ((512 + i : Nat) : Int))], [(0, 1)], n, h)) kL_305 rfl rfl rfl ?_
  have L18 := okL_c (tkF_ok (target := 18) kL_305 rfl)
  exact wp_ret (r := some (0, 1)) L18.1 rfl rfl ⟨by omega, by omega⟩ hq
theorem mh_length {i : Nat} {h : bH} (hi : i < 20) (hn : n ≤ n) (hq : Q (some (0, (slen i : Int))) h) : MH g l (d + 1) 302 n n [(2, ((512 + i : Nat) : Int))] h Q := by
  have hsl := slen_ok i hi
  refine mh_of kO_302 (show 1 ≤ mml 302 by decide +kernel) (Nat.le_refl n) ?_
  refine wp_at (S' := (1, largs 0 [(2, ((512 + i : Nat) : Int))], [(2, ((512 + i : Nat) : Int))], n, h)) kL_302 rfl rfl rfl ?_
  have L1 := okL_c (tkF_ok (target := 1) kL_302 rfl)
  refine wp_gval (ix := 9) (widx := 1943) L1.1 (by decide +kernel) hi ?_
  have L4 := okL_c (tkF_ok (target := 4) kL_302 rfl)
  refine wp_blen L4.1 hi ?_
  refine wp_at (S' := (6, largs 0 [(2, ((512 + i : Nat) : Int))], [(2, ((512 + i : Nat) : Int)), (0, (slen i : Int))], n, h)) kL_302 rfl rfl rfl ?_
  have L6 := okL_c (tkF_ok (target := 6) kL_302 rfl)
  refine wp_callT (k' := 304) (n' := n) (as := []) (rest := [(0, (slen i : Int))]) L6.1 (okT_V L6.2.1) (by decide) (by decide) kO_304 (by decide +kernel) (by decide +kernel) hi (by decide +kernel) (by decide +kernel) (show 1 ≤ 8 by decide) ⟨Nat.le_refl n, Nat.le_refl n⟩ (mh_coder hi ?_)
  refine wp_at (S' := (10, largs 0 [(2, ((512 + i : Nat) : Int))], [(0, shrI (slen i : Int) 0)], n, h)) kL_302 rfl rfl rfl ?_
  have hr : shrI (slen i : Int) 0 = (slen i : Int) := shr0 (by unfold in32; omega)
  rw [hr]
  have L10 := okL_c (tkF_ok (target := 10) kL_302 rfl)
  exact wp_ret (r := some (0, (slen i : Int))) L10.1 rfl rfl (by show in32 _; unfold in32; omega) hq
theorem mh_pre {x : Int} {m : Nat} {f : Int} {h : bH} (hx : 0 ≤ x ∧ x < m) (hq : Q (some (0, x)) h) : MH g l d 312 n n [(0, x), (0, (m : Int)), (2, f)] h Q := by
  refine mh_of kO_312 (show 3 ≤ mml 312 by decide +kernel) (Nat.le_refl n) ?_
  have D : ∀ {pc : Nat} {i : Instr}, decode (mcode 312) pc = .ok (i, ilen i) → decode (mcode 312) pc = .ok (((i, ilen i, 0, 0) : Tok).1, ((i, ilen i, 0, 0) : Tok).2.1) := fun h => h
  have d0 : decode (mcode 312) 0 = .ok (.iload_n 0, 1) := by decide +kernel
  have d1 : decode (mcode 312) 1 = .ok (.ifCond .lt 8, 3) := by decide +kernel
  have d4 : decode (mcode 312) 4 = .ok (.iload_n 0, 1) := by decide +kernel
  have d5 : decode (mcode 312) 5 = .ok (.iload_n 1, 1) := by decide +kernel
  have d6 : decode (mcode 312) 6 = .ok (.if_icmp .lt 10, 3) := by decide +kernel
  have d16 : decode (mcode 312) 16 = .ok (.iload_n 0, 1) := by decide +kernel
  have d17 : decode (mcode 312) 17 = .ok (.ireturn, 1) := by decide +kernel
  refine wp_step (t := (.iload_n 0, 1, 0, 0)) (S' := (1, largs 0 [(0, x), (0, (m : Int)), (2, f)], [(0, x)], n, h)) d0 rfl rfl rfl ?_
  refine wp_step (t := (.ifCond .lt 8, 3, 0, 0)) (S' := (4, largs 0 [(0, x), (0, (m : Int)), (2, f)], [], n, h)) d1 rfl ?_ rfl ?_
  · show bbr .lt 8 (1, largs 0 [(0, x), (0, (m : Int)), (2, f)], [(0, x)], n, h) = _
    simp [bbr, bcond, show ¬ x < 0 by omega]
  refine wp_step (t := (.iload_n 0, 1, 0, 0)) (S' := (5, largs 0 [(0, x), (0, (m : Int)), (2, f)], [(0, x)], n, h)) d4 rfl rfl rfl ?_
  refine wp_step (t := (.iload_n 1, 1, 0, 0)) (S' := (6, largs 0 [(0, x), (0, (m : Int)), (2, f)], [(0, (m : Int)), (0, x)], n, h)) d5 rfl rfl rfl ?_
  refine wp_step (t := (.if_icmp .lt 10, 3, 0, 0)) (S' := (16, largs 0 [(0, x), (0, (m : Int)), (2, f)], [], n, h)) d6 rfl ?_ rfl ?_
  · show bicmp .lt 10 (6, largs 0 [(0, x), (0, (m : Int)), (2, f)], [(0, (m : Int)), (0, x)], n, h) = _
    simp [bicmp, bcond, hx.2]
  refine wp_step (t := (.iload_n 0, 1, 0, 0)) (S' := (17, largs 0 [(0, x), (0, (m : Int)), (2, f)], [(0, x)], n, h)) d16 rfl rfl rfl ?_
  intro p e R s m' args below meth c Z E H locs ls q h0 h1
  exact wp_ret (r := some (0, x)) d17 rfl rfl (ok1 q.2.2.2.1) hq p e R s m' args below meth c Z E H locs ls q h0 h1
theorem mh_chk {x : Int} {m : Nat} {h : bH} (hx : 0 ≤ x ∧ x < m) (hq : Q none h) : MH g l (d + 1) 306 n n [(0, x), (0, (m : Int))] h Q := by
  refine mh_of kO_306 (show 2 ≤ mml 306 by decide +kernel) (Nat.le_refl n) ?_
  refine wp_at (S' := (1, largs 0 [(0, x), (0, (m : Int))], [(0, x)], n, h)) kL_306 rfl rfl rfl ?_
  refine wp_at (S' := (2, largs 0 [(0, x), (0, (m : Int))], [(0, (m : Int)), (0, x)], n, h)) kL_306 rfl rfl rfl ?_
  have L2 := okL_c (tkF_ok (target := 2) kL_306 rfl)
  refine wp_form (ix := 1053) (widx := 727) L2.1 (by decide +kernel) fun f => ?_
  have L5 := okL_c (tkF_ok (target := 5) kL_306 rfl)
  refine wp_callS (k' := 312) (n' := n) (as := [(0, x), (0, (m : Int)), (2, f)]) (rest := []) L5.1 (okT_S L5.2.1) (by decide) kO_312 (by decide +kernel) (show 3 = mnp 312 by decide +kernel) (show 0 ≤ 8 by decide) ⟨Nat.le_refl n, Nat.le_refl n⟩ (mh_pre hx ?_)
  refine wp_at (S' := (9, largs 0 [(0, x), (0, (m : Int))], [], n, h)) kL_306 rfl rfl rfl ?_
  have L9 := okL_c (tkF_ok (target := 9) kL_306 rfl)
  exact wp_ret (r := none) L9.1 rfl rfl (by show bfit (mret 306) none; rw [show mret 306 = none by decide +kernel]; trivial) hq
theorem mh_latin {i : Nat} {x : Int} {h : bH} (hi : i < 20) (hx : 0 ≤ x ∧ x.toNat < slen i) (hq : Q (some (0, schr i x.toNat)) h) : MH g l (d + 2) 307 n n [(2, ((800 + i : Nat) : Int)), (0, x)] h Q := by
  have hs := schr_ok i hi _ hx.2
  refine mh_of kO_307 (show 2 ≤ mml 307 by decide +kernel) (Nat.le_refl n) ?_
  refine wp_at (S' := (1, largs 0 [(2, ((800 + i : Nat) : Int)), (0, x)], [(0, x)], n, h)) kL_307 rfl rfl rfl ?_
  refine wp_at (S' := (2, largs 0 [(2, ((800 + i : Nat) : Int)), (0, x)], [(2, ((800 + i : Nat) : Int)), (0, x)], n, h)) kL_307 rfl rfl rfl ?_
  have L2 := okL_c (tkF_ok (target := 2) kL_307 rfl)
  refine wp_blen L2.1 hi ?_
  have L3 := okL_c (tkF_ok (target := 3) kL_307 rfl)
  refine wp_callS (k' := 306) (n' := n) (as := [(0, x), (0, (slen i : Int))]) (rest := []) L3.1 (okT_S L3.2.1) (by decide) kO_306 (by decide +kernel) (show 2 = mnp 306 by decide +kernel) (show 0 ≤ 8 by decide) ⟨Nat.le_refl n, Nat.le_refl n⟩ (mh_chk (by omega) ?_)
  refine wp_at (S' := (7, largs 0 [(2, ((800 + i : Nat) : Int)), (0, x)], [(2, ((800 + i : Nat) : Int))], n, h)) kL_307 rfl rfl rfl ?_
  refine wp_at (S' := (8, largs 0 [(2, ((800 + i : Nat) : Int)), (0, x)], [(0, x), (2, ((800 + i : Nat) : Int))], n, h)) kL_307 rfl rfl rfl ?_
  have L8 := okL_c (tkF_ok (target := 8) kL_307 rfl)
  refine wp_bald L8.1 hi hx ?_
  refine wp_at (S' := (12, largs 0 [(2, ((800 + i : Nat) : Int)), (0, x)], [(0, 255), (0, schr i x.toNat)], n, h)) kL_307 rfl rfl rfl ?_
  refine wp_at (S' := (13, largs 0 [(2, ((800 + i : Nat) : Int)), (0, x)], [(0, andI (schr i x.toNat) 255)], n, h)) kL_307 rfl rfl rfl ?_
  rw [hs.2.2]
  have L13 := okL_c (tkF_ok (target := 13) kL_307 rfl)
  refine wp_i2c L13.1 ⟨hs.1, hs.2.1⟩ ?_
  have L14 := okL_c (tkF_ok (target := 14) kL_307 rfl)
  exact wp_ret (r := some (0, schr i x.toNat)) L14.1 rfl rfl (by show bfit (mret 307) _; rw [show mret 307 = some .char by decide +kernel]; exact ⟨hs.1, by omega⟩) hq
theorem mh_charAt {i : Nat} {x : Int} {h : bH} (hi : i < 20) (hx : 0 ≤ x ∧ x.toNat < slen i) (hq : Q (some (0, schr i x.toNat)) h) : MH g l (d + 3) 303 n n [(2, ((512 + i : Nat) : Int)), (0, x)] h Q := by
  have hs := schr_ok i hi _ hx.2
  refine mh_of kO_303 (show 2 ≤ mml 303 by decide +kernel) (Nat.le_refl n) ?_
  refine wp_at (S' := (1, largs 0 [(2, ((512 + i : Nat) : Int)), (0, x)], [(2, ((512 + i : Nat) : Int))], n, h)) kL_303 rfl rfl rfl ?_
  have L1 := okL_c (tkF_ok (target := 1) kL_303 rfl)
  refine wp_callT (k' := 305) (n' := n) (as := []) (rest := []) L1.1 (okT_V L1.2.1) (by decide) (by decide) kO_305 (by decide +kernel) (by decide +kernel) hi (by decide +kernel) (by decide +kernel) (show 0 ≤ 8 by decide) ⟨Nat.le_refl n, Nat.le_refl n⟩ (mh_isLatin1 hi ?_)
  refine wp_at (S' := (7, largs 0 [(2, ((512 + i : Nat) : Int)), (0, x)], [], n, h)) kL_303 rfl rfl rfl ?_
  refine wp_at (S' := (8, largs 0 [(2, ((512 + i : Nat) : Int)), (0, x)], [(2, ((512 + i : Nat) : Int))], n, h)) kL_303 rfl rfl rfl ?_
  have L8 := okL_c (tkF_ok (target := 8) kL_303 rfl)
  refine wp_gval (ix := 9) (widx := 1943) L8.1 (by decide +kernel) hi ?_
  refine wp_at (S' := (12, largs 0 [(2, ((512 + i : Nat) : Int)), (0, x)], [(0, x), (2, ((800 + i : Nat) : Int))], n, h)) kL_303 rfl rfl rfl ?_
  have L12 := okL_c (tkF_ok (target := 12) kL_303 rfl)
  refine wp_callS (k' := 307) (n' := n) (as := [(2, ((800 + i : Nat) : Int)), (0, x)]) (rest := []) L12.1 (okT_S L12.2.1) (by decide) kO_307 (by decide +kernel) (show 2 = mnp 307 by decide +kernel) (show 0 ≤ 8 by decide) ⟨Nat.le_refl n, Nat.le_refl n⟩ (mh_latin hi hx ?_)
  have L15 := okL_c (tkF_ok (target := 15) kL_303 rfl)
  exact wp_ret (r := some (0, schr i x.toNat)) L15.1 rfl rfl (by show bfit (mret 303) _; rw [show mret 303 = some .char by decide +kernel]; exact ⟨hs.1, by omega⟩) hq
end SM2
