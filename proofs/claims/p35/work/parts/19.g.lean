-- == 19.str.lean.txt
section
/-! TEXTS: String.length and charAt on the class's constants -/
section SS
variable {g : bG} {l : Launch} {d k n0 n1 : Nat} {Q : bQ}
theorem wp_at {t : Tok} {r : List Tok} {S S' : bS} (ho : okL k 0 (tk k) = true) (hf : tkF S.1 0 (tk k) = some (t :: r)) (hs : cst (gsc g) k t S = some S') (hn : S'.2.2.2.1 = S.2.2.2.1) (hk : WP g l d k n0 n1 Q S') : WP g l d k n0 n1 Q S := by
  have h := okL_c (tkF_ok ho hf)
  exact wp_step h.1 h.2.1 hs hn hk
/-- a text's number of letters, and its letters -/
def slen (i : Nat) : Nat := kSlen.getD i 0
def schr (i j : Nat) : Int := ((kSbyt.getD i []).getD j 0).toInt
theorem slen_ok : ∀ i, i < 20 → slen i < 20 := by decide +kernel
theorem schr_ok : ∀ i, i < 20 → ∀ j, j < slen i → 0 ≤ schr i j ∧ schr i j < 128 ∧ andI (schr i j) 255 = schr i j := by decide +kernel
theorem ad_k {i : Nat} (h : i < 20) : cv g (2, ((512 + i : Nat) : Int)) = .ref (gK g i) := by
  rw [cv_2 g (by omega)]
  unfold ad
  rw [Int.toNat_natCast, if_neg (by omega), if_pos (by omega), Nat.add_sub_cancel_left]
theorem ad_v {i : Nat} (h : i < 20) : cv g (2, ((800 + i : Nat) : Int)) = .ref (gV g i) := by
  rw [cv_2 g (by omega)]
  unfold ad
  rw [Int.toNat_natCast, if_neg (by omega), if_neg (by omega), if_neg (by omega), if_pos (by omega), Nat.add_sub_cancel_left]
theorem ad_f : cv g (2, 701) = .ref (gF g) := by
  rw [cv_2 g (by omega)]
  unfold ad
  rw [show (701 : Int).toNat = 701 from rfl, if_neg (by omega), if_neg (by omega), if_pos rfl]
theorem kept_of {H : Heap} {n : Nat} {h : bH} (q : HR g n h H) : ∀ a : Nat, a < g.1.size → ¬ (gsz g ≤ a) → H[a]? = g.1[a]? := fun a ha _ => q.2.2.1 a ha
theorem wp_gcod {ix widx pc n i : Nat} {lv : bL} {r : List bV} {h : bH} (hd : decode (mcode k) pc = .ok (.getfield ix, 3)) (ht : okW widx (.fieldLink (mown k) ix "java/lang/String" "coder" "B") = true) (hi : i < 20) (hk : WP g l d k n0 n1 Q (pc + 3, lv, (0, 0) :: r, n, h)) : WP g l d k n0 n1 Q (pc, lv, (2, ((512 + i : Nat) : Int)) :: r, n, h) := by
  intro p e R s m args below meth c Z E H locs ls q h0 h1
  obtain ⟨hx, hb, hml, hret, hlk, hown, hts, hin, hK⟩ := id E.1
  dsimp only at q h0 h1 ⊢
  rw [List.map_cons, ad_k hi]
  obtain ⟨cf, k9, fi, f, cell, z1, z2, z3, z4, z5, z6⟩ := (hK.2.2.2.2.1.1 i hi).2.1.kept (kept_of q.1)
  refine W.getf hx hb hown (hts _ (okW_in ht)) z1 z2 z3 z4 (v := .int 0) z5 rfl rfl hd ?_
  exact hk p e R s m args below meth c Z E H locs ls (q.stk (okc (by show in32 0; unfold in32; omega) (okr q.2.2.2.1))) h0 h1
theorem wp_gval {ix widx pc n i : Nat} {lv : bL} {r : List bV} {h : bH} (hd : decode (mcode k) pc = .ok (.getfield ix, 3)) (ht : okW widx (.fieldLink (mown k) ix "java/lang/String" "value" "[B") = true) (hi : i < 20) (hk : WP g l d k n0 n1 Q (pc + 3, lv, (2, ((800 + i : Nat) : Int)) :: r, n, h)) : WP g l d k n0 n1 Q (pc, lv, (2, ((512 + i : Nat) : Int)) :: r, n, h) := by
  intro p e R s m args below meth c Z E H locs ls q h0 h1
  obtain ⟨hx, hb, hml, hret, hlk, hown, hts, hin, hK⟩ := id E.1
  dsimp only at q h0 h1 ⊢
  rw [List.map_cons, ad_k hi]
  obtain ⟨cf, k9, fi, f, cell, z1, z2, z3, z4, z5, z6⟩ := (hK.2.2.2.2.1.1 i hi).2.2.1.kept (kept_of q.1)
  refine W.getf hx hb hown (hts _ (okW_in ht)) z1 z2 z3 z4 (v := .ref (gV g i)) z5 rfl rfl hd ?_
  have w := hk p e R s m args below meth c Z E H locs ls (q.stk (okc (by show (-1 : Int) ≤ ((800 + i : Nat) : Int); omega) (okr q.2.2.2.1))) h0 h1
  dsimp only at w
  rw [List.map_cons, ad_v hi] at w
  exact w
theorem wp_comp {ix widx pc n : Nat} {lv : bL} {r : List bV} {h : bH} (hd : decode (mcode k) pc = .ok (.getstatic ix, 3)) (ht : okW widx (.fieldLink (mown k) ix "java/lang/String" "COMPACT_STRINGS" "Z") = true) (hk : WP g l d k n0 n1 Q (pc + 3, lv, (0, 1) :: r, n, h)) : WP g l d k n0 n1 Q (pc, lv, r, n, h) := by
  intro p e R s m args below meth c Z E H locs ls q h0 h1
  obtain ⟨hx, hb, hml, hret, hlk, hown, hts, hin, hK⟩ := id E.1
  dsimp only at q h0 h1 ⊢
  obtain ⟨cf, kf, fi, f, a, cell, z1, z2, z3, z4, z5, z6, z7, z8⟩ := hK.2.2.2.2.2.1.kept (kept_of q.1)
  refine W.gets hx hb hown (hts _ (okW_in ht)) z1 z2 z3 z4 z5 (fun e => by rw [e] at z6; cases z6) z7 rfl hd ?_
  exact hk p e R s m args below meth c Z E H locs ls (q.stk (okc (by show in32 1; unfold in32; omega) q.2.2.2.1)) h0 h1
theorem wp_form {ix widx pc n : Nat} {lv : bL} {r : List bV} {h : bH} (hd : decode (mcode k) pc = .ok (.getstatic ix, 3)) (ht : okW widx (.fieldLink (mown k) ix "jdk/internal/util/Preconditions" "SIOOBE_FORMATTER" "Ljava/util/function/BiFunction;") = true) (hk : ∀ f : Int, WP g l d k n0 n1 Q (pc + 3, lv, (2, f) :: r, n, h)) : WP g l d k n0 n1 Q (pc, lv, r, n, h) := by
  intro p e R s m args below meth c Z E H locs ls q h0 h1
  obtain ⟨hx, hb, hml, hret, hlk, hown, hts, hin, hK⟩ := id E.1
  dsimp only at q h0 h1 ⊢
  rcases hK.2.2.2.2.2.2.1 with hz | hz
  · obtain ⟨cf, kf, fi, f, a, cell, z1, z2, z3, z4, z5, z6, z7, z8⟩ := hz.kept (kept_of q.1)
    refine W.gets hx hb hown (hts _ (okW_in ht)) z1 z2 z3 z4 z5 (fun e => by rw [e] at z6; cases z6) z7 rfl hd ?_
    exact hk (-1) p e R s m args below meth c Z E H locs ls (q.stk (okc (by show (-1 : Int) ≤ -1; omega) q.2.2.2.1)) h0 h1
  · obtain ⟨cf, kf, fi, f, a, cell, z1, z2, z3, z4, z5, z6, z7, z8⟩ := hz.kept (kept_of q.1)
    refine W.gets hx hb hown (hts _ (okW_in ht)) z1 z2 z3 z4 z5 (fun e => by rw [e] at z6; cases z6) z7 rfl hd ?_
    have w := hk 701 p e R s m args below meth c Z E H locs ls (q.stk (okc (by show (-1 : Int) ≤ 701; omega) q.2.2.2.1)) h0 h1
    dsimp only at w
    rw [List.map_cons, ad_f] at w
    exact w
theorem slen_eq (i : Nat) : kSlen.getD i 0 = slen i := rfl
theorem wp_blen {pc n i : Nat} {lv : bL} {r : List bV} {h : bH} (hd : decode (mcode k) pc = .ok (.arraylength, 1)) (hi : i < 20) (hk : WP g l d k n0 n1 Q (pc + 1, lv, (0, (slen i : Int)) :: r, n, h)) : WP g l d k n0 n1 Q (pc, lv, (2, ((800 + i : Nat) : Int)) :: r, n, h) := by
  intro p e R s m args below meth c Z E H locs ls q h0 h1
  obtain ⟨hx, hb, hml, hret, hlk, hown, hts, hin, hK⟩ := id E.1
  dsimp only at q h0 h1 ⊢
  rw [List.map_cons, ad_v hi]
  obtain ⟨cell, z1, z2, z3, z4, z5, z6, z7⟩ := (hK.2.2.2.2.1.1 i hi).2.2.2.kept (kept_of q.1)
  have hsl := slen_ok i hi
  refine W.alen (n := Int32.ofInt (slen i : Int)) hx hb z1 z2 (z5.trans (by rw [slen_eq]; exact (Int32.ofInt_eq_ofNat).symm)) rfl rfl hd ?_
  exact hk p e R s m args below meth c Z E H locs ls (q.stk (okc (by show in32 _; unfold in32; omega) (okr q.2.2.2.1))) h0 h1
theorem wp_bald {pc n i : Nat} {j : Int} {lv : bL} {r : List bV} {h : bH} (hd : decode (mcode k) pc = .ok (.baload, 1)) (hi : i < 20) (hj : 0 ≤ j ∧ j.toNat < slen i) (hk : WP g l d k n0 n1 Q (pc + 1, lv, (0, schr i j.toNat) :: r, n, h)) : WP g l d k n0 n1 Q (pc, lv, (0, j) :: (2, ((800 + i : Nat) : Int)) :: r, n, h) := by
  intro p e R s m args below meth c Z E H locs ls q h0 h1
  obtain ⟨hx, hb, hml, hret, hlk, hown, hts, hin, hK⟩ := id E.1
  dsimp only at q h0 h1 ⊢
  rw [List.map_cons, List.map_cons, ad_v hi]
  obtain ⟨cell, z1, z2, z3, z4, z5, z6, z7⟩ := (hK.2.2.2.2.1.1 i hi).2.2.2.kept (kept_of q.1)
  have hij : in32 j := ok1 q.2.2.2.1
  have hv := z6 j.toNat hj.2
  show W p l e R s m args below meth c H locs _ _ Z (F0 m pc ls (.int (Int32.ofInt j) :: .ref (gV g i) :: r.map (cv g)))
  refine W.bald (v := .int (Int32.ofInt (schr i j.toNat))) hx hb z1 z2 z3 (i32_ix hij hj.1 (Nat.lt_of_lt_of_le hj.2 z4)) (by rw [i32_cl hij, hv]; unfold schr; rw [i32_of]) rfl rfl hd ?_
  have hs := schr_ok i hi _ hj.2
  exact hk p e R s m args below meth c Z E H locs ls (q.stk (okc (by show in32 _; unfold in32; omega) (okr (okr q.2.2.2.1)))) h0 h1
theorem wp_i2c {pc n : Nat} {x : Int} {lv : bL} {r : List bV} {h : bH} (hd : decode (mcode k) pc = .ok (.i2c, 1)) (hx0 : 0 ≤ x ∧ x < 128) (hk : WP g l d k n0 n1 Q (pc + 1, lv, (0, x) :: r, n, h)) : WP g l d k n0 n1 Q (pc, lv, (0, x) :: r, n, h) := by
  intro p e R s m args below meth c Z E H locs ls q h0 h1
  obtain ⟨hx, hb, hml, hret, hlk, hown, hts, hin, hK⟩ := id E.1
  dsimp only at q h0 h1 ⊢
  have key : ∀ y : Nat, y < 128 → ((Int32.ofInt (y : Int)).toUInt32 % 65536).toInt32 = Int32.ofInt (y : Int) := by decide +kernel
  have e1 : ((Int32.ofInt x).toUInt32 % 65536).toInt32 = Int32.ofInt x := by
    have := key x.toNat (by omega)
    rw [Int.toNat_of_nonneg hx0.1] at this
    exact this
  exact lv_i2c hx hb hd e1 (hk p e R s m args below meth c Z E H locs ls q h0 h1)
end SS
end
-- == 20.strm.lean.txt
section
theorem kL_302 : okL 302 0 kT_302 = true := by decide +kernel
theorem kO_302 : okM 302 = true := by decide +kernel
theorem kL_303 : okL 303 0 kT_303 = true := by decide +kernel
theorem kO_303 : okM 303 = true := by decide +kernel
theorem kL_304 : okL 304 0 kT_304 = true := by decide +kernel
theorem kO_304 : okM 304 = true := by decide +kernel
theorem kL_305 : okL 305 0 kT_305 = true := by decide +kernel
theorem kO_305 : okM 305 = true := by decide +kernel
theorem kL_306 : okL 306 0 kT_306 = true := by decide +kernel
theorem kO_306 : okM 306 = true := by decide +kernel
theorem kL_307 : okL 307 0 kT_307 = true := by decide +kernel
theorem kO_307 : okM 307 = true := by decide +kernel
theorem kO_312 : okM 312 = true := by decide +kernel
theorem okT_V {k ix len aux w : Nat} (h : okT k (.invokevirtual ix, len, aux, w) = true) : okC k (.invokevirtual ix, len, aux, w) ix = true := by
  unfold okT at h
  rw [Bool.and_eq_true] at h
  exact h.2
theorem okT_S {k ix len aux w : Nat} (h : okT k (.invokestatic ix, len, aux, w) = true) : okC k (.invokestatic ix, len, aux, w) ix = true := by
  unfold okT at h
  rw [Bool.and_eq_true] at h
  exact h.2
theorem okT_I {k ix len aux w : Nat} (h : okT k (.invokespecial ix, len, aux, w) = true) : okC k (.invokespecial ix, len, aux, w) ix = true := by
  unfold okT at h
  rw [Bool.and_eq_true] at h
  exact h.2
section SMC
variable {g : bG} {l : Launch} {d k n0 n1 : Nat} {Q : bQ}
theorem wp_callT {ix k' ti n n' pc len widx : Nat} {h : bH} {lv : bL} {as rest : List bV} (hd : decode (mcode k) pc = .ok (.invokevirtual ix, 3)) (ht : okC k (.invokevirtual ix, len, k', widx) ix = true) (hk' : k' < 1000) (hw : widx ≠ 300000) (hm : okM k' = true) (hs : mst k' = false) (hni : (mname k').name ≠ "<init>")
    (ha : ti < 20) (hcl : (mname k').cls = "java/lang/String") (hl : as.length = mnp k') (hr : stw rest ≤ 8) (hn : n ≤ n' ∧ n' ≤ n1)
    (hM : MH g l d k' n n' ((2, ((512 + ti : Nat) : Int)) :: as) h (fun r h' => WP g l (d + 1) k n0 n1 Q (pc + 3, lv, r.toList ++ rest, n', h'))) : WP g l (d + 1) k n0 n1 Q (pc, lv, as.reverse ++ (2, ((512 + ti : Nat) : Int)) :: rest, n, h) := by
  intro p e R s m args below meth c Z E H locs ls q h0 h1
  obtain ⟨hx, hb, hml, hret, hlk, hown, hts, hin, hK⟩ := id E.1
  dsimp only at q h0 h1 ⊢
  obtain ⟨o1, o2, o3, o4, o5, o6, o7, o8⟩ := okM_x hm
  obtain ⟨o71, o72⟩ := o7 hs
  obtain ⟨b1, b2, b3, b4, b5, b6, b7, b8, b9, b10⟩ := callB_m (n := n) (n' := n') hts E.2.1 hm
  have hao : ∀ v ∈ (2, ((512 + ti : Nat) : Int)) :: as, okv v := okc (q.2.2.2.1 _ (List.mem_append_right _ List.mem_cons_self)) (fun v hv => q.2.2.2.1 v (List.mem_append_left _ (List.mem_reverse.mpr hv)))
  have hro : ∀ v ∈ rest, okv v := fun v hv => q.2.2.2.1 v (List.mem_append_right _ (List.mem_cons_of_mem _ hv))
  obtain ⟨cell, q1, q3, q5, -⟩ := (hK.2.2.2.2.1.1 ti ha).1.kept (kept_of q.1)
  have hcls : s.vm.findClass (mname k').cls = some cell.cls := by rw [hcl]; exact q5
  have hadd : cv g (2, ((512 + ti : Nat) : Int)) = .ref (gK g ti) := ad_k ha
  have est : (as.reverse ++ (2, ((512 + ti : Nat) : Int)) :: rest).map (cv g) = (as.map (cv g)).reverse ++ .ref (gK g ti) :: rest.map (cv g) := by
    rw [List.map_append, List.map_reverse, List.map_cons, hadd]
  rw [est]
  have eav : ((2, ((512 + ti : Nat) : Int)) :: as).map (cv g) = .ref (gK g ti) :: as.map (cv g) := by rw [List.map_cons, hadd]
  refine back_call (k' := k') (a := (Value.ref (gK g ti) :: as.map (cv g)).toArray) E hK q.2.1 q.2.2.1 hro q.2.2.2.2 h0 hn.1 hn.2 ⟨slN_mono h0, slN_mono hn.1⟩ ?_
  exact va_runV (As := as.map (cv g)) (rest := rest.map (cv g)) (n := mnp k') ⟨hx, hb, hml, hown, hts⟩ hM ⟨⟨b1, b2, b3, b4, b5, b6, b7, b8, b9, b10, link_of hts hk' hw ht⟩, wA_of hts _ o71, wA_of hts _ (o72 hni)⟩
    ⟨PcH_blind _ _ _ _, ⟨cell, q1, q3, hcls⟩, fun U hU hW => by have := pc_pre q.1 hK hao U hU hW; rw [eav] at this; exact this⟩
    rfl (by rw [List.length_map]; exact hl) (lv_sz q.2.1) rfl (lv_room (by rw [stw_cat]; exact hr)) hd ⟨by have := E.2.1.2.2.1; omega, by have := E.2.1.2.2.2; have := slN_mono h0; have := slN_mono hn.1; have := slN_mono hn.2; omega⟩
end SMC
section SM
variable {g : bG} {l : Launch} {d k n : Nat} {Q : bQ}
theorem mh_coder {i : Nat} {h : bH} (hi : i < 20) (hq : Q (some (0, 0)) h) : MH g l d 304 n n [(2, ((512 + i : Nat) : Int))] h Q := by
  refine mh_of kO_304 (show 1 ≤ mml 304 by decide +kernel) (Nat.le_refl n) ?_
  have L := okL_c kL_304
  refine wp_comp (ix := 38) (widx := 711) L.1 (by decide +kernel) ?_
  refine wp_at (S' := (6, largs 0 [(2, ((512 + i : Nat) : Int))], [], n, h)) kL_304 rfl rfl rfl ?_
  refine wp_at (S' := (7, largs 0 [(2, ((512 + i : Nat) : Int))], [(2, ((512 + i : Nat) : Int))], n, h)) kL_304 rfl rfl rfl ?_
  have L7 := okL_c (tkF_ok (target := 7) kL_304 rfl)
  refine wp_gcod (ix := 15) (widx := 1944) L7.1 (by decide +kernel) hi ?_
  refine wp_at (S' := (14, largs 0 [(2, ((512 + i : Nat) : Int))], [(0, 0)], n, h)) kL_304 rfl rfl rfl ?_
  have L14 := okL_c (tkF_ok (target := 14) kL_304 rfl)
  exact wp_ret (r := some (0, 0)) L14.1 rfl rfl rfl hq
end SM
section SM2
variable {g : bG} {l : Launch} {d k n : Nat} {Q : bQ}
theorem shr0 {x : Int} (h : in32 x) : shrI x 0 = x := by
  unfold shrI
  have : Int32.ofInt x >>> (Int32.ofInt 0 &&& 31) = Int32.ofInt x := by
    have e : (Int32.ofInt 0 &&& 31) = 0 := by decide
    rw [e]
    apply Int32.toBitVec_inj.mp
    simp
  rw [this, i32_ti h]
theorem mh_isLatin1 {i : Nat} {h : bH} (hi : i < 20) (hq : Q (some (0, 1)) h) : MH g l d 305 n n [(2, ((512 + i : Nat) : Int))] h Q := by
  refine mh_of kO_305 (show 1 ≤ mml 305 by decide +kernel) (Nat.le_refl n) ?_
  have L := okL_c kL_305
  refine wp_comp (ix := 38) (widx := 711) L.1 (by decide +kernel) ?_
  refine wp_at (S' := (6, largs 0 [(2, ((512 + i : Nat) : Int))], [], n, h)) kL_305 rfl rfl rfl ?_
  refine wp_at (S' := (7, largs 0 [(2, ((512 + i : Nat) : Int))], [(2, ((512 + i : Nat) : Int))], n, h)) kL_305 rfl rfl rfl ?_
  have L7 := okL_c (tkF_ok (target := 7) kL_305 rfl)
  refine wp_gcod (ix := 15) (widx := 1944) L7.1 (by decide +kernel) hi ?_
  refine wp_at (S' := (13, largs 0 [(2, ((512 + i : Nat) : Int))], [], n, h)) kL_305 rfl rfl rfl ?_
  refine wp_at (S' := (14, largs 0 [(2, ((512 + i : Nat) : Int))], [(0, 1)], n, h)) kL_305 rfl rfl rfl ?_
  refine wp_at (S' := (18, largs 0 [(2, ((512 + i : Nat) : Int))], [(0, 1)], n, h)) kL_305 rfl rfl rfl ?_
  have L18 := okL_c (tkF_ok (target := 18) kL_305 rfl)
  exact wp_ret (r := some (0, 1)) L18.1 rfl rfl ⟨by omega, by omega⟩ hq
theorem mh_length {i : Nat} {h : bH} (hi : i < 20) (hn : n ≤ n) (hq : Q (some (0, (slen i : Int))) h) : MH g l (d + 1) 302 n n [(2, ((512 + i : Nat) : Int))] h Q := by
  have hsl := slen_ok i hi
  refine mh_of kO_302 (show 1 ≤ mml 302 by decide +kernel) (Nat.le_refl n) ?_
  refine wp_at (S' := (1, largs 0 [(2, ((512 + i : Nat) : Int))], [(2, ((512 + i : Nat) : Int))], n, h)) kL_302 rfl rfl rfl ?_
  have L1 := okL_c (tkF_ok (target := 1) kL_302 rfl)
  refine wp_gval (ix := 9) (widx := 1943) L1.1 (by decide +kernel) hi ?_
  have L4 := okL_c (tkF_ok (target := 4) kL_302 rfl)
  refine wp_blen L4.1 hi ?_
  refine wp_at (S' := (6, largs 0 [(2, ((512 + i : Nat) : Int))], [(2, ((512 + i : Nat) : Int)), (0, (slen i : Int))], n, h)) kL_302 rfl rfl rfl ?_
  have L6 := okL_c (tkF_ok (target := 6) kL_302 rfl)
  refine wp_callT (k' := 304) (n' := n) (as := []) (rest := [(0, (slen i : Int))]) L6.1 (okT_V L6.2.1) (by decide) (by decide) kO_304 (by decide +kernel) (by decide +kernel) hi (by decide +kernel) (by decide +kernel) (show 1 ≤ 8 by decide) ⟨Nat.le_refl n, Nat.le_refl n⟩ (mh_coder hi ?_)
  refine wp_at (S' := (10, largs 0 [(2, ((512 + i : Nat) : Int))], [(0, shrI (slen i : Int) 0)], n, h)) kL_302 rfl rfl rfl ?_
  have hr : shrI (slen i : Int) 0 = (slen i : Int) := shr0 (by unfold in32; omega)
  rw [hr]
  have L10 := okL_c (tkF_ok (target := 10) kL_302 rfl)
  exact wp_ret (r := some (0, (slen i : Int))) L10.1 rfl rfl (by show in32 _; unfold in32; omega) hq
theorem mh_pre {x : Int} {m : Nat} {f : Int} {h : bH} (hx : 0 ≤ x ∧ x < m) (hq : Q (some (0, x)) h) : MH g l d 312 n n [(0, x), (0, (m : Int)), (2, f)] h Q := by
  refine mh_of kO_312 (show 3 ≤ mml 312 by decide +kernel) (Nat.le_refl n) ?_
  have D : ∀ {pc : Nat} {i : Instr}, decode (mcode 312) pc = .ok (i, ilen i) → decode (mcode 312) pc = .ok (((i, ilen i, 0, 0) : Tok).1, ((i, ilen i, 0, 0) : Tok).2.1) := fun h => h
  have d0 : decode (mcode 312) 0 = .ok (.iload_n 0, 1) := by decide +kernel
  have d1 : decode (mcode 312) 1 = .ok (.ifCond .lt 8, 3) := by decide +kernel
  have d4 : decode (mcode 312) 4 = .ok (.iload_n 0, 1) := by decide +kernel
  have d5 : decode (mcode 312) 5 = .ok (.iload_n 1, 1) := by decide +kernel
  have d6 : decode (mcode 312) 6 = .ok (.if_icmp .lt 10, 3) := by decide +kernel
  have d16 : decode (mcode 312) 16 = .ok (.iload_n 0, 1) := by decide +kernel
  have d17 : decode (mcode 312) 17 = .ok (.ireturn, 1) := by decide +kernel
  refine wp_step (t := (.iload_n 0, 1, 0, 0)) (S' := (1, largs 0 [(0, x), (0, (m : Int)), (2, f)], [(0, x)], n, h)) d0 rfl rfl rfl ?_
  refine wp_step (t := (.ifCond .lt 8, 3, 0, 0)) (S' := (4, largs 0 [(0, x), (0, (m : Int)), (2, f)], [], n, h)) d1 rfl ?_ rfl ?_
  · show bbr .lt 8 (1, largs 0 [(0, x), (0, (m : Int)), (2, f)], [(0, x)], n, h) = _
    simp [bbr, bcond, show ¬ x < 0 by omega]
  refine wp_step (t := (.iload_n 0, 1, 0, 0)) (S' := (5, largs 0 [(0, x), (0, (m : Int)), (2, f)], [(0, x)], n, h)) d4 rfl rfl rfl ?_
  refine wp_step (t := (.iload_n 1, 1, 0, 0)) (S' := (6, largs 0 [(0, x), (0, (m : Int)), (2, f)], [(0, (m : Int)), (0, x)], n, h)) d5 rfl rfl rfl ?_
  refine wp_step (t := (.if_icmp .lt 10, 3, 0, 0)) (S' := (16, largs 0 [(0, x), (0, (m : Int)), (2, f)], [], n, h)) d6 rfl ?_ rfl ?_
  · show bicmp .lt 10 (6, largs 0 [(0, x), (0, (m : Int)), (2, f)], [(0, (m : Int)), (0, x)], n, h) = _
    simp [bicmp, bcond, hx.2]
  refine wp_step (t := (.iload_n 0, 1, 0, 0)) (S' := (17, largs 0 [(0, x), (0, (m : Int)), (2, f)], [(0, x)], n, h)) d16 rfl rfl rfl ?_
  intro p e R s m' args below meth c Z E H locs ls q h0 h1
  exact wp_ret (r := some (0, x)) d17 rfl rfl (ok1 q.2.2.2.1) hq p e R s m' args below meth c Z E H locs ls q h0 h1
theorem mh_chk {x : Int} {m : Nat} {h : bH} (hx : 0 ≤ x ∧ x < m) (hq : Q none h) : MH g l (d + 1) 306 n n [(0, x), (0, (m : Int))] h Q := by
  refine mh_of kO_306 (show 2 ≤ mml 306 by decide +kernel) (Nat.le_refl n) ?_
  refine wp_at (S' := (1, largs 0 [(0, x), (0, (m : Int))], [(0, x)], n, h)) kL_306 rfl rfl rfl ?_
  refine wp_at (S' := (2, largs 0 [(0, x), (0, (m : Int))], [(0, (m : Int)), (0, x)], n, h)) kL_306 rfl rfl rfl ?_
  have L2 := okL_c (tkF_ok (target := 2) kL_306 rfl)
  refine wp_form (ix := 1053) (widx := 727) L2.1 (by decide +kernel) fun f => ?_
  have L5 := okL_c (tkF_ok (target := 5) kL_306 rfl)
  refine wp_callS (k' := 312) (n' := n) (as := [(0, x), (0, (m : Int)), (2, f)]) (rest := []) L5.1 (okT_S L5.2.1) (by decide) kO_312 (by decide +kernel) (show 3 = mnp 312 by decide +kernel) (show 0 ≤ 8 by decide) ⟨Nat.le_refl n, Nat.le_refl n⟩ (mh_pre hx ?_)
  refine wp_at (S' := (9, largs 0 [(0, x), (0, (m : Int))], [], n, h)) kL_306 rfl rfl rfl ?_
  have L9 := okL_c (tkF_ok (target := 9) kL_306 rfl)
  exact wp_ret (r := none) L9.1 rfl rfl (by show bfit (mret 306) none; rw [show mret 306 = none by decide +kernel]; trivial) hq
theorem mh_latin {i : Nat} {x : Int} {h : bH} (hi : i < 20) (hx : 0 ≤ x ∧ x.toNat < slen i) (hq : Q (some (0, schr i x.toNat)) h) : MH g l (d + 2) 307 n n [(2, ((800 + i : Nat) : Int)), (0, x)] h Q := by
  have hs := schr_ok i hi _ hx.2
  refine mh_of kO_307 (show 2 ≤ mml 307 by decide +kernel) (Nat.le_refl n) ?_
  refine wp_at (S' := (1, largs 0 [(2, ((800 + i : Nat) : Int)), (0, x)], [(0, x)], n, h)) kL_307 rfl rfl rfl ?_
  refine wp_at (S' := (2, largs 0 [(2, ((800 + i : Nat) : Int)), (0, x)], [(2, ((800 + i : Nat) : Int)), (0, x)], n, h)) kL_307 rfl rfl rfl ?_
  have L2 := okL_c (tkF_ok (target := 2) kL_307 rfl)
  refine wp_blen L2.1 hi ?_
  have L3 := okL_c (tkF_ok (target := 3) kL_307 rfl)
  refine wp_callS (k' := 306) (n' := n) (as := [(0, x), (0, (slen i : Int))]) (rest := []) L3.1 (okT_S L3.2.1) (by decide) kO_306 (by decide +kernel) (show 2 = mnp 306 by decide +kernel) (show 0 ≤ 8 by decide) ⟨Nat.le_refl n, Nat.le_refl n⟩ (mh_chk (by omega) ?_)
  refine wp_at (S' := (7, largs 0 [(2, ((800 + i : Nat) : Int)), (0, x)], [(2, ((800 + i : Nat) : Int))], n, h)) kL_307 rfl rfl rfl ?_
  refine wp_at (S' := (8, largs 0 [(2, ((800 + i : Nat) : Int)), (0, x)], [(0, x), (2, ((800 + i : Nat) : Int))], n, h)) kL_307 rfl rfl rfl ?_
  have L8 := okL_c (tkF_ok (target := 8) kL_307 rfl)
  refine wp_bald L8.1 hi hx ?_
  refine wp_at (S' := (12, largs 0 [(2, ((800 + i : Nat) : Int)), (0, x)], [(0, 255), (0, schr i x.toNat)], n, h)) kL_307 rfl rfl rfl ?_
  refine wp_at (S' := (13, largs 0 [(2, ((800 + i : Nat) : Int)), (0, x)], [(0, andI (schr i x.toNat) 255)], n, h)) kL_307 rfl rfl rfl ?_
  rw [hs.2.2]
  have L13 := okL_c (tkF_ok (target := 13) kL_307 rfl)
  refine wp_i2c L13.1 ⟨hs.1, hs.2.1⟩ ?_
  have L14 := okL_c (tkF_ok (target := 14) kL_307 rfl)
  exact wp_ret (r := some (0, schr i x.toNat)) L14.1 rfl rfl (by show bfit (mret 307) _; rw [show mret 307 = some .char by decide +kernel]; exact ⟨hs.1, by omega⟩) hq
theorem mh_charAt {i : Nat} {x : Int} {h : bH} (hi : i < 20) (hx : 0 ≤ x ∧ x.toNat < slen i) (hq : Q (some (0, schr i x.toNat)) h) : MH g l (d + 3) 303 n n [(2, ((512 + i : Nat) : Int)), (0, x)] h Q := by
  have hs := schr_ok i hi _ hx.2
  refine mh_of kO_303 (show 2 ≤ mml 303 by decide +kernel) (Nat.le_refl n) ?_
  refine wp_at (S' := (1, largs 0 [(2, ((512 + i : Nat) : Int)), (0, x)], [(2, ((512 + i : Nat) : Int))], n, h)) kL_303 rfl rfl rfl ?_
  have L1 := okL_c (tkF_ok (target := 1) kL_303 rfl)
  refine wp_callT (k' := 305) (n' := n) (as := []) (rest := []) L1.1 (okT_V L1.2.1) (by decide) (by decide) kO_305 (by decide +kernel) (by decide +kernel) hi (by decide +kernel) (by decide +kernel) (show 0 ≤ 8 by decide) ⟨Nat.le_refl n, Nat.le_refl n⟩ (mh_isLatin1 hi ?_)
  refine wp_at (S' := (7, largs 0 [(2, ((512 + i : Nat) : Int)), (0, x)], [], n, h)) kL_303 rfl rfl rfl ?_
  refine wp_at (S' := (8, largs 0 [(2, ((512 + i : Nat) : Int)), (0, x)], [(2, ((512 + i : Nat) : Int))], n, h)) kL_303 rfl rfl rfl ?_
  have L8 := okL_c (tkF_ok (target := 8) kL_303 rfl)
  refine wp_gval (ix := 9) (widx := 1943) L8.1 (by decide +kernel) hi ?_
  refine wp_at (S' := (12, largs 0 [(2, ((512 + i : Nat) : Int)), (0, x)], [(0, x), (2, ((800 + i : Nat) : Int))], n, h)) kL_303 rfl rfl rfl ?_
  have L12 := okL_c (tkF_ok (target := 12) kL_303 rfl)
  refine wp_callS (k' := 307) (n' := n) (as := [(2, ((800 + i : Nat) : Int)), (0, x)]) (rest := []) L12.1 (okT_S L12.2.1) (by decide) kO_307 (by decide +kernel) (show 2 = mnp 307 by decide +kernel) (show 0 ≤ 8 by decide) ⟨Nat.le_refl n, Nat.le_refl n⟩ (mh_latin hi hx ?_)
  have L15 := okL_c (tkF_ok (target := 15) kL_303 rfl)
  exact wp_ret (r := some (0, schr i x.toNat)) L15.1 rfl rfl (by show bfit (mret 303) _; rw [show mret 303 = some .char by decide +kernel]; exact ⟨hs.1, by omega⟩) hq
end SM2
end
-- == 21.multi.lean.txt
section
def hmul (h : bH) (n N : Nat) : bH := fun b i => if b = n then ((n + 1 + i : Nat) : Int) else if n < b ∧ b ≤ n + N then 0 else h b i
theorem outer_arr (c : ClassId) (N h0 : Nat) : ∀ i : Nat, i ≤ N → Jvm.Free.Multi.outerC c N h0 i = arrV c N (fun j => if j < i then .ref (h0 + 1 + j) else .null)
  | 0, _ => by
    show ({ cls := c, slots := Array.replicate N .null, vm := .none } : Cell) = _
    rw [arrV_new]
    refine congrArg (arrV c N) (funext fun j => ?_)
    simp
  | i + 1, h => by
    show (Jvm.Free.Multi.outerC c N h0 i).setSlot i (.ref (h0 + 1 + i)) = _
    rw [outer_arr c N h0 i (by omega), arrV_store]
    refine congrArg (arrV c N) (funext fun j => ?_)
    by_cases e : j = i
    · subst e
      simp [updV]
    · by_cases h2 : j < i
      · simp [updV, e, h2, Nat.lt_succ_of_lt h2]
      · simp [updV, e, h2, show ¬ j < i + 1 by omega]
theorem arrV_ext {c : ClassId} {N : Nat} {f f' : Nat → Value} (h : ∀ j, j < N → f j = f' j) : arrV c N f = arrV c N f' := by
  unfold arrV
  congr 1
  apply Array.ext
  · simp
  · intro i h1 h2
    simp at h1
    simp [h i h1]
section SMu
variable {g : bG} {l : Launch} {d k n0 n1 : Nat} {Q : bQ}
theorem wp_multi {ix widx aux pc n : Nat} {x y : Int} {lv : bL} {r : List bV} {h : bH} (hd : decode (mcode k) pc = .ok (.multianewarray ix 2, 4)) (ht : okW widx (.classLink (mown k) ix "[[J") = true) (hta : okW aux (.arrayClass .long) = true) (hx0 : 0 ≤ x) (hy0 : 0 ≤ y) (hsh : sh n = (3, x.toNat)) (hin' : ∀ i, i < x.toNat → sh (n + 1 + i) = (1, y.toNat)) (hx8 : x < 100) (hy8 : y < 2000) (hn : n + 1 + x.toNat ≤ 212) (hn1 : n + 1 + x.toNat ≤ n1)
    (hk : WP g l d k n0 n1 Q (pc + 4, lv, (2, (n : Int)) :: r, n + 1 + x.toNat, hmul h n x.toNat)) : WP g l d k n0 n1 Q (pc, lv, (0, y) :: (0, x) :: r, n, h) := by
  intro p e R s m args below meth c Z E H locs ls q h0 h1
  obtain ⟨hx, hb, hml, hret, hlk, hown, hts, hin, hK⟩ := id E.1
  dsimp only at q h0 h1 ⊢
  have hHs : H.size = gsz g + n := q.1.1
  have hiy : in32 y := ok1 q.2.2.2.1
  have hix : in32 x := ok1 (okr q.2.2.2.1)
  have n32 : ∀ {z : Int}, in32 z → 0 ≤ z → ¬ Int32.ofInt z < 0 := fun hz h0 => by
    rw [show (0 : Int32) = Int32.ofInt 0 from rfl, i32_lt hz ⟨by decide, by decide⟩]; omega
  have cx : (Int32.ofInt x).toNatClampNeg = x.toNat := i32_cl hix
  have cy : (Int32.ofInt y).toNatClampNeg = y.toNat := i32_cl hiy
  have hsl : ∀ i, i ≤ x.toNat → slN (n + 1 + i) = slN n + x.toNat + i * y.toNat := by
    intro i
    induction i with
    | zero => intro _; show slN (n + 1) = _; rw [slN_1 (by omega), hsh]; simp
    | succ i ih =>
      intro hi
      rw [show n + 1 + (i + 1) = (n + 1 + i) + 1 by omega, slN_1 (by omega), ih (by omega), hin' i (by omega), Nat.succ_mul]
      omega
  have es := hsl x.toNat (Nat.le_refl _)
  show W p l e R s m args below meth c H locs _ _ Z (F0 m pc ls (.int (Int32.ofInt y) :: .int (Int32.ofInt x) :: r.map (cv g)))
  intro T hT X
  have hb2 : y.toNat * componentBytes .long ≤ 536870912 := by
    have : componentBytes .long ≤ 8 := by decide
    have := Nat.mul_le_mul (show y.toNat ≤ 2000 by omega) this
    omega
  obtain ⟨vm₁, cA, comp, -, fA, fC, hO, -, X', step⟩ := X.multianewarray2F (ty := .long) hx hown (hts _ (okW_in ht)) hK.2.1.2.2.2.2.2.2 (hts _ (okW_in hta)) (g := F0 m pc ls (.int (Int32.ofInt y) :: .int (Int32.ofInt x) :: r.map (cv g))) rfl (by rw [hb]; exact hd) rfl (n32 hix hx0) (n32 hiy hy0) (by rw [cx]; omega) (by rw [cy]; exact hb2) (by rw [cy]; omega) rfl rfl (by rw [cx]; have := E.2.1.2.2.1; omega) (by rw [cx, cy]; have := E.2.1.2.2.2; have := slN_mono hn1; have := slN_mono h0; omega)
  rw [cx, cy] at X' step
  have hcA : cA = gA g 3 := Option.some.inj (fA.symm.trans hK.2.1.2.2.2.2.1)
  have hcy : comp = gA g 1 := Option.some.inj (fC.symm.trans hK.2.1.2.1.2)
  subst hcA; subst hcy
  have hTh : (T.setVm vm₁).heap = H := hT
  obtain ⟨f1, f2, -, -⟩ := Jvm.Free.Multi.fill_facts (T.setVm vm₁) (gA g 3) (gA g 1) x.toNat y.toNat (defaultValue .long) x.toNat
  have hold := fun (z : Nat) (hz : z < H.size) => Jvm.Free.Multi.fill_old (T.setVm vm₁) (gA g 3) (gA g 1) x.toNat y.toNat (defaultValue .long) (a := z) (by rw [hTh]; exact hz) x.toNat
  have hinn := Jvm.Free.Multi.fill_inner (T.setVm vm₁) (gA g 3) (gA g 1) x.toNat y.toNat (defaultValue .long) x.toNat
  generalize Jvm.Free.Multi.fill (T.setVm vm₁) (gA g 3) (gA g 1) x.toNat y.toNat (defaultValue .long) x.toNat = F at X' step f1 f2 hold hinn
  rw [hTh] at f1 f2 hold hinn
  have k3 : (sh n).1 = 3 := by rw [hsh]
  have hnew : HR g (n + 1 + x.toNat) (hmul h n x.toNat) F.heap := by
    obtain ⟨q1, q2, q3, q4⟩ := q.1
    refine ⟨by rw [f1, q1]; omega, hn, fun z hz => by rw [hold z (by omega)]; exact q3 z hz, fun b hb => ?_⟩
    by_cases eb : b = n
    · subst eb
      refine ⟨?_, fun j hj => ?_⟩
      · unfold cellR
        rw [if_pos (by omega), k3, ← hHs, f2, outer_arr _ _ _ _ (Nat.le_refl _), hsh]
        refine congrArg some (arrV_ext fun j hj => ?_)
        rw [if_pos hj, lk_arr k3 (by omega)]
        have e1 : hmul h b x.toNat b j = ((b + 1 + j : Nat) : Int) := if_pos rfl
        rw [e1]
        show _ = cv g (2, ((b + 1 + j : Nat) : Int))
        rw [cv_n (by omega)]
        exact congrArg Value.ref (show H.size + 1 + j = gsz g + (b + 1 + j) by omega)
      · rw [lk_arr k3 (by omega)]
        have e1 : hmul h b x.toNat b j = ((b + 1 + j : Nat) : Int) := if_pos rfl
        rw [e1]
        show (-1 : Int) ≤ _
        omega
    · by_cases e2 : n < b ∧ b ≤ n + x.toNat
      · have hbi := hin' (b - n - 1) (by omega)
        rw [show n + 1 + (b - n - 1) = b by omega] at hbi
        have k1 : (sh b).1 = 1 := by rw [hbi]
        have e3 : hmul h n x.toNat b = fun _ => 0 := funext fun i => by unfold hmul; rw [if_neg eb, if_pos e2]
        rw [e3]
        refine ⟨?_, fun j hj => ?_⟩
        · unfold cellR
          rw [if_pos (by omega), k1, show gsz g + b = H.size + 1 + (b - n - 1) by omega, hinn _ (by omega), hbi]
          refine congrArg some ?_
          show ({ cls := gA g 1, slots := Array.replicate y.toNat (defaultValue .long), vm := .none } : Cell) = _
          rw [arrV_new]
          refine congrArg (arrV (gA g 1) y.toNat) (funext fun j => ?_)
          rw [lk_arr k1 (by omega)]
          rfl
        · rw [lk_arr k1 (by omega)]
          show in64 0; unfold in64; omega
      · have e3 : hmul h n x.toNat b = h b := funext fun i => by unfold hmul; rw [if_neg eb, if_neg e2]
        rw [e3]
        exact ⟨(q4 b (by omega)).1.kept (hold _ (by omega)), (q4 b (by omega)).2⟩
  have w := hk p e R s m args below meth c Z E F.heap locs ls ⟨hnew, q.2.1, q.2.2.1, okc (by show (-1 : Int) ≤ n; omega) (okr (okr q.2.2.2.1)), q.2.2.2.2⟩ (by show n0 ≤ n + 1 + x.toNat; omega) hn1
  have en : n + 1 + x.toNat - n0 = n - n0 + 1 + x.toNat := by omega
  have es2 : slN (n + 1 + x.toNat) - slN n0 = slN n - slN n0 + x.toNat + x.toNat * y.toNat := by
    rw [es]; have := slN_mono h0; omega
  dsimp only at w
  rw [en, es2, List.map_cons, cv_n (by omega), ← hHs] at w
  obtain ⟨t, a1, b1⟩ := w F rfl X'
  refine ⟨t, step t ?_, b1⟩
  rw [hT]
  exact a1
end SMu
end
-- == 22.start.lean.txt
section
/-! WHAT IS KNOWN WHERE THE LAW BEGINS -/
def stm (i : Nat) : Term := .string "BoxLeaves$Tape" (kStr.getD i (0, "")).1
abbrev stF : List Jvm.Cond := flatC (Jvm.Cond.and given_1 narrow_1)
theorem sf_ex : ∀ i, i < 20 → (Jvm.Cond.exactly (stm i) "java/lang/String") ∈ stF := by decide +kernel
theorem sf_co : ∀ i, i < 20 → (Jvm.Cond.eq (.field (stm i) "java/lang/String" "coder" "B") (.int 0)) ∈ stF := by decide +kernel
theorem sf_ar : ∀ i, i < 20 → (Jvm.Cond.arrayOf (.field (stm i) "java/lang/String" "value" "[B") .byte) ∈ stF := by decide +kernel
theorem sf_le : ∀ i, i < 20 → (Jvm.Cond.eq (.length (.field (stm i) "java/lang/String" "value" "[B")) (.int (Int32.ofNat (kSlen.getD i 0)))) ∈ stF := by decide +kernel
theorem sf_el : ∀ i, i < 20 → ∀ j, j < kSlen.getD i 0 → (Jvm.Cond.eq (.elem (.field (stm i) "java/lang/String" "value" "[B") (.int (Int32.ofNat j))) (.int ((kSbyt.getD i []).getD j 0))) ∈ stF := by decide +kernel
/-- pairs of texts said to differ -/
def stN : List (Nat × Nat) := stF.filterMap fun w => match w with
  | .not (.eq (.string a i) (.string b j)) => if a = "BoxLeaves$Tape" ∧ b = "BoxLeaves$Tape" then some (i, j) else none
  | _ => none
theorem stN_x {i j : Nat} (h : (i, j) ∈ stN) : (Jvm.Cond.not (Jvm.Cond.eq (.string "BoxLeaves$Tape" i) (.string "BoxLeaves$Tape" j))) ∈ stF := by
  unfold stN at h
  obtain ⟨w, hw, h⟩ := List.mem_filterMap.mp h
  split at h
  · split at h
    · rename_i e
      obtain ⟨rfl, rfl⟩ := e
      cases h
      exact hw
    · cases h
  · cases h
def stP (i j : Nat) : Bool := stN.any fun q => q.1 == (kStr.getD i (0, "")).1 && q.2 == (kStr.getD j (0, "")).1
theorem stP_x {i j : Nat} (h : stP i j = true) : ((kStr.getD i (0, "")).1, (kStr.getD j (0, "")).1) ∈ stN := by
  unfold stP at h
  rw [List.any_eq_true] at h
  obtain ⟨q, hq, h⟩ := h
  simp only [Bool.and_eq_true, beq_iff_eq] at h
  rw [← h.1, ← h.2]
  exact hq
theorem sf_np : ∀ i, i < 20 → ∀ j, j < 20 → i ≠ j → (stP i j || stP j i) = true := by decide +kernel
theorem sf_ne (i : Nat) (hi : i < 20) (j : Nat) (hj : j < 20) (hne : i ≠ j) : (Jvm.Cond.not (Jvm.Cond.eq (stm i) (stm j))) ∈ stF ∨ (Jvm.Cond.not (Jvm.Cond.eq (stm j) (stm i))) ∈ stF :=
  ((Bool.or_eq_true _ _).mp (sf_np i hi j hj hne)).imp (fun h => stN_x (stP_x h)) (fun h => stN_x (stP_x h))
theorem sf_cs : (Jvm.Cond.eq (.static "java/lang/String" "COMPACT_STRINGS" "Z") (.int 1)) ∈ stF := by decide +kernel
theorem sf_fo : (Jvm.Cond.isRef (.static "jdk/internal/util/Preconditions" "SIOOBE_FORMATTER" "Ljava/util/function/BiFunction;")) ∈ stF := by decide +kernel
theorem sw_str : ∀ i, i < 20 → (Jvm.Cond.stringRef "BoxLeaves$Tape" (kStr.getD i (0, "")).1 (kStr.getD i (0, "")).2) ∈ lw_tbl := by decide +kernel
theorem sw_lay : (Jvm.Cond.laysStatic "java/lang/String" "COMPACT_STRINGS" "Z") ∈ lw_tbl ∧ (Jvm.Cond.initialized "java/lang/String") ∈ lw_tbl ∧ (Jvm.Cond.laysStatic "jdk/internal/util/Preconditions" "SIOOBE_FORMATTER" "Ljava/util/function/BiFunction;") ∈ lw_tbl ∧ (Jvm.Cond.initialized "jdk/internal/util/Preconditions") ∈ lw_tbl ∧ (Jvm.Cond.arrayClass .int) ∈ lw_tbl ∧ (Jvm.Cond.arrayClass .long) ∈ lw_tbl ∧ (Jvm.Cond.arrayOver (.object "BoxLeaves$Terms")) ∈ lw_tbl ∧ (Jvm.Cond.arrayOver (.array .long)) ∈ lw_tbl := by decide +kernel
theorem sw_ins : ∀ i, i < 12 → (Jvm.Cond.instantiable (kCls.getD i ("", kF0, 0)).1 (kCls.getD i ("", kF0, 0)).2.2) ∈ lw_tbl := by decide +kernel
theorem kNest_in : ∀ q ∈ kNest, (Jvm.Cond.methodLinkNest q.1 q.2.1 q.2.2 "BoxLeaves") ∈ lw_tbl := by
  intro q hq
  unfold kNest at hq
  obtain ⟨w, hw, h⟩ := List.mem_filterMap.mp hq
  cases w with
  | methodLinkNest a i x h9 =>
    dsimp only at h
    split at h
    · rename_i e
      subst e
      cases h
      exact hw
    · cases h
  | _ => cases h
theorem arr_of {s : State} {t : FieldType} {cA : ClassId} {kA : Class} {comp : ClassId} (h2 : s.vm.classes[cA]? = some kA) (h3 : kA.kind = .array comp t) : ArrOfT s cA t := fun N z => ⟨fun q hq => (by cases hq), kA, h2, comp, h3⟩
theorem ks_start {s : State} {b L : Nat} {xs : Nat → Int32} (hts : ∀ w ∈ lw_tbl, w.before #[Value.ref b] s = true) (hgv : (Jvm.Cond.and given_1 narrow_1).before #[Value.ref b] s = true) (hX : va_X b L xs s s.heap) (hbl : b < s.heap.size) (hL : L ≤ 3072) : ∃ g : bG, g.1 = s.heap ∧ g.2.1 = (b, L, xs) ∧ KS g s := by
  have hf := flat_of_before _ hgv
  obtain ⟨w1, w2, w3, w4, w5, w6, w7, w8⟩ := sw_lay
  have hA : ∀ a : Nat, a < s.heap.size → ¬ (s.heap.size ≤ a) := fun a ha => Nat.not_le.mpr ha
  obtain ⟨adK, adV, hS, hev⟩ := vk_Sof (args := #[Value.ref b]) (s := s) (N := 20) (tm := stm) (len := kSlen) (byt := kSbyt) (A := fun q => s.heap.size ≤ q) (fun i hi => by have := slen_ok i hi; unfold slen at this; omega) (fun i hi => hf _ (sf_ex i hi)) (fun i hi => hf _ (sf_co i hi)) (fun i hi => hf _ (sf_ar i hi)) (fun i hi => hf _ (sf_le i hi)) (fun i hi j hj => hf _ (sf_el i hi j hj)) (fun i j hi hj hne => (sf_ne i hi j hj hne).imp (fun h => hf _ h) (fun h => hf _ h)) hA
  have hKn : ∀ i, i < 12 → ∃ (cC : ClassId) (iS : Nat → Nat), u_Kn s (kCls.getD i ("", kF0, 0)).1 (kCls.getD i ("", kF0, 0)).2.1 (kCls.getD i ("", kF0, 0)).2.2 cC iS := by
    intro i hi
    have hm : kCls.getD i ("", kF0, 0) ∈ kCls := by
      rw [List.getD_eq_getElem?_getD, List.getElem?_eq_getElem (by rw [kCls_len]; exact hi)]
      exact List.getElem_mem _
    exact u_known hts (fun w hw => (kF_in _ hm w hw).1) (hts _ (sw_ins i hi))
  obtain ⟨dC, hdC⟩ : ∃ dC : Nat → ClassId, ∀ i, i < 12 → ∃ iS : Nat → Nat, u_Kn s (kCls.getD i ("", kF0, 0)).1 (kCls.getD i ("", kF0, 0)).2.1 (kCls.getD i ("", kF0, 0)).2.2 (dC i) iS := by
    refine ⟨fun i => if h : i < 12 then (hKn i h).choose else 0, fun i hi => ?_⟩
    dsimp only
    rw [dif_pos hi]
    exact (hKn i hi).choose_spec
  obtain ⟨dI, hdI⟩ : ∃ dI : Nat → Nat → Nat, ∀ i, i < 12 → u_Kn s (kCls.getD i ("", kF0, 0)).1 (kCls.getD i ("", kF0, 0)).2.1 (kCls.getD i ("", kF0, 0)).2.2 (dC i) (dI i) := by
    refine ⟨fun i => if h : i < 12 then (hdC i h).choose else fun _ => 0, fun i hi => ?_⟩
    dsimp only
    rw [dif_pos hi]
    exact (hdC i hi).choose_spec
  obtain ⟨a0, k0, c0, a1, a2, a3⟩ := Cond.arrayClass_spec (hts _ w5)
  obtain ⟨b0, k1, c1, b1, b2, b3⟩ := Cond.arrayClass_spec (hts _ w6)
  obtain ⟨c2, t0, k2, t1, t2, t3, t4, t5⟩ := Cond.arrayOver_spec (hts _ w7)
  have w8' : bAO (.array .long) s := hts _ w8
  obtain ⟨c3, u0, k3, u1, u2, u3, u4, u5⟩ := bAO_x w8'
  have hz1 : va_Z "java/lang/String" "COMPACT_STRINGS" "Z" (.int 1) (fun q => s.heap.size ≤ q) s s.heap := va_Zof (hts _ w1) (hts _ w2) (Cond.eq_int (hf _ sf_cs) rfl) hA
  have hz2 := va_Zqof (A := fun q => s.heap.size ≤ q) (hts _ w3) (hts _ w4) (hf _ sf_fo) hA
  have hz2' : ∃ f : Nat, va_Z "jdk/internal/util/Preconditions" "SIOOBE_FORMATTER" "Ljava/util/function/BiFunction;" .null (fun q => s.heap.size ≤ q) s s.heap ∨ va_Z "jdk/internal/util/Preconditions" "SIOOBE_FORMATTER" "Ljava/util/function/BiFunction;" (.ref f) (fun q => s.heap.size ≤ q) s s.heap := by
    rcases hz2 with h | ⟨f, h⟩
    · exact ⟨0, Or.inl h⟩
    · exact ⟨f, Or.inr h⟩
  obtain ⟨f, hz3⟩ := hz2'
  refine ⟨(s.heap, (b, L, xs), adK, adV, dC, dI, fun q => if q = 0 then a0 else if q = 1 then b0 else if q = 2 then t0 else u0, f), rfl, rfl, ?_⟩
  refine ⟨?_, ⟨⟨arr_of a2 a3, a1⟩, ⟨arr_of b2 b3, b1⟩, ⟨arr_of t3 t4, k2, c2, t3, t4, t1, t5⟩, arr_of u3 u4, u5, hts _ w7, w8'⟩, ?_, ?_, hS, hz1, hz3, hX, hbl, hL⟩
  · intro c q hq
    obtain ⟨h1, h2⟩ := kCls_at hq
    have := hdI c h1
    rw [h2] at this
    exact this
  · intro q hq
    exact va_Nw.of rfl (hts _ (kNest_in q hq))
  · intro i q hq
    have hi : i < 20 := (List.getElem?_eq_some_iff.mp hq).1
    have hg : kStr.getD i (0, "") = q := by rw [List.getD_eq_getElem?_getD, hq]; rfl
    have h1 := hts _ (sw_str i hi)
    have h2 := hev i hi
    unfold stm at h2
    rw [hg] at h1 h2
    exact vk_R.of h1 h2
end
-- == 23.law.lean.txt
section
/-! THE CLAIM OUT OF ONE WALK OF THE LAW'S BODY. Your part is whole_start (and what it stands on); all else here is the same for every law, but numbers. -/
def R_law : String := "BoxLeavesLaw"
def lw_P (b : Addr) (xs : List Int32) (args : Array Value) (s : State) : Prop := args = #[.ref b] ∧ s.IntsAt b xs ∧ xs.length ≤ 3072 ∧ (Jvm.Cond.and given_1 narrow_1).before args s = true
def lw_Q (_ : Array Value) (s : State) (o : Outcome) (t : State) : Prop := o = .returned (some (.int 1)) ∧ Framed s o t [] 600000 7302250
def lw_Z (below : List Frame) (a : Array Value) (s : State) : State → Prop := fun t => ∃ o, t.status = .running ∧ Ended t below o ∧ lw_Q a s o t
/-- the law's own end, with 1 on the stack, nothing written that was there before, its room as the claim has it -/
theorem lw_ret {p : Program} {l : Launch} {e : Env} {s : State} {m : MethodId} {below : List Frame} {meth : Method} {c : Code} {b : Nat} (hx : p.tables.exec = Jvm.exec) (hb : c.code = code) (hr : meth.sig.returnType = ret) (hlocks : meth.locks = false) {pc : Nat} {H : Heap} {ls : Array Slot} (hdg : decode code pc = .ok (.ireturn, 1)) : W p l e room_1 s m #[Value.ref b] below meth c H [] 600000 7302250 (lw_Z below #[Value.ref b] s) (F0 m pc ls [.int 1]) := by
  intro T hT X
  obtain ⟨fs, hret, hrun, hended, hW, hframe⟩ := X.leave (v := some (.int 1)) (hlocks := hlocks) (fun h => by rw [hr] at h; cases h)
  have hmeth' : T.vm.method? m = some meth := X.method'
  refine ⟨T.setFrames fs, ?_, .returned (some (.int 1)), hrun, hended, rfl, ⟨_, rfl⟩, hW, hframe⟩
  jvm_step X.here [X.here.top, hx, hb, hdg, hmeth', hr, ret, narrow_b1]
  (try refine ⟨rfl, ?_⟩); (try refine ⟨rfl, ?_⟩)
  first | (intro acts; rw [hret _ acts rfl rfl rfl]) | rw [hret _ _ rfl rfl rfl]
  exact Steps.refl _
/-- what holds at the law's entry: the machine, the code, the tables' words (any of lw_tbl by 'hts w (by decide +kernel)'), the script of L ints xs at the cell b, what the Statement gives of the start (any of its parts by flat_of_before) -/
def lw_At (p : Program) (s : State) (m : MethodId) (meth : Method) (c : Code) (b L : Nat) (xs : Nat → Int32) : Prop :=
  p.tables.exec = Jvm.exec ∧ c.code = code ∧ meth.sig.returnType = ret ∧ c.maxLocals = 4 ∧ s.vm.findClass R_law = some m.cls ∧ (∀ w ∈ lw_tbl, w.before #[Value.ref b] s = true) ∧ va_X b L xs s s.heap ∧ b < s.heap.size ∧ meth.locks = false ∧ (Jvm.Cond.and given_1 narrow_1).before #[Value.ref b] s = true ∧ (Jvm.Cond.code x code maxLocals ret).before #[Value.ref b] s = true
/-- THE LAW, from its entry, out of its plain walk -/
def LawWP : Prop := ∀ (g : bG) (l : Launch), (gsc g).1 ≤ 3072 → WP g l 40 0 0 212 (fun r _ => r = some (0, 1)) (0, [(0, (2, 700))], [], 0, fun _ _ => 0)
theorem sl212 : slN 212 = 10168 ∧ slN 0 = 0 := by decide +kernel
theorem law_start (hLaw : LawWP) {p : Program} {e : Env} {s : State} {m : MethodId} {below : List Frame} {meth : Method} {c : Code} (l : Launch) {b L : Nat} {xs : Nat → Int32} (hL : L ≤ 3072) (C0 : lw_At p s m meth c b L xs) : W p l e room_1 s m #[Value.ref b] below meth c s.heap [] 0 0 (lw_Z below #[Value.ref b] s) (entryFrame m ([Value.ref b] : List Value).toArray 4) := by
  obtain ⟨hx, hb, hr, hml, hown, hts, hX, hbl, hlocks, hgv, hcw⟩ := C0
  obtain ⟨g, hg1, hg2, hK⟩ := ks_start hts hgv hX hbl hL
  have hgz : gsz g = s.heap.size := congrArg Array.size hg1
  have hgb : gb g = b := congrArg (·.1) hg2
  have hgl : (gsc g).1 = L := congrArg (fun q : Nat × bC => q.2.1) hg2
  have C : Cx g 0 p s m #[Value.ref b] meth c := ⟨hx, hb, hml, hr, hlocks, hown, fun w hw => by
    rcases List.mem_cons.mp hw with rfl | h
    · exact hcw
    · exact hts w (List.mem_filter.mp h).1, fun h => absurd h (by decide), hK⟩
  have e7 : cv g (2, 700) = .ref b := by
    rw [← hgb]; rfl
  have hl := lv_entry ([.ref b]) (n := 4) (Nat.le_of_ble_eq_true rfl)
  rw [lg_entry_eq]
  generalize (lg_sl ([.ref b]) ++ List.replicate (4 - (lg_sl ([.ref b])).length) Slot.unset).toArray = ls at hl ⊢
  have hRS : RS g 0 0 (fun _ _ => 0) [(0, (2, 700))] [] s.heap [] ls := by
    refine ⟨⟨by rw [hgz]; rfl, Nat.zero_le _, fun q _ => by rw [hg1], fun a ha => absurd ha (Nat.not_lt_zero a)⟩, ?_, ?_, ?_, ?_⟩
    · show lv_has ls 4 [(0, cv g (2, 700))]
      rw [e7]; exact hl
    · intro q hq
      rw [List.mem_singleton] at hq
      subst hq
      show (-1 : Int) ≤ 700
      omega
    · intro v hv; cases hv
    · intro v hv; cases hv
  have hw := hLaw g l (by rw [hgl]; exact hL) p e room_1 s m #[Value.ref b] below meth c (lw_Z below #[Value.ref b] s) ⟨C, ⟨by decide, by decide, by decide, by rw [sl212.1, sl212.2]; decide⟩, ?_⟩ s.heap [] ls hRS (Nat.le_refl _) (Nat.zero_le _)
  · exact hw
  · intro r h H locs ls pc i hH hlo hq hf hd hi
    subst hq
    cases bret_0 hi
    refine va_forget (fun q hq => by rw [← hgz]; exact hlo q hq) ?_
    refine W.widen (k := 600000) (n := 7302250) (by decide) (by rw [sl212.1, sl212.2]; decide) ?_
    exact lw_ret hx hb hr hlocks hd
end
