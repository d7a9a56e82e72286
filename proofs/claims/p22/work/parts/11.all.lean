section ST6
variable {g : bG} {l : Launch} {d k n0 n1 : Nat} {Q : bQ} {p : Program} {e : Env} {R : Room} {s : State} {m : MethodId} {args : Array Value} {below : List Frame} {meth : Method} {c : Code} {Z : State → Prop}
set_option maxHeartbeats 4000000 in
theorem cst_ok (C : Cx g k p s m args meth c) {t : Tok} {S S' : bS} (hd : decode (mcode k) S.1 = .ok (t.1, t.2.1)) (ht : okT k t = true) (hs : cst (gsc g) k t S = some S') (hk : Wg g l k n0 p e R s m args below meth c Z S') : Wg g l k n0 p e R s m args below meth c Z S := by
  obtain ⟨i, len, aux, widx⟩ := t
  have hx := C.1
  have hb := C.2.1
  have hown := C.2.2.2.2.2.1
  have hts := C.2.2.2.2.2.2.1
  have hK := C.2.2.2.2.2.2.2.2
  dsimp only at hd
  cases i with
  | iadd =>
    have hl : len = 1 := okT_len ht rfl
    subst hl
    have hs2 : b2 0 0 0 (fun x y => some (w32 (x + y))) S 1 = some S' := hs
    exact st_b2 hs2 (fun x y z r H locs ls hx1 hy1 hf => by cases hf; exact ⟨w32_in _, fun w => lv_iadd hx hb hd (by rw [i32_add]; exact w)⟩) hk
  | isub =>
    have hl : len = 1 := okT_len ht rfl
    subst hl
    have hs2 : b2 0 0 0 (fun x y => some (w32 (x - y))) S 1 = some S' := hs
    exact st_b2 hs2 (fun x y z r H locs ls hx1 hy1 hf => by cases hf; exact ⟨w32_in _, fun w => lv_isub hx hb hd (by rw [i32_sub]; exact w)⟩) hk
  | imul =>
    have hl : len = 1 := okT_len ht rfl
    subst hl
    have hs2 : b2 0 0 0 (fun x y => some (w32 (x * y))) S 1 = some S' := hs
    exact st_b2 hs2 (fun x y z r H locs ls hx1 hy1 hf => by cases hf; exact ⟨w32_in _, fun w => lv_imul hx hb hd (by rw [i32_mul]; exact w)⟩) hk
  | ladd =>
    have hl : len = 1 := okT_len ht rfl
    subst hl
    have hs2 : b2 1 1 1 (fun x y => some (w64 (x + y))) S 1 = some S' := hs
    exact st_b2 hs2 (fun x y z r H locs ls hx1 hy1 hf => by cases hf; exact ⟨w64_in _, fun w => lv_ladd hx hb hd (by rw [i64_add]; exact w)⟩) hk
  | lsub =>
    have hl : len = 1 := okT_len ht rfl
    subst hl
    have hs2 : b2 1 1 1 (fun x y => some (w64 (x - y))) S 1 = some S' := hs
    exact st_b2 hs2 (fun x y z r H locs ls hx1 hy1 hf => by cases hf; exact ⟨w64_in _, fun w => lv_lsub hx hb hd (by rw [i64_sub]; exact w)⟩) hk
  | lmul =>
    have hl : len = 1 := okT_len ht rfl
    subst hl
    have hs2 : b2 1 1 1 (fun x y => some (w64 (x * y))) S 1 = some S' := hs
    exact st_b2 hs2 (fun x y z r H locs ls hx1 hy1 hf => by cases hf; exact ⟨w64_in _, fun w => lv_lmul hx hb hd (by rw [i64_mul]; exact w)⟩) hk
  | iand =>
    have hl : len = 1 := okT_len ht rfl
    subst hl
    have hs2 : b2 0 0 0 (fun x y => some (andI x y)) S 1 = some S' := hs
    exact st_b2 hs2 (fun x y z r H locs ls hx1 hy1 hf => by cases hf; exact ⟨i32_in _, fun w => lv_iand hx hb hd (by rw [← i32_of (Int32.ofInt x &&& Int32.ofInt y)]; exact w)⟩) hk
  | ior =>
    have hl : len = 1 := okT_len ht rfl
    subst hl
    have hs2 : b2 0 0 0 (fun x y => some (orI x y)) S 1 = some S' := hs
    exact st_b2 hs2 (fun x y z r H locs ls hx1 hy1 hf => by cases hf; exact ⟨i32_in _, fun w => lv_ior hx hb hd (by rw [← i32_of (Int32.ofInt x ||| Int32.ofInt y)]; exact w)⟩) hk
  | ixor =>
    have hl : len = 1 := okT_len ht rfl
    subst hl
    have hs2 : b2 0 0 0 (fun x y => some (xorI x y)) S 1 = some S' := hs
    exact st_b2 hs2 (fun x y z r H locs ls hx1 hy1 hf => by cases hf; exact ⟨i32_in _, fun w => lv_ixor hx hb hd (by rw [← i32_of (Int32.ofInt x ^^^ Int32.ofInt y)]; exact w)⟩) hk
  | ishl =>
    have hl : len = 1 := okT_len ht rfl
    subst hl
    have hs2 : b2 0 0 0 (fun x y => some (shlI x y)) S 1 = some S' := hs
    exact st_b2 hs2 (fun x y z r H locs ls hx1 hy1 hf => by cases hf; exact ⟨i32_in _, fun w => lv_ishl hx hb hd (by rw [← i32_of (Int32.ofInt x <<< (Int32.ofInt y &&& 31))]; exact w)⟩) hk
  | ishr =>
    have hl : len = 1 := okT_len ht rfl
    subst hl
    have hs2 : b2 0 0 0 (fun x y => some (shrI x y)) S 1 = some S' := hs
    exact st_b2 hs2 (fun x y z r H locs ls hx1 hy1 hf => by cases hf; exact ⟨i32_in _, fun w => lv_ishr hx hb hd (by rw [← i32_of (Int32.ofInt x >>> (Int32.ofInt y &&& 31))]; exact w)⟩) hk
  | land =>
    have hl : len = 1 := okT_len ht rfl
    subst hl
    have hs2 : b2 1 1 1 (fun x y => some (andL x y)) S 1 = some S' := hs
    exact st_b2 hs2 (fun x y z r H locs ls hx1 hy1 hf => by cases hf; exact ⟨i64_in _, fun w => lv_land hx hb hd (by rw [← i64_of (Int64.ofInt x &&& Int64.ofInt y)]; exact w)⟩) hk
  | lor =>
    have hl : len = 1 := okT_len ht rfl
    subst hl
    have hs2 : b2 1 1 1 (fun x y => some (orL x y)) S 1 = some S' := hs
    exact st_b2 hs2 (fun x y z r H locs ls hx1 hy1 hf => by cases hf; exact ⟨i64_in _, fun w => lv_lor hx hb hd (by rw [← i64_of (Int64.ofInt x ||| Int64.ofInt y)]; exact w)⟩) hk
  | iushr =>
    have hl : len = 1 := okT_len ht rfl
    subst hl
    have hs2 : b2 0 0 0 (fun x y => some (ushrI x y)) S 1 = some S' := hs
    exact st_b2 hs2 (fun x y z r H locs ls hx1 hy1 hf => by cases hf; exact ⟨i32_in _, fun w => lv_iushr hx hb hd (v := Int32.ofInt (ushrI x y)) (i32_of _).symm w⟩) hk
  | lshl =>
    have hl : len = 1 := okT_len ht rfl
    subst hl
    have hs2 : b2 1 0 1 (fun x y => some (shlL x y)) S 1 = some S' := hs
    exact st_b2 hs2 (fun x y z r H locs ls hx1 hy1 hf => by cases hf; exact ⟨i64_in _, fun w => lv_lshl hx hb hd (v := Int64.ofInt (shlL x y)) (i64_of _).symm w⟩) hk
  | lshr =>
    have hl : len = 1 := okT_len ht rfl
    subst hl
    have hs2 : b2 1 0 1 (fun x y => some (shrL x y)) S 1 = some S' := hs
    exact st_b2 hs2 (fun x y z r H locs ls hx1 hy1 hf => by cases hf; exact ⟨i64_in _, fun w => lv_lshr hx hb hd (v := Int64.ofInt (shrL x y)) (i64_of _).symm w⟩) hk
  | idiv =>
    have hl : len = 1 := okT_len ht rfl
    subst hl
    have hs2 : b2 0 0 0 divI S 1 = some S' := hs
    exact st_b2 hs2 (fun x y z r H locs ls hx1 hy1 hf => by obtain ⟨h0, rfl⟩ := divI_x hf; exact ⟨w32_in _, fun w => lv_idiv hx hb hd (i32_0 hy1 h0) (by rw [i32_div hx1 hy1]; exact w)⟩) hk
  | irem =>
    have hl : len = 1 := okT_len ht rfl
    subst hl
    have hs2 : b2 0 0 0 remI S 1 = some S' := hs
    exact st_b2 hs2 (fun x y z r H locs ls hx1 hy1 hf => by obtain ⟨h0, rfl⟩ := remI_x hf; exact ⟨tmod_in hx1 hy1, fun w => lv_irem hx hb hd (i32_0 hy1 h0) (by rw [i32_rem hx1 hy1]; exact w)⟩) hk
  | ldiv =>
    have hl : len = 1 := okT_len ht rfl
    subst hl
    have hs2 : b2 1 1 1 divL S 1 = some S' := hs
    exact st_b2 hs2 (fun x y z r H locs ls hx1 hy1 hf => by obtain ⟨h0, rfl⟩ := divL_x hf; exact ⟨w64_in _, fun w => lv_ldiv hx hb hd (i64_0 hy1 h0) (by rw [i64_div hx1 hy1]; exact w)⟩) hk
  | lrem =>
    have hl : len = 1 := okT_len ht rfl
    subst hl
    have hs2 : b2 1 1 1 remL S 1 = some S' := hs
    exact st_b2 hs2 (fun x y z r H locs ls hx1 hy1 hf => by obtain ⟨h0, rfl⟩ := remL_x hf; exact ⟨tmodL_in hx1 hy1, fun w => lv_lrem hx hb hd (i64_0 hy1 h0) (by rw [i64_rem hx1 hy1]; exact w)⟩) hk
  | lcmp =>
    have hl : len = 1 := okT_len ht rfl
    subst hl
    have hs2 : b2 1 1 0 (fun x y => some (cmpL x y)) S 1 = some S' := hs
    exact st_b2 hs2 (fun x y z r H locs ls hx1 hy1 hf => by cases hf; exact ⟨cmpL_in _ _, fun w => W.lcmp hx hb hd (by rw [i64_cmp hx1 hy1]; exact w)⟩) hk
  | i2l =>
    have hl : len = 1 := okT_len ht rfl
    subst hl
    have hs2 : b1 0 1 (fun x => some x) S 1 = some S' := hs
    exact st_b1 hs2 (fun x z r H locs ls hx1 hf => by cases hf; exact ⟨in32_64 hx1, fun w => lv_i2l hx hb hd (v := Int64.ofInt x) (i32_i2l x hx1) w⟩) hk
  | l2i =>
    have hl : len = 1 := okT_len ht rfl
    subst hl
    have hs2 : b1 1 0 (fun x => some (w32 x)) S 1 = some S' := hs
    exact st_b1 hs2 (fun x z r H locs ls hx1 hf => by cases hf; exact ⟨w32_in _, fun w => lv_l2i hx hb hd (v := Int32.ofInt (w32 x)) (i64_l2i x hx1) w⟩) hk
  | i2b =>
    have hl : len = 1 := okT_len ht rfl
    subst hl
    have hs2 : b1 0 0 (fun x => some (Int.bmod x 256)) S 1 = some S' := hs
    exact st_b1 hs2 (fun x z r H locs ls hx1 hf => by cases hf; exact ⟨bmod_in (b := 256) (by omega) (by omega), fun w => lv_i2b hx hb hd (v := Int32.ofInt (x.bmod 256)) (i32_i2b x hx1) w⟩) hk
  | i2s =>
    have hl : len = 1 := okT_len ht rfl
    subst hl
    have hs2 : b1 0 0 (fun x => some (Int.bmod x 65536)) S 1 = some S' := hs
    exact st_b1 hs2 (fun x z r H locs ls hx1 hf => by cases hf; exact ⟨bmod_in (b := 65536) (by omega) (by omega), fun w => lv_i2s hx hb hd (v := Int32.ofInt (x.bmod 65536)) (i32_i2s x hx1) w⟩) hk
  | ineg =>
    have hl : len = 1 := okT_len ht rfl
    subst hl
    have hs2 : b1 0 0 (fun x => some (w32 (-x))) S 1 = some S' := hs
    exact st_b1 hs2 (fun x z r H locs ls hx1 hf => by cases hf; exact ⟨w32_in _, fun w => lv_ineg hx hb hd (by rw [i32_neg]; exact w)⟩) hk
  | iload j =>
    have hl : len = 2 := okT_len ht rfl
    subst hl
    have hs2 : bld 0 j 2 S = some S' := hs
    exact st_ld hs2 (fun x r H locs ls hl w => lv_iload hx hb hd hl w) hk
  | iload_n j =>
    have hl : len = 1 := okT_len ht rfl
    subst hl
    have hs2 : bld 0 j 1 S = some S' := hs
    exact st_ld hs2 (fun x r H locs ls hl w => lv_iload_n hx hb hd rfl hl w) hk
  | lload j =>
    have hl : len = 2 := okT_len ht rfl
    subst hl
    have hs2 : bld 1 j 2 S = some S' := hs
    exact st_ld hs2 (fun x r H locs ls hl w => lv_lload hx hb hd hl w) hk
  | lload_n j =>
    have hl : len = 1 := okT_len ht rfl
    subst hl
    have hs2 : bld 1 j 1 S = some S' := hs
    exact st_ld hs2 (fun x r H locs ls hl w => lv_lload_n hx hb hd rfl hl w) hk
  | aload j =>
    have hl : len = 2 := okT_len ht rfl
    subst hl
    have hs2 : bld 2 j 2 S = some S' := hs
    refine st_ld hs2 (fun x r H locs ls hl w => ?_) hk
    by_cases h0 : x < 0
    · rw [show cvk g 2 x = Value.null from cv_2n g h0] at hl w; exact lv_aloadN hx hb hd hl w
    · rw [show cvk g 2 x = Value.ref (ad g x.toNat) from cv_2 g (by omega)] at hl w; exact lv_aload hx hb hd hl w
  | aload_n j =>
    have hl : len = 1 := okT_len ht rfl
    subst hl
    have hs2 : bld 2 j 1 S = some S' := hs
    refine st_ld hs2 (fun x r H locs ls hl w => ?_) hk
    by_cases h0 : x < 0
    · rw [show cvk g 2 x = Value.null from cv_2n g h0] at hl w; exact lv_aload_nN hx hb hd rfl hl w
    · rw [show cvk g 2 x = Value.ref (ad g x.toNat) from cv_2 g (by omega)] at hl w; exact lv_aload_n hx hb hd rfl hl w
  | istore j =>
    have hl : len = 2 := okT_len ht rfl
    subst hl
    have hs2 : bst 0 j 2 (mml k) S = some S' := hs
    exact st_st rfl hs2 (fun x r H locs ls lv h1 h2 h3 hw => lv_istore hx hb hd h2 (lt_of_st h3) rfl (fun ls' hl' => hw ls' _ hl' List.mem_cons_self (fun q hq hc => keep_i hq hc))) hk
  | istore_n j =>
    have hl : len = 1 := okT_len ht rfl
    subst hl
    have hs2 : bst 0 j 1 (mml k) S = some S' := hs
    exact st_st rfl hs2 (fun x r H locs ls lv h1 h2 h3 hw => lv_istore_n hx hb hd rfl h2 (lt_of_st h3) rfl (fun ls' hl' => hw ls' _ hl' List.mem_cons_self (fun q hq hc => keep_i hq hc))) hk
  | lstore j =>
    have hl : len = 2 := okT_len ht rfl
    subst hl
    have hs2 : bst 1 j 2 (mml k) S = some S' := hs
    exact st_st rfl hs2 (fun x r H locs ls lv h1 h2 h3 hw => lv_lstore hx hb hd h2 (by simpa using h3) rfl (fun ls' hl' => hw ls' _ hl' List.mem_cons_self (fun q hq hc => keep_l hq hc))) hk
  | lstore_n j =>
    have hl : len = 1 := okT_len ht rfl
    subst hl
    have hs2 : bst 1 j 1 (mml k) S = some S' := hs
    exact st_st rfl hs2 (fun x r H locs ls lv h1 h2 h3 hw => lv_lstore_n hx hb hd rfl h2 (by simpa using h3) rfl (fun ls' hl' => hw ls' _ hl' List.mem_cons_self (fun q hq hc => keep_l hq hc))) hk
  | astore j =>
    have hl : len = 2 := okT_len ht rfl
    subst hl
    have hs2 : bst 2 j 2 (mml k) S = some S' := hs
    refine st_st rfl hs2 (fun x r H locs ls lv h1 h2 h3 hw => ?_) hk
    by_cases h0 : x < 0
    · rw [show cvk g 2 x = Value.null from cv_2n g h0] at hw ⊢; exact lv_astoreN hx hb hd h2 (lt_of_st h3) rfl (fun ls' hl' => hw ls' _ hl' List.mem_cons_self (fun q hq hc => keep_a hq hc))
    · rw [show cvk g 2 x = Value.ref (ad g x.toNat) from cv_2 g (by omega)] at hw ⊢; exact lv_astore hx hb hd h2 (lt_of_st h3) rfl (fun ls' hl' => hw ls' _ hl' List.mem_cons_self (fun q hq hc => keep_a hq hc))
  | astore_n j =>
    have hl : len = 1 := okT_len ht rfl
    subst hl
    have hs2 : bst 2 j 1 (mml k) S = some S' := hs
    refine st_st rfl hs2 (fun x r H locs ls lv h1 h2 h3 hw => ?_) hk
    by_cases h0 : x < 0
    · rw [show cvk g 2 x = Value.null from cv_2n g h0] at hw ⊢; exact lv_astore_nN hx hb hd rfl h2 (lt_of_st h3) rfl (fun ls' hl' => hw ls' _ hl' List.mem_cons_self (fun q hq hc => keep_a hq hc))
    · rw [show cvk g 2 x = Value.ref (ad g x.toNat) from cv_2 g (by omega)] at hw ⊢; exact lv_astore_n hx hb hd rfl h2 (lt_of_st h3) rfl (fun ls' hl' => hw ls' _ hl' List.mem_cons_self (fun q hq hc => keep_a hq hc))
  | iinc j cn =>
    have hl : len = 3 := okT_len ht rfl
    subst hl
    exact st_inc hx hb hd hs hk
  | ifCond co off =>
    have hl : len = 3 := okT_len ht rfl
    subst hl
    exact st_if hx hb hd hs hk
  | if_icmp co off =>
    have hl : len = 3 := okT_len ht rfl
    subst hl
    exact st_icmp hx hb hd hs hk
  | goto off =>
    have hl : len = 3 := okT_len ht rfl
    subst hl
    exact st_goto hx hb hd hs hk
  | ifnull off =>
    have hl : len = 3 := okT_len ht rfl
    subst hl
    exact st_null (z := true) hx hb hd hs hk
  | ifnonnull off =>
    have hl : len = 3 := okT_len ht rfl
    subst hl
    exact st_null (z := false) hx hb hd hs hk
  | tableswitch df lo hi offs =>
    exact st_tab hx hb hd hs hk
  | lookupswitch df ps =>
    exact st_lkp hx hb hd hs hk
  | getfield ix =>
    have hl : len = 3 := okT_len ht rfl
    subst hl
    exact st_get C hd ht hs hk
  | putfield ix =>
    have hl : len = 3 := okT_len ht rfl
    subst hl
    exact st_put C hd ht hs hk
  | iaload =>
    have hl : len = 1 := okT_len ht rfl
    subst hl
    exact st_iald rfl C hd hs hk
  | laload =>
    have hl : len = 1 := okT_len ht rfl
    subst hl
    exact st_lald C hd hs hk
  | aaload =>
    have hl : len = 1 := okT_len ht rfl
    subst hl
    have hs2 : (if aux = 0 then baload 2 2 S else baload 3 2 S) = some S' := hs
    refine st_aald (z := decide (aux = 0)) C hd ?_ hk
    by_cases h0 : aux = 0 <;> simp [h0] at hs2 ⊢ <;> exact hs2
  | iastore =>
    have hl : len = 1 := okT_len ht rfl
    subst hl
    exact st_iast C hd hs hk
  | lastore =>
    have hl : len = 1 := okT_len ht rfl
    subst hl
    exact st_last C hd hs hk
  | arraylength =>
    have hl : len = 1 := okT_len ht rfl
    subst hl
    exact st_len rfl C hd hs hk
  | iconst cn =>
    have hl : len = 1 := okT_len ht rfl
    subst hl
    cases hs
    intro H locs ls q
    have w := hk H locs ls (q.stk (okc (w32_in _) q.2.2.2.1))
    exact lv_iconst hx hb hd (i32_w cn).symm w
  | bipush cn =>
    have hl : len = 2 := okT_len ht rfl
    subst hl
    cases hs
    intro H locs ls q
    have w := hk H locs ls (q.stk (okc (bmod_in (b := 256) (by omega) (by omega)) q.2.2.2.1))
    exact lv_bipush hx hb hd (i8_c cn) w
  | sipush cn =>
    have hl : len = 3 := okT_len ht rfl
    subst hl
    cases hs
    intro H locs ls q
    have w := hk H locs ls (q.stk (okc (bmod_in (b := 65536) (by omega) (by omega)) q.2.2.2.1))
    exact lv_sipush hx hb hd (i16_c cn) w
  | lconst cn =>
    have hl : len = 1 := okT_len ht rfl
    subst hl
    cases hs
    intro H locs ls q
    have w := hk H locs ls (q.stk (okc (by show in64 _; unfold in64; omega) q.2.2.2.1))
    exact lv_lconst hx hb hd (v := Int64.ofInt ((cn : Nat) : Int)) rfl w
  | aconst_null =>
    have hl : len = 1 := okT_len ht rfl
    subst hl
    cases hs
    intro H locs ls q
    have w := hk H locs ls (q.stk (okc (by show (-1 : Int) ≤ -1; omega) q.2.2.2.1))
    exact lv_null hx hb hd w
  | ldc_w ix =>
    have hl : len = 3 := okT_len ht rfl
    subst hl
    cases hs
    intro H locs ls q
    have w := hk H locs ls (q.stk (okc (w32_in _) q.2.2.2.1))
    have hc : (Cond.constant (mown k) ix (Int32.ofInt (kI.getD aux 0))).before args s = true := by
      unfold okT at ht; rw [Bool.and_eq_true] at ht; exact hts _ (wd_in ht.2)
    rw [← i32_w] at hc
    exact lv_ldcw hx hb hown hc hd w
  | ldc2_w ix =>
    have hl : len = 3 := okT_len ht rfl
    subst hl
    cases hs
    intro H locs ls q
    have w := hk H locs ls (q.stk (okc (w64_in _) q.2.2.2.1))
    have hc : (Cond.constantLong (mown k) ix (Int64.ofInt (kI.getD aux 0))).before args s = true := by
      unfold okT at ht; rw [Bool.and_eq_true] at ht; exact hts _ (wd_in ht.2)
    rw [← i64_w] at hc
    exact lv_ldc2 hx hb hown hc hd w
  | ldc ix =>
    have hl : len = 2 := okT_len ht rfl
    subst hl
    unfold okT at ht
    rw [Bool.and_eq_true] at ht
    replace ht := ht.2
    dsimp only [cst] at hs ht
    by_cases ha : aux < 1000
    · rw [if_pos ha] at hs ht
      cases hs
      intro H locs ls q
      have w := hk H locs ls (q.stk (okc (w32_in _) q.2.2.2.1))
      have hc : (Cond.constant (mown k) ix (Int32.ofInt (kI.getD aux 0))).before args s = true := hts _ (wd_in ht)
      rw [← i32_w] at hc
      exact lv_ldc hx hb hown hc hd w
    · rw [if_neg ha] at hs ht
      cases hs
      cases hq : kStr[aux - 1000]? with
      | none => rw [hq] at ht; cases ht
      | some z =>
        rw [hq] at ht
        dsimp only at ht
        rw [Bool.and_eq_true, beq_iff_eq, beq_iff_eq] at ht
        obtain ⟨rfl, hT⟩ := ht
        replace hown : s.vm.findClass (mown k) = some m.cls := hown
        rw [hT] at hown
        have hR := hK.2.2.2.1 _ _ hq
        have h20 : aux - 1000 < 20 := (List.getElem?_eq_some_iff.mp hq).1
        intro H locs ls q
        have w := hk H locs ls (q.stk (okc (v := (2, (aux : Int) - 488)) (by show (-1 : Int) ≤ _; omega) q.2.2.2.1))
        refine va_ldcS hx hb hown hR hd ?_
        have e1 : cv g (2, (aux : Int) - 488) = .ref (gK g (aux - 1000)) := by
          rw [cv_2 g (by omega)]
          unfold ad
          rw [if_neg (by omega), if_pos (by omega)]
          rw [show ((aux : Int) - 488).toNat - 512 = aux - 1000 by omega]
        dsimp only [List.map_cons] at w
        rw [← e1]
        exact w
  | pop =>
    have hl : len = 1 := okT_len ht rfl
    subst hl
    intro H locs ls q
    obtain ⟨pc, lv, st, n, hh⟩ := S
    rcases st with _ | ⟨v, r⟩
    · cases hs
    have hs2 : (if v.1 = 1 then none else some (pc + 1, lv, r, n, hh)) = some S' := hs
    by_cases h1 : v.1 = 1
    · rw [if_pos h1] at hs2; cases hs2
    · rw [if_neg h1] at hs2; cases hs2
      exact lv_pop hx hb hd (by rw [cv_cat, if_neg h1]) (hk H locs ls (q.stk (okr q.2.2.2.1)))
  | dup =>
    have hl : len = 1 := okT_len ht rfl
    subst hl
    intro H locs ls q
    obtain ⟨pc, lv, st, n, hh⟩ := S
    rcases st with _ | ⟨v, r⟩
    · cases hs
    have hs2 : (if v.1 = 1 then none else some (pc + 1, lv, v :: v :: r, n, hh)) = some S' := hs
    by_cases h1 : v.1 = 1
    · rw [if_pos h1] at hs2; cases hs2
    · rw [if_neg h1] at hs2; cases hs2
      exact lv_dup hx hb hd (by rw [cv_cat, if_neg h1]) (hk H locs ls (q.stk (okc (ok1 q.2.2.2.1) q.2.2.2.1)))
  | dup_x1 =>
    have hl : len = 1 := okT_len ht rfl
    subst hl
    intro H locs ls q
    obtain ⟨pc, lv, st, n, hh⟩ := S
    rcases st with _ | ⟨v, _ | ⟨w, r⟩⟩
    · cases hs
    · cases hs
    have hs2 : (if v.1 = 1 ∨ w.1 = 1 then none else some (pc + 1, lv, v :: w :: v :: r, n, hh)) = some S' := hs
    by_cases h1 : v.1 = 1 ∨ w.1 = 1
    · rw [if_pos h1] at hs2; cases hs2
    · rw [if_neg h1] at hs2; cases hs2
      exact lv_dup_x1 hx hb hd (by rw [cv_cat, if_neg (fun h => h1 (Or.inl h))]) (by rw [cv_cat, if_neg (fun h => h1 (Or.inr h))]) (hk H locs ls (q.stk (okc (ok1 q.2.2.2.1) (okc (ok1 (okr q.2.2.2.1)) (okc (ok1 q.2.2.2.1) (okr (okr q.2.2.2.1)))))))
  | dup2 =>
    have hl : len = 1 := okT_len ht rfl
    subst hl
    intro H locs ls q
    obtain ⟨pc, lv, st, n, hh⟩ := S
    rcases st with _ | ⟨v, _ | ⟨w, r⟩⟩
    · cases hs
    · cases hs
    have hs2 : (if v.1 = 1 ∨ w.1 = 1 then none else some (pc + 1, lv, v :: w :: v :: w :: r, n, hh)) = some S' := hs
    by_cases h1 : v.1 = 1 ∨ w.1 = 1
    · rw [if_pos h1] at hs2; cases hs2
    · rw [if_neg h1] at hs2; cases hs2
      exact lv_dup2_11 hx hb hd (by rw [cv_cat, if_neg (fun h => h1 (Or.inl h))]) (by rw [cv_cat, if_neg (fun h => h1 (Or.inr h))]) (hk H locs ls (q.stk (okc (ok1 q.2.2.2.1) (okc (ok1 (okr q.2.2.2.1)) q.2.2.2.1))))
  | dup_x2 =>
    have hl : len = 1 := okT_len ht rfl
    subst hl
    intro H locs ls q
    obtain ⟨pc, lv, st, n, hh⟩ := S
    rcases st with _ | ⟨v, _ | ⟨w, _ | ⟨z, r⟩⟩⟩
    · cases hs
    · cases hs
    · cases hs
    have hs2 : (if v.1 = 1 ∨ w.1 = 1 ∨ z.1 = 1 then none else some (pc + 1, lv, v :: w :: z :: v :: r, n, hh)) = some S' := hs
    by_cases h1 : v.1 = 1 ∨ w.1 = 1 ∨ z.1 = 1
    · rw [if_pos h1] at hs2; cases hs2
    · rw [if_neg h1] at hs2; cases hs2
      exact lv_dup_x2 hx hb hd (by rw [cv_cat, if_neg (fun h => h1 (Or.inl h))]) (by rw [cv_cat, if_neg (fun h => h1 (Or.inr (Or.inl h)))]) (by rw [cv_cat, if_neg (fun h => h1 (Or.inr (Or.inr h)))]) (hk H locs ls (q.stk (okc (ok1 q.2.2.2.1) (okc (ok1 (okr q.2.2.2.1)) (okc (ok1 (okr (okr q.2.2.2.1))) (okc (ok1 q.2.2.2.1) (okr (okr (okr q.2.2.2.1)))))))))
  | _ => cases hs
end ST6
