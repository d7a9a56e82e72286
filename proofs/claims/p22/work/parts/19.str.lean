/-! TEXTS: String.length and charAt on the class's constants -/
section SS
variable {g : bG} {l : Launch} {d k n0 n1 : Nat} {Q : bQ}
theorem wp_at {t : Tok} {r : List Tok} {S S' : bS} (ho : okL k 0 (tk k) = true) (hf : tkF S.1 0 (tk k) = some (t :: r)) (hs : cst (gsc g) k t S = some S') (hn : S'.2.2.2.1 = S.2.2.2.1) (hk : WP g l d k n0 n1 Q S') : WP g l d k n0 n1 Q S := by
  have h := okL_c (tkF_ok ho hf)
  exact wp_step h.1 h.2.1 hs hn hk
/-- a text's number of letters, and its letters -/
def slen (i : Nat) : Nat := kSlen.getD i 0
def schr (i j : Nat) : Int := ((kSbyt.getD i []).getD j 0).toInt
theorem slen_ok : ∀ i, i < 20 → slen i < 20 := by decide +kernel
theorem schr_ok : ∀ i, i < 20 → ∀ j, j < slen i → 0 ≤ schr i j ∧ schr i j < 128 ∧ andI (schr i j) 255 = schr i j := by decide +kernel
theorem ad_k {i : Nat} (h : i < 20) : cv g (2, ((512 + i : Nat) : Int)) = .ref (gK g i) := by
  rw [cv_2 g (by omega)]
  unfold ad
  rw [Int.toNat_natCast, if_neg (by omega), if_pos (by omega), Nat.add_sub_cancel_left]
theorem ad_v {i : Nat} (h : i < 20) : cv g (2, ((800 + i : Nat) : Int)) = .ref (gV g i) := by
  rw [cv_2 g (by omega)]
  unfold ad
  rw [Int.toNat_natCast, if_neg (by omega), if_neg (by omega), if_neg (by omega), if_pos (by omega), Nat.add_sub_cancel_left]
theorem ad_f : cv g (2, 701) = .ref (gF g) := by
  rw [cv_2 g (by omega)]
  unfold ad
  rw [show (701 : Int).toNat = 701 from rfl, if_neg (by omega), if_neg (by omega), if_pos rfl]
theorem kept_of {H : Heap} {n : Nat} {h : bH} (q : HR g n h H) : ∀ a : Nat, a < g.1.size → ¬ (gsz g ≤ a) → H[a]? = g.1[a]? := fun a ha _ => q.2.2.1 a ha
theorem wp_gcod {ix widx pc n i : Nat} {lv : bL} {r : List bV} {h : bH} (hd : decode (mcode k) pc = .ok (.getfield ix, 3)) (ht : okW widx (.fieldLink (mown k) ix "java/lang/String" "coder" "B") = true) (hi : i < 20) (hk : WP g l d k n0 n1 Q (pc + 3, lv, (0, 0) :: r, n, h)) : WP g l d k n0 n1 Q (pc, lv, (2, ((512 + i : Nat) : Int)) :: r, n, h) := by
  intro p e R s m args below meth c Z E H locs ls q h0 h1
  obtain ⟨hx, hb, hml, hret, hlk, hown, hts, hin, hK⟩ := id E.1
  dsimp only at q h0 h1 ⊢
  rw [List.map_cons, ad_k hi]
  obtain ⟨cf, k9, fi, f, cell, z1, z2, z3, z4, z5, z6⟩ := (hK.2.2.2.2.1.1 i hi).2.1.kept (kept_of q.1)
  refine W.getf hx hb hown (hts _ (okW_in ht)) z1 z2 z3 z4 (v := .int 0) z5 rfl rfl hd ?_
  exact hk p e R s m args below meth c Z E H locs ls (q.stk (okc (by show in32 0; unfold in32; omega) (okr q.2.2.2.1))) h0 h1
theorem wp_gval {ix widx pc n i : Nat} {lv : bL} {r : List bV} {h : bH} (hd : decode (mcode k) pc = .ok (.getfield ix, 3)) (ht : okW widx (.fieldLink (mown k) ix "java/lang/String" "value" "[B") = true) (hi : i < 20) (hk : WP g l d k n0 n1 Q (pc + 3, lv, (2, ((800 + i : Nat) : Int)) :: r, n, h)) : WP g l d k n0 n1 Q (pc, lv, (2, ((512 + i : Nat) : Int)) :: r, n, h) := by
  intro p e R s m args below meth c Z E H locs ls q h0 h1
  obtain ⟨hx, hb, hml, hret, hlk, hown, hts, hin, hK⟩ := id E.1
  dsimp only at q h0 h1 ⊢
  rw [List.map_cons, ad_k hi]
  obtain ⟨cf, k9, fi, f, cell, z1, z2, z3, z4, z5, z6⟩ := (hK.2.2.2.2.1.1 i hi).2.2.1.kept (kept_of q.1)
  refine W.getf hx hb hown (hts _ (okW_in ht)) z1 z2 z3 z4 (v := .ref (gV g i)) z5 rfl rfl hd ?_
  have w := hk p e R s m args below meth c Z E H locs ls (q.stk (okc (by show (-1 : Int) ≤ ((800 + i : Nat) : Int); omega) (okr q.2.2.2.1))) h0 h1
  dsimp only at w
  rw [List.map_cons, ad_v hi] at w
  exact w
theorem wp_comp {ix widx pc n : Nat} {lv : bL} {r : List bV} {h : bH} (hd : decode (mcode k) pc = .ok (.getstatic ix, 3)) (ht : okW widx (.fieldLink (mown k) ix "java/lang/String" "COMPACT_STRINGS" "Z") = true) (hk : WP g l d k n0 n1 Q (pc + 3, lv, (0, 1) :: r, n, h)) : WP g l d k n0 n1 Q (pc, lv, r, n, h) := by
  intro p e R s m args below meth c Z E H locs ls q h0 h1
  obtain ⟨hx, hb, hml, hret, hlk, hown, hts, hin, hK⟩ := id E.1
  dsimp only at q h0 h1 ⊢
  obtain ⟨cf, kf, fi, f, a, cell, z1, z2, z3, z4, z5, z6, z7, z8⟩ := hK.2.2.2.2.2.1.kept (kept_of q.1)
  refine W.gets hx hb hown (hts _ (okW_in ht)) z1 z2 z3 z4 z5 (fun e => by rw [e] at z6; cases z6) z7 rfl hd ?_
  exact hk p e R s m args below meth c Z E H locs ls (q.stk (okc (by show in32 1; unfold in32; omega) q.2.2.2.1)) h0 h1
theorem wp_form {ix widx pc n : Nat} {lv : bL} {r : List bV} {h : bH} (hd : decode (mcode k) pc = .ok (.getstatic ix, 3)) (ht : okW widx (.fieldLink (mown k) ix "jdk/internal/util/Preconditions" "SIOOBE_FORMATTER" "Ljava/util/function/BiFunction;") = true) (hk : ∀ f : Int, WP g l d k n0 n1 Q (pc + 3, lv, (2, f) :: r, n, h)) : WP g l d k n0 n1 Q (pc, lv, r, n, h) := by
  intro p e R s m args below meth c Z E H locs ls q h0 h1
  obtain ⟨hx, hb, hml, hret, hlk, hown, hts, hin, hK⟩ := id E.1
  dsimp only at q h0 h1 ⊢
  rcases hK.2.2.2.2.2.2.1 with hz | hz
  · obtain ⟨cf, kf, fi, f, a, cell, z1, z2, z3, z4, z5, z6, z7, z8⟩ := hz.kept (kept_of q.1)
    refine W.gets hx hb hown (hts _ (okW_in ht)) z1 z2 z3 z4 z5 (fun e => by rw [e] at z6; cases z6) z7 rfl hd ?_
    exact hk (-1) p e R s m args below meth c Z E H locs ls (q.stk (okc (by show (-1 : Int) ≤ -1; omega) q.2.2.2.1)) h0 h1
  · obtain ⟨cf, kf, fi, f, a, cell, z1, z2, z3, z4, z5, z6, z7, z8⟩ := hz.kept (kept_of q.1)
    refine W.gets hx hb hown (hts _ (okW_in ht)) z1 z2 z3 z4 z5 (fun e => by rw [e] at z6; cases z6) z7 rfl hd ?_
    have w := hk 701 p e R s m args below meth c Z E H locs ls (q.stk (okc (by show (-1 : Int) ≤ 701; omega) q.2.2.2.1)) h0 h1
    dsimp only at w
    rw [List.map_cons, ad_f] at w
    exact w
theorem slen_eq (i : Nat) : kSlen.getD i 0 = slen i := rfl
theorem wp_blen {pc n i : Nat} {lv : bL} {r : List bV} {h : bH} (hd : decode (mcode k) pc = .ok (.arraylength, 1)) (hi : i < 20) (hk : WP g l d k n0 n1 Q (pc + 1, lv, (0, (slen i : Int)) :: r, n, h)) : WP g l d k n0 n1 Q (pc, lv, (2, ((800 + i : Nat) : Int)) :: r, n, h) := by
  intro p e R s m args below meth c Z E H locs ls q h0 h1
  obtain ⟨hx, hb, hml, hret, hlk, hown, hts, hin, hK⟩ := id E.1
  dsimp only at q h0 h1 ⊢
  rw [List.map_cons, ad_v hi]
  obtain ⟨cell, z1, z2, z3, z4, z5, z6, z7⟩ := (hK.2.2.2.2.1.1 i hi).2.2.2.kept (kept_of q.1)
  have hsl := slen_ok i hi
  refine W.alen (n := Int32.ofInt (slen i : Int)) hx hb z1 z2 (z5.trans (by rw [slen_eq]; exact (Int32.ofInt_eq_ofNat).symm)) rfl rfl hd ?_
  exact hk p e R s m args below meth c Z E H locs ls (q.stk (okc (by show in32 _; unfold in32; omega) (okr q.2.2.2.1))) h0 h1
theorem wp_bald {pc n i : Nat} {j : Int} {lv : bL} {r : List bV} {h : bH} (hd : decode (mcode k) pc = .ok (.baload, 1)) (hi : i < 20) (hj : 0 ≤ j ∧ j.toNat < slen i) (hk : WP g l d k n0 n1 Q (pc + 1, lv, (0, schr i j.toNat) :: r, n, h)) : WP g l d k n0 n1 Q (pc, lv, (0, j) :: (2, ((800 + i : Nat) : Int)) :: r, n, h) := by
  intro p e R s m args below meth c Z E H locs ls q h0 h1
  obtain ⟨hx, hb, hml, hret, hlk, hown, hts, hin, hK⟩ := id E.1
  dsimp only at q h0 h1 ⊢
  rw [List.map_cons, List.map_cons, ad_v hi]
  obtain ⟨cell, z1, z2, z3, z4, z5, z6, z7⟩ := (hK.2.2.2.2.1.1 i hi).2.2.2.kept (kept_of q.1)
  have hij : in32 j := ok1 q.2.2.2.1
  have hv := z6 j.toNat hj.2
  show W p l e R s m args below meth c H locs _ _ Z (F0 m pc ls (.int (Int32.ofInt j) :: .ref (gV g i) :: r.map (cv g)))
  refine W.bald (v := .int (Int32.ofInt (schr i j.toNat))) hx hb z1 z2 z3 (i32_ix hij hj.1 (Nat.lt_of_lt_of_le hj.2 z4)) (by rw [i32_cl hij, hv]; unfold schr; rw [i32_of]) rfl rfl hd ?_
  have hs := schr_ok i hi _ hj.2
  exact hk p e R s m args below meth c Z E H locs ls (q.stk (okc (by show in32 _; unfold in32; omega) (okr (okr q.2.2.2.1)))) h0 h1
theorem wp_i2c {pc n : Nat} {x : Int} {lv : bL} {r : List bV} {h : bH} (hd : decode (mcode k) pc = .ok (.i2c, 1)) (hx0 : 0 ≤ x ∧ x < 128) (hk : WP g l d k n0 n1 Q (pc + 1, lv, (0, x) :: r, n, h)) : WP g l d k n0 n1 Q (pc, lv, (0, x) :: r, n, h) := by
  intro p e R s m args below meth c Z E H locs ls q h0 h1
  obtain ⟨hx, hb, hml, hret, hlk, hown, hts, hin, hK⟩ := id E.1
  dsimp only at q h0 h1 ⊢
  have key : ∀ y : Nat, y < 128 → ((Int32.ofInt (y : Int)).toUInt32 % 65536).toInt32 = Int32.ofInt (y : Int) := by decide +kernel
  have e1 : ((Int32.ofInt x).toUInt32 % 65536).toInt32 = Int32.ofInt x := by
    have := key x.toNat (by omega)
    rw [Int.toNat_of_nonneg hx0.1] at this
    exact this
  exact lv_i2c hx hb hd e1 (hk p e R s m args below meth c Z E H locs ls q h0 h1)
end SS
