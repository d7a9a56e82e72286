section ST4
variable {g : bG} {l : Launch} {d k n0 n1 : Nat} {Q : bQ} {p : Program} {e : Env} {R : Room} {s : State} {m : MethodId} {args : Array Value} {below : List Frame} {meth : Method} {c : Code} {Z : State → Prop}
theorem barr_sz {kd n : Nat} {a i : Int} {H : Heap} {h : bH} (q : HR g n h H) (hb : barr kd n a i = true) (h4 : kd < 4) : cv g (2, a) = .ref (gsz g + a.toNat) ∧ H[gsz g + a.toNat]? = some (arrV (gA g kd) (sh a.toNat).2 (fun j => cvk g (if kd = 0 then 0 else if kd = 1 then 1 else 2) (h a.toNat j))) ∧ okk (if kd = 0 then 0 else if kd = 1 then 1 else 2) (h a.toNat i.toNat) := by
  obtain ⟨h1, h2, h3, h5, h6⟩ := barr_x hb
  have hn : n ≤ 212 := q.2.1
  refine ⟨by rw [cv_2 g h1, ad_lo g (by omega)], ?_, ?_⟩
  · have := q.arr h2 h3 (by omega)
    rw [this]
    refine congrArg some (congrArg (arrV (gA g kd) (sh a.toNat).2) (funext fun j => ?_))
    rw [lk_arr h3 h4]
  · have := (q.2.2.2 _ h2).2 _ h6
    rw [lk_arr h3 h4] at this
    exact this
theorem st_iald {sc : bC} (hsc : sc = gsc g) {S S' : bS} (C : Cx g k p s m args meth c) (hd : decode (mcode k) S.1 = .ok (.iaload, 1)) (h : biald sc S = some S') (hk : Wg g l k n0 p e R s m args below meth c Z S') : Wg g l k n0 p e R s m args below meth c Z S := by
  intro H locs ls q
  obtain ⟨hx, hb, hml, hret, hlk, hown, hts, hin, hK⟩ := C
  obtain ⟨pc, lv, st, n, hh⟩ := S
  rcases st with _ | ⟨⟨v, i⟩, _ | ⟨⟨u, a⟩, r⟩⟩
  · cases h
  · cases h
  simp only [biald] at h
  by_cases hc : v = 0 ∧ u = 2 ∧ a = 700 ∧ 0 ≤ i ∧ i.toNat < sc.1
  · rw [if_pos hc] at h
    cases h
    obtain ⟨rfl, rfl, rfl, hi0, hiL⟩ := hc
    subst hsc
    have hii : in32 i := ok1 q.2.2.2.1
    obtain ⟨-, -, -, -, -, -, -, hX, hbl, hL⟩ := hK
    obtain ⟨scr, x1, x2, x3, x4, x5⟩ := hX.kept (H1 := H) (q.1.2.2.1 _ hbl)
    show W p l e R s m args below meth c H locs _ _ Z (F0 m pc ls (.int (Int32.ofInt i) :: .ref (gb g) :: r.map (cv g)))
    refine W.iald (v := .int ((gsc g).2 i.toNat)) hx hb x1 x2 x3 (by rw [x4]; exact i32_ix hii hi0 hiL) (by rw [i32_cl hii]; exact x5 _ hiL) rfl rfl hd ?_
    have zz : W p l e R s m args below meth c H locs (n - n0) (slN n - slN n0) Z (F0 m (pc + 1) ls (.int (Int32.ofInt ((gsc g).2 i.toNat).toInt) :: r.map (cv g))) := hk H locs ls (q.stk (okc (i32_in _) (okr (okr q.2.2.2.1))))
    rw [i32_of] at zz
    exact zz
  · rw [if_neg hc] at h
    obtain ⟨i2, a2, r2, e1, hbr, rfl⟩ := baload_x h
    cases e1
    have hii : in32 i := ok1 q.2.2.2.1
    obtain ⟨e1, e2, e3⟩ := barr_sz q.1 hbr (by omega)
    obtain ⟨-, -, -, hi0, hiL⟩ := barr_x hbr
    show W p l e R s m args below meth c H locs _ _ Z (F0 m pc ls (.int (Int32.ofInt i) :: cv g (2, a) :: r.map (cv g)))
    rw [e1]
    refine W.iald (v := cvk g 0 (hh a.toNat i.toNat)) hx hb e2 (hK.2.1.1.1 _ _) (fun h => by cases h) (by rw [arrV_size]; exact i32_ix hii hi0 hiL) (by rw [i32_cl hii, arrV_read _ _ hiL]; rfl) rfl rfl hd ?_
    exact hk H locs ls (q.stk (okc e3 (okr (okr q.2.2.2.1))))
theorem st_lald {S S' : bS} (C : Cx g k p s m args meth c) (hd : decode (mcode k) S.1 = .ok (.laload, 1)) (h : baload 1 1 S = some S') (hk : Wg g l k n0 p e R s m args below meth c Z S') : Wg g l k n0 p e R s m args below meth c Z S := by
  intro H locs ls q
  obtain ⟨hx, hb, hml, hret, hlk, hown, hts, hin, hK⟩ := C
  obtain ⟨pc, lv, st, n, hh⟩ := S
  obtain ⟨i, a, r, rfl, hbr, rfl⟩ := baload_x h
  have hii : in32 i := ok1 q.2.2.2.1
  obtain ⟨e1, e2, e3⟩ := barr_sz q.1 hbr (by omega)
  obtain ⟨-, -, -, hi0, hiL⟩ := barr_x hbr
  show W p l e R s m args below meth c H locs _ _ Z (F0 m pc ls (.int (Int32.ofInt i) :: cv g (2, a) :: r.map (cv g)))
  rw [e1]
  refine W.lald (v := cvk g 1 (hh a.toNat i.toNat)) hx hb e2 (hK.2.1.2.1.1 _ _) (fun h => by cases h) (by rw [arrV_size]; exact i32_ix hii hi0 hiL) (by rw [i32_cl hii, arrV_read _ _ hiL]; rfl) rfl rfl hd ?_
  exact hk H locs ls (q.stk (okc e3 (okr (okr q.2.2.2.1))))
theorem st_aald {z : Bool} {S S' : bS} (C : Cx g k p s m args meth c) (hd : decode (mcode k) S.1 = .ok (.aaload, 1)) (h : (if z = true then baload 2 2 S else baload 3 2 S) = some S') (hk : Wg g l k n0 p e R s m args below meth c Z S') : Wg g l k n0 p e R s m args below meth c Z S := by
  intro H locs ls q
  obtain ⟨hx, hb, hml, hret, hlk, hown, hts, hin, hK⟩ := C
  obtain ⟨pc, lv, st, n, hh⟩ := S
  have hg : ∀ (kd : Nat) (ty : FieldType), 2 ≤ kd → kd < 4 → ArrOfT s (gA g kd) ty → ty.isReference = true → baload kd 2 (pc, lv, st, n, hh) = some S' → W p l e R s m args below meth c H locs (n - n0) (slN n - slN n0) Z (F0 m pc ls (st.map (cv g))) := by
    intro kd ty hk2 hk4 hA hty h
    obtain ⟨i, a, r, rfl, hbr, rfl⟩ := baload_x h
    have hii : in32 i := ok1 q.2.2.2.1
    obtain ⟨e1, e2, e3⟩ := barr_sz q.1 hbr hk4
    obtain ⟨-, -, -, hi0, hiL⟩ := barr_x hbr
    have e0 : (if kd = 0 then 0 else if kd = 1 then 1 else 2) = 2 := by
      rw [if_neg (by omega), if_neg (by omega)]
    rw [e0] at e2 e3
    show W p l e R s m args below meth c H locs _ _ Z (F0 m pc ls (.int (Int32.ofInt i) :: cv g (2, a) :: r.map (cv g)))
    rw [e1]
    refine W.aald (v := cvk g 2 (hh a.toNat i.toNat)) hx hb e2 (hA _ _) hty (fun h => by cases h) (by rw [arrV_size]; exact i32_ix hii hi0 hiL) (by rw [i32_cl hii, arrV_read _ _ hiL]) rfl rfl hd ?_
    exact hk H locs ls (q.stk (okc e3 (okr (okr q.2.2.2.1))))
  cases z
  · exact hg 3 _ (by omega) (by omega) hK.2.1.2.2.2.1 rfl (by simpa using h)
  · exact hg 2 _ (by omega) (by omega) hK.2.1.2.2.1.1 rfl (by simpa using h)
theorem HR.seta {n : Nat} {h : bH} {H H1 : Heap} (q : HR g n h H) {kd : Nat} {a i : Int} {x : Int} {cell : Cell} (hb : barr kd n a i = true) (h4 : kd < 4) (hx : okk (if kd = 0 then 0 else if kd = 1 then 1 else 2) x) (h1 : H1[gsz g + a.toNat]? = some cell) (hc : cell = (arrV (gA g kd) (sh a.toNat).2 (fun j => cvk g (if kd = 0 then 0 else if kd = 1 then 1 else 2) (h a.toNat j))).setSlot i.toNat (cvk g (if kd = 0 then 0 else if kd = 1 then 1 else 2) x)) (h2 : H1.size = H.size) (h3 : ∀ q : Nat, q ≠ gsz g + a.toNat → H1[q]? = H[q]?) : HR g n (hup h a.toNat i.toNat x) H1 := by
  obtain ⟨b1, b2, b3, b5, b6⟩ := barr_x hb
  refine q.set b2 (fun _ => by rw [lk_arr b3 h4]; exact hx) ?_ h2 h3
  unfold cellR
  rw [if_pos (by omega), h1, b3, hc, arrV_store]
  refine congrArg some (congrArg (arrV (gA g kd) (sh a.toNat).2) (funext fun j => ?_))
  rw [lk_arr b3 h4, hup_at]
  unfold updV
  split
  · rfl
  · rfl
theorem st_iast {S S' : bS} (C : Cx g k p s m args meth c) (hd : decode (mcode k) S.1 = .ok (.iastore, 1)) (h : bastore 0 0 S = some S') (hk : Wg g l k n0 p e R s m args below meth c Z S') : Wg g l k n0 p e R s m args below meth c Z S := by
  intro H locs ls q
  obtain ⟨hx, hb, hml, hret, hlk, hown, hts, hin, hK⟩ := C
  obtain ⟨pc, lv, st, n, hh⟩ := S
  obtain ⟨x, i, a, r, rfl, hbr, rfl⟩ := bastore_x h
  have hxi : in32 x := ok1 q.2.2.2.1
  have hii : in32 i := ok1 (okr q.2.2.2.1)
  obtain ⟨e1, e2, e3⟩ := barr_sz q.1 hbr (by omega)
  obtain ⟨-, -, -, hi0, hiL⟩ := barr_x hbr
  show W p l e R s m args below meth c H locs _ _ Z (F0 m pc ls (.int (Int32.ofInt x) :: .int (Int32.ofInt i) :: cv g (2, a) :: r.map (cv g)))
  rw [e1]
  refine W.iast hx hb e2 (hK.2.1.1.1 _ _) (fun h => by cases h) (by rw [arrV_size]; exact i32_ix hii hi0 hiL) rfl rfl hd fun H' f1 f2 f3 => ?_
  rw [i32_cl hii] at f1 ⊢
  exact hk H' _ ls ⟨q.1.seta hbr (by omega) hxi f1 rfl f2 f3, q.2.1, q.2.2.1, okr (okr (okr q.2.2.2.1)), locs_app q.2.2.2.2 (Nat.le_add_right _ _)⟩
theorem st_last {S S' : bS} (C : Cx g k p s m args meth c) (hd : decode (mcode k) S.1 = .ok (.lastore, 1)) (h : bastore 1 1 S = some S') (hk : Wg g l k n0 p e R s m args below meth c Z S') : Wg g l k n0 p e R s m args below meth c Z S := by
  intro H locs ls q
  obtain ⟨hx, hb, hml, hret, hlk, hown, hts, hin, hK⟩ := C
  obtain ⟨pc, lv, st, n, hh⟩ := S
  obtain ⟨x, i, a, r, rfl, hbr, rfl⟩ := bastore_x h
  have hxi : in64 x := ok1 q.2.2.2.1
  have hii : in32 i := ok1 (okr q.2.2.2.1)
  obtain ⟨e1, e2, e3⟩ := barr_sz q.1 hbr (by omega)
  obtain ⟨-, -, -, hi0, hiL⟩ := barr_x hbr
  show W p l e R s m args below meth c H locs _ _ Z (F0 m pc ls (.long (Int64.ofInt x) :: .int (Int32.ofInt i) :: cv g (2, a) :: r.map (cv g)))
  rw [e1]
  refine W.last hx hb e2 (hK.2.1.2.1.1 _ _) (fun h => by cases h) (by rw [arrV_size]; exact i32_ix hii hi0 hiL) rfl rfl hd fun H' f1 f2 f3 => ?_
  rw [i32_cl hii] at f1 ⊢
  exact hk H' _ ls ⟨q.1.seta hbr (by omega) hxi f1 rfl f2 f3, q.2.1, q.2.2.1, okr (okr (okr q.2.2.2.1)), locs_app q.2.2.2.2 (Nat.le_add_right _ _)⟩
theorem kSh_small : ∀ a, a < 212 → (sh a).2 < 2000 := by decide +kernel
theorem st_len {sc : bC} (hsc : sc = gsc g) {S S' : bS} (C : Cx g k p s m args meth c) (hd : decode (mcode k) S.1 = .ok (.arraylength, 1)) (h : blen sc S = some S') (hk : Wg g l k n0 p e R s m args below meth c Z S') : Wg g l k n0 p e R s m args below meth c Z S := by
  intro H locs ls q
  obtain ⟨hx, hb, hml, hret, hlk, hown, hts, hin, hK⟩ := C
  obtain ⟨pc, lv, st, n, hh⟩ := S
  rcases st with _ | ⟨⟨u, a⟩, r⟩
  · cases h
  simp only [blen] at h
  by_cases hu : u = 2
  case neg => rw [if_neg hu] at h; cases h
  subst hu
  rw [if_pos rfl] at h
  have hn212 : n ≤ 212 := q.1.2.1
  by_cases h7 : a = 700
  · rw [if_pos h7] at h
    cases h
    subst h7; subst hsc
    obtain ⟨-, -, -, -, -, -, -, hX, hbl, hL⟩ := hK
    obtain ⟨scr, x1, x2, x3, x4, x5⟩ := hX.kept (H1 := H) (q.1.2.2.1 _ hbl)
    show W p l e R s m args below meth c H locs _ _ Z (F0 m pc ls (.ref (gb g) :: r.map (cv g)))
    refine W.alen (n := Int32.ofInt ((gsc g).1 : Int)) hx hb x1 x2 (by rw [x4]; rfl) rfl rfl hd ?_
    exact hk H locs ls (q.stk (okc (by show in32 _; unfold in32; omega) (okr q.2.2.2.1)))
  · rw [if_neg h7] at h
    by_cases hc : 0 ≤ a ∧ a.toNat < n ∧ (sh a.toNat).1 < 10
    case neg => rw [if_neg hc] at h; cases h
    rw [if_pos hc] at h
    cases h
    obtain ⟨ha0, han, h10⟩ := hc
    have h4 := (kSh_ok a.toNat (by omega)).2 h10
    have hsm := kSh_small a.toNat (by omega)
    show W p l e R s m args below meth c H locs _ _ Z (F0 m pc ls (cv g (2, a) :: r.map (cv g)))
    rw [cv_2 g ha0, ad_lo g (by omega)]
    have hcell := q.1.arr han rfl h10
    have harr : ∃ ty, ArrOfT s (gA g (sh a.toNat).1) ty := by
      generalize (sh a.toNat).1 = kd at h4
      match kd, h4 with
      | 0, _ => exact ⟨_, hK.2.1.1.1⟩
      | 1, _ => exact ⟨_, hK.2.1.2.1.1⟩
      | 2, _ => exact ⟨_, hK.2.1.2.2.1.1⟩
      | 3, _ => exact ⟨_, hK.2.1.2.2.2.1⟩
    obtain ⟨ty, harr⟩ := harr
    refine W.alen (n := Int32.ofInt ((sh a.toNat).2 : Int)) hx hb hcell (harr _ _) (by rw [arrV_size]; rfl) rfl rfl hd ?_
    exact hk H locs ls (q.stk (okc (by show in32 _; unfold in32; omega) (okr q.2.2.2.1)))
end ST4
