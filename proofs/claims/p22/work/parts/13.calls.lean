theorem slN_mono {a b : Nat} (h : a ≤ b) : slN a ≤ slN b := by
  unfold slN
  obtain ⟨c, rfl⟩ := Nat.le.dest h
  induction c with
  | zero => exact Nat.le_refl _
  | succ c ih =>
    refine Nat.le_trans (ih (Nat.le_add_right _ _)) ?_
    rw [← Nat.add_assoc, List.take_succ, List.map_append, List.sum_append]
    exact Nat.le_add_right _ _
def stw (st : List bV) : Nat := (st.map fun v => if v.1 = 1 then 2 else 1).sum
theorem stw_cat (g : bG) (st : List bV) : ((st.map (cv g)).map fun v => v.category).sum = stw st := by
  unfold stw
  rw [List.map_map]
  congr 1
  apply List.map_congr_left
  intro v _
  exact cv_cat g v
section ST8
variable {g : bG} {l : Launch} {d k n0 n1 : Nat} {Q : bQ}
theorem link_of {k k' ix len widx : Nat} {i : Instr} {args : Array Value} {s : State} (hts : ∀ w ∈ wsm k, w.before args s = true) (hk' : k' < 1000) (hw : widx ≠ 300000) (ht : okC k (i, len, k', widx) ix = true) : (Cond.methodLink (mown k) ix (mname k')).before args s = true := by
  unfold okC at ht
  dsimp only at ht
  rw [if_pos hk', if_neg hw] at ht
  exact hts _ (wd_in ht)
theorem nest_of {k k' ix len : Nat} {i : Instr} {s : State} (hK : KS g s) (hk' : k' < 1000) (ht : okC k (i, len, k', 300000) ix = true) : va_Nw (.methodLinkNest (mown k) ix (mname k') "BoxLeaves") s := by
  unfold okC at ht
  dsimp only at ht
  rw [if_pos hk', if_pos rfl, List.any_eq_true] at ht
  obtain ⟨q, hq, h⟩ := ht
  simp only [Bool.and_eq_true, beq_iff_eq] at h
  obtain ⟨h1, h2, h3⟩ := h
  have := hK.2.2.1 q hq
  rw [h1, h2, h3] at this
  exact this
theorem wA_of {k : Nat} {args : Array Value} {s : State} (hts : ∀ w ∈ wsm k, w.before args s = true) : ∀ w ∈ wA, w.before args s = true := fun w hw => hts w (List.mem_cons_of_mem _ hw)
theorem callB_m {k k' n n' : Nat} {R : Room} {args : Array Value} {s : State} (hts : ∀ w ∈ wsm k, w.before args s = true) (hR : Rm (d + 1) n0 n1 R) (hm : okM k' = true) :
    (rmd d n n').cells = n' - n ∧ (rmd d n n').slots = slN n' - slN n ∧ (rmd d n n').frames + 1 ≤ R.frames ∧ 8 + (mml k' + 11) + (rmd d n n').locals ≤ R.locals ∧ (∀ w ∈ wsm k', ∀ (a' : Array Value) (U : State), s.WarmedH U.vm → w.before a' U = true) ∧ Cond.code (mname k') (mcode k') (mml k') (mret k') ∈ wsm k' ∧
    (Cond.code (mname k') (mcode k') (mml k') (mret k')).before args s = true ∧ (Cond.initialized (mname k').cls).before args s = true ∧ ((mname k').cls ≠ "java/lang/invoke/MethodHandle" ∧ (mname k').cls ≠ "java/lang/invoke/VarHandle") ∧ (∀ sig, parseMethodDescriptor (mname k').desc = some sig → mnp k' = sig.parameters.length) := by
  obtain ⟨h1, h2, h3, h4, h5, h6, h7, h8⟩ := okM_x hm
  obtain ⟨r1, r2, r3, r4⟩ := hR
  refine ⟨rfl, rfl, by show d + 1 + 1 ≤ R.frames; omega, by show 8 + (mml k' + 11) + 64 * (d + 1) ≤ R.locals; omega, wA_pay h1 (wA_of hts), List.mem_cons_self, wA_of hts _ h1, wA_of hts _ h2, h3, fun sig hs => ?_⟩
  rw [hs] at h5
  exact (Option.some.inj h5).symm
theorem pc_pre {n : Nat} {h : bH} {H : Heap} {s : State} {vs : List bV} (hH : HR g n h H) (hK : KS g s) (hv : ∀ v ∈ vs, okv v) : ∀ U : State, U.heap = H → s.WarmedH U.vm → PcH g n vs h (vs.map (cv g)).toArray U := fun U hU hW => ⟨rfl, by rw [hU]; exact hH, hK.warm hW, hv⟩
theorem lv_sz {ls : Array Slot} {nL : Nat} {l : List (Nat × Value)} (h : lv_has ls nL l) : ls.size = nL := h.1
theorem wp_callV {ix k' ci n n' pc len widx : Nat} {h : bH} {lv : bL} {as rest : List bV} {a : Int} (hd : decode (mcode k) pc = .ok (.invokevirtual ix, 3)) (ht : okC k (.invokevirtual ix, len, k', widx) ix = true) (hk' : k' < 1000) (hw : widx ≠ 300000) (hm : okM k' = true) (hs : mst k' = false) (hni : (mname k').name ≠ "<init>")
    (ha : 0 ≤ a ∧ a.toNat < n ∧ (sh a.toNat).1 = 10 + ci ∧ (kCls.getD ci ("", kF0, 0)).1 = (mname k').cls) (hl : as.length = mnp k') (hr : stw rest ≤ 8) (hn : n ≤ n' ∧ n' ≤ n1)
    (hM : MH g l d k' n n' ((2, a) :: as) h (fun r h' => WP g l (d + 1) k n0 n1 Q (pc + 3, lv, r.toList ++ rest, n', h'))) : WP g l (d + 1) k n0 n1 Q (pc, lv, as.reverse ++ (2, a) :: rest, n, h) := by
  intro p e R s m args below meth c Z E H locs ls q h0 h1
  obtain ⟨hx, hb, hml, hret, hlk, hown, hts, hin, hK⟩ := id E.1
  dsimp only at q h0 h1 ⊢
  obtain ⟨o1, o2, o3, o4, o5, o6, o7, o8⟩ := okM_x hm
  obtain ⟨o71, o72⟩ := o7 hs
  obtain ⟨b1, b2, b3, b4, b5, b6, b7, b8, b9, b10⟩ := callB_m (n := n) (n' := n') hts E.2.1 hm
  have hao : ∀ v ∈ (2, a) :: as, okv v := okc (q.2.2.2.1 _ (List.mem_append_right _ List.mem_cons_self)) (fun v hv => q.2.2.2.1 v (List.mem_append_left _ (List.mem_reverse.mpr hv)))
  have hro : ∀ v ∈ rest, okv v := fun v hv => q.2.2.2.1 v (List.mem_append_right _ (List.mem_cons_of_mem _ hv))
  obtain ⟨z, hz, h12, hzg, hzn, cell, q1, q2, q3, q4⟩ := q.1.obj ha.2.1 ha.2.2.1
  have hcls : s.vm.findClass (mname k').cls = some cell.cls := by
    obtain ⟨-, hfc, -⟩ := hK.1 _ _ hz
    rw [← ha.2.2.2, hzg, q2]; exact hfc
  have hn212 : n ≤ 212 := q.1.2.1
  have hadd : cv g (2, a) = .ref (gsz g + a.toNat) := by rw [cv_2 g ha.1, ad_lo g (by omega)]
  have est : (as.reverse ++ (2, a) :: rest).map (cv g) = (as.map (cv g)).reverse ++ .ref (gsz g + a.toNat) :: rest.map (cv g) := by
    rw [List.map_append, List.map_reverse, List.map_cons, hadd]
  rw [est]
  have eav : ((2, a) :: as).map (cv g) = .ref (gsz g + a.toNat) :: as.map (cv g) := by rw [List.map_cons, hadd]
  refine back_call (k' := k') (a := (Value.ref (gsz g + a.toNat) :: as.map (cv g)).toArray) E hK q.2.1 q.2.2.1 hro q.2.2.2.2 h0 hn.1 hn.2 ⟨slN_mono h0, slN_mono hn.1⟩ ?_
  exact va_runV (As := as.map (cv g)) (rest := rest.map (cv g)) (n := mnp k') ⟨hx, hb, hml, hown, hts⟩ hM ⟨⟨b1, b2, b3, b4, b5, b6, b7, b8, b9, b10, link_of hts hk' hw ht⟩, wA_of hts _ o71, wA_of hts _ (o72 hni)⟩
    ⟨PcH_blind _ _ _ _, ⟨cell, q1, by rw [q3]; rfl, hcls⟩, fun U hU hW => by have := pc_pre q.1 hK hao U hU hW; rw [eav] at this; exact this⟩
    rfl (by rw [List.length_map]; exact hl) (lv_sz q.2.1) rfl (lv_room (by rw [stw_cat]; exact hr)) hd ⟨by have := E.2.1.2.2.1; omega, by have := E.2.1.2.2.2; have := slN_mono h0; have := slN_mono hn.1; have := slN_mono hn.2; omega⟩
theorem wp_callS {ix k' n n' pc len widx : Nat} {h : bH} {lv : bL} {as rest : List bV} (hd : decode (mcode k) pc = .ok (.invokestatic ix, 3)) (ht : okC k (.invokestatic ix, len, k', widx) ix = true) (hk' : k' < 1000) (hm : okM k' = true) (hs : mst k' = true)
    (hl : as.length = mnp k') (hr : stw rest ≤ 8) (hn : n ≤ n' ∧ n' ≤ n1)
    (hM : MH g l d k' n n' as h (fun r h' => WP g l (d + 1) k n0 n1 Q (pc + 3, lv, r.toList ++ rest, n', h'))) : WP g l (d + 1) k n0 n1 Q (pc, lv, as.reverse ++ rest, n, h) := by
  intro p e R s m args below meth c Z E H locs ls q h0 h1
  obtain ⟨hx, hb, hml, hret, hlk, hown, hts, hin, hK⟩ := id E.1
  dsimp only at q h0 h1 ⊢
  obtain ⟨o1, o2, o3, o4, o5, o6, o7, o8⟩ := okM_x hm
  have o61 := o6 hs
  obtain ⟨b1, b2, b3, b4, b5, b6, b7, b8, b9, b10⟩ := callB_m (n := n) (n' := n') hts E.2.1 hm
  have hao : ∀ v ∈ as, okv v := fun v hv => q.2.2.2.1 v (List.mem_append_left _ (List.mem_reverse.mpr hv))
  have hro : ∀ v ∈ rest, okv v := fun v hv => q.2.2.2.1 v (List.mem_append_right _ hv)
  have est : (as.reverse ++ rest).map (cv g) = (as.map (cv g)).reverse ++ rest.map (cv g) := by
    rw [List.map_append, List.map_reverse]
  rw [est]
  refine back_call (k' := k') (a := (as.map (cv g)).toArray) E hK q.2.1 q.2.2.1 hro q.2.2.2.2 h0 hn.1 hn.2 ⟨slN_mono h0, slN_mono hn.1⟩ ?_
  have hf : n - n0 + (n' - n) ≤ R.cells ∧ slN n - slN n0 + (slN n' - slN n) ≤ R.slots := ⟨by have := E.2.1.2.2.1; omega, by have := E.2.1.2.2.2; have := slN_mono h0; have := slN_mono hn.1; have := slN_mono hn.2; omega⟩
  by_cases hw : widx = 300000
  · subst hw
    exact va_runSN (As := as.map (cv g)) (rest := rest.map (cv g)) (n := mnp k') ⟨hx, hb, hml, hown, hts⟩ hM ⟨⟨⟨b1, b2, b3, b4, b5, b6⟩, b7, b8, b9, b10, va_Nw.use rfl (nest_of hK hk' ht)⟩, wA_of hts _ o61, trivial⟩
      ⟨PcH_blind _ _ _ _, fun U hU hW => pc_pre q.1 hK hao U hU hW⟩
      rfl (by rw [List.length_map]; exact hl) (lv_sz q.2.1) rfl (lv_room (by rw [stw_cat]; exact hr)) hd hf
  · exact va_runS (As := as.map (cv g)) (rest := rest.map (cv g)) (n := mnp k') ⟨hx, hb, hml, hown, hts⟩ hM ⟨⟨b1, b2, b3, b4, b5, b6, b7, b8, b9, b10, link_of hts hk' hw ht⟩, wA_of hts _ o61⟩
      ⟨PcH_blind _ _ _ _, fun U hU hW => pc_pre q.1 hK hao U hU hW⟩
      rfl (by rw [List.length_map]; exact hl) (lv_sz q.2.1) rfl (lv_room (by rw [stw_cat]; exact hr)) hd hf
theorem wp_callI {ix k' n n' pc len widx : Nat} {h : bH} {lv : bL} {as rest : List bV} {a : Int} (hd : decode (mcode k) pc = .ok (.invokespecial ix, 3)) (ht : okC k (.invokespecial ix, len, k', widx) ix = true) (hk' : k' < 1000) (hm : okM k' = true) (hs : mst k' = false) (hni : (mname k').name = "<init>") (hrt : mret k' = none)
    (ha : 0 ≤ a ∧ a.toNat < n) (hl : as.length = mnp k') (hr : stw rest ≤ 8) (hn : n ≤ n' ∧ n' ≤ n1)
    (hM : MH g l d k' n n' ((2, a) :: as) h (fun r h' => WP g l (d + 1) k n0 n1 Q (pc + 3, lv, r.toList ++ rest, n', h'))) : WP g l (d + 1) k n0 n1 Q (pc, lv, as.reverse ++ (2, a) :: rest, n, h) := by
  intro p e R s m args below meth c Z E H locs ls q h0 h1
  obtain ⟨hx, hb, hml, hret, hlk, hown, hts, hin, hK⟩ := id E.1
  dsimp only at q h0 h1 ⊢
  obtain ⟨o1, o2, o3, o4, o5, o6, o7, o8⟩ := okM_x hm
  obtain ⟨o71, o72⟩ := o7 hs
  obtain ⟨b1, b2, b3, b4, b5, b6, b7, b8, b9, b10⟩ := callB_m (n := n) (n' := n') hts E.2.1 hm
  have hao : ∀ v ∈ (2, a) :: as, okv v := okc (q.2.2.2.1 _ (List.mem_append_right _ List.mem_cons_self)) (fun v hv => q.2.2.2.1 v (List.mem_append_left _ (List.mem_reverse.mpr hv)))
  have hro : ∀ v ∈ rest, okv v := fun v hv => q.2.2.2.1 v (List.mem_append_right _ (List.mem_cons_of_mem _ hv))
  have hn212 : n ≤ 212 := q.1.2.1
  have hadd : cv g (2, a) = .ref (gsz g + a.toNat) := by rw [cv_2 g ha.1, ad_lo g (by omega)]
  have est : (as.reverse ++ (2, a) :: rest).map (cv g) = (as.map (cv g)).reverse ++ .ref (gsz g + a.toNat) :: rest.map (cv g) := by
    rw [List.map_append, List.map_reverse, List.map_cons, hadd]
  rw [est]
  have eav : ((2, a) :: as).map (cv g) = .ref (gsz g + a.toNat) :: as.map (cv g) := by rw [List.map_cons, hadd]
  refine back_call (k' := k') (a := (Value.ref (gsz g + a.toNat) :: as.map (cv g)).toArray) E hK q.2.1 q.2.2.1 hro q.2.2.2.2 h0 hn.1 hn.2 ⟨slN_mono h0, slN_mono hn.1⟩ ?_
  have hf : n - n0 + (n' - n) ≤ R.cells ∧ slN n - slN n0 + (slN n' - slN n) ≤ R.slots := ⟨by have := E.2.1.2.2.1; omega, by have := E.2.1.2.2.2; have := slN_mono h0; have := slN_mono hn.1; have := slN_mono hn.2; omega⟩
  rw [hrt] at b6 b7
  have hpr : PreS s H (PcH g n ((2, a) :: as) h) (.ref (gsz g + a.toNat) :: as.map (cv g)) := ⟨PcH_blind _ _ _ _, fun U hU hW => by have := pc_pre q.1 hK hao U hU hW; rw [eav] at this; exact this⟩
  by_cases hw : widx = 300000
  · subst hw
    exact va_runIN (As := as.map (cv g)) (rest := rest.map (cv g)) (n := mnp k') ⟨hx, hb, hml, hown, hts⟩ hM ⟨⟨⟨b1, b2, b3, b4, b5, b6⟩, b7, b8, b9, b10, va_Nw.use rfl (nest_of hK hk' ht)⟩, hni, wA_of hts _ o71⟩
      hpr rfl (by rw [List.length_map]; exact hl) (lv_sz q.2.1) rfl (lv_room (by rw [stw_cat]; exact hr)) hd hf
  · exact va_runI (As := as.map (cv g)) (rest := rest.map (cv g)) (n := mnp k') ⟨hx, hb, hml, hown, hts⟩ hM ⟨⟨b1, b2, b3, b4, b5, b6, b7, b8, b9, b10, link_of hts hk' hw ht⟩, hni, wA_of hts _ o71⟩
      hpr rfl (by rw [List.length_map]; exact hl) (lv_sz q.2.1) rfl (lv_room (by rw [stw_cat]; exact hr)) hd hf
end ST8
