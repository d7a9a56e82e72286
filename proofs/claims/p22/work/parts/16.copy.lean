theorem w_nat : (Jvm.Cond.native arraycopyName) ∈ wA := okW_wA (i := kAcp.1) (by decide +kernel)
theorem w_sta : (Jvm.Cond.static arraycopyName) ∈ wA := okW_wA (i := kAcp.2.1) (by decide +kernel)
theorem w_sys : (Jvm.Cond.initialized "java/lang/System") ∈ wA := okW_wA (i := kAcp.2.2.1) (by decide +kernel)
theorem w_obi : (Jvm.Cond.instanceMethod Lib.objectInit) ∈ wA := okW_wA (i := kAcp.2.2.2.1) (by decide +kernel)
theorem w_obc : Jvm.Cond.code Lib.objectInit ⟨#[0xb1]⟩ 1 none ∈ wA := okW_wA (i := kAcp.2.2.2.2) (by decide +kernel)
section SC
variable {g : bG} {l : Launch} {d k n0 n1 : Nat} {Q : bQ}
theorem wp_copy {ix len widx pc n : Nat} {s0 d0 sp dp x : Int} {lv : bL} {r : List bV} {h : bH} (hd : decode (mcode k) pc = .ok (.invokestatic ix, 3)) (ht : okC k (.invokestatic ix, len, 1001, widx) ix = true)
    (hs0 : 0 ≤ s0 ∧ s0.toNat < n ∧ (sh s0.toNat).1 = 0) (hd0 : 0 ≤ d0 ∧ d0.toNat < n ∧ (sh d0.toNat).1 = 0) (hsp : 0 ≤ sp) (hdp : 0 ≤ dp) (hx0 : 0 ≤ x) (h4 : sp.toNat + x.toNat ≤ (sh s0.toNat).2) (h5 : dp.toNat + x.toNat ≤ (sh d0.toNat).2) (hr : stw r ≤ 8)
    (hk : WP g l d k n0 n1 Q (pc + 3, lv, r, n, hcpy h s0.toNat sp.toNat d0.toNat dp.toNat x.toNat)) : WP g l d k n0 n1 Q (pc, lv, (0, x) :: (0, dp) :: (2, d0) :: (0, sp) :: (2, s0) :: r, n, h) := by
  intro p e R s m args below meth c Z E H locs ls q h0 h1
  obtain ⟨hx, hb, hml, hret, hlk, hown, hts, hin, hK⟩ := id E.1
  dsimp only at q h0 h1 ⊢
  have hix : in32 x := ok1 q.2.2.2.1
  have hidp : in32 dp := ok1 (okr q.2.2.2.1)
  have hisp : in32 sp := ok1 (okr (okr (okr q.2.2.2.1)))
  have hn212 : n ≤ 212 := q.1.2.1
  have hlink : (Cond.methodLink (mown k) ix arraycopyName).before args s = true := by
    unfold okC at ht
    dsimp only at ht
    rw [if_neg (by omega), if_neg (by omega), if_pos rfl] at ht
    exact hts _ (wd_in ht)
  have n32 : ∀ {z : Int}, in32 z → 0 ≤ z → ¬ Int32.ofInt z < 0 := fun hz h0 => by
    rw [show (0 : Int32) = Int32.ofInt 0 from rfl, i32_lt hz ⟨by decide, by decide⟩]; omega
  have hc0 : H[gsz g + s0.toNat]? = some (arrV (gA g 0) (sh s0.toNat).2 (fun j => .int (Int32.ofInt (h s0.toNat j)))) := by
    rw [q.1.arr hs0.2.1 hs0.2.2 (by omega)]
    refine congrArg some (congrArg (arrV (gA g 0) (sh s0.toNat).2) (funext fun j => ?_))
    rw [lk_arr hs0.2.2 (by omega)]; rfl
  have hc1 : H[gsz g + d0.toNat]? = some (arrV (gA g 0) (sh d0.toNat).2 (fun j => .int (Int32.ofInt (h d0.toNat j)))) := by
    rw [q.1.arr hd0.2.1 hd0.2.2 (by omega)]
    refine congrArg some (congrArg (arrV (gA g 0) (sh d0.toNat).2) (funext fun j => ?_))
    rw [lk_arr hd0.2.2 (by omega)]; rfl
  show W p l e R s m args below meth c H locs _ _ Z (F0 m pc ls (.int (Int32.ofInt x) :: .int (Int32.ofInt dp) :: cv g (2, d0) :: .int (Int32.ofInt sp) :: cv g (2, s0) :: r.map (cv g)))
  rw [cv_2 g hs0.1, cv_2 g hd0.1, ad_lo g (by omega), ad_lo g (by omega)]
  intro T hT X
  obtain ⟨-, k0, hk0, cm0, hkk0⟩ := hK.2.1.1.1 (sh s0.toNat).2 (fun j => .int (Int32.ofInt (h s0.toNat j)))
  obtain ⟨-, k1, hk1, cm1, hkk1⟩ := hK.2.1.1.1 (sh d0.toNat).2 (fun j => .int (Int32.ofInt (h d0.toNat j)))
  have tx := i32_ti hix
  have tdp := i32_ti hidp
  have tsp := i32_ti hisp
  obtain ⟨vm', X', step⟩ := X.arraycopy hx hown hlink (wA_of hts _ w_nat) (wA_of hts _ w_sta) (wA_of hts _ w_sys) (src := gsz g + s0.toNat) (dst := gsz g + d0.toNat) (srcPos := Int32.ofInt sp) (destPos := Int32.ofInt dp) (n := Int32.ofInt x) (by rw [hT]; exact hc0) (by rw [hT]; exact hc1)
    (fun _ h => by cases h) (fun _ h => by cases h) (fun h => by cases h) (fun h => by cases h) hk0 hk1 hkk0 hkk1 rfl (n32 hisp hsp) (n32 hidp hdp) (n32 hix hx0)
    (by rw [tx, tsp, arrV_size]; omega)
    (by rw [tx, tdp, arrV_size]; omega)
    (fun vm₁ _ i hi => by
      rw [i32_cl hix] at hi
      rw [i32_cl hisp]
      have e : (arrV (gA g 0) (sh s0.toNat).2 (fun j => Value.int (Int32.ofInt (h s0.toNat j)))).slots.getD (sp.toNat + i) .null = .int (Int32.ofInt (h s0.toNat (sp.toNat + i))) := by
        rw [Array.getD_eq_getD_getElem?, arrV_read _ _ (by omega)]
        rfl
      rw [e]
      exact ⟨rfl, trivial⟩)
    (g := F0 m pc ls (.int (Int32.ofInt x) :: .int (Int32.ofInt dp) :: .ref (gsz g + d0.toNat) :: .int (Int32.ofInt sp) :: .ref (gsz g + s0.toNat) :: r.map (cv g))) rfl (by rw [hml]; exact q.2.1.1) (rest := r.map (cv g)) rfl (by rw [hb]; exact hd) (by have := E.2.1.1; omega) (by
      have h9 := lv_room (m := m) (pc := pc) (ls := ls) (rest := .int (Int32.ofInt x) :: .int (Int32.ofInt dp) :: .ref (gsz g + d0.toNat) :: .int (Int32.ofInt sp) :: .ref (gsz g + s0.toNat) :: r.map (cv g)) (st := r.map (cv g)) (by rw [stw_cat]; exact hr)
      have := E.2.1.2.1
      have e7 : nativeFrameWords "java/lang/System" "arraycopy" 5 = 7 := by decide
      rw [e7]
      omega)
  have e1 : copied (arrV (gA g 0) (sh s0.toNat).2 (fun j => Value.int (Int32.ofInt (h s0.toNat j)))) (arrV (gA g 0) (sh d0.toNat).2 (fun j => Value.int (Int32.ofInt (h d0.toNat j)))) (Int32.ofInt sp) (Int32.ofInt dp) (Int32.ofInt x) = arrV (gA g 0) (sh d0.toNat).2 (fun j => .int (Int32.ofInt (va_cpy (h s0.toNat) (h d0.toNat) (Int32.ofInt sp).toNatClampNeg (Int32.ofInt dp).toNatClampNeg (Int32.ofInt x).toNatClampNeg j))) := va_copied (fun z => .int (Int32.ofInt z)) _ _ _ _ (by rw [i32_cl hisp, i32_cl hix]; exact h4)
  rw [e1] at X' step
  rw [i32_cl hisp, i32_cl hix, i32_cl hidp] at X' step
  generalize hcell : arrV (gA g 0) (sh d0.toNat).2 (fun j => Value.int (Int32.ofInt (va_cpy (h s0.toNat) (h d0.toNat) sp.toNat dp.toNat x.toNat j))) = cellN at X' step
  have hl : gsz g + d0.toNat < H.size := (Array.getElem?_eq_some_iff.mp hc1).1
  have hheap : ((T.setVm vm').setCell (gsz g + d0.toNat) cellN).heap = H.setIfInBounds (gsz g + d0.toNat) cellN := by rw [← hT]; rfl
  have oq : ∀ q : Nat, q ≠ gsz g + d0.toNat → (H.setIfInBounds (gsz g + d0.toNat) cellN)[q]? = H[q]? := fun q hq => by simp [Array.getElem?_setIfInBounds, Ne.symm hq]
  have onew : (H.setIfInBounds (gsz g + d0.toNat) cellN)[gsz g + d0.toNat]? = some cellN := by simp [Array.getElem?_setIfInBounds, hl]
  have hnew : HR g n (hcpy h s0.toNat sp.toNat d0.toNat dp.toNat x.toNat) (H.setIfInBounds (gsz g + d0.toNat) cellN) := by
    obtain ⟨q1, q2, q3, q4⟩ := q.1
    refine ⟨by simp; exact q1, q2, fun z hz => by rw [oq z (by omega)]; exact q3 z hz, fun b hb => ?_⟩
    by_cases eb : b = d0.toNat
    · subst eb
      refine ⟨?_, fun j hj => ?_⟩
      · unfold cellR
        rw [if_pos (by omega), onew, ← hcell, hd0.2.2]
        refine congrArg some (congrArg (arrV (gA g 0) (sh d0.toNat).2) (funext fun j => ?_))
        rw [lk_arr hd0.2.2 (by omega)]
        show Value.int (Int32.ofInt _) = Value.int (Int32.ofInt _)
        unfold va_cpy hcpy
        by_cases hj : dp.toNat ≤ j ∧ j < dp.toNat + x.toNat
        · rw [if_pos hj, if_pos ⟨rfl, hj⟩]
        · rw [if_neg hj, if_neg (fun z => hj z.2)]
      · rw [lk_arr hd0.2.2 (by omega)]
        show in32 (hcpy h s0.toNat sp.toNat d0.toNat dp.toNat x.toNat d0.toNat j)
        unfold hcpy
        by_cases hj2 : dp.toNat ≤ j ∧ j < dp.toNat + x.toNat
        · rw [if_pos ⟨rfl, hj2⟩]
          have := (q4 _ hs0.2.1).2 (sp.toNat + (j - dp.toNat)) (by omega)
          rw [lk_arr hs0.2.2 (by omega)] at this
          exact this
        · rw [if_neg (fun z => hj2 z.2)]
          have := (q4 _ hd0.2.1).2 j hj
          rw [lk_arr hd0.2.2 (by omega)] at this
          exact this
    · have e3 : hcpy h s0.toNat sp.toNat d0.toNat dp.toNat x.toNat b = h b := funext fun i => if_neg (fun z => eb z.1)
      rw [e3]
      exact ⟨(q4 b hb).1.kept (oq _ (by omega)), (q4 b hb).2⟩
  obtain ⟨t, a1, b1⟩ := hk p e R s m args below meth c Z E _ _ ls ⟨hnew, q.2.1, q.2.2.1, okr (okr (okr (okr (okr q.2.2.2.1)))), fun q9 hq9 => by
      rcases List.mem_append.mp hq9 with h9 | h9
      · exact q.2.2.2.2 q9 h9
      · obtain ⟨z, -, hz⟩ := List.mem_map.mp h9
        rw [← hz]
        exact Nat.le_add_right _ _⟩ h0 h1 _ hheap X'
  exact ⟨t, step t a1, b1⟩
end SC
