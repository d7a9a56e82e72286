section ST2
variable {g : bG} {l : Launch} {d k n0 n1 : Nat} {Q : bQ} {p : Program} {e : Env} {R : Room} {s : State} {m : MethodId} {args : Array Value} {below : List Frame} {meth : Method} {c : Code} {Z : State → Prop}
theorem lrem_eq_mod (x y : Int64) : x - (x / y) * y = x % y := by
  apply Int64.toInt_inj.mp
  have h1 := Int64.le_toInt (x % y)
  have h2 := Int64.toInt_lt (x % y)
  rw [Int64.toInt_sub, Int64.toInt_mul, Int64.toInt_div, Int.bmod_mul_bmod, Int.sub_bmod_bmod, Int.mul_comm (x.toInt.tdiv y.toInt), ← Int.tmod_def, ← Int64.toInt_mod]
  exact Int.bmod_eq_of_le_mul_two (by omega) (by omega)
theorem i64_rem {x y : Int} (hx : in64 x) (hy : in64 y) : Int64.ofInt x - Int64.ofInt x / Int64.ofInt y * Int64.ofInt y = Int64.ofInt (x.tmod y) := by
  rw [lrem_eq_mod, ← i64_of (Int64.ofInt x % Int64.ofInt y), Int64.toInt_mod, i64_ti hx, i64_ti hy]
theorem cmpL_in (x y : Int) : in32 (cmpL x y) := by
  unfold cmpL in32
  split
  · omega
  · split <;> omega
theorem in32_64 {x : Int} (h : in32 x) : in64 x := by unfold in32 in64 at *; omega
/-- the stored local among the others -/
theorem lv_kept {tg j : Nat} {x : Int} {lv : bL} {v : Value} {ls : Array Slot} {nL : Nat} {lv' : List (Nat × Value)} (hv : cv g (tg, x) = v) (hl : lv_has ls nL lv') (hq : ∀ q ∈ (lv.map (clv g)), (!(q.1 == j) && (!(tg == 1 && q.1 == j + 1) && !(q.1 + 1 == j && q.2.category == 2))) = true → q ∈ lv') (h0 : (j, v) ∈ lv') : lv_has ls nL (((j, (tg, x)) :: bkeep tg j lv).map (clv g)) := by
  refine lv_sub2 hl fun q hm => ?_
  rw [List.map_cons, List.mem_cons] at hm
  rcases hm with rfl | hm
  · show (j, cv g (tg, x)) ∈ lv'
    rw [hv]; exact h0
  · obtain ⟨z, hz, rfl⟩ := List.mem_map.mp hm
    obtain ⟨hz1, hz2⟩ := List.mem_filter.mp hz
    refine hq _ (List.mem_map.mpr ⟨z, hz1, rfl⟩) ?_
    have hcat : ((clv g z).2.category == 2) = (z.2.1 == 1) := by
      show ((cv g z.2).category == 2) = _
      rw [cv_cat]
      by_cases h : z.2.1 = 1 <;> simp [h]
    rw [hcat]
    exact hz2
theorem okkeep {tg j : Nat} {x : Int} {lv : bL} (h : ∀ q ∈ lv, okv q.2) (hx : okv (tg, x)) : ∀ q ∈ (j, (tg, x)) :: bkeep tg j lv, okv q.2 := by
  intro q hm
  rcases List.mem_cons.mp hm with rfl | hm
  · exact hx
  · exact h q (List.mem_filter.mp hm).1
theorem RS.put {n : Nat} {h : bH} {lv lv' : bL} {st st' : List bV} {H : Heap} {locs : List Loc} {ls ls' : Array Slot} (q : RS g k n h lv st H locs ls) (hl : lv_has ls' (mml k) (lv'.map (clv g))) (ho : ∀ q ∈ lv', okv q.2) (hs : ∀ v ∈ st', okv v) : RS g k n h lv' st' H locs ls' := ⟨q.1, hl, ho, hs, q.2.2.2.2⟩
theorem bjmp_x {off : Int} {S S' : bS} (h : bjmp off S = some S') : (S.1 : Int) + off = ((S'.1 : Nat) : Int) ∧ S'.2 = S.2 := by
  unfold bjmp at h
  split at h
  · cases h
    refine ⟨?_, rfl⟩
    show _ = ((((S.1 : Int) + off).toNat : Nat) : Int)
    omega
  · cases h
theorem st_goto {off : Int} {S S' : bS} (hx : p.tables.exec = Jvm.exec) (hb : c.code = mcode k) (hd : decode (mcode k) S.1 = .ok (.goto off, 3)) (h : bjmp off S = some S') (hk : Wg g l k n0 p e R s m args below meth c Z S') : Wg g l k n0 p e R s m args below meth c Z S := by
  intro H locs ls q
  obtain ⟨h1, h2⟩ := bjmp_x h
  have z := hk H locs ls (by rw [h2]; exact q)
  rw [h2] at z
  exact lv_goto hx hb hd h1 z
theorem st_if {co : Jvm.ClassFile.Cond} {off : Int} {S S' : bS} (hx : p.tables.exec = Jvm.exec) (hb : c.code = mcode k) (hd : decode (mcode k) S.1 = .ok (.ifCond co off, 3)) (h : bbr co off S = some S') (hk : Wg g l k n0 p e R s m args below meth c Z S') : Wg g l k n0 p e R s m args below meth c Z S := by
  intro H locs ls q
  obtain ⟨pc, lv, st, n, hh⟩ := S
  rcases st with _ | ⟨⟨t, x⟩, r⟩
  · cases h
  simp only [bbr] at h
  by_cases ht : t = 0 ∧ 0 ≤ (pc : Int) + off
  case neg => rw [if_neg ht] at h; cases h
  rw [if_pos ht] at h
  obtain ⟨rfl, hp⟩ := ht
  cases h
  have hix : in32 x := ok1 q.2.2.2.1
  have h0 : in32 0 := by unfold in32; omega
  have e0 : (0 : Int32) = Int32.ofInt 0 := rfl
  have z := hk H locs ls (q.stk (okr q.2.2.2.1))
  have h1 : (pc : Int) + off = ((((pc : Int) + off).toNat : Nat) : Int) := by omega
  have zt : bcond co x 0 = true → W p l e R s m args below meth c H locs (n - n0) (slN n - slN n0) Z (F0 m ((pc : Int) + off).toNat ls (r.map (cv g))) := fun hc => by
    have z2 := z; dsimp only at z2; rw [if_pos hc] at z2; exact z2
  have zf : ¬ bcond co x 0 = true → W p l e R s m args below meth c H locs (n - n0) (slN n - slN n0) Z (F0 m (pc + 3) ls (r.map (cv g))) := fun hc => by
    have z2 := z; dsimp only at z2; rw [if_neg hc] at z2; exact z2
  show W p l e R s m args below meth c H locs _ _ Z (F0 m pc ls (.int (Int32.ofInt x) :: r.map (cv g)))
  cases co <;> simp only [bcond, decide_eq_true_eq, Bool.not_eq_true', decide_eq_false_iff_not] at zt zf
  · exact lv_if_eq hx hb hd h1 (fun f => by rw [e0, i32_eq hix h0] at f; exact zt f) (fun f => by rw [e0, i32_eq hix h0] at f; exact zf f)
  · exact lv_if_ne hx hb hd h1 (fun f => by rw [e0, i32_eq hix h0] at f; exact zt f) (fun f => by rw [e0, i32_eq hix h0] at f; exact zf (by simpa using f))
  · exact lv_if_lt hx hb hd h1 (fun f => by rw [e0, i32_lt hix h0] at f; exact zt f) (fun f => by rw [e0, i32_lt hix h0] at f; exact zf f)
  · exact lv_if_ge hx hb hd h1 (fun f => by rw [e0, i32_le h0 hix] at f; exact zt f) (fun f => by rw [e0, i32_le h0 hix] at f; exact zf f)
  · exact lv_if_gt hx hb hd h1 (fun f => by rw [e0, i32_lt h0 hix] at f; exact zt f) (fun f => by rw [e0, i32_lt h0 hix] at f; exact zf f)
  · exact lv_if_le hx hb hd h1 (fun f => by rw [e0, i32_le hix h0] at f; exact zt f) (fun f => by rw [e0, i32_le hix h0] at f; exact zf f)
theorem st_icmp {co : Jvm.ClassFile.Cond} {off : Int} {S S' : bS} (hx : p.tables.exec = Jvm.exec) (hb : c.code = mcode k) (hd : decode (mcode k) S.1 = .ok (.if_icmp co off, 3)) (h : bicmp co off S = some S') (hk : Wg g l k n0 p e R s m args below meth c Z S') : Wg g l k n0 p e R s m args below meth c Z S := by
  intro H locs ls q
  obtain ⟨pc, lv, st, n, hh⟩ := S
  rcases st with _ | ⟨⟨t, y⟩, _ | ⟨⟨u, x⟩, r⟩⟩
  · cases h
  · cases h
  simp only [bicmp] at h
  by_cases ht : t = 0 ∧ u = 0 ∧ 0 ≤ (pc : Int) + off
  case neg => rw [if_neg ht] at h; cases h
  rw [if_pos ht] at h
  obtain ⟨rfl, rfl, hp⟩ := ht
  cases h
  have hiy : in32 y := ok1 q.2.2.2.1
  have hix : in32 x := ok1 (okr q.2.2.2.1)
  have z := hk H locs ls (q.stk (okr (okr q.2.2.2.1)))
  have h1 : (pc : Int) + off = ((((pc : Int) + off).toNat : Nat) : Int) := by omega
  have zt : bcond co x y = true → W p l e R s m args below meth c H locs (n - n0) (slN n - slN n0) Z (F0 m ((pc : Int) + off).toNat ls (r.map (cv g))) := fun hc => by
    have z2 := z; dsimp only at z2; rw [if_pos hc] at z2; exact z2
  have zf : ¬ bcond co x y = true → W p l e R s m args below meth c H locs (n - n0) (slN n - slN n0) Z (F0 m (pc + 3) ls (r.map (cv g))) := fun hc => by
    have z2 := z; dsimp only at z2; rw [if_neg hc] at z2; exact z2
  show W p l e R s m args below meth c H locs _ _ Z (F0 m pc ls (.int (Int32.ofInt y) :: .int (Int32.ofInt x) :: r.map (cv g)))
  cases co <;> simp only [bcond, decide_eq_true_eq, Bool.not_eq_true', decide_eq_false_iff_not] at zt zf
  · exact lv_icmp_eq hx hb hd h1 (fun f => by rw [i32_eq hix hiy] at f; exact zt f) (fun f => by rw [i32_eq hix hiy] at f; exact zf f)
  · exact lv_icmp_ne hx hb hd h1 (fun f => by rw [i32_eq hix hiy] at f; exact zt f) (fun f => by rw [i32_eq hix hiy] at f; exact zf (by simpa using f))
  · exact lv_icmp_lt hx hb hd h1 (fun f => by rw [i32_lt hix hiy] at f; exact zt f) (fun f => by rw [i32_lt hix hiy] at f; exact zf f)
  · exact lv_icmp_ge hx hb hd h1 (fun f => by rw [i32_le hiy hix] at f; exact zt f) (fun f => by rw [i32_le hiy hix] at f; exact zf f)
  · exact lv_icmp_gt hx hb hd h1 (fun f => by rw [i32_lt hiy hix] at f; exact zt f) (fun f => by rw [i32_lt hiy hix] at f; exact zf f)
  · exact lv_icmp_le hx hb hd h1 (fun f => by rw [i32_le hix hiy] at f; exact zt f) (fun f => by rw [i32_le hix hiy] at f; exact zf f)
theorem st_null {z : Bool} {off : Int} {S S' : bS} (hx : p.tables.exec = Jvm.exec) (hb : c.code = mcode k) (hd : decode (mcode k) S.1 = .ok (if z = true then .ifnull off else .ifnonnull off, 3)) (h : bnull z off S = some S') (hk : Wg g l k n0 p e R s m args below meth c Z S') : Wg g l k n0 p e R s m args below meth c Z S := by
  intro H locs ls q
  obtain ⟨pc, lv, st, n, hh⟩ := S
  rcases st with _ | ⟨⟨t, x⟩, r⟩
  · cases h
  simp only [bnull] at h
  by_cases ht : t = 2 ∧ 0 ≤ (pc : Int) + off
  case neg => rw [if_neg ht] at h; cases h
  rw [if_pos ht] at h
  obtain ⟨rfl, hp⟩ := ht
  cases h
  have h1 : (pc : Int) + off = ((((pc : Int) + off).toNat : Nat) : Int) := by omega
  have zz := hk H locs ls (q.stk (okr q.2.2.2.1))
  show W p l e R s m args below meth c H locs _ _ Z (F0 m pc ls (cv g (2, x) :: r.map (cv g)))
  by_cases hx0 : x < 0
  · rw [cv_2n g hx0]
    cases z
    · simp only [hx0, decide_true, Bool.true_eq_false, if_false, Bool.false_eq_true] at zz hd
      exact lv_ifnonnullN hx hb hd zz
    · simp only [hx0, decide_true, if_true] at zz hd
      exact lv_ifnullN hx hb hd h1 zz
  · rw [cv_2 g (by omega)]
    cases z
    · simp only [hx0, decide_false, if_true, Bool.false_eq_true, if_false] at zz hd
      exact lv_ifnonnull hx hb hd h1 zz
    · simp only [hx0, decide_false, Bool.false_eq_true, if_false, if_true] at zz hd
      exact lv_ifnull hx hb hd zz
theorem st_tab {df lo hi : Int} {offs : Array Int} {len : Nat} {S S' : bS} (hx : p.tables.exec = Jvm.exec) (hb : c.code = mcode k) (hd : decode (mcode k) S.1 = .ok (.tableswitch df lo hi offs, len)) (h : btab df lo hi offs S = some S') (hk : Wg g l k n0 p e R s m args below meth c Z S') : Wg g l k n0 p e R s m args below meth c Z S := by
  intro H locs ls q
  obtain ⟨pc, lv, st, n, hh⟩ := S
  rcases st with _ | ⟨⟨t, x⟩, r⟩
  · cases h
  simp only [btab] at h
  by_cases ht : t = 0
  case neg => rw [if_neg ht] at h; cases h
  rw [if_pos ht] at h
  subst ht
  have hix : in32 x := ok1 q.2.2.2.1
  show W p l e R s m args below meth c H locs _ _ Z (F0 m pc ls (.int (Int32.ofInt x) :: r.map (cv g)))
  by_cases ho : x < lo ∨ hi < x
  · rw [if_pos ho] at h
    obtain ⟨h1, h2⟩ := bjmp_x h
    have zz := hk H locs ls (by rw [h2]; exact q.stk (okr q.2.2.2.1))
    rw [h2] at zz
    exact lv_tableOut hx hb hd (by rw [i32_ti hix]; exact ho) h1 zz
  · rw [if_neg ho] at h
    cases hof : offs[(x - lo).toNat]? with
    | none => rw [hof] at h; cases h
    | some o =>
      rw [hof] at h
      obtain ⟨h1, h2⟩ := bjmp_x h
      have zz := hk H locs ls (by rw [h2]; exact q.stk (okr q.2.2.2.1))
      rw [h2] at zz
      exact lv_tableIn hx hb hd (by rw [i32_ti hix]; omega) (by rw [i32_ti hix]; omega) (by rw [i32_ti hix]; exact hof) h1 zz
theorem st_lkp {df : Int} {ps : Array (Int × Int)} {len : Nat} {S S' : bS} (hx : p.tables.exec = Jvm.exec) (hb : c.code = mcode k) (hd : decode (mcode k) S.1 = .ok (.lookupswitch df ps, len)) (h : blkp df ps S = some S') (hk : Wg g l k n0 p e R s m args below meth c Z S') : Wg g l k n0 p e R s m args below meth c Z S := by
  intro H locs ls q
  obtain ⟨pc, lv, st, n, hh⟩ := S
  rcases st with _ | ⟨⟨t, x⟩, r⟩
  · cases h
  simp only [blkp] at h
  by_cases ht : t = 0 ∧ bsorted ps.toList = true
  case neg => rw [if_neg ht] at h; cases h
  rw [if_pos ht] at h
  obtain ⟨rfl, hso⟩ := ht
  have hix : in32 x := ok1 q.2.2.2.1
  show W p l e R s m args below meth c H locs _ _ Z (F0 m pc ls (.int (Int32.ofInt x) :: r.map (cv g)))
  obtain ⟨h1, h2⟩ := bjmp_x h
  have zz := hk H locs ls (by rw [h2]; exact q.stk (okr q.2.2.2.1))
  rw [h2] at zz
  exact lv_lookup hx hb hd hso (by rw [i32_ti hix]) h1 zz
end ST2
