/-! QUOTIENTS REMEMBERED; A DIFFERENCE DIVIDED BY -/
def mdK (k : Nat) : Bool := kMem.contains k
def amdF (isq : Bool) (c : Int) (x : Fm) (i : Nat) : Fm := if isq = true then fid i else fsub x (fscale c (fid i))
def amdv (isq : Bool) (lv : aL) (r : List AV) (C : aC) (x y : AV) : Option aS := if x.1 = 0 ∧ y.1 = 0 ∧ 0 ≤ (iv (eC C) x.2).1 ∧ (iv (eC C) x.2).2 ≤ 2147483647 ∧ x.2.2.isEmpty = false then (match fone C y.2 with
  | some c => if 0 < c then (match qfind C c x.2 (fC C) with
    | some i => some (lv, (0, amdF isq c x.2 i) :: r, C)
    | none => some (lv, (0, amdF isq c x.2 (eC C).length) :: r, (eC C ++ [((iv (eC C) x.2).1 / c, (iv (eC C) x.2).2 / c)], fsub (fscale c (fid (eC C).length)) x.2 :: fadd (fsub x.2 (fscale c (fid (eC C).length))) (fcon (-(c - 1))) :: fC C, C.2.2))) else none
  | none => none) else none
def amd (k : Nat) (t : Tok) (S : aS) : Option aS := if mdK k = true then (match t.1, S with
  | .idiv, (lv, y :: x :: r, C) => amdv true lv r C x y
  | .irem, (lv, y :: x :: r, C) => amdv false lv r C x y
  | _, _ => none) else none
theorem wf_amdF {m : Nat} {isq : Bool} {c : Int} {x : Fm} {i : Nat} (hx : wfF m x) (hi : i < m) : wfF m (amdF isq c x i) := by
  unfold amdF
  split
  · exact wf_id hi
  · exact wf_sub hx (wf_scale (wf_id hi))
theorem amdF_ev {ρ : Nat → Int} {isq : Bool} {c : Int} {x : Fm} {i : Nat} (hc : 0 < c) (h0 : 0 ≤ ev ρ x) (h1 : c * ρ i ≤ ev ρ x) (h2 : ev ρ x ≤ c * ρ i + (c - 1)) : ev ρ (amdF isq c x i) = if isq = true then (ev ρ x).tdiv c else (ev ρ x).tmod c := by
  have e : ev ρ x = (ev ρ x - c * ρ i) + c * ρ i := by omega
  have hd : ev ρ x / c = ρ i := by
    rw [e, Int.add_mul_ediv_left _ _ (by omega), Int.ediv_eq_zero_of_lt (by omega) (by omega), Int.zero_add]
  have hm : ev ρ x % c = ev ρ x - c * ρ i := by
    have := Int.emod_add_mul_ediv (ev ρ x) c
    rw [hd] at this
    omega
  unfold amdF
  split
  · rw [fid_ev, Int.tdiv_eq_ediv_of_nonneg h0, hd]
  · rw [fsub_ev, fscale_ev, fid_ev, Int.tmod_eq_emod_of_nonneg h0, hm]
theorem amdv_ok {P : aP} {L : bC} {h0 h : bH} {ρ : Nat → Int} {isq : Bool} {lv : aL} {r : List AV} {C : aC} {x y : AV} {S' : aS} (q : aIn P L h0 ρ h (lv, y :: x :: r, C)) (hs : amdv isq lv r C x y = some S') : ∃ (ρ' : Nat → Int) (c : Int), ext (eC C).length ρ ρ' ∧ (eC C).length ≤ (eC S'.2.2).length ∧ aIn P L h0 ρ' h S' ∧ nC S'.2.2 = nC C ∧ x.1 = 0 ∧ y.1 = 0 ∧ ev ρ y.2 = c ∧ 0 < c ∧ 0 ≤ ev ρ x.2 ∧ ev ρ x.2 ≤ 2147483647 ∧ S'.1 = lv ∧ evS ρ' S'.2.1 = (0, if isq = true then (ev ρ x.2).tdiv c else (ev ρ x.2).tmod c) :: evS ρ r := by
  unfold amdv at hs
  split at hs
  case isFalse => cases hs
  rename_i e
  obtain ⟨e1, e2, e3, e4, e5⟩ := e
  split at hs
  case h_2 => cases hs
  rename_i c hc
  split at hs
  case isFalse => cases hs
  rename_i hp
  have q1 : core P L h0 ρ h C := q.1
  obtain ⟨wy, w⟩ := wfS_x q.2.2
  have w := wfS_x w
  have wx : wfF (eC C).length x.2 := w.1
  have ec := fone_ok q1 wy hc
  have vx := iv_ok q1.1 wx
  split at hs
  · rename_i i hi
    cases hs
    obtain ⟨i1, i2, i3⟩ := qfind_ok q1 wx (fun _ h => h) hi
    refine ⟨ρ, c, fun _ _ => rfl, Nat.le_refl _, ⟨q1, q.2.1, wfS_c (wf_amdF wx i1) w.2⟩, rfl, e1, e2, ec, hp, by omega, by omega, rfl, ?_⟩
    show (0, ev ρ (amdF isq c x.2 i)) :: evS ρ r = _
    rw [amdF_ev hp (by omega) i2 i3]
  · cases hs
    have hx0 : 0 ≤ ev ρ x.2 := by omega
    have h1 := Int.ediv_mul_le (ev ρ x.2) (show c ≠ 0 by omega)
    have h2 := Int.lt_ediv_add_one_mul_self (ev ρ x.2) hp
    rw [Int.mul_comm] at h1
    have h2' : ev ρ x.2 < c * (ev ρ x.2 / c) + c := by
      rw [Int.add_mul, Int.one_mul, Int.mul_comm] at h2
      exact h2
    have hx : ext (eC C).length ρ (rup ρ (eC C).length (ev ρ x.2 / c)) := rup_old
    have he := eOK_push (lo := (iv (eC C) x.2).1 / c) (hi := (iv (eC C) x.2).2 / c) q1.1 (Int.ediv_le_ediv hp vx.1) (Int.ediv_le_ediv hp vx.2)
    have hl : (eC C).length ≤ (eC C ++ [((iv (eC C) x.2).1 / c, (iv (eC C) x.2).2 / c)]).length := by simp
    have hm : (eC C).length < (eC C ++ [((iv (eC C) x.2).1 / c, (iv (eC C) x.2).2 / c)]).length := by simp
    have q2 := core_ext q1 he hx hl
    have hn : rup ρ (eC C).length (ev ρ x.2 / c) (eC C).length = ev ρ x.2 / c := if_pos rfl
    have ex := ev_same hx wx
    have wx2 := wf_mono wx hl
    have f1 : ev (rup ρ (eC C).length (ev ρ x.2 / c)) (fsub (fscale c (fid (eC C).length)) x.2) ≤ 0 := by
      rw [fsub_ev, fscale_ev, fid_ev, hn, ex]; omega
    have f2 : ev (rup ρ (eC C).length (ev ρ x.2 / c)) (fadd (fsub x.2 (fscale c (fid (eC C).length))) (fcon (-(c - 1)))) ≤ 0 := by
      rw [fadd_ev, fsub_ev, fscale_ev, fid_ev, hn, ex, fcon_ev]; omega
    refine ⟨rup ρ (eC C).length (ev ρ x.2 / c), c, hx, hl, ⟨?_, wfL_mono q.2.1 hl, wfS_c (wf_amdF wx2 hm) (wfS_mono w.2 hl)⟩, rfl, e1, e2, ec, hp, hx0, by omega, rfl, ?_⟩
    · obtain ⟨p1, p2, p3, p4, p5, p6⟩ := q2
      exact ⟨p1, List.forall_mem_cons.mpr ⟨⟨wf_sub (wf_scale (wf_id hm)) wx2, f1⟩, List.forall_mem_cons.mpr ⟨⟨wf_add (wf_sub wx2 (wf_scale (wf_id hm))) (wf_con _ _), f2⟩, p2⟩⟩, p3, p4, p5, p6⟩
    · show (0, ev _ (amdF isq c x.2 (eC C).length)) :: evS _ r = _
      rw [amdF_ev hp (by rw [ex]; exact hx0) (by rw [hn, ex]; omega) (by rw [hn, ex]; omega), ex, evS_same hx w.2]
theorem amd_ok {P : aP} {L : bC} {sc : bC} {k : Nat} {t : Tok} {h0 h : bH} {ρ : Nat → Int} {S S' : aS} {pc : Nat} (q : aIn P L h0 ρ h S) (hs : amd k t S = some S') : ilen t.1 = 1 ∧ aOut P L h0 ρ S S' (cst sc k t (conc ρ pc (nC S.2.2) h S)) (pc + 1) := by
  obtain ⟨i, rr⟩ := t
  unfold amd at hs
  split at hs
  case isFalse => cases hs
  split at hs
  case h_3 => cases hs
  · rename_i _ _ lv y x r C hi
    dsimp only at hi
    subst hi
    obtain ⟨ρ', c, x1, x2, x3, x4, x5, x6, x7, x8, x9, x10, x11, x12⟩ := amdv_ok q hs
    refine ⟨rfl, ρ', h, x1, x2, x3, x4, ?_⟩
    unfold conc
    rw [x12, x11, ← evL_same x1 q.2.1]
    have hd : divI (ev ρ x.2) (ev ρ y.2) = some ((ev ρ x.2).tdiv c) := by
      rw [x7]
      unfold divI
      have hb := tdiv_rng (x := ev ρ x.2) (lo := 0) (hi := 2147483647) x8 (by omega) (by omega) x9 x10
      rw [if_neg (by omega), w32_id (by unfold in32; omega)]
    show (if x.1 = 0 ∧ y.1 = 0 then (divI (ev ρ x.2) (ev ρ y.2)).map _ else none) = _
    rw [if_pos ⟨x5, x6⟩, hd]
    rfl
  · rename_i _ _ lv y x r C hi
    dsimp only at hi
    subst hi
    obtain ⟨ρ', c, x1, x2, x3, x4, x5, x6, x7, x8, x9, x10, x11, x12⟩ := amdv_ok q hs
    refine ⟨rfl, ρ', h, x1, x2, x3, x4, ?_⟩
    unfold conc
    rw [x12, x11, ← evL_same x1 q.2.1]
    have hd : remI (ev ρ x.2) (ev ρ y.2) = some ((ev ρ x.2).tmod c) := by
      rw [x7]
      unfold remI
      rw [if_neg (by omega)]
    show (if x.1 = 0 ∧ y.1 = 0 then (remI (ev ρ x.2) (ev ρ y.2)).map _ else none) = _
    rw [if_pos ⟨x5, x6⟩, hd]
    rfl
def isIdiv : Instr → Bool
  | .idiv => true
  | _ => false
/-- isub, then idiv -/
def adsb (t t2 : Tok) (S : aS) : Option aS := match t.1, S with
  | .isub, (lv, y :: x :: z :: st, C) => if isIdiv t2.1 = true ∧ x.1 = 0 ∧ y.1 = 0 ∧ z.1 = 0 ∧ nzB C (fsub x.2 y.2) = true ∧ isIn (-4294967295) 4294967295 (iv (eC C) (fsub x.2 y.2)) = true then ares 0 lv st C (.inr r32) else none
  | _, _ => none
theorem w32_nz {v : Int} (h : v ≠ 0) (h1 : -4294967295 ≤ v) (h2 : v ≤ 4294967295) : w32 v ≠ 0 := by
  unfold w32 Int.bmod
  dsimp only
  split <;> omega
theorem adsb_ok {P : aP} {L : bC} {sc : bC} {k : Nat} {t t2 : Tok} {h0 h : bH} {ρ : Nat → Int} {S S' : aS} {pc : Nat} (q : aIn P L h0 ρ h S) (hs : adsb t t2 S = some S') : ∃ S1 : bS, cst sc k t (conc ρ pc (nC S.2.2) h S) = some S1 ∧ S1.1 = pc + 1 ∧ S1.2.2.2.1 = nC S.2.2 ∧ aOut P L h0 ρ S S' (cst sc k t2 S1) (pc + 2) := by
  obtain ⟨i1, r1⟩ := t
  obtain ⟨i2, r2⟩ := t2
  unfold adsb at hs
  split at hs
  case h_2 => cases hs
  rename_i _ _ lv y x z st C hi
  dsimp only at hi
  subst hi
  split at hs
  case isFalse => cases hs
  rename_i e
  obtain ⟨e1, e2, e3, e4, e5, e6⟩ := e
  have hi2 : i2 = .idiv := by
    dsimp only at e1
    cases i2 <;> first | rfl | (exact absurd e1 (by decide)) | (cases e1; done)
  subst hi2
  have q1 : core P L h0 ρ h C := q.1
  obtain ⟨wy, w⟩ := wfS_x q.2.2
  obtain ⟨wx, w⟩ := wfS_x w
  have w := wfS_x w
  have wd : wfF (eC C).length (fsub x.2 y.2) := wf_sub wx wy
  have hn := nzB_ok q1 wd e5
  have hb := isIn_x e6
  have hv := iv_ok q1.1 wd
  rw [fsub_ev] at hn hv
  have hz := w32_nz hn (by omega) (by omega)
  refine ⟨(pc + 1, evL ρ lv, (0, w32 (ev ρ x.2 - ev ρ y.2)) :: (z.1, ev ρ z.2) :: evS ρ st, nC C, h), ?_, rfl, rfl, ?_⟩
  · show (if x.1 = 0 ∧ y.1 = 0 then _ else none) = _
    rw [if_pos ⟨e2, e3⟩]
    rfl
  · obtain ⟨ρ', x1, x2, x3, x4, x5⟩ := ares_ok (C := C) (z := w32 ((ev ρ z.2).tdiv (w32 (ev ρ x.2 - ev ρ y.2)))) q1 q.2.1 w.2 (show arOK ρ (eC C).length (.inr r32) _ from (show in32 _ from w32_in _)) hs
    refine ⟨ρ', h, x1, x2, x3, x4, ?_⟩
    rw [x5]
    show (if z.1 = 0 ∧ (0 : Nat) = 0 then (divI (ev ρ z.2) (w32 (ev ρ x.2 - ev ρ y.2))).map _ else none) = _
    rw [if_pos ⟨e4, rfl⟩]
    unfold divI
    rw [if_neg hz]
    rfl
