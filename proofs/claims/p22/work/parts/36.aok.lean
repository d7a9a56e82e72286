/-! ONE INSTRUCTION OF THE CHECKER IS THE MACHINE'S -/
def PW (P : aP) : Prop := ∀ a r, P.2.1 a = some r → ∀ j, j < (sh a).2 → wrP P a j = wrP P a 0
/-- a state of the checker, and the machine's with it -/
def aIn (P : aP) (L : bC) (h0 : bH) (ρ : Nat → Int) (h : bH) (S : aS) : Prop := core P L h0 ρ h S.2.2 ∧ wfL (eC S.2.2).length S.1 ∧ wfS (eC S.2.2).length S.2.1
def conc (ρ : Nat → Int) (pc n : Nat) (h : bH) (S : aS) : bS := (pc, evL ρ S.1, evS ρ S.2.1, n, h)
/-- what follows: the machine goes to a state of S' -/
def aOut (P : aP) (L : bC) (h0 : bH) (ρ : Nat → Int) (S S' : aS) (r : Option bS) (pc : Nat) : Prop := ∃ ρ' h', ext (eC S.2.2).length ρ ρ' ∧ (eC S.2.2).length ≤ (eC S'.2.2).length ∧ aIn P L h0 ρ' h' S' ∧ nC S'.2.2 = nC S.2.2 ∧ r = some (conc ρ' pc (nC S.2.2) h' S')
theorem wfS_x {m : Nat} {v : AV} {st : List AV} (h : wfS m (v :: st)) : wfF m v.2 ∧ wfS m st := List.forall_mem_cons.mp h
theorem apc_ok {P : aP} {L : bC} {h0 h : bH} {ρ : Nat → Int} {S S' : aS} {tg pc : Nat} {c : Int} (q : aIn P L h0 ρ h S) (hs : apc tg c S = some S') : aOut P L h0 ρ S S' (some (pc, evL ρ S.1, (tg, c) :: evS ρ S.2.1, nC S.2.2, h)) pc := by
  cases hs
  refine ⟨ρ, h, fun _ _ => rfl, Nat.le_refl _, ⟨q.1, q.2.1, wfS_c (wf_con _ _) q.2.2⟩, rfl, ?_⟩
  simp only [conc, evS, List.map_cons, fcon_ev]
theorem ald_ok {P : aP} {L : bC} {h0 h : bH} {ρ : Nat → Int} {S S' : aS} {tg j len pc : Nat} (q : aIn P L h0 ρ h S) (hs : ald tg j S = some S') : aOut P L h0 ρ S S' (bld tg j len (conc ρ pc (nC S.2.2) h S)) (pc + len) := by
  unfold ald at hs
  split at hs
  case h_2 => cases hs
  rename_i v hv
  split at hs
  case isFalse => cases hs
  rename_i e
  cases hs
  refine ⟨ρ, h, fun _ _ => rfl, Nat.le_refl _, ⟨q.1, q.2.1, wfS_c (wf_look q.2.1 hv) q.2.2⟩, rfl, ?_⟩
  unfold bld conc
  dsimp only
  rw [evL_look, hv]
  dsimp only [Option.map]
  rw [if_pos e]
  rfl
theorem ast_ok {P : aP} {L : bC} {h0 h : bH} {ρ : Nat → Int} {S S' : aS} {tg j len nL pc : Nat} (q : aIn P L h0 ρ h S) (hs : ast tg j nL S = some S') : aOut P L h0 ρ S S' (bst tg j len nL (conc ρ pc (nC S.2.2) h S)) (pc + len) := by
  obtain ⟨lv, st, C⟩ := S
  unfold ast at hs
  split at hs
  case h_2 => cases hs
  rename_i v r hv
  dsimp only at hv
  subst hv
  by_cases e : v.1 = tg ∧ j + (if tg = 1 then 1 else 0) < nL
  case neg => rw [if_neg e] at hs; cases hs
  rw [if_pos e] at hs
  cases hs
  have w := wfS_x q.2.2
  refine ⟨ρ, h, fun _ _ => rfl, Nat.le_refl _, ⟨q.1, wfL_c w.1 (wf_keep q.2.1), w.2⟩, rfl, ?_⟩
  show (if v.1 = tg ∧ j + (if tg = 1 then 1 else 0) < nL then _ else none) = _
  rw [if_pos e, ← evL_keep]
  rfl
/-- an answer pushed -/
theorem ares_ok {P : aP} {L : bC} {h0 h : bH} {ρ : Nat → Int} {lv : aL} {r : List AV} {C : aC} {a : Ar} {z : Int} {tr : Nat} {S' : aS} (q : core P L h0 ρ h C) (hl : wfL (eC C).length lv) (hr : wfS (eC C).length r) (ha : arOK ρ (eC C).length a z) (hs : ares tr lv r C a = some S') : ∃ ρ', ext (eC C).length ρ ρ' ∧ (eC C).length ≤ (eC S'.2.2).length ∧ aIn P L h0 ρ' h S' ∧ nC S'.2.2 = nC C ∧ ∀ pc n, conc ρ' pc n h S' = (pc, evL ρ lv, (tr, z) :: evS ρ r, n, h) := by
  obtain ⟨ρ', x1, x2, x3, x4, x5⟩ := apush_ok q.1 ha
  cases hs
  refine ⟨ρ', x1, x3, ⟨core_ext q x2 x1 x3, wfL_mono hl x3, wfS_c x5 (wfS_mono hr x3)⟩, rfl, fun pc n => ?_⟩
  unfold conc
  rw [← evL_same x1 hl, ← evS_same x1 hr]
  simp only [evS, List.map_cons, x4]
theorem ainc_ok {P : aP} {L : bC} {h0 h : bH} {ρ : Nat → Int} {S S' : aS} {j nL pc : Nat} {c : Int} (q : aIn P L h0 ρ h S) (hs : ainc j c nL S = some S') : aOut P L h0 ρ S S' (biinc j c nL (conc ρ pc (nC S.2.2) h S)) (pc + 3) := by
  obtain ⟨lv, st, C⟩ := S
  unfold ainc at hs
  split at hs
  case h_2 => cases hs
  rename_i v hv
  dsimp only at hv hs
  split at hs
  case isFalse => cases hs
  rename_i e
  have wv := wf_look q.2.1 hv
  have ha := ar32_ok q.1.1 (wf_add wv (wf_con _ c))
  obtain ⟨ρ', x1, x2, x3, x4, x5⟩ := apush_ok q.1.1 ha
  cases hs
  refine ⟨ρ', h, x1, x3, ⟨core_ext q.1 x2 x1 x3, wfL_c x5 (wfL_mono (wf_keep q.2.1) x3), wfS_mono q.2.2 x3⟩, rfl, ?_⟩
  unfold biinc conc
  dsimp only
  rw [evL_look, hv]
  dsimp only [Option.map]
  rw [if_pos e, ← evL_keep, ← evL_same x1 (wf_keep q.2.1), ← evS_same x1 q.2.2]
  rw [fadd_ev, fcon_ev] at x4
  simp only [evL, List.map_cons, x4]
theorem aobj_ok {P : aP} {L : bC} {h0 h : bH} {ρ : Nat → Int} {C : aC} {aux a : Nat} {f : Fm} (q : core P L h0 ρ h C) (hw : wfF (eC C).length f) (hs : aobj C aux f = some a) : bobj aux (nC C) (ev ρ f) = true ∧ (ev ρ f).toNat = a ∧ a < nC C ∧ aux % 64 < (sh a).2 := by
  unfold aobj at hs
  split at hs
  case h_2 => cases hs
  rename_i x hx
  split at hs
  case isFalse => cases hs
  rename_i hb
  cases hs
  rw [fone_ok q hw hx]
  refine ⟨hb, rfl, ?_⟩
  unfold bobj at hb
  simp only [Bool.and_eq_true, decide_eq_true_eq] at hb
  exact ⟨hb.2.1, hb.2.2.2⟩
theorem agetf_ok {P : aP} {L : bC} {h0 h : bH} {ρ : Nat → Int} {S S' : aS} {aux pc : Nat} (q : aIn P L h0 ρ h S) (hs : agetf P aux S = some S') : aOut P L h0 ρ S S' (bget aux (conc ρ pc (nC S.2.2) h S)) (pc + 3) := by
  obtain ⟨lv, st, C⟩ := S
  unfold agetf at hs
  split at hs
  case h_2 => cases hs
  rename_i v r hv
  dsimp only at hv
  subst hv
  dsimp only at hs
  split at hs
  case isFalse => cases hs
  rename_i e
  split at hs
  case h_2 => cases hs
  rename_i a ha
  have w := wfS_x q.2.2
  obtain ⟨o1, o2, o3, o4⟩ := aobj_ok q.1 w.1 ha
  obtain ⟨ρ', x1, x2, x3, x4, x5, x6⟩ := aload_ok q.1 o3 o4
  cases hs
  refine ⟨ρ', h, x1, x2, ⟨x3, wfL_mono q.2.1 x2, wfS_c x5 (wfS_mono w.2 x2)⟩, x6, ?_⟩
  unfold conc
  rw [evL_same x1 q.2.1]
  simp only [evS, List.map_cons, x4, bget]
  rw [if_pos ⟨e, o1⟩, o2]
  have := evS_same x1 w.2
  unfold evS at this
  rw [this]
theorem aputf_ok {P : aP} {L : bC} {h0 h : bH} {ρ : Nat → Int} {S S' : aS} {k aux pc : Nat} (q : aIn P L h0 ρ h S) (hs : aputf P k aux S = some S') : aOut P L h0 ρ S S' (bput k aux (conc ρ pc (nC S.2.2) h S)) (pc + 3) := by
  obtain ⟨lv, st, C⟩ := S
  unfold aputf at hs
  split at hs
  case h_2 => cases hs
  rename_i x v r hv
  dsimp only at hv
  subst hv
  dsimp only at hs
  split at hs
  case isFalse => cases hs
  rename_i e
  split at hs
  case h_2 => cases hs
  rename_i a ha
  obtain ⟨wx, w⟩ := wfS_x q.2.2
  have w := wfS_x w
  obtain ⟨o1, o2, o3, o4⟩ := aobj_ok q.1 w.1 ha
  cases hc : astor P C a (aux % 64) x.2 with
  | none => rw [hc] at hs; cases hs
  | some C' =>
    rw [hc] at hs
    obtain ⟨x1, x2, x3⟩ := astor_ok q.1 wx hc
    cases hs
    refine ⟨ρ, _, fun _ _ => rfl, Nat.le_of_eq (congrArg List.length x2.symm), ⟨x1, ?_, ?_⟩, x3, ?_⟩
    · show wfL (eC C').length lv
      rw [x2]; exact q.2.1
    · show wfS (eC C').length r
      rw [x2]; exact w.2
    · have hb : fkd (aux / 64) (aux % 64) = 3 → 0 ≤ ev ρ x.2 ∧ ev ρ x.2 ≤ 1 := fun h3 => by
        have := isIn_x (e.2.2.1 h3)
        have vx := iv_ok (show eOK ρ (eC C) from q.1.1) wx
        omega
      unfold conc
      simp only [evS, List.map_cons, bput]
      rw [if_pos ⟨e.1, o1, e.2.1, hb, e.2.2.2⟩, o2]
theorem aarr_ok {P : aP} {L : bC} {h0 h : bH} {ρ : Nat → Int} {C : aC} {kd a : Nat} {f i : Fm} (q : core P L h0 ρ h C) (hw : wfF (eC C).length f) (wi : wfF (eC C).length i) (hs : aarr C kd f = some a) (hi : inB C 0 ((sh a).2 - 1) i = true) : barr kd (nC C) (ev ρ f) (ev ρ i) = true ∧ (ev ρ f).toNat = a ∧ a < nC C ∧ 0 ≤ ev ρ i ∧ (ev ρ i).toNat < (sh a).2 := by
  unfold aarr at hs
  split at hs
  case h_2 => cases hs
  rename_i x hx
  split at hs
  case isFalse => cases hs
  rename_i hb
  cases hs
  have e := fone_ok q hw hx
  have hb2 := inB_ok q wi hi
  rw [e]
  have g1 : 0 ≤ ev ρ i := by omega
  have g2 : (ev ρ i).toNat < (sh x.toNat).2 := by omega
  refine ⟨?_, rfl, hb.2.1, g1, g2⟩
  unfold barr
  simp only [Bool.and_eq_true, decide_eq_true_eq, beq_iff_eq]
  exact ⟨hb.1, hb.2.1, hb.2.2, g1, g2⟩
theorem aaldI_ok {P : aP} {L : bC} {h0 h : bH} {ρ : Nat → Int} {S S' : aS} {kd tg pc : Nat} (q : aIn P L h0 ρ h S) (hs : aaldI P kd tg S = some S') : aOut P L h0 ρ S S' (baload kd tg (conc ρ pc (nC S.2.2) h S)) (pc + 1) := by
  obtain ⟨lv, st, C⟩ := S
  unfold aaldI at hs
  split at hs
  case h_2 => cases hs
  rename_i i v r hv
  dsimp only at hv
  subst hv
  dsimp only at hs
  split at hs
  case isFalse => cases hs
  rename_i e
  split at hs
  case h_2 => cases hs
  rename_i a ha
  split at hs
  case isFalse => cases hs
  rename_i hin
  obtain ⟨wi, w⟩ := wfS_x q.2.2
  have w := wfS_x w
  obtain ⟨o1, o2, o3, o4, o5⟩ := aarr_ok q.1 w.1 wi ha hin
  have hm : baload kd tg (conc ρ pc (nC C) h (lv, i :: v :: r, C)) = some (pc + 1, evL ρ lv, (tg, h a (ev ρ i.2).toNat) :: evS ρ r, nC C, h) := by
    unfold conc
    simp only [evS, List.map_cons, baload]
    rw [if_pos ⟨e.1, e.2, o1⟩, o2]
  split at hs
  · rename_i j hj
    have ej := fone_ok q.1 wi hj
    have o6 : j.toNat < (sh a).2 := by rw [← ej]; exact o5
    obtain ⟨ρ', x1, x2, x3, x4, x5, x6⟩ := aload_ok q.1 o3 o6
    cases hs
    refine ⟨ρ', h, x1, x2, ⟨x3, wfL_mono q.2.1 x2, wfS_c x5 (wfS_mono w.2 x2)⟩, x6, ?_⟩
    rw [show nC (lv, i :: v :: r, C).2.2 = nC C from rfl, hm, ej]
    unfold conc
    rw [evL_same x1 q.2.1]
    simp only [evS, List.map_cons, x4]
    have := evS_same x1 w.2
    unfold evS at this
    rw [this]
  · split at hs
    case h_2 => cases hs
    rename_i b hb
    have hx := aldx_ok q.1 wi o3 o4 o5 hb
    obtain ⟨ρ', x1, x2, x3, x4, x5⟩ := ares_ok (C := C) (z := h a (ev ρ i.2).toNat) q.1 q.2.1 w.2 (show arOK ρ (eC C).length (.inr b) (h a (ev ρ i.2).toNat) from hx) hs
    exact ⟨ρ', h, x1, x2, x3, x4, by rw [x5]; exact hm⟩
theorem aastI_ok {P : aP} (hP : PW P) {L : bC} {h0 h : bH} {ρ : Nat → Int} {S S' : aS} {kd tg pc : Nat} (q : aIn P L h0 ρ h S) (hs : aastI P kd tg S = some S') : aOut P L h0 ρ S S' (bastore kd tg (conc ρ pc (nC S.2.2) h S)) (pc + 1) := by
  obtain ⟨lv, st, C⟩ := S
  unfold aastI at hs
  split at hs
  case h_2 => cases hs
  rename_i x i v r hv
  dsimp only at hv
  subst hv
  dsimp only at hs
  split at hs
  case isFalse => cases hs
  rename_i e
  split at hs
  case h_2 => cases hs
  rename_i a ha
  split at hs
  case isFalse => cases hs
  rename_i hin
  obtain ⟨wx, w⟩ := wfS_x q.2.2
  obtain ⟨wi, w⟩ := wfS_x w
  have w := wfS_x w
  obtain ⟨o1, o2, o3, o4, o5⟩ := aarr_ok q.1 w.1 wi ha hin
  have hm : bastore kd tg (conc ρ pc (nC C) h (lv, x :: i :: v :: r, C)) = some (pc + 1, evL ρ lv, evS ρ r, nC C, hup h a (ev ρ i.2).toNat (ev ρ x.2)) := by
    unfold conc
    simp only [evS, List.map_cons, bastore]
    rw [if_pos ⟨e.1, e.2.1, e.2.2, o1⟩, o2]
  have fin : ∀ {C' : aC}, core P L h0 ρ (hup h a (ev ρ i.2).toNat (ev ρ x.2)) C' ∧ eC C' = eC C ∧ nC C' = nC C → aOut P L h0 ρ (lv, x :: i :: v :: r, C) (lv, r, C') (bastore kd tg (conc ρ pc (nC C) h (lv, x :: i :: v :: r, C))) (pc + 1) := by
    intro C' ⟨x1, x2, x3⟩
    refine ⟨ρ, _, fun _ _ => rfl, Nat.le_of_eq (congrArg List.length x2.symm), ⟨x1, ?_, ?_⟩, x3, hm⟩
    · show wfL (eC C').length lv
      rw [x2]; exact q.2.1
    · show wfS (eC C').length r
      rw [x2]; exact w.2
  split at hs
  · rename_i j hj
    have ej := fone_ok q.1 wi hj
    cases hc : astor P C a j.toNat x.2 with
    | none => rw [hc] at hs; cases hs
    | some C' =>
      rw [hc] at hs
      cases hs
      have := astor_ok q.1 wx hc
      rw [← ej] at this
      exact fin this
  · cases hc : astx P C a i.2 x.2 with
    | none => rw [hc] at hs; cases hs
    | some C' =>
      rw [hc] at hs
      cases hs
      exact fin (astx_ok hP q.1 wi wx o4 o5 hc)
theorem ascr_ok {P : aP} {L : bC} {sc : bC} (hsc : sc = L) {h0 h : bH} {ρ : Nat → Int} {S S' : aS} {pc : Nat} (q : aIn P L h0 ρ h S) (hs : ascr P S = some S') : aOut P L h0 ρ S S' (biald sc (conc ρ pc (nC S.2.2) h S)) (pc + 1) := by
  obtain ⟨lv, st, C⟩ := S
  unfold ascr at hs
  split at hs
  case h_2 => cases hs
  rename_i i v r hv
  dsimp only at hv
  subst hv
  dsimp only at hs
  split at hs
  case isFalse => cases hs
  rename_i e
  obtain ⟨e1, e2, e3, e4, e5, e6⟩ := e
  obtain ⟨wi, w⟩ := wfS_x q.2.2
  have w := wfS_x w
  have wi : wfF (eC C).length i.2 := wi
  have q1 : core P L h0 ρ h C := q.1
  have f3 := fone_ok q1 w.1 e3
  obtain ⟨g1, g2⟩ := q1.2.2.2.2.2 e4
  have f5 := iv_ok q1.1 wi
  have f6 := leP_ok q1 (wf_sub (wf_add wi (wf_con _ 1)) (wf_id (Nat.lt_of_lt_of_le (by decide) g2))) e6
  rw [fsub_ev, fadd_ev, fcon_ev, fid_ev, g1.1] at f6
  subst hsc
  have k1 : 0 ≤ ev ρ i.2 := by omega
  have k2 : (ev ρ i.2).toNat < sc.1 := by omega
  have hi := i32_in (sc.2 (ev ρ i.2).toNat)
  split at hs
  · rename_i j hj
    unfold scrW at hj
    split at hj
    case isFalse => cases hj
    rename_i ej
    obtain ⟨j1, j2, j3⟩ := ej
    have hjj := Option.some.inj hj
    cases hs
    have ei : ev ρ i.2 = ρ 1 + (j : Int) := by
      unfold ev
      rw [j1]
      simp only [evT]
      omega
    have hv := g1.2 j (by omega)
    rw [← ei] at hv
    refine ⟨ρ, h, fun _ _ => rfl, Nat.le_refl _, ⟨q1, q.2.1, wfS_c (wf_id (Nat.lt_of_lt_of_le (show 2 + j < 8 by omega) g2)) w.2⟩, rfl, ?_⟩
    unfold conc
    simp only [evS, List.map_cons, biald, fid_ev, hv]
    rw [if_pos ⟨e1, e2, f3, k1, k2⟩]
  obtain ⟨ρ', x1, x2, x3, x4, x5⟩ := ares_ok (C := C) (z := (sc.2 (ev ρ i.2).toNat).toInt) q1 q.2.1 w.2 (show arOK ρ (eC C).length (.inr r32) _ from hi) hs
  refine ⟨ρ', h, x1, x2, x3, x4, ?_⟩
  rw [x5]
  unfold conc
  simp only [evS, List.map_cons, biald]
  rw [if_pos ⟨e1, e2, f3, k1, k2⟩]
theorem alen_ok {P : aP} {L : bC} {sc : bC} (hsc : sc = L) {h0 h : bH} {ρ : Nat → Int} {S S' : aS} {pc : Nat} (q : aIn P L h0 ρ h S) (hs : alen P S = some S') : aOut P L h0 ρ S S' (blen sc (conc ρ pc (nC S.2.2) h S)) (pc + 1) := by
  obtain ⟨lv, st, C⟩ := S
  unfold alen at hs
  split at hs
  case h_2 => cases hs
  rename_i v r hv
  dsimp only at hv
  subst hv
  dsimp only at hs
  split at hs
  case isFalse => cases hs
  rename_i e
  split at hs
  case h_2 => cases hs
  rename_i a ha
  have w := wfS_x q.2.2
  have q1 : core P L h0 ρ h C := q.1
  have f3 := fone_ok q1 w.1 ha
  split at hs
  · rename_i e2
    split at hs
    case isFalse => cases hs
    rename_i e4
    obtain ⟨g1, g2⟩ := q1.2.2.2.2.2 e4
    cases hs
    refine ⟨ρ, h, fun _ _ => rfl, Nat.le_refl _, ⟨q1, q.2.1, wfS_c (wf_id (Nat.lt_of_lt_of_le (by decide) g2)) w.2⟩, rfl, ?_⟩
    unfold conc
    simp only [evS, List.map_cons, blen, fid_ev, g1.1]
    rw [if_pos e, if_pos (f3.trans e2), hsc]
  · rename_i e2
    split at hs
    case isFalse => cases hs
    rename_i e4
    cases hs
    refine ⟨ρ, h, fun _ _ => rfl, Nat.le_refl _, ⟨q1, q.2.1, wfS_c (wf_con _ _) w.2⟩, rfl, ?_⟩
    unfold conc
    simp only [evS, List.map_cons, blen, fcon_ev]
    rw [if_pos e, f3, if_neg e2, if_pos e4]
theorem ado2_ok {P : aP} {L : bC} {sc : bC} {k : Nat} {t : Tok} {h0 h : bH} {ρ : Nat → Int} {S S' : aS} {pc : Nat} {c : Nat × Nat × Nat × (Int → Int → Option Int)} (hc : cop2 t.1 = some c) (q : aIn P L h0 ρ h S) (hs : ado2 t.1 c S = some S') : aOut P L h0 ρ S S' (cst sc k t (conc ρ pc (nC S.2.2) h S)) (pc + 1) := by
  obtain ⟨ta, tb, tr, f⟩ := c
  rw [cop2_cst hc]
  obtain ⟨lv, st, C⟩ := S
  unfold ado2 at hs
  split at hs
  case h_2 => cases hs
  rename_i y x r hv
  dsimp only at hv
  subst hv
  dsimp only at hs
  split at hs
  case isFalse => cases hs
  rename_i e
  obtain ⟨wy, w⟩ := wfS_x q.2.2
  have w := wfS_x w
  have q1 : core P L h0 ρ h C := q.1
  have key : ∃ a z, f (ev ρ x.2) (ev ρ y.2) = some z ∧ arOK ρ (eC C).length a z ∧ ares tr lv r C a = some S' := by
    split at hs
    · rename_i a ha
      obtain ⟨z, z1, z2⟩ := aop2_ok q1.1 w.1 wy ha hc
      exact ⟨a, z, z1, z2, hs⟩
    · split at hs
      case isFalse => cases hs
      rename_i hd
      have hn := nzB_ok q1 wy hd.2
      obtain ⟨i, rr⟩ := t
      dsimp only at hc hd
      cases i <;> first | (cases hd.1; done) | skip
      case idiv =>
        cases hc
        exact ⟨.inr r32, w32 ((ev ρ x.2).tdiv (ev ρ y.2)), if_neg hn, (show in32 _ from w32_in _), hs⟩
      case ldiv =>
        cases hc
        exact ⟨.inr r64, w64 ((ev ρ x.2).tdiv (ev ρ y.2)), if_neg hn, (show in64 _ from w64_in _), hs⟩
  obtain ⟨a, z, z1, z2, hs⟩ := key
  obtain ⟨ρ', x1, x2, x3, x4, x5⟩ := ares_ok q1 q.2.1 w.2 z2 hs
  refine ⟨ρ', h, x1, x2, x3, x4, ?_⟩
  rw [x5]
  unfold conc
  simp only [evS, List.map_cons, b2]
  rw [if_pos e, z1]
  rfl
theorem ado1_ok {P : aP} {L : bC} {sc : bC} {k : Nat} {t : Tok} {h0 h : bH} {ρ : Nat → Int} {S S' : aS} {pc : Nat} {c : Nat × Nat × (Int → Option Int)} (hc : cop1 t.1 = some c) (q : aIn P L h0 ρ h S) (hs : ado1 t.1 c S = some S') : aOut P L h0 ρ S S' (cst sc k t (conc ρ pc (nC S.2.2) h S)) (pc + 1) := by
  obtain ⟨ta, tr, f⟩ := c
  rw [cop1_cst hc]
  obtain ⟨lv, st, C⟩ := S
  unfold ado1 at hs
  split at hs
  case h_2 => cases hs
  rename_i x r hv
  dsimp only at hv
  subst hv
  dsimp only at hs
  split at hs
  case isFalse => cases hs
  rename_i e
  split at hs
  case h_2 => cases hs
  rename_i a ha
  have w := wfS_x q.2.2
  have q1 : core P L h0 ρ h C := q.1
  obtain ⟨z, z1, z2⟩ := aop1_ok q1.1 w.1 ha hc
  obtain ⟨ρ', x1, x2, x3, x4, x5⟩ := ares_ok q1 q.2.1 w.2 z2 hs
  refine ⟨ρ', h, x1, x2, x3, x4, ?_⟩
  rw [x5]
  unfold conc
  simp only [evS, List.map_cons, b1]
  rw [if_pos e, z1]
  rfl
/-- the stack's moves: what is there and what comes, by what any stack has -/
theorem amov_ok {P : aP} {L : bC} {h0 h : bH} {ρ : Nat → Int} {lv : aL} {st st' : List AV} {C : aC} {pc : Nat} {r : Option bS} (q : aIn P L h0 ρ h (lv, st, C)) (hw : wfS (eC C).length st → wfS (eC C).length st') (hr : r = some (pc, evL ρ lv, evS ρ st', nC C, h)) : aOut P L h0 ρ (lv, st, C) (lv, st', C) r pc :=
  ⟨ρ, h, fun _ _ => rfl, Nat.le_refl _, ⟨q.1, q.2.1, hw q.2.2⟩, rfl, hr⟩
theorem amv_ok {P : aP} {L : bC} {sc : bC} {k : Nat} {t : Tok} {h0 h : bH} {ρ : Nat → Int} {S S' : aS} {pc : Nat} (hi : t.1 = .pop ∨ t.1 = .dup ∨ t.1 = .dup_x1 ∨ t.1 = .dup_x2 ∨ t.1 = .dup2) (q : aIn P L h0 ρ h S) (hs : astep P k t S = some S') : aOut P L h0 ρ S S' (cst sc k t (conc ρ pc (nC S.2.2) h S)) (pc + 1) := by
  obtain ⟨i, r⟩ := t
  obtain ⟨lv, st, C⟩ := S
  dsimp only at hi
  rcases hi with rfl | rfl | rfl | rfl | rfl
  · rcases st with _ | ⟨v, st⟩
    · cases hs
    · simp only [astep] at hs
      split at hs
      · cases hs
      · rename_i e
        cases hs
        refine amov_ok q (fun w => (wfS_x w).2) ?_
        show (if v.1 = 1 then none else _) = _
        rw [if_neg e]; rfl
  · rcases st with _ | ⟨v, st⟩
    · cases hs
    · simp only [astep] at hs
      split at hs
      · cases hs
      · rename_i e
        cases hs
        refine amov_ok q (fun w => wfS_c (wfS_x w).1 w) ?_
        show (if v.1 = 1 then none else _) = _
        rw [if_neg e]; rfl
  · rcases st with _ | ⟨v, _ | ⟨u, st⟩⟩
    · cases hs
    · cases hs
    · simp only [astep] at hs
      split at hs
      · cases hs
      · rename_i e
        cases hs
        refine amov_ok q (fun w => wfS_c (wfS_x w).1 (wfS_c (wfS_x (wfS_x w).2).1 (wfS_c (wfS_x w).1 (wfS_x (wfS_x w).2).2))) ?_
        show (if v.1 = 1 ∨ u.1 = 1 then none else _) = _
        rw [if_neg e]; rfl
  · rcases st with _ | ⟨v, _ | ⟨u, _ | ⟨z, st⟩⟩⟩
    · cases hs
    · cases hs
    · cases hs
    · simp only [astep] at hs
      split at hs
      · cases hs
      · rename_i e
        cases hs
        refine amov_ok q (fun w => wfS_c (wfS_x w).1 (wfS_c (wfS_x (wfS_x w).2).1 (wfS_c (wfS_x (wfS_x (wfS_x w).2).2).1 (wfS_c (wfS_x w).1 (wfS_x (wfS_x (wfS_x w).2).2).2)))) ?_
        show (if v.1 = 1 ∨ u.1 = 1 ∨ z.1 = 1 then none else _) = _
        rw [if_neg e]; rfl
  · rcases st with _ | ⟨v, _ | ⟨u, st⟩⟩
    · cases hs
    · cases hs
    · simp only [astep] at hs
      split at hs
      · cases hs
      · rename_i e
        cases hs
        refine amov_ok q (fun w => wfS_c (wfS_x w).1 (wfS_c (wfS_x (wfS_x w).2).1 w)) ?_
        show (if v.1 = 1 ∨ u.1 = 1 then none else _) = _
        rw [if_neg e]; rfl
