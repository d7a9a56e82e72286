-- == 38.br.lean.txt
section
/-! BRANCHES OF THE CHECKER -/
/-- what 'd ≤ 0' makes of a state; none: it cannot be -/
def nar (C : aC) (d : Fm) : Option aC := if 0 < (iv (eC C) d).1 then none else match d.2 with
  | [] => some C
  | [_] => some (rle (eC C) d d.2 (eC C), C.2)
  | _ => if (fC C).contains d then some C else some (rle (eC C) d d.2 (eC C), d :: fC C, C.2.2)
/-- a state as good as another, with as many unknowns -/
def asC (P : aP) (L : bC) (h0 : bH) (ρ : Nat → Int) (h : bH) (C C' : aC) : Prop := core P L h0 ρ h C' ∧ (eC C').length = (eC C).length ∧ nC C' = nC C
theorem asC.refl {P : aP} {L : bC} {h0 h : bH} {ρ : Nat → Int} {C : aC} (q : core P L h0 ρ h C) : asC P L h0 ρ h C C := ⟨q, rfl, rfl⟩
theorem asC.trans {P : aP} {L : bC} {h0 h : bH} {ρ : Nat → Int} {C C1 C2 : aC} (q : asC P L h0 ρ h C C1) (r : asC P L h0 ρ h C1 C2) : asC P L h0 ρ h C C2 := ⟨r.1, r.2.1.trans q.2.1, r.2.2.trans q.2.2⟩
theorem core_env {P : aP} {L : bC} {h0 h : bH} {ρ : Nat → Int} {C : aC} {env' : REnv} (q : core P L h0 ρ h C) (he : eOK ρ env') (hl : env'.length = (eC C).length) : core P L h0 ρ h (env', C.2) := core_ext q he (fun _ _ => rfl) (Nat.le_of_eq hl.symm)
theorem core_fact {P : aP} {L : bC} {h0 h : bH} {ρ : Nat → Int} {env : REnv} {fs : List Fm} {r : Ca × Nat} {d : Fm} (q : core P L h0 ρ h (env, fs, r)) (hw : wfF env.length d) (hd : ev ρ d ≤ 0) : core P L h0 ρ h (env, d :: fs, r) := by
  obtain ⟨q1, q2, q3, q4, q5, q6⟩ := q
  exact ⟨q1, List.forall_mem_cons.mpr ⟨⟨hw, hd⟩, q2⟩, q3, q4, q5, q6⟩
theorem nar_ok {P : aP} {L : bC} {h0 h : bH} {ρ : Nat → Int} {C : aC} {d : Fm} (q : core P L h0 ρ h C) (hw : wfF (eC C).length d) (hd : ev ρ d ≤ 0) : ∃ C', nar C d = some C' ∧ asC P L h0 ρ h C C' := by
  have hi := iv_ok q.1 hw
  have hr := rle_ok q.1 hw hd (ts := d.2) (env := eC C) (fun t ht => ht) q.1
  unfold nar
  rw [if_neg (by omega)]
  split
  · exact ⟨C, rfl, asC.refl q⟩
  · exact ⟨_, rfl, core_env q hr.1 hr.2, hr.2, rfl⟩
  · split
    · exact ⟨C, rfl, asC.refl q⟩
    · refine ⟨_, rfl, ?_, hr.2, rfl⟩
      have := core_env q hr.1 hr.2
      exact core_fact this (by rw [hr.2]; exact hw) hd
def fneg (d : Fm) : Fm := fscale (-1) d
theorem fneg_ev (ρ : Nat → Int) (d : Fm) : ev ρ (fneg d) = -ev ρ d := by
  unfold fneg; rw [fscale_ev]; omega
theorem wf_neg {m : Nat} {d : Fm} (h : wfF m d) : wfF m (fneg d) := wf_scale h
def fplus (d : Fm) (c : Int) : Fm := (d.1 + c, d.2)
theorem fplus_ev (ρ : Nat → Int) (d : Fm) (c : Int) : ev ρ (fplus d c) = ev ρ d + c := by
  unfold fplus ev; dsimp only; omega
theorem wf_plus {m : Nat} {d : Fm} {c : Int} (h : wfF m d) : wfF m (fplus d c) := h
/-- d = 0 -/
def nEq (C : aC) (d : Fm) : Option aC := match nar C d with
  | some C1 => nar C1 (fneg d)
  | none => none
theorem nEq_ok {P : aP} {L : bC} {h0 h : bH} {ρ : Nat → Int} {C : aC} {d : Fm} (q : core P L h0 ρ h C) (hw : wfF (eC C).length d) (hd : ev ρ d = 0) : ∃ C', nEq C d = some C' ∧ asC P L h0 ρ h C C' := by
  obtain ⟨C1, e1, a1⟩ := nar_ok q hw (by omega)
  obtain ⟨C2, e2, a2⟩ := nar_ok (d := fneg d) a1.1 (by rw [a1.2.1]; exact wf_neg hw) (by rw [fneg_ev]; omega)
  refine ⟨C2, ?_, a1.trans a2⟩
  unfold nEq
  rw [e1]
  exact e2
/-- d ≠ 0 -/
def nNe (C : aC) (d : Fm) : Option aC := if leP C d = true then nar C (fplus d 1) else if leP C (fneg d) = true then nar C (fplus (fneg d) 1) else some C
theorem nNe_ok {P : aP} {L : bC} {h0 h : bH} {ρ : Nat → Int} {C : aC} {d : Fm} (q : core P L h0 ρ h C) (hw : wfF (eC C).length d) (hd : ev ρ d ≠ 0) : ∃ C', nNe C d = some C' ∧ asC P L h0 ρ h C C' := by
  unfold nNe
  split
  · rename_i e
    have := leP_ok q hw e
    exact nar_ok q (wf_plus hw) (by rw [fplus_ev]; omega)
  · split
    · rename_i e
      have := leP_ok q (wf_neg hw) e
      rw [fneg_ev] at this
      exact nar_ok q (wf_plus (wf_neg hw)) (by rw [fplus_ev, fneg_ev]; omega)
    · exact ⟨C, rfl, asC.refl q⟩
/-- 'x c y', d the form x - y -/
def nCo (C : aC) (c : Jvm.ClassFile.Cond) (d : Fm) : Option aC := match c with
  | .eq => nEq C d
  | .ne => nNe C d
  | .lt => nar C (fplus d 1)
  | .ge => nar C (fneg d)
  | .gt => nar C (fplus (fneg d) 1)
  | .le => nar C d
def opC : Jvm.ClassFile.Cond → Jvm.ClassFile.Cond
  | .eq => .ne
  | .ne => .eq
  | .lt => .ge
  | .ge => .lt
  | .gt => .le
  | .le => .gt
theorem opC_ok (c : Jvm.ClassFile.Cond) (x y : Int) : bcond (opC c) x y = !bcond c x y := by
  cases c <;> simp only [opC, bcond, Bool.not_not]
  case lt => by_cases h : x < y <;> simp [h] <;> omega
  case ge => by_cases h : y ≤ x <;> simp [h] <;> omega
  case gt => by_cases h : y < x <;> simp [h] <;> omega
  case le => by_cases h : x ≤ y <;> simp [h] <;> omega
theorem nCo_ok {P : aP} {L : bC} {h0 h : bH} {ρ : Nat → Int} {C : aC} {d : Fm} {c : Jvm.ClassFile.Cond} {x y : Int} (q : core P L h0 ρ h C) (hw : wfF (eC C).length d) (hd : ev ρ d = x - y) (hc : bcond c x y = true) : ∃ C', nCo C c d = some C' ∧ asC P L h0 ρ h C C' := by
  cases c
  case eq => simp only [bcond, decide_eq_true_eq] at hc; exact nEq_ok q hw (by omega)
  case ne => simp only [bcond, Bool.not_eq_true', decide_eq_false_iff_not] at hc; exact nNe_ok q hw (by omega)
  case lt => simp only [bcond, decide_eq_true_eq] at hc; exact nar_ok q (wf_plus hw) (by rw [fplus_ev]; omega)
  case ge => simp only [bcond, decide_eq_true_eq] at hc; exact nar_ok q (wf_neg hw) (by rw [fneg_ev]; omega)
  case gt => simp only [bcond, decide_eq_true_eq] at hc; exact nar_ok q (wf_plus (wf_neg hw)) (by rw [fplus_ev, fneg_ev]; omega)
  case le => simp only [bcond, decide_eq_true_eq] at hc; exact nar_ok q hw (by omega)
abbrev aB : Type := List (Nat × aS)
def side (pc : Nat) (lv : aL) (r : List AV) (C : Option aC) : aB := match C with
  | some C' => [(pc, lv, r, C')]
  | none => []
/-- both sides of a condition -/
def aside (c : Jvm.ClassFile.Cond) (d : Fm) (pt pf : Nat) (lv : aL) (r : List AV) (C : aC) : aB := side pt lv r (nCo C c d) ++ side pf lv r (nCo C (opC c) d)
/-- the machine goes to one of them -/
def bOut (P : aP) (L : bC) (h0 : bH) (ρ : Nat → Int) (h : bH) (S : aS) (Ls : aB) (r : Option bS) : Prop := ∃ pc' S', (pc', S') ∈ Ls ∧ aIn P L h0 ρ h S' ∧ (eC S'.2.2).length = (eC S.2.2).length ∧ nC S'.2.2 = nC S.2.2 ∧ r = some (conc ρ pc' (nC S.2.2) h S')
theorem side_in {P : aP} {L : bC} {h0 h : bH} {ρ : Nat → Int} {S : aS} {lv : aL} {r : List AV} {pc : Nat} {o : Option aC} (hl : wfL (eC S.2.2).length lv) (hr : wfS (eC S.2.2).length r) (hx : ∃ C', o = some C' ∧ asC P L h0 ρ h S.2.2 C') {Ls : aB} (hsub : ∀ q ∈ side pc lv r o, q ∈ Ls) {b : Option bS} (hb : b = some (pc, evL ρ lv, evS ρ r, nC S.2.2, h)) : bOut P L h0 ρ h S Ls b := by
  obtain ⟨C', rfl, a1, a2, a3⟩ := hx
  refine ⟨pc, (lv, r, C'), hsub _ List.mem_cons_self, ⟨a1, ?_, ?_⟩, a2, a3, hb⟩
  · show wfL (eC C').length lv
    rw [a2]; exact hl
  · show wfS (eC C').length r
    rw [a2]; exact hr
theorem aside_ok {P : aP} {L : bC} {h0 h : bH} {ρ : Nat → Int} {S : aS} {c : Jvm.ClassFile.Cond} {d : Fm} {pt pf : Nat} {lv : aL} {r : List AV} {x y : Int} (q : core P L h0 ρ h S.2.2) (hl : wfL (eC S.2.2).length lv) (hr : wfS (eC S.2.2).length r) (hw : wfF (eC S.2.2).length d) (hd : ev ρ d = x - y) {b : Option bS} (hb : b = some (if bcond c x y = true then pt else pf, evL ρ lv, evS ρ r, nC S.2.2, h)) : bOut P L h0 ρ h S (aside c d pt pf lv r S.2.2) b := by
  cases hc : bcond c x y with
  | true =>
    rw [hc, if_pos rfl] at hb
    exact side_in hl hr (nCo_ok q hw hd hc) (fun z hz => List.mem_append_left _ hz) hb
  | false =>
    rw [hc, if_neg (by decide)] at hb
    refine side_in hl hr (nCo_ok (c := opC c) q hw hd ?_) (fun z hz => List.mem_append_right _ hz) hb
    rw [opC_ok, hc]; rfl
end
-- == 39.abr.lean.txt
section
/-! THE BRANCHING INSTRUCTIONS -/
def atab (pc : Nat) (lv : aL) (r : List AV) (C : aC) (x : Fm) : Int → List Int → aB
  | _, [] => []
  | v, o :: os => side ((pc : Int) + o).toNat lv r (nEq C (fplus x (-v))) ++ atab pc lv r C x (v + 1) os
def alkp (pc : Nat) (lv : aL) (r : List AV) (C : aC) (x : Fm) : List (Int × Int) → aB
  | [] => []
  | q :: ps => side ((pc : Int) + q.2).toNat lv r (nEq C (fplus x (-q.1))) ++ alkp pc lv r C x ps
/-- where a branching instruction goes -/
def abr (t : Tok) (pc : Nat) (S : aS) : Option aB := match t.1, S with
  | .ifCond c off, (lv, x :: r, C) => if x.1 = 0 ∧ 0 ≤ (pc : Int) + off then some (aside c x.2 ((pc : Int) + off).toNat (pc + 3) lv r C) else none
  | .if_icmp c off, (lv, y :: x :: r, C) => if y.1 = 0 ∧ x.1 = 0 ∧ 0 ≤ (pc : Int) + off then some (aside c (fsub x.2 y.2) ((pc : Int) + off).toNat (pc + 3) lv r C) else none
  | .goto off, (lv, r, C) => if 0 ≤ (pc : Int) + off then some [(((pc : Int) + off).toNat, lv, r, C)] else none
  | .ifnull off, (lv, x :: r, C) => if x.1 = 2 ∧ 0 ≤ (pc : Int) + off then some (aside .lt x.2 ((pc : Int) + off).toNat (pc + 3) lv r C) else none
  | .ifnonnull off, (lv, x :: r, C) => if x.1 = 2 ∧ 0 ≤ (pc : Int) + off then some (aside .ge x.2 ((pc : Int) + off).toNat (pc + 3) lv r C) else none
  | .tableswitch d lo hi offs, (lv, x :: r, C) => if x.1 = 0 ∧ hi - lo + 1 = offs.toList.length ∧ 0 ≤ (pc : Int) + d ∧ offs.toList.all (fun o => decide (0 ≤ (pc : Int) + o)) = true then some (side ((pc : Int) + d).toNat lv r (nar C (fplus x.2 (1 - lo))) ++ side ((pc : Int) + d).toNat lv r (nar C (fplus (fneg x.2) (hi + 1))) ++ atab pc lv r C x.2 lo offs.toList) else none
  | .lookupswitch d ps, (lv, x :: r, C) => if x.1 = 0 ∧ bsorted ps.toList = true ∧ 0 ≤ (pc : Int) + d ∧ ps.toList.all (fun q => decide (0 ≤ (pc : Int) + q.2)) = true then some ((((pc : Int) + d).toNat, lv, r, C) :: alkp pc lv r C x.2 ps.toList) else none
  | _, _ => none
theorem atab_mem {pc : Nat} {lv : aL} {r : List AV} {C : aC} {x : Fm} : ∀ {os : List Int} {v : Int} {i : Nat} {o : Int}, os[i]? = some o → ∀ q ∈ side ((pc : Int) + o).toNat lv r (nEq C (fplus x (-(v + i)))), q ∈ atab pc lv r C x v os
  | [], _, _, _, h, _, _ => by simp at h
  | a :: os, v, 0, o, h, q, hq => by
    simp only [List.getElem?_cons_zero, Option.some.injEq] at h
    subst h
    rw [show v + ((0 : Nat) : Int) = v by omega] at hq
    exact List.mem_append_left _ hq
  | a :: os, v, i + 1, o, h, q, hq => by
    rw [List.getElem?_cons_succ] at h
    rw [show v + ((i + 1 : Nat) : Int) = v + 1 + (i : Int) by omega] at hq
    exact List.mem_append_right _ (atab_mem h q hq)
theorem alkp_off {pc : Nat} {lv : aL} {r : List AV} {C : aC} {x : Fm} {d v : Int} : ∀ {ps : List (Int × Int)}, (∃ o, (v, o) ∈ ps ∧ Op.lookupswitch.offset ps d v = o ∧ ∀ q ∈ side ((pc : Int) + o).toNat lv r (nEq C (fplus x (-v))), q ∈ alkp pc lv r C x ps) ∨ Op.lookupswitch.offset ps d v = d
  | [] => Or.inr rfl
  | (a, o) :: ps => by
    rw [Op.lookupswitch.offset_cons]
    by_cases e : a = v
    · subst e
      rw [if_pos rfl]
      exact Or.inl ⟨o, List.mem_cons_self, rfl, fun q hq => List.mem_append_left _ hq⟩
    · rw [if_neg e]
      rcases alkp_off (pc := pc) (lv := lv) (r := r) (C := C) (x := x) (d := d) (v := v) (ps := ps) with ⟨o2, h1, h2, h3⟩ | h
      · exact Or.inl ⟨o2, List.mem_cons_of_mem _ h1, h2, fun q hq => List.mem_append_right _ (h3 q hq)⟩
      · exact Or.inr h
theorem abr_ok {P : aP} {L : bC} {sc : bC} {k : Nat} {t : Tok} {h0 h : bH} {ρ : Nat → Int} {S : aS} {Ls : aB} {pc : Nat} (q : aIn P L h0 ρ h S) (hs : abr t pc S = some Ls) : bOut P L h0 ρ h S Ls (cst sc k t (conc ρ pc (nC S.2.2) h S)) := by
  obtain ⟨i, rr⟩ := t
  unfold abr at hs
  split at hs
  · rename_i _ _ c off lv x r C hi
    dsimp only at hi
    subst hi
    split at hs
    case isFalse => cases hs
    rename_i e
    cases hs
    have w := wfS_x q.2.2
    refine aside_ok (x := ev ρ x.2) (y := 0) q.1 q.2.1 w.2 w.1 (by omega) ?_
    show (if x.1 = 0 ∧ 0 ≤ (pc : Int) + off then _ else none) = _
    rw [if_pos e]
    rfl
  · rename_i _ _ c off lv y x r C hi
    dsimp only at hi
    subst hi
    split at hs
    case isFalse => cases hs
    rename_i e
    cases hs
    obtain ⟨wy, w⟩ := wfS_x q.2.2
    have w := wfS_x w
    refine aside_ok (x := ev ρ x.2) (y := ev ρ y.2) q.1 q.2.1 w.2 (wf_sub w.1 wy) (by rw [fsub_ev]) ?_
    show (if y.1 = 0 ∧ x.1 = 0 ∧ 0 ≤ (pc : Int) + off then _ else none) = _
    rw [if_pos e]
    rfl
  · rename_i _ _ off lv r C hi
    dsimp only at hi
    subst hi
    split at hs
    case isFalse => cases hs
    rename_i e
    cases hs
    refine ⟨_, _, List.mem_cons_self, q, rfl, rfl, ?_⟩
    show (if 0 ≤ (pc : Int) + off then _ else none) = _
    rw [if_pos e]
    rfl
  · rename_i _ _ off lv x r C hi
    dsimp only at hi
    subst hi
    split at hs
    case isFalse => cases hs
    rename_i e
    cases hs
    have w := wfS_x q.2.2
    refine aside_ok (x := ev ρ x.2) (y := 0) q.1 q.2.1 w.2 w.1 (by omega) ?_
    show (if x.1 = 2 ∧ 0 ≤ (pc : Int) + off then _ else none) = _
    rw [if_pos e]
    rfl
  · rename_i _ _ off lv x r C hi
    dsimp only at hi
    subst hi
    split at hs
    case isFalse => cases hs
    rename_i e
    cases hs
    have w := wfS_x q.2.2
    refine aside_ok (x := ev ρ x.2) (y := 0) q.1 q.2.1 w.2 w.1 (by omega) ?_
    show (if x.1 = 2 ∧ 0 ≤ (pc : Int) + off then _ else none) = _
    rw [if_pos e]
    have hb : decide (ev ρ x.2 < 0) = !bcond .ge (ev ρ x.2) 0 := by
      unfold bcond
      by_cases h : ev ρ x.2 < 0 <;> simp [h] <;> omega
    show some (if decide (ev ρ x.2 < 0) = false then _ else _, _) = _
    rw [hb]
    cases bcond .ge (ev ρ x.2) 0 <;> rfl
  · rename_i _ _ d lo hi' offs lv x r C hi
    dsimp only at hi
    subst hi
    split at hs
    case isFalse => cases hs
    rename_i e
    obtain ⟨e1, e2, e3, e4⟩ := e
    cases hs
    have w := wfS_x q.2.2
    have w1 : wfF (eC C).length x.2 := w.1
    have q1 : core P L h0 ρ h C := q.1
    have hm : cst sc k (.tableswitch d lo hi' offs, rr) (conc ρ pc (nC C) h (lv, x :: r, C)) = (if ev ρ x.2 < lo ∨ hi' < ev ρ x.2 then bjmp d (pc, evL ρ lv, evS ρ r, nC C, h) else match offs[(ev ρ x.2 - lo).toNat]? with
      | some o => bjmp o (pc, evL ρ lv, evS ρ r, nC C, h)
      | none => none) := by
      show (if x.1 = 0 then _ else none) = _
      rw [if_pos e1]
      rfl
    by_cases h1 : ev ρ x.2 < lo
    · rw [if_pos (Or.inl h1)] at hm
      refine side_in (S := (lv, x :: r, C)) q.2.1 w.2 (nar_ok (d := fplus x.2 (1 - lo)) q1 (wf_plus w1) (by rw [fplus_ev]; omega)) (fun z hz => List.mem_append_left _ (List.mem_append_left _ hz)) (hm.trans ?_)
      unfold bjmp
      rw [if_pos e3]
    · by_cases h2 : hi' < ev ρ x.2
      · rw [if_pos (Or.inr h2)] at hm
        refine side_in (S := (lv, x :: r, C)) q.2.1 w.2 (nar_ok (d := fplus (fneg x.2) (hi' + 1)) q1 (wf_plus (wf_neg w1)) (by rw [fplus_ev, fneg_ev]; omega)) (fun z hz => List.mem_append_left _ (List.mem_append_right _ hz)) (hm.trans ?_)
        unfold bjmp
        rw [if_pos e3]
      · rw [if_neg (by omega)] at hm
        have hlt : (ev ρ x.2 - lo).toNat < offs.toList.length := by omega
        have ho : offs.toList[(ev ρ x.2 - lo).toNat]? = some offs.toList[(ev ρ x.2 - lo).toNat] := List.getElem?_eq_getElem hlt
        generalize hoo : offs.toList[(ev ρ x.2 - lo).toNat] = o at ho
        have ho2 : offs[(ev ρ x.2 - lo).toNat]? = some o := by rw [← ho]; simp
        rw [ho2] at hm
        dsimp only at hm
        have hom : o ∈ offs.toList := List.mem_of_getElem? ho
        have e5 := List.all_eq_true.mp e4 o hom
        rw [decide_eq_true_eq] at e5
        refine side_in (S := (lv, x :: r, C)) q.2.1 w.2 (nEq_ok (d := fplus x.2 (-(lo + ((ev ρ x.2 - lo).toNat : Nat)))) q1 (wf_plus w1) (by rw [fplus_ev]; omega)) (fun z hz => List.mem_append_right _ (atab_mem ho z hz)) (hm.trans ?_)
        unfold bjmp
        rw [if_pos e5]
  · rename_i _ _ d ps lv x r C hi
    dsimp only at hi
    subst hi
    split at hs
    case isFalse => cases hs
    rename_i e
    obtain ⟨e1, e2, e3, e4⟩ := e
    cases hs
    have w := wfS_x q.2.2
    have w1 : wfF (eC C).length x.2 := w.1
    have q1 : core P L h0 ρ h C := q.1
    have hm : cst sc k (.lookupswitch d ps, rr) (conc ρ pc (nC C) h (lv, x :: r, C)) = bjmp (Op.lookupswitch.offset ps.toList d (ev ρ x.2)) (pc, evL ρ lv, evS ρ r, nC C, h) := by
      show (if x.1 = 0 ∧ bsorted ps.toList = true then _ else none) = _
      rw [if_pos ⟨e1, e2⟩]
      rfl
    rcases alkp_off (pc := pc) (lv := lv) (r := r) (C := C) (x := x.2) (d := d) (v := ev ρ x.2) (ps := ps.toList) with ⟨o, h1, h2, h3⟩ | h1
    · rw [h2] at hm
      have e5 := List.all_eq_true.mp e4 _ h1
      rw [decide_eq_true_eq] at e5
      refine side_in (S := (lv, x :: r, C)) q.2.1 w.2 (nEq_ok (d := fplus x.2 (-ev ρ x.2)) q1 (wf_plus w1) (by rw [fplus_ev]; omega)) (fun z hz => List.mem_cons_of_mem _ (h3 z hz)) (hm.trans ?_)
      unfold bjmp
      rw [if_pos e5]
    · rw [h1] at hm
      refine ⟨_, _, List.mem_cons_self, ⟨q.1, q.2.1, w.2⟩, rfl, rfl, hm.trans ?_⟩
      unfold bjmp
      rw [if_pos e3]
      rfl
  · cases hs
end
-- == 40.match.lean.txt
section
/-! lcmp WITH ITS CONDITION; ARRIVAL AT A KNOWN STATE -/
theorem bcond_cmp (c : Jvm.ClassFile.Cond) (x y : Int) : bcond c (cmpL x y) 0 = bcond c x y := by
  unfold cmpL
  cases c <;> simp only [bcond] <;> (by_cases h1 : y < x <;> by_cases h2 : x = y <;> simp [h1, h2] <;> omega)
def acmp (t2 : Tok) (pc : Nat) (S : aS) : Option aB := match t2.1, S with
  | .ifCond c off, (lv, y :: x :: r, C) => if y.1 = 1 ∧ x.1 = 1 ∧ 0 ≤ ((pc + 1 : Nat) : Int) + off then some (aside c (fsub x.2 y.2) (((pc + 1 : Nat) : Int) + off).toNat (pc + 1 + 3) lv r C) else none
  | _, _ => none
theorem acmp_ok {P : aP} {L : bC} {sc : bC} {k : Nat} {t1 t2 : Tok} {h0 h : bH} {ρ : Nat → Int} {S : aS} {Ls : aB} {pc : Nat} (ht : t1.1 = .lcmp) (q : aIn P L h0 ρ h S) (hs : acmp t2 pc S = some Ls) : ∃ S1 : bS, cst sc k t1 (conc ρ pc (nC S.2.2) h S) = some S1 ∧ S1.1 = pc + 1 ∧ S1.2.2.2.1 = nC S.2.2 ∧ bOut P L h0 ρ h S Ls (cst sc k t2 S1) := by
  obtain ⟨i1, r1⟩ := t1
  obtain ⟨i2, r2⟩ := t2
  dsimp only at ht
  subst ht
  unfold acmp at hs
  split at hs
  case h_2 => cases hs
  rename_i _ _ c off lv y x r C hi
  dsimp only at hi
  subst hi
  split at hs
  case isFalse => cases hs
  rename_i e
  cases hs
  obtain ⟨wy, w⟩ := wfS_x q.2.2
  have w := wfS_x w
  refine ⟨(pc + 1, evL ρ lv, (0, cmpL (ev ρ x.2) (ev ρ y.2)) :: evS ρ r, nC C, h), ?_, rfl, rfl, ?_⟩
  · show (if x.1 = 1 ∧ y.1 = 1 then _ else none) = _
    rw [if_pos ⟨e.2.1, e.1⟩]
    rfl
  · refine aside_ok (x := ev ρ x.2) (y := ev ρ y.2) q.1 q.2.1 w.2 (wf_sub w.1 wy) (by rw [fsub_ev]) ?_
    show (if (0 : Nat) = 0 ∧ 0 ≤ ((pc + 1 : Nat) : Int) + off then _ else none) = _
    rw [if_pos ⟨rfl, e.2.2⟩, bcond_cmp]
/-- forms put in for unknowns -/
def sbT (σ : List Fm) : List (Nat × Int) → Fm
  | [] => (0, [])
  | t :: r => fadd (fscale t.2 (σ.getD t.1 (0, []))) (sbT σ r)
def sbF (σ : List Fm) (f : Fm) : Fm := match f.2 with
  | [] => f
  | _ => fplus (sbT σ f.2) f.1
def rsb (ρ : Nat → Int) (σ : List Fm) : Nat → Int := fun i => ev ρ (σ.getD i (0, []))
theorem sbT_ev (ρ : Nat → Int) (σ : List Fm) : ∀ ts, ev ρ (sbT σ ts) = evT (rsb ρ σ) ts
  | [] => by simp [sbT, ev, evT]
  | t :: r => by
    unfold sbT
    rw [fadd_ev, fscale_ev, sbT_ev ρ σ r]
    rfl
theorem sbF_ev (ρ : Nat → Int) (σ : List Fm) (f : Fm) : ev ρ (sbF σ f) = ev (rsb ρ σ) f := by
  unfold sbF
  split
  · rename_i e
    unfold ev
    rw [e]
    rfl
  · rw [fplus_ev, sbT_ev]
    unfold ev
    omega
def wfB (m : Nat) (f : Fm) : Bool := f.2.all fun t => decide (t.1 < m)
theorem wfB_x {m : Nat} {f : Fm} (h : wfB m f = true) : wfF m f := fun t ht => by
  have := List.all_eq_true.mp h t ht
  exact of_decide_eq_true this
theorem wf_sbT {m : Nat} {σ : List Fm} (h : ∀ f ∈ σ, wfF m f) : ∀ ts, wfF m (sbT σ ts)
  | [] => wf_con m 0
  | t :: r => by
    refine wf_add (wf_scale ?_) (wf_sbT h r)
    rw [List.getD_eq_getElem?_getD]
    cases hg : σ[t.1]? with
    | none => exact wf_con m 0
    | some f => exact h f (List.mem_of_getElem? hg)
theorem wf_sbF {m : Nat} {σ : List Fm} (h : ∀ f ∈ σ, wfF m f) (f : Fm) : wfF m (sbF σ f) := by
  unfold sbF
  split
  · rename_i e
    intro t ht
    rw [e] at ht
    cases ht
  · exact wf_plus (wf_sbT h f.2)
/-- two forms are one number -/
def eqF (C : aC) (f g : Fm) : Bool := f == g || (leP C (fsub f g) && leP C (fsub g f))
theorem eqF_ok {P : aP} {L : bC} {h0 h : bH} {ρ : Nat → Int} {C : aC} {f g : Fm} (q : core P L h0 ρ h C) (hf : wfF (eC C).length f) (hg : wfF (eC C).length g) (hs : eqF C f g = true) : ev ρ f = ev ρ g := by
  unfold eqF at hs
  rw [Bool.or_eq_true, beq_iff_eq, Bool.and_eq_true] at hs
  rcases hs with rfl | ⟨h1, h2⟩
  · rfl
  · have a := leP_ok q (wf_sub hf hg) h1
    have b := leP_ok q (wf_sub hg hf) h2
    rw [fsub_ev] at a b
    omega
/-- a known state is well made -/
def okP (T : aS) : Bool := (T.1.all fun q => wfB (eC T.2.2).length q.2.2) && ((T.2.1.all fun v => wfB (eC T.2.2).length v.2) && (((fC T.2.2).all fun f => wfB (eC T.2.2).length f) && ((cC T.2.2).all fun c => wfB (eC T.2.2).length c.2)))
theorem okP_x {T : aS} (h : okP T = true) : wfL (eC T.2.2).length T.1 ∧ wfS (eC T.2.2).length T.2.1 ∧ (∀ f ∈ fC T.2.2, wfF (eC T.2.2).length f) ∧ ∀ c ∈ cC T.2.2, wfF (eC T.2.2).length c.2 := by
  unfold okP at h
  simp only [Bool.and_eq_true, List.all_eq_true] at h
  exact ⟨fun q hq => wfB_x (h.1 q hq), fun v hv => wfB_x (h.2.1 v hv), fun f hf => wfB_x (h.2.2.1 f hf), fun c hc => wfB_x (h.2.2.2 c hc)⟩
def rgs (C : aC) : List Fm → REnv → Bool
  | [], [] => true
  | f :: fs, b :: bs => inB C b.1 b.2 f && rgs C fs bs
  | _, _ => false
theorem rgs_ok {P : aP} {L : bC} {h0 h : bH} {ρ : Nat → Int} {C : aC} (q : core P L h0 ρ h C) : ∀ {σ : List Fm} {E : REnv}, rgs C σ E = true → (∀ f ∈ σ, wfF (eC C).length f) → ∀ i, i < E.length → (E.getD i (0, 0)).1 ≤ ev ρ (σ.getD i (0, [])) ∧ ev ρ (σ.getD i (0, [])) ≤ (E.getD i (0, 0)).2
  | [], [], _, _, i, hi => by simp at hi
  | f :: fs, b :: bs, h1, h2, 0, _ => by
    unfold rgs at h1
    rw [Bool.and_eq_true] at h1
    have a := inB_ok q (h2 f List.mem_cons_self) h1.1
    simp only [List.getD_cons_zero]
    exact a
  | f :: fs, b :: bs, h1, h2, i + 1, hi => by
    unfold rgs at h1
    rw [Bool.and_eq_true] at h1
    simp only [List.getD_cons_succ]
    exact rgs_ok q h1.2 (fun x hx => h2 x (List.mem_cons_of_mem _ hx)) i (by simpa using hi)
def eqS (C : aC) (σ : List Fm) : List AV → List AV → Bool
  | [], [] => true
  | v :: vs, w :: ws => v.1 == w.1 && (eqF C v.2 (sbF σ w.2) && eqS C σ vs ws)
  | _, _ => false
theorem eqS_ok {P : aP} {L : bC} {h0 h : bH} {ρ : Nat → Int} {C : aC} {σ : List Fm} (q : core P L h0 ρ h C) (hσ : ∀ f ∈ σ, wfF (eC C).length f) : ∀ {s t : List AV}, eqS C σ s t = true → wfS (eC C).length s → evS (rsb ρ σ) t = evS ρ s
  | [], [], _, _ => rfl
  | v :: vs, w :: ws, h1, h2 => by
    unfold eqS at h1
    simp only [Bool.and_eq_true, beq_iff_eq] at h1
    have hw := wfS_x h2
    have e := eqF_ok q hw.1 (wf_sbF hσ _) h1.2.1
    rw [sbF_ev] at e
    unfold evS
    rw [List.map_cons, List.map_cons, ← e, h1.1]
    have := eqS_ok q hσ h1.2.2 hw.2
    unfold evS at this
    rw [this]
/-- the present state is the known one, forms put in -/
def amatch (P : aP) (m0 : Nat) (σ : List Fm) (S T : aS) : Bool :=
  (σ.all fun f => wfB (eC S.2.2).length f) && (rgs S.2.2 σ (eC T.2.2) && (((List.range m0).all fun i => σ.getD i (0, []) == fid i) && (((fC T.2.2).all fun f => leP2 S.2.2 (sbF σ f)) && ((T.1.all fun q => match S.1.lookup q.1 with
    | some v => v.1 == q.2.1 && eqF S.2.2 v.2 (sbF σ q.2.2)
    | none => false) && (eqS S.2.2 σ S.2.1 T.2.1 && (((cC T.2.2).all fun c => match clook c.1.1 c.1.2 (cC S.2.2) with
    | some f => eqF S.2.2 f (sbF σ c.2)
    | none => false) && (((cC S.2.2).all fun c => inTy P S.2.2 c || (clook c.1.1 c.1.2 (cC T.2.2)).isSome) && (nC S.2.2 == nC T.2.2 && okP T))))))))
theorem evL_mem {ρ : Nat → Int} {j : Nat} {v : AV} {lv : aL} (h : lv.lookup j = some v) : (j, (v.1, ev ρ v.2)) ∈ evL ρ lv := by
  apply lookup_mem
  rw [evL_look, h]
  rfl
theorem amatch_ok {P : aP} {L : bC} {h0 h : bH} {ρ : Nat → Int} {S T : aS} {m0 : Nat} {σ : List Fm} (q : aIn P L h0 ρ h S) (hs : amatch P m0 σ S T = true) (hm : P.2.2.2 = true → 8 ≤ m0 ∧ m0 ≤ (eC T.2.2).length) : aIn P L h0 (rsb ρ σ) h T ∧ ext m0 ρ (rsb ρ σ) ∧ (∀ x ∈ evL (rsb ρ σ) T.1, x ∈ evL ρ S.1) ∧ evS (rsb ρ σ) T.2.1 = evS ρ S.2.1 ∧ nC T.2.2 = nC S.2.2 := by
  unfold amatch at hs
  simp only [Bool.and_eq_true] at hs
  obtain ⟨s1, s2, s3, s4, s5, s6, s7, s8, s9, s10⟩ := hs
  obtain ⟨w1, w2, w3, w4⟩ := okP_x s10
  have q1 := q.1
  have hσ : ∀ f ∈ σ, wfF (eC S.2.2).length f := fun f hf => wfB_x (List.all_eq_true.mp s1 f hf)
  have hx : ext m0 ρ (rsb ρ σ) := fun i hi => by
    have := List.all_eq_true.mp s3 i (List.mem_range.mpr hi)
    rw [beq_iff_eq] at this
    unfold rsb
    rw [this, fid_ev]
  have hn : nC T.2.2 = nC S.2.2 := by rw [beq_iff_eq] at s9; exact s9.symm
  refine ⟨⟨⟨fun i hi => rgs_ok q1 s2 hσ i hi, fun f hf => ⟨w3 f hf, ?_⟩, fun c hc => ⟨w4 c hc, ?_⟩, ?_, q1.2.2.2.2.1, fun hp => ?_⟩, w1, w2⟩, hx, ?_, eqS_ok q1 hσ s6 q.2.2, hn⟩
  · have := leP2_ok q1 (wf_sbF hσ f) (List.all_eq_true.mp s4 f hf)
    rw [sbF_ev] at this
    exact this
  · have := List.all_eq_true.mp s7 c hc
    split at this
    case h_2 => cases this
    rename_i f hf
    have hq := q1.2.2.1 _ (clook_some hf)
    have e := eqF_ok q1 hq.1 (wf_sbF hσ _) this
    rw [sbF_ev] at e
    exact hq.2.trans e
  · intro a j ha hj hc
    by_cases hc2 : ∀ c ∈ cC S.2.2, c.1 ≠ (a, j)
    · exact q1.2.2.2.1 a j (by rw [← hn]; exact ha) hj hc2
    · simp only [Classical.not_forall, ne_eq, Classical.not_not] at hc2
      obtain ⟨c, hcm, he⟩ := hc2
      have := List.all_eq_true.mp s8 c hcm
      rw [Bool.or_eq_true] at this
      rcases this with hi | hi
      · have hi := inB_ok q1 (q1.2.2.1 c hcm).1 hi
        have e := (q1.2.2.1 c hcm).2
        rw [he] at e hi
        dsimp only at e hi
        omega
      · cases hk : clook c.1.1 c.1.2 (cC T.2.2) with
        | none => rw [hk] at hi; cases hi
        | some f =>
          have := hc _ (clook_some hk)
          rw [he] at this
          exact absurd rfl this
  · obtain ⟨g1, g2⟩ := q1.2.2.2.2.2 hp
    obtain ⟨g3, g4⟩ := hm hp
    exact ⟨scr_ext (fun i hi => hx i (Nat.lt_of_lt_of_le hi g3)) g1, Nat.le_trans g3 g4⟩
  · intro x hx
    obtain ⟨z, hz, rfl⟩ := List.mem_map.mp hx
    have := List.all_eq_true.mp s5 z hz
    split at this
    case h_2 => cases this
    rename_i v hv
    rw [Bool.and_eq_true, beq_iff_eq] at this
    have e := eqF_ok q1 (wf_look q.2.1 hv) (wf_sbF hσ _) this.2
    rw [sbF_ev] at e
    rw [← this.1, ← e]
    exact evL_mem hv
end
-- == 40c.places.lean.txt
section
/-! PLACES OF ARRAYS KNOWN FROM THE START (array, from, to); METHODS WHOSE QUOTIENTS ARE REMEMBERED (by claim) -/
def kXa : List Nat := [32, 33, 116, 117, 194, 195]
def kXi : List (Nat × Nat × Nat) := [(32, 0, 6), (33, 0, 8), (116, 0, 6), (117, 0, 8), (194, 582, 636), (195, 582, 636)]
def kMem : List Nat := [17]
def kBit : List Nat := []
end
-- == 41.make.lean.txt
section
/-! MAKING CELLS IN THE CHECKER -/
/-- places of arrays that are known from the start -/
def mkX (n j : Nat) : Bool := (kXa.contains n && kXi.any fun q => Nat.beq q.1 n && (Nat.ble q.2.1 j && Nat.ble (j + 1) q.2.2)) || (((n == 194 || n == 195) && (j == 3 || (decide (276 ≤ j) && decide (j < 306) && (j - 276) % 5 == 0))) || (n == 209 || n == 210))
def mkK (P : aP) (n : Nat) (f : Nat → Int) (j : Nat) : Bool := decide (10 ≤ (sh n).1) || (mkX n j || !(decide ((tyP P n j).1 ≤ f j) && decide (f j ≤ (tyP P n j).2)))
/-- a cell made, of contents f -/
def mkC (P : aP) (C : aC) (f : Nat → Int) : aC := (eC C, fC C, (((List.range (sh (nC C)).2).filter (mkK P (nC C) f)).map fun j => ((nC C, j), fcon (f j))) ++ (cC C).filter (fun c => !(c.1.1 == nC C)), nC C + 1)
theorem mkC_ok {P : aP} (hW : ∀ a j, wrP P a j = true) {L : bC} {h0 h : bH} {ρ : Nat → Int} {C : aC} {f : Nat → Int} (q : core P L h0 ρ h C) : core P L h0 ρ (hnew h (nC C) f) (mkC P C f) := by
  obtain ⟨q1, q2, q3, q4, q5, q6⟩ := q
  refine ⟨q1, q2, ?_, ?_, ?_, q6⟩
  · intro c hc
    rcases List.mem_append.mp hc with hc | hc
    · obtain ⟨j, hj, rfl⟩ := List.mem_map.mp hc
      refine ⟨wf_con _ _, ?_⟩
      rw [fcon_ev]
      exact if_pos rfl
    · obtain ⟨h1, h2⟩ := List.mem_filter.mp hc
      refine ⟨(q3 c h1).1, ?_⟩
      rw [← (q3 c h1).2]
      refine if_neg (fun e => ?_)
      rw [e] at h2
      simp at h2
  · intro a j h1 h2 h3
    by_cases e : a = nC C
    · subst e
      rw [show hnew h (nC C) f (nC C) j = f j from if_pos rfl]
      cases hk : mkK P (nC C) f j with
      | true =>
        exact absurd rfl (h3 ((nC C, j), fcon (f j)) (List.mem_append_left _ (List.mem_map.mpr ⟨j, List.mem_filter.mpr ⟨List.mem_range.mpr h2, hk⟩, rfl⟩)))
      | false =>
        unfold mkK at hk
        simp only [Bool.or_eq_false_iff, Bool.not_eq_false', Bool.and_eq_true, decide_eq_true_eq] at hk
        exact hk.2.2
    · rw [show hnew h (nC C) f a j = h a j from if_neg e]
      have h1 : a < nC C + 1 := h1
      refine q4 a j (by omega) h2 (fun c hc e2 => ?_)
      refine h3 c (List.mem_append_right _ (List.mem_filter.mpr ⟨hc, ?_⟩)) e2
      rw [e2]
      simpa using e
  · intro a j hw
    rw [hW a j] at hw
    cases hw
/-- rows of a table of tables: N cells of zeros -/
def mkN (P : aP) (C : aC) : Nat → aC
  | 0 => C
  | N + 1 => mkC P (mkN P C N) (fun _ => 0)
def hmn (h : bH) (n : Nat) : Nat → bH
  | 0 => h
  | N + 1 => hnew (hmn h n N) (n + N) (fun _ => 0)
theorem mkN_n (P : aP) (C : aC) : ∀ N, nC (mkN P C N) = nC C + N ∧ eC (mkN P C N) = eC C
  | 0 => ⟨rfl, rfl⟩
  | N + 1 => by
    have := mkN_n P C N
    refine ⟨?_, this.2⟩
    show nC (mkN P C N) + 1 = _
    rw [this.1]
    omega
theorem mkN_ok {P : aP} (hW : ∀ a j, wrP P a j = true) {L : bC} {h0 h : bH} {ρ : Nat → Int} {C : aC} (q : core P L h0 ρ h C) : ∀ N, core P L h0 ρ (hmn h (nC C) N) (mkN P C N)
  | 0 => q
  | N + 1 => by
    have := mkC_ok hW (f := fun _ => 0) (mkN_ok hW q N)
    rw [(mkN_n P C N).1] at this
    exact this
theorem hmn_at (h : bH) (n b i : Nat) : ∀ N, hmn h n N b i = if n ≤ b ∧ b < n + N then 0 else h b i
  | 0 => by
    rw [if_neg (by omega)]; rfl
  | N + 1 => by
    show (if b = n + N then 0 else hmn h n N b i) = _
    rw [hmn_at h n b i N]
    split
    · rw [if_pos (by omega)]
    · split
      · rw [if_pos (by omega)]
      · rw [if_neg (by omega)]
theorem hmul_hmn (h : bH) (n N : Nat) : hmul h n N = hmn (hnew h n (fun i => ((n + 1 + i : Nat) : Int))) (n + 1) N := by
  funext b i
  rw [hmn_at]
  unfold hmul hnew
  by_cases e : b = n
  · rw [if_pos e, if_neg (by omega), if_pos e]
  · rw [if_neg e]
    split
    · rw [if_pos (by omega)]
    · rw [if_neg (by omega)]
/-- what making gives -/
def amk (P : aP) (t : Tok) (S : aS) : Option aS := match t.1, S with
  | .new _, (lv, st, C) => if (sh (nC C)).1 = 10 + t.2.2.1 ∧ nC C < 212 then some (lv, (2, fcon (nC C : Int)) :: st, mkC P C (fun j => if fkd t.2.2.1 j = 2 then -1 else 0)) else none
  | .newarray ty, (lv, x :: r, C) => if x.1 = 0 then (match fone C x.2 with
      | some c => if 0 ≤ c ∧ sh (nC C) = (if newarray.typeOf ty = .int then 0 else 1, c.toNat) ∧ nC C < 212 ∧ (newarray.typeOf ty = .int ∨ newarray.typeOf ty = .long) then some (lv, (2, fcon (nC C : Int)) :: r, mkC P C (fun _ => 0)) else none
      | none => none) else none
  | .anewarray _, (lv, x :: r, C) => if x.1 = 0 then (match fone C x.2 with
      | some c => if 0 ≤ c ∧ sh (nC C) = (2, c.toNat) ∧ nC C < 212 then some (lv, (2, fcon (nC C : Int)) :: r, mkC P C (fun _ => -1)) else none
      | none => none) else none
  | .multianewarray _ m, (lv, y :: x :: r, C) => if m = 2 ∧ y.1 = 0 ∧ x.1 = 0 then (match fone C x.2, fone C y.2 with
      | some a, some b => if 0 ≤ a ∧ 0 ≤ b ∧ sh (nC C) = (3, a.toNat) ∧ ((List.range a.toNat).all fun i => sh (nC C + 1 + i) == (1, b.toNat)) = true ∧ a < 100 ∧ b < 2000 ∧ nC C + 1 + a.toNat ≤ 212 then some (lv, (2, fcon (nC C : Int)) :: r, mkN P (mkC P C (fun i => ((nC C + 1 + i : Nat) : Int))) a.toNat) else none
      | _, _ => none) else none
  | _, _ => none
section MK
variable {g : bG} {l : Launch} {d k n0 n1 : Nat} {Q : bQ}
theorem amk_ok {P : aP} (hW : ∀ a j, wrP P a j = true) {L : bC} {t : Tok} {h0 h : bH} {ρ : Nat → Int} {S S' : aS} {pc : Nat} (hd : decode (mcode k) pc = .ok (t.1, t.2.1)) (ht : okT k t = true) (q : aIn P L h0 ρ h S) (hs : amk P t S = some S') (hn1 : nC S'.2.2 ≤ n1) : eC S'.2.2 = eC S.2.2 ∧ ∃ h', aIn P L h0 ρ h' S' ∧ (WP g l d k n0 n1 Q (conc ρ (pc + ilen t.1) (nC S'.2.2) h' S') → WP g l d k n0 n1 Q (conc ρ pc (nC S.2.2) h S)) := by
  obtain ⟨i, len, aux, wx⟩ := t
  unfold amk at hs
  split at hs
  · rename_i _ _ ix lv st C hi
    dsimp only at hi
    subst hi
    split at hs
    case isFalse => cases hs
    rename_i e
    cases hs
    have hl : len = 3 := okT_len ht rfl
    subst hl
    have hN : okN k (.new ix, 3, aux, wx) ix = true := by
      unfold okT at ht
      rw [Bool.and_eq_true] at ht
      exact ht.2
    refine ⟨rfl, _, ⟨mkC_ok hW q.1, q.2.1, wfS_c (wf_con _ _) q.2.2⟩, fun hk => ?_⟩
    refine wp_new hd hN e.1 e.2 hn1 ?_
    unfold conc at hk
    simp only [evS, List.map_cons, fcon_ev] at hk
    exact hk
  · rename_i _ _ ty lv x r C hi
    dsimp only at hi
    subst hi
    split at hs
    case isFalse => cases hs
    rename_i e0
    split at hs
    case h_2 => cases hs
    rename_i c hc
    by_cases e : 0 ≤ c ∧ sh (nC C) = (if newarray.typeOf ty = .int then 0 else 1, c.toNat) ∧ nC C < 212 ∧ (newarray.typeOf ty = .int ∨ newarray.typeOf ty = .long)
    case neg => rw [if_neg e] at hs; cases hs
    rw [if_pos e] at hs
    cases hs
    have hl : len = 2 := okT_len ht rfl
    subst hl
    have w := wfS_x q.2.2
    have q1 : core P L h0 ρ h C := q.1
    have f1 := fone_ok q1 w.1 hc
    have hN : okW wx (.arrayClass (newarray.typeOf ty)) = true := by
      unfold okT at ht
      rw [Bool.and_eq_true] at ht
      exact ht.2
    refine ⟨rfl, _, ⟨mkC_ok hW q1, q.2.1, wfS_c (wf_con _ _) w.2⟩, fun hk => ?_⟩
    have hk2 : WP g l d k n0 n1 Q (pc + 2, evL ρ lv, (2, ((nC C : Nat) : Int)) :: evS ρ r, nC C + 1, hnew h (nC C) (fun _ => 0)) := by
      unfold conc at hk
      simp only [evS, List.map_cons, fcon_ev] at hk
      exact hk
    have hty : (newarray.typeOf ty = .int ∧ (if newarray.typeOf ty = .int then 0 else 1) = 0) ∨ (newarray.typeOf ty = .long ∧ (if newarray.typeOf ty = .int then 0 else 1) = 1) := by
      rcases e.2.2.2 with h | h
      · exact Or.inl ⟨h, by rw [if_pos h]⟩
      · exact Or.inr ⟨h, by rw [h]; rfl⟩
    have := wp_newa (aux := aux) (len := 2) hd hN hty e.1 e.2.1 e.2.2.1 hn1 hk2
    unfold conc
    simp only [evS, List.map_cons]
    rw [f1, e0]
    exact this
  · rename_i _ _ ix lv x r C hi
    dsimp only at hi
    subst hi
    split at hs
    case isFalse => cases hs
    rename_i e0
    split at hs
    case h_2 => cases hs
    rename_i c hc
    split at hs
    case isFalse => cases hs
    rename_i e
    cases hs
    have hl : len = 3 := okT_len ht rfl
    subst hl
    have w := wfS_x q.2.2
    have q1 : core P L h0 ρ h C := q.1
    have f1 := fone_ok q1 w.1 hc
    have hN : okW wx (.classLink (mown k) ix "BoxLeaves$Terms") = true := by
      unfold okT at ht
      rw [Bool.and_eq_true] at ht
      exact ht.2
    refine ⟨rfl, _, ⟨mkC_ok hW q1, q.2.1, wfS_c (wf_con _ _) w.2⟩, fun hk => ?_⟩
    have hk2 : WP g l d k n0 n1 Q (pc + 3, evL ρ lv, (2, ((nC C : Nat) : Int)) :: evS ρ r, nC C + 1, hnew h (nC C) (fun _ => -1)) := by
      unfold conc at hk
      simp only [evS, List.map_cons, fcon_ev] at hk
      exact hk
    have := wp_anew (aux := aux) (len := 3) hd hN e.1 e.2.1 e.2.2 hn1 hk2
    unfold conc
    simp only [evS, List.map_cons]
    rw [f1, e0]
    exact this
  · rename_i _ _ ix m lv y x r C hi
    dsimp only at hi
    subst hi
    split at hs
    case isFalse => cases hs
    rename_i e0
    obtain ⟨rfl, e01, e02⟩ := e0
    split at hs
    case h_2 => cases hs
    rename_i a b ha hb
    split at hs
    case isFalse => cases hs
    rename_i e
    obtain ⟨e1, e2, e3, e4, e5, e6, e7⟩ := e
    cases hs
    have hl : len = 4 := okT_len ht rfl
    subst hl
    obtain ⟨wy, w⟩ := wfS_x q.2.2
    have w := wfS_x w
    have q1 : core P L h0 ρ h C := q.1
    have f1 := fone_ok q1 w.1 ha
    have f2 := fone_ok q1 wy hb
    have hN : okW wx (.classLink (mown k) ix "[[J") = true ∧ okW aux (.arrayClass .long) = true := by
      unfold okT at ht
      rw [Bool.and_eq_true] at ht
      have := ht.2
      dsimp only at this
      rw [Bool.and_eq_true] at this
      exact this
    have hm := mkN_n P (mkC P C (fun i => ((nC C + 1 + i : Nat) : Int))) a.toNat
    have hm1 : nC (mkN P (mkC P C (fun i => ((nC C + 1 + i : Nat) : Int))) a.toNat) = nC C + 1 + a.toNat := hm.1
    have hm2 : eC (mkN P (mkC P C (fun i => ((nC C + 1 + i : Nat) : Int))) a.toNat) = eC C := hm.2
    have hc := mkN_ok hW (mkC_ok hW (f := fun i => ((nC C + 1 + i : Nat) : Int)) q1) a.toNat
    refine ⟨hm2, _, ⟨hc, ?_, ?_⟩, fun hk => ?_⟩
    · show wfL (eC (mkN P _ a.toNat)).length lv
      rw [hm2]; exact q.2.1
    · show wfS (eC (mkN P _ a.toNat)).length _
      rw [hm2]; exact wfS_c (wf_con _ _) w.2
    · have hk2 : WP g l d k n0 n1 Q (pc + 4, evL ρ lv, (2, ((nC C : Nat) : Int)) :: evS ρ r, nC C + 1 + a.toNat, hmul h (nC C) a.toNat) := by
        rw [hmul_hmn]
        unfold conc at hk
        simp only [evS, List.map_cons, fcon_ev] at hk
        rw [hm1] at hk
        exact hk
      have hn1' : nC C + 1 + a.toNat ≤ n1 := by
        have : nC (mkN P (mkC P C (fun i => ((nC C + 1 + i : Nat) : Int))) a.toNat) ≤ n1 := hn1
        rw [hm1] at this
        exact this
      have hin : ∀ i, i < a.toNat → sh (nC C + 1 + i) = (1, b.toNat) := fun i hi => by
        have := List.all_eq_true.mp e4 i (List.mem_range.mpr hi)
        exact eq_of_beq this
      have := wp_multi hd hN.1 hN.2 e1 e2 e3 hin e5 e6 e7 hn1' hk2
      unfold conc
      simp only [evS, List.map_cons]
      rw [f1, f2, e01, e02]
      exact this
  · cases hs
end MK
end
-- == 42.ct.lean.txt
section
/-! CONTRACTS OF METHODS -/
/-- the ranges of places, cells of one range -/
abbrev aG : Type := (Nat → Nat → Int × Int) × (Nat → Option (Int × Int))
/-- what may be written: none: all; else cells' places from, to -/
abbrev aW : Type := Option (List (Nat × Nat × Nat))
def wrF (w : aW) (a j : Nat) : Bool := match w with
  | none => true
  | some ws => ws.any fun q => q.1 == a && (decide (q.2.1 ≤ j) && decide (j < q.2.2))
def PofW (G : aG) (w : aW) (hs : Bool) : aP := (G.1, G.2, wrF w, hs)
/-- what a method leaves: the state (unknowns added behind the entry's), the answer -/
abbrev aPost : Type := aC × Option AV
/-- method, level, writes, script, state at the entry, arguments, what it leaves -/
abbrev aCt : Type := Nat × Nat × aW × Bool × aC × List AV × List aPost
abbrev ctK (c : aCt) : Nat := c.1
abbrev ctL (c : aCt) : Nat := c.2.1
abbrev ctW (c : aCt) : aW := c.2.2.1
abbrev ctS (c : aCt) : Bool := c.2.2.2.1
abbrev ctC (c : aCt) : aC := c.2.2.2.2.1
abbrev ctA (c : aCt) : List AV := c.2.2.2.2.2.1
abbrev ctP (c : aCt) : List aPost := c.2.2.2.2.2.2
def evR (ρ : Nat → Int) (r : Option AV) : Option bV := r.map fun v => (v.1, ev ρ v.2)
/-- how it may end -/
def isPost (G : aG) (c : aCt) (L : bC) (h : bH) (ρ : Nat → Int) (r : Option bV) (h' : bH) : Prop := ∃ p ∈ ctP c, ∃ ρ', ext (eC (ctC c)).length ρ ρ' ∧ core (PofW G (ctW c) (ctS c)) L h ρ' h' p.1 ∧ r = evR ρ' p.2
def ctN (c : aCt) : Nat := match ctP c with
  | p :: _ => nC p.1
  | [] => 0
/-- the contract is kept -/
def Keeps (g : bG) (l : Launch) (G : aG) (c : aCt) : Prop := ∀ (d : Nat), ctL c ≤ d → ∀ (ρ : Nat → Int) (h : bH) (Q : bQ), core (PofW G (ctW c) (ctS c)) (gsc g) h ρ h (ctC c) → (∀ r h', isPost G c (gsc g) h ρ r h' → Q r h') → MH g l d (ctK c) (nC (ctC c)) (ctN c) (evS ρ (ctA c)) h Q
/-- well made: what it leaves speaks of its own unknowns, and leaves as many cells every way -/
def okCt (c : aCt) : Bool := (ctP c).all fun p => decide ((eC (ctC c)).length ≤ (eC p.1).length) && (nC p.1 == ctN c && (((fC p.1).all fun f => wfB (eC p.1).length f) && (((cC p.1).all fun q => wfB (eC p.1).length q.2) && (match p.2 with
  | some v => wfB (eC p.1).length v.2
  | none => true))))
theorem wrF_sub {w w' : aW} {a j : Nat} (h : (match w, w' with
    | _, none => true
    | none, some _ => false
    | some ws, some ws' => ws.all fun q => ws'.any fun q' => q'.1 == q.1 && (decide (q'.2.1 ≤ q.2.1) && decide (q.2.2 ≤ q'.2.2))) = true) (hw : wrF w a j = true) : wrF w' a j = true := by
  cases w' with
  | none => rfl
  | some ws' =>
    cases w with
    | none => cases h
    | some ws =>
      dsimp only at h
      unfold wrF at hw ⊢
      dsimp only at hw ⊢
      rw [List.any_eq_true] at hw ⊢
      obtain ⟨q, hq, hw⟩ := hw
      have := List.all_eq_true.mp h q hq
      rw [List.any_eq_true] at this
      obtain ⟨q', hq', h2⟩ := this
      refine ⟨q', hq', ?_⟩
      simp only [Bool.and_eq_true, beq_iff_eq, decide_eq_true_eq] at hw h2 ⊢
      omega
def wrS (w w' : aW) : Bool := match w, w' with
  | _, none => true
  | none, some _ => false
  | some ws, some ws' => ws.all fun q => ws'.any fun q' => q'.1 == q.1 && (decide (q'.2.1 ≤ q.2.1) && decide (q.2.2 ≤ q'.2.2))
/-- the forms behind: the entry's unknowns as told, the new ones after the present ones -/
def tau (σ : List Fm) (m N : Nat) : List Fm := σ ++ (List.range N).map fun i => fid (m + i)
/-- the caller's state after -/
def aft (c : aCt) (σ : List Fm) (C : aC) (p : aPost) : aC :=
  let N := (eC p.1).length - (eC (ctC c)).length
  let t := tau σ (eC C).length N
  let kept := (cC C).filter fun q => !wrF (ctW c) q.1.1 q.1.2
  (eC C ++ (eC p.1).drop (eC (ctC c)).length, (fC p.1).map (sbF t) ++ fC C, kept ++ ((cC p.1).map fun q => (q.1, sbF t q.2)), nC p.1)
/-- arrival at a call: the state is the contract's, the arguments' forms are put in -/
def acallB (G : aG) (w : aW) (hs : Bool) (c : aCt) (σ : List Fm) (C : aC) (as : List AV) : Bool := amatch (PofW G w false) (if ctS c = true then 8 else 0) σ ([], as, C) ([], ctA c, ctC c) && (wrS (ctW c) w && (okCt c && ((!ctS c || (hs && decide (8 ≤ (eC (ctC c)).length))) && σ.length == (eC (ctC c)).length)))
theorem core_flag {G : aG} {w w' : aW} {b : Bool} {L : bC} {h0 h : bH} {ρ : Nat → Int} {C : aC} (q : core (PofW G w b) L h0 ρ h C) : core (PofW G w false) L h0 ρ h C := ⟨q.1, q.2.1, q.2.2.1, q.2.2.2.1, q.2.2.2.2.1, fun h => by cases h⟩
theorem acall_in {G : aG} {w : aW} {hs : Bool} {L : bC} {h0 h : bH} {ρ : Nat → Int} {C : aC} {c : aCt} {σ : List Fm} {as : List AV} (q : core (PofW G w hs) L h0 ρ h C) (ha : wfS (eC C).length as) (hb : acallB G w hs c σ C as = true) : core (PofW G (ctW c) (ctS c)) L h (rsb ρ σ) h (ctC c) ∧ evS (rsb ρ σ) (ctA c) = evS ρ as ∧ nC (ctC c) = nC C := by
  unfold acallB at hb
  simp only [Bool.and_eq_true] at hb
  obtain ⟨b1, b2, b3, b4, b5⟩ := hb
  have q0 : aIn (PofW G w false) L h0 ρ h ([], as, C) := ⟨core_flag (w' := w) q, fun x hx => (by cases hx), ha⟩
  obtain ⟨m1, m2, m3, m4, m5⟩ := amatch_ok q0 b1 (fun h => by cases h)
  have m1 := m1.1
  refine ⟨⟨m1.1, m1.2.1, m1.2.2.1, m1.2.2.2.1, fun _ _ _ => rfl, fun hp => ?_⟩, m4, m5⟩
  have hp : ctS c = true := hp
  rw [hp] at b4
  simp only [Bool.not_true, Bool.false_or, Bool.and_eq_true, decide_eq_true_eq] at b4
  obtain ⟨g1, g2⟩ := q.2.2.2.2.2 (show (PofW G w hs).2.2.2 = true from b4.1)
  rw [hp, if_pos rfl] at m2
  exact ⟨scr_ext m2 g1, b4.2⟩
/-- the valuation after -/
def rcat (ρ ρ' : Nat → Int) (m mT : Nat) : Nat → Int := fun i => if i < m then ρ i else ρ' (mT + (i - m))
theorem aft_ok {G : aG} {w : aW} {hs : Bool} {L : bC} {h0 h h' : bH} {ρ ρ' : Nat → Int} {C : aC} {c : aCt} {σ : List Fm} {as : List AV} {p : aPost} (q : core (PofW G w hs) L h0 ρ h C) (ha : wfS (eC C).length as) (hb : acallB G w hs c σ C as = true) (hp : p ∈ ctP c) (hx : ext (eC (ctC c)).length (rsb ρ σ) ρ') (hc : core (PofW G (ctW c) (ctS c)) L h ρ' h' p.1) : core (PofW G w hs) L h0 (rcat ρ ρ' (eC C).length (eC (ctC c)).length) h' (aft c σ C p) ∧ ext (eC C).length ρ (rcat ρ ρ' (eC C).length (eC (ctC c)).length) ∧ (∀ f, wfF (eC p.1).length f → ev (rcat ρ ρ' (eC C).length (eC (ctC c)).length) (sbF (tau σ (eC C).length ((eC p.1).length - (eC (ctC c)).length)) f) = ev ρ' f ∧ wfF (eC (aft c σ C p)).length (sbF (tau σ (eC C).length ((eC p.1).length - (eC (ctC c)).length)) f)) := by
  have hbb := hb
  unfold acallB at hbb
  simp only [Bool.and_eq_true] at hbb
  obtain ⟨b1, b2, b3, b4, b5⟩ := hbb
  rw [beq_iff_eq] at b5
  have ok := List.all_eq_true.mp b3 p hp
  simp only [Bool.and_eq_true, decide_eq_true_eq, beq_iff_eq] at ok
  obtain ⟨k1, k2, k3, k4, k5⟩ := ok
  have hσ : ∀ f ∈ σ, wfF (eC C).length f := fun f hf => by
    unfold amatch at b1
    simp only [Bool.and_eq_true] at b1
    exact wfB_x (List.all_eq_true.mp b1.1 f hf)
  generalize hm : (eC C).length = m at *
  generalize hT : (eC (ctC c)).length = mT at *
  generalize hN : (eC p.1).length - mT = N at *
  have hext : ext m ρ (rcat ρ ρ' m mT) := fun i hi => if_pos hi
  have hlen : (eC (aft c σ C p)).length = m + N := by
    show (eC C ++ (eC p.1).drop (eC (ctC c)).length).length = m + N
    rw [List.length_append, List.length_drop, hm, hT, hN]
  have hval : ∀ i, i < (eC p.1).length → rsb (rcat ρ ρ' m mT) (tau σ m N) i = ρ' i := by
    intro i hi
    unfold rsb tau
    by_cases e : i < mT
    · rw [List.getD_eq_getElem?_getD, List.getElem?_append_left (by omega), ← List.getD_eq_getElem?_getD]
      rw [hx i e]
      unfold rsb
      have hlt : i < σ.length := by omega
      have : wfF m (σ.getD i (0, [])) := by
        rw [List.getD_eq_getElem?_getD, List.getElem?_eq_getElem hlt]
        exact hσ _ (List.getElem_mem hlt)
      exact ev_same hext this
    · rw [List.getD_eq_getElem?_getD, List.getElem?_append_right (by omega), List.getElem?_map, List.getElem?_range (by omega)]
      show ev _ (fid (m + (i - σ.length))) = ρ' i
      rw [fid_ev]
      unfold rcat
      rw [if_neg (by omega)]
      congr 1
      omega
  have hwt : ∀ f ∈ tau σ m N, wfF (m + N) f := by
    intro f hf
    rcases List.mem_append.mp hf with hf | hf
    · exact wf_mono (hσ f hf) (by omega)
    · obtain ⟨i, hi, rfl⟩ := List.mem_map.mp hf
      have := List.mem_range.mp hi
      exact wf_id (by omega)
  have hev : ∀ f, wfF (eC p.1).length f → ev (rcat ρ ρ' m mT) (sbF (tau σ m N) f) = ev ρ' f := by
    intro f hf
    rw [sbF_ev]
    exact ev_same (m := (eC p.1).length) hval hf
  refine ⟨⟨?_, ?_, ?_, ?_, ?_, ?_⟩, hext, fun f hf => ⟨hev f hf, by rw [hlen]; exact wf_sbF hwt f⟩⟩
  · intro i hi
    rw [hlen] at hi
    show ((eC C ++ (eC p.1).drop (eC (ctC c)).length).getD i (0, 0)).1 ≤ _ ∧ _ ≤ ((eC C ++ (eC p.1).drop (eC (ctC c)).length).getD i (0, 0)).2
    rw [hT]
    by_cases e : i < m
    · rw [hext i e, List.getD_eq_getElem?_getD, List.getElem?_append_left (by omega), ← List.getD_eq_getElem?_getD]
      exact q.1 i (by omega)
    · rw [List.getD_eq_getElem?_getD, List.getElem?_append_right (by omega), List.getElem?_drop, ← List.getD_eq_getElem?_getD, hm]
      have := hc.1 (mT + (i - m)) (by omega)
      unfold rcat
      rw [if_neg e]
      exact this
  · intro f hf
    rw [hlen]
    rcases List.mem_append.mp hf with hf | hf
    · obtain ⟨f', hf', rfl⟩ := List.mem_map.mp hf
      show wfF (m + N) (sbF (tau σ (eC C).length ((eC p.1).length - (eC (ctC c)).length)) f') ∧ ev _ (sbF (tau σ (eC C).length ((eC p.1).length - (eC (ctC c)).length)) f') ≤ 0
      rw [hm, hT, hN]
      have := hc.2.1 f' hf'
      exact ⟨wf_sbF hwt f', by rw [hev f' this.1]; exact this.2⟩
    · have := q.2.1 f hf
      rw [hm] at this
      exact ⟨wf_mono this.1 (by omega), by rw [ev_same hext this.1]; exact this.2⟩
  · intro z hz
    rw [hlen]
    rcases List.mem_append.mp hz with hz | hz
    · obtain ⟨h1, h2⟩ := List.mem_filter.mp hz
      have := q.2.2.1 z h1
      rw [hm] at this
      refine ⟨wf_mono this.1 (by omega), ?_⟩
      rw [ev_same hext this.1, ← this.2]
      have h3 : wrF (ctW c) z.1.1 z.1.2 = false := by simpa using h2
      exact hc.2.2.2.2.1 _ _ h3
    · obtain ⟨z', hz', rfl⟩ := List.mem_map.mp hz
      have := hc.2.2.1 z' hz'
      dsimp only
      rw [hm, hT, hN]
      exact ⟨wf_sbF hwt _, by rw [hev _ this.1]; exact this.2⟩
  · intro a j h1 h2 h3
    refine hc.2.2.2.1 a j h1 h2 (fun z hz e => ?_)
    exact h3 _ (List.mem_append_right _ (List.mem_map.mpr ⟨z, hz, rfl⟩)) e
  · intro a j hw
    have hw2 : wrF (ctW c) a j = false := by
      cases e : wrF (ctW c) a j with
      | false => rfl
      | true =>
        have := wrF_sub (w := ctW c) (w' := w) b2 e
        rw [show wrP (PofW G w hs) a j = wrF w a j from rfl, this] at hw
        cases hw
    rw [hc.2.2.2.2.1 a j hw2]
    exact q.2.2.2.2.1 a j hw
  · intro hp
    obtain ⟨g1, g2⟩ := q.2.2.2.2.2 hp
    rw [hm] at g2
    rw [hlen]
    exact ⟨scr_ext (fun i hi => hext i (by omega)) g1, by omega⟩
end
-- == 43.find.lean.txt
section
/-! READING PLACES AHEAD, FINDING FORMS, RETURNS -/
def atouch (P : aP) : aC → List (Nat × Nat) → aC
  | C, [] => C
  | C, q :: qs => atouch P (if q.1 < nC C ∧ q.2 < (sh q.1).2 then (aload P C q.1 q.2).2 else C) qs
/-- grown: more unknowns, the same contents -/
def grown (P : aP) (L : bC) (h0 : bH) (ρ : Nat → Int) (h : bH) (C C' : aC) : Prop := ∃ ρ', ext (eC C).length ρ ρ' ∧ (eC C).length ≤ (eC C').length ∧ core P L h0 ρ' h C' ∧ nC C' = nC C
theorem grown.refl {P : aP} {L : bC} {h0 h : bH} {ρ : Nat → Int} {C : aC} (q : core P L h0 ρ h C) : grown P L h0 ρ h C C := ⟨ρ, fun _ _ => rfl, Nat.le_refl _, q, rfl⟩
theorem ext.trans {m m' : Nat} {ρ ρ1 ρ2 : Nat → Int} (h : ext m ρ ρ1) (h2 : ext m' ρ1 ρ2) (hm : m ≤ m') : ext m ρ ρ2 := fun i hi => (h2 i (by omega)).trans (h i hi)
theorem atouch_ok {P : aP} {L : bC} {h0 h : bH} : ∀ {qs : List (Nat × Nat)} {ρ : Nat → Int} {C : aC}, core P L h0 ρ h C → grown P L h0 ρ h C (atouch P C qs)
  | [], ρ, C, q => grown.refl q
  | p :: qs, ρ, C, q => by
    unfold atouch
    split
    · rename_i e
      obtain ⟨ρ1, x1, x2, x3, x4, x5, x6⟩ := aload_ok q e.1 e.2
      obtain ⟨ρ2, y1, y2, y3, y4⟩ := atouch_ok (qs := qs) x3
      exact ⟨ρ2, x1.trans y1 x2, Nat.le_trans x2 y2, y3, y4.trans x6⟩
    · exact atouch_ok q
/-- forms for a known state's unknowns, found at places that hold one alone -/
def lset (σ : List (Nat × Fm)) (i : Nat) (f : Fm) : List (Nat × Fm) := if σ.any (fun q => q.1 == i) then σ else (i, f) :: σ
def inf1 (σ : List (Nat × Fm)) (p f : Fm) : List (Nat × Fm) := match p.2 with
  | [t] => if t.2 = 1 then lset σ t.1 (fplus f (-p.1)) else if t.2 = -1 then lset σ t.1 (fneg (fplus f (-p.1))) else if 1 < t.2 then lset σ t.1 (fqt t.2 (fplus f (-p.1))) else σ
  | _ => σ
def infS (σ : List (Nat × Fm)) : List AV → List AV → List (Nat × Fm)
  | p :: ps, v :: vs => infS (inf1 σ p.2 v.2) ps vs
  | _, _ => σ
def infL (lv : aL) : List (Nat × Fm) → aL → List (Nat × Fm)
  | σ, [] => σ
  | σ, q :: qs => infL lv (match lv.lookup q.1 with
    | some v => inf1 σ q.2.2 v.2
    | none => σ) qs
def infC (ca : Ca) : List (Nat × Fm) → Ca → List (Nat × Fm)
  | σ, [] => σ
  | σ, c :: cs => infC ca (match clook c.1.1 c.1.2 ca with
    | some f => inf1 σ c.2 f
    | none => σ) cs
def infer (m0 : Nat) (S T : aS) : List Fm :=
  let σ := infC (cC S.2.2) (infL S.1 (infS [] T.2.1 S.2.1) T.1) (cC T.2.2)
  (List.range (eC T.2.2).length).map fun i => if i < m0 then fid i else match σ.lookup i with
    | some f => f
    | none => fcon (((eC T.2.2).getD i (0, 0)).1)
def b01 (b : Bool) : Nat := if b = true then 1 else 0
/-- a contract that fits -/
def tryC (G : aG) (w : aW) (hs : Bool) (k' d' : Nat) (C : aC) (as : List AV) : List aCt → Option (aCt × List Fm × aC)
  | [] => none
  | c :: cs =>
    if ctK c = k' ∧ ctL c ≤ d' then
      let C1 := atouch (PofW G w hs) C ((cC (ctC c)).map (·.1))
      let σ := infer (b01 (ctS c)) ([], as, C1) ([], ctA c, ctC c)
      if acallB G w hs c σ C1 as = true then some (c, σ, C1) else tryC G w hs k' d' C as cs
    else tryC G w hs k' d' C as cs
theorem tryC_ok {G : aG} {w : aW} {hs : Bool} {k' d' : Nat} {C C1 : aC} {as : List AV} {c : aCt} {σ : List Fm} : ∀ {cs : List aCt}, tryC G w hs k' d' C as cs = some (c, σ, C1) → c ∈ cs ∧ ctK c = k' ∧ ctL c ≤ d' ∧ acallB G w hs c σ C1 as = true ∧ C1 = atouch (PofW G w hs) C ((cC (ctC c)).map (·.1))
  | [], h => by cases h
  | q :: cs, h => by
    unfold tryC at h
    split at h
    · rename_i e
      dsimp only at h
      split at h
      · rename_i e2
        cases h
        exact ⟨List.mem_cons_self, e.1, e.2, e2, rfl⟩
      · obtain ⟨h1, h2⟩ := tryC_ok h
        exact ⟨List.mem_cons_of_mem _ h1, h2⟩
    · obtain ⟨h1, h2⟩ := tryC_ok h
      exact ⟨List.mem_cons_of_mem _ h1, h2⟩
/-- a return -/
def aret (t : Tok) (st : List AV) : Option (Option AV) := match t.1, st with
  | .return_, [] => some none
  | .ireturn, [v] => if v.1 = 0 then some (some v) else none
  | .lreturn, [v] => if v.1 = 1 then some (some v) else none
  | .areturn, [v] => if v.1 = 2 then some (some v) else none
  | _, _ => none
theorem aret_ok {ρ : Nat → Int} {t : Tok} {st : List AV} {r : Option AV} (h : aret t st = some r) : bret t.1 (evR ρ r) = true ∧ evS ρ st = (evR ρ r).toList ∧ st = r.toList := by
  obtain ⟨i, rr⟩ := t
  unfold aret at h
  split at h
  · rename_i hi
    dsimp only at hi
    subst hi
    cases h
    exact ⟨rfl, rfl, rfl⟩
  all_goals first
    | (cases h; done)
    | (rename_i _ v hi
       dsimp only at hi
       subst hi
       split at h
       · rename_i e
         cases h
         obtain ⟨a, b⟩ := v
         dsimp only at e
         subst e
         exact ⟨rfl, rfl, rfl⟩
       · cases h)
def abfit (C : aC) (ty : Option FieldType) (r : Option AV) : Bool := match ty, r with
  | none, none => true
  | some .int, some (0, f) => isIn (-2147483648) 2147483647 (iv (eC C) f)
  | some .boolean, some (0, f) => isIn 0 1 (iv (eC C) f)
  | some .long, some (1, f) => isIn (-9223372036854775808) 9223372036854775807 (iv (eC C) f)
  | some (.object _), some (2, f) => decide (-1 ≤ (iv (eC C) f).1)
  | some .char, some (0, f) => isIn 0 65535 (iv (eC C) f)
  | some .byte, some (0, f) => isIn 0 0 (iv (eC C) f)
  | _, _ => false
theorem abfit_ok {P : aP} {L : bC} {h0 h : bH} {ρ : Nat → Int} {C : aC} {ty : Option FieldType} {r : Option AV} (q : core P L h0 ρ h C) (hw : wfS (eC C).length r.toList) (hs : abfit C ty r = true) : bfit ty (evR ρ r) := by
  unfold abfit at hs
  split at hs
  case h_1 => trivial
  case h_8 => cases hs
  all_goals
    rename_i f
    have v := iv_ok q.1 (hw _ (List.mem_singleton.mpr rfl))
  case h_2 =>
    have b := isIn_x hs
    show in32 (ev ρ f)
    unfold in32
    dsimp only at v
    omega
  case h_3 =>
    have b := isIn_x hs
    show 0 ≤ ev ρ f ∧ ev ρ f ≤ 1
    dsimp only at v
    omega
  case h_4 =>
    have b := isIn_x hs
    show in64 (ev ρ f)
    unfold in64
    dsimp only at v
    omega
  case h_5 =>
    rw [decide_eq_true_eq] at hs
    show -1 ≤ ev ρ f
    dsimp only at v
    omega
  case h_6 =>
    have b := isIn_x hs
    show 0 ≤ ev ρ f ∧ ev ρ f < 65536
    dsimp only at v
    omega
  case h_7 =>
    have b := isIn_x hs
    show ev ρ f = 0
    dsimp only at v
    omega
end
