/-! BRANCHES OF THE CHECKER -/
/-- what 'd ≤ 0' makes of a state; none: it cannot be -/
def nar (C : aC) (d : Fm) : Option aC := if 0 < (iv (eC C) d).1 then none else match d.2 with
  | [] => some C
  | [_] => some (rle (eC C) d d.2 (eC C), C.2)
  | _ => if (fC C).contains d then some C else some (rle (eC C) d d.2 (eC C), d :: fC C, C.2.2)
/-- a state as good as another, with as many unknowns -/
def asC (P : aP) (L : bC) (h0 : bH) (ρ : Nat → Int) (h : bH) (C C' : aC) : Prop := core P L h0 ρ h C' ∧ (eC C').length = (eC C).length ∧ nC C' = nC C
theorem asC.refl {P : aP} {L : bC} {h0 h : bH} {ρ : Nat → Int} {C : aC} (q : core P L h0 ρ h C) : asC P L h0 ρ h C C := ⟨q, rfl, rfl⟩
theorem asC.trans {P : aP} {L : bC} {h0 h : bH} {ρ : Nat → Int} {C C1 C2 : aC} (q : asC P L h0 ρ h C C1) (r : asC P L h0 ρ h C1 C2) : asC P L h0 ρ h C C2 := ⟨r.1, r.2.1.trans q.2.1, r.2.2.trans q.2.2⟩
theorem core_env {P : aP} {L : bC} {h0 h : bH} {ρ : Nat → Int} {C : aC} {env' : REnv} (q : core P L h0 ρ h C) (he : eOK ρ env') (hl : env'.length = (eC C).length) : core P L h0 ρ h (env', C.2) := core_ext q he (fun _ _ => rfl) (Nat.le_of_eq hl.symm)
theorem core_fact {P : aP} {L : bC} {h0 h : bH} {ρ : Nat → Int} {env : REnv} {fs : List Fm} {r : Ca × Nat} {d : Fm} (q : core P L h0 ρ h (env, fs, r)) (hw : wfF env.length d) (hd : ev ρ d ≤ 0) : core P L h0 ρ h (env, d :: fs, r) := by
  obtain ⟨q1, q2, q3, q4, q5, q6⟩ := q
  exact ⟨q1, List.forall_mem_cons.mpr ⟨⟨hw, hd⟩, q2⟩, q3, q4, q5, q6⟩
theorem nar_ok {P : aP} {L : bC} {h0 h : bH} {ρ : Nat → Int} {C : aC} {d : Fm} (q : core P L h0 ρ h C) (hw : wfF (eC C).length d) (hd : ev ρ d ≤ 0) : ∃ C', nar C d = some C' ∧ asC P L h0 ρ h C C' := by
  have hi := iv_ok q.1 hw
  have hr := rle_ok q.1 hw hd (ts := d.2) (env := eC C) (fun t ht => ht) q.1
  unfold nar
  rw [if_neg (by omega)]
  split
  · exact ⟨C, rfl, asC.refl q⟩
  · exact ⟨_, rfl, core_env q hr.1 hr.2, hr.2, rfl⟩
  · split
    · exact ⟨C, rfl, asC.refl q⟩
    · refine ⟨_, rfl, ?_, hr.2, rfl⟩
      have := core_env q hr.1 hr.2
      exact core_fact this (by rw [hr.2]; exact hw) hd
def fneg (d : Fm) : Fm := fscale (-1) d
theorem fneg_ev (ρ : Nat → Int) (d : Fm) : ev ρ (fneg d) = -ev ρ d := by
  unfold fneg; rw [fscale_ev]; omega
theorem wf_neg {m : Nat} {d : Fm} (h : wfF m d) : wfF m (fneg d) := wf_scale h
def fplus (d : Fm) (c : Int) : Fm := (d.1 + c, d.2)
theorem fplus_ev (ρ : Nat → Int) (d : Fm) (c : Int) : ev ρ (fplus d c) = ev ρ d + c := by
  unfold fplus ev; dsimp only; omega
theorem wf_plus {m : Nat} {d : Fm} {c : Int} (h : wfF m d) : wfF m (fplus d c) := h
/-- d = 0 -/
def nEq (C : aC) (d : Fm) : Option aC := match nar C d with
  | some C1 => nar C1 (fneg d)
  | none => none
theorem nEq_ok {P : aP} {L : bC} {h0 h : bH} {ρ : Nat → Int} {C : aC} {d : Fm} (q : core P L h0 ρ h C) (hw : wfF (eC C).length d) (hd : ev ρ d = 0) : ∃ C', nEq C d = some C' ∧ asC P L h0 ρ h C C' := by
  obtain ⟨C1, e1, a1⟩ := nar_ok q hw (by omega)
  obtain ⟨C2, e2, a2⟩ := nar_ok (d := fneg d) a1.1 (by rw [a1.2.1]; exact wf_neg hw) (by rw [fneg_ev]; omega)
  refine ⟨C2, ?_, a1.trans a2⟩
  unfold nEq
  rw [e1]
  exact e2
/-- d ≠ 0 -/
def nNe (C : aC) (d : Fm) : Option aC := if leP C d = true then nar C (fplus d 1) else if leP C (fneg d) = true then nar C (fplus (fneg d) 1) else some C
theorem nNe_ok {P : aP} {L : bC} {h0 h : bH} {ρ : Nat → Int} {C : aC} {d : Fm} (q : core P L h0 ρ h C) (hw : wfF (eC C).length d) (hd : ev ρ d ≠ 0) : ∃ C', nNe C d = some C' ∧ asC P L h0 ρ h C C' := by
  unfold nNe
  split
  · rename_i e
    have := leP_ok q hw e
    exact nar_ok q (wf_plus hw) (by rw [fplus_ev]; omega)
  · split
    · rename_i e
      have := leP_ok q (wf_neg hw) e
      rw [fneg_ev] at this
      exact nar_ok q (wf_plus (wf_neg hw)) (by rw [fplus_ev, fneg_ev]; omega)
    · exact ⟨C, rfl, asC.refl q⟩
/-- 'x c y', d the form x - y -/
def nCo (C : aC) (c : Jvm.ClassFile.Cond) (d : Fm) : Option aC := match c with
  | .eq => nEq C d
  | .ne => nNe C d
  | .lt => nar C (fplus d 1)
  | .ge => nar C (fneg d)
  | .gt => nar C (fplus (fneg d) 1)
  | .le => nar C d
def opC : Jvm.ClassFile.Cond → Jvm.ClassFile.Cond
  | .eq => .ne
  | .ne => .eq
  | .lt => .ge
  | .ge => .lt
  | .gt => .le
  | .le => .gt
theorem opC_ok (c : Jvm.ClassFile.Cond) (x y : Int) : bcond (opC c) x y = !bcond c x y := by
  cases c <;> simp only [opC, bcond, Bool.not_not]
  case lt => by_cases h : x < y <;> simp [h] <;> omega
  case ge => by_cases h : y ≤ x <;> simp [h] <;> omega
  case gt => by_cases h : y < x <;> simp [h] <;> omega
  case le => by_cases h : x ≤ y <;> simp [h] <;> omega
theorem nCo_ok {P : aP} {L : bC} {h0 h : bH} {ρ : Nat → Int} {C : aC} {d : Fm} {c : Jvm.ClassFile.Cond} {x y : Int} (q : core P L h0 ρ h C) (hw : wfF (eC C).length d) (hd : ev ρ d = x - y) (hc : bcond c x y = true) : ∃ C', nCo C c d = some C' ∧ asC P L h0 ρ h C C' := by
  cases c
  case eq => simp only [bcond, decide_eq_true_eq] at hc; exact nEq_ok q hw (by omega)
  case ne => simp only [bcond, Bool.not_eq_true', decide_eq_false_iff_not] at hc; exact nNe_ok q hw (by omega)
  case lt => simp only [bcond, decide_eq_true_eq] at hc; exact nar_ok q (wf_plus hw) (by rw [fplus_ev]; omega)
  case ge => simp only [bcond, decide_eq_true_eq] at hc; exact nar_ok q (wf_neg hw) (by rw [fneg_ev]; omega)
  case gt => simp only [bcond, decide_eq_true_eq] at hc; exact nar_ok q (wf_plus (wf_neg hw)) (by rw [fplus_ev, fneg_ev]; omega)
  case le => simp only [bcond, decide_eq_true_eq] at hc; exact nar_ok q hw (by omega)
abbrev aB : Type := List (Nat × aS)
def side (pc : Nat) (lv : aL) (r : List AV) (C : Option aC) : aB := match C with
  | some C' => [(pc, lv, r, C')]
  | none => []
/-- both sides of a condition -/
def aside (c : Jvm.ClassFile.Cond) (d : Fm) (pt pf : Nat) (lv : aL) (r : List AV) (C : aC) : aB := side pt lv r (nCo C c d) ++ side pf lv r (nCo C (opC c) d)
/-- the machine goes to one of them -/
def bOut (P : aP) (L : bC) (h0 : bH) (ρ : Nat → Int) (h : bH) (S : aS) (Ls : aB) (r : Option bS) : Prop := ∃ pc' S', (pc', S') ∈ Ls ∧ aIn P L h0 ρ h S' ∧ (eC S'.2.2).length = (eC S.2.2).length ∧ nC S'.2.2 = nC S.2.2 ∧ r = some (conc ρ pc' (nC S.2.2) h S')
theorem side_in {P : aP} {L : bC} {h0 h : bH} {ρ : Nat → Int} {S : aS} {lv : aL} {r : List AV} {pc : Nat} {o : Option aC} (hl : wfL (eC S.2.2).length lv) (hr : wfS (eC S.2.2).length r) (hx : ∃ C', o = some C' ∧ asC P L h0 ρ h S.2.2 C') {Ls : aB} (hsub : ∀ q ∈ side pc lv r o, q ∈ Ls) {b : Option bS} (hb : b = some (pc, evL ρ lv, evS ρ r, nC S.2.2, h)) : bOut P L h0 ρ h S Ls b := by
  obtain ⟨C', rfl, a1, a2, a3⟩ := hx
  refine ⟨pc, (lv, r, C'), hsub _ List.mem_cons_self, ⟨a1, ?_, ?_⟩, a2, a3, hb⟩
  · show wfL (eC C').length lv
    rw [a2]; exact hl
  · show wfS (eC C').length r
    rw [a2]; exact hr
theorem aside_ok {P : aP} {L : bC} {h0 h : bH} {ρ : Nat → Int} {S : aS} {c : Jvm.ClassFile.Cond} {d : Fm} {pt pf : Nat} {lv : aL} {r : List AV} {x y : Int} (q : core P L h0 ρ h S.2.2) (hl : wfL (eC S.2.2).length lv) (hr : wfS (eC S.2.2).length r) (hw : wfF (eC S.2.2).length d) (hd : ev ρ d = x - y) {b : Option bS} (hb : b = some (if bcond c x y = true then pt else pf, evL ρ lv, evS ρ r, nC S.2.2, h)) : bOut P L h0 ρ h S (aside c d pt pf lv r S.2.2) b := by
  cases hc : bcond c x y with
  | true =>
    rw [hc, if_pos rfl] at hb
    exact side_in hl hr (nCo_ok q hw hd hc) (fun z hz => List.mem_append_left _ hz) hb
  | false =>
    rw [hc, if_neg (by decide)] at hb
    refine side_in hl hr (nCo_ok (c := opC c) q hw hd ?_) (fun z hz => List.mem_append_right _ hz) hb
    rw [opC_ok, hc]; rfl
