/-! THE BRANCHING INSTRUCTIONS -/
def atab (pc : Nat) (lv : aL) (r : List AV) (C : aC) (x : Fm) : Int → List Int → aB
  | _, [] => []
  | v, o :: os => side ((pc : Int) + o).toNat lv r (nEq C (fplus x (-v))) ++ atab pc lv r C x (v + 1) os
def alkp (pc : Nat) (lv : aL) (r : List AV) (C : aC) (x : Fm) : List (Int × Int) → aB
  | [] => []
  | q :: ps => side ((pc : Int) + q.2).toNat lv r (nEq C (fplus x (-q.1))) ++ alkp pc lv r C x ps
/-- where a branching instruction goes -/
def abr (t : Tok) (pc : Nat) (S : aS) : Option aB := match t.1, S with
  | .ifCond c off, (lv, x :: r, C) => if x.1 = 0 ∧ 0 ≤ (pc : Int) + off then some (aside c x.2 ((pc : Int) + off).toNat (pc + 3) lv r C) else none
  | .if_icmp c off, (lv, y :: x :: r, C) => if y.1 = 0 ∧ x.1 = 0 ∧ 0 ≤ (pc : Int) + off then some (aside c (fsub x.2 y.2) ((pc : Int) + off).toNat (pc + 3) lv r C) else none
  | .goto off, (lv, r, C) => if 0 ≤ (pc : Int) + off then some [(((pc : Int) + off).toNat, lv, r, C)] else none
  | .ifnull off, (lv, x :: r, C) => if x.1 = 2 ∧ 0 ≤ (pc : Int) + off then some (aside .lt x.2 ((pc : Int) + off).toNat (pc + 3) lv r C) else none
  | .ifnonnull off, (lv, x :: r, C) => if x.1 = 2 ∧ 0 ≤ (pc : Int) + off then some (aside .ge x.2 ((pc : Int) + off).toNat (pc + 3) lv r C) else none
  | .tableswitch d lo hi offs, (lv, x :: r, C) => if x.1 = 0 ∧ hi - lo + 1 = offs.toList.length ∧ 0 ≤ (pc : Int) + d ∧ offs.toList.all (fun o => decide (0 ≤ (pc : Int) + o)) = true then some (side ((pc : Int) + d).toNat lv r (nar C (fplus x.2 (1 - lo))) ++ side ((pc : Int) + d).toNat lv r (nar C (fplus (fneg x.2) (hi + 1))) ++ atab pc lv r C x.2 lo offs.toList) else none
  | .lookupswitch d ps, (lv, x :: r, C) => if x.1 = 0 ∧ bsorted ps.toList = true ∧ 0 ≤ (pc : Int) + d ∧ ps.toList.all (fun q => decide (0 ≤ (pc : Int) + q.2)) = true then some ((((pc : Int) + d).toNat, lv, r, C) :: alkp pc lv r C x.2 ps.toList) else none
  | _, _ => none
theorem atab_mem {pc : Nat} {lv : aL} {r : List AV} {C : aC} {x : Fm} : ∀ {os : List Int} {v : Int} {i : Nat} {o : Int}, os[i]? = some o → ∀ q ∈ side ((pc : Int) + o).toNat lv r (nEq C (fplus x (-(v + i)))), q ∈ atab pc lv r C x v os
  | [], _, _, _, h, _, _ => by simp at h
  | a :: os, v, 0, o, h, q, hq => by
    simp only [List.getElem?_cons_zero, Option.some.injEq] at h
    subst h
    rw [show v + ((0 : Nat) : Int) = v by omega] at hq
    exact List.mem_append_left _ hq
  | a :: os, v, i + 1, o, h, q, hq => by
    rw [List.getElem?_cons_succ] at h
    rw [show v + ((i + 1 : Nat) : Int) = v + 1 + (i : Int) by omega] at hq
    exact List.mem_append_right _ (atab_mem h q hq)
theorem alkp_off {pc : Nat} {lv : aL} {r : List AV} {C : aC} {x : Fm} {d v : Int} : ∀ {ps : List (Int × Int)}, (∃ o, (v, o) ∈ ps ∧ Op.lookupswitch.offset ps d v = o ∧ ∀ q ∈ side ((pc : Int) + o).toNat lv r (nEq C (fplus x (-v))), q ∈ alkp pc lv r C x ps) ∨ Op.lookupswitch.offset ps d v = d
  | [] => Or.inr rfl
  | (a, o) :: ps => by
    rw [Op.lookupswitch.offset_cons]
    by_cases e : a = v
    · subst e
      rw [if_pos rfl]
      exact Or.inl ⟨o, List.mem_cons_self, rfl, fun q hq => List.mem_append_left _ hq⟩
    · rw [if_neg e]
      rcases alkp_off (pc := pc) (lv := lv) (r := r) (C := C) (x := x) (d := d) (v := v) (ps := ps) with ⟨o2, h1, h2, h3⟩ | h
      · exact Or.inl ⟨o2, List.mem_cons_of_mem _ h1, h2, fun q hq => List.mem_append_right _ (h3 q hq)⟩
      · exact Or.inr h
theorem abr_ok {P : aP} {L : bC} {sc : bC} {k : Nat} {t : Tok} {h0 h : bH} {ρ : Nat → Int} {S : aS} {Ls : aB} {pc : Nat} (q : aIn P L h0 ρ h S) (hs : abr t pc S = some Ls) : bOut P L h0 ρ h S Ls (cst sc k t (conc ρ pc (nC S.2.2) h S)) := by
  obtain ⟨i, rr⟩ := t
  unfold abr at hs
  split at hs
  · rename_i _ _ c off lv x r C hi
    dsimp only at hi
    subst hi
    split at hs
    case isFalse => cases hs
    rename_i e
    cases hs
    have w := wfS_x q.2.2
    refine aside_ok (x := ev ρ x.2) (y := 0) q.1 q.2.1 w.2 w.1 (by omega) ?_
    show (if x.1 = 0 ∧ 0 ≤ (pc : Int) + off then _ else none) = _
    rw [if_pos e]
    rfl
  · rename_i _ _ c off lv y x r C hi
    dsimp only at hi
    subst hi
    split at hs
    case isFalse => cases hs
    rename_i e
    cases hs
    obtain ⟨wy, w⟩ := wfS_x q.2.2
    have w := wfS_x w
    refine aside_ok (x := ev ρ x.2) (y := ev ρ y.2) q.1 q.2.1 w.2 (wf_sub w.1 wy) (by rw [fsub_ev]) ?_
    show (if y.1 = 0 ∧ x.1 = 0 ∧ 0 ≤ (pc : Int) + off then _ else none) = _
    rw [if_pos e]
    rfl
  · rename_i _ _ off lv r C hi
    dsimp only at hi
    subst hi
    split at hs
    case isFalse => cases hs
    rename_i e
    cases hs
    refine ⟨_, _, List.mem_cons_self, q, rfl, rfl, ?_⟩
    show (if 0 ≤ (pc : Int) + off then _ else none) = _
    rw [if_pos e]
    rfl
  · rename_i _ _ off lv x r C hi
    dsimp only at hi
    subst hi
    split at hs
    case isFalse => cases hs
    rename_i e
    cases hs
    have w := wfS_x q.2.2
    refine aside_ok (x := ev ρ x.2) (y := 0) q.1 q.2.1 w.2 w.1 (by omega) ?_
    show (if x.1 = 2 ∧ 0 ≤ (pc : Int) + off then _ else none) = _
    rw [if_pos e]
    rfl
  · rename_i _ _ off lv x r C hi
    dsimp only at hi
    subst hi
    split at hs
    case isFalse => cases hs
    rename_i e
    cases hs
    have w := wfS_x q.2.2
    refine aside_ok (x := ev ρ x.2) (y := 0) q.1 q.2.1 w.2 w.1 (by omega) ?_
    show (if x.1 = 2 ∧ 0 ≤ (pc : Int) + off then _ else none) = _
    rw [if_pos e]
    have hb : decide (ev ρ x.2 < 0) = !bcond .ge (ev ρ x.2) 0 := by
      unfold bcond
      by_cases h : ev ρ x.2 < 0 <;> simp [h] <;> omega
    show some (if decide (ev ρ x.2 < 0) = false then _ else _, _) = _
    rw [hb]
    cases bcond .ge (ev ρ x.2) 0 <;> rfl
  · rename_i _ _ d lo hi' offs lv x r C hi
    dsimp only at hi
    subst hi
    split at hs
    case isFalse => cases hs
    rename_i e
    obtain ⟨e1, e2, e3, e4⟩ := e
    cases hs
    have w := wfS_x q.2.2
    have w1 : wfF (eC C).length x.2 := w.1
    have q1 : core P L h0 ρ h C := q.1
    have hm : cst sc k (.tableswitch d lo hi' offs, rr) (conc ρ pc (nC C) h (lv, x :: r, C)) = (if ev ρ x.2 < lo ∨ hi' < ev ρ x.2 then bjmp d (pc, evL ρ lv, evS ρ r, nC C, h) else match offs[(ev ρ x.2 - lo).toNat]? with
      | some o => bjmp o (pc, evL ρ lv, evS ρ r, nC C, h)
      | none => none) := by
      show (if x.1 = 0 then _ else none) = _
      rw [if_pos e1]
      rfl
    by_cases h1 : ev ρ x.2 < lo
    · rw [if_pos (Or.inl h1)] at hm
      refine side_in (S := (lv, x :: r, C)) q.2.1 w.2 (nar_ok (d := fplus x.2 (1 - lo)) q1 (wf_plus w1) (by rw [fplus_ev]; omega)) (fun z hz => List.mem_append_left _ (List.mem_append_left _ hz)) (hm.trans ?_)
      unfold bjmp
      rw [if_pos e3]
    · by_cases h2 : hi' < ev ρ x.2
      · rw [if_pos (Or.inr h2)] at hm
        refine side_in (S := (lv, x :: r, C)) q.2.1 w.2 (nar_ok (d := fplus (fneg x.2) (hi' + 1)) q1 (wf_plus (wf_neg w1)) (by rw [fplus_ev, fneg_ev]; omega)) (fun z hz => List.mem_append_left _ (List.mem_append_right _ hz)) (hm.trans ?_)
        unfold bjmp
        rw [if_pos e3]
      · rw [if_neg (by omega)] at hm
        have hlt : (ev ρ x.2 - lo).toNat < offs.toList.length := by omega
        have ho : offs.toList[(ev ρ x.2 - lo).toNat]? = some offs.toList[(ev ρ x.2 - lo).toNat] := List.getElem?_eq_getElem hlt
        generalize hoo : offs.toList[(ev ρ x.2 - lo).toNat] = o at ho
        have ho2 : offs[(ev ρ x.2 - lo).toNat]? = some o := by rw [← ho]; simp
        rw [ho2] at hm
        dsimp only at hm
        have hom : o ∈ offs.toList := List.mem_of_getElem? ho
        have e5 := List.all_eq_true.mp e4 o hom
        rw [decide_eq_true_eq] at e5
        refine side_in (S := (lv, x :: r, C)) q.2.1 w.2 (nEq_ok (d := fplus x.2 (-(lo + ((ev ρ x.2 - lo).toNat : Nat)))) q1 (wf_plus w1) (by rw [fplus_ev]; omega)) (fun z hz => List.mem_append_right _ (atab_mem ho z hz)) (hm.trans ?_)
        unfold bjmp
        rw [if_pos e5]
  · rename_i _ _ d ps lv x r C hi
    dsimp only at hi
    subst hi
    split at hs
    case isFalse => cases hs
    rename_i e
    obtain ⟨e1, e2, e3, e4⟩ := e
    cases hs
    have w := wfS_x q.2.2
    have w1 : wfF (eC C).length x.2 := w.1
    have q1 : core P L h0 ρ h C := q.1
    have hm : cst sc k (.lookupswitch d ps, rr) (conc ρ pc (nC C) h (lv, x :: r, C)) = bjmp (Op.lookupswitch.offset ps.toList d (ev ρ x.2)) (pc, evL ρ lv, evS ρ r, nC C, h) := by
      show (if x.1 = 0 ∧ bsorted ps.toList = true then _ else none) = _
      rw [if_pos ⟨e1, e2⟩]
      rfl
    rcases alkp_off (pc := pc) (lv := lv) (r := r) (C := C) (x := x.2) (d := d) (v := ev ρ x.2) (ps := ps.toList) with ⟨o, h1, h2, h3⟩ | h1
    · rw [h2] at hm
      have e5 := List.all_eq_true.mp e4 _ h1
      rw [decide_eq_true_eq] at e5
      refine side_in (S := (lv, x :: r, C)) q.2.1 w.2 (nEq_ok (d := fplus x.2 (-ev ρ x.2)) q1 (wf_plus w1) (by rw [fplus_ev]; omega)) (fun z hz => List.mem_cons_of_mem _ (h3 z hz)) (hm.trans ?_)
      unfold bjmp
      rw [if_pos e5]
    · rw [h1] at hm
      refine ⟨_, _, List.mem_cons_self, ⟨q.1, q.2.1, w.2⟩, rfl, rfl, hm.trans ?_⟩
      unfold bjmp
      rw [if_pos e3]
      rfl
  · cases hs
