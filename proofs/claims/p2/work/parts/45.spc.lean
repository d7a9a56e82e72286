/-! OTHER CALLS AND STORES -/
section SPC
variable {g : bG} {l : Launch} {d k n0 n1 : Nat} {Q : bQ}
theorem wp_sub {pc n : Nat} {lv lv' : bL} {st : List bV} {h : bH} (hs : ∀ x ∈ lv', x ∈ lv) (hk : WP g l d k n0 n1 Q (pc, lv', st, n, h)) : WP g l d k n0 n1 Q (pc, lv, st, n, h) := by
  intro p e R s m args below meth c Z E H locs ls q h0 h1
  refine hk p e R s m args below meth c Z E H locs ls ⟨q.1, lv_sub2 q.2.1 ?_, fun x hx => q.2.2.1 x (hs x hx), q.2.2.2⟩ h0 h1
  intro x hx
  obtain ⟨y, hy, rfl⟩ := List.mem_map.mp hx
  exact List.mem_map.mpr ⟨y, hs y hy, rfl⟩
/-- Object's constructor; a reference put into a table; texts' length and signs -/
def aspc (P : aP) (d : Nat) (t : Tok) (S : aS) : Option aS := match t.1, S with
  | .invokespecial _, (lv, v :: r, C) => if t.2.2.1 = 1000 ∧ v.1 = 2 ∧ 0 ≤ (iv (eC C) v.2).1 ∧ astw r ≤ 8 then some (lv, r, C) else none
  | .aastore, (lv, x :: i :: v :: r, C) => if x.1 = 2 ∧ i.1 = 0 ∧ v.1 = 2 then (match aarr C 2 v.2, fone C i.2, fone C x.2 with
      | some a, some j, some z => if isIn 0 ((sh a).2 - 1) (iv (eC C) i.2) = true ∧ 0 ≤ z ∧ z.toNat < nC C ∧ (sh z.toNat).1 = 18 then (astor P C a j.toNat x.2).map fun C' => (lv, r, C') else none
      | _, _, _ => none) else none
  | _, _ => none
theorem aspc_ok {D : Nat} {P : aP} {L : Nat} {t : Tok} {h0 h : bH} {ρ : Nat → Int} {S S' : aS} {pc : Nat} (hd : decode (mcode k) pc = .ok (t.1, t.2.1)) (ht : okT k t = true) (q : aIn P L h0 ρ h S) (hs : aspc P d t S = some S') : ∃ ρ' h', ext (eC S.2.2).length ρ ρ' ∧ (eC S.2.2).length ≤ (eC S'.2.2).length ∧ aIn P L h0 ρ' h' S' ∧ nC S'.2.2 = nC S.2.2 ∧ (WP g l (D + d) k n0 n1 Q (conc ρ' (pc + t.2.1) (nC S.2.2) h' S') → WP g l (D + d) k n0 n1 Q (conc ρ pc (nC S.2.2) h S)) := by
  obtain ⟨i, len, aux, wx⟩ := t
  unfold aspc at hs
  split at hs
  · rename_i _ _ ix lv v r C hi
    dsimp only at hi
    subst hi
    split at hs
    case isFalse => cases hs
    rename_i e
    obtain ⟨e1, e2, e3, e4⟩ := e
    dsimp only at e1
    subst e1
    cases hs
    have hl : len = 3 := okT_len ht rfl
    subst hl
    have w := wfS_x q.2.2
    have vi := iv_ok (show eOK ρ (eC C) from q.1.1) w.1
    refine ⟨ρ, h, fun _ _ => rfl, Nat.le_refl _, ⟨q.1, q.2.1, w.2⟩, rfl, fun hk => ?_⟩
    have := wp_obj (a := ev ρ v.2) hd (okT_I ht) (by omega) (by rw [astw_ev]; exact e4) w_obi w_obc hk
    unfold conc
    simp only [evS, List.map_cons]
    rw [e2]
    exact this
  · rename_i _ _ lv x i v r C hi
    dsimp only at hi
    subst hi
    split at hs
    case isFalse => cases hs
    rename_i e
    obtain ⟨e1, e2, e3⟩ := e
    split at hs
    case h_2 => cases hs
    rename_i a j z ha hj hz
    split at hs
    case isFalse => cases hs
    rename_i f
    obtain ⟨f1, f2, f3, f4⟩ := f
    obtain ⟨wx', w⟩ := wfS_x q.2.2
    obtain ⟨wi, w⟩ := wfS_x w
    have w := wfS_x w
    have q1 : core P L h0 ρ h C := q.1
    have hl : len = 1 := okT_len ht rfl
    subst hl
    obtain ⟨o1, o2, o3, o4, o5⟩ := aarr_ok q1 w.1 wi ha f1
    have ej := fone_ok q1 wi hj
    have ez := fone_ok q1 wx' hz
    cases hc : astor P C a j.toNat x.2 with
    | none => rw [hc] at hs; cases hs
    | some C' =>
      rw [hc] at hs
      cases hs
      obtain ⟨x1, x2, x3⟩ := astor_ok q1 wx' hc
      refine ⟨ρ, _, fun _ _ => rfl, Nat.le_of_eq (congrArg List.length x2.symm), ⟨x1, ?_, ?_⟩, x3, fun hk => ?_⟩
      · show wfL (eC C').length lv
        rw [x2]; exact q.2.1
      · show wfS (eC C').length r
        rw [x2]; exact w.2
      · have hk2 : WP g l (D + d) k n0 n1 Q (pc + 1, evL ρ lv, evS ρ r, nC C, hup h (ev ρ v.2).toNat (ev ρ i.2).toNat (ev ρ x.2)) := by
          rw [o2, ej]
          exact hk
        have := wp_aast hd o1 (by rw [ez]; exact f2) (by rw [ez]; exact f3) (by rw [ez]; exact f4) hk2
        unfold conc
        simp only [evS, List.map_cons]
        rw [e1, e2, e3]
        exact this
  · cases hs
end SPC
def aargs : Nat → List AV → aL
  | _, [] => []
  | i, v :: r => (i, v) :: aargs (if v.1 = 1 then i + 2 else i + 1) r
theorem aargs_ev {ρ : Nat → Int} : ∀ {as : List AV} {i : Nat}, evL ρ (aargs i as) = largs i (evS ρ as)
  | [], _ => rfl
  | v :: r, i => by
    show (i, (v.1, ev ρ v.2)) :: evL ρ (aargs _ r) = (i, (v.1, ev ρ v.2)) :: largs _ (evS ρ r)
    rw [aargs_ev]
theorem aargs_wf {m : Nat} : ∀ {as : List AV} {i : Nat}, wfS m as → wfL m (aargs i as)
  | [], _, _ => fun q hq => by cases hq
  | v :: r, i, h => wfL_c (wfS_x h).1 (aargs_wf (wfS_x h).2)
