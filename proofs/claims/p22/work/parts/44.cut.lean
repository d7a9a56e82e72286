/-! CALLS -/
def kGood (k : Nat) : Bool := decide (0 < k) && decide (k < 302)
def astw (st : List AV) : Nat := (st.map fun v => if v.1 = 1 then 2 else 1).sum
theorem astw_ev (ρ : Nat → Int) (st : List AV) : stw (evS ρ st) = astw st := by
  unfold stw astw evS
  rw [List.map_map]
  rfl
/-- a call taken apart: the method, its arguments, the stack below -/
def acut (t : Tok) (C : aC) (st : List AV) : Option (List AV × List AV) := match t.1 with
  | .invokestatic _ => if kGood t.2.2.1 = true ∧ mst t.2.2.1 = true ∧ mnp t.2.2.1 ≤ st.length ∧ astw (st.drop (mnp t.2.2.1)) ≤ 8 then some ((st.take (mnp t.2.2.1)).reverse, st.drop (mnp t.2.2.1)) else none
  | .invokevirtual _ => match st.drop (mnp t.2.2.1) with
    | v :: rest => if kGood t.2.2.1 = true ∧ mst t.2.2.1 = false ∧ mnp t.2.2.1 ≤ st.length ∧ astw rest ≤ 8 ∧ v.1 = 2 ∧ t.2.2.2 ≠ 300000 ∧ (mname t.2.2.1).name ≠ "<init>" then (match fone C v.2 with
      | some a => if 0 ≤ a ∧ a.toNat < nC C ∧ 10 ≤ (sh a.toNat).1 ∧ (kCls.getD ((sh a.toNat).1 - 10) ("", kF0, 0)).1 = (mname t.2.2.1).cls then some (v :: (st.take (mnp t.2.2.1)).reverse, rest) else none
      | none => none) else none
    | [] => none
  | .invokespecial _ => match st.drop (mnp t.2.2.1) with
    | v :: rest => if kGood t.2.2.1 = true ∧ mst t.2.2.1 = false ∧ mnp t.2.2.1 ≤ st.length ∧ astw rest ≤ 8 ∧ v.1 = 2 ∧ (mname t.2.2.1).name = "<init>" ∧ mret t.2.2.1 = none then (match fone C v.2 with
      | some a => if 0 ≤ a ∧ a.toNat < nC C then some (v :: (st.take (mnp t.2.2.1)).reverse, rest) else none
      | none => none) else none
    | [] => none
  | _ => none
theorem evS_app (ρ : Nat → Int) (a b : List AV) : evS ρ (a ++ b) = evS ρ a ++ evS ρ b := List.map_append
theorem evS_rev (ρ : Nat → Int) (a : List AV) : evS ρ a.reverse = (evS ρ a).reverse := List.map_reverse
theorem kGood_x {k : Nat} (h : kGood k = true) : 0 < k ∧ k < 302 := by
  unfold kGood at h
  simpa using h
section CUT
variable {g : bG} {l : Launch} {d k n0 n1 : Nat} {Q : bQ}
theorem acut_wf {t : Tok} {C : aC} {st as rest : List AV} {m : Nat} (hw : wfS m st) (hs : acut t C st = some (as, rest)) : wfS m as ∧ wfS m rest ∧ kGood t.2.2.1 = true := by
  have ht : ∀ N, wfS m (st.take N) := fun N v hv => hw v (List.mem_of_mem_take hv)
  have hd : ∀ N, wfS m (st.drop N) := fun N v hv => hw v (List.mem_of_mem_drop hv)
  have hr : ∀ N, wfS m (st.take N).reverse := fun N v hv => ht N v (List.mem_reverse.mp hv)
  unfold acut at hs
  split at hs
  · split at hs
    case isFalse => cases hs
    rename_i e
    cases hs
    exact ⟨hr _, hd _, e.1⟩
  · split at hs
    case h_2 => cases hs
    rename_i v rest2 hv
    have h2 := hd (mnp t.2.2.1)
    rw [hv] at h2
    have h2 := wfS_x h2
    split at hs
    case isFalse => cases hs
    rename_i e
    split at hs
    case h_2 => cases hs
    split at hs
    case isFalse => cases hs
    cases hs
    exact ⟨wfS_c h2.1 (hr _), h2.2, e.1⟩
  · split at hs
    case h_2 => cases hs
    rename_i v rest2 hv
    have h2 := hd (mnp t.2.2.1)
    rw [hv] at h2
    have h2 := wfS_x h2
    split at hs
    case isFalse => cases hs
    rename_i e
    split at hs
    case h_2 => cases hs
    split at hs
    case isFalse => cases hs
    cases hs
    exact ⟨wfS_c h2.1 (hr _), h2.2, e.1⟩
  · cases hs
theorem acut_ok {P : aP} {L : bC} {t : Tok} {h0 h : bH} {ρ : Nat → Int} {lv : aL} {st as rest : List AV} {C : aC} {pc n' : Nat} (hd : decode (mcode k) pc = .ok (t.1, t.2.1)) (ht : okT k t = true) (q : aIn P L h0 ρ h (lv, st, C)) (hm : okM t.2.2.1 = true) (hs : acut t C st = some (as, rest)) (hn : nC C ≤ n' ∧ n' ≤ n1)
    (hM : MH g l d t.2.2.1 (nC C) n' (evS ρ as) h (fun r h' => WP g l (d + 1) k n0 n1 Q (pc + 3, evL ρ lv, r.toList ++ evS ρ rest, n', h'))) : WP g l (d + 1) k n0 n1 Q (conc ρ pc (nC C) h (lv, st, C)) := by
  obtain ⟨i, len, aux, wx⟩ := t
  dsimp only at hM hm hd
  have hst : ∀ N, evS ρ st = (evS ρ (st.take N).reverse).reverse ++ evS ρ (st.drop N) := fun N => by
    rw [evS_rev, List.reverse_reverse, ← evS_app, List.take_append_drop]
  have hln : ∀ {N}, N ≤ st.length → (evS ρ (st.take N).reverse).length = N := fun {N} hN => by
    unfold evS
    rw [List.length_map, List.length_reverse, List.length_take]
    omega
  unfold acut at hs
  split at hs
  · rename_i ix hi
    dsimp only at hi
    subst hi
    split at hs
    case isFalse => cases hs
    rename_i e
    obtain ⟨e1, e2, e3, e4⟩ := e
    dsimp only at e1 e2 e3 e4
    have hl : len = 3 := okT_len ht rfl
    subst hl
    cases hs
    have := wp_callS hd (okT_S ht) (by have := kGood_x e1; omega) hm e2 (hln e3) (by rw [astw_ev]; exact e4) hn hM
    rw [← hst] at this
    exact this
  · rename_i ix hi
    dsimp only at hi
    subst hi
    split at hs
    case h_2 => cases hs
    rename_i v rest2 hv
    dsimp only at hv
    split at hs
    case isFalse => cases hs
    rename_i e
    obtain ⟨e1, e2, e3, e4, e5, e6, e7⟩ := e
    dsimp only at e1 e2 e3 e4 e5 e6 e7
    split at hs
    case h_2 => cases hs
    rename_i a ha
    split at hs
    case isFalse => cases hs
    rename_i f
    obtain ⟨f1, f2, f3, f4⟩ := f
    have hl : len = 3 := okT_len ht rfl
    subst hl
    cases hs
    have wv : wfF (eC C).length v.2 := q.2.2 v (List.mem_of_mem_drop (by rw [hv]; exact List.mem_cons_self))
    have ev1 := fone_ok (show core P L h0 ρ h C from q.1) wv ha
    have hM2 : MH g l d aux (nC C) n' ((2, ev ρ v.2) :: evS ρ (st.take (mnp aux)).reverse) h (fun r h' => WP g l (d + 1) k n0 n1 Q (pc + 3, evL ρ lv, r.toList ++ evS ρ rest, n', h')) := by
      rw [← e5]
      exact hM
    rw [ev1] at hM2
    have := wp_callV hd (okT_V ht) (by have := kGood_x e1; omega) e6 hm e2 e7 (ci := (sh a.toNat).1 - 10) ⟨f1, f2, by omega, f4⟩ (hln e3) (by rw [astw_ev]; exact e4) hn hM2
    have hh := hst (mnp aux)
    rw [hv] at hh
    have hh2 : evS ρ st = (evS ρ (st.take (mnp aux)).reverse).reverse ++ (2, a) :: evS ρ rest := by
      rw [hh, ← e5, ← ev1]
      rfl
    unfold conc
    dsimp only
    rw [hh2]
    exact this
  · rename_i ix hi
    dsimp only at hi
    subst hi
    split at hs
    case h_2 => cases hs
    rename_i v rest2 hv
    dsimp only at hv
    split at hs
    case isFalse => cases hs
    rename_i e
    obtain ⟨e1, e2, e3, e4, e5, e6, e7⟩ := e
    dsimp only at e1 e2 e3 e4 e5 e6 e7
    split at hs
    case h_2 => cases hs
    rename_i a ha
    split at hs
    case isFalse => cases hs
    rename_i f
    have hl : len = 3 := okT_len ht rfl
    subst hl
    cases hs
    have wv : wfF (eC C).length v.2 := q.2.2 v (List.mem_of_mem_drop (by rw [hv]; exact List.mem_cons_self))
    have ev1 := fone_ok (show core P L h0 ρ h C from q.1) wv ha
    have hM2 : MH g l d aux (nC C) n' ((2, ev ρ v.2) :: evS ρ (st.take (mnp aux)).reverse) h (fun r h' => WP g l (d + 1) k n0 n1 Q (pc + 3, evL ρ lv, r.toList ++ evS ρ rest, n', h')) := by
      rw [← e5]
      exact hM
    rw [ev1] at hM2
    have := wp_callI hd (okT_I ht) (by have := kGood_x e1; omega) hm e2 e6 e7 f (hln e3) (by rw [astw_ev]; exact e4) hn hM2
    have hh := hst (mnp aux)
    rw [hv] at hh
    have hh2 : evS ρ st = (evS ρ (st.take (mnp aux)).reverse).reverse ++ (2, a) :: evS ρ rest := by
      rw [hh, ← e5, ← ev1]
      rfl
    unfold conc
    dsimp only
    rw [hh2]
    exact this
  · cases hs
end CUT
