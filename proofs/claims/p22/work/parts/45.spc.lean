/-! OTHER CALLS AND STORES -/
section SPC
variable {g : bG} {l : Launch} {d k n0 n1 : Nat} {Q : bQ}
theorem wp_sub {pc n : Nat} {lv lv' : bL} {st : List bV} {h : bH} (hs : ∀ x ∈ lv', x ∈ lv) (hk : WP g l d k n0 n1 Q (pc, lv', st, n, h)) : WP g l d k n0 n1 Q (pc, lv, st, n, h) := by
  intro p e R s m args below meth c Z E H locs ls q h0 h1
  refine hk p e R s m args below meth c Z E H locs ls ⟨q.1, lv_sub2 q.2.1 ?_, fun x hx => q.2.2.1 x (hs x hx), q.2.2.2⟩ h0 h1
  intro x hx
  obtain ⟨y, hy, rfl⟩ := List.mem_map.mp hx
  exact List.mem_map.mpr ⟨y, hs y hy, rfl⟩
/-- a text's length -/
def atln (d : Nat) (t : Tok) (S : aS) : Option aS := match S with
  | (lv, v :: r, C) => if v.1 = 2 ∧ 2 ≤ d ∧ astw r ≤ 8 ∧ t.2.2.2 ≠ 300000 then (match fone C v.2 with
      | some c => if 512 ≤ c ∧ c < 532 then some (lv, (0, fcon (slen (c.toNat - 512))) :: r, C) else none
      | none => none) else none
  | _ => none
/-- a text's sign -/
def atch (d : Nat) (t : Tok) (S : aS) : Option aS := match S with
  | (lv, i :: v :: r, C) => if i.1 = 0 ∧ v.1 = 2 ∧ 4 ≤ d ∧ astw r ≤ 8 ∧ t.2.2.2 ≠ 300000 then (match fone C v.2 with
      | some c => if 512 ≤ c ∧ c < 532 ∧ isIn 0 ((slen (c.toNat - 512) : Int) - 1) (iv (eC C) i.2) = true then ares 0 lv r C (match fone C i.2 with
          | some j => .inl (fcon (schr (c.toNat - 512) j.toNat))
          | none => .inr (0, 127)) else none
      | none => none) else none
  | _ => none
theorem kN_302 : mst 302 = false ∧ (mname 302).name ≠ "<init>" ∧ (mname 302).cls = "java/lang/String" ∧ mnp 302 = 0 := by decide +kernel
theorem kN_303 : mst 303 = false ∧ (mname 303).name ≠ "<init>" ∧ (mname 303).cls = "java/lang/String" ∧ mnp 303 = 1 := by decide +kernel
theorem atln_ok {D : Nat} {P : aP} {L : bC} {ix len wx : Nat} {h0 h : bH} {ρ : Nat → Int} {S S' : aS} {pc : Nat} (hd : decode (mcode k) pc = .ok (.invokevirtual ix, len)) (ht : okT k (.invokevirtual ix, len, 302, wx) = true) (q : aIn P L h0 ρ h S) (hs : atln d (.invokevirtual ix, len, 302, wx) S = some S') : ∃ ρ' h', ext (eC S.2.2).length ρ ρ' ∧ (eC S.2.2).length ≤ (eC S'.2.2).length ∧ aIn P L h0 ρ' h' S' ∧ nC S'.2.2 = nC S.2.2 ∧ (WP g l (D + d) k n0 n1 Q (conc ρ' (pc + len) (nC S.2.2) h' S') → nC S.2.2 ≤ n1 → WP g l (D + d) k n0 n1 Q (conc ρ pc (nC S.2.2) h S)) := by
  unfold atln at hs
  split at hs
  case h_2 => cases hs
  rename_i lv v r C
  split at hs
  case isFalse => cases hs
  rename_i e
  obtain ⟨e1, e2, e3, e4⟩ := e
  split at hs
  case h_2 => cases hs
  rename_i c hc
  split at hs
  case isFalse => cases hs
  rename_i f
  cases hs
  have hl : len = 3 := okT_len ht rfl
  subst hl
  have w := wfS_x q.2.2
  have q1 : core P L h0 ρ h C := q.1
  have ec := fone_ok q1 w.1 hc
  obtain ⟨d0, rfl⟩ : ∃ d0, d = d0 + 2 := ⟨d - 2, by omega⟩
  refine ⟨ρ, h, fun _ _ => rfl, Nat.le_refl _, ⟨q.1, q.2.1, wfS_c (wf_con _ _) w.2⟩, rfl, fun hk hn => ?_⟩
  have hk2 : WP g l (D + d0 + 1 + 1) k n0 n1 Q (pc + 3, evL ρ lv, (some ((0 : Nat), (slen (c.toNat - 512) : Int))).toList ++ evS ρ r, nC C, h) := by
    unfold conc at hk
    simp only [evS, List.map_cons, fcon_ev] at hk
    exact hk
  have := wp_callT (ti := c.toNat - 512) (as := []) hd (okT_V ht) (by omega) e4 kO_302 kN_302.1 kN_302.2.1 (by omega) kN_302.2.2.1 kN_302.2.2.2.symm (by rw [astw_ev]; exact e3) ⟨Nat.le_refl _, hn⟩ (mh_length (Q := fun rr h' => WP g l (D + d0 + 1 + 1) k n0 n1 Q (pc + 3, evL ρ lv, rr.toList ++ evS ρ r, nC C, h')) (h := h) (by omega) (Nat.le_refl (nC C)) hk2)
  unfold conc
  simp only [evS, List.map_cons]
  rw [e1, ec, show c = ((512 + (c.toNat - 512) : Nat) : Int) by omega]
  exact this
theorem atch_ok {D : Nat} {P : aP} {L : bC} {ix len wx : Nat} {h0 h : bH} {ρ : Nat → Int} {S S' : aS} {pc : Nat} (hd : decode (mcode k) pc = .ok (.invokevirtual ix, len)) (ht : okT k (.invokevirtual ix, len, 303, wx) = true) (q : aIn P L h0 ρ h S) (hs : atch d (.invokevirtual ix, len, 303, wx) S = some S') : ∃ ρ' h', ext (eC S.2.2).length ρ ρ' ∧ (eC S.2.2).length ≤ (eC S'.2.2).length ∧ aIn P L h0 ρ' h' S' ∧ nC S'.2.2 = nC S.2.2 ∧ (WP g l (D + d) k n0 n1 Q (conc ρ' (pc + len) (nC S.2.2) h' S') → nC S.2.2 ≤ n1 → WP g l (D + d) k n0 n1 Q (conc ρ pc (nC S.2.2) h S)) := by
  unfold atch at hs
  split at hs
  case h_2 => cases hs
  rename_i lv i v r C
  split at hs
  case isFalse => cases hs
  rename_i e
  obtain ⟨e0, e1, e2, e3, e4⟩ := e
  split at hs
  case h_2 => cases hs
  rename_i c hc
  split at hs
  case isFalse => cases hs
  rename_i f
  obtain ⟨f1, f2, f3⟩ := f
  have hl : len = 3 := okT_len ht rfl
  subst hl
  obtain ⟨wi, w⟩ := wfS_x q.2.2
  have w := wfS_x w
  have q1 : core P L h0 ρ h C := q.1
  have wi : wfF (eC C).length i.2 := wi
  have ec := fone_ok q1 w.1 hc
  have vi := iv_ok q1.1 wi
  have bi := isIn_x f3
  have hj0 : 0 ≤ ev ρ i.2 ∧ (ev ρ i.2).toNat < slen (c.toNat - 512) := by omega
  have hsc := schr_ok (c.toNat - 512) (by omega) (ev ρ i.2).toNat hj0.2
  have hz : arOK ρ (eC C).length (match fone C i.2 with
          | some j => .inl (fcon (schr (c.toNat - 512) j.toNat))
          | none => .inr (0, 127)) (schr (c.toNat - 512) (ev ρ i.2).toNat) := by
    split
    · rename_i j hj
      rw [fone_ok q1 wi hj]
      exact ⟨fcon_ev _ _, wf_con _ _⟩
    · show (0 : Int) ≤ _ ∧ _ ≤ (127 : Int)
      omega
  obtain ⟨d0, rfl⟩ : ∃ d0, d = d0 + 4 := ⟨d - 4, by omega⟩
  obtain ⟨ρ', x1, x2, x3, x4, x5⟩ := ares_ok q1 q.2.1 w.2 hz hs
  refine ⟨ρ', h, x1, x2, x3, x4, fun hk hn => ?_⟩
  rw [x5] at hk
  have hk2 : WP g l (D + d0 + 3 + 1) k n0 n1 Q (pc + 3, evL ρ lv, (some ((0 : Nat), schr (c.toNat - 512) (ev ρ i.2).toNat)).toList ++ evS ρ r, nC C, h) := hk
  have := wp_callT (ti := c.toNat - 512) (as := [(0, ev ρ i.2)]) hd (okT_V ht) (by omega) e4 kO_303 kN_303.1 kN_303.2.1 (by omega) kN_303.2.2.1 kN_303.2.2.2.symm (by rw [astw_ev]; exact e3) ⟨Nat.le_refl _, hn⟩ (mh_charAt (n := nC C) (Q := fun rr h' => WP g l (D + d0 + 3 + 1) k n0 n1 Q (pc + 3, evL ρ lv, rr.toList ++ evS ρ r, nC C, h')) (h := h) (by omega) hj0 hk2)
  unfold conc
  simp only [evS, List.map_cons]
  rw [e0, e1, ec, show c = ((512 + (c.toNat - 512) : Nat) : Int) by omega]
  exact this
/-- places copied -/
def acC (P : aP) (C : aC) (s sp d dp len : Nat) : Option aC := if (List.range len).all (fun i => wrP P d (dp + i) && ((clook s (sp + i) (cC C)).isSome || (decide ((tyP P d (dp + i)).1 ≤ (tyP P s (sp + i)).1) && decide ((tyP P s (sp + i)).2 ≤ (tyP P d (dp + i)).2)))) = true then some (eC C, fC C, (((cC C).filter fun c => c.1.1 == s && (decide (sp ≤ c.1.2) && decide (c.1.2 < sp + len))).map fun c => ((d, c.1.2 - sp + dp), c.2)) ++ (cC C).filter (fun c => !(c.1.1 == d && (decide (dp ≤ c.1.2) && decide (c.1.2 < dp + len)))), nC C) else none
theorem acC_ok {P : aP} {L : bC} {h0 h : bH} {ρ : Nat → Int} {C C' : aC} {s sp d dp len : Nat} (q : core P L h0 ρ h C) (hs : s < nC C) (hsl : sp + len ≤ (sh s).2) (he : acC P C s sp d dp len = some C') : core P L h0 ρ (hcpy h s sp d dp len) C' ∧ eC C' = eC C ∧ nC C' = nC C := by
  unfold acC at he
  split at he
  case isFalse => cases he
  rename_i hall
  cases he
  obtain ⟨q1, q2, q3, q4, q5, q6⟩ := q
  refine ⟨⟨q1, q2, ?_, ?_, ?_, q6⟩, rfl, rfl⟩
  · intro c hc
    rcases List.mem_append.mp hc with hc | hc
    · obtain ⟨c', hc', rfl⟩ := List.mem_map.mp hc
      obtain ⟨h1, h2⟩ := List.mem_filter.mp hc'
      simp only [Bool.and_eq_true, beq_iff_eq, decide_eq_true_eq] at h2
      refine ⟨(q3 c' h1).1, ?_⟩
      show hcpy h s sp d dp len d (c'.1.2 - sp + dp) = ev ρ c'.2
      rw [← (q3 c' h1).2]
      unfold hcpy
      rw [if_pos ⟨rfl, by omega, by omega⟩, show sp + (c'.1.2 - sp + dp - dp) = c'.1.2 by omega, h2.1]
    · obtain ⟨h1, h2⟩ := List.mem_filter.mp hc
      refine ⟨(q3 c h1).1, ?_⟩
      rw [← (q3 c h1).2]
      refine if_neg (fun e => ?_)
      simp only [Bool.not_eq_true', Bool.and_eq_false_iff, beq_eq_false_iff_ne, decide_eq_false_iff_not] at h2
      rcases h2 with h2 | h2 | h2
      · exact h2 e.1
      · exact h2 e.2.1
      · exact h2 e.2.2
  · intro a j h1 h2 h3
    by_cases e : a = d ∧ dp ≤ j ∧ j < dp + len
    · obtain ⟨rfl, e1, e2⟩ := e
      rw [show hcpy h s sp a dp len a j = h s (sp + (j - dp)) from if_pos ⟨rfl, e1, e2⟩]
      have hk := List.all_eq_true.mp hall (j - dp) (List.mem_range.mpr (by omega))
      rw [show dp + (j - dp) = j by omega] at hk
      simp only [Bool.and_eq_true, Bool.or_eq_true, decide_eq_true_eq] at hk
      cases hc : clook s (sp + (j - dp)) (cC C) with
      | some f =>
        have hm := clook_some hc
        refine absurd ?_ (h3 ((a, sp + (j - dp) - sp + dp), f) (List.mem_append_left _ (List.mem_map.mpr ⟨_, List.mem_filter.mpr ⟨hm, ?_⟩, rfl⟩)))
        · show (a, sp + (j - dp) - sp + dp) = (a, j)
          rw [show sp + (j - dp) - sp + dp = j by omega]
        · simp only [Bool.and_eq_true, beq_iff_eq, decide_eq_true_eq]
          exact ⟨trivial, by omega, by omega⟩
      | none =>
        rw [hc] at hk
        have hk := hk.2.resolve_left (by simp)
        have := q4 s (sp + (j - dp)) hs (by omega) (clook_none hc)
        omega
    · rw [show hcpy h s sp d dp len a j = h a j from if_neg e]
      refine q4 a j h1 h2 (fun c hc e2 => ?_)
      refine h3 c (List.mem_append_right _ (List.mem_filter.mpr ⟨hc, ?_⟩)) e2
      rw [e2]
      simp only [Bool.not_eq_true', Bool.and_eq_false_iff, beq_eq_false_iff_ne, decide_eq_false_iff_not]
      by_cases g1 : a = d
      · refine Or.inr ?_
        by_cases g2 : dp ≤ j
        · exact Or.inr (fun g3 => e ⟨g1, g2, g3⟩)
        · exact Or.inl g2
      · exact Or.inl g1
  · intro a j hw
    have hne : ¬ (a = d ∧ dp ≤ j ∧ j < dp + len) := fun e => by
      obtain ⟨rfl, e1, e2⟩ := e
      have hk := List.all_eq_true.mp hall (j - dp) (List.mem_range.mpr (by omega))
      rw [show dp + (j - dp) = j by omega, hw] at hk
      cases hk
    rw [show hcpy h s sp d dp len a j = h a j from if_neg hne]
    exact q5 a j hw
/-- System.arraycopy, all told -/
def acpy (P : aP) (S : aS) : Option aS := match S with
  | (lv, x :: dp :: dd :: sp :: ss :: r, C) => if x.1 = 0 ∧ dp.1 = 0 ∧ dd.1 = 2 ∧ sp.1 = 0 ∧ ss.1 = 2 ∧ astw r ≤ 8 then (match fone C x.2, fone C dp.2, aarr C 0 dd.2, fone C sp.2, aarr C 0 ss.2 with
      | some n, some j, some b, some i, some a => if 0 ≤ n ∧ 0 ≤ j ∧ 0 ≤ i ∧ i.toNat + n.toNat ≤ (sh a).2 ∧ j.toNat + n.toNat ≤ (sh b).2 then (acC P C a i.toNat b j.toNat n.toNat).map fun C' => (lv, r, C') else none
      | _, _, _, _, _ => none) else none
  | _ => none
theorem aarr_x {P : aP} {L : bC} {h0 h : bH} {ρ : Nat → Int} {C : aC} {kd a : Nat} {f : Fm} (q : core P L h0 ρ h C) (hw : wfF (eC C).length f) (hs : aarr C kd f = some a) : 0 ≤ ev ρ f ∧ (ev ρ f).toNat = a ∧ a < nC C ∧ (sh a).1 = kd := by
  unfold aarr at hs
  split at hs
  case h_2 => cases hs
  rename_i x hx
  split at hs
  case isFalse => cases hs
  rename_i hb
  cases hs
  rw [fone_ok q hw hx]
  exact ⟨hb.1, rfl, hb.2.1, hb.2.2⟩
theorem acpy_ok {D : Nat} {P : aP} {L : bC} {ix len wx : Nat} {h0 h : bH} {ρ : Nat → Int} {S S' : aS} {pc : Nat} (hd : decode (mcode k) pc = .ok (.invokestatic ix, len)) (ht : okT k (.invokestatic ix, len, 1001, wx) = true) (q : aIn P L h0 ρ h S) (hs : acpy P S = some S') : ∃ ρ' h', ext (eC S.2.2).length ρ ρ' ∧ (eC S.2.2).length ≤ (eC S'.2.2).length ∧ aIn P L h0 ρ' h' S' ∧ nC S'.2.2 = nC S.2.2 ∧ (WP g l (D + d) k n0 n1 Q (conc ρ' (pc + len) (nC S.2.2) h' S') → nC S.2.2 ≤ n1 → WP g l (D + d) k n0 n1 Q (conc ρ pc (nC S.2.2) h S)) := by
  unfold acpy at hs
  split at hs
  case h_2 => cases hs
  rename_i lv x dp dd sp ss r C
  split at hs
  case isFalse => cases hs
  rename_i e
  obtain ⟨e1, e2, e3, e4, e5, e6⟩ := e
  split at hs
  case h_2 => cases hs
  rename_i n j b i a hn hj hb hi ha
  split at hs
  case isFalse => cases hs
  rename_i f
  obtain ⟨f1, f2, f3, f4, f5⟩ := f
  have hl : len = 3 := okT_len ht rfl
  subst hl
  have q1 : core P L h0 ρ h C := q.1
  obtain ⟨w1, w⟩ := wfS_x q.2.2
  obtain ⟨w2, w⟩ := wfS_x w
  obtain ⟨w3, w⟩ := wfS_x w
  obtain ⟨w4, w⟩ := wfS_x w
  obtain ⟨w5, w⟩ := wfS_x w
  have v1 := fone_ok q1 w1 hn
  have v2 := fone_ok q1 w2 hj
  have v3 := aarr_x q1 w3 hb
  have v4 := fone_ok q1 w4 hi
  have v5 := aarr_x q1 w5 ha
  cases hc : acC P C a i.toNat b j.toNat n.toNat with
  | none => rw [hc] at hs; cases hs
  | some C' =>
    rw [hc] at hs
    cases hs
    obtain ⟨x1, x2, x3⟩ := acC_ok q1 v5.2.2.1 f4 hc
    refine ⟨ρ, _, fun _ _ => rfl, Nat.le_of_eq (congrArg List.length x2.symm), ⟨x1, ?_, ?_⟩, x3, fun hk _ => ?_⟩
    · show wfL (eC C').length lv
      rw [x2]; exact q.2.1
    · show wfS (eC C').length r
      rw [x2]; exact w
    · have hk2 : WP g l (D + d) k n0 n1 Q (pc + 3, evL ρ lv, evS ρ r, nC C, hcpy h (ev ρ ss.2).toNat (ev ρ sp.2).toNat (ev ρ dd.2).toNat (ev ρ dp.2).toNat (ev ρ x.2).toNat) := by
        rw [v1, v2, v3.2.1, v4, v5.2.1]
        exact hk
      have := wp_copy hd (okT_S ht) ⟨v5.1, by rw [v5.2.1]; exact v5.2.2⟩ ⟨v3.1, by rw [v3.2.1]; exact v3.2.2⟩ (by omega) (by omega) (by omega) (by rw [v4, v1, v5.2.1]; exact f4) (by rw [v2, v1, v3.2.1]; exact f5) (by rw [astw_ev]; exact e6) hk2
      unfold conc
      simp only [evS, List.map_cons]
      rw [e1, e2, e3, e4, e5]
      exact this
/-- Object's constructor; a reference put into a table; texts' length and signs -/
def aspc (P : aP) (d : Nat) (t : Tok) (S : aS) : Option aS := match t.1, S with
  | .invokespecial _, (lv, v :: r, C) => if t.2.2.1 = 1000 ∧ v.1 = 2 ∧ 0 ≤ (iv (eC C) v.2).1 ∧ astw r ≤ 8 then some (lv, r, C) else none
  | .aastore, (lv, x :: i :: v :: r, C) => if x.1 = 2 ∧ i.1 = 0 ∧ v.1 = 2 then (match aarr C 2 v.2, fone C i.2, fone C x.2 with
      | some a, some j, some z => if isIn 0 ((sh a).2 - 1) (iv (eC C) i.2) = true ∧ 0 ≤ z ∧ z.toNat < nC C ∧ (sh z.toNat).1 = 18 then (astor P C a j.toNat x.2).map fun C' => (lv, r, C') else none
      | _, _, _ => none) else none
  | .invokevirtual _, S => if t.2.2.1 = 302 then atln d t S else if t.2.2.1 = 303 then atch d t S else none
  | .invokestatic _, S => if t.2.2.1 = 1001 then acpy P S else none
  | _, _ => none
theorem aspc_ok {D : Nat} {P : aP} {L : bC} {t : Tok} {h0 h : bH} {ρ : Nat → Int} {S S' : aS} {pc : Nat} (hd : decode (mcode k) pc = .ok (t.1, t.2.1)) (ht : okT k t = true) (q : aIn P L h0 ρ h S) (hs : aspc P d t S = some S') : ∃ ρ' h', ext (eC S.2.2).length ρ ρ' ∧ (eC S.2.2).length ≤ (eC S'.2.2).length ∧ aIn P L h0 ρ' h' S' ∧ nC S'.2.2 = nC S.2.2 ∧ (WP g l (D + d) k n0 n1 Q (conc ρ' (pc + t.2.1) (nC S.2.2) h' S') → nC S.2.2 ≤ n1 → WP g l (D + d) k n0 n1 Q (conc ρ pc (nC S.2.2) h S)) := by
  obtain ⟨i, len, aux, wx⟩ := t
  unfold aspc at hs
  split at hs
  · rename_i _ _ ix lv v r C hi
    dsimp only at hi
    subst hi
    split at hs
    case isFalse => cases hs
    rename_i e
    obtain ⟨e1, e2, e3, e4⟩ := e
    dsimp only at e1
    subst e1
    cases hs
    have hl : len = 3 := okT_len ht rfl
    subst hl
    have w := wfS_x q.2.2
    have vi := iv_ok (show eOK ρ (eC C) from q.1.1) w.1
    refine ⟨ρ, h, fun _ _ => rfl, Nat.le_refl _, ⟨q.1, q.2.1, w.2⟩, rfl, fun hk _ => ?_⟩
    have := wp_obj (a := ev ρ v.2) hd (okT_I ht) (by omega) (by rw [astw_ev]; exact e4) w_obi w_obc hk
    unfold conc
    simp only [evS, List.map_cons]
    rw [e2]
    exact this
  · rename_i _ _ lv x i v r C hi
    dsimp only at hi
    subst hi
    split at hs
    case isFalse => cases hs
    rename_i e
    obtain ⟨e1, e2, e3⟩ := e
    split at hs
    case h_2 => cases hs
    rename_i a j z ha hj hz
    split at hs
    case isFalse => cases hs
    rename_i f
    obtain ⟨f1, f2, f3, f4⟩ := f
    obtain ⟨wx', w⟩ := wfS_x q.2.2
    obtain ⟨wi, w⟩ := wfS_x w
    have w := wfS_x w
    have q1 : core P L h0 ρ h C := q.1
    have hl : len = 1 := okT_len ht rfl
    subst hl
    obtain ⟨o1, o2, o3, o4, o5⟩ := aarr_ok q1 w.1 wi ha (by unfold inB; rw [f1]; rfl)
    have ej := fone_ok q1 wi hj
    have ez := fone_ok q1 wx' hz
    cases hc : astor P C a j.toNat x.2 with
    | none => rw [hc] at hs; cases hs
    | some C' =>
      rw [hc] at hs
      cases hs
      obtain ⟨x1, x2, x3⟩ := astor_ok q1 wx' hc
      refine ⟨ρ, _, fun _ _ => rfl, Nat.le_of_eq (congrArg List.length x2.symm), ⟨x1, ?_, ?_⟩, x3, fun hk _ => ?_⟩
      · show wfL (eC C').length lv
        rw [x2]; exact q.2.1
      · show wfS (eC C').length r
        rw [x2]; exact w.2
      · have hk2 : WP g l (D + d) k n0 n1 Q (pc + 1, evL ρ lv, evS ρ r, nC C, hup h (ev ρ v.2).toNat (ev ρ i.2).toNat (ev ρ x.2)) := by
          rw [o2, ej]
          exact hk
        have := wp_aast hd o1 (by rw [ez]; exact f2) (by rw [ez]; exact f3) (by rw [ez]; exact f4) hk2
        unfold conc
        simp only [evS, List.map_cons]
        rw [e1, e2, e3]
        exact this
  · rename_i _ _ ix hi
    dsimp only at hi
    subst hi
    split at hs
    · rename_i e
      dsimp only at e
      subst e
      exact atln_ok hd ht q hs
    · split at hs
      · rename_i e
        dsimp only at e
        subst e
        exact atch_ok hd ht q hs
      · cases hs
  · rename_i _ _ ix hi
    dsimp only at hi
    subst hi
    split at hs
    · rename_i e
      dsimp only at e
      subst e
      exact acpy_ok hd ht q hs
    · cases hs
  · cases hs
end SPC
def aargs : Nat → List AV → aL
  | _, [] => []
  | i, v :: r => (i, v) :: aargs (if v.1 = 1 then i + 2 else i + 1) r
theorem aargs_ev {ρ : Nat → Int} : ∀ {as : List AV} {i : Nat}, evL ρ (aargs i as) = largs i (evS ρ as)
  | [], _ => rfl
  | v :: r, i => by
    show (i, (v.1, ev ρ v.2)) :: evL ρ (aargs _ r) = (i, (v.1, ev ρ v.2)) :: largs _ (evS ρ r)
    rw [aargs_ev]
theorem aargs_wf {m : Nat} : ∀ {as : List AV} {i : Nat}, wfS m as → wfL m (aargs i as)
  | [], _, _ => fun q hq => by cases hq
  | v :: r, i, h => wfL_c (wfS_x h).1 (aargs_wf (wfS_x h).2)
