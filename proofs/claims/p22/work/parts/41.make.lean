/-! MAKING CELLS IN THE CHECKER -/
/-- places of arrays that are known from the start -/
def mkX (n j : Nat) : Bool := (kXa.contains n && kXp.contains (n, j)) || (((n == 194 || n == 195) && (j == 3 || (decide (276 ≤ j) && decide (j < 306) && (j - 276) % 5 == 0))) || (n == 209 || n == 210))
def mkK (P : aP) (n : Nat) (f : Nat → Int) (j : Nat) : Bool := decide (10 ≤ (sh n).1) || (mkX n j || !(decide ((tyP P n j).1 ≤ f j) && decide (f j ≤ (tyP P n j).2)))
/-- a cell made, of contents f -/
def mkC (P : aP) (C : aC) (f : Nat → Int) : aC := (eC C, fC C, (((List.range (sh (nC C)).2).filter (mkK P (nC C) f)).map fun j => ((nC C, j), fcon (f j))) ++ (cC C).filter (fun c => !(c.1.1 == nC C)), nC C + 1)
theorem mkC_ok {P : aP} (hW : ∀ a j, wrP P a j = true) {L : bC} {h0 h : bH} {ρ : Nat → Int} {C : aC} {f : Nat → Int} (q : core P L h0 ρ h C) : core P L h0 ρ (hnew h (nC C) f) (mkC P C f) := by
  obtain ⟨q1, q2, q3, q4, q5, q6⟩ := q
  refine ⟨q1, q2, ?_, ?_, ?_, q6⟩
  · intro c hc
    rcases List.mem_append.mp hc with hc | hc
    · obtain ⟨j, hj, rfl⟩ := List.mem_map.mp hc
      refine ⟨wf_con _ _, ?_⟩
      rw [fcon_ev]
      exact if_pos rfl
    · obtain ⟨h1, h2⟩ := List.mem_filter.mp hc
      refine ⟨(q3 c h1).1, ?_⟩
      rw [← (q3 c h1).2]
      refine if_neg (fun e => ?_)
      rw [e] at h2
      simp at h2
  · intro a j h1 h2 h3
    by_cases e : a = nC C
    · subst e
      rw [show hnew h (nC C) f (nC C) j = f j from if_pos rfl]
      cases hk : mkK P (nC C) f j with
      | true =>
        exact absurd rfl (h3 ((nC C, j), fcon (f j)) (List.mem_append_left _ (List.mem_map.mpr ⟨j, List.mem_filter.mpr ⟨List.mem_range.mpr h2, hk⟩, rfl⟩)))
      | false =>
        unfold mkK at hk
        simp only [Bool.or_eq_false_iff, Bool.not_eq_false', Bool.and_eq_true, decide_eq_true_eq] at hk
        exact hk.2.2
    · rw [show hnew h (nC C) f a j = h a j from if_neg e]
      have h1 : a < nC C + 1 := h1
      refine q4 a j (by omega) h2 (fun c hc e2 => ?_)
      refine h3 c (List.mem_append_right _ (List.mem_filter.mpr ⟨hc, ?_⟩)) e2
      rw [e2]
      simpa using e
  · intro a j hw
    rw [hW a j] at hw
    cases hw
/-- rows of a table of tables: N cells of zeros -/
def mkN (P : aP) (C : aC) : Nat → aC
  | 0 => C
  | N + 1 => mkC P (mkN P C N) (fun _ => 0)
def hmn (h : bH) (n : Nat) : Nat → bH
  | 0 => h
  | N + 1 => hnew (hmn h n N) (n + N) (fun _ => 0)
theorem mkN_n (P : aP) (C : aC) : ∀ N, nC (mkN P C N) = nC C + N ∧ eC (mkN P C N) = eC C
  | 0 => ⟨rfl, rfl⟩
  | N + 1 => by
    have := mkN_n P C N
    refine ⟨?_, this.2⟩
    show nC (mkN P C N) + 1 = _
    rw [this.1]
    omega
theorem mkN_ok {P : aP} (hW : ∀ a j, wrP P a j = true) {L : bC} {h0 h : bH} {ρ : Nat → Int} {C : aC} (q : core P L h0 ρ h C) : ∀ N, core P L h0 ρ (hmn h (nC C) N) (mkN P C N)
  | 0 => q
  | N + 1 => by
    have := mkC_ok hW (f := fun _ => 0) (mkN_ok hW q N)
    rw [(mkN_n P C N).1] at this
    exact this
theorem hmn_at (h : bH) (n b i : Nat) : ∀ N, hmn h n N b i = if n ≤ b ∧ b < n + N then 0 else h b i
  | 0 => by
    rw [if_neg (by omega)]; rfl
  | N + 1 => by
    show (if b = n + N then 0 else hmn h n N b i) = _
    rw [hmn_at h n b i N]
    split
    · rw [if_pos (by omega)]
    · split
      · rw [if_pos (by omega)]
      · rw [if_neg (by omega)]
theorem hmul_hmn (h : bH) (n N : Nat) : hmul h n N = hmn (hnew h n (fun i => ((n + 1 + i : Nat) : Int))) (n + 1) N := by
  funext b i
  rw [hmn_at]
  unfold hmul hnew
  by_cases e : b = n
  · rw [if_pos e, if_neg (by omega), if_pos e]
  · rw [if_neg e]
    split
    · rw [if_pos (by omega)]
    · rw [if_neg (by omega)]
/-- what making gives -/
def amk (P : aP) (t : Tok) (S : aS) : Option aS := match t.1, S with
  | .new _, (lv, st, C) => if (sh (nC C)).1 = 10 + t.2.2.1 ∧ nC C < 212 then some (lv, (2, fcon (nC C : Int)) :: st, mkC P C (fun j => if fkd t.2.2.1 j = 2 then -1 else 0)) else none
  | .newarray ty, (lv, x :: r, C) => if x.1 = 0 then (match fone C x.2 with
      | some c => if 0 ≤ c ∧ sh (nC C) = (if newarray.typeOf ty = .int then 0 else 1, c.toNat) ∧ nC C < 212 ∧ (newarray.typeOf ty = .int ∨ newarray.typeOf ty = .long) then some (lv, (2, fcon (nC C : Int)) :: r, mkC P C (fun _ => 0)) else none
      | none => none) else none
  | .anewarray _, (lv, x :: r, C) => if x.1 = 0 then (match fone C x.2 with
      | some c => if 0 ≤ c ∧ sh (nC C) = (2, c.toNat) ∧ nC C < 212 then some (lv, (2, fcon (nC C : Int)) :: r, mkC P C (fun _ => -1)) else none
      | none => none) else none
  | .multianewarray _ m, (lv, y :: x :: r, C) => if m = 2 ∧ y.1 = 0 ∧ x.1 = 0 then (match fone C x.2, fone C y.2 with
      | some a, some b => if 0 ≤ a ∧ 0 ≤ b ∧ sh (nC C) = (3, a.toNat) ∧ ((List.range a.toNat).all fun i => sh (nC C + 1 + i) == (1, b.toNat)) = true ∧ a < 100 ∧ b < 2000 ∧ nC C + 1 + a.toNat ≤ 212 then some (lv, (2, fcon (nC C : Int)) :: r, mkN P (mkC P C (fun i => ((nC C + 1 + i : Nat) : Int))) a.toNat) else none
      | _, _ => none) else none
  | _, _ => none
section MK
variable {g : bG} {l : Launch} {d k n0 n1 : Nat} {Q : bQ}
theorem amk_ok {P : aP} (hW : ∀ a j, wrP P a j = true) {L : bC} {t : Tok} {h0 h : bH} {ρ : Nat → Int} {S S' : aS} {pc : Nat} (hd : decode (mcode k) pc = .ok (t.1, t.2.1)) (ht : okT k t = true) (q : aIn P L h0 ρ h S) (hs : amk P t S = some S') (hn1 : nC S'.2.2 ≤ n1) : eC S'.2.2 = eC S.2.2 ∧ ∃ h', aIn P L h0 ρ h' S' ∧ (WP g l d k n0 n1 Q (conc ρ (pc + ilen t.1) (nC S'.2.2) h' S') → WP g l d k n0 n1 Q (conc ρ pc (nC S.2.2) h S)) := by
  obtain ⟨i, len, aux, wx⟩ := t
  unfold amk at hs
  split at hs
  · rename_i _ _ ix lv st C hi
    dsimp only at hi
    subst hi
    split at hs
    case isFalse => cases hs
    rename_i e
    cases hs
    have hl : len = 3 := okT_len ht rfl
    subst hl
    have hN : okN k (.new ix, 3, aux, wx) ix = true := by
      unfold okT at ht
      rw [Bool.and_eq_true] at ht
      exact ht.2
    refine ⟨rfl, _, ⟨mkC_ok hW q.1, q.2.1, wfS_c (wf_con _ _) q.2.2⟩, fun hk => ?_⟩
    refine wp_new hd hN e.1 e.2 hn1 ?_
    unfold conc at hk
    simp only [evS, List.map_cons, fcon_ev] at hk
    exact hk
  · rename_i _ _ ty lv x r C hi
    dsimp only at hi
    subst hi
    split at hs
    case isFalse => cases hs
    rename_i e0
    split at hs
    case h_2 => cases hs
    rename_i c hc
    by_cases e : 0 ≤ c ∧ sh (nC C) = (if newarray.typeOf ty = .int then 0 else 1, c.toNat) ∧ nC C < 212 ∧ (newarray.typeOf ty = .int ∨ newarray.typeOf ty = .long)
    case neg => rw [if_neg e] at hs; cases hs
    rw [if_pos e] at hs
    cases hs
    have hl : len = 2 := okT_len ht rfl
    subst hl
    have w := wfS_x q.2.2
    have q1 : core P L h0 ρ h C := q.1
    have f1 := fone_ok q1 w.1 hc
    have hN : okW wx (.arrayClass (newarray.typeOf ty)) = true := by
      unfold okT at ht
      rw [Bool.and_eq_true] at ht
      exact ht.2
    refine ⟨rfl, _, ⟨mkC_ok hW q1, q.2.1, wfS_c (wf_con _ _) w.2⟩, fun hk => ?_⟩
    have hk2 : WP g l d k n0 n1 Q (pc + 2, evL ρ lv, (2, ((nC C : Nat) : Int)) :: evS ρ r, nC C + 1, hnew h (nC C) (fun _ => 0)) := by
      unfold conc at hk
      simp only [evS, List.map_cons, fcon_ev] at hk
      exact hk
    have hty : (newarray.typeOf ty = .int ∧ (if newarray.typeOf ty = .int then 0 else 1) = 0) ∨ (newarray.typeOf ty = .long ∧ (if newarray.typeOf ty = .int then 0 else 1) = 1) := by
      rcases e.2.2.2 with h | h
      · exact Or.inl ⟨h, by rw [if_pos h]⟩
      · exact Or.inr ⟨h, by rw [h]; rfl⟩
    have := wp_newa (aux := aux) (len := 2) hd hN hty e.1 e.2.1 e.2.2.1 hn1 hk2
    unfold conc
    simp only [evS, List.map_cons]
    rw [f1, e0]
    exact this
  · rename_i _ _ ix lv x r C hi
    dsimp only at hi
    subst hi
    split at hs
    case isFalse => cases hs
    rename_i e0
    split at hs
    case h_2 => cases hs
    rename_i c hc
    split at hs
    case isFalse => cases hs
    rename_i e
    cases hs
    have hl : len = 3 := okT_len ht rfl
    subst hl
    have w := wfS_x q.2.2
    have q1 : core P L h0 ρ h C := q.1
    have f1 := fone_ok q1 w.1 hc
    have hN : okW wx (.classLink (mown k) ix "BoxLeaves$Terms") = true := by
      unfold okT at ht
      rw [Bool.and_eq_true] at ht
      exact ht.2
    refine ⟨rfl, _, ⟨mkC_ok hW q1, q.2.1, wfS_c (wf_con _ _) w.2⟩, fun hk => ?_⟩
    have hk2 : WP g l d k n0 n1 Q (pc + 3, evL ρ lv, (2, ((nC C : Nat) : Int)) :: evS ρ r, nC C + 1, hnew h (nC C) (fun _ => -1)) := by
      unfold conc at hk
      simp only [evS, List.map_cons, fcon_ev] at hk
      exact hk
    have := wp_anew (aux := aux) (len := 3) hd hN e.1 e.2.1 e.2.2 hn1 hk2
    unfold conc
    simp only [evS, List.map_cons]
    rw [f1, e0]
    exact this
  · rename_i _ _ ix m lv y x r C hi
    dsimp only at hi
    subst hi
    split at hs
    case isFalse => cases hs
    rename_i e0
    obtain ⟨rfl, e01, e02⟩ := e0
    split at hs
    case h_2 => cases hs
    rename_i a b ha hb
    split at hs
    case isFalse => cases hs
    rename_i e
    obtain ⟨e1, e2, e3, e4, e5, e6, e7⟩ := e
    cases hs
    have hl : len = 4 := okT_len ht rfl
    subst hl
    obtain ⟨wy, w⟩ := wfS_x q.2.2
    have w := wfS_x w
    have q1 : core P L h0 ρ h C := q.1
    have f1 := fone_ok q1 w.1 ha
    have f2 := fone_ok q1 wy hb
    have hN : okW wx (.classLink (mown k) ix "[[J") = true ∧ okW aux (.arrayClass .long) = true := by
      unfold okT at ht
      rw [Bool.and_eq_true] at ht
      have := ht.2
      dsimp only at this
      rw [Bool.and_eq_true] at this
      exact this
    have hm := mkN_n P (mkC P C (fun i => ((nC C + 1 + i : Nat) : Int))) a.toNat
    have hm1 : nC (mkN P (mkC P C (fun i => ((nC C + 1 + i : Nat) : Int))) a.toNat) = nC C + 1 + a.toNat := hm.1
    have hm2 : eC (mkN P (mkC P C (fun i => ((nC C + 1 + i : Nat) : Int))) a.toNat) = eC C := hm.2
    have hc := mkN_ok hW (mkC_ok hW (f := fun i => ((nC C + 1 + i : Nat) : Int)) q1) a.toNat
    refine ⟨hm2, _, ⟨hc, ?_, ?_⟩, fun hk => ?_⟩
    · show wfL (eC (mkN P _ a.toNat)).length lv
      rw [hm2]; exact q.2.1
    · show wfS (eC (mkN P _ a.toNat)).length _
      rw [hm2]; exact wfS_c (wf_con _ _) w.2
    · have hk2 : WP g l d k n0 n1 Q (pc + 4, evL ρ lv, (2, ((nC C : Nat) : Int)) :: evS ρ r, nC C + 1 + a.toNat, hmul h (nC C) a.toNat) := by
        rw [hmul_hmn]
        unfold conc at hk
        simp only [evS, List.map_cons, fcon_ev] at hk
        rw [hm1] at hk
        exact hk
      have hn1' : nC C + 1 + a.toNat ≤ n1 := by
        have : nC (mkN P (mkC P C (fun i => ((nC C + 1 + i : Nat) : Int))) a.toNat) ≤ n1 := hn1
        rw [hm1] at this
        exact this
      have hin : ∀ i, i < a.toNat → sh (nC C + 1 + i) = (1, b.toNat) := fun i hi => by
        have := List.all_eq_true.mp e4 i (List.mem_range.mpr hi)
        exact eq_of_beq this
      have := wp_multi hd hN.1 hN.2 e1 e2 e3 hin e5 e6 e7 hn1' hk2
      unfold conc
      simp only [evS, List.map_cons]
      rw [f1, f2, e01, e02]
      exact this
  · cases hs
end MK
