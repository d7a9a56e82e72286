/-! ALL THE PLAIN INSTRUCTIONS -/
theorem adef_ok {P : aP} {L : bC} {sc : bC} {k : Nat} {t : Tok} {h0 h : bH} {ρ : Nat → Int} {S S' : aS} {pc : Nat} (hd : astep P k t S = match cop2 t.1 with
    | some c => ado2 t.1 c S
    | none => match cop1 t.1 with
      | some c => ado1 t.1 c S
      | none => none) (hl : ilen t.1 = 1) (q : aIn P L h0 ρ h S) (hs : astep P k t S = some S') : aOut P L h0 ρ S S' (cst sc k t (conc ρ pc (nC S.2.2) h S)) (pc + ilen t.1) := by
  rw [hd] at hs
  rw [hl]
  cases h2 : cop2 t.1 with
  | some c => rw [h2] at hs; exact ado2_ok h2 q hs
  | none =>
    rw [h2] at hs
    dsimp only at hs
    cases h1 : cop1 t.1 with
    | some c => rw [h1] at hs; exact ado1_ok h1 q hs
    | none => rw [h1] at hs; cases hs
theorem astep_ok {P : aP} (hP : PW P) {L : bC} {sc : bC} (hsc : sc = L) {k : Nat} {t : Tok} {h0 h : bH} {ρ : Nat → Int} {S S' : aS} {pc : Nat} (q : aIn P L h0 ρ h S) (hs : astep P k t S = some S') : aOut P L h0 ρ S S' (cst sc k t (conc ρ pc (nC S.2.2) h S)) (pc + ilen t.1) := by
  obtain ⟨i, len, aux, wx⟩ := t
  cases i
  case iconst c => exact apc_ok q hs
  case bipush c => exact apc_ok q hs
  case sipush c => exact apc_ok q hs
  case lconst c => exact apc_ok q hs
  case ldc c =>
    by_cases e : aux < 1000
    · have hs : apc 0 (w32 (kI.getD aux 0)) S = some S' := by
        simp only [astep, if_pos e] at hs
        exact hs
      have := apc_ok (pc := pc + 2) q hs
      simp only [cst, if_pos e]
      exact this
    · have hs : apc 2 ((aux : Int) - 488) S = some S' := by
        simp only [astep, if_neg e] at hs
        exact hs
      have := apc_ok (pc := pc + 2) q hs
      simp only [cst, if_neg e]
      exact this
  case ldc_w c => exact apc_ok q hs
  case ldc2_w c => exact apc_ok q hs
  case aconst_null => exact apc_ok q hs
  case iload j => exact ald_ok q hs
  case iload_n j => exact ald_ok q hs
  case lload j => exact ald_ok q hs
  case lload_n j => exact ald_ok q hs
  case aload j => exact ald_ok q hs
  case aload_n j => exact ald_ok q hs
  case istore j => exact ast_ok q hs
  case istore_n j => exact ast_ok q hs
  case lstore j => exact ast_ok q hs
  case lstore_n j => exact ast_ok q hs
  case astore j => exact ast_ok q hs
  case astore_n j => exact ast_ok q hs
  case iinc j c => exact ainc_ok q hs
  case pop => exact amv_ok (Or.inl rfl) q hs
  case dup => exact amv_ok (Or.inr (Or.inl rfl)) q hs
  case dup_x1 => exact amv_ok (Or.inr (Or.inr (Or.inl rfl))) q hs
  case dup_x2 => exact amv_ok (Or.inr (Or.inr (Or.inr (Or.inl rfl)))) q hs
  case dup2 => exact amv_ok (Or.inr (Or.inr (Or.inr (Or.inr rfl)))) q hs
  case getfield j => exact agetf_ok q hs
  case putfield j => exact aputf_ok q hs
  case iaload =>
    simp only [astep] at hs
    cases h1 : aaldI P 0 0 S with
    | none => rw [h1] at hs; exact ascr_ok hsc q hs
    | some S1 =>
      rw [h1] at hs
      cases hs
      have hh := aaldI_ok (pc := pc) q h1
      obtain ⟨ρ', h', x1, x2, x3, x4, x5⟩ := hh
      refine ⟨ρ', h', x1, x2, x3, x4, ?_⟩
      rw [← show pc + 1 = pc + ilen Instr.iaload from rfl, ← x5]
      obtain ⟨i, a, r, y1, y2, y3⟩ := baload_x x5
      show biald sc _ = _
      unfold conc
      rw [y1]
      unfold biald
      dsimp only
      rw [if_neg]
      intro hc
      unfold barr at y2
      simp only [Bool.and_eq_true, decide_eq_true_eq, beq_iff_eq] at y2
      rw [hc.2.2.1] at y2
      exact absurd y2.2.2.1 (by decide)
  case laload => exact aaldI_ok q hs
  case aaload =>
    by_cases e : aux = 0
    · have hs : aaldI P 2 2 S = some S' := by
        simp only [astep, if_pos e] at hs
        exact hs
      have := aaldI_ok (pc := pc) q hs
      simp only [cst, if_pos e]
      exact this
    · have hs : aaldI P 3 2 S = some S' := by
        simp only [astep, if_neg e] at hs
        exact hs
      have := aaldI_ok (pc := pc) q hs
      simp only [cst, if_neg e]
      exact this
  case iastore => exact aastI_ok hP q hs
  case lastore => exact aastI_ok hP q hs
  case arraylength => exact alen_ok hsc q hs
  all_goals first
    | exact adef_ok rfl rfl q hs
    | (cases hs; done)
