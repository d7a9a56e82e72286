/-! READING PLACES AHEAD, FINDING FORMS, RETURNS -/
def atouch (P : aP) : aC → List (Nat × Nat) → aC
  | C, [] => C
  | C, q :: qs => atouch P (if q.1 < nC C ∧ q.2 < (sh q.1).2 then (aload P C q.1 q.2).2 else C) qs
/-- grown: more unknowns, the same contents -/
def grown (P : aP) (L : bC) (h0 : bH) (ρ : Nat → Int) (h : bH) (C C' : aC) : Prop := ∃ ρ', ext (eC C).length ρ ρ' ∧ (eC C).length ≤ (eC C').length ∧ core P L h0 ρ' h C' ∧ nC C' = nC C
theorem grown.refl {P : aP} {L : bC} {h0 h : bH} {ρ : Nat → Int} {C : aC} (q : core P L h0 ρ h C) : grown P L h0 ρ h C C := ⟨ρ, fun _ _ => rfl, Nat.le_refl _, q, rfl⟩
theorem ext.trans {m m' : Nat} {ρ ρ1 ρ2 : Nat → Int} (h : ext m ρ ρ1) (h2 : ext m' ρ1 ρ2) (hm : m ≤ m') : ext m ρ ρ2 := fun i hi => (h2 i (by omega)).trans (h i hi)
theorem atouch_ok {P : aP} {L : bC} {h0 h : bH} : ∀ {qs : List (Nat × Nat)} {ρ : Nat → Int} {C : aC}, core P L h0 ρ h C → grown P L h0 ρ h C (atouch P C qs)
  | [], ρ, C, q => grown.refl q
  | p :: qs, ρ, C, q => by
    unfold atouch
    split
    · rename_i e
      obtain ⟨ρ1, x1, x2, x3, x4, x5, x6⟩ := aload_ok q e.1 e.2
      obtain ⟨ρ2, y1, y2, y3, y4⟩ := atouch_ok (qs := qs) x3
      exact ⟨ρ2, x1.trans y1 x2, Nat.le_trans x2 y2, y3, y4.trans x6⟩
    · exact atouch_ok q
/-- forms for a known state's unknowns, found at places that hold one alone -/
def lset (σ : List (Nat × Fm)) (i : Nat) (f : Fm) : List (Nat × Fm) := if σ.any (fun q => q.1 == i) then σ else (i, f) :: σ
def inf1 (σ : List (Nat × Fm)) (p f : Fm) : List (Nat × Fm) := match p.2 with
  | [t] => if t.2 = 1 then lset σ t.1 (fplus f (-p.1)) else if t.2 = -1 then lset σ t.1 (fneg (fplus f (-p.1))) else if 1 < t.2 then lset σ t.1 (fqt t.2 (fplus f (-p.1))) else σ
  | _ => σ
def infS (σ : List (Nat × Fm)) : List AV → List AV → List (Nat × Fm)
  | p :: ps, v :: vs => infS (inf1 σ p.2 v.2) ps vs
  | _, _ => σ
def infL (lv : aL) : List (Nat × Fm) → aL → List (Nat × Fm)
  | σ, [] => σ
  | σ, q :: qs => infL lv (match lv.lookup q.1 with
    | some v => inf1 σ q.2.2 v.2
    | none => σ) qs
def infC (ca : Ca) : List (Nat × Fm) → Ca → List (Nat × Fm)
  | σ, [] => σ
  | σ, c :: cs => infC ca (match clook c.1.1 c.1.2 ca with
    | some f => inf1 σ c.2 f
    | none => σ) cs
def infer (m0 : Nat) (S T : aS) : List Fm :=
  let σ := infC (cC S.2.2) (infL S.1 (infS [] T.2.1 S.2.1) T.1) (cC T.2.2)
  (List.range (eC T.2.2).length).map fun i => if i < m0 then fid i else match σ.lookup i with
    | some f => f
    | none => fcon (((eC T.2.2).getD i (0, 0)).1)
def b01 (b : Bool) : Nat := if b = true then 1 else 0
/-- a contract that fits -/
def tryC (G : aG) (w : aW) (hs : Bool) (k' d' : Nat) (C : aC) (as : List AV) : List aCt → Option (aCt × List Fm × aC)
  | [] => none
  | c :: cs =>
    if ctK c = k' ∧ ctL c ≤ d' then
      let C1 := atouch (PofW G w hs) C ((cC (ctC c)).map (·.1))
      let σ := infer (b01 (ctS c)) ([], as, C1) ([], ctA c, ctC c)
      if acallB G w hs c σ C1 as = true then some (c, σ, C1) else tryC G w hs k' d' C as cs
    else tryC G w hs k' d' C as cs
theorem tryC_ok {G : aG} {w : aW} {hs : Bool} {k' d' : Nat} {C C1 : aC} {as : List AV} {c : aCt} {σ : List Fm} : ∀ {cs : List aCt}, tryC G w hs k' d' C as cs = some (c, σ, C1) → c ∈ cs ∧ ctK c = k' ∧ ctL c ≤ d' ∧ acallB G w hs c σ C1 as = true ∧ C1 = atouch (PofW G w hs) C ((cC (ctC c)).map (·.1))
  | [], h => by cases h
  | q :: cs, h => by
    unfold tryC at h
    split at h
    · rename_i e
      dsimp only at h
      split at h
      · rename_i e2
        cases h
        exact ⟨List.mem_cons_self, e.1, e.2, e2, rfl⟩
      · obtain ⟨h1, h2⟩ := tryC_ok h
        exact ⟨List.mem_cons_of_mem _ h1, h2⟩
    · obtain ⟨h1, h2⟩ := tryC_ok h
      exact ⟨List.mem_cons_of_mem _ h1, h2⟩
/-- a return -/
def aret (t : Tok) (st : List AV) : Option (Option AV) := match t.1, st with
  | .return_, [] => some none
  | .ireturn, [v] => if v.1 = 0 then some (some v) else none
  | .lreturn, [v] => if v.1 = 1 then some (some v) else none
  | .areturn, [v] => if v.1 = 2 then some (some v) else none
  | _, _ => none
theorem aret_ok {ρ : Nat → Int} {t : Tok} {st : List AV} {r : Option AV} (h : aret t st = some r) : bret t.1 (evR ρ r) = true ∧ evS ρ st = (evR ρ r).toList ∧ st = r.toList := by
  obtain ⟨i, rr⟩ := t
  unfold aret at h
  split at h
  · rename_i hi
    dsimp only at hi
    subst hi
    cases h
    exact ⟨rfl, rfl, rfl⟩
  all_goals first
    | (cases h; done)
    | (rename_i _ v hi
       dsimp only at hi
       subst hi
       split at h
       · rename_i e
         cases h
         obtain ⟨a, b⟩ := v
         dsimp only at e
         subst e
         exact ⟨rfl, rfl, rfl⟩
       · cases h)
def abfit (C : aC) (ty : Option FieldType) (r : Option AV) : Bool := match ty, r with
  | none, none => true
  | some .int, some (0, f) => isIn (-2147483648) 2147483647 (iv (eC C) f)
  | some .boolean, some (0, f) => isIn 0 1 (iv (eC C) f)
  | some .long, some (1, f) => isIn (-9223372036854775808) 9223372036854775807 (iv (eC C) f)
  | some (.object _), some (2, f) => decide (-1 ≤ (iv (eC C) f).1)
  | some .char, some (0, f) => isIn 0 65535 (iv (eC C) f)
  | some .byte, some (0, f) => isIn 0 0 (iv (eC C) f)
  | _, _ => false
theorem abfit_ok {P : aP} {L : bC} {h0 h : bH} {ρ : Nat → Int} {C : aC} {ty : Option FieldType} {r : Option AV} (q : core P L h0 ρ h C) (hw : wfS (eC C).length r.toList) (hs : abfit C ty r = true) : bfit ty (evR ρ r) := by
  unfold abfit at hs
  split at hs
  case h_1 => trivial
  case h_8 => cases hs
  all_goals
    rename_i f
    have v := iv_ok q.1 (hw _ (List.mem_singleton.mpr rfl))
  case h_2 =>
    have b := isIn_x hs
    show in32 (ev ρ f)
    unfold in32
    dsimp only at v
    omega
  case h_3 =>
    have b := isIn_x hs
    show 0 ≤ ev ρ f ∧ ev ρ f ≤ 1
    dsimp only at v
    omega
  case h_4 =>
    have b := isIn_x hs
    show in64 (ev ρ f)
    unfold in64
    dsimp only at v
    omega
  case h_5 =>
    rw [decide_eq_true_eq] at hs
    show -1 ≤ ev ρ f
    dsimp only at v
    omega
  case h_6 =>
    have b := isIn_x hs
    show 0 ≤ ev ρ f ∧ ev ρ f < 65536
    dsimp only at v
    omega
  case h_7 =>
    have b := isIn_x hs
    show ev ρ f = 0
    dsimp only at v
    omega
