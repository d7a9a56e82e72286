/-! PLACES OF ARRAYS, AND RANGES OF PLACES -/
def rng (lo hi : Int) : List Int := (List.range (hi - lo + 1).toNat).map fun (i : Nat) => lo + i
theorem rng_mem {lo hi x : Int} (h1 : lo ≤ x) (h2 : x ≤ hi) : x ∈ rng lo hi := by
  unfold rng
  exact List.mem_map.mpr ⟨(x - lo).toNat, List.mem_range.mpr (by omega), by omega⟩
/-- every number that a form may be -/
def ixs (env : REnv) (f : Fm) : List Int := match f.2 with
  | [t] => (rng (env.getD t.1 (0, 0)).1 (env.getD t.1 (0, 0)).2).map fun v => f.1 + t.2 * v
  | [t, u] => if ((env.getD t.1 (0, 0)).2 - (env.getD t.1 (0, 0)).1) * ((env.getD u.1 (0, 0)).2 - (env.getD u.1 (0, 0)).1) < 400 then (rng (env.getD t.1 (0, 0)).1 (env.getD t.1 (0, 0)).2).flatMap fun v => (rng (env.getD u.1 (0, 0)).1 (env.getD u.1 (0, 0)).2).map fun w => f.1 + (t.2 * v + u.2 * w) else rng (iv env f).1 (iv env f).2
  | _ => rng (iv env f).1 (iv env f).2
theorem ixs_ok {ρ : Nat → Int} {env : REnv} {f : Fm} (he : eOK ρ env) (hw : wfF env.length f) : ev ρ f ∈ ixs env f := by
  obtain ⟨c, ts⟩ := f
  have hi := iv_ok he hw
  unfold ixs
  split
  · rename_i t ht
    dsimp only at ht
    subst ht
    have hb := he t.1 (hw t List.mem_cons_self)
    refine List.mem_map.mpr ⟨ρ t.1, rng_mem hb.1 hb.2, ?_⟩
    simp [ev, evT]
  · rename_i t u ht
    dsimp only at ht
    subst ht
    split
    · have hb := he t.1 (hw t List.mem_cons_self)
      have hb2 := he u.1 (hw u (List.mem_cons_of_mem _ List.mem_cons_self))
      refine List.mem_flatMap.mpr ⟨ρ t.1, rng_mem hb.1 hb.2, List.mem_map.mpr ⟨ρ u.1, rng_mem hb2.1 hb2.2, ?_⟩⟩
      simp [ev, evT]
    · exact rng_mem hi.1 hi.2
  · exact rng_mem hi.1 hi.2
/-- a form's range, the known facts put to use -/
def ivF (env : REnv) (f : Fm) : List Fm → Int × Int → Int × Int
  | [], b => b
  | g :: r, b => ivF env f r (max b.1 (iv env (fadd f g)).1, min b.2 (iv env (fsub f g)).2)
theorem ivF_ok {ρ : Nat → Int} {env : REnv} {f : Fm} (he : eOK ρ env) (hw : wfF env.length f) : ∀ {fs : List Fm} {b : Int × Int}, (∀ g ∈ fs, wfF env.length g ∧ ev ρ g ≤ 0) → b.1 ≤ ev ρ f → ev ρ f ≤ b.2 → (ivF env f fs b).1 ≤ ev ρ f ∧ ev ρ f ≤ (ivF env f fs b).2
  | [], _, _, h1, h2 => ⟨h1, h2⟩
  | g :: r, b, hf, h1, h2 => by
    unfold ivF
    have hg := hf g List.mem_cons_self
    have a1 := iv_ok he (wf_add hw hg.1)
    have a2 := iv_ok he (wf_sub hw hg.1)
    rw [fadd_ev] at a1
    rw [fsub_ev] at a2
    exact ivF_ok he hw (fun x hx => hf x (List.mem_cons_of_mem _ hx)) (by dsimp only; omega) (by dsimp only; omega)
def inB (C : aC) (lo hi : Int) (f : Fm) : Bool := isIn lo hi (iv (eC C) f) || isIn lo hi (ivF (eC C) f (fC C) (iv (eC C) f))
theorem inB_ok {P : aP} {L : bC} {h0 h : bH} {ρ : Nat → Int} {C : aC} {f : Fm} {lo hi : Int} (q : core P L h0 ρ h C) (hw : wfF (eC C).length f) (hs : inB C lo hi f = true) : lo ≤ ev ρ f ∧ ev ρ f ≤ hi := by
  have v := iv_ok q.1 hw
  unfold inB at hs
  rw [Bool.or_eq_true] at hs
  rcases hs with hs | hs
  · have := isIn_x hs
    omega
  · have := isIn_x hs
    have w := ivF_ok q.1 hw q.2.1 v.1 v.2
    omega
/-- a known place's content is within its range -/
def inTy (P : aP) (C : aC) (c : (Nat × Nat) × Fm) : Bool := inB C (tyP P c.1.1 c.1.2).1 (tyP P c.1.1 c.1.2).2 c.2
/-- of a place within reach (array a, at one of js; every place of a cell of one range) -/
def hits (P : aP) (a : Nat) (js : List Int) (c : (Nat × Nat) × Fm) : Bool := c.1.1 == a && (match P.2.1 a with
  | some _ => true
  | none => js.contains (c.1.2 : Int))
/-- the range of what a place within reach holds -/
def joinL (P : aP) (a : Nat) : Int → Int → List Int → Int × Int
  | lo, hi, [] => (lo, hi)
  | lo, hi, j :: r => if lo ≤ (tyP P a j.toNat).1 then (if (tyP P a j.toNat).2 ≤ hi then joinL P a lo hi r else joinL P a lo (tyP P a j.toNat).2 r) else (if (tyP P a j.toNat).2 ≤ hi then joinL P a (tyP P a j.toNat).1 hi r else joinL P a (tyP P a j.toNat).1 (tyP P a j.toNat).2 r)
theorem joinL_ok {P : aP} {a : Nat} : ∀ {js : List Int} {lo hi : Int}, (joinL P a lo hi js).1 ≤ lo ∧ hi ≤ (joinL P a lo hi js).2 ∧ ∀ j ∈ js, (joinL P a lo hi js).1 ≤ (tyP P a j.toNat).1 ∧ (tyP P a j.toNat).2 ≤ (joinL P a lo hi js).2
  | [], lo, hi => ⟨Int.le_refl _, Int.le_refl _, fun j hj => by cases hj⟩
  | i :: r, lo, hi => by
    unfold joinL
    split
    · split
      · obtain ⟨h1, h2, h3⟩ := joinL_ok (P := P) (a := a) (js := r) (lo := lo) (hi := hi)
        exact ⟨h1, h2, List.forall_mem_cons.mpr ⟨⟨by omega, by omega⟩, h3⟩⟩
      · obtain ⟨h1, h2, h3⟩ := joinL_ok (P := P) (a := a) (js := r) (lo := lo) (hi := (tyP P a i.toNat).2)
        exact ⟨h1, by omega, List.forall_mem_cons.mpr ⟨⟨by omega, by omega⟩, h3⟩⟩
    · split
      · obtain ⟨h1, h2, h3⟩ := joinL_ok (P := P) (a := a) (js := r) (lo := (tyP P a i.toNat).1) (hi := hi)
        exact ⟨by omega, h2, List.forall_mem_cons.mpr ⟨⟨by omega, by omega⟩, h3⟩⟩
      · obtain ⟨h1, h2, h3⟩ := joinL_ok (P := P) (a := a) (js := r) (lo := (tyP P a i.toNat).1) (hi := (tyP P a i.toNat).2)
        exact ⟨by omega, by omega, List.forall_mem_cons.mpr ⟨⟨by omega, by omega⟩, h3⟩⟩
def joinR (P : aP) (a : Nat) : List Int → Option (Int × Int)
  | [] => none
  | j :: r => some (joinL P a (tyP P a j.toNat).1 (tyP P a j.toNat).2 r)
theorem joinR_ok {P : aP} {a : Nat} : ∀ {js : List Int} {b : Int × Int} {j : Int}, joinR P a js = some b → j ∈ js → b.1 ≤ (tyP P a j.toNat).1 ∧ (tyP P a j.toNat).2 ≤ b.2
  | [], b, j, h, _ => by cases h
  | i :: r, b, j, h, hj => by
    cases h
    obtain ⟨h1, h2, h3⟩ := joinL_ok (P := P) (a := a) (js := r) (lo := (tyP P a i.toNat).1) (hi := (tyP P a i.toNat).2)
    rcases List.mem_cons.mp hj with rfl | hj
    · exact ⟨h1, h2⟩
    · exact h3 j hj
/-- the places that an index may name: none for a cell of one range -/
def reach (P : aP) (env : REnv) (a : Nat) (f : Fm) : List Int := match P.2.1 a with
  | some _ => []
  | none => ixs env f
def rangeOf (P : aP) (env : REnv) (a : Nat) (f : Fm) : Option (Int × Int) := match P.2.1 a with
  | some r => some r
  | none => joinR P a (ixs env f)
theorem range_ok {P : aP} {ρ : Nat → Int} {env : REnv} {a : Nat} {f : Fm} {b : Int × Int} (he : eOK ρ env) (hw : wfF env.length f) (h0 : 0 ≤ ev ρ f) (h : rangeOf P env a f = some b) : b.1 ≤ (tyP P a (ev ρ f).toNat).1 ∧ (tyP P a (ev ρ f).toNat).2 ≤ b.2 := by
  unfold rangeOf at h
  cases hu : P.2.1 a with
  | some r =>
    rw [hu] at h
    cases h
    unfold tyP
    rw [hu]
    exact ⟨Int.le_refl _, Int.le_refl _⟩
  | none =>
    rw [hu] at h
    exact joinR_ok h (ixs_ok he hw)
theorem hits_ok {P : aP} {ρ : Nat → Int} {env : REnv} {a : Nat} {f : Fm} {c : (Nat × Nat) × Fm} (he : eOK ρ env) (hw : wfF env.length f) (h0 : 0 ≤ ev ρ f) (h : c.1 = (a, (ev ρ f).toNat)) : hits P a (reach P env a f) c = true := by
  unfold hits
  rw [h]
  simp only [beq_self_eq_true, Bool.true_and]
  unfold reach
  cases hu : P.2.1 a with
  | some r => rfl
  | none =>
    have := ixs_ok he hw
    show (ixs env f).contains (((ev ρ f).toNat : Nat) : Int) = true
    rw [List.contains_iff_mem, Int.toNat_of_nonneg h0]
    exact this
/-- a place of an array, the index not known -/
def aldx (P : aP) (C : aC) (a : Nat) (f : Fm) : Option (Int × Int) := if (cC C).all (fun c => !hits P a (reach P (eC C) a f) c || inTy P C c) then rangeOf P (eC C) a f else none
theorem aldx_ok {P : aP} {L : bC} {h0 h : bH} {ρ : Nat → Int} {C : aC} {a : Nat} {f : Fm} {b : Int × Int} (q : core P L h0 ρ h C) (hw : wfF (eC C).length f) (ha : a < nC C) (hf : 0 ≤ ev ρ f) (hj : (ev ρ f).toNat < (sh a).2) (hs : aldx P C a f = some b) : b.1 ≤ h a (ev ρ f).toNat ∧ h a (ev ρ f).toNat ≤ b.2 := by
  unfold aldx at hs
  split at hs
  case isFalse => cases hs
  rename_i hall
  have hr := range_ok q.1 hw hf hs
  have hty : (tyP P a (ev ρ f).toNat).1 ≤ h a (ev ρ f).toNat ∧ h a (ev ρ f).toNat ≤ (tyP P a (ev ρ f).toNat).2 := by
    by_cases hc : ∀ c ∈ cC C, c.1 ≠ (a, (ev ρ f).toNat)
    · exact q.2.2.2.1 a _ ha hj hc
    · simp only [Classical.not_forall, ne_eq, Classical.not_not] at hc
      obtain ⟨c, hc, he⟩ := hc
      have := List.all_eq_true.mp hall c hc
      rw [hits_ok q.1 hw hf he] at this
      simp only [Bool.not_true, Bool.false_or] at this
      have hi := inB_ok q (q.2.2.1 c hc).1 this
      have he2 := (q.2.2.1 c hc).2
      rw [he] at he2 hi
      dsimp only at he2 hi
      omega
  omega
/-- write a place of an array, the index not known -/
def afit (P : aP) (env : REnv) (a : Nat) (f : Fm) (b : Int × Int) : Bool := match P.2.1 a with
  | some r => isIn r.1 r.2 b && wrP P a 0
  | none => (ixs env f).all fun j => isIn (tyP P a j.toNat).1 (tyP P a j.toNat).2 b && wrP P a j.toNat
def astx (P : aP) (C : aC) (a : Nat) (f v : Fm) : Option aC :=
  let js := reach P (eC C) a f
  let b := iv (eC C) v
  if (cC C).all (fun c => !hits P a js c || inTy P C c) = true ∧ afit P (eC C) a f b = true then some (eC C, fC C, (cC C).filter (fun c => !hits P a js c), nC C) else none
theorem astx_ok {P : aP} (hwu : ∀ a r, P.2.1 a = some r → ∀ j, j < (sh a).2 → wrP P a j = wrP P a 0) {L : bC} {h0 h : bH} {ρ : Nat → Int} {C C' : aC} {a : Nat} {f v : Fm} (q : core P L h0 ρ h C) (hw : wfF (eC C).length f) (hv : wfF (eC C).length v) (hf : 0 ≤ ev ρ f) (hj : (ev ρ f).toNat < (sh a).2) (hs : astx P C a f v = some C') : core P L h0 ρ (hup h a (ev ρ f).toNat (ev ρ v)) C' ∧ eC C' = eC C ∧ nC C' = nC C := by
  unfold astx at hs
  dsimp only at hs
  split at hs
  case isFalse => cases hs
  rename_i hall
  obtain ⟨hall, hty⟩ := hall
  cases hs
  have qq := q
  obtain ⟨q1, q2, q3, q4, q5, q6⟩ := q
  have vb := iv_ok q1 hv
  unfold afit at hty
  have hfit : ((tyP P a (ev ρ f).toNat).1 ≤ ev ρ v ∧ ev ρ v ≤ (tyP P a (ev ρ f).toNat).2) ∧ wrP P a (ev ρ f).toNat = true := by
    cases hu : P.2.1 a with
    | some r =>
      rw [hu] at hty
      dsimp only at hty
      rw [Bool.and_eq_true] at hty
      have := isIn_x hty.1
      refine ⟨?_, by rw [hwu a r hu _ hj]; exact hty.2⟩
      unfold tyP
      rw [hu]
      dsimp only
      omega
    | none =>
      rw [hu] at hty
      dsimp only at hty
      have := List.all_eq_true.mp hty _ (ixs_ok q1 hw)
      rw [Bool.and_eq_true] at this
      have h2 := isIn_x this.1
      exact ⟨by omega, this.2⟩
  refine ⟨⟨q1, q2, ?_, ?_, ?_, q6⟩, rfl, rfl⟩
  · intro c hc
    obtain ⟨h1, h2⟩ := List.mem_filter.mp hc
    refine ⟨(q3 c h1).1, ?_⟩
    rw [← (q3 c h1).2]
    refine if_neg (fun e => ?_)
    rw [hits_ok q1 hw hf (Prod.ext e.1 e.2)] at h2
    cases h2
  · intro a' j' h1 h2 h3
    by_cases e : a' = a ∧ j' = (ev ρ f).toNat
    · obtain ⟨rfl, rfl⟩ := e
      rw [show hup h a' (ev ρ f).toNat (ev ρ v) a' (ev ρ f).toNat = ev ρ v from if_pos ⟨rfl, rfl⟩]
      exact hfit.1
    · rw [show hup h a (ev ρ f).toNat (ev ρ v) a' j' = h a' j' from if_neg e]
      by_cases hc : ∀ c ∈ cC C, c.1 ≠ (a', j')
      · exact q4 a' j' h1 h2 hc
      · simp only [Classical.not_forall, ne_eq, Classical.not_not] at hc
        obtain ⟨c, hc, he⟩ := hc
        have hh : hits P a (reach P (eC C) a f) c = true := by
          cases hq : hits P a (reach P (eC C) a f) c with
          | true => rfl
          | false => exact absurd he (h3 c (List.mem_filter.mpr ⟨hc, by rw [hq]; rfl⟩))
        have := List.all_eq_true.mp hall c hc
        rw [hh] at this
        simp only [Bool.not_true, Bool.false_or] at this
        have hi := inB_ok qq (q3 c hc).1 this
        have he2 := (q3 c hc).2
        rw [he] at he2 hi
        dsimp only at he2 hi
        omega
  · intro a' j' h1
    have hne : ¬ (a' = a ∧ j' = (ev ρ f).toNat) := fun e => by
      rw [e.1, e.2, hfit.2] at h1
      cases h1
    rw [show hup h a (ev ρ f).toNat (ev ρ v) a' j' = h a' j' from if_neg hne]
    exact q5 a' j' h1
