/-! lcmp WITH ITS CONDITION; ARRIVAL AT A KNOWN STATE -/
theorem bcond_cmp (c : Jvm.ClassFile.Cond) (x y : Int) : bcond c (cmpL x y) 0 = bcond c x y := by
  unfold cmpL
  cases c <;> simp only [bcond] <;> (by_cases h1 : y < x <;> by_cases h2 : x = y <;> simp [h1, h2] <;> omega)
def acmp (t2 : Tok) (pc : Nat) (S : aS) : Option aB := match t2.1, S with
  | .ifCond c off, (lv, y :: x :: r, C) => if y.1 = 1 ∧ x.1 = 1 ∧ 0 ≤ ((pc + 1 : Nat) : Int) + off then some (aside c (fsub x.2 y.2) (((pc + 1 : Nat) : Int) + off).toNat (pc + 1 + 3) lv r C) else none
  | _, _ => none
theorem acmp_ok {P : aP} {L : bC} {sc : bC} {k : Nat} {t1 t2 : Tok} {h0 h : bH} {ρ : Nat → Int} {S : aS} {Ls : aB} {pc : Nat} (ht : t1.1 = .lcmp) (q : aIn P L h0 ρ h S) (hs : acmp t2 pc S = some Ls) : ∃ S1 : bS, cst sc k t1 (conc ρ pc (nC S.2.2) h S) = some S1 ∧ S1.1 = pc + 1 ∧ S1.2.2.2.1 = nC S.2.2 ∧ bOut P L h0 ρ h S Ls (cst sc k t2 S1) := by
  obtain ⟨i1, r1⟩ := t1
  obtain ⟨i2, r2⟩ := t2
  dsimp only at ht
  subst ht
  unfold acmp at hs
  split at hs
  case h_2 => cases hs
  rename_i _ _ c off lv y x r C hi
  dsimp only at hi
  subst hi
  split at hs
  case isFalse => cases hs
  rename_i e
  cases hs
  obtain ⟨wy, w⟩ := wfS_x q.2.2
  have w := wfS_x w
  refine ⟨(pc + 1, evL ρ lv, (0, cmpL (ev ρ x.2) (ev ρ y.2)) :: evS ρ r, nC C, h), ?_, rfl, rfl, ?_⟩
  · show (if x.1 = 1 ∧ y.1 = 1 then _ else none) = _
    rw [if_pos ⟨e.2.1, e.1⟩]
    rfl
  · refine aside_ok (x := ev ρ x.2) (y := ev ρ y.2) q.1 q.2.1 w.2 (wf_sub w.1 wy) (by rw [fsub_ev]) ?_
    show (if (0 : Nat) = 0 ∧ 0 ≤ ((pc + 1 : Nat) : Int) + off then _ else none) = _
    rw [if_pos ⟨rfl, e.2.2⟩, bcond_cmp]
/-- forms put in for unknowns -/
def sbT (σ : List Fm) : List (Nat × Int) → Fm
  | [] => (0, [])
  | t :: r => fadd (fscale t.2 (σ.getD t.1 (0, []))) (sbT σ r)
def sbF (σ : List Fm) (f : Fm) : Fm := match f.2 with
  | [] => f
  | _ => fplus (sbT σ f.2) f.1
def rsb (ρ : Nat → Int) (σ : List Fm) : Nat → Int := fun i => ev ρ (σ.getD i (0, []))
theorem sbT_ev (ρ : Nat → Int) (σ : List Fm) : ∀ ts, ev ρ (sbT σ ts) = evT (rsb ρ σ) ts
  | [] => by simp [sbT, ev, evT]
  | t :: r => by
    unfold sbT
    rw [fadd_ev, fscale_ev, sbT_ev ρ σ r]
    rfl
theorem sbF_ev (ρ : Nat → Int) (σ : List Fm) (f : Fm) : ev ρ (sbF σ f) = ev (rsb ρ σ) f := by
  unfold sbF
  split
  · rename_i e
    unfold ev
    rw [e]
    rfl
  · rw [fplus_ev, sbT_ev]
    unfold ev
    omega
def wfB (m : Nat) (f : Fm) : Bool := f.2.all fun t => decide (t.1 < m)
theorem wfB_x {m : Nat} {f : Fm} (h : wfB m f = true) : wfF m f := fun t ht => by
  have := List.all_eq_true.mp h t ht
  exact of_decide_eq_true this
theorem wf_sbT {m : Nat} {σ : List Fm} (h : ∀ f ∈ σ, wfF m f) : ∀ ts, wfF m (sbT σ ts)
  | [] => wf_con m 0
  | t :: r => by
    refine wf_add (wf_scale ?_) (wf_sbT h r)
    rw [List.getD_eq_getElem?_getD]
    cases hg : σ[t.1]? with
    | none => exact wf_con m 0
    | some f => exact h f (List.mem_of_getElem? hg)
theorem wf_sbF {m : Nat} {σ : List Fm} (h : ∀ f ∈ σ, wfF m f) (f : Fm) : wfF m (sbF σ f) := by
  unfold sbF
  split
  · rename_i e
    intro t ht
    rw [e] at ht
    cases ht
  · exact wf_plus (wf_sbT h f.2)
/-- two forms are one number -/
def eqF (C : aC) (f g : Fm) : Bool := f == g || (leP C (fsub f g) && leP C (fsub g f))
theorem eqF_ok {P : aP} {L : bC} {h0 h : bH} {ρ : Nat → Int} {C : aC} {f g : Fm} (q : core P L h0 ρ h C) (hf : wfF (eC C).length f) (hg : wfF (eC C).length g) (hs : eqF C f g = true) : ev ρ f = ev ρ g := by
  unfold eqF at hs
  rw [Bool.or_eq_true, beq_iff_eq, Bool.and_eq_true] at hs
  rcases hs with rfl | ⟨h1, h2⟩
  · rfl
  · have a := leP_ok q (wf_sub hf hg) h1
    have b := leP_ok q (wf_sub hg hf) h2
    rw [fsub_ev] at a b
    omega
/-- a known state is well made -/
def okP (T : aS) : Bool := (T.1.all fun q => wfB (eC T.2.2).length q.2.2) && ((T.2.1.all fun v => wfB (eC T.2.2).length v.2) && (((fC T.2.2).all fun f => wfB (eC T.2.2).length f) && ((cC T.2.2).all fun c => wfB (eC T.2.2).length c.2)))
theorem okP_x {T : aS} (h : okP T = true) : wfL (eC T.2.2).length T.1 ∧ wfS (eC T.2.2).length T.2.1 ∧ (∀ f ∈ fC T.2.2, wfF (eC T.2.2).length f) ∧ ∀ c ∈ cC T.2.2, wfF (eC T.2.2).length c.2 := by
  unfold okP at h
  simp only [Bool.and_eq_true, List.all_eq_true] at h
  exact ⟨fun q hq => wfB_x (h.1 q hq), fun v hv => wfB_x (h.2.1 v hv), fun f hf => wfB_x (h.2.2.1 f hf), fun c hc => wfB_x (h.2.2.2 c hc)⟩
def rgs (C : aC) : List Fm → REnv → Bool
  | [], [] => true
  | f :: fs, b :: bs => inB C b.1 b.2 f && rgs C fs bs
  | _, _ => false
theorem rgs_ok {P : aP} {L : bC} {h0 h : bH} {ρ : Nat → Int} {C : aC} (q : core P L h0 ρ h C) : ∀ {σ : List Fm} {E : REnv}, rgs C σ E = true → (∀ f ∈ σ, wfF (eC C).length f) → ∀ i, i < E.length → (E.getD i (0, 0)).1 ≤ ev ρ (σ.getD i (0, [])) ∧ ev ρ (σ.getD i (0, [])) ≤ (E.getD i (0, 0)).2
  | [], [], _, _, i, hi => by simp at hi
  | f :: fs, b :: bs, h1, h2, 0, _ => by
    unfold rgs at h1
    rw [Bool.and_eq_true] at h1
    have a := inB_ok q (h2 f List.mem_cons_self) h1.1
    simp only [List.getD_cons_zero]
    exact a
  | f :: fs, b :: bs, h1, h2, i + 1, hi => by
    unfold rgs at h1
    rw [Bool.and_eq_true] at h1
    simp only [List.getD_cons_succ]
    exact rgs_ok q h1.2 (fun x hx => h2 x (List.mem_cons_of_mem _ hx)) i (by simpa using hi)
def eqS (C : aC) (σ : List Fm) : List AV → List AV → Bool
  | [], [] => true
  | v :: vs, w :: ws => v.1 == w.1 && (eqF C v.2 (sbF σ w.2) && eqS C σ vs ws)
  | _, _ => false
theorem eqS_ok {P : aP} {L : bC} {h0 h : bH} {ρ : Nat → Int} {C : aC} {σ : List Fm} (q : core P L h0 ρ h C) (hσ : ∀ f ∈ σ, wfF (eC C).length f) : ∀ {s t : List AV}, eqS C σ s t = true → wfS (eC C).length s → evS (rsb ρ σ) t = evS ρ s
  | [], [], _, _ => rfl
  | v :: vs, w :: ws, h1, h2 => by
    unfold eqS at h1
    simp only [Bool.and_eq_true, beq_iff_eq] at h1
    have hw := wfS_x h2
    have e := eqF_ok q hw.1 (wf_sbF hσ _) h1.2.1
    rw [sbF_ev] at e
    unfold evS
    rw [List.map_cons, List.map_cons, ← e, h1.1]
    have := eqS_ok q hσ h1.2.2 hw.2
    unfold evS at this
    rw [this]
/-- the present state is the known one, forms put in -/
def amatch (P : aP) (m0 : Nat) (σ : List Fm) (S T : aS) : Bool :=
  (σ.all fun f => wfB (eC S.2.2).length f) && (rgs S.2.2 σ (eC T.2.2) && (((List.range m0).all fun i => σ.getD i (0, []) == fid i) && (((fC T.2.2).all fun f => leP2 S.2.2 (sbF σ f)) && ((T.1.all fun q => match S.1.lookup q.1 with
    | some v => v.1 == q.2.1 && eqF S.2.2 v.2 (sbF σ q.2.2)
    | none => false) && (eqS S.2.2 σ S.2.1 T.2.1 && (((cC T.2.2).all fun c => match clook c.1.1 c.1.2 (cC S.2.2) with
    | some f => eqF S.2.2 f (sbF σ c.2)
    | none => false) && (((cC S.2.2).all fun c => inTy P S.2.2 c || (clook c.1.1 c.1.2 (cC T.2.2)).isSome) && (nC S.2.2 == nC T.2.2 && okP T))))))))
theorem evL_mem {ρ : Nat → Int} {j : Nat} {v : AV} {lv : aL} (h : lv.lookup j = some v) : (j, (v.1, ev ρ v.2)) ∈ evL ρ lv := by
  apply lookup_mem
  rw [evL_look, h]
  rfl
theorem amatch_ok {P : aP} {L : bC} {h0 h : bH} {ρ : Nat → Int} {S T : aS} {m0 : Nat} {σ : List Fm} (q : aIn P L h0 ρ h S) (hs : amatch P m0 σ S T = true) (hm : P.2.2.2 = true → 8 ≤ m0 ∧ m0 ≤ (eC T.2.2).length) : aIn P L h0 (rsb ρ σ) h T ∧ ext m0 ρ (rsb ρ σ) ∧ (∀ x ∈ evL (rsb ρ σ) T.1, x ∈ evL ρ S.1) ∧ evS (rsb ρ σ) T.2.1 = evS ρ S.2.1 ∧ nC T.2.2 = nC S.2.2 := by
  unfold amatch at hs
  simp only [Bool.and_eq_true] at hs
  obtain ⟨s1, s2, s3, s4, s5, s6, s7, s8, s9, s10⟩ := hs
  obtain ⟨w1, w2, w3, w4⟩ := okP_x s10
  have q1 := q.1
  have hσ : ∀ f ∈ σ, wfF (eC S.2.2).length f := fun f hf => wfB_x (List.all_eq_true.mp s1 f hf)
  have hx : ext m0 ρ (rsb ρ σ) := fun i hi => by
    have := List.all_eq_true.mp s3 i (List.mem_range.mpr hi)
    rw [beq_iff_eq] at this
    unfold rsb
    rw [this, fid_ev]
  have hn : nC T.2.2 = nC S.2.2 := by rw [beq_iff_eq] at s9; exact s9.symm
  refine ⟨⟨⟨fun i hi => rgs_ok q1 s2 hσ i hi, fun f hf => ⟨w3 f hf, ?_⟩, fun c hc => ⟨w4 c hc, ?_⟩, ?_, q1.2.2.2.2.1, fun hp => ?_⟩, w1, w2⟩, hx, ?_, eqS_ok q1 hσ s6 q.2.2, hn⟩
  · have := leP2_ok q1 (wf_sbF hσ f) (List.all_eq_true.mp s4 f hf)
    rw [sbF_ev] at this
    exact this
  · have := List.all_eq_true.mp s7 c hc
    split at this
    case h_2 => cases this
    rename_i f hf
    have hq := q1.2.2.1 _ (clook_some hf)
    have e := eqF_ok q1 hq.1 (wf_sbF hσ _) this
    rw [sbF_ev] at e
    exact hq.2.trans e
  · intro a j ha hj hc
    by_cases hc2 : ∀ c ∈ cC S.2.2, c.1 ≠ (a, j)
    · exact q1.2.2.2.1 a j (by rw [← hn]; exact ha) hj hc2
    · simp only [Classical.not_forall, ne_eq, Classical.not_not] at hc2
      obtain ⟨c, hcm, he⟩ := hc2
      have := List.all_eq_true.mp s8 c hcm
      rw [Bool.or_eq_true] at this
      rcases this with hi | hi
      · have hi := inB_ok q1 (q1.2.2.1 c hcm).1 hi
        have e := (q1.2.2.1 c hcm).2
        rw [he] at e hi
        dsimp only at e hi
        omega
      · cases hk : clook c.1.1 c.1.2 (cC T.2.2) with
        | none => rw [hk] at hi; cases hi
        | some f =>
          have := hc _ (clook_some hk)
          rw [he] at this
          exact absurd rfl this
  · obtain ⟨g1, g2⟩ := q1.2.2.2.2.2 hp
    obtain ⟨g3, g4⟩ := hm hp
    exact ⟨scr_ext (fun i hi => hx i (Nat.lt_of_lt_of_le hi g3)) g1, Nat.le_trans g3 g4⟩
  · intro x hx
    obtain ⟨z, hz, rfl⟩ := List.mem_map.mp hx
    have := List.all_eq_true.mp s5 z hz
    split at this
    case h_2 => cases this
    rename_i v hv
    rw [Bool.and_eq_true, beq_iff_eq] at this
    have e := eqF_ok q1 (wf_look q.2.1 hv) (wf_sbF hσ _) this.2
    rw [sbF_ev] at e
    rw [← this.1, ← e]
    exact evL_mem hv
