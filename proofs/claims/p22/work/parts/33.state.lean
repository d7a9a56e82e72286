/-! THE CHECKER'S STATE -/
abbrev AV : Type := Nat × Fm
abbrev Ca : Type := List ((Nat × Nat) × Fm)
abbrev aL : Type := List (Nat × AV)
/-- ranges, known facts 'f ≤ 0', what places are known to hold, how many cells -/
abbrev aC : Type := REnv × List Fm × Ca × Nat
abbrev aS : Type := aL × List AV × aC
abbrev eC (C : aC) : REnv := C.1
abbrev fC (C : aC) : List Fm := C.2.1
abbrev cC (C : aC) : Ca := C.2.2.1
abbrev nC (C : aC) : Nat := C.2.2.2
def evL (ρ : Nat → Int) (lv : aL) : bL := lv.map fun q => (q.1, (q.2.1, ev ρ q.2.2))
def evS (ρ : Nat → Int) (st : List AV) : List bV := st.map fun v => (v.1, ev ρ v.2)
/-- what a run is checked against: the places' ranges, the cells of one range, what may be written, whether unknown 0 is the script's length -/
abbrev aP : Type := (Nat → Nat → Int × Int) × (Nat → Option (Int × Int)) × (Nat → Nat → Bool) × Bool
def tyP (P : aP) (a j : Nat) : Int × Int := match P.2.1 a with
  | some r => r
  | none => P.1 a j
abbrev wrP (P : aP) (a j : Nat) : Bool := P.2.2.1 a j
/-- what is known of the script: unknown 0 is its length, unknown 1 a place, unknowns 2 to 7 are the numbers from there on -/
def scr (L : bC) (ρ : Nat → Int) : Prop := ρ 0 = (L.1 : Int) ∧ ∀ j : Nat, j < 6 → ρ (2 + j) = (L.2 (ρ 1 + (j : Int)).toNat).toInt
theorem scr_ext {L : bC} {ρ ρ' : Nat → Int} (h : ∀ i, i < 8 → ρ' i = ρ i) (q : scr L ρ) : scr L ρ' := ⟨by rw [h 0 (by decide)]; exact q.1, fun j hj => by rw [h (2 + j) (by omega), h 1 (by decide)]; exact q.2 j hj⟩
/-- the core of what a state says: of a valuation, the contents at the start and now -/
def core (P : aP) (L : bC) (h0 : bH) (ρ : Nat → Int) (h : bH) (C : aC) : Prop :=
  eOK ρ (eC C) ∧ (∀ f ∈ fC C, wfF (eC C).length f ∧ ev ρ f ≤ 0) ∧ (∀ c ∈ cC C, wfF (eC C).length c.2 ∧ h c.1.1 c.1.2 = ev ρ c.2) ∧
  (∀ a j, a < nC C → j < (sh a).2 → (∀ c ∈ cC C, c.1 ≠ (a, j)) → (tyP P a j).1 ≤ h a j ∧ h a j ≤ (tyP P a j).2) ∧
  (∀ a j, wrP P a j = false → h a j = h0 a j) ∧ (P.2.2.2 = true → scr L ρ ∧ 8 ≤ (eC C).length)
def wfL (m : Nat) (lv : aL) : Prop := ∀ q ∈ lv, wfF m q.2.2
def wfS (m : Nat) (st : List AV) : Prop := ∀ v ∈ st, wfF m v.2
theorem evL_same {ρ ρ' : Nat → Int} {m : Nat} (h : ∀ i, i < m → ρ' i = ρ i) {lv : aL} (hw : wfL m lv) : evL ρ' lv = evL ρ lv := by
  unfold evL
  apply List.map_congr_left
  intro q hq
  rw [ev_same h (hw q hq)]
theorem evS_same {ρ ρ' : Nat → Int} {m : Nat} (h : ∀ i, i < m → ρ' i = ρ i) {st : List AV} (hw : wfS m st) : evS ρ' st = evS ρ st := by
  unfold evS
  apply List.map_congr_left
  intro q hq
  rw [ev_same h (hw q hq)]
/-- a longer valuation -/
def ext (m : Nat) (ρ ρ' : Nat → Int) : Prop := ∀ i, i < m → ρ' i = ρ i
theorem core_ext {P : aP} {L : bC} {h0 h : bH} {ρ ρ' : Nat → Int} {C : aC} {env' : REnv} (q : core P L h0 ρ h C) (he : eOK ρ' env') (hx : ext (eC C).length ρ ρ') (hl : (eC C).length ≤ env'.length) : core P L h0 ρ' h (env', C.2) := by
  obtain ⟨q1, q2, q3, q4, q5, q6⟩ := q
  refine ⟨he, fun f hf => ⟨wf_mono (q2 f hf).1 hl, by rw [ev_same hx (q2 f hf).1]; exact (q2 f hf).2⟩, fun c hc => ⟨wf_mono (q3 c hc).1 hl, by rw [ev_same hx (q3 c hc).1]; exact (q3 c hc).2⟩, q4, q5, fun hp => ?_⟩
  obtain ⟨h1, h2⟩ := q6 hp
  exact ⟨scr_ext (fun i hi => hx i (Nat.lt_of_lt_of_le hi h2)) h1, Nat.le_trans h2 hl⟩
/-- an answer as a form -/
def apush (env : REnv) (r : Ar) : Fm × REnv := match r with
  | .inl f => (f, env)
  | .inr b => (fid env.length, env ++ [b])
theorem apush_ok {ρ : Nat → Int} {env : REnv} {r : Ar} {z : Int} (he : eOK ρ env) (h : arOK ρ env.length r z) : ∃ ρ', ext env.length ρ ρ' ∧ eOK ρ' (apush env r).2 ∧ env.length ≤ (apush env r).2.length ∧ ev ρ' (apush env r).1 = z ∧ wfF (apush env r).2.length (apush env r).1 := by
  cases r with
  | inl f => exact ⟨ρ, fun _ _ => rfl, he, Nat.le_refl _, h.1, h.2⟩
  | inr b =>
    refine ⟨rup ρ env.length z, rup_old, eOK_push he h.1 h.2, by simp [apush], ?_, ?_⟩
    · show ev _ (fid env.length) = z
      rw [fid_ev]; unfold rup; rw [if_pos rfl]
    · show wfF (env ++ [b]).length (fid env.length)
      exact wf_id (by simp)
def clook (a j : Nat) : Ca → Option Fm
  | [] => none
  | c :: r => if c.1.1 = a ∧ c.1.2 = j then some c.2 else clook a j r
theorem clook_some {a j : Nat} {f : Fm} : ∀ {ca : Ca}, clook a j ca = some f → ((a, j), f) ∈ ca
  | [], h => by cases h
  | c :: r, h => by
    unfold clook at h
    split at h
    · rename_i e
      obtain ⟨⟨x, y⟩, z⟩ := c
      obtain ⟨rfl, rfl⟩ := e
      cases h
      exact List.mem_cons_self
    · exact List.mem_cons_of_mem _ (clook_some h)
theorem clook_none {a j : Nat} : ∀ {ca : Ca}, clook a j ca = none → ∀ c ∈ ca, c.1 ≠ (a, j)
  | [], _, c, hc => by cases hc
  | q :: r, h, c, hc => by
    unfold clook at h
    split at h
    · cases h
    · rename_i e
      rcases List.mem_cons.mp hc with rfl | hc
      · intro e2; exact e ⟨by rw [e2], by rw [e2]⟩
      · exact clook_none h c hc
/-- read a place -/
def aload (P : aP) (C : aC) (a j : Nat) : Fm × aC := match clook a j (cC C) with
  | some f => (f, C)
  | none => if (tyP P a j).1 = (tyP P a j).2 then (fcon (tyP P a j).1, C) else (fid (eC C).length, (eC C ++ [tyP P a j], fC C, ((a, j), fid (eC C).length) :: cC C, nC C))
theorem aload_ok {P : aP} {L : bC} {h0 h : bH} {ρ : Nat → Int} {C : aC} {a j : Nat} (q : core P L h0 ρ h C) (ha : a < nC C) (hj : j < (sh a).2) : ∃ ρ', ext (eC C).length ρ ρ' ∧ (eC C).length ≤ (eC (aload P C a j).2).length ∧ core P L h0 ρ' h (aload P C a j).2 ∧ ev ρ' (aload P C a j).1 = h a j ∧ wfF (eC (aload P C a j).2).length (aload P C a j).1 ∧ nC (aload P C a j).2 = nC C := by
  unfold aload
  split
  · rename_i f hf
    have hm := q.2.2.1 _ (clook_some hf)
    exact ⟨ρ, fun _ _ => rfl, Nat.le_refl _, q, hm.2.symm, hm.1, rfl⟩
  · rename_i hn
    have ht := q.2.2.2.1 a j ha hj (clook_none hn)
    split
    · rename_i e
      refine ⟨ρ, fun _ _ => rfl, Nat.le_refl _, q, ?_, wf_con _ _, rfl⟩
      rw [fcon_ev]; omega
    · have he := eOK_push q.1 ht.1 ht.2
      have hx : ext (eC C).length ρ (rup ρ (eC C).length (h a j)) := rup_old
      have q2 := core_ext q he hx (by simp)
      obtain ⟨e, f, c, n⟩ := C
      have hle : e.length ≤ (e ++ [tyP P a j]).length := by simp
      have hlt : e.length < (e ++ [tyP P a j]).length := by simp
      refine ⟨rup ρ e.length (h a j), hx, hle, ?_, ?_, wf_id hlt, rfl⟩
      · obtain ⟨p1, p2, p3, p4, p5, p6⟩ := q2
        refine ⟨p1, p2, ?_, ?_, p5, p6⟩
        · intro c' hc
          rcases List.mem_cons.mp hc with rfl | hc
          · refine ⟨wf_id hlt, ?_⟩
            show h a j = ev _ (fid e.length)
            rw [fid_ev]; unfold rup; rw [if_pos rfl]
          · exact p3 c' hc
        · intro a' j' h1 h2 h3
          exact p4 a' j' h1 h2 (fun c' hc => h3 c' (List.mem_cons_of_mem _ hc))
      · show ev _ (fid e.length) = h a j
        rw [fid_ev]; unfold rup; rw [if_pos rfl]
def cdel (a j : Nat) (ca : Ca) : Ca := ca.filter fun c => !(c.1.1 == a && c.1.2 == j)
theorem cdel_mem {a j : Nat} {ca : Ca} {c : (Nat × Nat) × Fm} (h : c ∈ cdel a j ca) : c ∈ ca ∧ c.1 ≠ (a, j) := by
  obtain ⟨h1, h2⟩ := List.mem_filter.mp h
  refine ⟨h1, fun e => ?_⟩
  rw [e] at h2
  simp at h2
theorem cdel_in {a j : Nat} {ca : Ca} {c : (Nat × Nat) × Fm} (h : c ∈ ca) (hn : c.1 ≠ (a, j)) : c ∈ cdel a j ca := by
  refine List.mem_filter.mpr ⟨h, ?_⟩
  obtain ⟨⟨x, y⟩, z⟩ := c
  simp only [Bool.not_eq_true', Bool.and_eq_false_iff, beq_eq_false_iff_ne]
  by_cases e : x = a
  · exact Or.inr (fun e2 => hn (by show (x, y) = (a, j); rw [e, e2]))
  · exact Or.inl e
/-- write a place -/
def astor (P : aP) (C : aC) (a j : Nat) (f : Fm) : Option aC := if wrP P a j = true then some (eC C, fC C, ((a, j), f) :: cdel a j (cC C), nC C) else none
theorem astor_ok {P : aP} {L : bC} {h0 h : bH} {ρ : Nat → Int} {C C' : aC} {a j : Nat} {f : Fm} (q : core P L h0 ρ h C) (hw : wfF (eC C).length f) (hs : astor P C a j f = some C') : core P L h0 ρ (hup h a j (ev ρ f)) C' ∧ eC C' = eC C ∧ nC C' = nC C := by
  unfold astor at hs
  split at hs
  case isFalse => cases hs
  rename_i hwr
  cases hs
  obtain ⟨q1, q2, q3, q4, q5, q6⟩ := q
  refine ⟨⟨q1, q2, ?_, ?_, ?_, q6⟩, rfl, rfl⟩
  · intro c hc
    rcases List.mem_cons.mp hc with rfl | hc
    · exact ⟨hw, if_pos ⟨rfl, rfl⟩⟩
    · obtain ⟨h1, h2⟩ := cdel_mem hc
      refine ⟨(q3 c h1).1, ?_⟩
      rw [← (q3 c h1).2]
      exact if_neg (fun e => h2 (Prod.ext e.1 e.2))
  · intro a' j' h1 h2 h3
    have hne : ¬ (a' = a ∧ j' = j) := fun e => h3 _ List.mem_cons_self (by rw [e.1, e.2])
    rw [show hup h a j (ev ρ f) a' j' = h a' j' from if_neg hne]
    refine q4 a' j' h1 h2 (fun c hc e => ?_)
    by_cases e2 : c.1 = (a, j)
    · rw [e2] at e; cases e; exact hne ⟨rfl, rfl⟩
    · exact h3 c (List.mem_cons_of_mem _ (cdel_in hc e2)) e
  · intro a' j' h1
    have hne : ¬ (a' = a ∧ j' = j) := fun e => by rw [e.1, e.2] at h1; exact absurd (hwr.symm.trans h1) (by decide)
    rw [show hup h a j (ev ρ f) a' j' = h a' j' from if_neg hne]
    exact q5 a' j' h1
