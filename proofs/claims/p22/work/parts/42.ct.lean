/-! CONTRACTS OF METHODS -/
/-- the ranges of places, cells of one range -/
abbrev aG : Type := (Nat → Nat → Int × Int) × (Nat → Option (Int × Int))
/-- what may be written: none: all; else cells' places from, to -/
abbrev aW : Type := Option (List (Nat × Nat × Nat))
def wrF (w : aW) (a j : Nat) : Bool := match w with
  | none => true
  | some ws => ws.any fun q => q.1 == a && (decide (q.2.1 ≤ j) && decide (j < q.2.2))
def PofW (G : aG) (w : aW) (hs : Bool) : aP := (G.1, G.2, wrF w, hs)
/-- what a method leaves: the state (unknowns added behind the entry's), the answer -/
abbrev aPost : Type := aC × Option AV
/-- method, level, writes, script, state at the entry, arguments, what it leaves -/
abbrev aCt : Type := Nat × Nat × aW × Bool × aC × List AV × List aPost
abbrev ctK (c : aCt) : Nat := c.1
abbrev ctL (c : aCt) : Nat := c.2.1
abbrev ctW (c : aCt) : aW := c.2.2.1
abbrev ctS (c : aCt) : Bool := c.2.2.2.1
abbrev ctC (c : aCt) : aC := c.2.2.2.2.1
abbrev ctA (c : aCt) : List AV := c.2.2.2.2.2.1
abbrev ctP (c : aCt) : List aPost := c.2.2.2.2.2.2
def evR (ρ : Nat → Int) (r : Option AV) : Option bV := r.map fun v => (v.1, ev ρ v.2)
/-- how it may end -/
def isPost (G : aG) (c : aCt) (L : bC) (h : bH) (ρ : Nat → Int) (r : Option bV) (h' : bH) : Prop := ∃ p ∈ ctP c, ∃ ρ', ext (eC (ctC c)).length ρ ρ' ∧ core (PofW G (ctW c) (ctS c)) L h ρ' h' p.1 ∧ r = evR ρ' p.2
def ctN (c : aCt) : Nat := match ctP c with
  | p :: _ => nC p.1
  | [] => 0
/-- the contract is kept -/
def Keeps (g : bG) (l : Launch) (G : aG) (c : aCt) : Prop := ∀ (d : Nat), ctL c ≤ d → ∀ (ρ : Nat → Int) (h : bH) (Q : bQ), core (PofW G (ctW c) (ctS c)) (gsc g) h ρ h (ctC c) → (∀ r h', isPost G c (gsc g) h ρ r h' → Q r h') → MH g l d (ctK c) (nC (ctC c)) (ctN c) (evS ρ (ctA c)) h Q
/-- well made: what it leaves speaks of its own unknowns, and leaves as many cells every way -/
def okCt (c : aCt) : Bool := (ctP c).all fun p => decide ((eC (ctC c)).length ≤ (eC p.1).length) && (nC p.1 == ctN c && (((fC p.1).all fun f => wfB (eC p.1).length f) && (((cC p.1).all fun q => wfB (eC p.1).length q.2) && (match p.2 with
  | some v => wfB (eC p.1).length v.2
  | none => true))))
theorem wrF_sub {w w' : aW} {a j : Nat} (h : (match w, w' with
    | _, none => true
    | none, some _ => false
    | some ws, some ws' => ws.all fun q => ws'.any fun q' => q'.1 == q.1 && (decide (q'.2.1 ≤ q.2.1) && decide (q.2.2 ≤ q'.2.2))) = true) (hw : wrF w a j = true) : wrF w' a j = true := by
  cases w' with
  | none => rfl
  | some ws' =>
    cases w with
    | none => cases h
    | some ws =>
      dsimp only at h
      unfold wrF at hw ⊢
      dsimp only at hw ⊢
      rw [List.any_eq_true] at hw ⊢
      obtain ⟨q, hq, hw⟩ := hw
      have := List.all_eq_true.mp h q hq
      rw [List.any_eq_true] at this
      obtain ⟨q', hq', h2⟩ := this
      refine ⟨q', hq', ?_⟩
      simp only [Bool.and_eq_true, beq_iff_eq, decide_eq_true_eq] at hw h2 ⊢
      omega
def wrS (w w' : aW) : Bool := match w, w' with
  | _, none => true
  | none, some _ => false
  | some ws, some ws' => ws.all fun q => ws'.any fun q' => q'.1 == q.1 && (decide (q'.2.1 ≤ q.2.1) && decide (q.2.2 ≤ q'.2.2))
/-- the forms behind: the entry's unknowns as told, the new ones after the present ones -/
def tau (σ : List Fm) (m N : Nat) : List Fm := σ ++ (List.range N).map fun i => fid (m + i)
/-- the caller's state after -/
def aft (c : aCt) (σ : List Fm) (C : aC) (p : aPost) : aC :=
  let N := (eC p.1).length - (eC (ctC c)).length
  let t := tau σ (eC C).length N
  let kept := (cC C).filter fun q => !wrF (ctW c) q.1.1 q.1.2
  (eC C ++ (eC p.1).drop (eC (ctC c)).length, (fC p.1).map (sbF t) ++ fC C, kept ++ ((cC p.1).map fun q => (q.1, sbF t q.2)), nC p.1)
/-- arrival at a call: the state is the contract's, the arguments' forms are put in -/
def acallB (G : aG) (w : aW) (hs : Bool) (c : aCt) (σ : List Fm) (C : aC) (as : List AV) : Bool := amatch (PofW G w false) (if ctS c = true then 8 else 0) σ ([], as, C) ([], ctA c, ctC c) && (wrS (ctW c) w && (okCt c && ((!ctS c || (hs && decide (8 ≤ (eC (ctC c)).length))) && σ.length == (eC (ctC c)).length)))
theorem core_flag {G : aG} {w w' : aW} {b : Bool} {L : bC} {h0 h : bH} {ρ : Nat → Int} {C : aC} (q : core (PofW G w b) L h0 ρ h C) : core (PofW G w false) L h0 ρ h C := ⟨q.1, q.2.1, q.2.2.1, q.2.2.2.1, q.2.2.2.2.1, fun h => by cases h⟩
theorem acall_in {G : aG} {w : aW} {hs : Bool} {L : bC} {h0 h : bH} {ρ : Nat → Int} {C : aC} {c : aCt} {σ : List Fm} {as : List AV} (q : core (PofW G w hs) L h0 ρ h C) (ha : wfS (eC C).length as) (hb : acallB G w hs c σ C as = true) : core (PofW G (ctW c) (ctS c)) L h (rsb ρ σ) h (ctC c) ∧ evS (rsb ρ σ) (ctA c) = evS ρ as ∧ nC (ctC c) = nC C := by
  unfold acallB at hb
  simp only [Bool.and_eq_true] at hb
  obtain ⟨b1, b2, b3, b4, b5⟩ := hb
  have q0 : aIn (PofW G w false) L h0 ρ h ([], as, C) := ⟨core_flag (w' := w) q, fun x hx => (by cases hx), ha⟩
  obtain ⟨m1, m2, m3, m4, m5⟩ := amatch_ok q0 b1 (fun h => by cases h)
  have m1 := m1.1
  refine ⟨⟨m1.1, m1.2.1, m1.2.2.1, m1.2.2.2.1, fun _ _ _ => rfl, fun hp => ?_⟩, m4, m5⟩
  have hp : ctS c = true := hp
  rw [hp] at b4
  simp only [Bool.not_true, Bool.false_or, Bool.and_eq_true, decide_eq_true_eq] at b4
  obtain ⟨g1, g2⟩ := q.2.2.2.2.2 (show (PofW G w hs).2.2.2 = true from b4.1)
  rw [hp, if_pos rfl] at m2
  exact ⟨scr_ext m2 g1, b4.2⟩
/-- the valuation after -/
def rcat (ρ ρ' : Nat → Int) (m mT : Nat) : Nat → Int := fun i => if i < m then ρ i else ρ' (mT + (i - m))
theorem aft_ok {G : aG} {w : aW} {hs : Bool} {L : bC} {h0 h h' : bH} {ρ ρ' : Nat → Int} {C : aC} {c : aCt} {σ : List Fm} {as : List AV} {p : aPost} (q : core (PofW G w hs) L h0 ρ h C) (ha : wfS (eC C).length as) (hb : acallB G w hs c σ C as = true) (hp : p ∈ ctP c) (hx : ext (eC (ctC c)).length (rsb ρ σ) ρ') (hc : core (PofW G (ctW c) (ctS c)) L h ρ' h' p.1) : core (PofW G w hs) L h0 (rcat ρ ρ' (eC C).length (eC (ctC c)).length) h' (aft c σ C p) ∧ ext (eC C).length ρ (rcat ρ ρ' (eC C).length (eC (ctC c)).length) ∧ (∀ f, wfF (eC p.1).length f → ev (rcat ρ ρ' (eC C).length (eC (ctC c)).length) (sbF (tau σ (eC C).length ((eC p.1).length - (eC (ctC c)).length)) f) = ev ρ' f ∧ wfF (eC (aft c σ C p)).length (sbF (tau σ (eC C).length ((eC p.1).length - (eC (ctC c)).length)) f)) := by
  have hbb := hb
  unfold acallB at hbb
  simp only [Bool.and_eq_true] at hbb
  obtain ⟨b1, b2, b3, b4, b5⟩ := hbb
  rw [beq_iff_eq] at b5
  have ok := List.all_eq_true.mp b3 p hp
  simp only [Bool.and_eq_true, decide_eq_true_eq, beq_iff_eq] at ok
  obtain ⟨k1, k2, k3, k4, k5⟩ := ok
  have hσ : ∀ f ∈ σ, wfF (eC C).length f := fun f hf => by
    unfold amatch at b1
    simp only [Bool.and_eq_true] at b1
    exact wfB_x (List.all_eq_true.mp b1.1 f hf)
  generalize hm : (eC C).length = m at *
  generalize hT : (eC (ctC c)).length = mT at *
  generalize hN : (eC p.1).length - mT = N at *
  have hext : ext m ρ (rcat ρ ρ' m mT) := fun i hi => if_pos hi
  have hlen : (eC (aft c σ C p)).length = m + N := by
    show (eC C ++ (eC p.1).drop (eC (ctC c)).length).length = m + N
    rw [List.length_append, List.length_drop, hm, hT, hN]
  have hval : ∀ i, i < (eC p.1).length → rsb (rcat ρ ρ' m mT) (tau σ m N) i = ρ' i := by
    intro i hi
    unfold rsb tau
    by_cases e : i < mT
    · rw [List.getD_eq_getElem?_getD, List.getElem?_append_left (by omega), ← List.getD_eq_getElem?_getD]
      rw [hx i e]
      unfold rsb
      have hlt : i < σ.length := by omega
      have : wfF m (σ.getD i (0, [])) := by
        rw [List.getD_eq_getElem?_getD, List.getElem?_eq_getElem hlt]
        exact hσ _ (List.getElem_mem hlt)
      exact ev_same hext this
    · rw [List.getD_eq_getElem?_getD, List.getElem?_append_right (by omega), List.getElem?_map, List.getElem?_range (by omega)]
      show ev _ (fid (m + (i - σ.length))) = ρ' i
      rw [fid_ev]
      unfold rcat
      rw [if_neg (by omega)]
      congr 1
      omega
  have hwt : ∀ f ∈ tau σ m N, wfF (m + N) f := by
    intro f hf
    rcases List.mem_append.mp hf with hf | hf
    · exact wf_mono (hσ f hf) (by omega)
    · obtain ⟨i, hi, rfl⟩ := List.mem_map.mp hf
      have := List.mem_range.mp hi
      exact wf_id (by omega)
  have hev : ∀ f, wfF (eC p.1).length f → ev (rcat ρ ρ' m mT) (sbF (tau σ m N) f) = ev ρ' f := by
    intro f hf
    rw [sbF_ev]
    exact ev_same (m := (eC p.1).length) hval hf
  refine ⟨⟨?_, ?_, ?_, ?_, ?_, ?_⟩, hext, fun f hf => ⟨hev f hf, by rw [hlen]; exact wf_sbF hwt f⟩⟩
  · intro i hi
    rw [hlen] at hi
    show ((eC C ++ (eC p.1).drop (eC (ctC c)).length).getD i (0, 0)).1 ≤ _ ∧ _ ≤ ((eC C ++ (eC p.1).drop (eC (ctC c)).length).getD i (0, 0)).2
    rw [hT]
    by_cases e : i < m
    · rw [hext i e, List.getD_eq_getElem?_getD, List.getElem?_append_left (by omega), ← List.getD_eq_getElem?_getD]
      exact q.1 i (by omega)
    · rw [List.getD_eq_getElem?_getD, List.getElem?_append_right (by omega), List.getElem?_drop, ← List.getD_eq_getElem?_getD, hm]
      have := hc.1 (mT + (i - m)) (by omega)
      unfold rcat
      rw [if_neg e]
      exact this
  · intro f hf
    rw [hlen]
    rcases List.mem_append.mp hf with hf | hf
    · obtain ⟨f', hf', rfl⟩ := List.mem_map.mp hf
      show wfF (m + N) (sbF (tau σ (eC C).length ((eC p.1).length - (eC (ctC c)).length)) f') ∧ ev _ (sbF (tau σ (eC C).length ((eC p.1).length - (eC (ctC c)).length)) f') ≤ 0
      rw [hm, hT, hN]
      have := hc.2.1 f' hf'
      exact ⟨wf_sbF hwt f', by rw [hev f' this.1]; exact this.2⟩
    · have := q.2.1 f hf
      rw [hm] at this
      exact ⟨wf_mono this.1 (by omega), by rw [ev_same hext this.1]; exact this.2⟩
  · intro z hz
    rw [hlen]
    rcases List.mem_append.mp hz with hz | hz
    · obtain ⟨h1, h2⟩ := List.mem_filter.mp hz
      have := q.2.2.1 z h1
      rw [hm] at this
      refine ⟨wf_mono this.1 (by omega), ?_⟩
      rw [ev_same hext this.1, ← this.2]
      have h3 : wrF (ctW c) z.1.1 z.1.2 = false := by simpa using h2
      exact hc.2.2.2.2.1 _ _ h3
    · obtain ⟨z', hz', rfl⟩ := List.mem_map.mp hz
      have := hc.2.2.1 z' hz'
      dsimp only
      rw [hm, hT, hN]
      exact ⟨wf_sbF hwt _, by rw [hev _ this.1]; exact this.2⟩
  · intro a j h1 h2 h3
    refine hc.2.2.2.1 a j h1 h2 (fun z hz e => ?_)
    exact h3 _ (List.mem_append_right _ (List.mem_map.mpr ⟨z, hz, rfl⟩)) e
  · intro a j hw
    have hw2 : wrF (ctW c) a j = false := by
      cases e : wrF (ctW c) a j with
      | false => rfl
      | true =>
        have := wrF_sub (w := ctW c) (w' := w) b2 e
        rw [show wrP (PofW G w hs) a j = wrF w a j from rfl, this] at hw
        cases hw
    rw [hc.2.2.2.2.1 a j hw2]
    exact q.2.2.2.2.1 a j hw
  · intro hp
    obtain ⟨g1, g2⟩ := q.2.2.2.2.2 hp
    rw [hm] at g2
    rw [hlen]
    exact ⟨scr_ext (fun i hi => hext i (by omega)) g1, by omega⟩
