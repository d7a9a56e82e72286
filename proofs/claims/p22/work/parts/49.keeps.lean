/-! A METHOD HELD AGAINST ITS CONTRACT -/
def xEnt (G : aG) (cs : List aCt) (cells : Nat → Nat) (sp : Nat → Nat → aS → Option (Fm × List Int)) (c : aCt) (hd : List (Nat × aS × Fm)) (u : Option Fm) : aX := (G, ctW c, ctS c, cs, hd, (eC (ctC c)).length, ctP c, cells, u, sp)
/-- a cell of one range is written everywhere or nowhere -/
def pwB (G : aG) (w : aW) : Bool := match w with
  | none => true
  | some ws => ws.all fun q => (G.2 q.1).isNone || (decide (q.2.1 = 0) && decide ((sh q.1).2 ≤ q.2.2))
theorem pwB_ok {G : aG} {w : aW} {b : Bool} (h : pwB G w = true) : PW (PofW G w b) := by
  intro a r hr j hj
  show wrF w a j = wrF w a 0
  cases w with
  | none => rfl
  | some ws =>
    have key : ∀ i, i < (sh a).2 → wrF (some ws) a i = ws.any fun q => q.1 == a := by
      intro i hi
      unfold wrF
      dsimp only
      rw [Bool.eq_iff_iff, List.any_eq_true, List.any_eq_true]
      constructor
      · rintro ⟨q, hq, h2⟩
        rw [Bool.and_eq_true] at h2
        exact ⟨q, hq, h2.1⟩
      · rintro ⟨q, hq, h2⟩
        refine ⟨q, hq, ?_⟩
        have h3 := List.all_eq_true.mp h q hq
        rw [beq_iff_eq] at h2
        rw [h2] at h3
        rw [show G.2 a = some r from hr] at h3
        simp only [Option.isNone_some, Bool.false_or, Bool.and_eq_true, decide_eq_true_eq] at h3
        simp only [Bool.and_eq_true, beq_iff_eq, decide_eq_true_eq]
        exact ⟨h2, by omega, by omega⟩
    rw [key j hj, key 0 (by omega)]
/-- one head's walk -/
def ckH (F : Nat) (G : aG) (cs : List aCt) (cells : Nat → Nat) (sp : Nat → Nat → aS → Option (Fm × List Int)) (c : aCt) (hd : List (Nat × aS × Fm)) (H : Nat × aS × Fm) : Bool := okP H.2.1 && (decide ((eC (ctC c)).length ≤ (eC H.2.1.2.2).length) && (wfB (eC H.2.1.2.2).length H.2.2 && (match tkF H.1 0 (tk (ctK c)) with
  | some ts => arun (xEnt G cs cells sp c hd (some H.2.2)) F (ctL c) [] (ctK c) (nC (ctC c)) (ctN c) 1 H.1 ts H.2.1
  | none => false)))
/-- the entry's walk -/
def ckW (F : Nat) (G : aG) (cs : List aCt) (cells : Nat → Nat) (sp : Nat → Nat → aS → Option (Fm × List Int)) (c : aCt) (hd : List (Nat × aS × Fm)) : Bool := pwB G (ctW c) && (okP ([], ctA c, ctC c) && arun (xEnt G cs cells sp c hd none) F (ctL c) [] (ctK c) (nC (ctC c)) (ctN c) 0 0 (tk (ctK c)) (aargs 0 (ctA c), [], ctC c))
def ckE (F : Nat) (G : aG) (cs : List aCt) (cells : Nat → Nat) (sp : Nat → Nat → aS → Option (Fm × List Int)) (c : aCt) (hd : List (Nat × aS × Fm)) : Bool := kGood (ctK c) && (decide (astw (ctA c) ≤ mml (ctK c)) && (decide (nC (ctC c) ≤ ctN c) && ckW F G cs cells sp c hd))
theorem wp_of {g : bG} {l : Launch} {F : Nat} {G : aG} {cs : List aCt} {cells : Nat → Nat} {sp : Nat → Nat → aS → Option (Fm × List Int)} {c : aCt} {hd : List (Nat × aS × Fm)} (hT : ∀ k, okL k 0 (tk k) = true) (hM : ∀ k, kGood k = true → okM k = true) (hC : ∀ z ∈ cs, Keeps g l G z) (hE : ckW F G cs cells sp c hd = true) (hH : ∀ H ∈ hd, ckH F G cs cells sp c hd H = true)  {d : Nat} (hl : ctL c ≤ d) {ρ0 : Nat → Int} {h0 : bH} {Q : bQ} (hc : core (PofW G (ctW c) (ctS c)) (gsc g) h0 ρ0 h0 (ctC c)) (hQ : ∀ r h', isPost G c (gsc g) h0 ρ0 r h' → Q r h') : WP g l d (ctK c) (nC (ctC c)) (ctN c) Q (0, largs 0 (evS ρ0 (ctA c)), [], nC (ctC c), h0) := by
  unfold ckW at hE
  simp only [Bool.and_eq_true] at hE
  obtain ⟨e1, e3, e6⟩ := hE
  have hpw := pwB_ok (b := ctS c) e1
  obtain ⟨w1, w2, w3, w4⟩ := okP_x e3
  have hpost : ∀ p ∈ ctP c, ∀ (ρ : Nat → Int) (h : bH), core (PofW G (ctW c) (ctS c)) (gsc g) h0 ρ h p.1 → ext (eC (ctC c)).length ρ0 ρ → Q (evR ρ p.2) h := fun p hp ρ h h1 h2 => hQ _ _ ⟨p, hp, ρ, h2, h1, rfl⟩
  have key : ∀ (N : Nat) (H : Nat × aS × Fm), H ∈ hd → ∀ (ρ : Nat → Int) (h : bH), aIn (PofW G (ctW c) (ctS c)) (gsc g) h0 ρ h H.2.1 → ext (eC (ctC c)).length ρ0 ρ → 0 ≤ ev ρ H.2.2 → (ev ρ H.2.2).toNat < N → WP g l (d - ctL c + ctL c) (ctK c) (nC (ctC c)) (ctN c) Q (conc ρ H.1 (nC H.2.1.2.2) h H.2.1) := by
    intro N
    induction N with
    | zero => intro H _ ρ h _ _ _ hlt; omega
    | succ N ih =>
      intro H hm ρ h hi hx h0' hlt
      have hk := hH H hm
      unfold ckH at hk
      simp only [Bool.and_eq_true, decide_eq_true_eq] at hk
      obtain ⟨k1, k2, k3, k4⟩ := hk
      split at k4
      case h_2 => cases k4
      rename_i ts hts
      have hyp : aHyp g l (xEnt G cs cells sp c hd (some H.2.2)) h0 ρ0 (ev ρ H.2.2) (d - ctL c) (ctL c) (ctK c) (nC (ctC c)) (ctN c) Q := by
        refine ⟨hpw, hT, hM, hC, ?_, hpost⟩
        intro H' hm' ρ' h' a1 a2 a3 a4
        have := a4 H.2.2 rfl
        exact ih H' hm' ρ' h' a1 a2 a3 (by omega)
      have := arun_ok hyp F (ctL c) [] (ctK c) (nC (ctC c)) (ctN c) 1 H.1 ts H.2.1 ρ h k4 ⟨hi, hx, k2, fun u hu => by cases hu; exact ⟨wfB_x k3, rfl⟩⟩ (fun z hz => by cases hz) ⟨rfl, rfl, rfl, rfl⟩ (tkF_ok (hT _) hts)
      exact this
  have hyp : aHyp g l (xEnt G cs cells sp c hd none) h0 ρ0 0 (d - ctL c) (ctL c) (ctK c) (nC (ctC c)) (ctN c) Q := by
    refine ⟨hpw, hT, hM, hC, ?_, hpost⟩
    intro H' hm' ρ' h' a1 a2 a3 _
    exact key _ H' hm' ρ' h' a1 a2 a3 (Nat.lt_succ_self _)
  have := arun_ok hyp F (ctL c) [] (ctK c) (nC (ctC c)) (ctN c) 0 0 (tk (ctK c)) (aargs 0 (ctA c), [], ctC c) ρ0 h0 e6 ⟨⟨hc, aargs_wf w2, fun v hv => by cases hv⟩, fun _ _ => rfl, Nat.le_refl _, fun u hu => by cases hu⟩ (fun z hz => by cases hz) ⟨rfl, rfl, rfl, rfl⟩ (hT _)
  rw [show d - ctL c + ctL c = d by omega] at this
  unfold conc at this
  dsimp only at this
  rw [aargs_ev] at this
  exact this
theorem keeps_of {g : bG} {l : Launch} {F : Nat} {G : aG} {cs : List aCt} {cells : Nat → Nat} {sp : Nat → Nat → aS → Option (Fm × List Int)} {c : aCt} {hd : List (Nat × aS × Fm)} (hT : ∀ k, okL k 0 (tk k) = true) (hM : ∀ k, kGood k = true → okM k = true) (hC : ∀ z ∈ cs, Keeps g l G z) (hE : ckE F G cs cells sp c hd = true) (hH : ∀ H ∈ hd, ckH F G cs cells sp c hd H = true) : Keeps g l G c := by
  intro d hl ρ0 h0 Q hc hQ
  unfold ckE at hE
  simp only [Bool.and_eq_true, decide_eq_true_eq] at hE
  obtain ⟨e2, e4, e5, e6⟩ := hE
  exact mh_of (hM _ e2) (by rw [astw_ev]; exact e4) e5 (wp_of hT hM hC e6 hH hl hc hQ)
