/-! AN OP BY HAND, THE END FREE IN ITS UNKNOWNS -/
def opB8 (F : Nat) (G : aG) (cells : Nat → Nat) (sp : Nat → Nat → aS → Option (Fm × List Int)) (pc0 : Nat) (S0 : aS) (pc1 : Nat) (as1 : List AV) (c1 : aCt) (pc2 : Nat) (as2 : List AV) (c2 : aCt) (pc3 : Nat) (cmp : Bool) (H : Nat × aS × Fm) : Bool :=
  let m0 := (eC S0.2.2).length
  let E1 : aS := (S0.1, as1.reverse, S0.2.2)
  decide (8 ≤ m0) && ((as1.all fun v => wfB m0 v.2) && ((as2.all fun v => wfB m0 v.2) && (wkB F G (some []) [] cells sp m0 [] [(pc1, E1, fcon 0)] 1 pc0 S0 && opK G pc1 E1 as1 [] c1 fun σ1 C1 => (ctP c1).all fun p1 =>
    let R1 := (retF c1 σ1 C1 p1).toList
    let A1 := aft c1 σ1 C1 p1
    let E2 : aS := (S0.1, as2.reverse ++ (if cmp = true then R1 else []), A1)
    decide (nC A1 = 212 ∧ ctN c1 = 212) && (wkB F G (some []) [] cells sp (eC A1).length [] [(pc2, E2, fcon 0)] 1 (pc1 + 3) (S0.1, R1 ++ [], A1) && opK G pc2 E2 as2 (if cmp = true then R1 else []) c2 fun σ2 C2 => (ctP c2).all fun p2 =>
      let R2 := (retF c2 σ2 C2 p2).toList
      let A2 := aft c2 σ2 C2 p2
      decide (nC A2 = 212 ∧ ctN c2 = 212) && (if cmp = true then (match tkF (pc2 + 3) 0 (tk 0) with
        | some (t :: _) => decide (t.1 = .if_icmp .eq ((pc3 : Int) - ((pc2 + 3 : Nat) : Int)) ∧ t.2.1 = 3 ∧ R1.map (·.1) = [0] ∧ R2.map (·.1) = [0]) && wkB F G (some []) [] cells sp 8 [] [H] 1 pc3 (S0.1, [], A2)
        | _ => false) else wkB F G (some []) [] cells sp 8 [] [H] 1 (pc2 + 3) (S0.1, R2 ++ [], A2))))))
theorem op_ok8 {g : bG} {l : Launch} {F : Nat} {G : aG} {cells : Nat → Nat} {sp : Nat → Nat → aS → Option (Fm × List Int)} {pc0 pc1 pc2 pc3 : Nat} {S0 : aS} {as1 as2 : List AV} {c1 c2 : aCt} {cmp : Bool} {H : Nat × aS × Fm} {Sem1 Sem2 : List bV → bH → Option bV → bH → Prop} {Q : bQ} {h0 h : bH} {ρ : Nat → Int} {R : bH → Prop} (hT : ∀ k, okL k 0 (tk k) = true) (hM : ∀ k, kGood k = true → okM k = true) (hb : opB8 F G cells sp pc0 S0 pc1 as1 c1 pc2 as2 c2 pc3 cmp H = true) (hS1 : SK g l G c1 Sem1) (hS2 : SK g l G c2 Sem2) (q : aIn (PofW G none true) (gsc g) h0 ρ h S0)
    (hsem : ∀ r1 h1 r2 h2, Sem1 (evS ρ as1) h r1 h1 → Sem2 (evS ρ as2) h1 r2 h2 → R h2 ∧ (cmp = true → r1 = r2))
    (hX : ∀ (ρ' : Nat → Int) (h' : bH), aIn (PofW G none true) (gsc g) h0 ρ' h' H.2.1 → ext 8 ρ ρ' → R h' → WP g l 40 0 0 212 Q (conc ρ' H.1 (nC H.2.1.2.2) h' H.2.1)) :
    WP g l 40 0 0 212 Q (conc ρ pc0 (nC S0.2.2) h S0) := by
  unfold opB8 at hb
  dsimp only at hb
  rw [Bool.and_eq_true, Bool.and_eq_true, Bool.and_eq_true, Bool.and_eq_true, decide_eq_true_eq] at hb
  obtain ⟨v8, v1, v2, b1, b2⟩ := hb
  have wv : ∀ {as : List AV}, (as.all fun v => wfB (eC S0.2.2).length v.2) = true → wfS (eC S0.2.2).length as := fun h v hv => wfB_x (List.all_eq_true.mp h v hv)
  have nilC : ∀ z ∈ ([] : List aCt), Keeps g l G z := fun z hz => by cases hz
  refine wk_ok (ρ0 := ρ) hT hM nilC b1 ?_ (fun p hp => by cases hp) (aIn_re (w' := some []) q) (fun _ _ => rfl)
  intro H1 hH1 ρ1 h1 i1 x1
  cases List.mem_singleton.mp hH1
  have e1 : h1 = h := funext fun a => funext fun j => i1.1.2.2.2.2.1 a j rfl
  subst e1
  refine opK_ok hT hM hS1 b2 (aIn_no (h1 := h0) i1) ?_
  intro σ1 C1 b3 hC1 p1 hp1 ρ2 r1 h2 i2 x2 er1 s1
  have b4 := List.all_eq_true.mp b3 p1 hp1
  rw [Bool.and_eq_true, Bool.and_eq_true, decide_eq_true_eq] at b4
  obtain ⟨⟨n1, n1'⟩, b5, b6⟩ := b4
  rw [evS_same x1 (wv v1)] at s1
  have x2' : ext (eC S0.2.2).length ρ ρ2 := x1.trans x2 (Nat.le_refl _)
  rw [show ctN c1 = nC (aft c1 σ1 C1 p1) by rw [n1, n1']]
  refine wk_ok (ρ0 := ρ2) hT hM nilC b5 ?_ (fun p hp => by cases hp) (aIn_re (w' := some []) i2) (fun _ _ => rfl)
  intro H2 hH2 ρ3 h3 i3 x3
  cases List.mem_singleton.mp hH2
  have e3 : h3 = h2 := funext fun a => funext fun j => i3.1.2.2.2.2.1 a j rfl
  subst e3
  have hl1 : (eC S0.2.2).length ≤ (eC (aft c1 σ1 C1 p1)).length := by
    have : (eC C1).length ≤ (eC C1 ++ (eC p1.1).drop (eC (ctC c1)).length).length := by
      rw [List.length_append]
      omega
    exact Nat.le_trans hC1 this
  have x3' : ext (eC S0.2.2).length ρ ρ3 := x2'.trans x3 hl1
  refine opK_ok hT hM hS2 b6 (aIn_no (h1 := h0) i3) ?_
  intro σ2 C2 b7 hC2 p2 hp2 ρ4 r2 h4 i4 x4 er2 s2
  have b8 := List.all_eq_true.mp b7 p2 hp2
  rw [Bool.and_eq_true, decide_eq_true_eq] at b8
  obtain ⟨⟨n2, n2'⟩, b8⟩ := b8
  rw [evS_same x3' (wv v2)] at s2
  have x4' : ext (eC S0.2.2).length ρ ρ4 := x3'.trans x4 hl1
  obtain ⟨hR, hcmp⟩ := hsem r1 _ r2 _ s1 s2
  rw [show ctN c2 = nC (aft c2 σ2 C2 p2) by rw [n2, n2']]
  have fin : ∀ {pc : Nat} {st : List AV}, wkB F G (some []) [] cells sp 8 [] [H] 1 pc (S0.1, st, aft c2 σ2 C2 p2) = true → wfS (eC (aft c2 σ2 C2 p2)).length st → WP g l 40 0 0 212 Q (conc ρ4 pc (nC (aft c2 σ2 C2 p2)) h4 (S0.1, st, aft c2 σ2 C2 p2)) := by
    intro pc st hb hw
    refine wk_ok (ρ0 := ρ) hT hM nilC hb ?_ (fun p hp => by cases hp) (aIn_re (w' := some []) (show aIn (PofW G none true) (gsc g) h0 ρ4 h4 (S0.1, st, aft c2 σ2 C2 p2) from ⟨i4.1, i4.2.1, hw⟩)) (fun i hi => x4' i (Nat.lt_of_lt_of_le hi v8))
    intro H5 hH5 ρ5 h5 i5 x5
    cases List.mem_singleton.mp hH5
    have e5 : h5 = h4 := funext fun a => funext fun j => i5.1.2.2.2.2.1 a j rfl
    subst e5
    exact hX ρ5 _ (aIn_no i5) x5 hR
  cases cmp with
  | false =>
    rw [if_neg (by decide)] at b8
    exact fin b8 i4.2.2
  | true =>
    rw [if_pos rfl] at b8
    split at b8
    case h_2 => cases b8
    rename_i t ts hts
    rw [Bool.and_eq_true, decide_eq_true_eq] at b8
    obtain ⟨⟨t1, t2, t3, t4⟩, b9⟩ := b8
    obtain ⟨i, len, a, b⟩ := t
    dsimp only at t1 t2
    subst t1 t2
    have ho3 := tkF_ok (hT 0) hts
    generalize hR1 : (retF c1 σ1 C1 p1).toList = R1 at *
    generalize hR2 : (retF c2 σ2 C2 p2).toList = R2 at *
    rcases R1 with _ | ⟨⟨y1, f1⟩, _ | ⟨z1, R1⟩⟩
    · cases t3
    case cons.cons => simp at t3
    rcases R2 with _ | ⟨⟨y2, f2⟩, _ | ⟨z2, R2⟩⟩
    · cases t4
    case cons.cons => simp at t4
    simp only [List.map_cons, List.map_nil, List.cons.injEq, and_true] at t3 t4
    subst t3 t4
    have e12 := hcmp rfl
    have w1 : wfF (eC (aft c1 σ1 C1 p1)).length f1 := i2.2.2 (0, f1) List.mem_cons_self
    have g1 : evS ρ4 [((0 : Nat), f1)] = evS ρ2 [((0 : Nat), f1)] := evS_same (x3.trans x4 (Nat.le_refl _)) (fun v hv => by cases List.mem_singleton.mp hv; exact w1)
    have g2 : evS ρ4 [((0 : Nat), f1)] = evS ρ4 [((0 : Nat), f2)] := by
      rw [g1, er1, er2, e12]
    have g3 : ev ρ4 f1 = ev ρ4 f2 := by
      have : [((0 : Nat), ev ρ4 f1)] = [((0 : Nat), ev ρ4 f2)] := g2
      simpa using this
    have w9 := fin (st := []) b9 (fun v hv => by cases hv)
    rw [n2] at w9 ⊢
    refine w_icmp (g := g) (l := l) (d := 40) (k := 0) (n0 := 0) (Q := Q) (pt := pc3) (pf := pc2 + 3 + 3) (lv := evL ρ4 S0.1) (st := []) (h := h4) (x := ev ρ4 f1) (y := ev ρ4 f2) ho3 (by omega) rfl (fun _ => w9) (fun e => absurd (show bP .eq (ev ρ4 f1) (ev ρ4 f2) from g3) e)
