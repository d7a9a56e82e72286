/-! THE LAW WITH A RELATION KEPT BY HAND -/
/-- a walk within the law that ends at heads -/
def wkB (F : Nat) (G : aG) (w : aW) (cs : List aCt) (cells : Nat → Nat) (sp : Nat → Nat → aS → Option (Fm × List Int)) (m0 : Nat) (po : List aPost) (hd : List (Nat × aS × Fm)) (ph pc : Nat) (S : aS) : Bool := pwB G w && (okP S && (decide (m0 ≤ (eC S.2.2).length) && (match tkF pc 0 (tk 0) with
  | some ts => arun (G, w, true, cs, hd, m0, po, cells, none, sp) F 40 [] 0 0 212 ph pc ts S
  | none => false)))
theorem wk_ok {g : bG} {l : Launch} {F : Nat} {G : aG} {w : aW} {cs : List aCt} {cells : Nat → Nat} {sp : Nat → Nat → aS → Option (Fm × List Int)} {m0 : Nat} {po : List aPost} {hd : List (Nat × aS × Fm)} {ph pc : Nat} {S : aS} {Q : bQ} {h0 h : bH} {ρ0 ρ : Nat → Int} (hT : ∀ k, okL k 0 (tk k) = true) (hM : ∀ k, kGood k = true → okM k = true) (hC : ∀ z ∈ cs, Keeps g l G z) (hb : wkB F G w cs cells sp m0 po hd ph pc S = true)
    (hX : ∀ H ∈ hd, ∀ (ρ' : Nat → Int) (h' : bH), aIn (PofW G w true) (gsc g) h0 ρ' h' H.2.1 → ext m0 ρ0 ρ' → WP g l 40 0 0 212 Q (conc ρ' H.1 (nC H.2.1.2.2) h' H.2.1))
    (hpost : ∀ p ∈ po, ∀ (ρ' : Nat → Int) (h' : bH), core (PofW G w true) (gsc g) h0 ρ' h' p.1 → ext m0 ρ0 ρ' → Q (evR ρ' p.2) h')
    (q : aIn (PofW G w true) (gsc g) h0 ρ h S) (hx : ext m0 ρ0 ρ) : WP g l 40 0 0 212 Q (conc ρ pc (nC S.2.2) h S) := by
  unfold wkB at hb
  simp only [Bool.and_eq_true, decide_eq_true_eq] at hb
  obtain ⟨b1, b2, b3, b4⟩ := hb
  split at b4
  case h_2 => cases b4
  rename_i ts hts
  have hyp : aHyp g l (G, w, true, cs, hd, m0, po, cells, none, sp) h0 ρ0 0 0 40 0 0 212 Q := ⟨pwB_ok (b := true) b1, hT, hM, hC, fun H hm ρ' h' a1 a2 _ _ => hX H hm ρ' h' a1 a2, hpost⟩
  have := arun_ok hyp F 40 [] 0 0 212 ph pc ts S ρ h b4 ⟨q, hx, b3, fun u hu => by cases hu⟩ (fun z hz => by cases hz) ⟨rfl, rfl, rfl, rfl⟩ (tkF_ok (hT _) hts)
  exact this
theorem aIn_re {G : aG} {w w' : aW} {b : Bool} {L : bC} {h0 h : bH} {ρ : Nat → Int} {S : aS} (q : aIn (PofW G w b) L h0 ρ h S) : aIn (PofW G w' b) L h ρ h S := ⟨⟨q.1.1, q.1.2.1, q.1.2.2.1, q.1.2.2.2.1, fun _ _ _ => rfl, q.1.2.2.2.2.2⟩, q.2⟩
theorem aIn_no {G : aG} {w : aW} {b : Bool} {L : bC} {h0 h1 h : bH} {ρ : Nat → Int} {S : aS} (q : aIn (PofW G w b) L h0 ρ h S) : aIn (PofW G none b) L h1 ρ h S := ⟨⟨q.1.1, q.1.2.1, q.1.2.2.1, q.1.2.2.2.1, fun _ _ e => (by cases e), q.1.2.2.2.2.2⟩, q.2⟩
/-- two lists of places have none together -/
def wdis (w fp : List (Nat × Nat × Nat)) : Bool := w.all fun q => fp.all fun p => !(q.1 == p.1) || (decide (q.2.2 ≤ p.2.1) || decide (p.2.2 ≤ q.2.1))
theorem wdis_ok {w fp : List (Nat × Nat × Nat)} (h : wdis w fp = true) {a j : Nat} (hf : wrF (some fp) a j = true) : wrF (some w) a j = false := by
  cases e : wrF (some w) a j with
  | false => rfl
  | true =>
    unfold wrF at hf e
    dsimp only at hf e
    rw [List.any_eq_true] at hf e
    obtain ⟨p, hp, hf⟩ := hf
    obtain ⟨q, hq, e⟩ := e
    have := List.all_eq_true.mp (List.all_eq_true.mp h q hq) p hp
    simp only [Bool.and_eq_true, Bool.or_eq_true, Bool.not_eq_true', beq_eq_false_iff_ne, beq_iff_eq, decide_eq_true_eq] at hf e this
    omega
theorem SK_in {g : bG} {l : Launch} {G : aG} {c : aCt} (h : Keeps g l G c) : SK g l G c (fun _ h r h' => ∃ ρ, core (PofW G (ctW c) (ctS c)) (gsc g) h ρ h (ctC c) ∧ isPost G c (gsc g) h ρ r h') := fun d hd ρ h0 Q hc hQ => h d hd ρ h0 Q hc (fun r h' hp => hQ r h' hp ⟨ρ, hc, hp⟩)
theorem SK_fr {g : bG} {l : Launch} {G : aG} {c : aCt} (h : Keeps g l G c) : SK g l G c (fun _ h _ h' => ∀ a j, wrF (ctW c) a j = false → h' a j = h a j) := fun d hd ρ h0 Q hc hQ => h d hd ρ h0 Q hc (fun r h' hp => hQ r h' hp (by
  obtain ⟨p, _, ρ', _, hc, _⟩ := hp
  exact hc.2.2.2.2.1))
theorem callK {g : bG} {l : Launch} {G : aG} {c : aCt} {Sem : List bV → bH → Option bV → bH → Prop} {d : Nat} {Q : bQ} {h0 h : bH} {ρ : Nat → Int} {pc : Nat} {t : Tok} {ts : List Tok} {lv : aL} {st as rest : List AV} {C C1 : aC} {σ : List Fm} (hM : ∀ k, kGood k = true → okM k = true) (hS : SK g l G c Sem) (ho : okL 0 pc (t :: ts) = true) (ha : acut t C st = some (as, rest)) (h3 : t.2.1 = 3) (hz : tryC G none true t.2.2.1 d C as [c] = some (c, σ, C1)) (hn : nC C ≤ ctN c ∧ ctN c ≤ 212) (q : aIn (PofW G none true) (gsc g) h0 ρ h (lv, st, C))
    (hk : ∀ p ∈ ctP c, ∀ (ρ2 : Nat → Int) (rr : Option bV) (h2 : bH), aIn (PofW G none true) (gsc g) h0 ρ2 h2 (lv, (retF c σ C1 p).toList ++ rest, aft c σ C1 p) → ext (eC C).length ρ ρ2 → evS ρ2 (retF c σ C1 p).toList = rr.toList → Sem (evS ρ as) h rr h2 → WP g l (d + 1) 0 0 212 Q (conc ρ2 (pc + 3) (ctN c) h2 (lv, (retF c σ C1 p).toList ++ rest, aft c σ C1 p))) :
    WP g l (d + 1) 0 0 212 Q (conc ρ pc (nC C) h (lv, st, C)) := by
  obtain ⟨hd, ht, ho2⟩ := okL_c ho
  rw [h3] at ho2
  obtain ⟨wa, wr, wg⟩ := acut_wf q.2.2 ha
  have hm := hM _ wg
  obtain ⟨t1, t2, t3, t4, t5⟩ := tryC_ok hz
  obtain ⟨ρ1, x1, x2, x3, x4⟩ := atouch_ok (qs := (cC (ctC c)).map (·.1)) q.1
  rw [← t5] at x2 x3 x4
  have wa1 : wfS (eC C1).length as := wfS_mono wa x2
  obtain ⟨c1, c2, c3⟩ := acall_in x3 wa1 t4
  refine acut_ok (n' := ctN c) hd ht q hm ha hn ?_
  have hMH := hS d t3 (rsb ρ1 σ) h (fun r h' => WP g l (d + 1) 0 0 212 Q (pc + 3, evL ρ lv, r.toList ++ evS ρ rest, ctN c, h')) c1 ?_
  · rw [t2, c3, x4, c2, evS_same x1 wa] at hMH
    exact hMH
  · intro rr h' hp hsem
    rw [c2, evS_same x1 wa] at hsem
    obtain ⟨p, hp1, ρ', hp2, hp3, rfl⟩ := hp
    obtain ⟨f1, f2, f3⟩ := aft_ok x3 wa1 t4 hp1 hp2 hp3
    have t4b := t4
    unfold acallB at t4b
    simp only [Bool.and_eq_true] at t4b
    have ok := List.all_eq_true.mp t4b.2.2.1 p hp1
    simp only [Bool.and_eq_true, decide_eq_true_eq, beq_iff_eq] at ok
    obtain ⟨k1, k2, k3, k4, k5⟩ := ok
    have hl2 : (eC C1).length ≤ (eC (aft c σ C1 p)).length := by
      show (eC C1).length ≤ (eC C1 ++ _).length
      rw [List.length_append]
      omega
    have hl3 : (eC C).length ≤ (eC (aft c σ C1 p)).length := Nat.le_trans x2 hl2
    have hx3 := x1.trans f2 x2
    have wp2 : ∀ v, p.2 = some v → wfF (eC p.1).length v.2 := fun v hv => by
      rw [hv] at k5
      exact wfB_x k5
    have wret : wfS (eC (aft c σ C1 p)).length (retF c σ C1 p).toList := by
      unfold retF
      cases hv : p.2 with
      | none => intro v hv; cases hv
      | some v =>
        intro w hw
        cases List.mem_singleton.mp hw
        exact (f3 v.2 (wp2 v hv)).2
    have eret : evS (rcat ρ1 ρ' (eC C1).length (eC (ctC c)).length) (retF c σ C1 p).toList = (evR ρ' p.2).toList := by
      unfold retF
      cases hv : p.2 with
      | none => rfl
      | some v =>
        show [(v.1, ev _ (sbF _ v.2))] = [(v.1, ev ρ' v.2)]
        rw [(f3 v.2 (wp2 v hv)).1]
    have w := hk p hp1 _ (evR ρ' p.2) h' ⟨f1, wfL_mono q.2.1 hl3, fun v hv => by
      rcases List.mem_append.mp hv with hv | hv
      · exact wret v hv
      · exact wfS_mono wr hl3 v hv⟩ hx3 eret hsem
    unfold conc at w
    dsimp only at w
    rw [evS_app, eret, evL_same hx3 q.2.1, evS_same hx3 wr] at w
    exact w
/-- an op's case: the walk to the class's call, it, the walk to the reference's call, it, the walk to the round's end -/
def opK (G : aG) (pc : Nat) (S : aS) (as : List AV) (rest : List AV) (c : aCt) (k : List Fm → aC → Bool) : Bool := match tkF pc 0 (tk 0) with
  | some (t :: _) => t.2.1 == 3 && ((match acut t S.2.2 S.2.1 with
      | some z => decide (z.1 = as) && decide (z.2 = rest)
      | none => false) && (match tryC G none true t.2.2.1 39 S.2.2 as [c] with
      | some y => decide (nC S.2.2 ≤ ctN c ∧ ctN c ≤ 212) && k y.2.1 y.2.2
      | none => false))
  | _ => false
theorem opK_ok {g : bG} {l : Launch} {G : aG} {c : aCt} {Sem : List bV → bH → Option bV → bH → Prop} {Q : bQ} {h0 h : bH} {ρ : Nat → Int} {pc : Nat} {S : aS} {as rest : List AV} {k : List Fm → aC → Bool} (hT : ∀ k, okL k 0 (tk k) = true) (hM : ∀ k, kGood k = true → okM k = true) (hS : SK g l G c Sem) (hb : opK G pc S as rest c k = true) (q : aIn (PofW G none true) (gsc g) h0 ρ h S)
    (hk : ∀ (σ : List Fm) (C1 : aC), k σ C1 = true → (eC S.2.2).length ≤ (eC C1).length → ∀ p ∈ ctP c, ∀ (ρ2 : Nat → Int) (rr : Option bV) (h2 : bH), aIn (PofW G none true) (gsc g) h0 ρ2 h2 (S.1, (retF c σ C1 p).toList ++ rest, aft c σ C1 p) → ext (eC S.2.2).length ρ ρ2 → evS ρ2 (retF c σ C1 p).toList = rr.toList → Sem (evS ρ as) h rr h2 → WP g l 40 0 0 212 Q (conc ρ2 (pc + 3) (ctN c) h2 (S.1, (retF c σ C1 p).toList ++ rest, aft c σ C1 p))) :
    WP g l 40 0 0 212 Q (conc ρ pc (nC S.2.2) h S) := by
  unfold opK at hb
  split at hb
  case h_2 => cases hb
  rename_i t ts hts
  rw [Bool.and_eq_true, Bool.and_eq_true, beq_iff_eq] at hb
  obtain ⟨b1, b2, b3⟩ := hb
  have b2 : acut t S.2.2 S.2.1 = some (as, rest) := by
    split at b2
    case h_2 => cases b2
    rename_i z hz
    obtain ⟨z1, z2⟩ := z
    rw [Bool.and_eq_true, decide_eq_true_eq, decide_eq_true_eq] at b2
    obtain ⟨rfl, rfl⟩ := b2
    exact hz
  split at b3
  case h_2 => cases b3
  rename_i y hy
  obtain ⟨c', σ, C1⟩ := y
  rw [Bool.and_eq_true, decide_eq_true_eq] at b3
  have hc := (tryC_ok hy).1
  cases List.mem_singleton.mp hc
  have ho := tkF_ok (hT 0) hts
  exact callK (lv := S.1) (st := S.2.1) (C := S.2.2) hM hS ho b2 b1 hy b3.1 q (hk σ C1 b3.2 (by
    obtain ⟨_, _, x2, _, _⟩ := atouch_ok (qs := (cC (ctC c)).map (·.1)) q.1
    rw [(tryC_ok hy).2.2.2.2]
    exact x2))
def opB (F : Nat) (G : aG) (cells : Nat → Nat) (sp : Nat → Nat → aS → Option (Fm × List Int)) (pc0 : Nat) (S0 : aS) (pc1 : Nat) (as1 : List AV) (c1 : aCt) (pc2 : Nat) (as2 : List AV) (c2 : aCt) (pc3 : Nat) (cmp : Bool) (H : Nat × aS × Fm) : Bool :=
  let m0 := (eC S0.2.2).length
  let E1 : aS := (S0.1, as1.reverse, S0.2.2)
  decide (8 ≤ m0) && ((as1.all fun v => wfB m0 v.2) && ((as2.all fun v => wfB m0 v.2) && (wkB F G (some []) [] cells sp m0 [] [(pc1, E1, fcon 0)] 1 pc0 S0 && opK G pc1 E1 as1 [] c1 fun σ1 C1 => (ctP c1).all fun p1 =>
    let R1 := (retF c1 σ1 C1 p1).toList
    let A1 := aft c1 σ1 C1 p1
    let E2 : aS := (S0.1, as2.reverse ++ (if cmp = true then R1 else []), A1)
    decide (nC A1 = 212 ∧ ctN c1 = 212) && (wkB F G (some []) [] cells sp (eC A1).length [] [(pc2, E2, fcon 0)] 1 (pc1 + 3) (S0.1, R1 ++ [], A1) && opK G pc2 E2 as2 (if cmp = true then R1 else []) c2 fun σ2 C2 => (ctP c2).all fun p2 =>
      let R2 := (retF c2 σ2 C2 p2).toList
      let A2 := aft c2 σ2 C2 p2
      decide (nC A2 = 212 ∧ ctN c2 = 212) && (if cmp = true then (match tkF (pc2 + 3) 0 (tk 0) with
        | some (t :: _) => decide (t.1 = .if_icmp .eq ((pc3 : Int) - ((pc2 + 3 : Nat) : Int)) ∧ t.2.1 = 3 ∧ R1.map (·.1) = [0] ∧ R2.map (·.1) = [0]) && wkB F G (some []) [] cells sp 8 [] [H] 1 pc3 (S0.1, [], A2)
        | _ => false) else wkB F G (some []) [] cells sp 8 [] [H] 1 (pc2 + 3) (S0.1, R2 ++ [], A2))))))
theorem op_ok {g : bG} {l : Launch} {F : Nat} {G : aG} {cells : Nat → Nat} {sp : Nat → Nat → aS → Option (Fm × List Int)} {pc0 pc1 pc2 pc3 : Nat} {S0 : aS} {as1 as2 : List AV} {c1 c2 : aCt} {cmp : Bool} {H : Nat × aS × Fm} {Sem1 Sem2 : List bV → bH → Option bV → bH → Prop} {Q : bQ} {h0 h : bH} {ρ : Nat → Int} {R : bH → Prop} (hT : ∀ k, okL k 0 (tk k) = true) (hM : ∀ k, kGood k = true → okM k = true) (hb : opB F G cells sp pc0 S0 pc1 as1 c1 pc2 as2 c2 pc3 cmp H = true) (hS1 : SK g l G c1 Sem1) (hS2 : SK g l G c2 Sem2) (q : aIn (PofW G none true) (gsc g) h0 ρ h S0)
    (hsem : ∀ r1 h1 r2 h2, Sem1 (evS ρ as1) h r1 h1 → Sem2 (evS ρ as2) h1 r2 h2 → R h2 ∧ (cmp = true → r1 = r2))
    (hX : ∀ (ρ' : Nat → Int) (h' : bH), aIn (PofW G none true) (gsc g) h0 ρ' h' H.2.1 → ext 8 ρ ρ' → R h' → WP g l 40 0 0 212 Q (conc ρ' H.1 (nC H.2.1.2.2) h' H.2.1)) :
    WP g l 40 0 0 212 Q (conc ρ pc0 (nC S0.2.2) h S0) := by
  unfold opB at hb
  dsimp only at hb
  rw [Bool.and_eq_true, Bool.and_eq_true, Bool.and_eq_true, Bool.and_eq_true, decide_eq_true_eq] at hb
  obtain ⟨v8, v1, v2, b1, b2⟩ := hb
  have wv : ∀ {as : List AV}, (as.all fun v => wfB (eC S0.2.2).length v.2) = true → wfS (eC S0.2.2).length as := fun h v hv => wfB_x (List.all_eq_true.mp h v hv)
  have nilC : ∀ z ∈ ([] : List aCt), Keeps g l G z := fun z hz => by cases hz
  refine wk_ok (ρ0 := ρ) hT hM nilC b1 ?_ (fun p hp => by cases hp) (aIn_re (w' := some []) q) (fun _ _ => rfl)
  intro H1 hH1 ρ1 h1 i1 x1
  cases List.mem_singleton.mp hH1
  have e1 : h1 = h := funext fun a => funext fun j => i1.1.2.2.2.2.1 a j rfl
  subst e1
  refine opK_ok hT hM hS1 b2 (aIn_no (h1 := h0) i1) ?_
  intro σ1 C1 b3 hC1 p1 hp1 ρ2 r1 h2 i2 x2 er1 s1
  have b4 := List.all_eq_true.mp b3 p1 hp1
  rw [Bool.and_eq_true, Bool.and_eq_true, decide_eq_true_eq] at b4
  obtain ⟨⟨n1, n1'⟩, b5, b6⟩ := b4
  rw [evS_same x1 (wv v1)] at s1
  have x2' : ext (eC S0.2.2).length ρ ρ2 := x1.trans x2 (Nat.le_refl _)
  rw [show ctN c1 = nC (aft c1 σ1 C1 p1) by rw [n1, n1']]
  refine wk_ok (ρ0 := ρ2) hT hM nilC b5 ?_ (fun p hp => by cases hp) (aIn_re (w' := some []) i2) (fun _ _ => rfl)
  intro H2 hH2 ρ3 h3 i3 x3
  cases List.mem_singleton.mp hH2
  have e3 : h3 = h2 := funext fun a => funext fun j => i3.1.2.2.2.2.1 a j rfl
  subst e3
  have hl1 : (eC S0.2.2).length ≤ (eC (aft c1 σ1 C1 p1)).length := by
    have : (eC C1).length ≤ (eC C1 ++ (eC p1.1).drop (eC (ctC c1)).length).length := by
      rw [List.length_append]
      omega
    exact Nat.le_trans hC1 this
  have x3' : ext (eC S0.2.2).length ρ ρ3 := x2'.trans x3 hl1
  refine opK_ok hT hM hS2 b6 (aIn_no (h1 := h0) i3) ?_
  intro σ2 C2 b7 hC2 p2 hp2 ρ4 r2 h4 i4 x4 er2 s2
  have b8 := List.all_eq_true.mp b7 p2 hp2
  rw [Bool.and_eq_true, decide_eq_true_eq] at b8
  obtain ⟨⟨n2, n2'⟩, b8⟩ := b8
  rw [evS_same x3' (wv v2)] at s2
  have x4' : ext (eC S0.2.2).length ρ ρ4 := x3'.trans x4 hl1
  obtain ⟨hR, hcmp⟩ := hsem r1 _ r2 _ s1 s2
  rw [show ctN c2 = nC (aft c2 σ2 C2 p2) by rw [n2, n2']]
  have fin : ∀ {pc : Nat} {st : List AV}, wkB F G (some []) [] cells sp 8 [] [H] 1 pc (S0.1, st, aft c2 σ2 C2 p2) = true → wfS (eC (aft c2 σ2 C2 p2)).length st → WP g l 40 0 0 212 Q (conc ρ4 pc (nC (aft c2 σ2 C2 p2)) h4 (S0.1, st, aft c2 σ2 C2 p2)) := by
    intro pc st hb hw
    refine wk_ok (ρ0 := ρ) hT hM nilC hb ?_ (fun p hp => by cases hp) (aIn_re (w' := some []) (show aIn (PofW G none true) (gsc g) h0 ρ4 h4 (S0.1, st, aft c2 σ2 C2 p2) from ⟨i4.1, i4.2.1, hw⟩)) (fun i hi => x4' i (Nat.lt_of_lt_of_le hi v8))
    intro H5 hH5 ρ5 h5 i5 x5
    cases List.mem_singleton.mp hH5
    have e5 : h5 = h4 := funext fun a => funext fun j => i5.1.2.2.2.2.1 a j rfl
    subst e5
    exact hX ρ5 _ (aIn_no i5) x5 hR
  cases cmp with
  | false =>
    rw [if_neg (by decide)] at b8
    exact fin b8 i4.2.2
  | true =>
    rw [if_pos rfl] at b8
    split at b8
    case h_2 => cases b8
    rename_i t ts hts
    rw [Bool.and_eq_true, decide_eq_true_eq] at b8
    obtain ⟨⟨t1, t2, t3, t4⟩, b9⟩ := b8
    obtain ⟨i, len, a, b⟩ := t
    dsimp only at t1 t2
    subst t1 t2
    have ho3 := tkF_ok (hT 0) hts
    generalize hR1 : (retF c1 σ1 C1 p1).toList = R1 at *
    generalize hR2 : (retF c2 σ2 C2 p2).toList = R2 at *
    rcases R1 with _ | ⟨⟨y1, f1⟩, _ | ⟨z1, R1⟩⟩
    · cases t3
    case cons.cons => simp at t3
    rcases R2 with _ | ⟨⟨y2, f2⟩, _ | ⟨z2, R2⟩⟩
    · cases t4
    case cons.cons => simp at t4
    simp only [List.map_cons, List.map_nil, List.cons.injEq, and_true] at t3 t4
    subst t3 t4
    have e12 := hcmp rfl
    have w1 : wfF (eC (aft c1 σ1 C1 p1)).length f1 := i2.2.2 (0, f1) List.mem_cons_self
    have g1 : evS ρ4 [((0 : Nat), f1)] = evS ρ2 [((0 : Nat), f1)] := evS_same (x3.trans x4 (Nat.le_refl _)) (fun v hv => by cases List.mem_singleton.mp hv; exact w1)
    have g2 : evS ρ4 [((0 : Nat), f1)] = evS ρ4 [((0 : Nat), f2)] := by
      rw [g1, er1, er2, e12]
    have g3 : ev ρ4 f1 = ev ρ4 f2 := by
      have : [((0 : Nat), ev ρ4 f1)] = [((0 : Nat), ev ρ4 f2)] := g2
      simpa using this
    have w9 := fin (st := []) b9 (fun v hv => by cases hv)
    rw [n2] at w9 ⊢
    refine w_icmp (g := g) (l := l) (d := 40) (k := 0) (n0 := 0) (Q := Q) (pt := pc3) (pf := pc2 + 3 + 3) (lv := evL ρ4 S0.1) (st := []) (h := h4) (x := ev ρ4 f1) (y := ev ρ4 f2) ho3 (by omega) rfl (fun _ => w9) (fun e => absurd (show bP .eq (ev ρ4 f1) (ev ρ4 f2) from g3) e)
/-- the state at a case's start -/
def lwC (Rv : REnv) (r : List Fm × Ca × Nat) : aS := lwS (fid 1) ((0, 3072) :: (0, 3066) :: r32 :: r32 :: r32 :: r32 :: r32 :: r32 :: Rv, (6, [(0, (-1)), (1, 1)]) :: r.1, r.2)
/-- the same, an unknown's range told closer -/
def lwCk (Rv : REnv) (r : List Fm × Ca × Nat) (k : Nat) (lo hi : Int) : aS := ((lwC Rv r).1, (lwC Rv r).2.1, (eC (lwC Rv r).2.2).set k (lo, hi), (lwC Rv r).2.2.2)
theorem lwCk_l {Rv : REnv} {r : List Fm × Ca × Nat} {k : Nat} {lo hi : Int} : (eC (lwC Rv r).2.2).length = (eC (lwCk Rv r k lo hi).2.2).length := by
  show _ = (List.set _ _ _).length
  rw [List.length_set]
theorem lwCk_in {G : aG} {L : bC} {h0 h : bH} {ρ : Nat → Int} {Rv : REnv} {r : List Fm × Ca × Nat} {k : Nat} {lo hi : Int} (q : aIn (PofW G none true) L h0 ρ h (lwC Rv r)) (h1 : lo ≤ ρ k) (h2 : ρ k ≤ hi) : aIn (PofW G none true) L h0 ρ h (lwCk Rv r k lo hi) := by
  have el : (eC (lwCk Rv r k lo hi).2.2).length = (eC (lwC Rv r).2.2).length := lwCk_l.symm
  refine ⟨⟨fun i hi' => ?_, fun f hf => ?_, fun c hc => ?_, q.1.2.2.2.1, q.1.2.2.2.2.1, fun e => ⟨(q.1.2.2.2.2.2 e).1, by rw [el]; exact (q.1.2.2.2.2.2 e).2⟩⟩, fun v hv => ?_, fun v hv => ?_⟩
  · have hl : i < (eC (lwC Rv r).2.2).length := by rw [← el]; exact hi'
    have h0 := q.1.1 i hl
    show (((eC (lwC Rv r).2.2).set k (lo, hi)).getD i (0, 0)).1 ≤ ρ i ∧ ρ i ≤ (((eC (lwC Rv r).2.2).set k (lo, hi)).getD i (0, 0)).2
    by_cases e : k = i
    · subst e
      rw [List.getD_eq_getElem?_getD, List.getElem?_set_self hl]
      exact ⟨h1, h2⟩
    · rw [List.getD_eq_getElem?_getD, List.getElem?_set_ne e, ← List.getD_eq_getElem?_getD]
      exact h0
  · rw [el]; exact q.1.2.1 f hf
  · rw [el]; exact q.1.2.2.1 c hc
  · rw [el]; exact q.2.1 v hv
  · rw [el]; exact q.2.2 v hv
theorem lwCk_u {G : aG} {L : bC} {h0 h : bH} {ρ : Nat → Int} {Rv : REnv} {r : List Fm × Ca × Nat} {k : Nat} (h1 : 2 ≤ k) (h2 : k < 8) (q : aIn (PofW G none true) L h0 ρ h (lwC Rv r)) : -2147483648 ≤ ρ k ∧ ρ k ≤ 2147483647 := by
  have hl : k < (eC (lwC Rv r).2.2).length := Nat.lt_of_lt_of_le h2 (Nat.le_add_left 8 Rv.length)
  have := q.1.1 k hl
  match k, h1, h2 with
  | 2, _, _ => exact this
  | 3, _, _ => exact this
  | 4, _, _ => exact this
  | 5, _, _ => exact this
  | 6, _, _ => exact this
  | 7, _, _ => exact this
theorem law_of3 {R : bH → Prop} {G : aG} {F : Nat} {cs : List aCt} {cells : Nat → Nat} {sp : Nat → Nat → aS → Option (Fm × List Int)} {Rv : REnv} {r : List Fm × Ca × Nat} {T0 T8 : aS} {fr : List (Nat × List (Nat × Nat × Nat))} {hn : List Nat} {fp : List (Nat × Nat × Nat)} (hOK : lwOK r = true) (hT : ∀ k, okL k 0 (tk k) = true) (hM : ∀ k, kGood k = true → okM k = true) (hC : ∀ g l, ∀ z ∈ cs, Keeps g l G z)
    (hE0 : lwE0 F G cs cells sp T8 = true) (hE1 : wkB F G none cs cells sp 8 [] [(18, T0, fcon 0)] 1 8 T8 = true) (hT0 : wkB F G (some []) [] cells sp 8 [] [(18, lwS (fid 1) (lwD 3072 Rv r), fcon 0)] 0 18 T0 = true) (hR0 : ∀ (L : bC) (ρ : Nat → Int) (h : bH), aIn (PofW G none true) L (fun _ _ => 0) ρ h T0 → R h)
    (hfp : ∀ h h' : bH, (∀ a j, wrF (some fp) a j = true → h' a j = h a j) → R h → R h')
    (hHead : wkB F G (some []) cs cells sp 8 lwO (fr.map (fun q => (q.1, lwC Rv r, fcon 0)) ++ (hn.map (fun q => (q, lwC Rv r, fcon 0)) ++ [lwX Rv r])) 1 18 (lwS (fid 1) (lwD 3072 Rv r)) = true)
    (hFr : ∀ q ∈ fr, (wkB F G (some q.2) cs cells sp 8 lwO [lwX Rv r] 1 q.1 (lwC Rv r) && wdis q.2 fp) = true)
    (hHn : ∀ p ∈ hn, ∀ (g : bG) (l : Launch) (Q : bQ) (ρ : Nat → Int) (h : bH), aIn (PofW G none true) (gsc g) (fun _ _ => 0) ρ h (lwC Rv r) → R h → (∀ (ρ' : Nat → Int) (h' : bH), aIn (PofW G none true) (gsc g) (fun _ _ => 0) ρ' h' (lwX Rv r).2.1 → ext 8 ρ ρ' → R h' → WP g l 40 0 0 212 Q (conc ρ' (lwX Rv r).1 (nC (lwX Rv r).2.1.2.2) h' (lwX Rv r).2.1)) → WP g l 40 0 0 212 Q (conc ρ p (nC (lwC Rv r).2.2) h (lwC Rv r))) : LawWP := by
  intro g l hL
  unfold lwOK at hOK
  simp only [Bool.and_eq_true, beq_iff_eq] at hOK
  obtain ⟨o1, o2, o3⟩ := hOK
  have hpw : PW (PofW G none true) := pwB_ok (G := G) (w := none) (b := true) rfl
  have hpost : ∀ p ∈ lwO, ∀ (ρ : Nat → Int) (h : bH), evR ρ p.2 = some (0, 1) := by
    intro p hp ρ h
    cases List.mem_singleton.mp hp
    show some ((0 : Nat), ev ρ (fcon 1)) = some (0, 1)
    rw [fcon_ev]
  have key : ∀ (n : Nat) (ρ : Nat → Int) (h : bH), aIn (PofW G none true) (gsc g) (fun _ _ => 0) ρ h (lwS (fid 1) (lwD 3072 Rv r)) → R h → (3072 - ρ 1).toNat < n → WP g l 40 0 0 212 (fun r _ => r = some (0, 1)) (conc ρ 18 (nC (lwS (fid 1) (lwD 3072 Rv r)).2.2) h (lwS (fid 1) (lwD 3072 Rv r))) := by
    intro n
    induction n with
    | zero => intro ρ h _ _ hlt; omega
    | succ n ih =>
      intro ρ h hi hr hlt
      have nxt : ∀ (ρ' : Nat → Int) (h' : bH), aIn (PofW G none true) (gsc g) (fun _ _ => 0) ρ' h' (lwX Rv r).2.1 → ext 8 ρ ρ' → R h' → WP g l 40 0 0 212 (fun r _ => r = some (0, 1)) (conc ρ' (lwX Rv r).1 (nC (lwX Rv r).2.1.2.2) h' (lwX Rv r).2.1) := by
        intro ρ' h' hi' hx hr'
        have q := hi'.1
        have h1 : (0 : Int) ≤ ρ' 1 ∧ ρ' 1 ≤ 3066 := q.1 1 (Nat.succ_lt_succ (Nat.zero_lt_succ _))
        have e1 : ρ' 1 = ρ 1 := hx 1 (by decide)
        have hl8 : ∀ i, i < 8 → i < (eC (lwD 3072 Rv r)).length := fun i hi => Nat.lt_of_lt_of_le hi (Nat.le_add_left 8 Rv.length)
        have hin : aIn (PofW G none true) (gsc g) (fun _ _ => 0) (lwN (gsc g) ρ') h' (lwS (fid 1) (lwD 3072 Rv r)) := by
          refine ⟨⟨lwN_env q.1, fun f hf => ?_, fun c hc => ?_, q.2.2.2.1, q.2.2.2.2.1, fun hp => ?_⟩, ?_, fun v hv => (by cases hv)⟩
          · have := q.2.1 f hf
            exact ⟨this.1, by rw [lwN_hi (List.all_eq_true.mp o1 f hf)]; exact this.2⟩
          · have := q.2.2.1 c hc
            exact ⟨this.1, by rw [lwN_hi (List.all_eq_true.mp o2 c hc)]; exact this.2⟩
          · have := q.2.2.2.2.2 hp
            exact ⟨lwN_scr this.1, this.2⟩
          · intro z hz
            rcases List.mem_cons.mp hz with rfl | hz
            · exact wf_con _ _
            rcases List.mem_cons.mp hz with rfl | hz
            · exact wf_con _ _
            rcases List.mem_cons.mp hz with rfl | hz
            · exact wf_con _ _
            cases List.mem_singleton.mp hz
            exact wf_id (hl8 1 (by decide))
        have e2 : lwN (gsc g) ρ' 1 = ρ' 1 + 6 := by
          unfold lwN
          rw [if_pos rfl]
        have := ih (lwN (gsc g) ρ') h' hin hr' (by rw [e2, e1]; omega)
        have ec : conc ρ' 18 (nC (lwX Rv r).2.1.2.2) h' (lwX Rv r).2.1 = conc (lwN (gsc g) ρ') 18 (nC (lwS (fid 1) (lwD 3072 Rv r)).2.2) h' (lwS (fid 1) (lwD 3072 Rv r)) := by
          unfold conc lwX lwS evL evS
          simp only [List.map_cons, List.map_nil, fcon_ev, fid_ev, e2]
          have : ev ρ' ((6, [(1, 1)]) : Fm) = ρ' 1 + 6 := by
            simp only [ev, evT]
            omega
          rw [this]
          rfl
        show WP g l 40 0 0 212 _ (conc ρ' 18 (nC (lwX Rv r).2.1.2.2) h' (lwX Rv r).2.1)
        rw [ec]
        exact this
      refine wk_ok (ρ0 := ρ) hT hM (hC g l) hHead ?_ (fun p hp ρ' h' _ _ => hpost p hp ρ' h') (aIn_re hi) (fun _ _ => rfl)
      intro H hm ρ' h' i x
      have e : h' = h := funext fun a => funext fun j => i.1.2.2.2.2.1 a j rfl
      subst e
      rcases List.mem_append.mp hm with hm | hm
      · obtain ⟨q, hq, rfl⟩ := List.mem_map.mp hm
        have hb := hFr q hq
        rw [Bool.and_eq_true] at hb
        refine wk_ok (ρ0 := ρ) hT hM (hC g l) hb.1 ?_ (fun p hp ρ' h' _ _ => hpost p hp ρ' h') (aIn_re (w' := some q.2) i) x
        intro H2 hm2 ρ2 h2 i2 x2
        cases List.mem_singleton.mp hm2
        exact nxt ρ2 h2 (aIn_no i2) x2 (hfp _ _ (fun a j hf => i2.1.2.2.2.2.1 a j (wdis_ok hb.2 hf)) hr)
      · rcases List.mem_append.mp hm with hm | hm
        · obtain ⟨p, hp, rfl⟩ := List.mem_map.mp hm
          exact hHn p hp g l _ ρ' _ (aIn_no i) hr (fun ρ2 h2 i2 x2 r2 => nxt ρ2 h2 i2 (x.trans x2 (Nat.le_refl _)) r2)
        · cases List.mem_singleton.mp hm
          exact nxt ρ' _ (aIn_no i) x hr
  unfold lwE0 at hE0
  rw [Bool.and_eq_true] at hE0
  obtain ⟨e0, e6⟩ := hE0
  obtain ⟨w1, w2, w3, w4⟩ := okP_x e0
  let ρ0 : Nat → Int := fun i => if i = 0 then ((gsc g).1 : Int) else if i = 1 then 0 else ((gsc g).2 ((i - 2 : Nat) : Int).toNat).toInt
  have hscr : scr (gsc g) ρ0 := by
    refine ⟨rfl, fun j hj => ?_⟩
    show (if 2 + j = 0 then ((gsc g).1 : Int) else if 2 + j = 1 then 0 else ((gsc g).2 ((2 + j - 2 : Nat) : Int).toNat).toInt) = ((gsc g).2 ((0 : Int) + (j : Int)).toNat).toInt
    rw [if_neg (by omega), if_neg (by omega), show 2 + j - 2 = j by omega, Int.zero_add]
  have hc : core (PofW G none true) (gsc g) (fun _ _ => 0) ρ0 (fun _ _ => 0) (lwD 0 [] ([], [], 0)) := by
    refine ⟨fun i hi => ?_, fun f hf => (by cases hf), fun c hc => (by cases hc), fun a j ha => (absurd ha (Nat.not_lt_zero a)), fun _ _ _ => rfl, fun _ => ⟨hscr, Nat.le_refl 8⟩⟩
    have hr : ∀ j, 2 ≤ j → (-2147483648 : Int) ≤ ρ0 j ∧ ρ0 j ≤ 2147483647 := fun j h1 => by
      show (-2147483648 : Int) ≤ (if j = 0 then ((gsc g).1 : Int) else if j = 1 then 0 else ((gsc g).2 ((j - 2 : Nat) : Int).toNat).toInt) ∧ (if j = 0 then ((gsc g).1 : Int) else if j = 1 then 0 else ((gsc g).2 ((j - 2 : Nat) : Int).toNat).toInt) ≤ 2147483647
      rw [if_neg (by omega), if_neg (by omega)]
      exact i32_in _
    match i, hi with
    | 0, _ =>
      show (0 : Int) ≤ ((gsc g).1 : Int) ∧ ((gsc g).1 : Int) ≤ (3072 : Int)
      omega
    | 1, _ =>
      show (0 : Int) ≤ (0 : Int) ∧ (0 : Int) ≤ (0 : Int)
      omega
    | 2, _ => exact hr 2 (by decide)
    | 3, _ => exact hr 3 (by decide)
    | 4, _ => exact hr 4 (by decide)
    | 5, _ => exact hr 5 (by decide)
    | 6, _ => exact hr 6 (by decide)
    | 7, _ => exact hr 7 (by decide)
    | i + 8, hi => exact absurd hi (by show ¬ i + 8 < 8; omega)
  have hyp : aHyp g l (G, none, true, cs, [(8, T8, fcon 0)], 8, [], cells, none, sp) (fun _ _ => 0) ρ0 0 0 40 0 0 212 (fun r _ => r = some (0, 1)) := by
    refine ⟨hpw, hT, hM, hC g l, ?_, fun p hp => (by cases hp)⟩
    intro H8 hm8 ρ8 h8 a8 _ _ _
    cases List.mem_singleton.mp hm8
    show WP g l 40 0 0 212 _ (conc ρ8 8 (nC T8.2.2) h8 T8)
    refine wk_ok (ρ0 := ρ8) hT hM (hC g l) hE1 ?_ (fun p hp => by cases hp) a8 (fun _ _ => rfl)
    intro H hm ρ' h' a1 _
    cases List.mem_singleton.mp hm
    show WP g l 40 0 0 212 _ (conc ρ' 18 (nC T0.2.2) h' T0)
    refine wk_ok (ρ0 := ρ') hT hM (fun z hz => by cases hz) hT0 ?_ (fun p hp => by cases hp) (aIn_re (w' := some []) a1) (fun _ _ => rfl)
    intro H2 hm2 ρ2 h2 i2 x2
    cases List.mem_singleton.mp hm2
    have e : h2 = h' := funext fun a => funext fun j => i2.1.2.2.2.2.1 a j rfl
    subst e
    exact key _ ρ2 _ (aIn_no i2) (hR0 _ ρ' _ a1) (Nat.lt_succ_self _)
  have := arun_ok hyp F 40 [] 0 0 212 0 0 (tk 0) (aargs 0 [(2, fcon 700)], [], lwD 0 [] ([], [], 0)) ρ0 (fun _ _ => 0) e6 ⟨⟨hc, aargs_wf w2, fun v hv => (by cases hv)⟩, fun _ _ => rfl, Nat.le_refl 8, fun u hu => by cases hu⟩ (fun z hz => by cases hz) ⟨rfl, rfl, rfl, rfl⟩ (hT _)
  unfold conc at this
  dsimp only at this
  rw [aargs_ev] at this
  exact this
