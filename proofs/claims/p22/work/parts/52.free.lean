/-! THE FREE ROW OF THE REFERENCE: eight rows, seven that may be taken; each round finds the row of this number taken, or ends -/
/-- n numbers do not go into fewer places -/
theorem pig1 : ∀ (n : Nat) (f : Nat → Int), (∀ v : Nat, v < n + 1 → ∃ i, i < n ∧ f i = (v : Int)) → False
  | 0, f, H => by
    obtain ⟨i, hi, _⟩ := H 0 (by omega)
    omega
  | n + 1, f, H => by
    obtain ⟨i0, h0, e0⟩ := H (n + 1) (by omega)
    refine pig1 n (fun i => if i = i0 then f n else f i) (fun v hv => ?_)
    obtain ⟨i, hi, e⟩ := H v (by omega)
    have hne : i ≠ i0 := fun q => by rw [q, e0] at e; omega
    by_cases hl : i = n
    · subst hl
      refine ⟨i0, by omega, ?_⟩
      rw [if_pos rfl]; exact e
    · refine ⟨i, by omega, ?_⟩
      rw [if_neg hne]; exact e
theorem pig (f : Nat → Int) (s : Nat) (hs : s < 8) (h : f s = -1) (H : ∀ v : Nat, v < 8 → ∃ i, i < 8 ∧ f i = (v : Int)) : False := by
  refine pig1 7 (fun i => if i = s then f 7 else f i) (fun v hv => ?_)
  obtain ⟨i, hi, e⟩ := H v hv
  have hne : i ≠ s := fun q => by rw [q, h] at e; omega
  by_cases hl : i = 7
  · subst hl
    refine ⟨s, by omega, ?_⟩
    rw [if_pos rfl]; exact e
  · refine ⟨i, by omega, ?_⟩
    rw [if_neg hne]; exact e
def frPl (i : Nat) : Nat × Nat := (if i < 4 then 205 else 210, i % 4)
def frP (s : Nat) : List (Nat × Nat) := ((List.range 8).filter fun i => i != s).map frPl
def frC (s : Nat) (ps : List (Nat × Nat)) : aC := ([(0, 7)], [], ((205, s), ((-1), [])) :: ps.map (fun p => (p, fid 0)), 212)
def frI0 (s k : Nat) : Nat × aS × Fm := (12, ([(0, (2, fcon 193)), (1, (0, fid 0)), (2, (0, fcon 0)), (3, (0, fcon k))], [], frC s []), fcon (10 - k))
def frI1 (s k : Nat) (p : Nat × Nat) : Nat × aS × Fm := (12, ([(0, (2, fcon 193)), (1, (0, fid 0)), (2, (0, fcon 1)), (3, (0, fcon k))], [], frC s [p]), fcon (10 - k))
def frO (s : Nat) : Nat × aS × Fm := (4, ([(0, (2, fcon 193)), (1, (0, fid 0)), (2, (0, fcon 1))], [], frC s []), fcon 20)
def frX (s : Nat) : Nat × aS × Fm := (4, ([(0, (2, fcon 193)), (1, (0, fid 0)), (2, (0, fcon 0))], [], frC s []), fcon 0)
def frN (s : Nat) (p : Nat × Nat) : Nat × aS × Fm := (4, ([(0, (2, fcon 193)), (1, (0, (1, [(0, 1)]))), (2, (0, fcon 1))], [], frC s [p]), fcon 0)
def frE (s : Nat) : Nat × aS × Fm := (4, ([(0, (2, fcon 193)), (1, (0, fcon 0)), (2, (0, fcon 1))], [], ([], [], [((205, s), ((-1), []))], 212)), fcon 0)
def frH (s : Nat) : List (Nat × aS × Fm) := frO s :: ((List.range 5).map (frI0 s) ++ (List.range 5).flatMap fun k => ((frP s).filter fun p => decide (p.2 < k)).map (frI1 s k))
def frEx (s : Nat) : List (Nat × aS × Fm) := frX s :: (frP s).map (frN s)
def frPo : List aPost := [(([(0, 7)], [], [], 212), some (0, (0, [(0, 1)])))]
def frK (s : Nat) : aCt := (272, 3, some [], false, ([], [], [((205, s), ((-1), []))], 212), [(2, (193, []))], frPo)
def frW (s : Nat) (hd ex : List (Nat × aS × Fm)) (m0 : Nat) (H : Nat × aS × Fm) : Bool := okP H.2.1 && (decide (m0 ≤ (eC H.2.1.2.2).length) && (wfB (eC H.2.1.2.2).length H.2.2 && (match tkF H.1 0 (tk 272) with
      | some ts => arun (gT, some [], false, [], hd ++ ex, m0, frPo, (fun _ => 0), some H.2.2, sp0) 400 3 [] 272 212 212 1 H.1 ts H.2.1
      | none => false)))
theorem fr_h0 : ((frH 0).all (frW 0 (frH 0) (frEx 0) 1)) = true := by decide +kernel
theorem fr_h1 : ((frH 1).all (frW 1 (frH 1) (frEx 1) 1)) = true := by decide +kernel
theorem fr_h2 : ((frH 2).all (frW 2 (frH 2) (frEx 2) 1)) = true := by decide +kernel
theorem fr_h3 : ((frH 3).all (frW 3 (frH 3) (frEx 3) 1)) = true := by decide +kernel
theorem fr_h (s : Nat) (hs : s < 4) : ((frH s).all (frW s (frH s) (frEx s) 1)) = true := by
  match s, hs with
  | 0, _ => exact fr_h0
  | 1, _ => exact fr_h1
  | 2, _ => exact fr_h2
  | 3, _ => exact fr_h3
theorem fr_x : ∀ s, s < 4 → (([frX s]).all (frW s [frX s] [] 1)) = true := by decide +kernel
theorem fr_e : ∀ s, s < 4 → arun (gT, some [], false, [], [frE s], 0, frPo, (fun _ => 0), none, sp0) 400 3 [] 272 212 212 0 0 (tk 272) (aargs 0 [(2, (193, []))], [], ([], [], [((205, s), ((-1), []))], 212)) = true := by decide +kernel
theorem fr_pw : PW (PofW gT (some []) false) := pwB_ok (by decide +kernel)
theorem frPl_sh : ∀ i, i < 8 → (frPl i).1 < 212 := by decide
theorem free_keeps (s : Nat) (hs : s < 4) (hB : BytesOK) (g : bG) (l : Launch) : Keeps g l gT (frK s) := by
  intro d hl ρ h Q hc hQ
  obtain ⟨D, rfl⟩ : ∃ D, d = D + 3 := ⟨d - 3, by have : 3 ≤ d := hl; omega⟩
  have hC : ∀ z ∈ ([] : List aCt), Keeps g l gT z := nilK
  have hpost : ∀ (ρ0 : Nat → Int) (m : Nat), ∀ p ∈ frPo, ∀ (ρ' : Nat → Int) (h' : bH), core (PofW gT (some []) false) (gsc g) h ρ' h' p.1 → ext m ρ0 ρ' → Q (evR ρ' p.2) h' := fun ρ0 m p hp ρ' h' h1 _ => hQ _ _ ⟨p, hp, ρ', (fun i hi => absurd hi (Nat.not_lt_zero i)), h1, rfl⟩
  have hh : ∀ {ρ' : Nat → Int} {h' : bH} {C : aC}, core (PofW gT (some []) false) (gsc g) h ρ' h' C → h' = h := fun q => funext fun a => funext fun j => q.2.2.2.2.1 a j rfl
  have hs1 : h 205 s = -1 := by
    have := (hc.2.2.1 ((205, s), ((-1), [])) List.mem_cons_self).2
    exact this
  have hty : ∀ a j, a < 212 → j < (sh a).2 → (a, j) ≠ (205, s) → (tyP (PofW gT (some []) false) a j).1 ≤ h a j ∧ h a j ≤ (tyP (PofW gT (some []) false) a j).2 := fun a j h1 h2 h3 => hc.2.2.2.1 a j h1 h2 (fun c hc e => by
    have : c = ((205, s), ((-1), [])) := List.mem_singleton.mp hc
    subst this
    exact h3 e.symm)
  -- the end
  have hend : ∀ (ρ' : Nat → Int) (h' : bH), aIn (PofW gT (some []) false) (gsc g) h ρ' h' (frX s).2.1 → WP g l (D + 3) 272 212 212 Q (conc ρ' 4 212 h' (frX s).2.1) := fun ρ' h' hi =>
    key_in (ρ0 := ρ') (ex := []) (hd := [frX s]) fr_pw hB.1 hB.2 hC (fun H hm => List.all_eq_true.mp (fr_x s hs) H hm) (fun H hm => by cases hm) (hpost ρ' 1) 1 (frX s) List.mem_cons_self ρ' h' hi (fun _ _ => rfl) (by show (0 : Int) ≤ ev ρ' (fcon 0); rw [fcon_ev]; omega) (by show (ev ρ' (fcon 0)).toNat < 1; rw [fcon_ev]; decide)
  -- the rounds
  have key : ∀ (n c : Nat), c + n = 8 → (∀ v : Nat, v < c → ∃ i, i < 8 ∧ h (frPl i).1 (frPl i).2 = (v : Int)) → WP g l (D + 3) 272 212 212 Q (conc (fun _ => (c : Int)) 4 212 h (frO s).2.1) := by
    intro n
    induction n with
    | zero =>
      intro c hcn hP
      have : c = 8 := by omega
      subst this
      refine absurd (pig (fun i => h (frPl i).1 (frPl i).2) s (by omega) ?_ hP) id
      show h (frPl s).1 (frPl s).2 = -1
      have e : frPl s = (205, s) := by
        unfold frPl
        rw [if_pos hs, Nat.mod_eq_of_lt hs]
      rw [e]
      exact hs1
    | succ n ih =>
      intro c hcn hP
      have hin : aIn (PofW gT (some []) false) (gsc g) h (fun _ => (c : Int)) h (frO s).2.1 := by
        refine ⟨⟨fun i hi => ?_, fun f hf => (by cases hf), fun q hq => ?_, fun a j h1 h2 h3 => ?_, fun _ _ _ => rfl, fun hp => (by cases hp)⟩, ?_, fun v hv => (by cases hv)⟩
        · have hi : i < 1 := hi
          have : i = 0 := by omega
          subst this
          show (0 : Int) ≤ (c : Int) ∧ (c : Int) ≤ 7
          omega
        · have : q = ((205, s), ((-1), [])) := List.mem_singleton.mp hq
          subst this
          exact ⟨fun t ht => (by cases ht), hs1⟩
        · exact hty a j h1 h2 (fun e => h3 ((205, s), ((-1), [])) List.mem_cons_self e.symm)
        · exact (okP_x (T := (frO s).2.1) (by rfl)).1
      refine key_in (ρ0 := fun _ => (c : Int)) (ex := frEx s) (hd := frH s) fr_pw hB.1 hB.2 hC (fun H hm => List.all_eq_true.mp (fr_h s hs) H hm) ?_ (hpost _ 1) 21 (frO s) List.mem_cons_self _ h hin (fun _ _ => rfl) (by show (0 : Int) ≤ ev _ (fcon 20); rw [fcon_ev]; omega) (by show (ev _ (fcon 20)).toNat < 21; rw [fcon_ev]; decide)
      intro H hm ρ' h' hi hx
      rcases List.mem_cons.mp hm with rfl | hm
      · exact hend ρ' h' hi
      · obtain ⟨p, hp, rfl⟩ := List.mem_map.mp hm
        have e0 : ρ' 0 = (c : Int) := hx 0 (by decide)
        have eh := hh hi.1
        subst eh
        have hpv : h' p.1 p.2 = (c : Int) := by
          have := (hi.1.2.2.1 (p, fid 0) (List.mem_cons_of_mem _ (List.mem_singleton.mpr rfl))).2
          rw [fid_ev, e0] at this
          exact this
        obtain ⟨i, hi2, rfl⟩ := List.mem_map.mp hp
        have hi8 : i < 8 := List.mem_range.mp (List.mem_filter.mp hi2).1
        have := ih (c + 1) (by omega) (fun v hv => by
          by_cases e : v = c
          · subst e; exact ⟨i, hi8, hpv⟩
          · exact hP v (by omega))
        have ec : conc ρ' 4 212 h' (frN s (frPl i)).2.1 = conc (fun _ => ((c + 1 : Nat) : Int)) 4 212 h' (frO s).2.1 := by
          unfold conc frN frO evL evS
          simp only [List.map_cons, List.map_nil, fcon_ev, fid_ev]
          have : ev ρ' ((1, [(0, 1)]) : Fm) = ((c + 1 : Nat) : Int) := by
            simp [ev, evT, e0]
            omega
          rw [this]
        show WP g l (D + 3) 272 212 212 Q (conc ρ' 4 212 h' (frN s (frPl i)).2.1)
        rw [ec]
        exact this
  refine mh_of (hB.2 272 (by decide)) (by rw [astw_ev]; show astw [(2, ((193, []) : Fm))] ≤ mml 272; decide +kernel) (Nat.le_refl _) ?_
  have hyp : aHyp g l (gT, some [], false, [], [frE s], 0, frPo, (fun _ => 0), none, sp0) h ρ 0 D 3 272 212 212 Q := by
    refine ⟨fr_pw, hB.1, hB.2, hC, ?_, hpost ρ 0⟩
    intro H hm ρ' h' a1 a2 a3 a4
    have : H = frE s := List.mem_singleton.mp hm
    subst this
    have eh := hh a1.1
    subst eh
    have := key 8 0 rfl (fun v hv => absurd hv (Nat.not_lt_zero v))
    have ec : conc ρ' 4 212 h' (frE s).2.1 = conc (fun _ => ((0 : Nat) : Int)) 4 212 h' (frO s).2.1 := by
      unfold conc frE frO evL evS
      simp only [List.map_cons, List.map_nil, fcon_ev, fid_ev]
      rfl
    show WP g l (D + 3) 272 212 212 Q (conc ρ' 4 212 h' (frE s).2.1)
    rw [ec]
    exact this
  have := arun_ok hyp 400 3 [] 272 212 212 0 0 (tk 272) (aargs 0 [(2, (193, []))], [], ([], [], [((205, s), ((-1), []))], 212)) ρ h (fr_e s hs) ⟨⟨hc, (fun q hq => by
    have : q = (0, (2, ((193, []) : Fm))) := List.mem_singleton.mp hq
    subst this
    exact fun t ht => by cases ht), fun v hv => by cases hv⟩, fun _ _ => rfl, Nat.le_refl _, fun u hu => by cases hu⟩ (fun z hz => by cases hz) ⟨rfl, rfl, rfl, rfl⟩ (hB.1 _)
  unfold conc at this
  dsimp only at this
  rw [aargs_ev] at this
  exact this
