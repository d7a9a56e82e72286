/-! THE LAW'S START, CUT BEHIND THE CLASS'S CONSTRUCTOR -/
def lwE0 (F : Nat) (G : aG) (cs : List aCt) (cells : Nat → Nat) (sp : Nat → Nat → aS → Option (Fm × List Int)) (T8 : aS) : Bool := okP ([], [(2, fcon 700)], lwD 0 [] ([], [], 0)) && arun (G, none, true, cs, [(8, T8, fcon 0)], 8, [], cells, none, sp) F 40 [] 0 0 212 0 0 (tk 0) (aargs 0 [(2, fcon 700)], [], lwD 0 [] ([], [], 0))
def lwE1 (F : Nat) (G : aG) (cs : List aCt) (cells : Nat → Nat) (sp : Nat → Nat → aS → Option (Fm × List Int)) (R : REnv) (r : List Fm × Ca × Nat) (T8 : aS) : Bool := decide (8 ≤ (eC T8.2.2).length) && (match tkF 8 0 (tk 0) with
  | some ts => arun (G, none, true, cs, [(18, lwS (fid 1) (lwD 3072 R r), fcon 0)], 8, [], cells, none, sp) F 40 [] 0 0 212 1 8 ts T8
  | none => false)
theorem law_of2t {G : aG} {F : Nat} {cs : List aCt} {cells : Nat → Nat} {sp : Nat → Nat → aS → Option (Fm × List Int)} {R : REnv} {r : List Fm × Ca × Nat} {hd : List (Nat × aS × Fm)} (hOK : lwOK r = true) (hT : ∀ k, okL k 0 (tk k) = true) (hM : ∀ k, kGood k = true → okM k = true) (hC : ∀ g l, ∀ z ∈ cs, Keeps g l G z) {T8 : aS} (hE0 : lwE0 F G cs cells sp T8 = true) (hE1 : lwE1 F G cs cells sp R r T8 = true) (hh : (18, lwS (fid 1) (lwD 3072 R r), fcon 3) ∈ hd) (hH : ∀ H ∈ hd, lwB F G cs cells sp R r hd H = true) : LawWP := by
  intro g l hL
  unfold lwOK at hOK
  simp only [Bool.and_eq_true, beq_iff_eq] at hOK
  obtain ⟨o1, o2, o3⟩ := hOK
  have hpw : PW (PofW G none true) := pwB_ok (G := G) (w := none) (b := true) rfl
  have hpost : ∀ p ∈ lwO, ∀ (ρ : Nat → Int) (h : bH), evR ρ p.2 = some (0, 1) := by
    intro p hp ρ h
    cases List.mem_singleton.mp hp
    show some ((0 : Nat), ev ρ (fcon 1)) = some (0, 1)
    rw [fcon_ev]
  have key : ∀ (n : Nat) (ρ : Nat → Int) (h : bH), aIn (PofW G none true) (gsc g) (fun _ _ => 0) ρ h (lwS (fid 1) (lwD 3072 R r)) → (3072 - ρ 1).toNat < n → WP g l (0 + 40) 0 0 212 (fun r _ => r = some (0, 1)) (conc ρ 18 (nC (lwS (fid 1) (lwD 3072 R r)).2.2) h (lwS (fid 1) (lwD 3072 R r))) := by
    intro n
    induction n with
    | zero => intro ρ h _ hlt; omega
    | succ n ih =>
      intro ρ h hi hlt
      refine key_in (D := 0) (d0 := 40) (m0 := 8) (ex := [lwX R r]) (hd := hd) (po := lwO) (k := 0) (N0 := 0) (N1 := 212) (ρ0 := ρ) (h0 := fun _ _ => 0) (F := F) (cells := cells) (sp := sp) hpw hT hM (hC g l) hH ?_ (fun p hp ρ' h' _ _ => hpost p hp ρ' h') 4 (18, lwS (fid 1) (lwD 3072 R r), fcon 3) hh ρ h hi (fun _ _ => rfl) (by show (0 : Int) ≤ ev ρ (fcon 3); rw [fcon_ev]; omega) (by show (ev ρ (fcon 3)).toNat < 4; rw [fcon_ev]; decide)
      intro H hm ρ' h' hi' hx
      cases List.mem_singleton.mp hm
      have q := hi'.1
      have h1 : (0 : Int) ≤ ρ' 1 ∧ ρ' 1 ≤ 3066 := q.1 1 (Nat.succ_lt_succ (Nat.zero_lt_succ _))
      have e1 : ρ' 1 = ρ 1 := hx 1 (by decide)
      have hl8 : ∀ i, i < 8 → i < (eC (lwD 3072 R r)).length := fun i hi => Nat.lt_of_lt_of_le hi (Nat.le_add_left 8 R.length)
      have hin : aIn (PofW G none true) (gsc g) (fun _ _ => 0) (lwN (gsc g) ρ') h' (lwS (fid 1) (lwD 3072 R r)) := by
        refine ⟨⟨lwN_env q.1, fun f hf => ?_, fun c hc => ?_, q.2.2.2.1, q.2.2.2.2.1, fun hp => ?_⟩, ?_, fun v hv => (by cases hv)⟩
        · have := q.2.1 f hf
          exact ⟨this.1, by rw [lwN_hi (List.all_eq_true.mp o1 f hf)]; exact this.2⟩
        · have := q.2.2.1 c hc
          exact ⟨this.1, by rw [lwN_hi (List.all_eq_true.mp o2 c hc)]; exact this.2⟩
        · have := q.2.2.2.2.2 hp
          exact ⟨lwN_scr this.1, this.2⟩
        · intro z hz
          rcases List.mem_cons.mp hz with rfl | hz
          · exact wf_con _ _
          rcases List.mem_cons.mp hz with rfl | hz
          · exact wf_con _ _
          rcases List.mem_cons.mp hz with rfl | hz
          · exact wf_con _ _
          cases List.mem_singleton.mp hz
          exact wf_id (hl8 1 (by decide))
      have e2 : lwN (gsc g) ρ' 1 = ρ' 1 + 6 := by
        unfold lwN
        rw [if_pos rfl]
      have := ih (lwN (gsc g) ρ') h' hin (by rw [e2, e1]; omega)
      have ec : conc ρ' 18 (nC (lwX R r).2.1.2.2) h' (lwX R r).2.1 = conc (lwN (gsc g) ρ') 18 (nC (lwS (fid 1) (lwD 3072 R r)).2.2) h' (lwS (fid 1) (lwD 3072 R r)) := by
        unfold conc lwX lwS evL evS
        simp only [List.map_cons, List.map_nil, fcon_ev, fid_ev, e2]
        have : ev ρ' ((6, [(1, 1)]) : Fm) = ρ' 1 + 6 := by
          simp only [ev, evT]
          omega
        rw [this]
        rfl
      show WP g l (0 + 40) 0 0 212 _ (conc ρ' 18 (nC (lwX R r).2.1.2.2) h' (lwX R r).2.1)
      rw [ec]
      exact this
  unfold lwE0 at hE0
  rw [Bool.and_eq_true] at hE0
  obtain ⟨e0, e6⟩ := hE0
  unfold lwE1 at hE1
  simp only [Bool.and_eq_true, decide_eq_true_eq] at hE1
  obtain ⟨e8, e7⟩ := hE1
  obtain ⟨w1, w2, w3, w4⟩ := okP_x e0
  let ρ0 : Nat → Int := fun i => if i = 0 then ((gsc g).1 : Int) else if i = 1 then 0 else ((gsc g).2 ((i - 2 : Nat) : Int).toNat).toInt
  have hscr : scr (gsc g) ρ0 := by
    refine ⟨rfl, fun j hj => ?_⟩
    show (if 2 + j = 0 then ((gsc g).1 : Int) else if 2 + j = 1 then 0 else ((gsc g).2 ((2 + j - 2 : Nat) : Int).toNat).toInt) = ((gsc g).2 ((0 : Int) + (j : Int)).toNat).toInt
    rw [if_neg (by omega), if_neg (by omega), show 2 + j - 2 = j by omega, Int.zero_add]
  have hc : core (PofW G none true) (gsc g) (fun _ _ => 0) ρ0 (fun _ _ => 0) (lwD 0 [] ([], [], 0)) := by
    refine ⟨fun i hi => ?_, fun f hf => (by cases hf), fun c hc => (by cases hc), fun a j ha => (absurd ha (Nat.not_lt_zero a)), fun _ _ _ => rfl, fun _ => ⟨hscr, Nat.le_refl 8⟩⟩
    have hr : ∀ j, 2 ≤ j → (-2147483648 : Int) ≤ ρ0 j ∧ ρ0 j ≤ 2147483647 := fun j h1 => by
      show (-2147483648 : Int) ≤ (if j = 0 then ((gsc g).1 : Int) else if j = 1 then 0 else ((gsc g).2 ((j - 2 : Nat) : Int).toNat).toInt) ∧ (if j = 0 then ((gsc g).1 : Int) else if j = 1 then 0 else ((gsc g).2 ((j - 2 : Nat) : Int).toNat).toInt) ≤ 2147483647
      rw [if_neg (by omega), if_neg (by omega)]
      exact i32_in _
    match i, hi with
    | 0, _ =>
      show (0 : Int) ≤ ((gsc g).1 : Int) ∧ ((gsc g).1 : Int) ≤ (3072 : Int)
      omega
    | 1, _ =>
      show (0 : Int) ≤ (0 : Int) ∧ (0 : Int) ≤ (0 : Int)
      omega
    | 2, _ => exact hr 2 (by decide)
    | 3, _ => exact hr 3 (by decide)
    | 4, _ => exact hr 4 (by decide)
    | 5, _ => exact hr 5 (by decide)
    | 6, _ => exact hr 6 (by decide)
    | 7, _ => exact hr 7 (by decide)
    | i + 8, hi => exact absurd hi (by show ¬ i + 8 < 8; omega)
  have hyp : aHyp g l (G, none, true, cs, [(8, T8, fcon 0)], 8, [], cells, none, sp) (fun _ _ => 0) ρ0 0 0 40 0 0 212 (fun r _ => r = some (0, 1)) := by
    refine ⟨hpw, hT, hM, hC g l, ?_, fun p hp => (by cases hp)⟩
    intro H hm ρ' h' a1 a2 _ _
    cases List.mem_singleton.mp hm
    show WP g l 40 0 0 212 _ (conc ρ' 8 (nC T8.2.2) h' T8)
    split at e7
    case h_2 => cases e7
    rename_i ts hts
    have hyp2 : aHyp g l (G, none, true, cs, [(18, lwS (fid 1) (lwD 3072 R r), fcon 0)], 8, [], cells, none, sp) (fun _ _ => 0) ρ' 0 0 40 0 0 212 (fun r _ => r = some (0, 1)) := by
      refine ⟨hpw, hT, hM, hC g l, ?_, fun p hp => (by cases hp)⟩
      intro H2 hm2 ρ2 h2 b1 b2 _ _
      cases List.mem_singleton.mp hm2
      exact key _ ρ2 h2 b1 (Nat.lt_succ_self _)
    exact arun_ok hyp2 F 40 [] 0 0 212 1 8 ts T8 ρ' h' e7 ⟨a1, fun _ _ => rfl, e8, fun u hu => by cases hu⟩ (fun z hz => by cases hz) ⟨rfl, rfl, rfl, rfl⟩ (tkF_ok (hT _) hts)
  have := arun_ok hyp F 40 [] 0 0 212 0 0 (tk 0) (aargs 0 [(2, fcon 700)], [], lwD 0 [] ([], [], 0)) ρ0 (fun _ _ => 0) e6 ⟨⟨hc, aargs_wf w2, fun v hv => (by cases hv)⟩, fun _ _ => rfl, Nat.le_refl 8, fun u hu => by cases hu⟩ (fun z hz => by cases hz) ⟨rfl, rfl, rfl, rfl⟩ (hT _)
  unfold conc at this
  dsimp only at this
  rw [aargs_ev] at this
  exact this
