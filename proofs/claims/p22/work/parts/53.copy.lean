/-! THE REFERENCE'S COPIES (keep, again), BY HAND: all places at once -/
section CP
variable {g : bG} {l : Launch} {d k n0 : Nat} {Q : bQ}
theorem wp_tok {t : Tok} {ts : List Tok} {pc : Nat} {lv : bL} {st : List bV} {h : bH} {S' : bS} (ho : okL k pc (t :: ts) = true) (hs : cst (gsc g) k t (pc, lv, st, 212, h) = some S') (hn : S'.2.2.2.1 = 212) (hk : okL k (pc + t.2.1) ts = true → WP g l d k n0 212 Q S') : WP g l d k n0 212 Q (pc, lv, st, 212, h) := by
  obtain ⟨h1, h2, h3⟩ := okL_c ho
  exact wp_step h1 h2 hs hn (hk h3)
def cpT (iD aD wD iS aS wS : Nat) (r : List Tok) : List Tok := (.iload_n 1, 1, 0, 0) :: (.sipush 1984, 3, 0, 0) :: (.if_icmp .ge 21, 3, 0, 0) :: (.aload_n 0, 1, 0, 0) :: (.getfield iD, 3, aD, wD) :: (.iload_n 1, 1, 0, 0) :: (.aload_n 0, 1, 0, 0) :: (.getfield iS, 3, aS, wS) :: (.iload_n 1, 1, 0, 0) :: (.iaload, 1, 0, 0) :: (.iastore, 1, 0, 0) :: (.iinc 1 1, 3, 0, 0) :: (.goto (-22), 3, 0, 0) :: r
def cpL (i : Int) : bL := [(1, (0, i)), (0, (2, 193))]
/-- what an object's places and two long arrays must be -/
def cpOK (k aD aS D S : Nat) : Bool := bobj aD 212 193 && (bobj aS 212 193 && (kOf (fkd (aD / 64) (aD % 64)) == 2 && (kOf (fkd (aS / 64) (aS % 64)) == 2 && (decide (1 < mml k) && (decide (sh D = (0, 1984)) && (decide (sh S = (0, 1984)) && (decide (D < 212 ∧ S < 212 ∧ D ≠ 193 ∧ D ≠ S))))))))
theorem cp_loop {p0 iD aD wD iS aS wS D S : Nat} {r : List Tok} (ho : okL k p0 (cpT iD aD wD iS aS wS r) = true) (hk : cpOK k aD aS D S = true) : ∀ (n i : Nat) (h : bH), i + n = 1984 → h 193 (aD % 64) = (D : Int) → h 193 (aS % 64) = (S : Int) →
    (okL k (p0 + 25) r = true → ∀ h' : bH, (∀ j, i ≤ j → j < 1984 → h' D j = h S j) → (∀ a j, ¬ (a = D ∧ i ≤ j ∧ j < 1984) → h' a j = h a j) → WP g l d k n0 212 Q (p0 + 25, cpL 1984, [], 212, h')) →
    WP g l d k n0 212 Q (p0, cpL (i : Int), [], 212, h) := by
  unfold cpOK at hk
  simp only [Bool.and_eq_true, beq_iff_eq, decide_eq_true_eq] at hk
  obtain ⟨hD, hS, kD, kS, mk, sD, sS, lD, lS, ne1, ne2⟩ := hk
  have hend : okL k (p0 + 25) r = true := by
    have := ho
    unfold cpT at this
    have q1 := (okL_c this).2.2
    have q2 := (okL_c q1).2.2
    have q3 := (okL_c q2).2.2
    have q4 := (okL_c q3).2.2
    have q5 := (okL_c q4).2.2
    have q6 := (okL_c q5).2.2
    have q7 := (okL_c q6).2.2
    have q8 := (okL_c q7).2.2
    have q9 := (okL_c q8).2.2
    have q10 := (okL_c q9).2.2
    have q11 := (okL_c q10).2.2
    have q12 := (okL_c q11).2.2
    exact (okL_c q12).2.2
  intro n
  induction n with
  | zero =>
    intro i h hi h1 h2 hq
    have e : i = 1984 := by omega
    subst e
    refine wp_tok (S' := (p0 + 1, cpL 1984, [(0, 1984)], 212, h)) ho rfl rfl (fun ho => ?_)
    refine wp_tok (S' := (p0 + 1 + 3, cpL 1984, [(0, 1984), (0, 1984)], 212, h)) ho rfl rfl (fun ho => ?_)
    refine wp_tok (S' := (p0 + 25, cpL 1984, [], 212, h)) ho ?_ rfl (fun _ => hq hend h (fun j a b => by omega) (fun _ _ _ => rfl))
    show (if (0 : Nat) = 0 ∧ (0 : Nat) = 0 ∧ 0 ≤ ((p0 + 1 + 3 : Nat) : Int) + 21 then some (if bcond .ge (1984 : Int) 1984 = true then (((p0 + 1 + 3 : Nat) : Int) + 21).toNat else p0 + 1 + 3 + 3, cpL 1984, [], 212, h) else none) = _
    rw [if_pos ⟨rfl, rfl, by omega⟩, if_pos (by decide), show (((p0 + 1 + 3 : Nat) : Int) + 21).toNat = p0 + 25 by omega]
  | succ n ih =>
    intro i h hi h1 h2 hq
    have hlt : i < 1984 := by omega
    refine wp_tok (S' := (p0 + 1, cpL i, [(0, (i : Int))], 212, h)) ho rfl rfl (fun ho => ?_)
    refine wp_tok (S' := (p0 + 1 + 3, cpL i, [(0, 1984), (0, (i : Int))], 212, h)) ho rfl rfl (fun ho => ?_)
    refine wp_tok (S' := (p0 + 1 + 3 + 3, cpL i, [], 212, h)) ho ?_ rfl (fun ho => ?_)
    · show (if (0 : Nat) = 0 ∧ (0 : Nat) = 0 ∧ 0 ≤ ((p0 + 1 + 3 : Nat) : Int) + 21 then some (if bcond .ge (i : Int) 1984 = true then (((p0 + 1 + 3 : Nat) : Int) + 21).toNat else p0 + 1 + 3 + 3, cpL i, [], 212, h) else none) = _
      rw [if_pos ⟨rfl, rfl, by omega⟩, if_neg (by simp only [bcond, decide_eq_true_eq]; omega)]
    refine wp_tok (S' := (p0 + 1 + 3 + 3 + 1, cpL i, [(2, 193)], 212, h)) ho rfl rfl (fun ho => ?_)
    refine wp_tok (S' := (p0 + 1 + 3 + 3 + 1 + 3, cpL i, [(2, (D : Int))], 212, h)) ho ?_ rfl (fun ho => ?_)
    · show (if (2 : Nat) = 2 ∧ bobj aD 212 193 = true then some (p0 + 1 + 3 + 3 + 1 + 3, cpL i, (kOf (fkd (aD / 64) (aD % 64)), h (193 : Int).toNat (aD % 64)) :: [], 212, h) else none) = _
      rw [if_pos ⟨rfl, hD⟩, kD, show h (193 : Int).toNat (aD % 64) = (D : Int) from h1]
    refine wp_tok (S' := (p0 + 1 + 3 + 3 + 1 + 3 + 1, cpL i, [(0, (i : Int)), (2, (D : Int))], 212, h)) ho rfl rfl (fun ho => ?_)
    refine wp_tok (S' := (p0 + 1 + 3 + 3 + 1 + 3 + 1 + 1, cpL i, [(2, 193), (0, (i : Int)), (2, (D : Int))], 212, h)) ho rfl rfl (fun ho => ?_)
    refine wp_tok (S' := (p0 + 1 + 3 + 3 + 1 + 3 + 1 + 1 + 3, cpL i, [(2, (S : Int)), (0, (i : Int)), (2, (D : Int))], 212, h)) ho ?_ rfl (fun ho => ?_)
    · show (if (2 : Nat) = 2 ∧ bobj aS 212 193 = true then some (p0 + 1 + 3 + 3 + 1 + 3 + 1 + 1 + 3, cpL i, (kOf (fkd (aS / 64) (aS % 64)), h (193 : Int).toNat (aS % 64)) :: [(0, (i : Int)), (2, (D : Int))], 212, h) else none) = _
      rw [if_pos ⟨rfl, hS⟩, kS, show h (193 : Int).toNat (aS % 64) = (S : Int) from h2]
    refine wp_tok (S' := (p0 + 1 + 3 + 3 + 1 + 3 + 1 + 1 + 3 + 1, cpL i, [(0, (i : Int)), (2, (S : Int)), (0, (i : Int)), (2, (D : Int))], 212, h)) ho rfl rfl (fun ho => ?_)
    have hbS : barr 0 212 (S : Int) (i : Int) = true := by
      have e1 : decide ((0 : Int) ≤ (S : Int)) = true := decide_eq_true (by omega)
      have e2 : decide (S < 212) = true := decide_eq_true lS
      have e3 : decide ((0 : Int) ≤ (i : Int)) = true := decide_eq_true (by omega)
      have e4 : decide (i < 1984) = true := decide_eq_true hlt
      unfold barr
      rw [Int.toNat_natCast, Int.toNat_natCast, sS, e1, e2, e3]
      exact e4
    have hbD : barr 0 212 (D : Int) (i : Int) = true := by
      have e1 : decide ((0 : Int) ≤ (D : Int)) = true := decide_eq_true (by omega)
      have e2 : decide (D < 212) = true := decide_eq_true lD
      have e3 : decide ((0 : Int) ≤ (i : Int)) = true := decide_eq_true (by omega)
      have e4 : decide (i < 1984) = true := decide_eq_true hlt
      unfold barr
      rw [Int.toNat_natCast, Int.toNat_natCast, sD, e1, e2, e3]
      exact e4
    refine wp_tok (S' := (p0 + 1 + 3 + 3 + 1 + 3 + 1 + 1 + 3 + 1 + 1, cpL i, [(0, h S i), (0, (i : Int)), (2, (D : Int))], 212, h)) ho ?_ rfl (fun ho => ?_)
    · show (if (0 : Nat) = 0 ∧ (2 : Nat) = 2 ∧ (S : Int) = 700 ∧ 0 ≤ (i : Int) ∧ (i : Int).toNat < (gsc g).1 then _ else (if (0 : Nat) = 0 ∧ (2 : Nat) = 2 ∧ barr 0 212 (S : Int) (i : Int) = true then some (p0 + 1 + 3 + 3 + 1 + 3 + 1 + 1 + 3 + 1 + 1, cpL i, (0, h (S : Int).toNat (i : Int).toNat) :: [(0, (i : Int)), (2, (D : Int))], 212, h) else none)) = _
      rw [if_neg (fun e => by have := e.2.2.1; omega), if_pos ⟨rfl, rfl, hbS⟩]
      rfl
    refine wp_tok (S' := (p0 + 1 + 3 + 3 + 1 + 3 + 1 + 1 + 3 + 1 + 1 + 1, cpL i, [], 212, hup h D i (h S i))) ho ?_ rfl (fun ho => ?_)
    · show (if (0 : Nat) = 0 ∧ (0 : Nat) = 0 ∧ (2 : Nat) = 2 ∧ barr 0 212 (D : Int) (i : Int) = true then some (p0 + 1 + 3 + 3 + 1 + 3 + 1 + 1 + 3 + 1 + 1 + 1, cpL i, [], 212, hup h (D : Int).toNat (i : Int).toNat (h S i)) else none) = _
      rw [if_pos ⟨rfl, rfl, rfl, hbD⟩]
      rfl
    refine wp_tok (S' := (p0 + 1 + 3 + 3 + 1 + 3 + 1 + 1 + 3 + 1 + 1 + 1 + 3, cpL ((i + 1 : Nat) : Int), [], 212, hup h D i (h S i))) ho ?_ rfl (fun ho => ?_)
    · show (if (0 : Nat) = 0 ∧ 1 < mml k then some (p0 + 1 + 3 + 3 + 1 + 3 + 1 + 1 + 3 + 1 + 1 + 1 + 3, (1, (0, w32 ((i : Int) + 1))) :: bkeep 0 1 (cpL i), [], 212, hup h D i (h S i)) else none) = _
      rw [if_pos ⟨rfl, mk⟩, w32_id (by unfold in32; omega), show ((i : Int) + 1) = ((i + 1 : Nat) : Int) by omega]
      rfl
    refine wp_tok (S' := (p0, cpL ((i + 1 : Nat) : Int), [], 212, hup h D i (h S i))) ho ?_ rfl (fun _ => ?_)
    · show (if 0 ≤ ((p0 + 1 + 3 + 3 + 1 + 3 + 1 + 1 + 3 + 1 + 1 + 1 + 3 : Nat) : Int) + (-22) then some ((((p0 + 1 + 3 + 3 + 1 + 3 + 1 + 1 + 3 + 1 + 1 + 1 + 3 : Nat) : Int) + (-22)).toNat, cpL ((i + 1 : Nat) : Int), [], 212, hup h D i (h S i)) else none) = _
      rw [if_pos (by omega), show (((p0 + 1 + 3 + 3 + 1 + 3 + 1 + 1 + 3 + 1 + 1 + 1 + 3 : Nat) : Int) + (-22)).toNat = p0 by omega]
    have hne : ∀ a j, ¬ (a = D ∧ j = i) → hup h D i (h S i) a j = h a j := fun a j q => if_neg q
    refine ih (i + 1) (hup h D i (h S i)) (by omega) (by rw [hne _ _ (fun q => ne1 q.1.symm)]; exact h1) (by rw [hne _ _ (fun q => ne1 q.1.symm)]; exact h2) (fun ho2 h' a b => hq ho2 h' (fun j j1 j2 => ?_) (fun x j q => ?_))
    · by_cases e : j = i
      · subst e
        rw [b D j (fun q => by omega)]
        exact if_pos ⟨rfl, rfl⟩
      · rw [a j (by omega) j2, hne _ _ (fun q => ne2 q.1.symm)]
    · rw [b x j (fun q2 => q ⟨q2.1, by omega, q2.2.2⟩)]
      exact hne _ _ (fun q2 => q ⟨q2.1, by omega, by omega⟩)
end CP
/-- the copy's contract: the entry's unknowns alone; the places behind are the places ahead -/
def cpQ (D S : Nat) (z : Bool) (C : aC) (q : (Nat × Nat) × Fm) : Bool := if q.1.1 = D then decide (q.1.2 < 1984) && decide (clook S q.1.2 (cC C) = some q.2) else if q.1 = (193, 2) ∧ z = true then decide (q.2 = (1, [])) else decide (clook q.1.1 q.1.2 (cC C) = some q.2)
def cpTy (q : Nat × Nat) (C : aC) (f : Fm) : Bool := isIn (tyP (PofW gT none false) q.1 q.2).1 (tyP (PofW gT none false) q.1 q.2).2 (iv (eC C) f)
def cpU (D S : Nat) (z : Bool) (C E : aC) (q : (Nat × Nat) × Fm) : Bool := ((q.1.1 == D || (q.1 == (193, 2) && z)) || (cpTy q.1 C q.2 || (clook q.1.1 q.1.2 (cC E)).isSome)) && (!(q.1.1 == S) || (cpTy (D, q.1.2) C q.2 || (clook D q.1.2 (cC E)).isSome))
def cpE (D S : Nat) (z : Bool) (xs : List Fm) (C E : aC) : Bool := decide (eC E = eC C) && (decide (nC C = 212) && (decide (nC E = 212) && (((fC E).all fun f => decide (f ∈ xs ++ fC C)) && (((cC E).all (cpQ D S z C)) && ((cC C).all (cpU D S z C E))))))
theorem cp_core {L : bC} {w : aW} {D S : Nat} {z : Bool} {xs : List Fm} {C E : aC} {ρ : Nat → Int} {h h' : bH} (hq : core (PofW gT w false) L h ρ h C) (hE : cpE D S z xs C E = true) (hx : ∀ f ∈ xs, wfF (eC C).length f ∧ ev ρ f ≤ 0) (hty : ∀ j, j < 1984 → (tyP (PofW gT none false) D j).1 ≤ (tyP (PofW gT none false) S j).1 ∧ (tyP (PofW gT none false) S j).2 ≤ (tyP (PofW gT none false) D j).2) (hsh : sh D = (0, 1984) ∧ sh S = (0, 1984) ∧ S < 212 ∧ D ≠ S ∧ D ≠ 193) (hz : (tyP (PofW gT none false) 193 2).1 ≤ 1 ∧ 1 ≤ (tyP (PofW gT none false) 193 2).2)
    (c1 : ∀ j, j < 1984 → h' D j = h S j) (c2 : z = true → h' 193 2 = 1) (c3 : ∀ a j, ¬ (a = D ∧ j < 1984) → ¬ (a = 193 ∧ j = 2 ∧ z = true) → h' a j = h a j) (hw : ∀ a j, wrF w a j = false → h' a j = h a j) : core (PofW gT w false) L h ρ h' E := by
  unfold cpE at hE
  simp only [Bool.and_eq_true, decide_eq_true_eq] at hE
  obtain ⟨e1, e2, e3, e4, e5, e6⟩ := hE
  obtain ⟨q1, q2, q3, q4, q5, q6⟩ := hq
  have hT : ∀ a j, tyP (PofW gT w false) a j = tyP (PofW gT none false) a j := fun _ _ => rfl
  have hin : ∀ (p : Nat × Nat) (f : Fm), wfF (eC C).length f → cpTy p C f = true → (tyP (PofW gT none false) p.1 p.2).1 ≤ ev ρ f ∧ ev ρ f ≤ (tyP (PofW gT none false) p.1 p.2).2 := fun p f hf ht => by
    have a := isIn_x ht
    have b := iv_ok q1 hf
    omega
  refine ⟨by rw [e1]; exact q1, fun f hf => ?_, fun c hc => ?_, fun a j ha hj hn => ?_, hw, fun hp => by cases hp⟩
  · rw [e1]
    have := of_decide_eq_true (List.all_eq_true.mp e4 f hf)
    rcases List.mem_append.mp this with m | m
    · exact hx f m
    · exact q2 f m
  · have := List.all_eq_true.mp e5 c hc
    unfold cpQ at this
    rw [e1]
    split at this
    · rename_i e
      rw [Bool.and_eq_true, decide_eq_true_eq, decide_eq_true_eq] at this
      have m := q3 _ (clook_some this.2)
      refine ⟨m.1, ?_⟩
      rw [e, c1 _ this.1]
      exact m.2
    · rename_i e
      split at this
      · rename_i e2
        rw [of_decide_eq_true this]
        refine ⟨wf_con _ 1, ?_⟩
        rw [e2.1]
        show h' 193 2 = ev ρ (fcon 1)
        rw [c2 e2.2, fcon_ev]
      · rename_i e2
        have m := q3 _ (clook_some (of_decide_eq_true this))
        refine ⟨m.1, ?_⟩
        rw [c3 _ _ (fun q => e q.1) (fun q => e2 ⟨Prod.ext q.1 q.2.1, q.2.2⟩)]
        exact m.2
  · rw [hT]
    rw [e3] at ha
    have nsome : ∀ x y, (x, y) = (a, j) → ¬ (clook x y (cC E)).isSome = true := fun x y e hs => by
      cases hk : clook x y (cC E) with
      | none => rw [hk] at hs; cases hs
      | some f => exact hn _ (clook_some hk) e
    by_cases eD : a = D
    · subst eD
      have hj : j < 1984 := by rw [hsh.1] at hj; exact hj
      rw [c1 j hj]
      by_cases hc : ∀ c ∈ cC C, c.1 ≠ (S, j)
      · have t := q4 S j (by rw [e2]; exact hsh.2.2.1) (by rw [hsh.2.1]; exact hj) hc
        rw [hT] at t
        have := hty j hj
        omega
      · simp only [Classical.not_forall, ne_eq, Classical.not_not] at hc
        obtain ⟨c, hm, he⟩ := hc
        have u := List.all_eq_true.mp e6 c hm
        unfold cpU at u
        rw [Bool.and_eq_true] at u
        have m := q3 c hm
        rw [he] at m
        have v := u.2
        rw [he] at v
        simp only [beq_self_eq_true, Bool.not_true, Bool.false_or, Bool.or_eq_true] at v
        rcases v with v | v
        · have := hin (a, j) c.2 m.1 v
          rw [m.2]
          exact this
        · exact absurd v (nsome a j rfl)
    · by_cases eZ : a = 193 ∧ j = 2 ∧ z = true
      · obtain ⟨rfl, rfl, ez⟩ := eZ
        rw [c2 ez]
        exact hz
      · rw [c3 a j (fun q => eD q.1) eZ]
        by_cases hc : ∀ c ∈ cC C, c.1 ≠ (a, j)
        · have t := q4 a j (by rw [e2]; exact ha) hj hc
          rw [hT] at t
          exact t
        · simp only [Classical.not_forall, ne_eq, Classical.not_not] at hc
          obtain ⟨c, hm, he⟩ := hc
          have u := List.all_eq_true.mp e6 c hm
          unfold cpU at u
          rw [Bool.and_eq_true] at u
          have m := q3 c hm
          rw [he] at m
          have v := u.1
          rw [he] at v
          simp only [Bool.or_eq_true, Bool.and_eq_true, beq_iff_eq, Prod.mk.injEq] at v
          rcases v with (v | v) | (v | v)
          · exact absurd v eD
          · exact absurd ⟨v.1.1, v.1.2, v.2⟩ eZ
          · have := hin (a, j) c.2 m.1 v
            rw [m.2]
            exact this
          · exact absurd v (nsome a j rfl)
/-- nothing written: what is known behind is known ahead, or lies in its range -/
def smE (xs : List Fm) (C E : aC) : Bool := decide (eC E = eC C) && (decide (nC E = nC C) && (((fC E).all fun f => decide (f ∈ xs ++ fC C)) && (((cC E).all fun q => decide (clook q.1.1 q.1.2 (cC C) = some q.2)) && ((cC C).all fun q => cpTy q.1 C q.2 || (clook q.1.1 q.1.2 (cC E)).isSome))))
theorem sm_core {L : bC} {w : aW} {xs : List Fm} {C E : aC} {ρ : Nat → Int} {h : bH} (hq : core (PofW gT w false) L h ρ h C) (hE : smE xs C E = true) (hx : ∀ f ∈ xs, wfF (eC C).length f ∧ ev ρ f ≤ 0) : core (PofW gT w false) L h ρ h E := by
  unfold smE at hE
  simp only [Bool.and_eq_true, decide_eq_true_eq] at hE
  obtain ⟨e1, e3, e4, e5, e6⟩ := hE
  obtain ⟨q1, q2, q3, q4, q5, q6⟩ := hq
  refine ⟨by rw [e1]; exact q1, fun f hf => ?_, fun c hc => ?_, fun a j ha hj hn => ?_, fun _ _ _ => rfl, fun hp => by cases hp⟩
  · rw [e1]
    have := of_decide_eq_true (List.all_eq_true.mp e4 f hf)
    rcases List.mem_append.mp this with m | m
    · exact hx f m
    · exact q2 f m
  · rw [e1]
    exact q3 _ (clook_some (of_decide_eq_true (List.all_eq_true.mp e5 c hc)))
  · rw [e3] at ha
    by_cases hc : ∀ c ∈ cC C, c.1 ≠ (a, j)
    · exact q4 a j ha hj hc
    · simp only [Classical.not_forall, ne_eq, Classical.not_not] at hc
      obtain ⟨c, hm, he⟩ := hc
      have u := List.all_eq_true.mp e6 c hm
      have m := q3 c hm
      rw [he] at m u
      rw [Bool.or_eq_true] at u
      rcases u with v | v
      · have a1 := isIn_x v
        have b1 := iv_ok q1 m.1
        show (tyP (PofW gT none false) a j).1 ≤ _ ∧ _ ≤ (tyP (PofW gT none false) a j).2
        rw [m.2]
        dsimp only at a1 b1
        omega
      · cases hk : clook a j (cC E) with
        | none => rw [hk] at v; cases v
        | some f => exact absurd rfl (hn _ (clook_some hk))
/-- the two arrays' ranges agree, both ways; the object's places -/
theorem ty_kp : ((List.range 1984).all fun j => decide (tyP (PofW gT none false) 195 j = tyP (PofW gT none false) 194 j)) = true := by decide +kernel
theorem ty_kp2 (j : Nat) (hj : j < 1984) : tyP (PofW gT none false) 195 j = tyP (PofW gT none false) 194 j := of_decide_eq_true (List.all_eq_true.mp ty_kp j (List.mem_range.mpr hj))
theorem ty_m : tyP (PofW gT none false) 193 0 = (194, 194) ∧ tyP (PofW gT none false) 193 1 = (195, 195) ∧ (tyP (PofW gT none false) 193 2).1 = 0 ∧ (tyP (PofW gT none false) 193 2).2 = 1 := by decide +kernel
theorem sh_m : sh 194 = (0, 1984) ∧ sh 195 = (0, 1984) ∧ 2 < (sh 193).2 := by decide +kernel
def cpFld (C : aC) : Bool := (cC C).all fun q => decide (q.1 ≠ (193, 0) ∧ q.1 ≠ (193, 1))
theorem fld_m {L : bC} {w : aW} {C : aC} {ρ : Nat → Int} {h : bH} (hq : core (PofW gT w false) L h ρ h C) (hf : cpFld C = true) (hn : nC C = 212) : h 193 0 = 194 ∧ h 193 1 = 195 := by
  have h0 := hq.2.2.2.1 193 0 (by rw [hn]; decide) (by have := sh_m.2.2; omega) (fun c hc e => (of_decide_eq_true (List.all_eq_true.mp hf c hc)).1 e)
  have h1 := hq.2.2.2.1 193 1 (by rw [hn]; decide) (by have := sh_m.2.2; omega) (fun c hc e => (of_decide_eq_true (List.all_eq_true.mp hf c hc)).2 e)
  rw [show tyP (PofW gT w false) 193 0 = (194, 194) from ty_m.1] at h0
  rw [show tyP (PofW gT w false) 193 1 = (195, 195) from ty_m.2.1] at h1
  dsimp only at h0 h1
  omega

theorem kp_tk : tk 295 = (.iconst 0, 1, 0, 0) :: (.istore_n 1, 1, 0, 0) :: cpT 13 705 1346 7 704 1345 [(.aload_n 0, 1, 0, 0), (.iconst 1, 1, 0, 0), (.putfield 381, 3, 706, 1347), (.iconst 1, 1, 0, 0), (.ireturn, 1, 0, 0)] := rfl
theorem ka_tk : tk 296 = (.aload_n 0, 1, 0, 0) :: (.getfield 381, 3, 706, 1347) :: (.ifCond .ne 6, 3, 0, 0) :: (.bipush (-3), 2, 0, 0) :: (.ireturn, 1, 0, 0) :: (.iconst 0, 1, 0, 0) :: (.istore_n 1, 1, 0, 0) :: cpT 7 704 1345 13 705 1346 [(.iconst 1, 1, 0, 0), (.ireturn, 1, 0, 0)] := rfl
theorem kp_ok : cpOK 295 705 704 195 194 = true := by decide +kernel
theorem ka_ok : cpOK 296 704 705 194 195 = true := by decide +kernel
theorem kp_z : bobj 706 212 193 = true ∧ kOf (fkd (706 / 64) (706 % 64)) = 0 ∧ bfin (706 / 64) (706 % 64) = false ∧ 706 % 64 = 2 := by decide +kernel
theorem kp_r : mret 295 = some .int ∧ mret 296 = some .int := ⟨rfl, rfl⟩
def kpB (c : aCt) : Bool := decide (ctK c = 295) && (decide (ctW c = some [(193, 2, 3), (195, 0, 1984)]) && (!(ctS c) && (decide (ctA c = [(2, ((193, []) : Fm))]) && (decide (nC (ctC c) = 212) && (cpFld (ctC c) && (match ctP c with
  | [(E, some v)] => decide (v = (0, ((1, []) : Fm))) && cpE 195 194 true [] (ctC c) E
  | _ => false))))))
theorem keep_keeps {c : aCt} (hc : kpB c = true) (hB : BytesOK) (g : bG) (l : Launch) : Keeps g l gT c := by
  obtain ⟨k, lev, w, s, C, A, P⟩ := c
  unfold kpB at hc
  simp only [Bool.and_eq_true] at hc
  obtain ⟨k1, k2, k3, k4, k5, k6, k7⟩ := hc
  have j1 : k = 295 := of_decide_eq_true k1
  have j2 : w = some [(193, 2, 3), (195, 0, 1984)] := of_decide_eq_true k2
  have j3 : s = false := by
    have k3 : (!s) = true := k3
    simpa using k3
  have j4 : A = [(2, ((193, []) : Fm))] := of_decide_eq_true k4
  have j5 : nC C = 212 := of_decide_eq_true k5
  have j6 : cpFld C = true := k6
  subst j1 j2 j3 j4
  rcases P with _ | ⟨⟨E, _ | v⟩, _ | ⟨p2, P⟩⟩
  · exact absurd k7 (by simp)
  · exact absurd k7 (by simp)
  · exact absurd k7 (by simp)
  · have k7 : (decide (v = (0, ((1, []) : Fm))) && cpE 195 194 true [] C E) = true := k7
    rw [Bool.and_eq_true] at k7
    have kv := of_decide_eq_true k7.1
    subst kv
    have kE := k7.2
    have nE : nC E = 212 := by
      have := kE
      unfold cpE at this
      simp only [Bool.and_eq_true, decide_eq_true_eq] at this
      exact this.2.2.1
    intro d hl ρ h Q hcr hQ
    have hcr : core (PofW gT (some [(193, 2, 3), (195, 0, 1984)]) false) (gsc g) h ρ h C := hcr
    obtain ⟨f0, f1⟩ := fld_m hcr j6 j5
    show MH g l d 295 (nC C) (nC E) (evS ρ [(2, ((193, []) : Fm))]) h Q
    rw [j5, nE]
    have ml : 1 < mml 295 := by decide +kernel
    refine mh_of (hB.2 295 (by decide)) (by show stw [(2, ev ρ ((193, []) : Fm))] ≤ mml 295; show 1 + 0 ≤ mml 295; omega) (Nat.le_refl _) ?_
    have ho := hB.1 295
    rw [kp_tk] at ho
    have e0 : largs 0 (evS ρ [(2, ((193, []) : Fm))]) = [(0, (2, 193))] := by
      show [(0, (2, ev ρ (fcon 193)))] = _
      rw [fcon_ev]
    rw [e0]
    refine wp_tok (S' := (1, [(0, (2, 193))], [(0, 0)], 212, h)) ho rfl rfl (fun ho => ?_)
    refine wp_tok (S' := (2, cpL ((0 : Nat) : Int), [], 212, h)) ho ?_ rfl (fun ho => ?_)
    · show (if (0 : Nat) = 0 ∧ 1 + (if (0 : Nat) = 1 then 1 else 0) < mml 295 then some (1 + 1, (1, (0, 0)) :: bkeep 0 1 [(0, (2, 193))], [], 212, h) else none) = _
      rw [if_pos ⟨rfl, by simpa using ml⟩]
      rfl
    refine cp_loop (D := 195) (S := 194) ho kp_ok 1984 0 h rfl f1 f0 (fun ho h1 a b => ?_)
    refine wp_tok (S' := (28, cpL 1984, [(2, 193)], 212, h1)) ho rfl rfl (fun ho => ?_)
    refine wp_tok (S' := (29, cpL 1984, [(0, 1), (2, 193)], 212, h1)) ho rfl rfl (fun ho => ?_)
    refine wp_tok (S' := (32, cpL 1984, [], 212, hup h1 193 2 1)) ho ?_ rfl (fun ho => ?_)
    · show (if (2 : Nat) = 2 ∧ bobj 706 212 193 = true ∧ (0 : Nat) = kOf (fkd (706 / 64) (706 % 64)) ∧ (fkd (706 / 64) (706 % 64) = 3 → (0 : Int) ≤ 1 ∧ (1 : Int) ≤ 1) ∧ (bfin (706 / 64) (706 % 64) = true → (mname 295).name = "<init>") then some (29 + 3, cpL 1984, [], 212, hup h1 (193 : Int).toNat (706 % 64) 1) else none) = _
      rw [if_pos ⟨rfl, kp_z.1, kp_z.2.1.symm, fun _ => ⟨by decide, by decide⟩, fun e => by rw [kp_z.2.2.1] at e; cases e⟩]
      rfl
    refine wp_tok (S' := (33, cpL 1984, [(0, 1)], 212, hup h1 193 2 1)) ho rfl rfl (fun ho => ?_)
    refine wp_ret (r := some (0, 1)) (okL_c ho).1 rfl rfl (by rw [kp_r.1]; trivial) (hQ _ _ ?_)
    have hn : ∀ x j, ¬ (x = 193 ∧ j = 2) → hup h1 193 2 1 x j = h1 x j := fun x j q => if_neg q
    refine ⟨(E, some (0, (1, []))), List.mem_singleton.mpr rfl, ρ, fun _ _ => rfl, ?_, ?_⟩
    · refine cp_core (D := 195) (S := 194) (z := true) (xs := []) hcr kE (fun f hf => by cases hf) (fun j hj => by rw [ty_kp2 j hj]; exact ⟨Int.le_refl _, Int.le_refl _⟩) ⟨sh_m.2.1, sh_m.1, by decide, by decide, by decide⟩ (by rw [ty_m.2.2.1, ty_m.2.2.2]; decide) (fun j hj => ?_) (fun _ => if_pos ⟨rfl, rfl⟩) (fun x j q1 q2 => ?_) (fun x j q => ?_)
      · rw [hn 195 j (fun q => absurd q.1 (by decide))]
        exact a j (Nat.zero_le _) hj
      · rw [hn x j (fun q => q2 ⟨q.1, q.2, rfl⟩)]
        exact b x j (fun q => q1 ⟨q.1, q.2.2⟩)
      · have q : ((193 == x && (decide (2 ≤ j) && decide (j < 3))) || ((195 == x && (decide (0 ≤ j) && decide (j < 1984))) || false)) = false := q
        simp only [Bool.or_eq_false_iff, Bool.and_eq_false_iff, beq_eq_false_iff_ne, decide_eq_false_iff_not] at q
        rw [hn x j (fun e => by rcases q.1 with z | z | z <;> omega)]
        exact b x j (fun e => by rcases q.2.1 with z | z | z <;> omega)
    · show some ((0 : Nat), (1 : Int)) = some (0, ev ρ (fcon 1))
      rw [fcon_ev]
  · exact absurd k7 (by simp)
def kaB (c : aCt) : Bool := decide (ctK c = 296) && (decide (ctW c = some [(194, 0, 1984)]) && (!(ctS c) && (decide (ctA c = [(2, ((193, []) : Fm))]) && (decide (nC (ctC c) = 212) && (cpFld (ctC c) && (match clook 193 2 (cC (ctC c)), ctP c with
  | some f, [(E0, some v0), (E1, some v1)] => isIn 0 1 (iv (eC (ctC c)) f) && (decide (v0 = (0, (((-3), []) : Fm))) && (decide (v1 = (0, ((1, []) : Fm))) && (smE [f] (ctC c) E0 && cpE 194 195 false [fsub (fcon 1) f] (ctC c) E1)))
  | none, [(E0, some v0), (E1, some v1)] => decide (v0 = (0, (((-3), []) : Fm))) && (decide (v1 = (0, ((1, []) : Fm))) && (smE [] (ctC c) E0 && cpE 194 195 false [] (ctC c) E1))
  | _, _ => false))))))
theorem again_keeps {c : aCt} (hc : kaB c = true) (hB : BytesOK) (g : bG) (l : Launch) : Keeps g l gT c := by
  obtain ⟨k, lev, w, s, C, A, P⟩ := c
  unfold kaB at hc
  simp only [Bool.and_eq_true] at hc
  obtain ⟨k1, k2, k3, k4, k5, k6, k7⟩ := hc
  have j1 : k = 296 := of_decide_eq_true k1
  have j2 : w = some [(194, 0, 1984)] := of_decide_eq_true k2
  have j3 : s = false := by
    have k3 : (!s) = true := k3
    simpa using k3
  have j4 : A = [(2, ((193, []) : Fm))] := of_decide_eq_true k4
  have j5 : nC C = 212 := of_decide_eq_true k5
  have j6 : cpFld C = true := k6
  subst j1 j2 j3 j4
  -- both shapes: what is known of the flag, as facts
  have main : ∀ (xs0 xs1 : List Fm) (E0 E1 : aC), P = [(E0, some (0, ((-3), []))), (E1, some (0, (1, [])))] → smE xs0 C E0 = true → cpE 194 195 false xs1 C E1 = true → (∀ (L : bC) (ρ : Nat → Int) (h : bH), core (PofW gT (some [(194, 0, 1984)]) false) L h ρ h C → h 193 2 = 0 → ∀ f ∈ xs0, wfF (eC C).length f ∧ ev ρ f ≤ 0) → (∀ (L : bC) (ρ : Nat → Int) (h : bH), core (PofW gT (some [(194, 0, 1984)]) false) L h ρ h C → 1 ≤ h 193 2 → ∀ f ∈ xs1, wfF (eC C).length f ∧ ev ρ f ≤ 0) → (∀ (L : bC) (ρ : Nat → Int) (h : bH), core (PofW gT (some [(194, 0, 1984)]) false) L h ρ h C → 0 ≤ h 193 2 ∧ h 193 2 ≤ 1) → Keeps g l gT (296, lev, some [(194, 0, 1984)], false, C, [(2, ((193, []) : Fm))], P) := by
    intro xs0 xs1 E0 E1 hP s0 s1 x0 x1 hr
    subst hP
    have nE : nC E0 = 212 := by
      have := s0
      unfold smE at this
      simp only [Bool.and_eq_true, decide_eq_true_eq] at this
      rw [this.2.1, j5]
    intro d hl ρ h Q hcr hQ
    have hcr : core (PofW gT (some [(194, 0, 1984)]) false) (gsc g) h ρ h C := hcr
    obtain ⟨f0, f1⟩ := fld_m hcr j6 j5
    have hb := hr _ ρ h hcr
    show MH g l d 296 (nC C) (nC E0) (evS ρ [(2, ((193, []) : Fm))]) h Q
    rw [j5, nE]
    have ml : 1 < mml 296 := by decide +kernel
    refine mh_of (hB.2 296 (by decide)) (by show 1 + 0 ≤ mml 296; omega) (Nat.le_refl _) ?_
    have ho := hB.1 296
    rw [ka_tk] at ho
    have e0 : largs 0 (evS ρ [(2, ((193, []) : Fm))]) = [(0, (2, 193))] := by
      show [(0, (2, ev ρ (fcon 193)))] = _
      rw [fcon_ev]
    rw [e0]
    refine wp_tok (S' := (1, [(0, (2, 193))], [(2, 193)], 212, h)) ho rfl rfl (fun ho => ?_)
    refine wp_tok (S' := (4, [(0, (2, 193))], [(0, h 193 2)], 212, h)) ho ?_ rfl (fun ho => ?_)
    · show (if (2 : Nat) = 2 ∧ bobj 706 212 193 = true then some (1 + 3, [(0, (2, 193))], (kOf (fkd (706 / 64) (706 % 64)), h (193 : Int).toNat (706 % 64)) :: [], 212, h) else none) = _
      rw [if_pos ⟨rfl, kp_z.1⟩, kp_z.2.1]
      rfl
    by_cases e : h 193 2 = 0
    · refine wp_tok (S' := (7, [(0, (2, 193))], [], 212, h)) ho ?_ rfl (fun ho => ?_)
      · show (if (0 : Nat) = 0 ∧ 0 ≤ ((4 : Nat) : Int) + 6 then some (if bcond .ne (h 193 2) 0 = true then (((4 : Nat) : Int) + 6).toNat else 4 + 3, [(0, (2, 193))], [], 212, h) else none) = _
        rw [if_pos ⟨rfl, by decide⟩, if_neg (by simp [bcond, e])]
      refine wp_tok (S' := (9, [(0, (2, 193))], [(0, -3)], 212, h)) ho rfl rfl (fun ho => ?_)
      refine wp_ret (r := some (0, -3)) (okL_c ho).1 rfl rfl (by rw [kp_r.2]; trivial) (hQ _ _ ?_)
      refine ⟨(E0, some (0, ((-3), []))), List.mem_cons_self, ρ, fun _ _ => rfl, sm_core hcr s0 (x0 _ ρ h hcr e), ?_⟩
      show some ((0 : Nat), (-3 : Int)) = some (0, ev ρ (fcon (-3)))
      rw [fcon_ev]
    · refine wp_tok (S' := (10, [(0, (2, 193))], [], 212, h)) ho ?_ rfl (fun ho => ?_)
      · show (if (0 : Nat) = 0 ∧ 0 ≤ ((4 : Nat) : Int) + 6 then some (if bcond .ne (h 193 2) 0 = true then (((4 : Nat) : Int) + 6).toNat else 4 + 3, [(0, (2, 193))], [], 212, h) else none) = _
        rw [if_pos ⟨rfl, by decide⟩, if_pos (by simp [bcond, e])]
        rfl
      have ho := (okL_c ho).2.2
      have ho := (okL_c ho).2.2
      refine wp_tok (S' := (11, [(0, (2, 193))], [(0, 0)], 212, h)) ho rfl rfl (fun ho => ?_)
      refine wp_tok (S' := (12, cpL ((0 : Nat) : Int), [], 212, h)) ho ?_ rfl (fun ho => ?_)
      · show (if (0 : Nat) = 0 ∧ 1 + (if (0 : Nat) = 1 then 1 else 0) < mml 296 then some (11 + 1, (1, (0, 0)) :: bkeep 0 1 [(0, (2, 193))], [], 212, h) else none) = _
        rw [if_pos ⟨rfl, by simpa using ml⟩]
        rfl
      refine cp_loop (D := 194) (S := 195) ho ka_ok 1984 0 h rfl f0 f1 (fun ho h1 a b => ?_)
      refine wp_tok (S' := (38, cpL 1984, [(0, 1)], 212, h1)) ho rfl rfl (fun ho => ?_)
      refine wp_ret (r := some (0, 1)) (okL_c ho).1 rfl rfl (by rw [kp_r.2]; trivial) (hQ _ _ ?_)
      refine ⟨(E1, some (0, (1, []))), List.mem_cons_of_mem _ (List.mem_singleton.mpr rfl), ρ, fun _ _ => rfl, ?_, ?_⟩
      · refine cp_core (D := 194) (S := 195) (z := false) (xs := xs1) hcr s1 (x1 _ ρ h hcr (by omega)) (fun j hj => by rw [ty_kp2 j hj]; exact ⟨Int.le_refl _, Int.le_refl _⟩) ⟨sh_m.1, sh_m.2.1, by decide, by decide, by decide⟩ (by rw [ty_m.2.2.1, ty_m.2.2.2]; decide) (fun j hj => a j (Nat.zero_le _) hj) (fun z => by cases z) (fun x j q1 q2 => b x j (fun q => q1 ⟨q.1, q.2.2⟩)) (fun x j q => ?_)
        have q : ((194 == x && (decide (0 ≤ j) && decide (j < 1984))) || false) = false := q
        simp only [Bool.or_eq_false_iff, Bool.and_eq_false_iff, beq_eq_false_iff_ne, decide_eq_false_iff_not] at q
        exact b x j (fun e => by rcases q.1 with z | z | z <;> omega)
      · show some ((0 : Nat), (1 : Int)) = some (0, ev ρ (fcon 1))
        rw [fcon_ev]
  have rng : ∀ (f : Fm), clook 193 2 (cC C) = some f → ∀ (L : bC) (ρ : Nat → Int) (h : bH), core (PofW gT (some [(194, 0, 1984)]) false) L h ρ h C → h 193 2 = ev ρ f ∧ wfF (eC C).length f := fun f hf L ρ h q => ⟨(q.2.2.1 _ (clook_some hf)).2, (q.2.2.1 _ (clook_some hf)).1⟩
  split at k7
  · rename_i f E0 v0 E1 v1 hf hP
    have hf : clook 193 2 (cC C) = some f := hf
    have hP : P = [(E0, some v0), (E1, some v1)] := hP
    simp only [Bool.and_eq_true, decide_eq_true_eq] at k7
    obtain ⟨cu, rfl, rfl, s0, s1⟩ := k7
    have cu : isIn 0 1 (iv (eC C) f) = true := cu
    refine main [f] [fsub (fcon 1) f] E0 E1 hP s0 s1 (fun L ρ h q e f' hf' => ?_) (fun L ρ h q e f' hf' => ?_) (fun L ρ h q => ?_)
    · cases List.mem_singleton.mp hf'
      have := rng f hf L ρ h q
      exact ⟨this.2, by omega⟩
    · cases List.mem_singleton.mp hf'
      have := rng f hf L ρ h q
      exact ⟨wf_sub (wf_con _ _) this.2, by rw [fsub_ev, fcon_ev]; omega⟩
    · have := rng f hf L ρ h q
      have a := isIn_x cu
      have b := iv_ok q.1 this.2
      omega
  · rename_i E0 v0 E1 v1 hf hP
    have hf : clook 193 2 (cC C) = none := hf
    have hP : P = [(E0, some v0), (E1, some v1)] := hP
    simp only [Bool.and_eq_true, decide_eq_true_eq] at k7
    obtain ⟨rfl, rfl, s0, s1⟩ := k7
    refine main [] [] E0 E1 hP s0 s1 (fun L ρ h q e f' hf' => by cases hf') (fun L ρ h q e f' hf' => by cases hf') (fun L ρ h q => ?_)
    have := q.2.2.2.1 193 2 (by rw [j5]; decide) sh_m.2.2 (clook_none hf)
    rw [show tyP (PofW gT (some [(194, 0, 1984)]) false) 193 2 = tyP (PofW gT none false) 193 2 from rfl, ty_m.2.2.1, ty_m.2.2.2] at this
    exact this
  · cases k7
