/-! THE RELATION -/
def pc_mach : Pc := (fun h t D => ∀ i : Nat, i < 6 → h (32 + t) i = h D (582 + i), [(32, 0, 6)], [(582, 588)])
theorem pc_mach_ok : PcOK pc_mach := fun h h' t t' D D' hc hd q i hi => by
  have q : ∀ i : Nat, i < 6 → h (32 + t) i = h D (582 + i) := q
  show h' (32 + t') i = h' D' (582 + i)
  rw [hc 32 i (wr_in (lo := 0) (hi := 6) (by decide) (Nat.zero_le _) hi), hd (582 + i) (List.any_eq_true.mpr ⟨(582, 588), by decide, by simp; omega⟩)]
  exact q i hi
def pc_cross : Pc := (fun h t D => ∀ o : Nat, o < 8 → ∀ m : Nat, m < 6 → h D (588 + 6 * o + m) = if bitB (h (33 + t) o) m = true then 1 else 0, [(33, 0, 8)], [(588, 636)])
theorem pc_cross_ok : PcOK pc_cross := fun h h' t t' D D' hc hd q o ho m hm => by
  have q : ∀ o : Nat, o < 8 → ∀ m : Nat, m < 6 → h D (588 + 6 * o + m) = if bitB (h (33 + t) o) m = true then 1 else 0 := q
  show h' D' (588 + 6 * o + m) = if bitB (h' (33 + t') o) m = true then 1 else 0
  rw [hc 33 o (wr_in (lo := 0) (hi := 8) (by decide) (Nat.zero_le _) ho), hd (588 + 6 * o + m) (List.any_eq_true.mpr ⟨(588, 636), by decide, by simp; omega⟩)]
  exact q o ho m hm
def PS : List Pc := [pc_mach, pc_cross]
def GS : List Gc := []
theorem PS_ok : ∀ c ∈ PS, PcOK c := (List.forall_mem_cons.mpr ⟨pc_mach_ok, (List.forall_mem_cons.mpr ⟨pc_cross_ok, (fun _ hc => by cases hc)⟩)⟩)
theorem GS_ok : ∀ c ∈ GS, GcOK c := (fun _ hc => by cases hc)
theorem rel_machine {ρ : Nat → Int} {h h1 h2 : bH} {r1 r2 : Option bV} (q : RR PS GS h) (s1 : s_machineB (evS ρ [(2, fcon 0), (0, fid 3), (0, fid 4)]) h r1 h1) (s2 : s_machineM (evS ρ [(2, fcon 193), (0, fid 3), (0, fid 4)]) h1 r2 h2) : RR PS GS h2 ∧ r1 = r2 := by
  have ht : TH h := s1.1
  have qm : ∀ i : Nat, i < 6 → h 32 i = h 194 (582 + i) := (q.2.1 pc_mach (List.Mem.head _)).1
  have t1 := s1.2 (ρ 3) (ρ 4) (h 32 (ρ 3).toNat) (show [((2 : Nat), ev ρ (fcon 0)), (0, ev ρ (fid 3)), (0, ev ρ (fid 4))] = [(2, ((0 : Nat) : Int)), (0, (ρ 3)), (0, (ρ 4))] from by rw [fcon_ev, fid_ev, fid_ev]; rfl) rfl
  rcases t1 with ⟨k1, rfl, rfl⟩ | ⟨k1, rfl, rfl⟩
  · have t2 := s2.2 (ρ 3) (ρ 4) (h 194 (582 + (ρ 3).toNat)) (show [((2 : Nat), ev ρ (fcon 193)), (0, ev ρ (fid 3)), (0, ev ρ (fid 4))] = [(2, ((193 : Nat) : Int)), (0, (ρ 3)), (0, (ρ 4))] from by rw [fcon_ev, fid_ev, fid_ev]; rfl) rfl
    rcases t2 with ⟨k2, rfl, rfl⟩ | ⟨k2, rfl, rfl⟩
    · exact ⟨q, rfl⟩
    · exfalso; omega
  · have t2 := s2.2 (ρ 3) (ρ 4) (h 194 (582 + (ρ 3).toNat)) (show [((2 : Nat), ev ρ (fcon 193)), (0, ev ρ (fid 3)), (0, ev ρ (fid 4))] = [(2, ((193 : Nat) : Int)), (0, (ρ 3)), (0, (ρ 4))] from by rw [fcon_ev, fid_ev, fid_ev]; rfl) ((hup_ne (by decide)).trans rfl)
    rcases t2 with ⟨k2, rfl, rfl⟩ | ⟨k2, rfl, rfl⟩
    · exfalso; omega
    · skip
      obtain ⟨m', e_m9⟩ : ∃ q : Nat, (ρ 3).toNat = q := ⟨_, rfl⟩
      rw [e_m9]
      obtain ⟨H, hH⟩ : ∃ H : bH, H = (hup (hup h 32 (m') ((ρ 4))) 194 ((582 + m')) ((ρ 4))) := ⟨_, rfl⟩
      rw [← hH]
      have fr : ∀ a j, wrF (some [(32, 0, 6), (194, 582, 588)]) a j = false → H a j = h a j := by rw [hH]; exact (fr_up (fr_up (fun _ _ _ => rfl) (wr_in (lo := 0) (hi := 6) (by decide) (by omega) (by omega))) (wr_in (lo := 582) (hi := 588) (by decide) (by omega) (by omega)))
      have x0 : H 32 m' = ρ 4 := by rw [hH]; exact ((hup_ne (by decide)).trans hup_eq)
      have y0 : H 194 (582 + m') = ρ 4 := by rw [hH]; exact hup_eq
      have p_mach : pc_mach.1 H 0 194 := by
        intro i hi
        show H 32 i = H 194 (582 + i)
        by_cases e : i = m'
        · rw [e]
          exact x0.trans y0.symm
        · rw [show H 32 i = h 32 i from by rw [hH]; exact ((hup_ne (by decide)).trans (hup_nj (by omega))), show H 194 (582 + i) = h 194 (582 + i) from by rw [hH]; exact ((hup_nj (by omega)).trans (hup_ne (by decide)))]
          exact qm i hi
      exact ⟨RR_op PS_ok GS_ok fr (by decide +kernel) (List.forall_mem_cons.mpr ⟨⟨by decide +kernel, Or.inr p_mach⟩, (List.forall_mem_cons.mpr ⟨⟨by decide +kernel, Or.inl (by decide +kernel)⟩, (fun _ hc => by cases hc)⟩)⟩) (fun _ hc => by cases hc) q, (by rw [qm m' (by omega)])⟩
theorem rel_crossed0 {ρ : Nat → Int} {h h1 h2 : bH} {r1 r2 : Option bV} (q : RR PS GS h) (s1 : s_crossedB (evS ρ [(2, fcon 0), (0, fid 3), (0, fid 4), (0, fcon 0)]) h r1 h1) (s2 : s_crossedM (evS ρ [(2, fcon 193), (0, fid 3), (0, fid 4), (0, fcon 0)]) h1 r2 h2) : RR PS GS h2 ∧ r1 = r2 := by
  have ht : TH h := s1.1
  have qx : ∀ o : Nat, o < 8 → ∀ m : Nat, m < 6 → h 194 (588 + 6 * o + m) = if bitB (h 33 o) m = true then 1 else 0 := (q.2.1 pc_cross (List.Mem.tail _ (List.Mem.head _))).1
  have qr : ∀ o : Nat, o < 8 → ∀ m : Nat, m < 6 → 0 ≤ h 194 (588 + 6 * o + m) ∧ h 194 (588 + 6 * o + m) ≤ 1 := fun o ho m hm => ty_cx ht (by omega) (by omega)
  have t1 := s1.2 (ρ 3) (ρ 4) (0) (h 33 (ρ 3).toNat) (show [((2 : Nat), ev ρ (fcon 0)), (0, ev ρ (fid 3)), (0, ev ρ (fid 4)), (0, ev ρ (fcon (0)))] = [(2, ((0 : Nat) : Int)), (0, (ρ 3)), (0, (ρ 4)), (0, (0))] from by rw [fcon_ev, fid_ev, fid_ev]; rfl) rfl
  rcases t1 with ⟨k1, rfl, rfl⟩ | ⟨k1, rfl, rfl⟩ | ⟨k1, rfl, rfl⟩ | ⟨k1, rfl, rfl⟩ | ⟨k1, rfl, rfl⟩
  · have t2 := s2.2 (ρ 3) (ρ 4) (0) (h 194 (588 + 6 * (ρ 3).toNat + (ρ 4).toNat)) (show [((2 : Nat), ev ρ (fcon 193)), (0, ev ρ (fid 3)), (0, ev ρ (fid 4)), (0, ev ρ (fcon (0)))] = [(2, ((193 : Nat) : Int)), (0, (ρ 3)), (0, (ρ 4)), (0, (0))] from by rw [fcon_ev, fid_ev, fid_ev, fcon_ev]; rfl) rfl
    rcases t2 with ⟨k2, rfl, rfl⟩ | ⟨k2, rfl, rfl⟩ | ⟨k2, rfl, rfl⟩
    · exact ⟨q, rfl⟩
    · exfalso; omega
    · exfalso; omega
  · have t2 := s2.2 (ρ 3) (ρ 4) (0) (h 194 (588 + 6 * (ρ 3).toNat + (ρ 4).toNat)) (show [((2 : Nat), ev ρ (fcon 193)), (0, ev ρ (fid 3)), (0, ev ρ (fid 4)), (0, ev ρ (fcon (0)))] = [(2, ((193 : Nat) : Int)), (0, (ρ 3)), (0, (ρ 4)), (0, (0))] from by rw [fcon_ev, fid_ev, fid_ev, fcon_ev]; rfl) ((hup_ne (by decide)).trans rfl)
    rcases t2 with ⟨k2, rfl, rfl⟩ | ⟨k2, rfl, rfl⟩ | ⟨k2, rfl, rfl⟩
    · exfalso; omega
    · exfalso; omega
    · exfalso; omega
  · have t2 := s2.2 (ρ 3) (ρ 4) (0) (h 194 (588 + 6 * (ρ 3).toNat + (ρ 4).toNat)) (show [((2 : Nat), ev ρ (fcon 193)), (0, ev ρ (fid 3)), (0, ev ρ (fid 4)), (0, ev ρ (fcon (0)))] = [(2, ((193 : Nat) : Int)), (0, (ρ 3)), (0, (ρ 4)), (0, (0))] from by rw [fcon_ev, fid_ev, fid_ev, fcon_ev]; rfl) ((hup_ne (by decide)).trans rfl)
    rcases t2 with ⟨k2, rfl, rfl⟩ | ⟨k2, rfl, rfl⟩ | ⟨k2, rfl, rfl⟩
    · exfalso; omega
    · exfalso; omega
    · exfalso; omega
  · have t2 := s2.2 (ρ 3) (ρ 4) (0) (h 194 (588 + 6 * (ρ 3).toNat + (ρ 4).toNat)) (show [((2 : Nat), ev ρ (fcon 193)), (0, ev ρ (fid 3)), (0, ev ρ (fid 4)), (0, ev ρ (fcon (0)))] = [(2, ((193 : Nat) : Int)), (0, (ρ 3)), (0, (ρ 4)), (0, (0))] from by rw [fcon_ev, fid_ev, fid_ev, fcon_ev]; rfl) ((hup_ne (by decide)).trans rfl)
    rcases t2 with ⟨k2, rfl, rfl⟩ | ⟨k2, rfl, rfl⟩ | ⟨k2, rfl, rfl⟩
    · exfalso; omega
    · exfalso; omega
    · skip
      obtain ⟨o', e_o9⟩ : ∃ q : Nat, (ρ 3).toNat = q := ⟨_, rfl⟩
      rw [e_o9]
      obtain ⟨m', e_m9⟩ : ∃ q : Nat, (ρ 4).toNat = q := ⟨_, rfl⟩
      rw [e_m9]
      have eo : ρ 3 = ((o' : Nat) : Int) := by omega
      have em : ρ 4 = ((m' : Nat) : Int) := by omega
      have g5 := qx o' (by omega) m' (by omega)
      rw [← bit_rd (by omega)] at g5
      have k9 := k1
      rw [e_o9, em] at k9
      have g6 := qr o' (by omega) m' (by omega)
      obtain ⟨H, hH⟩ : ∃ H : bH, H = (hup (hup h 33 (o') (andI ((h 33 o')) (xorI (shlI 1 ((m' : Nat) : Int)) (-1)))) 194 (((588 + (6 * o')) + m')) ((0 : Nat) : Int)) := ⟨_, rfl⟩
      rw [← hH]
      have fr : ∀ a j, wrF (some [(33, 0, 8), (194, 588, 636)]) a j = false → H a j = h a j := by rw [hH]; exact (fr_up (fr_up (fun _ _ _ => rfl) (wr_in (lo := 0) (hi := 8) (by decide) (by omega) (by omega))) (wr_in (lo := 588) (hi := 636) (by decide) (by omega) (by omega)))
      have x0 : H 33 o' = (andI ((h 33 o')) (xorI (shlI 1 ((m' : Nat) : Int)) (-1))) := by rw [hH]; exact ((hup_ne (by decide)).trans hup_eq)
      have y0 : H 194 (588 + 6 * o' + m') = 0 := by rw [hH]; exact hup_eq
      skip
      have p_cross : pc_cross.1 H 0 194 := by
        intro o ho m hm
        show H 194 (588 + 6 * o + m) = if bitB (H 33 o) m = true then 1 else 0
        by_cases e : o = o'
        · rw [e, x0]
          by_cases e2 : m = m'
          · rw [e2, y0, bit_clr (by omega) (by omega), decide_eq_true rfl]
            simp
          · rw [bit_clr (by omega) (by omega), decide_eq_false e2, show H 194 (588 + 6 * o' + m) = h 194 (588 + 6 * o' + m) from by rw [hH]; exact ((hup_nj (by omega)).trans (hup_ne (by decide))), qx o' (by omega) m hm]
            cases bitB (h 33 o') m <;> rfl
        · rw [show H 33 o = h 33 o from by rw [hH]; exact ((hup_ne (by decide)).trans (hup_nj (by omega))), show H 194 (588 + 6 * o + m) = h 194 (588 + 6 * o + m) from by rw [hH]; exact ((hup_nj (by omega)).trans (hup_ne (by decide)))]
          exact qx o ho m hm
      exact ⟨RR_op PS_ok GS_ok fr (by decide +kernel) (List.forall_mem_cons.mpr ⟨⟨by decide +kernel, Or.inl (by decide +kernel)⟩, (List.forall_mem_cons.mpr ⟨⟨by decide +kernel, Or.inr p_cross⟩, (fun _ hc => by cases hc)⟩)⟩) (fun _ hc => by cases hc) q, (congrArg (fun z => some ((0 : Nat), z)) (by omega))⟩
  · have t2 := s2.2 (ρ 3) (ρ 4) (0) (h 194 (588 + 6 * (ρ 3).toNat + (ρ 4).toNat)) (show [((2 : Nat), ev ρ (fcon 193)), (0, ev ρ (fid 3)), (0, ev ρ (fid 4)), (0, ev ρ (fcon (0)))] = [(2, ((193 : Nat) : Int)), (0, (ρ 3)), (0, (ρ 4)), (0, (0))] from by rw [fcon_ev, fid_ev, fid_ev, fcon_ev]; rfl) ((hup_ne (by decide)).trans rfl)
    rcases t2 with ⟨k2, rfl, rfl⟩ | ⟨k2, rfl, rfl⟩ | ⟨k2, rfl, rfl⟩
    · exfalso; omega
    · exfalso; omega
    · skip
      obtain ⟨o', e_o9⟩ : ∃ q : Nat, (ρ 3).toNat = q := ⟨_, rfl⟩
      rw [e_o9]
      obtain ⟨m', e_m9⟩ : ∃ q : Nat, (ρ 4).toNat = q := ⟨_, rfl⟩
      rw [e_m9]
      have eo : ρ 3 = ((o' : Nat) : Int) := by omega
      have em : ρ 4 = ((m' : Nat) : Int) := by omega
      have g5 := qx o' (by omega) m' (by omega)
      rw [← bit_rd (by omega)] at g5
      have k9 := k1
      rw [e_o9, em] at k9
      have g6 := qr o' (by omega) m' (by omega)
      obtain ⟨H, hH⟩ : ∃ H : bH, H = (hup (hup h 33 (o') (andI ((h 33 o')) (xorI (shlI 1 ((m' : Nat) : Int)) (-1)))) 194 (((588 + (6 * o')) + m')) ((0 : Nat) : Int)) := ⟨_, rfl⟩
      rw [← hH]
      have fr : ∀ a j, wrF (some [(33, 0, 8), (194, 588, 636)]) a j = false → H a j = h a j := by rw [hH]; exact (fr_up (fr_up (fun _ _ _ => rfl) (wr_in (lo := 0) (hi := 8) (by decide) (by omega) (by omega))) (wr_in (lo := 588) (hi := 636) (by decide) (by omega) (by omega)))
      have x0 : H 33 o' = (andI ((h 33 o')) (xorI (shlI 1 ((m' : Nat) : Int)) (-1))) := by rw [hH]; exact ((hup_ne (by decide)).trans hup_eq)
      have y0 : H 194 (588 + 6 * o' + m') = 0 := by rw [hH]; exact hup_eq
      skip
      have p_cross : pc_cross.1 H 0 194 := by
        intro o ho m hm
        show H 194 (588 + 6 * o + m) = if bitB (H 33 o) m = true then 1 else 0
        by_cases e : o = o'
        · rw [e, x0]
          by_cases e2 : m = m'
          · rw [e2, y0, bit_clr (by omega) (by omega), decide_eq_true rfl]
            simp
          · rw [bit_clr (by omega) (by omega), decide_eq_false e2, show H 194 (588 + 6 * o' + m) = h 194 (588 + 6 * o' + m) from by rw [hH]; exact ((hup_nj (by omega)).trans (hup_ne (by decide))), qx o' (by omega) m hm]
            cases bitB (h 33 o') m <;> rfl
        · rw [show H 33 o = h 33 o from by rw [hH]; exact ((hup_ne (by decide)).trans (hup_nj (by omega))), show H 194 (588 + 6 * o + m) = h 194 (588 + 6 * o + m) from by rw [hH]; exact ((hup_nj (by omega)).trans (hup_ne (by decide)))]
          exact qx o ho m hm
      exact ⟨RR_op PS_ok GS_ok fr (by decide +kernel) (List.forall_mem_cons.mpr ⟨⟨by decide +kernel, Or.inl (by decide +kernel)⟩, (List.forall_mem_cons.mpr ⟨⟨by decide +kernel, Or.inr p_cross⟩, (fun _ hc => by cases hc)⟩)⟩) (fun _ hc => by cases hc) q, (congrArg (fun z => some ((0 : Nat), z)) (by omega))⟩
theorem rel_crossed1 {ρ : Nat → Int} {h h1 h2 : bH} {r1 r2 : Option bV} (q : RR PS GS h) (s1 : s_crossedB (evS ρ [(2, fcon 0), (0, fid 3), (0, fid 4), (0, fcon 1)]) h r1 h1) (s2 : s_crossedM (evS ρ [(2, fcon 193), (0, fid 3), (0, fid 4), (0, fcon 1)]) h1 r2 h2) : RR PS GS h2 ∧ r1 = r2 := by
  have ht : TH h := s1.1
  have qx : ∀ o : Nat, o < 8 → ∀ m : Nat, m < 6 → h 194 (588 + 6 * o + m) = if bitB (h 33 o) m = true then 1 else 0 := (q.2.1 pc_cross (List.Mem.tail _ (List.Mem.head _))).1
  have qr : ∀ o : Nat, o < 8 → ∀ m : Nat, m < 6 → 0 ≤ h 194 (588 + 6 * o + m) ∧ h 194 (588 + 6 * o + m) ≤ 1 := fun o ho m hm => ty_cx ht (by omega) (by omega)
  have t1 := s1.2 (ρ 3) (ρ 4) (1) (h 33 (ρ 3).toNat) (show [((2 : Nat), ev ρ (fcon 0)), (0, ev ρ (fid 3)), (0, ev ρ (fid 4)), (0, ev ρ (fcon (1)))] = [(2, ((0 : Nat) : Int)), (0, (ρ 3)), (0, (ρ 4)), (0, (1))] from by rw [fcon_ev, fid_ev, fid_ev, fcon_ev]; rfl) rfl
  rcases t1 with ⟨k1, rfl, rfl⟩ | ⟨k1, rfl, rfl⟩ | ⟨k1, rfl, rfl⟩ | ⟨k1, rfl, rfl⟩ | ⟨k1, rfl, rfl⟩
  · have t2 := s2.2 (ρ 3) (ρ 4) (1) (h 194 (588 + 6 * (ρ 3).toNat + (ρ 4).toNat)) (show [((2 : Nat), ev ρ (fcon 193)), (0, ev ρ (fid 3)), (0, ev ρ (fid 4)), (0, ev ρ (fcon (1)))] = [(2, ((193 : Nat) : Int)), (0, (ρ 3)), (0, (ρ 4)), (0, (1))] from by rw [fcon_ev, fid_ev, fid_ev, fcon_ev]; rfl) rfl
    rcases t2 with ⟨k2, rfl, rfl⟩ | ⟨k2, rfl, rfl⟩ | ⟨k2, rfl, rfl⟩
    · exact ⟨q, rfl⟩
    · exfalso; omega
    · exfalso; omega
  · have t2 := s2.2 (ρ 3) (ρ 4) (1) (h 194 (588 + 6 * (ρ 3).toNat + (ρ 4).toNat)) (show [((2 : Nat), ev ρ (fcon 193)), (0, ev ρ (fid 3)), (0, ev ρ (fid 4)), (0, ev ρ (fcon (1)))] = [(2, ((193 : Nat) : Int)), (0, (ρ 3)), (0, (ρ 4)), (0, (1))] from by rw [fcon_ev, fid_ev, fid_ev, fcon_ev]; rfl) ((hup_ne (by decide)).trans rfl)
    rcases t2 with ⟨k2, rfl, rfl⟩ | ⟨k2, rfl, rfl⟩ | ⟨k2, rfl, rfl⟩
    · exfalso; omega
    · skip
      obtain ⟨o', e_o9⟩ : ∃ q : Nat, (ρ 3).toNat = q := ⟨_, rfl⟩
      rw [e_o9]
      obtain ⟨m', e_m9⟩ : ∃ q : Nat, (ρ 4).toNat = q := ⟨_, rfl⟩
      rw [e_m9]
      have eo : ρ 3 = ((o' : Nat) : Int) := by omega
      have em : ρ 4 = ((m' : Nat) : Int) := by omega
      have g5 := qx o' (by omega) m' (by omega)
      rw [← bit_rd (by omega)] at g5
      have k9 := k1
      rw [e_o9, em] at k9
      have g6 := qr o' (by omega) m' (by omega)
      obtain ⟨H, hH⟩ : ∃ H : bH, H = (hup (hup h 33 (o') (orI ((h 33 o')) (shlI 1 ((m' : Nat) : Int)))) 194 (((588 + (6 * o')) + m')) ((1 : Nat) : Int)) := ⟨_, rfl⟩
      rw [← hH]
      have fr : ∀ a j, wrF (some [(33, 0, 8), (194, 588, 636)]) a j = false → H a j = h a j := by rw [hH]; exact (fr_up (fr_up (fun _ _ _ => rfl) (wr_in (lo := 0) (hi := 8) (by decide) (by omega) (by omega))) (wr_in (lo := 588) (hi := 636) (by decide) (by omega) (by omega)))
      have x0 : H 33 o' = (orI ((h 33 o')) (shlI 1 ((m' : Nat) : Int))) := by rw [hH]; exact ((hup_ne (by decide)).trans hup_eq)
      have y0 : H 194 (588 + 6 * o' + m') = 1 := by rw [hH]; exact hup_eq
      skip
      have p_cross : pc_cross.1 H 0 194 := by
        intro o ho m hm
        show H 194 (588 + 6 * o + m) = if bitB (H 33 o) m = true then 1 else 0
        by_cases e : o = o'
        · rw [e, x0]
          by_cases e2 : m = m'
          · rw [e2, y0, bit_set (by omega) (by omega), decide_eq_true rfl]
            simp
          · rw [bit_set (by omega) (by omega), decide_eq_false e2, show H 194 (588 + 6 * o' + m) = h 194 (588 + 6 * o' + m) from by rw [hH]; exact ((hup_nj (by omega)).trans (hup_ne (by decide))), qx o' (by omega) m hm]
            cases bitB (h 33 o') m <;> rfl
        · rw [show H 33 o = h 33 o from by rw [hH]; exact ((hup_ne (by decide)).trans (hup_nj (by omega))), show H 194 (588 + 6 * o + m) = h 194 (588 + 6 * o + m) from by rw [hH]; exact ((hup_nj (by omega)).trans (hup_ne (by decide)))]
          exact qx o ho m hm
      exact ⟨RR_op PS_ok GS_ok fr (by decide +kernel) (List.forall_mem_cons.mpr ⟨⟨by decide +kernel, Or.inl (by decide +kernel)⟩, (List.forall_mem_cons.mpr ⟨⟨by decide +kernel, Or.inr p_cross⟩, (fun _ hc => by cases hc)⟩)⟩) (fun _ hc => by cases hc) q, (congrArg (fun z => some ((0 : Nat), z)) (by omega))⟩
    · exfalso; omega
  · have t2 := s2.2 (ρ 3) (ρ 4) (1) (h 194 (588 + 6 * (ρ 3).toNat + (ρ 4).toNat)) (show [((2 : Nat), ev ρ (fcon 193)), (0, ev ρ (fid 3)), (0, ev ρ (fid 4)), (0, ev ρ (fcon (1)))] = [(2, ((193 : Nat) : Int)), (0, (ρ 3)), (0, (ρ 4)), (0, (1))] from by rw [fcon_ev, fid_ev, fid_ev, fcon_ev]; rfl) ((hup_ne (by decide)).trans rfl)
    rcases t2 with ⟨k2, rfl, rfl⟩ | ⟨k2, rfl, rfl⟩ | ⟨k2, rfl, rfl⟩
    · exfalso; omega
    · skip
      obtain ⟨o', e_o9⟩ : ∃ q : Nat, (ρ 3).toNat = q := ⟨_, rfl⟩
      rw [e_o9]
      obtain ⟨m', e_m9⟩ : ∃ q : Nat, (ρ 4).toNat = q := ⟨_, rfl⟩
      rw [e_m9]
      have eo : ρ 3 = ((o' : Nat) : Int) := by omega
      have em : ρ 4 = ((m' : Nat) : Int) := by omega
      have g5 := qx o' (by omega) m' (by omega)
      rw [← bit_rd (by omega)] at g5
      have k9 := k1
      rw [e_o9, em] at k9
      have g6 := qr o' (by omega) m' (by omega)
      obtain ⟨H, hH⟩ : ∃ H : bH, H = (hup (hup h 33 (o') (orI ((h 33 o')) (shlI 1 ((m' : Nat) : Int)))) 194 (((588 + (6 * o')) + m')) ((1 : Nat) : Int)) := ⟨_, rfl⟩
      rw [← hH]
      have fr : ∀ a j, wrF (some [(33, 0, 8), (194, 588, 636)]) a j = false → H a j = h a j := by rw [hH]; exact (fr_up (fr_up (fun _ _ _ => rfl) (wr_in (lo := 0) (hi := 8) (by decide) (by omega) (by omega))) (wr_in (lo := 588) (hi := 636) (by decide) (by omega) (by omega)))
      have x0 : H 33 o' = (orI ((h 33 o')) (shlI 1 ((m' : Nat) : Int))) := by rw [hH]; exact ((hup_ne (by decide)).trans hup_eq)
      have y0 : H 194 (588 + 6 * o' + m') = 1 := by rw [hH]; exact hup_eq
      skip
      have p_cross : pc_cross.1 H 0 194 := by
        intro o ho m hm
        show H 194 (588 + 6 * o + m) = if bitB (H 33 o) m = true then 1 else 0
        by_cases e : o = o'
        · rw [e, x0]
          by_cases e2 : m = m'
          · rw [e2, y0, bit_set (by omega) (by omega), decide_eq_true rfl]
            simp
          · rw [bit_set (by omega) (by omega), decide_eq_false e2, show H 194 (588 + 6 * o' + m) = h 194 (588 + 6 * o' + m) from by rw [hH]; exact ((hup_nj (by omega)).trans (hup_ne (by decide))), qx o' (by omega) m hm]
            cases bitB (h 33 o') m <;> rfl
        · rw [show H 33 o = h 33 o from by rw [hH]; exact ((hup_ne (by decide)).trans (hup_nj (by omega))), show H 194 (588 + 6 * o + m) = h 194 (588 + 6 * o + m) from by rw [hH]; exact ((hup_nj (by omega)).trans (hup_ne (by decide)))]
          exact qx o ho m hm
      exact ⟨RR_op PS_ok GS_ok fr (by decide +kernel) (List.forall_mem_cons.mpr ⟨⟨by decide +kernel, Or.inl (by decide +kernel)⟩, (List.forall_mem_cons.mpr ⟨⟨by decide +kernel, Or.inr p_cross⟩, (fun _ hc => by cases hc)⟩)⟩) (fun _ hc => by cases hc) q, (congrArg (fun z => some ((0 : Nat), z)) (by omega))⟩
    · exfalso; omega
  · have t2 := s2.2 (ρ 3) (ρ 4) (1) (h 194 (588 + 6 * (ρ 3).toNat + (ρ 4).toNat)) (show [((2 : Nat), ev ρ (fcon 193)), (0, ev ρ (fid 3)), (0, ev ρ (fid 4)), (0, ev ρ (fcon (1)))] = [(2, ((193 : Nat) : Int)), (0, (ρ 3)), (0, (ρ 4)), (0, (1))] from by rw [fcon_ev, fid_ev, fid_ev, fcon_ev]; rfl) ((hup_ne (by decide)).trans rfl)
    rcases t2 with ⟨k2, rfl, rfl⟩ | ⟨k2, rfl, rfl⟩ | ⟨k2, rfl, rfl⟩
    · exfalso; omega
    · exfalso; omega
    · exfalso; omega
  · have t2 := s2.2 (ρ 3) (ρ 4) (1) (h 194 (588 + 6 * (ρ 3).toNat + (ρ 4).toNat)) (show [((2 : Nat), ev ρ (fcon 193)), (0, ev ρ (fid 3)), (0, ev ρ (fid 4)), (0, ev ρ (fcon (1)))] = [(2, ((193 : Nat) : Int)), (0, (ρ 3)), (0, (ρ 4)), (0, (1))] from by rw [fcon_ev, fid_ev, fid_ev, fcon_ev]; rfl) ((hup_ne (by decide)).trans rfl)
    rcases t2 with ⟨k2, rfl, rfl⟩ | ⟨k2, rfl, rfl⟩ | ⟨k2, rfl, rfl⟩
    · exfalso; omega
    · exfalso; omega
    · exfalso; omega
