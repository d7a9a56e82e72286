/-! THE RELATION -/
def gc_sheet : Gc := (fun h => (∀ s, s < 4 → (h 182 s = -1 ∧ h 205 s = -1) ∨ ∃ r : Nat, r < 8 ∧ h 205 s = (r : Int) ∧ 0 ≤ h 182 s ∧ h 206 r = h 182 s ∧ h 207 r = h 183 s ∧ ∀ i, i < 40 → h 208 (40 * r + i) = h (185 + s) i) ∧ ∀ s s', s < 4 → s' < 4 → s ≠ s' → h 205 s ≠ -1 → h 205 s ≠ h 205 s', [(182, 0, 4), (183, 0, 4), (185, 0, 40), (186, 0, 40), (187, 0, 40), (188, 0, 40), (205, 0, 4), (206, 0, 8), (207, 0, 8), (208, 0, 320)])
theorem gc_sheet_ok : GcOK gc_sheet := fun h h' hf q => by
  have w : ∀ {a lo hi j : Nat}, (a, lo, hi) ∈ gc_sheet.2 → lo ≤ j → j < hi → h' a j = h a j := fun hm h1 h2 => hf _ _ (wr_in hm h1 h2)
  have f2 : ∀ s, s < 4 → h' 182 s = h 182 s := fun s hs => w (lo := 0) (hi := 4) (by decide) (Nat.zero_le _) hs
  have f3 : ∀ s, s < 4 → h' 183 s = h 183 s := fun s hs => w (lo := 0) (hi := 4) (by decide) (Nat.zero_le _) hs
  have f5 : ∀ s, s < 4 → h' 205 s = h 205 s := fun s hs => w (lo := 0) (hi := 4) (by decide) (Nat.zero_le _) hs
  refine ⟨fun s hs => ?_, fun s s' hs hs' hn hm => ?_⟩
  · rw [f2 s hs, f3 s hs, f5 s hs]
    rcases q.1 s hs with e | ⟨r, e1, e2, e3, e4, e5, e6⟩
    · exact Or.inl e
    · refine Or.inr ⟨r, e1, e2, e3, ?_, ?_, fun i hi => ?_⟩
      · rw [w (a := 206) (lo := 0) (hi := 8) (by decide) (Nat.zero_le _) e1]; exact e4
      · rw [w (a := 207) (lo := 0) (hi := 8) (by decide) (Nat.zero_le _) e1]; exact e5
      · rw [w (a := 208) (lo := 0) (hi := 320) (by decide) (Nat.zero_le _) (by omega), hf (185 + s) i (hz_w185 (by decide) hs hi)]; exact e6 i hi
  · rw [f5 s hs] at hm ⊢
    rw [f5 s' hs']
    exact q.2 s s' hs hs' hn hm
/-- what the row of a sheet is -/
theorem shR {h : bH} (q : gc_sheet.1 h) {s : Nat} (hs : s < 4) : (h 182 s = -1 ∧ h 205 s = -1) ∨ (0 ≤ h 205 s ∧ h 205 s < 8 ∧ h 206 (h 205 s).toNat = h 182 s ∧ 0 ≤ h 182 s ∧ h 207 (h 205 s).toNat = h 183 s) := by
  rcases q.1 s hs with e | ⟨r, e1, e2, e3, e4, e5, e6⟩
  · exact Or.inl e
  · refine Or.inr ⟨by omega, by omega, ?_, e3, ?_⟩
    · rw [e2, Int.toNat_natCast]; exact e4
    · rw [e2, Int.toNat_natCast]; exact e5
theorem shI {h : bH} (q : gc_sheet.1 h) {s r : Nat} (hs : s < 4) (hr : h 205 s = (r : Int)) {i : Nat} (hi : i < 40) : h 208 (40 * r + i) = h (185 + s) i := by
  rcases q.1 s hs with e | ⟨r', e1, e2, e3, e4, e5, e6⟩
  · omega
  · obtain rfl : r' = r := by omega
    exact e6 i hi
theorem shD {h : bH} (q : gc_sheet.1 h) {s r : Nat} (hs : s < 4) (hr : h 205 s = (r : Int)) {k : Nat} (hk : k < 4) (hn : k ≠ s) : h 205 k ≠ (r : Int) := fun e => q.2 k s hk hs hn (by omega) (by rw [e, hr])
/-- one sheet and one row changed -/
theorem shS {h H : bH} (q : gc_sheet.1 h) {s r : Nat} (hs : s < 4) (fr : ∀ k, k < 4 → k ≠ s → h 205 k ≠ (r : Int)) (b1 : ∀ k, k < 4 → k ≠ s → H 182 k = h 182 k ∧ H 183 k = h 183 k ∧ H 205 k = h 205 k ∧ ∀ i, i < 40 → H (185 + k) i = h (185 + k) i) (b2 : ∀ k, k < 8 → k ≠ r → H 206 k = h 206 k ∧ H 207 k = h 207 k ∧ ∀ i, i < 40 → H 208 (40 * k + i) = h 208 (40 * k + i)) (b3 : (H 182 s = -1 ∧ H 205 s = -1) ∨ (r < 8 ∧ H 205 s = (r : Int) ∧ 0 ≤ H 182 s ∧ H 206 r = H 182 s ∧ H 207 r = H 183 s ∧ ∀ i, i < 40 → H 208 (40 * r + i) = H (185 + s) i)) : gc_sheet.1 H := by
  refine ⟨fun k hk => ?_, fun k k' hk hk' hn hm => ?_⟩
  · by_cases e : k = s
    · subst e
      rcases b3 with w | ⟨w0, w1, w2, w3, w4, w5⟩
      · exact Or.inl w
      · exact Or.inr ⟨r, w0, w1, w2, w3, w4, w5⟩
    · obtain ⟨c1, c2, c3, c4⟩ := b1 k hk e
      rw [c1, c2, c3]
      rcases q.1 k hk with w | ⟨r', w1, w2, w3, w4, w5, w6⟩
      · exact Or.inl w
      · obtain ⟨d1, d2, d3⟩ := b2 r' w1 (fun z => fr k hk e (by rw [w2, z]))
        exact Or.inr ⟨r', w1, w2, w3, d1.trans w4, d2.trans w5, fun i hi => (d3 i hi).trans ((w6 i hi).trans (c4 i hi).symm)⟩
  · by_cases e : k = s
    · subst e
      have e2 : k' ≠ k := fun z => hn z.symm
      rw [(b1 k' hk' e2).2.2.1]
      rcases b3 with w | ⟨w0, w1, _⟩
      · exact absurd w.2 hm
      · rw [w1]
        exact fun z => fr k' hk' e2 z.symm
    · rw [(b1 k hk e).2.2.1] at hm ⊢
      by_cases e2 : k' = s
      · subst e2
        rcases b3 with w | ⟨w0, w1, _⟩
        · rw [w.2]; exact hm
        · rw [w1]; exact fr k hk e
      · rw [(b1 k' hk' e2).2.2.1]
        exact q.2 k k' hk hk' hn hm
def PS : List Pc := []
def GS : List Gc := [gc_sheet]
theorem PS_ok : ∀ c ∈ PS, PcOK c := (fun _ hc => by cases hc)
theorem GS_ok : ∀ c ∈ GS, GcOK c := (List.forall_mem_cons.mpr ⟨gc_sheet_ok, (fun _ hc => by cases hc)⟩)
theorem rel_sheet {ρ : Nat → Int} {h h1 h2 : bH} {r1 r2 : Option bV} (q : RR PS GS h) (s1 : s_sheetB (evS ρ [(2, fcon 0), (0, fid 3), (0, fid 4), (0, fid 5)]) h r1 h1) (s2 : s_sheetM (evS ρ [(2, fcon 193), (0, fid 3), (0, fid 4), (0, fid 5)]) h1 r2 h2) : RR PS GS h2 ∧ r1 = r2 := by
  have ht : TH h := s1.1
  have qs : gc_sheet.1 h := q.2.2 gc_sheet (List.Mem.head _)
  have rl : ¬ (0 ≤ ρ 3 ∧ ρ 3 ≤ 3) ∨ (h 182 (ρ 3).toNat = -1 ∧ h 205 (ρ 3).toNat = -1) ∨ (0 ≤ h 205 (ρ 3).toNat ∧ h 205 (ρ 3).toNat < 8 ∧ h 206 (h 205 (ρ 3).toNat).toNat = h 182 (ρ 3).toNat ∧ 0 ≤ h 182 (ρ 3).toNat ∧ h 207 (h 205 (ρ 3).toNat).toNat = h 183 (ρ 3).toNat) := by
    by_cases e : 0 ≤ ρ 3 ∧ ρ 3 ≤ 3
    · exact Or.inr (shR qs (by omega))
    · exact Or.inl e
  have t1 := s1.2 (ρ 3) (ρ 4) (ρ 5) (show [((2 : Nat), ev ρ (fcon 0)), (0, ev ρ (fid 3)), (0, ev ρ (fid 4)), (0, ev ρ (fid 5))] = [(2, ((0 : Nat) : Int)), (0, (ρ 3)), (0, (ρ 4)), (0, (ρ 5))] from by rw [fcon_ev, fid_ev, fid_ev, fid_ev]; rfl)
  rcases t1 with ⟨k1, rfl, rfl⟩ | ⟨k1, rfl, rfl⟩ | ⟨k1, rfl, rfl⟩ | ⟨k1, rfl, rfl⟩
  · have t2 := s2.2 (ρ 3) (ρ 4) (ρ 5) (show [((2 : Nat), ev ρ (fcon 193)), (0, ev ρ (fid 3)), (0, ev ρ (fid 4)), (0, ev ρ (fid 5))] = [(2, ((193 : Nat) : Int)), (0, (ρ 3)), (0, (ρ 4)), (0, (ρ 5))] from by rw [fcon_ev, fid_ev, fid_ev, fid_ev]; rfl)
    rcases t2 with ⟨k2, rfl, rfl⟩ | ⟨k2, rfl, rfl⟩ | ⟨k2, rfl, rfl⟩ | ⟨rr, hP, k2, rfl, rfl⟩
    · exact ⟨q, rfl⟩
    · exfalso; omega
    · exfalso; omega
    · exfalso; omega
  · have t2 := s2.2 (ρ 3) (ρ 4) (ρ 5) (show [((2 : Nat), ev ρ (fcon 193)), (0, ev ρ (fid 3)), (0, ev ρ (fid 4)), (0, ev ρ (fid 5))] = [(2, ((193 : Nat) : Int)), (0, (ρ 3)), (0, (ρ 4)), (0, (ρ 5))] from by rw [fcon_ev, fid_ev, fid_ev, fid_ev]; rfl)
    rcases t2 with ⟨k2, rfl, rfl⟩ | ⟨k2, rfl, rfl⟩ | ⟨k2, rfl, rfl⟩ | ⟨rr, hP, k2, rfl, rfl⟩
    · exfalso; omega
    · exact ⟨q, rfl⟩
    · exfalso; omega
    · exfalso; omega
  · have t2 := s2.2 (ρ 3) (ρ 4) (ρ 5) (show [((2 : Nat), ev ρ (fcon 193)), (0, ev ρ (fid 3)), (0, ev ρ (fid 4)), (0, ev ρ (fid 5))] = [(2, ((193 : Nat) : Int)), (0, (ρ 3)), (0, (ρ 4)), (0, (ρ 5))] from by rw [fcon_ev, fid_ev, fid_ev, fid_ev]; rfl)
    rcases t2 with ⟨k2, rfl, rfl⟩ | ⟨k2, rfl, rfl⟩ | ⟨k2, rfl, rfl⟩ | ⟨rr, hP, k2, rfl, rfl⟩
    · exfalso; omega
    · exfalso; omega
    · skip
      obtain ⟨s', e_s9⟩ : ∃ q : Nat, (ρ 3).toNat = q := ⟨_, rfl⟩
      rw [e_s9]
      obtain ⟨H, hH⟩ : ∃ H : bH, H = (hup (hz (hup (hup h 182 (s') (ρ 4)) 183 (s') 0) (185 + s') (0) 40) 205 (s') (-1)) := ⟨_, rfl⟩
      rw [← hH]
      have fr : ∀ a j, wrF (some [(182, 0, 4), (183, 0, 4), (185, 0, 40), (186, 0, 40), (187, 0, 40), (188, 0, 40), (205, 0, 4)]) a j = false → H a j = h a j := by rw [hH]; exact (fr_up (fr_hz (fr_up (fr_up (fun _ _ _ => rfl) (wr_in (lo := 0) (hi := 4) (by decide) (by omega) (by omega))) (wr_in (lo := 0) (hi := 4) (by decide) (by omega) (by omega))) (fun j j1 j2 => (hz_w185 (by decide) (by omega) (by omega)))) (wr_in (lo := 0) (hi := 4) (by decide) (by omega) (by omega)))
      have p_sheet : gc_sheet.1 H := by
        have g2 : H 182 s' = ρ 4 := by rw [hH]; exact ((hup_ne (by decide)).trans ((hz_ne (by omega)).trans ((hup_ne (by decide)).trans hup_eq)))
        refine shS qs (s := s') (r := 8) (by omega) (fun k hk hne e => by have := ty_205_s0 ht (j := k) (r := k) (by omega) (by omega); omega) (fun k hk hne => ⟨(by rw [hH]; exact ((hup_ne (by decide)).trans ((hz_ne (by omega)).trans ((hup_ne (by decide)).trans (hup_nj (by omega)))))), (by rw [hH]; exact ((hup_ne (by decide)).trans ((hz_ne (by omega)).trans ((hup_nj (by omega)).trans (hup_ne (by decide)))))), (by rw [hH]; exact ((hup_nj (by omega)).trans ((hz_ne (by omega)).trans ((hup_ne (by decide)).trans (hup_ne (by decide)))))), fun i hi => (by rw [hH]; exact ((hup_ne (by omega)).trans ((hz_ne (by omega)).trans ((hup_ne (by omega)).trans (hup_ne (by omega))))))⟩) (fun k hk hne => ⟨(by rw [hH]; exact ((hup_ne (by decide)).trans ((hz_ne (by omega)).trans ((hup_ne (by decide)).trans (hup_ne (by decide)))))), (by rw [hH]; exact ((hup_ne (by decide)).trans ((hz_ne (by omega)).trans ((hup_ne (by decide)).trans (hup_ne (by decide)))))), fun i hi => (by rw [hH]; exact ((hup_ne (by decide)).trans ((hz_ne (by omega)).trans ((hup_ne (by decide)).trans (hup_ne (by decide))))))⟩) (Or.inl ⟨by omega, (by rw [hH]; exact hup_eq)⟩)
      exact ⟨RR_op PS_ok GS_ok fr (by decide +kernel) (fun _ hc => by cases hc) (List.forall_mem_cons.mpr ⟨Or.inr p_sheet, (fun _ hc => by cases hc)⟩) q, rfl⟩
    · exfalso; omega
  · have t2 := s2.2 (ρ 3) (ρ 4) (ρ 5) (show [((2 : Nat), ev ρ (fcon 193)), (0, ev ρ (fid 3)), (0, ev ρ (fid 4)), (0, ev ρ (fid 5))] = [(2, ((193 : Nat) : Int)), (0, (ρ 3)), (0, (ρ 4)), (0, (ρ 5))] from by rw [fcon_ev, fid_ev, fid_ev, fid_ev]; rfl)
    rcases t2 with ⟨k2, rfl, rfl⟩ | ⟨k2, rfl, rfl⟩ | ⟨k2, rfl, rfl⟩ | ⟨rr, hP, k2, rfl, rfl⟩
    · exfalso; omega
    · exfalso; omega
    · exfalso; omega
    · skip
      obtain ⟨s', e_s9⟩ : ∃ q : Nat, (ρ 3).toNat = q := ⟨_, rfl⟩
      rw [e_s9]
      obtain ⟨H, hH⟩ : ∃ H : bH, H = (hz (hup (hup (hup (hup (hz (hup (hup h 182 (s') (ρ 4)) 183 (s') (ρ 5)) (185 + s') (0) 40) 205 (s') (-1)) 205 (s') ((rr : Nat) : Int)) 206 (rr) (ρ 4)) 207 (rr) (ρ 5)) (208) ((40 * rr) + 0) 40) := ⟨_, rfl⟩
      rw [← hH]
      have fr : ∀ a j, wrF (some [(182, 0, 4), (183, 0, 4), (185, 0, 40), (186, 0, 40), (187, 0, 40), (188, 0, 40), (205, 0, 4), (206, 0, 8), (207, 0, 8), (208, 0, 320)]) a j = false → H a j = h a j := by rw [hH]; exact (fr_hz (fr_up (fr_up (fr_up (fr_up (fr_hz (fr_up (fr_up (fun _ _ _ => rfl) (wr_in (lo := 0) (hi := 4) (by decide) (by omega) (by omega))) (wr_in (lo := 0) (hi := 4) (by decide) (by omega) (by omega))) (fun j j1 j2 => (hz_w185 (by decide) (by omega) (by omega)))) (wr_in (lo := 0) (hi := 4) (by decide) (by omega) (by omega))) (wr_in (lo := 0) (hi := 4) (by decide) (by omega) (by omega))) (wr_in (lo := 0) (hi := 8) (by decide) (by omega) (by omega))) (wr_in (lo := 0) (hi := 8) (by decide) (by omega) (by omega))) (fun j j1 j2 => (wr_in (lo := 0) (hi := 320) (by decide) (by omega) (by omega))))
      have p_sheet : gc_sheet.1 H := by
        have g2 : H 182 s' = ρ 4 := by rw [hH]; exact ((hz_ne (by omega)).trans ((hup_ne (by decide)).trans ((hup_ne (by decide)).trans ((hup_ne (by decide)).trans ((hup_ne (by decide)).trans ((hz_ne (by omega)).trans ((hup_ne (by decide)).trans hup_eq)))))))
        have g3 : H 183 s' = ρ 5 := by rw [hH]; exact ((hz_ne (by omega)).trans ((hup_ne (by decide)).trans ((hup_ne (by decide)).trans ((hup_ne (by decide)).trans ((hup_ne (by decide)).trans ((hz_ne (by omega)).trans hup_eq))))))
        have g6 : H 206 rr = ρ 4 := by rw [hH]; exact ((hz_ne (by omega)).trans ((hup_ne (by decide)).trans hup_eq))
        have g7 : H 207 rr = ρ 5 := by rw [hH]; exact ((hz_ne (by omega)).trans hup_eq)
        refine shS qs (s := s') (r := rr) (by omega) (fun k hk hne e => hP.2 k hk (by omega) (((hz_ne (by omega)).trans ((hup_ne (by decide)).trans (hup_ne (by decide)))).trans e)) (fun k hk hne => ⟨(by rw [hH]; exact ((hz_ne (by omega)).trans ((hup_ne (by decide)).trans ((hup_ne (by decide)).trans ((hup_ne (by decide)).trans ((hup_ne (by decide)).trans ((hz_ne (by omega)).trans ((hup_ne (by decide)).trans (hup_nj (by omega)))))))))), (by rw [hH]; exact ((hz_ne (by omega)).trans ((hup_ne (by decide)).trans ((hup_ne (by decide)).trans ((hup_ne (by decide)).trans ((hup_ne (by decide)).trans ((hz_ne (by omega)).trans ((hup_nj (by omega)).trans (hup_ne (by decide)))))))))), (by rw [hH]; exact ((hz_ne (by omega)).trans ((hup_ne (by decide)).trans ((hup_ne (by decide)).trans ((hup_nj (by omega)).trans ((hup_nj (by omega)).trans ((hz_ne (by omega)).trans ((hup_ne (by decide)).trans (hup_ne (by decide)))))))))), fun i hi => (by rw [hH]; exact ((hz_ne (by omega)).trans ((hup_ne (by omega)).trans ((hup_ne (by omega)).trans ((hup_ne (by omega)).trans ((hup_ne (by omega)).trans ((hz_ne (by omega)).trans ((hup_ne (by omega)).trans (hup_ne (by omega))))))))))⟩) (fun k hk hne => ⟨(by rw [hH]; exact ((hz_ne (by omega)).trans ((hup_ne (by decide)).trans ((hup_nj (by omega)).trans ((hup_ne (by decide)).trans ((hup_ne (by decide)).trans ((hz_ne (by omega)).trans ((hup_ne (by decide)).trans (hup_ne (by decide)))))))))), (by rw [hH]; exact ((hz_ne (by omega)).trans ((hup_nj (by omega)).trans ((hup_ne (by decide)).trans ((hup_ne (by decide)).trans ((hup_ne (by decide)).trans ((hz_ne (by omega)).trans ((hup_ne (by decide)).trans (hup_ne (by decide)))))))))), fun i hi => (by rw [hH]; exact ((hz_ne (by omega)).trans ((hup_ne (by decide)).trans ((hup_ne (by decide)).trans ((hup_ne (by decide)).trans ((hup_ne (by decide)).trans ((hz_ne (by omega)).trans ((hup_ne (by decide)).trans (hup_ne (by decide))))))))))⟩) (Or.inr ⟨hP.1, (by rw [hH]; exact ((hz_ne (by omega)).trans ((hup_ne (by decide)).trans ((hup_ne (by decide)).trans hup_eq)))), by omega, by omega, by omega, fun i hi => ?_⟩)
        have y1 : H 208 (40 * rr + i) = 0 := by rw [hH]; exact (hz_in (by omega) (by omega))
        have y2 : H (185 + s') i = 0 := by rw [hH]; exact ((hz_ne (by omega)).trans ((hup_ne (by omega)).trans ((hup_ne (by omega)).trans ((hup_ne (by omega)).trans ((hup_ne (by omega)).trans (hz_in (by omega) (by omega)))))))
        rw [y1, y2]
      exact ⟨RR_op PS_ok GS_ok fr (by decide +kernel) (fun _ hc => by cases hc) (List.forall_mem_cons.mpr ⟨Or.inr p_sheet, (fun _ hc => by cases hc)⟩) q, rfl⟩
theorem rel_put {ρ : Nat → Int} {h h1 h2 : bH} {r1 r2 : Option bV} (q : RR PS GS h) (s1 : s_putB (evS ρ [(2, fcon 0), (0, fid 3), (0, fid 4), (0, fid 5)]) h r1 h1) (s2 : s_putM (evS ρ [(2, fcon 193), (0, fid 3), (0, fid 4), (0, fid 5)]) h1 r2 h2) : RR PS GS h2 ∧ r1 = r2 := by
  have ht : TH h := s1.1
  have qs : gc_sheet.1 h := q.2.2 gc_sheet (List.Mem.head _)
  have rl : ¬ (0 ≤ ρ 3 ∧ ρ 3 ≤ 3) ∨ (h 182 (ρ 3).toNat = -1 ∧ h 205 (ρ 3).toNat = -1) ∨ (0 ≤ h 205 (ρ 3).toNat ∧ h 205 (ρ 3).toNat < 8 ∧ h 206 (h 205 (ρ 3).toNat).toNat = h 182 (ρ 3).toNat ∧ 0 ≤ h 182 (ρ 3).toNat ∧ h 207 (h 205 (ρ 3).toNat).toNat = h 183 (ρ 3).toNat) := by
    by_cases e : 0 ≤ ρ 3 ∧ ρ 3 ≤ 3
    · exact Or.inr (shR qs (by omega))
    · exact Or.inl e
  have t1 := s1.2 (ρ 3) (ρ 4) (ρ 5) (h 182 (ρ 3).toNat) (h 183 (ρ 3).toNat) (show [((2 : Nat), ev ρ (fcon 0)), (0, ev ρ (fid 3)), (0, ev ρ (fid 4)), (0, ev ρ (fid 5))] = [(2, ((0 : Nat) : Int)), (0, (ρ 3)), (0, (ρ 4)), (0, (ρ 5))] from by rw [fcon_ev, fid_ev, fid_ev, fid_ev]; rfl) rfl rfl
  rcases t1 with ⟨k1, rfl, rfl⟩ | ⟨k1, rfl, rfl⟩ | ⟨k1, rfl, rfl⟩ | ⟨k1, rfl, rfl⟩ | ⟨k1, rfl, rfl⟩ | ⟨k1, rfl, rfl⟩
  · have t2 := s2.2 (ρ 3) (ρ 4) (ρ 5) (h 205 (ρ 3).toNat) (h 206 (h 205 (ρ 3).toNat).toNat) (h 207 (h 205 (ρ 3).toNat).toNat) (show [((2 : Nat), ev ρ (fcon 193)), (0, ev ρ (fid 3)), (0, ev ρ (fid 4)), (0, ev ρ (fid 5))] = [(2, ((193 : Nat) : Int)), (0, (ρ 3)), (0, (ρ 4)), (0, (ρ 5))] from by rw [fcon_ev, fid_ev, fid_ev, fid_ev]; rfl) rfl rfl rfl
    rcases t2 with ⟨k2, rfl, rfl⟩ | ⟨k2, rfl, rfl⟩ | ⟨k2, rfl, rfl⟩ | ⟨k2, rfl, rfl⟩ | ⟨k2, rfl, rfl⟩ | ⟨k2, rfl, rfl⟩
    · exact ⟨q, rfl⟩
    · exfalso; omega
    · exfalso; omega
    · exfalso; omega
    · exfalso; omega
    · exfalso; omega
  · have t2 := s2.2 (ρ 3) (ρ 4) (ρ 5) (h 205 (ρ 3).toNat) (h 206 (h 205 (ρ 3).toNat).toNat) (h 207 (h 205 (ρ 3).toNat).toNat) (show [((2 : Nat), ev ρ (fcon 193)), (0, ev ρ (fid 3)), (0, ev ρ (fid 4)), (0, ev ρ (fid 5))] = [(2, ((193 : Nat) : Int)), (0, (ρ 3)), (0, (ρ 4)), (0, (ρ 5))] from by rw [fcon_ev, fid_ev, fid_ev, fid_ev]; rfl) rfl rfl rfl
    rcases t2 with ⟨k2, rfl, rfl⟩ | ⟨k2, rfl, rfl⟩ | ⟨k2, rfl, rfl⟩ | ⟨k2, rfl, rfl⟩ | ⟨k2, rfl, rfl⟩ | ⟨k2, rfl, rfl⟩
    · exfalso; omega
    · exact ⟨q, rfl⟩
    · exfalso; omega
    · exfalso; omega
    · exfalso; omega
    · exfalso; omega
  · have t2 := s2.2 (ρ 3) (ρ 4) (ρ 5) (h 205 (ρ 3).toNat) (h 206 (h 205 (ρ 3).toNat).toNat) (h 207 (h 205 (ρ 3).toNat).toNat) (show [((2 : Nat), ev ρ (fcon 193)), (0, ev ρ (fid 3)), (0, ev ρ (fid 4)), (0, ev ρ (fid 5))] = [(2, ((193 : Nat) : Int)), (0, (ρ 3)), (0, (ρ 4)), (0, (ρ 5))] from by rw [fcon_ev, fid_ev, fid_ev, fid_ev]; rfl) rfl rfl rfl
    rcases t2 with ⟨k2, rfl, rfl⟩ | ⟨k2, rfl, rfl⟩ | ⟨k2, rfl, rfl⟩ | ⟨k2, rfl, rfl⟩ | ⟨k2, rfl, rfl⟩ | ⟨k2, rfl, rfl⟩
    · exfalso; omega
    · exfalso; omega
    · exact ⟨q, rfl⟩
    · exfalso; omega
    · exfalso; omega
    · exfalso; omega
  · have t2 := s2.2 (ρ 3) (ρ 4) (ρ 5) (h 205 (ρ 3).toNat) (h 206 (h 205 (ρ 3).toNat).toNat) (h 207 (h 205 (ρ 3).toNat).toNat) (show [((2 : Nat), ev ρ (fcon 193)), (0, ev ρ (fid 3)), (0, ev ρ (fid 4)), (0, ev ρ (fid 5))] = [(2, ((193 : Nat) : Int)), (0, (ρ 3)), (0, (ρ 4)), (0, (ρ 5))] from by rw [fcon_ev, fid_ev, fid_ev, fid_ev]; rfl) ((hup_ne (by omega)).trans rfl) ((hup_ne (by omega)).trans rfl) ((hup_ne (by omega)).trans rfl)
    rcases t2 with ⟨k2, rfl, rfl⟩ | ⟨k2, rfl, rfl⟩ | ⟨k2, rfl, rfl⟩ | ⟨k2, rfl, rfl⟩ | ⟨k2, rfl, rfl⟩ | ⟨k2, rfl, rfl⟩
    · exfalso; omega
    · exfalso; omega
    · exfalso; omega
    · skip
      obtain ⟨s', e_s9⟩ : ∃ q : Nat, (ρ 3).toNat = q := ⟨_, rfl⟩
      rw [e_s9]
      obtain ⟨i', e_i9⟩ : ∃ q : Nat, (ρ 4).toNat = q := ⟨_, rfl⟩
      rw [e_i9]
      obtain ⟨r', e_r9⟩ : ∃ q : Nat, (h 205 s').toNat = q := ⟨_, rfl⟩
      rw [e_r9]
      have a5 : h 205 (ρ 3).toNat = h 205 s' := by rw [e_s9]
      have a2 : h 182 (ρ 3).toNat = h 182 s' := by rw [e_s9]
      have a3 : h 183 (ρ 3).toNat = h 183 s' := by rw [e_s9]
      have e183 := ty_183_s0 ht (j := (ρ 3).toNat) (r := (ρ 3).toNat) (by omega) (by omega)
      obtain ⟨H, hH⟩ : ∃ H : bH, H = (hup (hup h (185 + s') (i') (Int.bmod ((ρ 5)) 256)) 208 (((40 * r') + i')) (Int.bmod ((ρ 5)) 256)) := ⟨_, rfl⟩
      rw [← hH]
      have fr : ∀ a j, wrF (some [(185, 0, 40), (186, 0, 40), (187, 0, 40), (188, 0, 40), (208, 0, 320)]) a j = false → H a j = h a j := by rw [hH]; exact (fr_up (fr_up (fun _ _ _ => rfl) (hz_w185 (by decide) (by omega) (by omega))) (wr_in (lo := 0) (hi := 320) (by decide) (by omega) (by omega)))
      have p_sheet : gc_sheet.1 H := by
        have hr5 : h 205 s' = ((r' : Nat) : Int) := by omega
        have e6 : h 206 r' = h 182 s' := by have := rl; rw [e_s9, e_r9] at this; omega
        have e7 : h 207 r' = h 183 s' := by have := rl; rw [e_s9, e_r9] at this; omega
        have e8 : 0 ≤ h 182 s' := by have := rl; rw [e_s9, e_r9] at this; omega
        have g2 : H 182 s' = h 182 s' := by rw [hH]; exact ((hup_ne (by decide)).trans (hup_ne (by omega)))
        have g3 : H 183 s' = h 183 s' := by rw [hH]; exact ((hup_ne (by decide)).trans (hup_ne (by omega)))
        have g5 : H 205 s' = h 205 s' := by rw [hH]; exact ((hup_ne (by decide)).trans (hup_ne (by omega)))
        have g6 : H 206 r' = h 206 r' := by rw [hH]; exact ((hup_ne (by decide)).trans (hup_ne (by omega)))
        have g7 : H 207 r' = h 207 r' := by rw [hH]; exact ((hup_ne (by decide)).trans (hup_ne (by omega)))
        refine shS qs (s := s') (r := r') (by omega) (fun k hk hne => shD qs (by omega) hr5 hk hne) (fun k hk hne => ⟨(by rw [hH]; exact ((hup_ne (by decide)).trans (hup_ne (by omega)))), (by rw [hH]; exact ((hup_ne (by decide)).trans (hup_ne (by omega)))), (by rw [hH]; exact ((hup_ne (by decide)).trans (hup_ne (by omega)))), fun i hi => (by rw [hH]; exact ((hup_ne (by omega)).trans (hup_ne (by omega))))⟩) (fun k hk hne => ⟨(by rw [hH]; exact ((hup_ne (by decide)).trans (hup_ne (by omega)))), (by rw [hH]; exact ((hup_ne (by decide)).trans (hup_ne (by omega)))), fun i hi => (by rw [hH]; exact ((hup_nj (by omega)).trans (hup_ne (by omega))))⟩) (Or.inr ⟨by omega, by omega, by omega, by omega, by omega, fun i hi => ?_⟩)
        by_cases e : i = i'
        · subst e
          have y1 : H 208 (40 * r' + i) = (Int.bmod ((ρ 5)) 256) := by rw [hH]; exact hup_eq
          have y2 : H (185 + s') i = (Int.bmod ((ρ 5)) 256) := by rw [hH]; exact ((hup_ne (by omega)).trans hup_eq)
          rw [y1, y2]
        · have y1 : H 208 (40 * r' + i) = h 208 (40 * r' + i) := by rw [hH]; exact ((hup_nj (by omega)).trans (hup_ne (by omega)))
          have y2 : H (185 + s') i = h (185 + s') i := by rw [hH]; exact ((hup_ne (by omega)).trans (hup_nj (by omega)))
          rw [y1, y2]
          exact shI qs (by omega) hr5 hi
      exact ⟨RR_op PS_ok GS_ok fr (by decide +kernel) (fun _ hc => by cases hc) (List.forall_mem_cons.mpr ⟨Or.inr p_sheet, (fun _ hc => by cases hc)⟩) q, rfl⟩
    · exfalso; omega
    · exfalso; omega
  · have t2 := s2.2 (ρ 3) (ρ 4) (ρ 5) (h 205 (ρ 3).toNat) (h 206 (h 205 (ρ 3).toNat).toNat) (h 207 (h 205 (ρ 3).toNat).toNat) (show [((2 : Nat), ev ρ (fcon 193)), (0, ev ρ (fid 3)), (0, ev ρ (fid 4)), (0, ev ρ (fid 5))] = [(2, ((193 : Nat) : Int)), (0, (ρ 3)), (0, (ρ 4)), (0, (ρ 5))] from by rw [fcon_ev, fid_ev, fid_ev, fid_ev]; rfl) ((hup_ne (by omega)).trans rfl) ((hup_ne (by omega)).trans rfl) ((hup_ne (by omega)).trans rfl)
    rcases t2 with ⟨k2, rfl, rfl⟩ | ⟨k2, rfl, rfl⟩ | ⟨k2, rfl, rfl⟩ | ⟨k2, rfl, rfl⟩ | ⟨k2, rfl, rfl⟩ | ⟨k2, rfl, rfl⟩
    · exfalso; omega
    · exfalso; omega
    · exfalso; omega
    · exfalso; omega
    · skip
      obtain ⟨s', e_s9⟩ : ∃ q : Nat, (ρ 3).toNat = q := ⟨_, rfl⟩
      rw [e_s9]
      obtain ⟨i', e_i9⟩ : ∃ q : Nat, (ρ 4).toNat = q := ⟨_, rfl⟩
      rw [e_i9]
      obtain ⟨r', e_r9⟩ : ∃ q : Nat, (h 205 s').toNat = q := ⟨_, rfl⟩
      rw [e_r9]
      have a5 : h 205 (ρ 3).toNat = h 205 s' := by rw [e_s9]
      have a2 : h 182 (ρ 3).toNat = h 182 s' := by rw [e_s9]
      have a3 : h 183 (ρ 3).toNat = h 183 s' := by rw [e_s9]
      have e183 := ty_183_s0 ht (j := (ρ 3).toNat) (r := (ρ 3).toNat) (by omega) (by omega)
      obtain ⟨H, hH⟩ : ∃ H : bH, H = (hup (hup h (185 + s') (i') (Int.bmod ((ρ 5)) 65536)) 208 (((40 * r') + i')) (Int.bmod ((ρ 5)) 65536)) := ⟨_, rfl⟩
      rw [← hH]
      have fr : ∀ a j, wrF (some [(185, 0, 40), (186, 0, 40), (187, 0, 40), (188, 0, 40), (208, 0, 320)]) a j = false → H a j = h a j := by rw [hH]; exact (fr_up (fr_up (fun _ _ _ => rfl) (hz_w185 (by decide) (by omega) (by omega))) (wr_in (lo := 0) (hi := 320) (by decide) (by omega) (by omega)))
      have p_sheet : gc_sheet.1 H := by
        have hr5 : h 205 s' = ((r' : Nat) : Int) := by omega
        have e6 : h 206 r' = h 182 s' := by have := rl; rw [e_s9, e_r9] at this; omega
        have e7 : h 207 r' = h 183 s' := by have := rl; rw [e_s9, e_r9] at this; omega
        have e8 : 0 ≤ h 182 s' := by have := rl; rw [e_s9, e_r9] at this; omega
        have g2 : H 182 s' = h 182 s' := by rw [hH]; exact ((hup_ne (by decide)).trans (hup_ne (by omega)))
        have g3 : H 183 s' = h 183 s' := by rw [hH]; exact ((hup_ne (by decide)).trans (hup_ne (by omega)))
        have g5 : H 205 s' = h 205 s' := by rw [hH]; exact ((hup_ne (by decide)).trans (hup_ne (by omega)))
        have g6 : H 206 r' = h 206 r' := by rw [hH]; exact ((hup_ne (by decide)).trans (hup_ne (by omega)))
        have g7 : H 207 r' = h 207 r' := by rw [hH]; exact ((hup_ne (by decide)).trans (hup_ne (by omega)))
        refine shS qs (s := s') (r := r') (by omega) (fun k hk hne => shD qs (by omega) hr5 hk hne) (fun k hk hne => ⟨(by rw [hH]; exact ((hup_ne (by decide)).trans (hup_ne (by omega)))), (by rw [hH]; exact ((hup_ne (by decide)).trans (hup_ne (by omega)))), (by rw [hH]; exact ((hup_ne (by decide)).trans (hup_ne (by omega)))), fun i hi => (by rw [hH]; exact ((hup_ne (by omega)).trans (hup_ne (by omega))))⟩) (fun k hk hne => ⟨(by rw [hH]; exact ((hup_ne (by decide)).trans (hup_ne (by omega)))), (by rw [hH]; exact ((hup_ne (by decide)).trans (hup_ne (by omega)))), fun i hi => (by rw [hH]; exact ((hup_nj (by omega)).trans (hup_ne (by omega))))⟩) (Or.inr ⟨by omega, by omega, by omega, by omega, by omega, fun i hi => ?_⟩)
        by_cases e : i = i'
        · subst e
          have y1 : H 208 (40 * r' + i) = (Int.bmod ((ρ 5)) 65536) := by rw [hH]; exact hup_eq
          have y2 : H (185 + s') i = (Int.bmod ((ρ 5)) 65536) := by rw [hH]; exact ((hup_ne (by omega)).trans hup_eq)
          rw [y1, y2]
        · have y1 : H 208 (40 * r' + i) = h 208 (40 * r' + i) := by rw [hH]; exact ((hup_nj (by omega)).trans (hup_ne (by omega)))
          have y2 : H (185 + s') i = h (185 + s') i := by rw [hH]; exact ((hup_ne (by omega)).trans (hup_nj (by omega)))
          rw [y1, y2]
          exact shI qs (by omega) hr5 hi
      exact ⟨RR_op PS_ok GS_ok fr (by decide +kernel) (fun _ hc => by cases hc) (List.forall_mem_cons.mpr ⟨Or.inr p_sheet, (fun _ hc => by cases hc)⟩) q, rfl⟩
    · exfalso; omega
  · have t2 := s2.2 (ρ 3) (ρ 4) (ρ 5) (h 205 (ρ 3).toNat) (h 206 (h 205 (ρ 3).toNat).toNat) (h 207 (h 205 (ρ 3).toNat).toNat) (show [((2 : Nat), ev ρ (fcon 193)), (0, ev ρ (fid 3)), (0, ev ρ (fid 4)), (0, ev ρ (fid 5))] = [(2, ((193 : Nat) : Int)), (0, (ρ 3)), (0, (ρ 4)), (0, (ρ 5))] from by rw [fcon_ev, fid_ev, fid_ev, fid_ev]; rfl) ((hup_ne (by omega)).trans rfl) ((hup_ne (by omega)).trans rfl) ((hup_ne (by omega)).trans rfl)
    rcases t2 with ⟨k2, rfl, rfl⟩ | ⟨k2, rfl, rfl⟩ | ⟨k2, rfl, rfl⟩ | ⟨k2, rfl, rfl⟩ | ⟨k2, rfl, rfl⟩ | ⟨k2, rfl, rfl⟩
    · exfalso; omega
    · exfalso; omega
    · exfalso; omega
    · exfalso; omega
    · exfalso; omega
    · skip
      obtain ⟨s', e_s9⟩ : ∃ q : Nat, (ρ 3).toNat = q := ⟨_, rfl⟩
      rw [e_s9]
      obtain ⟨i', e_i9⟩ : ∃ q : Nat, (ρ 4).toNat = q := ⟨_, rfl⟩
      rw [e_i9]
      obtain ⟨r', e_r9⟩ : ∃ q : Nat, (h 205 s').toNat = q := ⟨_, rfl⟩
      rw [e_r9]
      have a5 : h 205 (ρ 3).toNat = h 205 s' := by rw [e_s9]
      have a2 : h 182 (ρ 3).toNat = h 182 s' := by rw [e_s9]
      have a3 : h 183 (ρ 3).toNat = h 183 s' := by rw [e_s9]
      have e183 := ty_183_s0 ht (j := (ρ 3).toNat) (r := (ρ 3).toNat) (by omega) (by omega)
      obtain ⟨H, hH⟩ : ∃ H : bH, H = (hup (hup h (185 + s') (i') ((ρ 5))) 208 (((40 * r') + i')) ((ρ 5))) := ⟨_, rfl⟩
      rw [← hH]
      have fr : ∀ a j, wrF (some [(185, 0, 40), (186, 0, 40), (187, 0, 40), (188, 0, 40), (208, 0, 320)]) a j = false → H a j = h a j := by rw [hH]; exact (fr_up (fr_up (fun _ _ _ => rfl) (hz_w185 (by decide) (by omega) (by omega))) (wr_in (lo := 0) (hi := 320) (by decide) (by omega) (by omega)))
      have p_sheet : gc_sheet.1 H := by
        have hr5 : h 205 s' = ((r' : Nat) : Int) := by omega
        have e6 : h 206 r' = h 182 s' := by have := rl; rw [e_s9, e_r9] at this; omega
        have e7 : h 207 r' = h 183 s' := by have := rl; rw [e_s9, e_r9] at this; omega
        have e8 : 0 ≤ h 182 s' := by have := rl; rw [e_s9, e_r9] at this; omega
        have g2 : H 182 s' = h 182 s' := by rw [hH]; exact ((hup_ne (by decide)).trans (hup_ne (by omega)))
        have g3 : H 183 s' = h 183 s' := by rw [hH]; exact ((hup_ne (by decide)).trans (hup_ne (by omega)))
        have g5 : H 205 s' = h 205 s' := by rw [hH]; exact ((hup_ne (by decide)).trans (hup_ne (by omega)))
        have g6 : H 206 r' = h 206 r' := by rw [hH]; exact ((hup_ne (by decide)).trans (hup_ne (by omega)))
        have g7 : H 207 r' = h 207 r' := by rw [hH]; exact ((hup_ne (by decide)).trans (hup_ne (by omega)))
        refine shS qs (s := s') (r := r') (by omega) (fun k hk hne => shD qs (by omega) hr5 hk hne) (fun k hk hne => ⟨(by rw [hH]; exact ((hup_ne (by decide)).trans (hup_ne (by omega)))), (by rw [hH]; exact ((hup_ne (by decide)).trans (hup_ne (by omega)))), (by rw [hH]; exact ((hup_ne (by decide)).trans (hup_ne (by omega)))), fun i hi => (by rw [hH]; exact ((hup_ne (by omega)).trans (hup_ne (by omega))))⟩) (fun k hk hne => ⟨(by rw [hH]; exact ((hup_ne (by decide)).trans (hup_ne (by omega)))), (by rw [hH]; exact ((hup_ne (by decide)).trans (hup_ne (by omega)))), fun i hi => (by rw [hH]; exact ((hup_nj (by omega)).trans (hup_ne (by omega))))⟩) (Or.inr ⟨by omega, by omega, by omega, by omega, by omega, fun i hi => ?_⟩)
        by_cases e : i = i'
        · subst e
          have y1 : H 208 (40 * r' + i) = ((ρ 5)) := by rw [hH]; exact hup_eq
          have y2 : H (185 + s') i = ((ρ 5)) := by rw [hH]; exact ((hup_ne (by omega)).trans hup_eq)
          rw [y1, y2]
        · have y1 : H 208 (40 * r' + i) = h 208 (40 * r' + i) := by rw [hH]; exact ((hup_nj (by omega)).trans (hup_ne (by omega)))
          have y2 : H (185 + s') i = h (185 + s') i := by rw [hH]; exact ((hup_ne (by omega)).trans (hup_nj (by omega)))
          rw [y1, y2]
          exact shI qs (by omega) hr5 hi
      exact ⟨RR_op PS_ok GS_ok fr (by decide +kernel) (fun _ hc => by cases hc) (List.forall_mem_cons.mpr ⟨Or.inr p_sheet, (fun _ hc => by cases hc)⟩) q, rfl⟩
theorem rel_item {ρ : Nat → Int} {h h1 h2 : bH} {r1 r2 : Option bV} (q : RR PS GS h) (s1 : s_itemB (evS ρ [(2, fcon 0), (0, fid 3), (0, fid 4), (0, fid 5)]) h r1 h1) (s2 : s_itemM (evS ρ [(2, fcon 193), (0, fid 3), (0, fid 4), (0, fid 5)]) h1 r2 h2) : RR PS GS h2 ∧ r1 = r2 := by
  have ht : TH h := s1.1
  have qs : gc_sheet.1 h := q.2.2 gc_sheet (List.Mem.head _)
  have rl : ¬ (0 ≤ ρ 3 ∧ ρ 3 ≤ 3) ∨ (h 182 (ρ 3).toNat = -1 ∧ h 205 (ρ 3).toNat = -1) ∨ (0 ≤ h 205 (ρ 3).toNat ∧ h 205 (ρ 3).toNat < 8 ∧ h 206 (h 205 (ρ 3).toNat).toNat = h 182 (ρ 3).toNat ∧ 0 ≤ h 182 (ρ 3).toNat ∧ h 207 (h 205 (ρ 3).toNat).toNat = h 183 (ρ 3).toNat) := by
    by_cases e : 0 ≤ ρ 3 ∧ ρ 3 ≤ 3
    · exact Or.inr (shR qs (by omega))
    · exact Or.inl e
  have t1 := s1.2 (ρ 3) (ρ 4) (ρ 5) (h 182 (ρ 3).toNat) (h 183 (ρ 3).toNat) (show [((2 : Nat), ev ρ (fcon 0)), (0, ev ρ (fid 3)), (0, ev ρ (fid 4)), (0, ev ρ (fid 5))] = [(2, ((0 : Nat) : Int)), (0, (ρ 3)), (0, (ρ 4)), (0, (ρ 5))] from by rw [fcon_ev, fid_ev, fid_ev, fid_ev]; rfl) rfl rfl
  rcases t1 with ⟨k1, rfl, rfl⟩ | ⟨k1, rfl, rfl⟩ | ⟨k1, rfl, rfl⟩ | ⟨k1, rfl, rfl⟩ | ⟨k1, rfl, rfl⟩
  · have t2 := s2.2 (ρ 3) (ρ 4) (ρ 5) (h 205 (ρ 3).toNat) (h 206 (h 205 (ρ 3).toNat).toNat) (h 207 (h 205 (ρ 3).toNat).toNat) (show [((2 : Nat), ev ρ (fcon 193)), (0, ev ρ (fid 3)), (0, ev ρ (fid 4)), (0, ev ρ (fid 5))] = [(2, ((193 : Nat) : Int)), (0, (ρ 3)), (0, (ρ 4)), (0, (ρ 5))] from by rw [fcon_ev, fid_ev, fid_ev, fid_ev]; rfl) rfl rfl rfl
    rcases t2 with ⟨k2, rfl, rfl⟩ | ⟨k2, rfl, rfl⟩ | ⟨k2, rfl, rfl⟩ | ⟨k2, rfl, rfl⟩ | ⟨k2, rfl, rfl⟩
    · exact ⟨q, rfl⟩
    · exfalso; omega
    · exfalso; omega
    · exfalso; omega
    · exfalso; omega
  · have t2 := s2.2 (ρ 3) (ρ 4) (ρ 5) (h 205 (ρ 3).toNat) (h 206 (h 205 (ρ 3).toNat).toNat) (h 207 (h 205 (ρ 3).toNat).toNat) (show [((2 : Nat), ev ρ (fcon 193)), (0, ev ρ (fid 3)), (0, ev ρ (fid 4)), (0, ev ρ (fid 5))] = [(2, ((193 : Nat) : Int)), (0, (ρ 3)), (0, (ρ 4)), (0, (ρ 5))] from by rw [fcon_ev, fid_ev, fid_ev, fid_ev]; rfl) rfl rfl rfl
    rcases t2 with ⟨k2, rfl, rfl⟩ | ⟨k2, rfl, rfl⟩ | ⟨k2, rfl, rfl⟩ | ⟨k2, rfl, rfl⟩ | ⟨k2, rfl, rfl⟩
    · exfalso; omega
    · exact ⟨q, rfl⟩
    · exfalso; omega
    · exfalso; omega
    · exfalso; omega
  · have t2 := s2.2 (ρ 3) (ρ 4) (ρ 5) (h 205 (ρ 3).toNat) (h 206 (h 205 (ρ 3).toNat).toNat) (h 207 (h 205 (ρ 3).toNat).toNat) (show [((2 : Nat), ev ρ (fcon 193)), (0, ev ρ (fid 3)), (0, ev ρ (fid 4)), (0, ev ρ (fid 5))] = [(2, ((193 : Nat) : Int)), (0, (ρ 3)), (0, (ρ 4)), (0, (ρ 5))] from by rw [fcon_ev, fid_ev, fid_ev, fid_ev]; rfl) rfl rfl rfl
    rcases t2 with ⟨k2, rfl, rfl⟩ | ⟨k2, rfl, rfl⟩ | ⟨k2, rfl, rfl⟩ | ⟨k2, rfl, rfl⟩ | ⟨k2, rfl, rfl⟩
    · exfalso; omega
    · exfalso; omega
    · exact ⟨q, rfl⟩
    · exfalso; omega
    · exfalso; omega
  · have t2 := s2.2 (ρ 3) (ρ 4) (ρ 5) (h 205 (ρ 3).toNat) (h 206 (h 205 (ρ 3).toNat).toNat) (h 207 (h 205 (ρ 3).toNat).toNat) (show [((2 : Nat), ev ρ (fcon 193)), (0, ev ρ (fid 3)), (0, ev ρ (fid 4)), (0, ev ρ (fid 5))] = [(2, ((193 : Nat) : Int)), (0, (ρ 3)), (0, (ρ 4)), (0, (ρ 5))] from by rw [fcon_ev, fid_ev, fid_ev, fid_ev]; rfl) rfl rfl rfl
    rcases t2 with ⟨k2, rfl, rfl⟩ | ⟨k2, rfl, rfl⟩ | ⟨k2, rfl, rfl⟩ | ⟨k2, rfl, rfl⟩ | ⟨k2, rfl, rfl⟩
    · exfalso; omega
    · exfalso; omega
    · exfalso; omega
    · exact ⟨q, rfl⟩
    · exfalso; omega
  · have t2 := s2.2 (ρ 3) (ρ 4) (ρ 5) (h 205 (ρ 3).toNat) (h 206 (h 205 (ρ 3).toNat).toNat) (h 207 (h 205 (ρ 3).toNat).toNat) (show [((2 : Nat), ev ρ (fcon 193)), (0, ev ρ (fid 3)), (0, ev ρ (fid 4)), (0, ev ρ (fid 5))] = [(2, ((193 : Nat) : Int)), (0, (ρ 3)), (0, (ρ 4)), (0, (ρ 5))] from by rw [fcon_ev, fid_ev, fid_ev, fid_ev]; rfl) rfl rfl rfl
    rcases t2 with ⟨k2, rfl, rfl⟩ | ⟨k2, rfl, rfl⟩ | ⟨k2, rfl, rfl⟩ | ⟨k2, rfl, rfl⟩ | ⟨k2, rfl, rfl⟩
    · exfalso; omega
    · exfalso; omega
    · exfalso; omega
    · exfalso; omega
    · exact ⟨q, (by have e183 := ty_183_s0 ht (j := (ρ 3).toNat) (r := (ρ 3).toNat) (by omega) (by omega); rw [shI qs (s := (ρ 3).toNat) (by omega) (by omega) (by omega)])⟩
