/-! THE RELATION -/
def pc_now : Pc := (fun h t D => h (2 + t) 0 = h D 0, [(2, 0, 1)], [(0, 1)])
theorem pc_now_ok : PcOK pc_now := fun h h' t t' D D' hc hd q => by
  show h' (2 + t') 0 = h' D' 0
  rw [hc 2 0 (by decide), hd 0 (by decide)]
  exact q

def gc_tape : Gc := (fun h => h 169 0 = h 193 4 ∧ (0 ≤ h 169 0 ∧ h 169 0 ≤ 220) ∧ ∀ k : Nat, (k : Int) < h 169 0 → h 170 k = h 196 k, [(169, 0, 1), (193, 4, 5), (170, 0, 220), (196, 0, 220)])
theorem gc_tape_ok : GcOK gc_tape := fun h h' hc q => by
  obtain ⟨q1, q2, q3⟩ := q
  have e1 := hc 169 0 (by decide)
  have e2 := hc 193 4 (by decide)
  refine ⟨by rw [e1, e2]; exact q1, by rw [e1]; exact q2, fun k hk => ?_⟩
  rw [e1] at hk
  rw [hc 170 k (wr_in (lo := 0) (hi := 220) (by decide) (Nat.zero_le _) (by omega)), hc 196 k (wr_in (lo := 0) (hi := 220) (by decide) (Nat.zero_le _) (by omega))]
  exact q3 k hk
def PS : List Pc := [pc_now, pc_txt]
def GS : List Gc := [gc_tape]
theorem PS_ok : ∀ c ∈ PS, PcOK c := (List.forall_mem_cons.mpr ⟨pc_now_ok, (List.forall_mem_cons.mpr ⟨pc_txt_ok, (fun _ hc => by cases hc)⟩)⟩)
theorem GS_ok : ∀ c ∈ GS, GcOK c := (List.forall_mem_cons.mpr ⟨gc_tape_ok, (fun _ hc => by cases hc)⟩)
theorem rel_months {ρ : Nat → Int} {h h1 h2 : bH} {r1 r2 : Option bV} (q : RR PS GS h) (s1 : s_monthsB (evS ρ [(2, fcon 0), (0, fid 3)]) h r1 h1) (s2 : s_monthsM (evS ρ [(2, fcon 193), (0, fid 3)]) h1 r2 h2) : RR PS GS h2 ∧ r1 = r2 := by
  have ht : TH h := s1.1
  have hN : h 2 0 = h 194 0 := (q.2.1 pc_now (List.Mem.head _)).1
  have t1 := s1.2 (ρ 3) (h 2 0) (show [((2 : Nat), ev ρ (fcon 0)), (0, ev ρ (fid 3))] = [(2, ((0 : Nat) : Int)), (0, (ρ 3))] from by rw [fcon_ev, fid_ev]; rfl) rfl
  rcases t1 with ⟨k1, rfl, rfl⟩ | ⟨k1, rfl, rfl⟩ | ⟨k1, rfl, rfl⟩
  · have t2 := s2.2 (ρ 3) (h 2 0) (show [((2 : Nat), ev ρ (fcon 193)), (0, ev ρ (fid 3))] = [(2, ((193 : Nat) : Int)), (0, (ρ 3))] from by rw [fcon_ev, fid_ev]; rfl) hN.symm
    rcases t2 with ⟨k2, rfl, rfl⟩ | ⟨k2, rfl, rfl⟩ | ⟨k2, rfl, rfl⟩
    · exact ⟨q, rfl⟩
    · exfalso; omega
    · exfalso; omega
  · have t2 := s2.2 (ρ 3) (h 2 0) (show [((2 : Nat), ev ρ (fcon 193)), (0, ev ρ (fid 3))] = [(2, ((193 : Nat) : Int)), (0, (ρ 3))] from by rw [fcon_ev, fid_ev]; rfl) hN.symm
    rcases t2 with ⟨k2, rfl, rfl⟩ | ⟨k2, rfl, rfl⟩ | ⟨k2, rfl, rfl⟩
    · exfalso; omega
    · exact ⟨q, rfl⟩
    · exfalso; omega
  · have t2 := s2.2 (ρ 3) (h 2 0) (show [((2 : Nat), ev ρ (fcon 193)), (0, ev ρ (fid 3))] = [(2, ((193 : Nat) : Int)), (0, (ρ 3))] from by rw [fcon_ev, fid_ev]; rfl) ((hup_ne (by decide)).trans hN.symm)
    rcases t2 with ⟨k2, rfl, rfl⟩ | ⟨k2, rfl, rfl⟩ | ⟨k2, rfl, rfl⟩
    · exfalso; omega
    · exfalso; omega
    · skip
      obtain ⟨H, hH⟩ : ∃ H : bH, H = (hup (hup h 2 (0) (((h 2 0)) + ((ρ 3)))) 194 (0) (((h 2 0)) + ((ρ 3)))) := ⟨_, rfl⟩
      rw [← hH]
      have fr : ∀ a j, wrF (some [(2, 0, 1), (194, 0, 1)]) a j = false → H a j = h a j := by rw [hH]; exact (fr_up (fr_up (fun _ _ _ => rfl) (wr_in (lo := 0) (hi := 1) (by decide) (by omega) (by omega))) (wr_in (lo := 0) (hi := 1) (by decide) (by omega) (by omega)))
      have p_now : pc_now.1 H 0 194 := by
        show H 2 0 = H 194 0
        rw [hH]
        exact (((hup_ne (by decide)).trans hup_eq)).trans ((by omega : (_ : Int) = _).trans (hup_eq).symm)
      exact ⟨RR_op PS_ok GS_ok fr (by decide +kernel) (List.forall_mem_cons.mpr ⟨⟨by decide +kernel, Or.inr p_now⟩, (List.forall_mem_cons.mpr ⟨⟨by decide +kernel, Or.inl (by decide +kernel)⟩, (fun _ hc => by cases hc)⟩)⟩) (List.forall_mem_cons.mpr ⟨Or.inl (by decide +kernel), (fun _ hc => by cases hc)⟩) q, rfl⟩
theorem rel_read {vs vs' : List bV} {h h1 h2 : bH} {r1 r2 : Option bV} (q : RR PS GS h) (s1 : s_readB vs h r1 h1) (s2 : s_readM vs' h1 r2 h2) : RR PS GS h2 ∧ r1 = r2 := by
  obtain ⟨g0, gr, gb⟩ : gc_tape.1 h := q.2.2 gc_tape (List.Mem.head _)
  have v0 : pc_txt.1 h 0 194 := (q.2.1 pc_txt (List.Mem.tail _ (List.Mem.head _))).1
  have hN0 : h 2 0 = h 194 0 := (q.2.1 pc_now (List.Mem.head _)).1
  obtain ⟨ht, s1⟩ := s1
  obtain ⟨n, en, ln⟩ := nat_to ht (a := 169) (j := 0) (n := 220) (by decide +kernel)
  have v0' := v0
  obtain ⟨c, ec, ec4, lc, vt⟩ := v0'
  obtain ⟨t1, s1⟩ := s1 n c en ec
  obtain ⟨-, s2⟩ := s2
  have f1 := RDB_fr s1
  have eB : ∀ k, k < n → h1 196 k = h 170 k := fun k hk => (f1 196 k (wr_nn (by decide +kernel))).trans (gb k (by omega)).symm
  have m4 : h1 193 4 = (n : Int) := (f1 193 4 (by decide +kernel)).trans (by omega)
  have m0 : h1 194 4 = (c : Int) := (f1 194 4 (by decide +kernel)).trans ec4
  obtain ⟨t2, s2⟩ := s2 n c (h 170) m4 m0 eB
  have f2 := RDM_fr s2
  have fr : ∀ a j, wrF (some (w_readB ++ w_readM)) a j = false → h2 a j = h a j := fun a j e => (f2 a j (wr_app e).2).trans (f1 a j (wr_app e).1)
  have kz : h1 169 0 = 0 ∧ h2 193 4 = 0 := ⟨RDB_0 s1, RDM_0 s2⟩
  have p_tape : gc_tape.1 h2 := by
    have z : h2 169 0 = 0 := (f2 169 0 (by decide +kernel)).trans kz.1
    exact ⟨by omega, by omega, fun k hk => by omega⟩
  have same : (∀ a j, wrF (some wPb) a j = false → h1 a j = h a j) → (∀ a j, wrF (some wRt) a j = false → h2 a j = h1 a j) → pc_txt.1 h2 0 194 := fun f g => Pc_tr pc_txt_ok (fun a j e => (g a j (wdis_ok (fp := fpP pc_txt 0 194) (by decide +kernel) e)).trans (f a j (wdis_ok (fp := fpP pc_txt 0 194) (by decide +kernel) e))) v0
  have f3 : ∀ a j, a ≠ 193 → a ≠ 194 → a < 198 ∨ 203 ≤ a → h2 a j = h1 a j := fun a j n1 n2 n3 => f2 a j (wr_m (fun q hq => by
    unfold w_readM wRt at hq
    simp only [List.cons_append, List.nil_append, List.mem_cons, List.not_mem_nil, or_false] at hq
    rcases hq with rfl | rfl | rfl | rfl | rfl | rfl | rfl | rfl | rfl | rfl | rfl | rfl | rfl | rfl | rfl <;> (dsimp only; omega)))
  have hN : h 2 0 = h1 194 0 := hN0.trans (f1 194 0 (by decide +kernel)).symm
  have an := rd_ans s1 s2
  have p_txt : pc_txt.1 h2 0 194 := by
    rcases s1 with ⟨x1, -, f, -⟩ | ⟨x1, y1, -, f, -⟩ | ⟨x1, y1, -, q1⟩ <;> rcases s2 with ⟨x2, -, g, -⟩ | ⟨x2, y2, -, g, -⟩ | ⟨x2, y2, -, q2⟩
    · exact same f g
    · omega
    · omega
    · omega
    · exact same f g
    · omega
    · omega
    · omega
    · exact ⟨c + 1, (f3 1 4 (by decide) (by decide) (by decide)).trans q1.2.2.1, q2.2.2.1, by omega, txt_new y1 ln x1 q1 q2 f3 hN vt⟩
  exact ⟨RR_op PS_ok GS_ok fr (by decide +kernel) (List.forall_mem_cons.mpr ⟨⟨by decide +kernel, Or.inl (by decide +kernel)⟩, (List.forall_mem_cons.mpr ⟨⟨by decide +kernel, Or.inr p_txt⟩, (fun _ hc => by cases hc)⟩)⟩) (List.forall_mem_cons.mpr ⟨Or.inr p_tape, (fun _ hc => by cases hc)⟩) q, an⟩
theorem rel_version {ρ : Nat → Int} {h h1 h2 : bH} {r1 r2 : Option bV} (q : RR PS GS h) (s1 : s_versionB (evS ρ [(2, fcon 0), (0, fid 3), (0, fid 4)]) h r1 h1) (s2 : s_versionM (evS ρ [(2, fcon 193), (0, fid 3), (0, fid 4)]) h1 r2 h2) : RR PS GS h2 ∧ r1 = r2 := by
  obtain ⟨c, ec, ec4, lc, vt⟩ : pc_txt.1 h 0 194 := (q.2.1 pc_txt (List.Mem.tail _ (List.Mem.head _))).1
  obtain ⟨rfl, t1⟩ := s1.2 (ρ 3) (ρ 4) c (show [((2 : Nat), ev ρ (fcon 0)), (0, ev ρ (fid 3)), (0, ev ρ (fid 4))] = [(2, ((0 : Nat) : Int)), (0, ρ 3), (0, ρ 4)] from by rw [fcon_ev, fid_ev, fid_ev]; rfl) ec
  obtain ⟨f, t2⟩ := s2.2 (ρ 3) (ρ 4) c (show [((2 : Nat), ev ρ (fcon 193)), (0, ev ρ (fid 3)), (0, ev ρ (fid 4))] = [(2, ((193 : Nat) : Int)), (0, ρ 3), (0, ρ 4)] from by rw [fcon_ev, fid_ev, fid_ev]; rfl) ec4
  refine ⟨RR_op (w := wRs) PS_ok GS_ok f (by decide +kernel) (List.forall_mem_cons.mpr ⟨⟨by decide +kernel, Or.inl (by decide +kernel)⟩, (List.forall_mem_cons.mpr ⟨⟨by decide +kernel, Or.inl (by decide +kernel)⟩, (fun _ hc => by cases hc)⟩)⟩) (List.forall_mem_cons.mpr ⟨Or.inl (by decide +kernel), (fun _ hc => by cases hc)⟩) q, ?_⟩
  rcases t1 with ⟨k1, rfl⟩ | ⟨i, hi, ei, rfl⟩ <;> rcases t2 with ⟨k2, rfl⟩ | ⟨i2, hi2, ei2, z⟩
  · rfl
  · omega
  · omega
  · obtain rfl : i2 = i := by omega
    obtain ⟨n, ln, q1, q2, q3, q4, q5⟩ := vt i2 hi2
    obtain ⟨x1, x2, rfl⟩ := z n q1 q3
    have q2 : h1 (43 + 7 * i2) 0 = h1 194 (652 + i2) := q2
    have q4 : h1 (43 + 7 * i2) 1 = (((txF (TXb h1 194 i2) n 9 0).2.length : Nat) : Int) := q4
    have q5 : LNs h1 (44 + 7 * i2) (45 + 7 * i2) 0 (txF (TXb h1 194 i2) n 9 0).2 := q5
    rw [x1, q4, q2, gv_LN rfl q5 x2]
