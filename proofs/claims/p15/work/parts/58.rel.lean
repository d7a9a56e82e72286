/-! THE RELATION -/
def pc_ver : Pc := (fun h t D => h (1 + t) 4 = h D 4, [(1, 4, 5)], [(4, 5)])
theorem pc_ver_ok : PcOK pc_ver := fun h h' t t' D D' hc hd q => by
  show h' (1 + t') 4 = h' D' 4
  rw [hc 1 4 (by decide), hd 4 (by decide)]
  exact q
def gc_tape : Gc := (fun h => h 169 0 = h 193 4 ∧ (0 ≤ h 169 0 ∧ h 169 0 ≤ 220) ∧ ∀ k : Nat, (k : Int) < h 169 0 → h 170 k = h 196 k, [(169, 0, 1), (193, 4, 5), (170, 0, 220), (196, 0, 220)])
theorem gc_tape_ok : GcOK gc_tape := fun h h' hc q => by
  obtain ⟨q1, q2, q3⟩ := q
  have e1 := hc 169 0 (by decide)
  have e2 := hc 193 4 (by decide)
  refine ⟨by rw [e1, e2]; exact q1, by rw [e1]; exact q2, fun k hk => ?_⟩
  rw [e1] at hk
  rw [hc 170 k (wr_in (lo := 0) (hi := 220) (by decide) (Nat.zero_le _) (by omega)), hc 196 k (wr_in (lo := 0) (hi := 220) (by decide) (Nat.zero_le _) (by omega))]
  exact q3 k hk
def PS : List Pc := [pc_ver]
def GS : List Gc := [gc_tape]
theorem PS_ok : ∀ c ∈ PS, PcOK c := (List.forall_mem_cons.mpr ⟨pc_ver_ok, (fun _ hc => by cases hc)⟩)
theorem GS_ok : ∀ c ∈ GS, GcOK c := (List.forall_mem_cons.mpr ⟨gc_tape_ok, (fun _ hc => by cases hc)⟩)
theorem rel_read {vs vs' : List bV} {h h1 h2 : bH} {r1 r2 : Option bV} (q : RR PS GS h) (s1 : s_readB vs h r1 h1) (s2 : s_readM vs' h1 r2 h2) : RR PS GS h2 ∧ r1 = r2 := by
  obtain ⟨g0, gr, gb⟩ : gc_tape.1 h := q.2.2 gc_tape (List.Mem.head _)
  have v0 : h 1 4 = h 194 4 := (q.2.1 pc_ver (List.Mem.head _)).1
  obtain ⟨ht, s1⟩ := s1
  obtain ⟨n, en, ln⟩ := nat_to ht (a := 169) (j := 0) (n := 220) (by decide +kernel)
  obtain ⟨c, ec, lc⟩ := nat_to ht (a := 1) (j := 4) (n := 6) (by decide +kernel)
  obtain ⟨t1, s1⟩ := s1 n c en ec
  obtain ⟨-, s2⟩ := s2
  have f1 := RDB_fr s1
  have eB : ∀ k, k < n → h1 196 k = h 170 k := fun k hk => (f1 196 k (wr_nn (by decide +kernel))).trans (gb k (by omega)).symm
  have m4 : h1 193 4 = (n : Int) := (f1 193 4 (by decide +kernel)).trans (by omega)
  have m0 : h1 194 4 = (c : Int) := (f1 194 4 (by decide +kernel)).trans (by omega)
  obtain ⟨t2, s2⟩ := s2 n c (h 170) m4 m0 eB
  have f2 := RDM_fr s2
  have fr : ∀ a j, wrF (some (w_readB ++ w_readM)) a j = false → h2 a j = h a j := fun a j e => (f2 a j (wr_app e).2).trans (f1 a j (wr_app e).1)
  have kz : h1 169 0 = 0 ∧ h2 193 4 = 0 := ⟨RDB_0 s1, RDM_0 s2⟩
  have p_tape : gc_tape.1 h2 := by
    have z : h2 169 0 = 0 := (f2 169 0 (by decide +kernel)).trans kz.1
    exact ⟨by omega, by omega, fun k hk => by omega⟩
  have p_ver : pc_ver.1 h2 0 194 := by
    show h2 1 4 = h2 194 4
    have z1 := f2 1 4 (by decide +kernel)
    exact z1.trans (rd_ver s1 s2 ec m0)
  refine ⟨RR_op PS_ok GS_ok fr (by decide +kernel) (List.forall_mem_cons.mpr ⟨⟨by decide +kernel, Or.inr p_ver⟩, (fun _ hc => by cases hc)⟩) (List.forall_mem_cons.mpr ⟨Or.inr p_tape, (fun _ hc => by cases hc)⟩) q, rd_ans s1 s2⟩
