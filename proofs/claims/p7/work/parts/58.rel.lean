/-! THE RELATION -/
def pc_now : Pc := (fun h t D => h (2 + t) 0 = h D 0, [(2, 0, 1)], [(0, 1)])
theorem pc_now_ok : PcOK pc_now := fun h h' t t' D D' hc hd q => by
  show h' (2 + t') 0 = h' D' 0
  rw [hc 2 0 (by decide), hd 0 (by decide)]
  exact q
def f_join (b : Nat) (z x y : Nat → Int) : Prop := (x 0) = (y 0) ∧ (x 1) = (y 2) ∧ (y 1) = (if bitB (z 0) b = true then 1 else 0)
theorem f_join_ok : recF 2 1 3 f_join := fun b z z' x x' y y' hz hx hy q => by
  unfold f_join at q ⊢
  rw [hx 0 (by decide), hx 1 (by decide), hy 0 (by decide), hy 1 (by decide), hy 2 (by decide), hz 0 (by decide)]
  exact q
def pc_join : Pc := recX (2, 15) 10 24 204 3 [12, 13] [(2, 16)] f_join
theorem pc_join_ok : PcOK pc_join := recX_ok f_join_ok
def pc_jsort : Pc := (fun h _ D => ∃ c : Nat, h D 10 = (c : Int) ∧ c ≤ 24 ∧ (∀ b b', b ≤ b' → b' < c → h D (204 + 3 * b + 2) ≤ h D (204 + 3 * b' + 2)) ∧ ∀ b, b < c → h D (204 + 3 * b + 2) ≤ h D 0, [], [(0, 1), (10, 11), (204, 276)])
theorem inD_3 {j : Nat} (h1 : 204 ≤ j) (h2 : j < 276) : inD [(0, 1), (10, 11), (204, 276)] j = true := List.any_eq_true.mpr ⟨(204, 276), by decide, by simp [h1, h2]⟩
theorem pc_jsort_ok : PcOK pc_jsort := fun h h' t t' D D' hc hd q => by
  obtain ⟨c, q1, q2, q3, q4⟩ := q
  refine ⟨c, (hd 10 (by decide)).trans q1, q2, fun b b' h1 h2 => ?_, fun b hb => ?_⟩
  · rw [hd _ (inD_3 (by omega) (by omega)), hd _ (inD_3 (by omega) (by omega))]
    exact q3 b b' h1 h2
  · rw [hd _ (inD_3 (by omega) (by omega)), hd 0 (by decide)]
    exact q4 b hb
def PS : List Pc := [pc_now, pc_join, pc_jsort]
def GS : List Gc := []
theorem PS_ok : ∀ c ∈ PS, PcOK c := (List.forall_mem_cons.mpr ⟨pc_now_ok, (List.forall_mem_cons.mpr ⟨pc_join_ok, (List.forall_mem_cons.mpr ⟨pc_jsort_ok, (fun _ hc => by cases hc)⟩)⟩)⟩)
theorem GS_ok : ∀ c ∈ GS, GcOK c := (fun _ hc => by cases hc)
theorem rel_months {ρ : Nat → Int} {h h1 h2 : bH} {r1 r2 : Option bV} (q : RR PS GS h) (s1 : s_monthsB (evS ρ [(2, fcon 0), (0, fid 3)]) h r1 h1) (s2 : s_monthsM (evS ρ [(2, fcon 193), (0, fid 3)]) h1 r2 h2) : RR PS GS h2 ∧ r1 = r2 := by
  have ht : TH h := s1.1
  have hN : h 2 0 = h 194 0 := (q.2.1 pc_now (List.Mem.head _)).1
  have t1 := s1.2 (ρ 3) (h 2 0) (show [((2 : Nat), ev ρ (fcon 0)), (0, ev ρ (fid 3))] = [(2, ((0 : Nat) : Int)), (0, (ρ 3))] from by rw [fcon_ev, fid_ev]; rfl) rfl
  rcases t1 with ⟨k1, rfl, rfl⟩ | ⟨k1, rfl, rfl⟩ | ⟨k1, rfl, rfl⟩
  · have t2 := s2.2 (ρ 3) (h 2 0) (show [((2 : Nat), ev ρ (fcon 193)), (0, ev ρ (fid 3))] = [(2, ((193 : Nat) : Int)), (0, (ρ 3))] from by rw [fcon_ev, fid_ev]; rfl) hN.symm
    rcases t2 with ⟨k2, rfl, rfl⟩ | ⟨k2, rfl, rfl⟩ | ⟨k2, rfl, rfl⟩
    · exact ⟨q, rfl⟩
    · exfalso; omega
    · exfalso; omega
  · have t2 := s2.2 (ρ 3) (h 2 0) (show [((2 : Nat), ev ρ (fcon 193)), (0, ev ρ (fid 3))] = [(2, ((193 : Nat) : Int)), (0, (ρ 3))] from by rw [fcon_ev, fid_ev]; rfl) hN.symm
    rcases t2 with ⟨k2, rfl, rfl⟩ | ⟨k2, rfl, rfl⟩ | ⟨k2, rfl, rfl⟩
    · exfalso; omega
    · exact ⟨q, rfl⟩
    · exfalso; omega
  · have t2 := s2.2 (ρ 3) (h 2 0) (show [((2 : Nat), ev ρ (fcon 193)), (0, ev ρ (fid 3))] = [(2, ((193 : Nat) : Int)), (0, (ρ 3))] from by rw [fcon_ev, fid_ev]; rfl) ((hup_ne (by decide)).trans hN.symm)
    rcases t2 with ⟨k2, rfl, rfl⟩ | ⟨k2, rfl, rfl⟩ | ⟨k2, rfl, rfl⟩
    · exfalso; omega
    · exfalso; omega
    · skip
      obtain ⟨H, hH⟩ : ∃ H : bH, H = (hup (hup h 2 (0) (((h 2 0)) + ((ρ 3)))) 194 (0) (((h 2 0)) + ((ρ 3)))) := ⟨_, rfl⟩
      rw [← hH]
      have fr : ∀ a j, wrF (some [(2, 0, 1), (194, 0, 1)]) a j = false → H a j = h a j := by rw [hH]; exact (fr_up (fr_up (fun _ _ _ => rfl) (wr_in (lo := 0) (hi := 1) (by decide) (by omega) (by omega))) (wr_in (lo := 0) (hi := 1) (by decide) (by omega) (by omega)))
      have p_now : pc_now.1 H 0 194 := by
        show H 2 0 = H 194 0
        rw [hH]
        exact (((hup_ne (by decide)).trans hup_eq)).trans ((by omega : (_ : Int) = _).trans (hup_eq).symm)
      have p_jsort : pc_jsort.1 H 0 194 := by
        obtain ⟨c', jc, jl, js, jn⟩ : pc_jsort.1 h 0 194 := (q.2.1 pc_jsort (List.Mem.tail _ (List.Mem.tail _ (List.Mem.head _)))).1
        have e0 : H 194 0 = (((h 2 0)) + ((ρ 3))) := by rw [hH]; exact hup_eq
        have er : ∀ j, 1 ≤ j → H 194 j = h 194 j := fun j hj => by rw [hH]; exact ((hup_nj (by omega)).trans (hup_ne (by decide)))
        refine ⟨c', (er 10 (by decide)).trans jc, jl, fun b b' h1 h2 => ?_, fun b hb => ?_⟩
        · rw [er _ (by omega), er _ (by omega)]
          exact js b b' h1 h2
        · rw [er _ (by omega), e0]
          have := jn b hb
          omega
      exact ⟨RR_op PS_ok GS_ok fr (by decide +kernel) (List.forall_mem_cons.mpr ⟨⟨by decide +kernel, Or.inr p_now⟩, (List.forall_mem_cons.mpr ⟨⟨by decide +kernel, Or.inl (by decide +kernel)⟩, (List.forall_mem_cons.mpr ⟨⟨by decide +kernel, Or.inr p_jsort⟩, (fun _ hc => by cases hc)⟩)⟩)⟩) (fun _ hc => by cases hc) q, rfl⟩
theorem in_eq {h : bH} {c : Nat} {o m : Int} (ht : TH h) (lc : c ≤ 24) (q : ∀ b, b < c → (h 12 b) = (h 194 (204 + 3 * b)) ∧ (h 13 b) = (h 194 (204 + 3 * b + 2)) ∧ (h 194 (204 + 3 * b + 1)) = (if bitB (h 2 16) b = true then 1 else 0)) (s : ∀ b b', b ≤ b' → b' < c → h 194 (204 + 3 * b + 2) ≤ h 194 (204 + 3 * b' + 2)) : ∀ b, b ≤ c → (inM h o m b).1 = inA h o m b ∧ ∀ b', b ≤ b' → b' < c → (inM h o m b).2 ≤ h 194 (204 + 3 * b' + 2)
  | 0, _ => ⟨rfl, fun b' _ hb => by
    have := ty_194_s206 ht (j := 204 + 3 * b' + 2) (r := b') (by omega) (by omega)
    show (-1 : Int) ≤ _
    omega⟩
  | b + 1, hb => by
    obtain ⟨i1, i2⟩ := in_eq (o := o) (m := m) ht lc q s b (by omega)
    obtain ⟨q1, q2, q3⟩ := q b (by omega)
    have i3 := i2 b (Nat.le_refl _) (by omega)
    have hs : ∀ b', b + 1 ≤ b' → b' < c → (inM h o m b).2 ≤ h 194 (204 + 3 * b' + 2) := fun b' h1 h2 => i2 b' (by omega) h2
    simp only [inM, inA]
    rw [q1, q2]
    by_cases e : h 194 (204 + 3 * b) = o ∧ h 194 (204 + 3 * b + 2) ≤ m
    · rw [if_pos ⟨e.1, e.2, i3⟩, if_pos e]
      refine ⟨?_, fun b' h1 h2 => s b b' (by omega) h2⟩
      dsimp only
      rw [bit_rd (by omega), q3]
      cases bitB (h 2 16) b <;> simp
    · rw [if_neg (fun w => e ⟨w.1, w.2.1⟩), if_neg e]
      exact ⟨i1, hs⟩
theorem rel_join0 {ρ : Nat → Int} {h h1 h2 : bH} {r1 r2 : Option bV} (q : RR PS GS h) (s1 : s_joinB (evS ρ [(2, fcon 0), (0, fid 3), (0, fcon 0)]) h r1 h1) (s2 : s_joinM (evS ρ [(2, fcon 193), (0, fid 3), (0, fcon 0)]) h1 r2 h2) : RR PS GS h2 ∧ r1 = r2 := by
  have ht : TH h := s1.1
  have hN : h 2 0 = h 194 0 := (q.2.1 pc_now (List.Mem.head _)).1
  obtain ⟨c, hc, mc, lc, gc⟩ : (recX (2, 15) 10 24 204 3 [12, 13] [(2, 16)] f_join).1 h 0 194 := (q.2.1 pc_join (List.Mem.tail _ (List.Mem.head _))).1
  have js : ∀ b b', b ≤ b' → b' < c → h 194 (204 + 3 * b + 2) ≤ h 194 (204 + 3 * b' + 2) := by
    obtain ⟨c', jc, jl, js, jn⟩ : pc_jsort.1 h 0 194 := (q.2.1 pc_jsort (List.Mem.tail _ (List.Mem.tail _ (List.Mem.head _)))).1
    obtain rfl : c' = c := by omega
    exact js
  have t1 := s1.2 (ρ 3) (0) c (h 2 0) (h 2 16) (show [((2 : Nat), ev ρ (fcon 0)), (0, ev ρ (fid 3)), (0, ev ρ (fcon (0)))] = [(2, ((0 : Nat) : Int)), (0, (ρ 3)), (0, (0))] from by rw [fcon_ev, fid_ev]; rfl) hc rfl rfl
  rcases t1 with ⟨k1, rfl, rfl⟩ | ⟨k1, rfl, rfl⟩ | ⟨k1, rfl, rfl⟩ | ⟨k1, rfl, rfl⟩
  · have t2 := s2.2 (ρ 3) (0) c (h 2 0) (show [((2 : Nat), ev ρ (fcon 193)), (0, ev ρ (fid 3)), (0, ev ρ (fcon (0)))] = [(2, ((193 : Nat) : Int)), (0, (ρ 3)), (0, (0))] from by rw [fcon_ev, fid_ev, fcon_ev]; rfl) mc hN.symm
    rcases t2 with ⟨k2, rfl, rfl⟩ | ⟨k2, rfl, rfl⟩ | ⟨k2, rfl, rfl⟩ | ⟨k2, rfl, rfl⟩
    · exact ⟨q, rfl⟩
    · exfalso; omega
    · exfalso; omega
    · exfalso; omega
  · have t2 := s2.2 (ρ 3) (0) c (h 2 0) (show [((2 : Nat), ev ρ (fcon 193)), (0, ev ρ (fid 3)), (0, ev ρ (fcon (0)))] = [(2, ((193 : Nat) : Int)), (0, (ρ 3)), (0, (0))] from by rw [fcon_ev, fid_ev, fcon_ev]; rfl) mc hN.symm
    rcases t2 with ⟨k2, rfl, rfl⟩ | ⟨k2, rfl, rfl⟩ | ⟨k2, rfl, rfl⟩ | ⟨k2, rfl, rfl⟩
    · exfalso; omega
    · exact ⟨q, rfl⟩
    · exfalso; omega
    · exfalso; omega
  · have t2 := s2.2 (ρ 3) (0) c (h 2 0) (show [((2 : Nat), ev ρ (fcon 193)), (0, ev ρ (fid 3)), (0, ev ρ (fcon (0)))] = [(2, ((193 : Nat) : Int)), (0, (ρ 3)), (0, (0))] from by rw [fcon_ev, fid_ev, fcon_ev]; rfl) (((hup_ne (by decide)).trans ((hup_ne (by decide)).trans ((hup_ne (by decide)).trans (hup_ne (by decide))))).trans mc) (((hup_ne (by decide)).trans ((hup_ne (by decide)).trans ((hup_ne (by decide)).trans (hup_ne (by decide))))).trans hN.symm)
    rcases t2 with ⟨k2, rfl, rfl⟩ | ⟨k2, rfl, rfl⟩ | ⟨k2, rfl, rfl⟩ | ⟨k2, rfl, rfl⟩
    · exfalso; omega
    · exfalso; omega
    · exfalso; omega
    · exfalso; omega
  · have t2 := s2.2 (ρ 3) (0) c (h 2 0) (show [((2 : Nat), ev ρ (fcon 193)), (0, ev ρ (fid 3)), (0, ev ρ (fcon (0)))] = [(2, ((193 : Nat) : Int)), (0, (ρ 3)), (0, (0))] from by rw [fcon_ev, fid_ev, fcon_ev]; rfl) (((hup_ne (by decide)).trans ((hup_ne (by decide)).trans ((hup_ne (by decide)).trans (hup_ne (by decide))))).trans mc) (((hup_ne (by decide)).trans ((hup_ne (by decide)).trans ((hup_ne (by decide)).trans (hup_ne (by decide))))).trans hN.symm)
    rcases t2 with ⟨k2, rfl, rfl⟩ | ⟨k2, rfl, rfl⟩ | ⟨k2, rfl, rfl⟩ | ⟨k2, rfl, rfl⟩
    · exfalso; omega
    · exfalso; omega
    · exfalso; omega
    · skip
      obtain ⟨H, hH⟩ : ∃ H : bH, H = (hup (hup (hup (hup (hup (hup (hup (hup h 12 (c) ((ρ 3))) 13 (c) ((h 2 0))) 2 (16) (andI ((h 2 16)) (xorI (shlI 1 ((c : Nat) : Int)) (-1)))) 2 (15) (((c + 1) : Nat) : Int)) 194 ((204 + (3 * c))) ((ρ 3))) 194 (((204 + (3 * c)) + 1)) ((0 : Nat) : Int)) 194 (((204 + (3 * c)) + 2)) ((h 2 0))) 194 (10) (((c + 1) : Nat) : Int)) := ⟨_, rfl⟩
      rw [← hH]
      have fr : ∀ a j, wrF (some [(2, 15, 16), (2, 16, 17), (12, 0, 24), (13, 0, 24), (194, 10, 11), (194, 204, 276)]) a j = false → H a j = h a j := by rw [hH]; exact (fr_up (fr_up (fr_up (fr_up (fr_up (fr_up (fr_up (fr_up (fun _ _ _ => rfl) (wr_in (lo := 0) (hi := 24) (by decide) (by omega) (by omega))) (wr_in (lo := 0) (hi := 24) (by decide) (by omega) (by omega))) (wr_in (lo := 16) (hi := 17) (by decide) (by omega) (by omega))) (wr_in (lo := 15) (hi := 16) (by decide) (by omega) (by omega))) (wr_in (lo := 204) (hi := 276) (by decide) (by omega) (by omega))) (wr_in (lo := 204) (hi := 276) (by decide) (by omega) (by omega))) (wr_in (lo := 204) (hi := 276) (by decide) (by omega) (by omega))) (wr_in (lo := 10) (hi := 11) (by decide) (by omega) (by omega)))
      have e1 : H 2 (15) = (((c + 1) : Nat) : Int) := by rw [hH]; exact ((hup_ne (by decide)).trans ((hup_ne (by decide)).trans ((hup_ne (by decide)).trans ((hup_ne (by decide)).trans hup_eq))))
      have e2 : H 194 (10) = (((c + 1) : Nat) : Int) := by rw [hH]; exact hup_eq
      have x0 : H 12 (c) = ((ρ 3)) := by rw [hH]; exact ((hup_ne (by decide)).trans ((hup_ne (by decide)).trans ((hup_ne (by decide)).trans ((hup_ne (by decide)).trans ((hup_ne (by decide)).trans ((hup_ne (by decide)).trans ((hup_ne (by decide)).trans hup_eq)))))))
      have x1 : H 13 (c) = ((h 2 0)) := by rw [hH]; exact ((hup_ne (by decide)).trans ((hup_ne (by decide)).trans ((hup_ne (by decide)).trans ((hup_ne (by decide)).trans ((hup_ne (by decide)).trans ((hup_ne (by decide)).trans hup_eq))))))
      have y0 : H 194 (204 + 3 * c) = ((ρ 3)) := by rw [hH]; exact ((hup_nj (by omega)).trans ((hup_nj (by omega)).trans ((hup_nj (by omega)).trans hup_eq)))
      have y1 : H 194 (204 + 3 * c + 1) = ((0 : Nat) : Int) := by rw [hH]; exact ((hup_nj (by omega)).trans ((hup_nj (by omega)).trans hup_eq))
      have y2 : H 194 (204 + 3 * c + 2) = ((h 2 0)) := by rw [hH]; exact ((hup_nj (by omega)).trans hup_eq)
      have zz0 : H 2 (16) = (andI ((h 2 16)) (xorI (shlI 1 ((c : Nat) : Int)) (-1))) := by rw [hH]; exact ((hup_ne (by decide)).trans ((hup_ne (by decide)).trans ((hup_ne (by decide)).trans ((hup_ne (by decide)).trans ((hup_nj (by omega)).trans hup_eq)))))
      have p_join : pc_join.1 H 0 194 := by
        refine recX_push (As := [12, 13]) (zs := [(2, 16)]) (s := 3) (B := 204) (N := 24) (n0 := 10) (cn := (2, 15)) f_join_ok (t := 0) (D := 194) (c := c) hc (q.2.1 _ (List.Mem.tail _ (List.Mem.head _))).1 (by omega) e1 e2 (fun i hi b hb => ?_) (fun j j1 j2 => ?_) (fun b x y hb q => by
          have q0 : x 0 = y 0 ∧ x 1 = y 2 ∧ y 1 = (if bitB (h 2 16) b = true then 1 else 0) := q
          show x 0 = y 0 ∧ x 1 = y 2 ∧ y 1 = (if bitB (H 2 16) b = true then 1 else 0)
          have e : bitB (H 2 16) b = bitB (h 2 16) b := by
            rw [zz0]
            refine (bit_clr (by omega) (by omega)).trans ?_
            rw [decide_eq_false (by omega)]
            cases bitB (h 2 16) b <;> rfl
          rw [e]
          exact q0) ?_
        · match i, hi with
          | 0, _ => exact (by rw [hH]; exact ((hup_ne (by decide)).trans ((hup_ne (by decide)).trans ((hup_ne (by decide)).trans ((hup_ne (by decide)).trans ((hup_ne (by decide)).trans ((hup_ne (by decide)).trans ((hup_ne (by decide)).trans (hup_nj (by omega))))))))) : H 12 b = h 12 b)
          | 1, _ => exact (by rw [hH]; exact ((hup_ne (by decide)).trans ((hup_ne (by decide)).trans ((hup_ne (by decide)).trans ((hup_ne (by decide)).trans ((hup_ne (by decide)).trans ((hup_ne (by decide)).trans ((hup_nj (by omega)).trans (hup_ne (by decide))))))))) : H 13 b = h 13 b)
          | i + 2, hi => exact absurd hi (by show ¬ i + 2 < 2; omega)
        · rw [hH]; exact ((hup_nj (by omega)).trans ((hup_nj (by omega)).trans ((hup_nj (by omega)).trans ((hup_nj (by omega)).trans ((hup_ne (by decide)).trans ((hup_ne (by decide)).trans ((hup_ne (by decide)).trans (hup_ne (by decide)))))))))
        · show (H 12 c) = (H 194 (204 + 3 * c)) ∧ (H 13 c) = (H 194 (204 + 3 * c + 2)) ∧ (H 194 (204 + 3 * c + 1)) = (if bitB (H 2 16) c = true then 1 else 0)
          have e : bitB (H 2 16) c = false := by
            rw [zz0]
            refine (bit_clr (by omega) (by omega)).trans ?_
            rw [decide_eq_true rfl]
            cases bitB (h 2 16) c <;> rfl
          rw [e]
          refine ⟨by omega, by omega, ?_⟩
          rw [y1]
          simp
      have p_jsort : pc_jsort.1 H 0 194 := by
        obtain ⟨c', jc, jl, js, jn⟩ : pc_jsort.1 h 0 194 := (q.2.1 pc_jsort (List.Mem.tail _ (List.Mem.tail _ (List.Mem.head _)))).1
        obtain rfl : c' = c := by omega
        have f1 : H 194 10 = ((c' + 1 : Nat) : Int) := by rw [hH]; exact hup_eq
        have f2 : H 194 (204 + 3 * c' + 2) = h 2 0 := by rw [hH]; exact ((hup_nj (by omega)).trans hup_eq)
        have f3 : H 194 0 = h 194 0 := by rw [hH]; exact ((hup_nj (by omega)).trans ((hup_nj (by omega)).trans ((hup_nj (by omega)).trans ((hup_nj (by omega)).trans ((hup_ne (by decide)).trans ((hup_ne (by decide)).trans ((hup_ne (by decide)).trans (hup_ne (by decide)))))))))
        have er : ∀ j, 204 ≤ j → j < 204 + 3 * c' → H 194 j = h 194 j := fun j j1 j2 => by rw [hH]; exact ((hup_nj (by omega)).trans ((hup_nj (by omega)).trans ((hup_nj (by omega)).trans ((hup_nj (by omega)).trans ((hup_ne (by decide)).trans ((hup_ne (by decide)).trans ((hup_ne (by decide)).trans (hup_ne (by decide)))))))))
        refine ⟨c' + 1, f1, by omega, fun b b' h1 h2 => ?_, fun b hb => ?_⟩
        · by_cases e : b' = c'
          · subst e
            by_cases e2 : b = b'
            · subst e2; exact Int.le_refl _
            · rw [er _ (by omega) (by omega), f2]
              have := jn b (by omega)
              omega
          · rw [er _ (by omega) (by omega), er _ (by omega) (by omega)]
            exact js b b' h1 (by omega)
        · rw [f3]
          by_cases e : b = c'
          · subst e; omega
          · rw [er _ (by omega) (by omega)]
            exact jn b (by omega)
      exact ⟨RR_op PS_ok GS_ok fr (by decide +kernel) (List.forall_mem_cons.mpr ⟨⟨by decide +kernel, Or.inl (by decide +kernel)⟩, (List.forall_mem_cons.mpr ⟨⟨by decide +kernel, Or.inr p_join⟩, (List.forall_mem_cons.mpr ⟨⟨by decide +kernel, Or.inr p_jsort⟩, (fun _ hc => by cases hc)⟩)⟩)⟩) (fun _ hc => by cases hc) q, (by rw [inM_congr c (fun j j1 j2 => ((hup_ne (by decide)).trans ((hup_ne (by decide)).trans ((hup_ne (by decide)).trans (hup_ne (by decide)))))), (in_eq ht lc gc js c (Nat.le_refl _)).1, hN])⟩
theorem rel_join1 {ρ : Nat → Int} {h h1 h2 : bH} {r1 r2 : Option bV} (q : RR PS GS h) (s1 : s_joinB (evS ρ [(2, fcon 0), (0, fid 3), (0, fcon 1)]) h r1 h1) (s2 : s_joinM (evS ρ [(2, fcon 193), (0, fid 3), (0, fcon 1)]) h1 r2 h2) : RR PS GS h2 ∧ r1 = r2 := by
  have ht : TH h := s1.1
  have hN : h 2 0 = h 194 0 := (q.2.1 pc_now (List.Mem.head _)).1
  obtain ⟨c, hc, mc, lc, gc⟩ : (recX (2, 15) 10 24 204 3 [12, 13] [(2, 16)] f_join).1 h 0 194 := (q.2.1 pc_join (List.Mem.tail _ (List.Mem.head _))).1
  have js : ∀ b b', b ≤ b' → b' < c → h 194 (204 + 3 * b + 2) ≤ h 194 (204 + 3 * b' + 2) := by
    obtain ⟨c', jc, jl, js, jn⟩ : pc_jsort.1 h 0 194 := (q.2.1 pc_jsort (List.Mem.tail _ (List.Mem.tail _ (List.Mem.head _)))).1
    obtain rfl : c' = c := by omega
    exact js
  have t1 := s1.2 (ρ 3) (1) c (h 2 0) (h 2 16) (show [((2 : Nat), ev ρ (fcon 0)), (0, ev ρ (fid 3)), (0, ev ρ (fcon (1)))] = [(2, ((0 : Nat) : Int)), (0, (ρ 3)), (0, (1))] from by rw [fcon_ev, fid_ev, fcon_ev]; rfl) hc rfl rfl
  rcases t1 with ⟨k1, rfl, rfl⟩ | ⟨k1, rfl, rfl⟩ | ⟨k1, rfl, rfl⟩ | ⟨k1, rfl, rfl⟩
  · have t2 := s2.2 (ρ 3) (1) c (h 2 0) (show [((2 : Nat), ev ρ (fcon 193)), (0, ev ρ (fid 3)), (0, ev ρ (fcon (1)))] = [(2, ((193 : Nat) : Int)), (0, (ρ 3)), (0, (1))] from by rw [fcon_ev, fid_ev, fcon_ev]; rfl) mc hN.symm
    rcases t2 with ⟨k2, rfl, rfl⟩ | ⟨k2, rfl, rfl⟩ | ⟨k2, rfl, rfl⟩ | ⟨k2, rfl, rfl⟩
    · exact ⟨q, rfl⟩
    · exfalso; omega
    · exfalso; omega
    · exfalso; omega
  · have t2 := s2.2 (ρ 3) (1) c (h 2 0) (show [((2 : Nat), ev ρ (fcon 193)), (0, ev ρ (fid 3)), (0, ev ρ (fcon (1)))] = [(2, ((193 : Nat) : Int)), (0, (ρ 3)), (0, (1))] from by rw [fcon_ev, fid_ev, fcon_ev]; rfl) mc hN.symm
    rcases t2 with ⟨k2, rfl, rfl⟩ | ⟨k2, rfl, rfl⟩ | ⟨k2, rfl, rfl⟩ | ⟨k2, rfl, rfl⟩
    · exfalso; omega
    · exact ⟨q, rfl⟩
    · exfalso; omega
    · exfalso; omega
  · have t2 := s2.2 (ρ 3) (1) c (h 2 0) (show [((2 : Nat), ev ρ (fcon 193)), (0, ev ρ (fid 3)), (0, ev ρ (fcon (1)))] = [(2, ((193 : Nat) : Int)), (0, (ρ 3)), (0, (1))] from by rw [fcon_ev, fid_ev, fcon_ev]; rfl) (((hup_ne (by decide)).trans ((hup_ne (by decide)).trans ((hup_ne (by decide)).trans (hup_ne (by decide))))).trans mc) (((hup_ne (by decide)).trans ((hup_ne (by decide)).trans ((hup_ne (by decide)).trans (hup_ne (by decide))))).trans hN.symm)
    rcases t2 with ⟨k2, rfl, rfl⟩ | ⟨k2, rfl, rfl⟩ | ⟨k2, rfl, rfl⟩ | ⟨k2, rfl, rfl⟩
    · exfalso; omega
    · exfalso; omega
    · skip
      obtain ⟨H, hH⟩ : ∃ H : bH, H = (hup (hup (hup (hup (hup (hup (hup (hup h 12 (c) ((ρ 3))) 13 (c) ((h 2 0))) 2 (16) (orI ((h 2 16)) (shlI 1 ((c : Nat) : Int)))) 2 (15) (((c + 1) : Nat) : Int)) 194 ((204 + (3 * c))) ((ρ 3))) 194 (((204 + (3 * c)) + 1)) ((1 : Nat) : Int)) 194 (((204 + (3 * c)) + 2)) ((h 2 0))) 194 (10) (((c + 1) : Nat) : Int)) := ⟨_, rfl⟩
      rw [← hH]
      have fr : ∀ a j, wrF (some [(2, 15, 16), (2, 16, 17), (12, 0, 24), (13, 0, 24), (194, 10, 11), (194, 204, 276)]) a j = false → H a j = h a j := by rw [hH]; exact (fr_up (fr_up (fr_up (fr_up (fr_up (fr_up (fr_up (fr_up (fun _ _ _ => rfl) (wr_in (lo := 0) (hi := 24) (by decide) (by omega) (by omega))) (wr_in (lo := 0) (hi := 24) (by decide) (by omega) (by omega))) (wr_in (lo := 16) (hi := 17) (by decide) (by omega) (by omega))) (wr_in (lo := 15) (hi := 16) (by decide) (by omega) (by omega))) (wr_in (lo := 204) (hi := 276) (by decide) (by omega) (by omega))) (wr_in (lo := 204) (hi := 276) (by decide) (by omega) (by omega))) (wr_in (lo := 204) (hi := 276) (by decide) (by omega) (by omega))) (wr_in (lo := 10) (hi := 11) (by decide) (by omega) (by omega)))
      have e1 : H 2 (15) = (((c + 1) : Nat) : Int) := by rw [hH]; exact ((hup_ne (by decide)).trans ((hup_ne (by decide)).trans ((hup_ne (by decide)).trans ((hup_ne (by decide)).trans hup_eq))))
      have e2 : H 194 (10) = (((c + 1) : Nat) : Int) := by rw [hH]; exact hup_eq
      have x0 : H 12 (c) = ((ρ 3)) := by rw [hH]; exact ((hup_ne (by decide)).trans ((hup_ne (by decide)).trans ((hup_ne (by decide)).trans ((hup_ne (by decide)).trans ((hup_ne (by decide)).trans ((hup_ne (by decide)).trans ((hup_ne (by decide)).trans hup_eq)))))))
      have x1 : H 13 (c) = ((h 2 0)) := by rw [hH]; exact ((hup_ne (by decide)).trans ((hup_ne (by decide)).trans ((hup_ne (by decide)).trans ((hup_ne (by decide)).trans ((hup_ne (by decide)).trans ((hup_ne (by decide)).trans hup_eq))))))
      have y0 : H 194 (204 + 3 * c) = ((ρ 3)) := by rw [hH]; exact ((hup_nj (by omega)).trans ((hup_nj (by omega)).trans ((hup_nj (by omega)).trans hup_eq)))
      have y1 : H 194 (204 + 3 * c + 1) = ((1 : Nat) : Int) := by rw [hH]; exact ((hup_nj (by omega)).trans ((hup_nj (by omega)).trans hup_eq))
      have y2 : H 194 (204 + 3 * c + 2) = ((h 2 0)) := by rw [hH]; exact ((hup_nj (by omega)).trans hup_eq)
      have zz0 : H 2 (16) = (orI ((h 2 16)) (shlI 1 ((c : Nat) : Int))) := by rw [hH]; exact ((hup_ne (by decide)).trans ((hup_ne (by decide)).trans ((hup_ne (by decide)).trans ((hup_ne (by decide)).trans ((hup_nj (by omega)).trans hup_eq)))))
      have p_join : pc_join.1 H 0 194 := by
        refine recX_push (As := [12, 13]) (zs := [(2, 16)]) (s := 3) (B := 204) (N := 24) (n0 := 10) (cn := (2, 15)) f_join_ok (t := 0) (D := 194) (c := c) hc (q.2.1 _ (List.Mem.tail _ (List.Mem.head _))).1 (by omega) e1 e2 (fun i hi b hb => ?_) (fun j j1 j2 => ?_) (fun b x y hb q => by
          have q0 : x 0 = y 0 ∧ x 1 = y 2 ∧ y 1 = (if bitB (h 2 16) b = true then 1 else 0) := q
          show x 0 = y 0 ∧ x 1 = y 2 ∧ y 1 = (if bitB (H 2 16) b = true then 1 else 0)
          have e : bitB (H 2 16) b = bitB (h 2 16) b := by
            rw [zz0]
            refine (bit_set (by omega) (by omega)).trans ?_
            rw [decide_eq_false (by omega)]
            cases bitB (h 2 16) b <;> rfl
          rw [e]
          exact q0) ?_
        · match i, hi with
          | 0, _ => exact (by rw [hH]; exact ((hup_ne (by decide)).trans ((hup_ne (by decide)).trans ((hup_ne (by decide)).trans ((hup_ne (by decide)).trans ((hup_ne (by decide)).trans ((hup_ne (by decide)).trans ((hup_ne (by decide)).trans (hup_nj (by omega))))))))) : H 12 b = h 12 b)
          | 1, _ => exact (by rw [hH]; exact ((hup_ne (by decide)).trans ((hup_ne (by decide)).trans ((hup_ne (by decide)).trans ((hup_ne (by decide)).trans ((hup_ne (by decide)).trans ((hup_ne (by decide)).trans ((hup_nj (by omega)).trans (hup_ne (by decide))))))))) : H 13 b = h 13 b)
          | i + 2, hi => exact absurd hi (by show ¬ i + 2 < 2; omega)
        · rw [hH]; exact ((hup_nj (by omega)).trans ((hup_nj (by omega)).trans ((hup_nj (by omega)).trans ((hup_nj (by omega)).trans ((hup_ne (by decide)).trans ((hup_ne (by decide)).trans ((hup_ne (by decide)).trans (hup_ne (by decide)))))))))
        · show (H 12 c) = (H 194 (204 + 3 * c)) ∧ (H 13 c) = (H 194 (204 + 3 * c + 2)) ∧ (H 194 (204 + 3 * c + 1)) = (if bitB (H 2 16) c = true then 1 else 0)
          have e : bitB (H 2 16) c = true := by
            rw [zz0]
            refine (bit_set (by omega) (by omega)).trans ?_
            rw [decide_eq_true rfl]
            cases bitB (h 2 16) c <;> rfl
          rw [e]
          refine ⟨by omega, by omega, ?_⟩
          rw [y1]
          simp
      have p_jsort : pc_jsort.1 H 0 194 := by
        obtain ⟨c', jc, jl, js, jn⟩ : pc_jsort.1 h 0 194 := (q.2.1 pc_jsort (List.Mem.tail _ (List.Mem.tail _ (List.Mem.head _)))).1
        obtain rfl : c' = c := by omega
        have f1 : H 194 10 = ((c' + 1 : Nat) : Int) := by rw [hH]; exact hup_eq
        have f2 : H 194 (204 + 3 * c' + 2) = h 2 0 := by rw [hH]; exact ((hup_nj (by omega)).trans hup_eq)
        have f3 : H 194 0 = h 194 0 := by rw [hH]; exact ((hup_nj (by omega)).trans ((hup_nj (by omega)).trans ((hup_nj (by omega)).trans ((hup_nj (by omega)).trans ((hup_ne (by decide)).trans ((hup_ne (by decide)).trans ((hup_ne (by decide)).trans (hup_ne (by decide)))))))))
        have er : ∀ j, 204 ≤ j → j < 204 + 3 * c' → H 194 j = h 194 j := fun j j1 j2 => by rw [hH]; exact ((hup_nj (by omega)).trans ((hup_nj (by omega)).trans ((hup_nj (by omega)).trans ((hup_nj (by omega)).trans ((hup_ne (by decide)).trans ((hup_ne (by decide)).trans ((hup_ne (by decide)).trans (hup_ne (by decide)))))))))
        refine ⟨c' + 1, f1, by omega, fun b b' h1 h2 => ?_, fun b hb => ?_⟩
        · by_cases e : b' = c'
          · subst e
            by_cases e2 : b = b'
            · subst e2; exact Int.le_refl _
            · rw [er _ (by omega) (by omega), f2]
              have := jn b (by omega)
              omega
          · rw [er _ (by omega) (by omega), er _ (by omega) (by omega)]
            exact js b b' h1 (by omega)
        · rw [f3]
          by_cases e : b = c'
          · subst e; omega
          · rw [er _ (by omega) (by omega)]
            exact jn b (by omega)
      exact ⟨RR_op PS_ok GS_ok fr (by decide +kernel) (List.forall_mem_cons.mpr ⟨⟨by decide +kernel, Or.inl (by decide +kernel)⟩, (List.forall_mem_cons.mpr ⟨⟨by decide +kernel, Or.inr p_join⟩, (List.forall_mem_cons.mpr ⟨⟨by decide +kernel, Or.inr p_jsort⟩, (fun _ hc => by cases hc)⟩)⟩)⟩) (fun _ hc => by cases hc) q, (by rw [inM_congr c (fun j j1 j2 => ((hup_ne (by decide)).trans ((hup_ne (by decide)).trans ((hup_ne (by decide)).trans (hup_ne (by decide)))))), (in_eq ht lc gc js c (Nat.le_refl _)).1, hN])⟩
    · exfalso; omega
  · have t2 := s2.2 (ρ 3) (1) c (h 2 0) (show [((2 : Nat), ev ρ (fcon 193)), (0, ev ρ (fid 3)), (0, ev ρ (fcon (1)))] = [(2, ((193 : Nat) : Int)), (0, (ρ 3)), (0, (1))] from by rw [fcon_ev, fid_ev, fcon_ev]; rfl) (((hup_ne (by decide)).trans ((hup_ne (by decide)).trans ((hup_ne (by decide)).trans (hup_ne (by decide))))).trans mc) (((hup_ne (by decide)).trans ((hup_ne (by decide)).trans ((hup_ne (by decide)).trans (hup_ne (by decide))))).trans hN.symm)
    rcases t2 with ⟨k2, rfl, rfl⟩ | ⟨k2, rfl, rfl⟩ | ⟨k2, rfl, rfl⟩ | ⟨k2, rfl, rfl⟩
    · exfalso; omega
    · exfalso; omega
    · exfalso; omega
    · exfalso; omega
theorem rel_members {ρ : Nat → Int} {h h1 h2 : bH} {r1 r2 : Option bV} (q : RR PS GS h) (s1 : s_membersB (evS ρ [(2, fcon 0), (0, fid 3)]) h r1 h1) (s2 : s_membersM (evS ρ [(2, fcon 193), (0, fid 3)]) h1 r2 h2) : RR PS GS h2 ∧ r1 = r2 := by
  have ht : TH h := s1.1
  obtain ⟨c, hc, mc, lc, gc⟩ : (recX (2, 15) 10 24 204 3 [12, 13] [(2, 16)] f_join).1 h 0 194 := (q.2.1 pc_join (List.Mem.tail _ (List.Mem.head _))).1
  have js : ∀ b b', b ≤ b' → b' < c → h 194 (204 + 3 * b + 2) ≤ h 194 (204 + 3 * b' + 2) := by
    obtain ⟨c', jc, jl, js, jn⟩ : pc_jsort.1 h 0 194 := (q.2.1 pc_jsort (List.Mem.tail _ (List.Mem.tail _ (List.Mem.head _)))).1
    obtain rfl : c' = c := by omega
    exact js
  have t1 := s1.2 (ρ 3) c (show [((2 : Nat), ev ρ (fcon 0)), (0, ev ρ (fid 3))] = [(2, ((0 : Nat) : Int)), (0, (ρ 3))] from by rw [fcon_ev, fid_ev]; rfl) hc
  rcases t1 with ⟨k1, rfl, rfl⟩ | ⟨k1, rfl, rfl⟩
  · have t2 := s2.2 (ρ 3) c (show [((2 : Nat), ev ρ (fcon 193)), (0, ev ρ (fid 3))] = [(2, ((193 : Nat) : Int)), (0, (ρ 3))] from by rw [fcon_ev, fid_ev]; rfl) mc
    rcases t2 with ⟨k2, rfl, rfl⟩ | ⟨k2, rfl, rfl⟩
    · exact ⟨q, rfl⟩
    · exfalso; omega
  · have t2 := s2.2 (ρ 3) c (show [((2 : Nat), ev ρ (fcon 193)), (0, ev ρ (fid 3))] = [(2, ((193 : Nat) : Int)), (0, (ρ 3))] from by rw [fcon_ev, fid_ev]; rfl) mc
    rcases t2 with ⟨k2, rfl, rfl⟩ | ⟨k2, rfl, rfl⟩
    · exfalso; omega
    · exact ⟨q, (congrArg (fun z => some (0, z)) (memS_congr 8 (fun j _ => ((in_eq ht lc gc js c (Nat.le_refl _)).1).symm)))⟩
