/-! THE RELATION -/
def pc_now : Pc := (fun h t D => h (2 + t) 0 = h D 0, [(2, 0, 1)], [(0, 1)])
theorem pc_now_ok : PcOK pc_now := fun h h' t t' D D' hc hd q => by
  show h' (2 + t') 0 = h' D' 0
  rw [hc 2 0 (by decide), hd 0 (by decide)]
  exact q
def f_box (b : Nat) (z x y : Nat → Int) : Prop := (0 ≤ y 0 ∧ y 0 < 6 ∧ 0 ≤ y 1 ∧ y 1 < 4 ∧ 0 ≤ y 2 ∧ y 2 < 240) ∧ x 0 = 10000 * y 0 + 1000 * y 1 + y 2 ∧ x 1 = y 3 ∧ x 2 = y 4
theorem f_box_ok : recF 3 0 5 f_box := fun b z z' x x' y y' hz hx hy q => by
  unfold f_box at q ⊢
  rw [hx 0 (by decide), hx 1 (by decide), hx 2 (by decide), hy 0 (by decide), hy 1 (by decide), hy 2 (by decide), hy 3 (by decide), hy 4 (by decide)]
  exact q
def pc_box : Pc := recX (17, 0) 5 24 306 5 [18, 19, 20] [] f_box
theorem pc_box_ok : PcOK pc_box := recX_ok f_box_ok
def PS : List Pc := [pc_now, pc_box]
def GS : List Gc := []
theorem PS_ok : ∀ c ∈ PS, PcOK c := (List.forall_mem_cons.mpr ⟨pc_now_ok, (List.forall_mem_cons.mpr ⟨pc_box_ok, (fun _ hc => by cases hc)⟩)⟩)
theorem GS_ok : ∀ c ∈ GS, GcOK c := (fun _ hc => by cases hc)
theorem rel_months {ρ : Nat → Int} {h h1 h2 : bH} {r1 r2 : Option bV} (q : RR PS GS h) (s1 : s_monthsB (evS ρ [(2, fcon 0), (0, fid 3)]) h r1 h1) (s2 : s_monthsM (evS ρ [(2, fcon 193), (0, fid 3)]) h1 r2 h2) : RR PS GS h2 ∧ r1 = r2 := by
  have ht : TH h := s1.1
  have hN : h 2 0 = h 194 0 := (q.2.1 pc_now (List.Mem.head _)).1
  have t1 := s1.2 (ρ 3) (h 2 0) (show [((2 : Nat), ev ρ (fcon 0)), (0, ev ρ (fid 3))] = [(2, ((0 : Nat) : Int)), (0, (ρ 3))] from by rw [fcon_ev, fid_ev]; rfl) rfl
  rcases t1 with ⟨k1, rfl, rfl⟩ | ⟨k1, rfl, rfl⟩ | ⟨k1, rfl, rfl⟩
  · have t2 := s2.2 (ρ 3) (h 2 0) (show [((2 : Nat), ev ρ (fcon 193)), (0, ev ρ (fid 3))] = [(2, ((193 : Nat) : Int)), (0, (ρ 3))] from by rw [fcon_ev, fid_ev]; rfl) hN.symm
    rcases t2 with ⟨k2, rfl, rfl⟩ | ⟨k2, rfl, rfl⟩ | ⟨k2, rfl, rfl⟩
    · exact ⟨q, rfl⟩
    · exfalso; omega
    · exfalso; omega
  · have t2 := s2.2 (ρ 3) (h 2 0) (show [((2 : Nat), ev ρ (fcon 193)), (0, ev ρ (fid 3))] = [(2, ((193 : Nat) : Int)), (0, (ρ 3))] from by rw [fcon_ev, fid_ev]; rfl) hN.symm
    rcases t2 with ⟨k2, rfl, rfl⟩ | ⟨k2, rfl, rfl⟩ | ⟨k2, rfl, rfl⟩
    · exfalso; omega
    · exact ⟨q, rfl⟩
    · exfalso; omega
  · have t2 := s2.2 (ρ 3) (h 2 0) (show [((2 : Nat), ev ρ (fcon 193)), (0, ev ρ (fid 3))] = [(2, ((193 : Nat) : Int)), (0, (ρ 3))] from by rw [fcon_ev, fid_ev]; rfl) ((hup_ne (by decide)).trans hN.symm)
    rcases t2 with ⟨k2, rfl, rfl⟩ | ⟨k2, rfl, rfl⟩ | ⟨k2, rfl, rfl⟩
    · exfalso; omega
    · exfalso; omega
    · obtain ⟨H, hH⟩ : ∃ H : bH, H = (hup (hup h 2 (0) (((h 2 0)) + ((ρ 3)))) 194 (0) (((h 2 0)) + ((ρ 3)))) := ⟨_, rfl⟩
      rw [← hH]
      have fr : ∀ a j, wrF (some [(2, 0, 1), (194, 0, 1)]) a j = false → H a j = h a j := by rw [hH]; exact (fr_up (fr_up (fun _ _ _ => rfl) (wr_in (lo := 0) (hi := 1) (by decide) (by omega) (by omega))) (wr_in (lo := 0) (hi := 1) (by decide) (by omega) (by omega)))
      have p_now : pc_now.1 H 0 194 := by
        show H 2 0 = H 194 0
        rw [hH]
        exact (((hup_ne (by decide)).trans hup_eq)).trans ((by omega : (_ : Int) = _).trans (hup_eq).symm)
      exact ⟨RR_op PS_ok GS_ok fr (by decide +kernel) (List.forall_mem_cons.mpr ⟨⟨by decide +kernel, Or.inr p_now⟩, (List.forall_mem_cons.mpr ⟨⟨by decide +kernel, Or.inl (by decide +kernel)⟩, (fun _ hc => by cases hc)⟩)⟩) (fun _ hc => by cases hc) q, rfl⟩
theorem rel_boxes {ρ : Nat → Int} {h h1 h2 : bH} {r1 r2 : Option bV} (q : RR PS GS h) (s1 : s_boxesB (evS ρ [(2, fcon 0), (0, fid 3), (0, fid 4)]) h r1 h1) (s2 : s_boxesM (evS ρ [(2, fcon 193), (0, fid 3), (0, fid 4)]) h1 r2 h2) : RR PS GS h2 ∧ r1 = r2 := by
  have ht : TH h := s1.1
  have hN : h 2 0 = h 194 0 := (q.2.1 pc_now (List.Mem.head _)).1
  obtain ⟨c, hc, mc, lc, gc⟩ : (recX (17, 0) 5 24 306 5 [18, 19, 20] [] f_box).1 h 0 194 := (q.2.1 pc_box (List.Mem.tail _ (List.Mem.head _))).1
  have t1 := s1.2 (ρ 3) (ρ 4) c (h 2 0) (show [((2 : Nat), ev ρ (fcon 0)), (0, ev ρ (fid 3)), (0, ev ρ (fid 4))] = [(2, ((0 : Nat) : Int)), (0, (ρ 3)), (0, (ρ 4))] from by rw [fcon_ev, fid_ev, fid_ev]; rfl) hc rfl
  rcases t1 with ⟨k1, rfl, rfl⟩ | ⟨k1, rfl, rfl⟩ | ⟨k1, rfl, rfl⟩
  · have t2 := s2.2 (ρ 3) (ρ 4) c (h 2 0) (show [((2 : Nat), ev ρ (fcon 193)), (0, ev ρ (fid 3)), (0, ev ρ (fid 4))] = [(2, ((193 : Nat) : Int)), (0, (ρ 3)), (0, (ρ 4))] from by rw [fcon_ev, fid_ev, fid_ev]; rfl) mc hN.symm
    rcases t2 with ⟨k2, rfl, rfl⟩ | ⟨k2, rfl, rfl⟩ | ⟨k2, rfl, rfl⟩
    · exact ⟨q, rfl⟩
    · exfalso; omega
    · exfalso; omega
  · have t2 := s2.2 (ρ 3) (ρ 4) c (h 2 0) (show [((2 : Nat), ev ρ (fcon 193)), (0, ev ρ (fid 3)), (0, ev ρ (fid 4))] = [(2, ((193 : Nat) : Int)), (0, (ρ 3)), (0, (ρ 4))] from by rw [fcon_ev, fid_ev, fid_ev]; rfl) mc hN.symm
    rcases t2 with ⟨k2, rfl, rfl⟩ | ⟨k2, rfl, rfl⟩ | ⟨k2, rfl, rfl⟩
    · exfalso; omega
    · exact ⟨q, rfl⟩
    · exfalso; omega
  · have t2 := s2.2 (ρ 3) (ρ 4) c (h 2 0) (show [((2 : Nat), ev ρ (fcon 193)), (0, ev ρ (fid 3)), (0, ev ρ (fid 4))] = [(2, ((193 : Nat) : Int)), (0, (ρ 3)), (0, (ρ 4))] from by rw [fcon_ev, fid_ev, fid_ev]; rfl) (((hup_ne (by decide)).trans ((hup_ne (by decide)).trans ((hup_ne (by decide)).trans (hup_ne (by decide))))).trans mc) (((hup_ne (by decide)).trans ((hup_ne (by decide)).trans ((hup_ne (by decide)).trans (hup_ne (by decide))))).trans hN.symm)
    rcases t2 with ⟨k2, rfl, rfl⟩ | ⟨k2, rfl, rfl⟩ | ⟨k2, rfl, rfl⟩
    · exfalso; omega
    · exfalso; omega
    · obtain ⟨H, hH⟩ : ∃ H : bH, H = (hup (hup (hup (hup (hup (hup (hup (hup (hup (hup h 18 (c) (((ρ 3)))) 19 (c) (((ρ 4)))) 20 (c) (((h 2 0)))) 17 (0) (((c + 1) : Nat) : Int)) 194 ((306 + (5 * c))) (((ρ 3)) / 10000)) 194 (((306 + (5 * c)) + 1)) ((((ρ 3)) / 1000) % 10)) 194 (((306 + (5 * c)) + 2)) (((ρ 3)) % 1000)) 194 (((306 + (5 * c)) + 3)) ((ρ 4))) 194 (((306 + (5 * c)) + 4)) ((h 2 0))) 194 (5) (((c + 1) : Nat) : Int)) := ⟨_, rfl⟩
      rw [← hH]
      have fr : ∀ a j, wrF (some [(17, 0, 1), (18, 0, 24), (19, 0, 24), (20, 0, 24), (194, 5, 6), (194, 306, 426)]) a j = false → H a j = h a j := by rw [hH]; exact (fr_up (fr_up (fr_up (fr_up (fr_up (fr_up (fr_up (fr_up (fr_up (fr_up (fun _ _ _ => rfl) (wr_in (lo := 0) (hi := 24) (by decide) (by omega) (by omega))) (wr_in (lo := 0) (hi := 24) (by decide) (by omega) (by omega))) (wr_in (lo := 0) (hi := 24) (by decide) (by omega) (by omega))) (wr_in (lo := 0) (hi := 1) (by decide) (by omega) (by omega))) (wr_in (lo := 306) (hi := 426) (by decide) (by omega) (by omega))) (wr_in (lo := 306) (hi := 426) (by decide) (by omega) (by omega))) (wr_in (lo := 306) (hi := 426) (by decide) (by omega) (by omega))) (wr_in (lo := 306) (hi := 426) (by decide) (by omega) (by omega))) (wr_in (lo := 306) (hi := 426) (by decide) (by omega) (by omega))) (wr_in (lo := 5) (hi := 6) (by decide) (by omega) (by omega)))
      have e1 : H 17 (0) = (((c + 1) : Nat) : Int) := by rw [hH]; exact ((hup_ne (by decide)).trans ((hup_ne (by decide)).trans ((hup_ne (by decide)).trans ((hup_ne (by decide)).trans ((hup_ne (by decide)).trans ((hup_ne (by decide)).trans hup_eq))))))
      have e2 : H 194 (5) = (((c + 1) : Nat) : Int) := by rw [hH]; exact hup_eq
      have x0 : H 18 (c) = (((ρ 3))) := by rw [hH]; exact ((hup_ne (by decide)).trans ((hup_ne (by decide)).trans ((hup_ne (by decide)).trans ((hup_ne (by decide)).trans ((hup_ne (by decide)).trans ((hup_ne (by decide)).trans ((hup_ne (by decide)).trans ((hup_ne (by decide)).trans ((hup_ne (by decide)).trans hup_eq)))))))))
      have x1 : H 19 (c) = (((ρ 4))) := by rw [hH]; exact ((hup_ne (by decide)).trans ((hup_ne (by decide)).trans ((hup_ne (by decide)).trans ((hup_ne (by decide)).trans ((hup_ne (by decide)).trans ((hup_ne (by decide)).trans ((hup_ne (by decide)).trans ((hup_ne (by decide)).trans hup_eq))))))))
      have x2 : H 20 (c) = (((h 2 0))) := by rw [hH]; exact ((hup_ne (by decide)).trans ((hup_ne (by decide)).trans ((hup_ne (by decide)).trans ((hup_ne (by decide)).trans ((hup_ne (by decide)).trans ((hup_ne (by decide)).trans ((hup_ne (by decide)).trans hup_eq)))))))
      have y0 : H 194 (306 + 5 * c) = (((ρ 3)) / 10000) := by rw [hH]; exact ((hup_nj (by omega)).trans ((hup_nj (by omega)).trans ((hup_nj (by omega)).trans ((hup_nj (by omega)).trans ((hup_nj (by omega)).trans hup_eq)))))
      have y1 : H 194 (306 + 5 * c + 1) = ((((ρ 3)) / 1000) % 10) := by rw [hH]; exact ((hup_nj (by omega)).trans ((hup_nj (by omega)).trans ((hup_nj (by omega)).trans ((hup_nj (by omega)).trans hup_eq))))
      have y2 : H 194 (306 + 5 * c + 2) = (((ρ 3)) % 1000) := by rw [hH]; exact ((hup_nj (by omega)).trans ((hup_nj (by omega)).trans ((hup_nj (by omega)).trans hup_eq)))
      have y3 : H 194 (306 + 5 * c + 3) = ((ρ 4)) := by rw [hH]; exact ((hup_nj (by omega)).trans ((hup_nj (by omega)).trans hup_eq))
      have y4 : H 194 (306 + 5 * c + 4) = ((h 2 0)) := by rw [hH]; exact ((hup_nj (by omega)).trans hup_eq)
      have p_box : pc_box.1 H 0 194 := by
        refine recX_push (As := [18, 19, 20]) (zs := []) (s := 5) (B := 306) (N := 24) (n0 := 5) (cn := (17, 0)) f_box_ok (t := 0) (D := 194) (c := c) hc (q.2.1 _ (List.Mem.tail _ (List.Mem.head _))).1 (by omega) e1 e2 (fun i hi b hb => ?_) (fun j j1 j2 => ?_) (fun _ _ _ _ q => q) ?_
        · match i, hi with
          | 0, _ => exact (by rw [hH]; exact ((hup_ne (by decide)).trans ((hup_ne (by decide)).trans ((hup_ne (by decide)).trans ((hup_ne (by decide)).trans ((hup_ne (by decide)).trans ((hup_ne (by decide)).trans ((hup_ne (by decide)).trans ((hup_ne (by decide)).trans ((hup_ne (by decide)).trans (hup_nj (by omega))))))))))) : H 18 b = h 18 b)
          | 1, _ => exact (by rw [hH]; exact ((hup_ne (by decide)).trans ((hup_ne (by decide)).trans ((hup_ne (by decide)).trans ((hup_ne (by decide)).trans ((hup_ne (by decide)).trans ((hup_ne (by decide)).trans ((hup_ne (by decide)).trans ((hup_ne (by decide)).trans ((hup_nj (by omega)).trans (hup_ne (by decide))))))))))) : H 19 b = h 19 b)
          | 2, _ => exact (by rw [hH]; exact ((hup_ne (by decide)).trans ((hup_ne (by decide)).trans ((hup_ne (by decide)).trans ((hup_ne (by decide)).trans ((hup_ne (by decide)).trans ((hup_ne (by decide)).trans ((hup_ne (by decide)).trans ((hup_nj (by omega)).trans ((hup_ne (by decide)).trans (hup_ne (by decide))))))))))) : H 20 b = h 20 b)
          | i + 3, hi => exact absurd hi (by show ¬ i + 3 < 3; omega)
        · rw [hH]; exact ((hup_nj (by omega)).trans ((hup_nj (by omega)).trans ((hup_nj (by omega)).trans ((hup_nj (by omega)).trans ((hup_nj (by omega)).trans ((hup_nj (by omega)).trans ((hup_ne (by decide)).trans ((hup_ne (by decide)).trans ((hup_ne (by decide)).trans (hup_ne (by decide)))))))))))
        · show (0 ≤ H 194 (306 + 5 * c) ∧ H 194 (306 + 5 * c) < 6 ∧ 0 ≤ H 194 (306 + 5 * c + 1) ∧ H 194 (306 + 5 * c + 1) < 4 ∧ 0 ≤ H 194 (306 + 5 * c + 2) ∧ H 194 (306 + 5 * c + 2) < 240) ∧ H 18 c = 10000 * H 194 (306 + 5 * c) + 1000 * H 194 (306 + 5 * c + 1) + H 194 (306 + 5 * c + 2) ∧ H 19 c = H 194 (306 + 5 * c + 3) ∧ H 20 c = H 194 (306 + 5 * c + 4)
          omega
      exact ⟨RR_op PS_ok GS_ok fr (by decide +kernel) (List.forall_mem_cons.mpr ⟨⟨by decide +kernel, Or.inl (by decide +kernel)⟩, (List.forall_mem_cons.mpr ⟨⟨by decide +kernel, Or.inr p_box⟩, (fun _ hc => by cases hc)⟩)⟩) (fun _ hc => by cases hc) q, rfl⟩
theorem cnt_eq {h : bH} {c : Nat} {x kk : Int} (q : ∀ b, b < c → (0 ≤ h 194 (306 + 5 * b) ∧ h 194 (306 + 5 * b) < 6 ∧ 0 ≤ h 194 (306 + 5 * b + 1) ∧ h 194 (306 + 5 * b + 1) < 4 ∧ 0 ≤ h 194 (306 + 5 * b + 2) ∧ h 194 (306 + 5 * b + 2) < 240) ∧ h 18 b = 10000 * h 194 (306 + 5 * b) + 1000 * h 194 (306 + 5 * b + 1) + h 194 (306 + 5 * b + 2) ∧ h 19 b = h 194 (306 + 5 * b + 3) ∧ h 20 b = h 194 (306 + 5 * b + 4)) (hx : 0 ≤ x ∧ x / 10000 < 6 ∧ x / 1000 % 10 < 4 ∧ x % 1000 < 240) : ∀ b, b ≤ c → cntA h x kk b = cntM h (x / 10000) (x / 1000 % 10) (x % 1000) kk b
  | 0, _ => rfl
  | b + 1, hb => by
    have ih := cnt_eq (kk := kk) q hx b (by omega)
    obtain ⟨a1, a2, a3, a4⟩ := q b (by omega)
    simp only [cntA, cntM]
    rw [ih, a3, a4]
    congr 1
    by_cases e : h 18 b = x ∧ h 194 (306 + 5 * b + 4) ≤ kk
    · rw [if_pos e, if_pos ⟨by omega, by omega, by omega, e.2⟩]
    · rw [if_neg e, if_neg (fun w => e ⟨by omega, w.2.2.2⟩)]
theorem rel_count {ρ : Nat → Int} {h h1 h2 : bH} {r1 r2 : Option bV} (q : RR PS GS h) (s1 : s_countB (evS ρ [(2, fcon 0), (0, fid 3), (0, fid 4)]) h r1 h1) (s2 : s_countM (evS ρ [(2, fcon 193), (0, fid 3), (0, fid 4)]) h1 r2 h2) : RR PS GS h2 ∧ r1 = r2 := by
  have ht : TH h := s1.1
  obtain ⟨c, hc, mc, lc, gc⟩ : (recX (17, 0) 5 24 306 5 [18, 19, 20] [] f_box).1 h 0 194 := (q.2.1 pc_box (List.Mem.tail _ (List.Mem.head _))).1
  have t1 := s1.2 (ρ 3) (ρ 4) c (show [((2 : Nat), ev ρ (fcon 0)), (0, ev ρ (fid 3)), (0, ev ρ (fid 4))] = [(2, ((0 : Nat) : Int)), (0, (ρ 3)), (0, (ρ 4))] from by rw [fcon_ev, fid_ev, fid_ev]; rfl) hc
  rcases t1 with ⟨k1, rfl, rfl⟩ | ⟨k1, rfl, rfl⟩
  · have t2 := s2.2 (ρ 3) (ρ 4) c (show [((2 : Nat), ev ρ (fcon 193)), (0, ev ρ (fid 3)), (0, ev ρ (fid 4))] = [(2, ((193 : Nat) : Int)), (0, (ρ 3)), (0, (ρ 4))] from by rw [fcon_ev, fid_ev, fid_ev]; rfl) mc
    rcases t2 with ⟨k2, rfl, rfl⟩ | ⟨k2, rfl, rfl⟩
    · exact ⟨q, rfl⟩
    · exfalso; omega
  · have t2 := s2.2 (ρ 3) (ρ 4) c (show [((2 : Nat), ev ρ (fcon 193)), (0, ev ρ (fid 3)), (0, ev ρ (fid 4))] = [(2, ((193 : Nat) : Int)), (0, (ρ 3)), (0, (ρ 4))] from by rw [fcon_ev, fid_ev, fid_ev]; rfl) mc
    rcases t2 with ⟨k2, rfl, rfl⟩ | ⟨k2, rfl, rfl⟩
    · exfalso; omega
    · exact ⟨q, (by rw [cnt_eq gc k1.1 c (Nat.le_refl _)])⟩
