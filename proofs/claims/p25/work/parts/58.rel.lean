/-! THE RELATION -/
def pc_now : Pc := (fun h t D => h (2 + t) 0 = h D 0, [(2, 0, 1)], [(0, 1)])
theorem pc_now_ok : PcOK pc_now := fun h h' t t' D D' hc hd q => by
  show h' (2 + t') 0 = h' D' 0
  rw [hc 2 0 (by decide), hd 0 (by decide)]
  exact q
def f_box (b : Nat) (z x y : Nat → Int) : Prop := (0 ≤ (y 0) ∧ (y 0) < 6 ∧ 0 ≤ (y 1) ∧ (y 1) < 4 ∧ 0 ≤ (y 2) ∧ (y 2) < 240) ∧ (x 0) = 10000 * (y 0) + 1000 * (y 1) + (y 2) ∧ (x 1) = (y 3) ∧ (x 2) = (y 4)
theorem f_box_ok : recF 3 0 5 f_box := fun b z z' x x' y y' hz hx hy q => by
  unfold f_box at q ⊢
  rw [hx 0 (by decide), hx 1 (by decide), hx 2 (by decide), hy 0 (by decide), hy 1 (by decide), hy 2 (by decide), hy 3 (by decide), hy 4 (by decide)]
  exact q
def pc_box : Pc := recX (17, 0) 5 24 306 5 [18, 19, 20] [] f_box
theorem pc_box_ok : PcOK pc_box := recX_ok f_box_ok
def f_draw (b : Nat) (z x y : Nat → Int) : Prop := (0 ≤ (y 0) ∧ (y 0) < 6 ∧ 0 ≤ (y 1) ∧ (y 1) < 4 ∧ 0 ≤ (y 2) ∧ (y 2) < 240 ∧ 0 ≤ (y 3) ∧ (y 3) ≤ 9999) ∧ (x 0) = 10000 * (y 0) + 1000 * (y 1) + (y 2) ∧ (x 1) = (y 3)
theorem f_draw_ok : recF 2 0 5 f_draw := fun b z z' x x' y y' hz hx hy q => by
  unfold f_draw at q ⊢
  rw [hx 0 (by decide), hx 1 (by decide), hy 0 (by decide), hy 1 (by decide), hy 2 (by decide), hy 3 (by decide)]
  exact q
def pc_draw : Pc := recX (17, 14) 8 12 514 5 [28, 29] [] f_draw
theorem pc_draw_ok : PcOK pc_draw := recX_ok f_draw_ok
def PS : List Pc := [pc_now, pc_box, pc_draw]
def GS : List Gc := []
theorem PS_ok : ∀ c ∈ PS, PcOK c := (List.forall_mem_cons.mpr ⟨pc_now_ok, (List.forall_mem_cons.mpr ⟨pc_box_ok, (List.forall_mem_cons.mpr ⟨pc_draw_ok, (fun _ hc => by cases hc)⟩)⟩)⟩)
theorem GS_ok : ∀ c ∈ GS, GcOK c := (fun _ hc => by cases hc)
theorem rel_months {ρ : Nat → Int} {h h1 h2 : bH} {r1 r2 : Option bV} (q : RR PS GS h) (s1 : s_monthsB (evS ρ [(2, fcon 0), (0, fid 3)]) h r1 h1) (s2 : s_monthsM (evS ρ [(2, fcon 193), (0, fid 3)]) h1 r2 h2) : RR PS GS h2 ∧ r1 = r2 := by
  have ht : TH h := s1.1
  have hN : h 2 0 = h 194 0 := (q.2.1 pc_now (List.Mem.head _)).1
  have t1 := s1.2 (ρ 3) (h 2 0) (show [((2 : Nat), ev ρ (fcon 0)), (0, ev ρ (fid 3))] = [(2, ((0 : Nat) : Int)), (0, (ρ 3))] from by rw [fcon_ev, fid_ev]; rfl) rfl
  rcases t1 with ⟨k1, rfl, rfl⟩ | ⟨k1, rfl, rfl⟩ | ⟨k1, rfl, rfl⟩
  · have t2 := s2.2 (ρ 3) (h 2 0) (show [((2 : Nat), ev ρ (fcon 193)), (0, ev ρ (fid 3))] = [(2, ((193 : Nat) : Int)), (0, (ρ 3))] from by rw [fcon_ev, fid_ev]; rfl) hN.symm
    rcases t2 with ⟨k2, rfl, rfl⟩ | ⟨k2, rfl, rfl⟩ | ⟨k2, rfl, rfl⟩
    · exact ⟨q, rfl⟩
    · exfalso; omega
    · exfalso; omega
  · have t2 := s2.2 (ρ 3) (h 2 0) (show [((2 : Nat), ev ρ (fcon 193)), (0, ev ρ (fid 3))] = [(2, ((193 : Nat) : Int)), (0, (ρ 3))] from by rw [fcon_ev, fid_ev]; rfl) hN.symm
    rcases t2 with ⟨k2, rfl, rfl⟩ | ⟨k2, rfl, rfl⟩ | ⟨k2, rfl, rfl⟩
    · exfalso; omega
    · exact ⟨q, rfl⟩
    · exfalso; omega
  · have t2 := s2.2 (ρ 3) (h 2 0) (show [((2 : Nat), ev ρ (fcon 193)), (0, ev ρ (fid 3))] = [(2, ((193 : Nat) : Int)), (0, (ρ 3))] from by rw [fcon_ev, fid_ev]; rfl) ((hup_ne (by decide)).trans hN.symm)
    rcases t2 with ⟨k2, rfl, rfl⟩ | ⟨k2, rfl, rfl⟩ | ⟨k2, rfl, rfl⟩
    · exfalso; omega
    · exfalso; omega
    · skip
      obtain ⟨H, hH⟩ : ∃ H : bH, H = (hup (hup h 2 (0) (((h 2 0)) + ((ρ 3)))) 194 (0) (((h 2 0)) + ((ρ 3)))) := ⟨_, rfl⟩
      rw [← hH]
      have fr : ∀ a j, wrF (some [(2, 0, 1), (194, 0, 1)]) a j = false → H a j = h a j := by rw [hH]; exact (fr_up (fr_up (fun _ _ _ => rfl) (wr_in (lo := 0) (hi := 1) (by decide) (by omega) (by omega))) (wr_in (lo := 0) (hi := 1) (by decide) (by omega) (by omega)))
      have p_now : pc_now.1 H 0 194 := by
        show H 2 0 = H 194 0
        rw [hH]
        exact (((hup_ne (by decide)).trans hup_eq)).trans ((by omega : (_ : Int) = _).trans (hup_eq).symm)
      exact ⟨RR_op PS_ok GS_ok fr (by decide +kernel) (List.forall_mem_cons.mpr ⟨⟨by decide +kernel, Or.inr p_now⟩, (List.forall_mem_cons.mpr ⟨⟨by decide +kernel, Or.inl (by decide +kernel)⟩, (List.forall_mem_cons.mpr ⟨⟨by decide +kernel, Or.inl (by decide +kernel)⟩, (fun _ hc => by cases hc)⟩)⟩)⟩) (fun _ hc => by cases hc) q, rfl⟩
theorem rel_boxes {ρ : Nat → Int} {h h1 h2 : bH} {r1 r2 : Option bV} (q : RR PS GS h) (s1 : s_boxesB (evS ρ [(2, fcon 0), (0, fid 3), (0, fid 4)]) h r1 h1) (s2 : s_boxesM (evS ρ [(2, fcon 193), (0, fid 3), (0, fid 4)]) h1 r2 h2) : RR PS GS h2 ∧ r1 = r2 := by
  have ht : TH h := s1.1
  have hN : h 2 0 = h 194 0 := (q.2.1 pc_now (List.Mem.head _)).1
  obtain ⟨c, hc, mc, lc, gc⟩ : (recX (17, 0) 5 24 306 5 [18, 19, 20] [] f_box).1 h 0 194 := (q.2.1 pc_box (List.Mem.tail _ (List.Mem.head _))).1
  have t1 := s1.2 (ρ 3) (ρ 4) c (h 2 0) (show [((2 : Nat), ev ρ (fcon 0)), (0, ev ρ (fid 3)), (0, ev ρ (fid 4))] = [(2, ((0 : Nat) : Int)), (0, (ρ 3)), (0, (ρ 4))] from by rw [fcon_ev, fid_ev, fid_ev]; rfl) hc rfl
  rcases t1 with ⟨k1, rfl, rfl⟩ | ⟨k1, rfl, rfl⟩ | ⟨k1, rfl, rfl⟩
  · have t2 := s2.2 (ρ 3) (ρ 4) c (h 2 0) (show [((2 : Nat), ev ρ (fcon 193)), (0, ev ρ (fid 3)), (0, ev ρ (fid 4))] = [(2, ((193 : Nat) : Int)), (0, (ρ 3)), (0, (ρ 4))] from by rw [fcon_ev, fid_ev, fid_ev]; rfl) mc hN.symm
    rcases t2 with ⟨k2, rfl, rfl⟩ | ⟨k2, rfl, rfl⟩ | ⟨k2, rfl, rfl⟩
    · exact ⟨q, rfl⟩
    · exfalso; omega
    · exfalso; omega
  · have t2 := s2.2 (ρ 3) (ρ 4) c (h 2 0) (show [((2 : Nat), ev ρ (fcon 193)), (0, ev ρ (fid 3)), (0, ev ρ (fid 4))] = [(2, ((193 : Nat) : Int)), (0, (ρ 3)), (0, (ρ 4))] from by rw [fcon_ev, fid_ev, fid_ev]; rfl) mc hN.symm
    rcases t2 with ⟨k2, rfl, rfl⟩ | ⟨k2, rfl, rfl⟩ | ⟨k2, rfl, rfl⟩
    · exfalso; omega
    · exact ⟨q, rfl⟩
    · exfalso; omega
  · have t2 := s2.2 (ρ 3) (ρ 4) c (h 2 0) (show [((2 : Nat), ev ρ (fcon 193)), (0, ev ρ (fid 3)), (0, ev ρ (fid 4))] = [(2, ((193 : Nat) : Int)), (0, (ρ 3)), (0, (ρ 4))] from by rw [fcon_ev, fid_ev, fid_ev]; rfl) (((hup_ne (by decide)).trans ((hup_ne (by decide)).trans ((hup_ne (by decide)).trans (hup_ne (by decide))))).trans mc) (((hup_ne (by decide)).trans ((hup_ne (by decide)).trans ((hup_ne (by decide)).trans (hup_ne (by decide))))).trans hN.symm)
    rcases t2 with ⟨k2, rfl, rfl⟩ | ⟨k2, rfl, rfl⟩ | ⟨k2, rfl, rfl⟩
    · exfalso; omega
    · exfalso; omega
    · skip
      obtain ⟨H, hH⟩ : ∃ H : bH, H = (hup (hup (hup (hup (hup (hup (hup (hup (hup (hup h 18 (c) (((ρ 3)))) 19 (c) (((ρ 4)))) 20 (c) (((h 2 0)))) 17 (0) (((c + 1) : Nat) : Int)) 194 ((306 + (5 * c))) (((ρ 3)) / 10000)) 194 (((306 + (5 * c)) + 1)) ((((ρ 3)) / 1000) % 10)) 194 (((306 + (5 * c)) + 2)) (((ρ 3)) % 1000)) 194 (((306 + (5 * c)) + 3)) ((ρ 4))) 194 (((306 + (5 * c)) + 4)) ((h 2 0))) 194 (5) (((c + 1) : Nat) : Int)) := ⟨_, rfl⟩
      rw [← hH]
      have fr : ∀ a j, wrF (some [(17, 0, 1), (18, 0, 24), (19, 0, 24), (20, 0, 24), (194, 5, 6), (194, 306, 426)]) a j = false → H a j = h a j := by rw [hH]; exact (fr_up (fr_up (fr_up (fr_up (fr_up (fr_up (fr_up (fr_up (fr_up (fr_up (fun _ _ _ => rfl) (wr_in (lo := 0) (hi := 24) (by decide) (by omega) (by omega))) (wr_in (lo := 0) (hi := 24) (by decide) (by omega) (by omega))) (wr_in (lo := 0) (hi := 24) (by decide) (by omega) (by omega))) (wr_in (lo := 0) (hi := 1) (by decide) (by omega) (by omega))) (wr_in (lo := 306) (hi := 426) (by decide) (by omega) (by omega))) (wr_in (lo := 306) (hi := 426) (by decide) (by omega) (by omega))) (wr_in (lo := 306) (hi := 426) (by decide) (by omega) (by omega))) (wr_in (lo := 306) (hi := 426) (by decide) (by omega) (by omega))) (wr_in (lo := 306) (hi := 426) (by decide) (by omega) (by omega))) (wr_in (lo := 5) (hi := 6) (by decide) (by omega) (by omega)))
      have e1 : H 17 (0) = (((c + 1) : Nat) : Int) := by rw [hH]; exact ((hup_ne (by decide)).trans ((hup_ne (by decide)).trans ((hup_ne (by decide)).trans ((hup_ne (by decide)).trans ((hup_ne (by decide)).trans ((hup_ne (by decide)).trans hup_eq))))))
      have e2 : H 194 (5) = (((c + 1) : Nat) : Int) := by rw [hH]; exact hup_eq
      have x0 : H 18 (c) = (((ρ 3))) := by rw [hH]; exact ((hup_ne (by decide)).trans ((hup_ne (by decide)).trans ((hup_ne (by decide)).trans ((hup_ne (by decide)).trans ((hup_ne (by decide)).trans ((hup_ne (by decide)).trans ((hup_ne (by decide)).trans ((hup_ne (by decide)).trans ((hup_ne (by decide)).trans hup_eq)))))))))
      have x1 : H 19 (c) = (((ρ 4))) := by rw [hH]; exact ((hup_ne (by decide)).trans ((hup_ne (by decide)).trans ((hup_ne (by decide)).trans ((hup_ne (by decide)).trans ((hup_ne (by decide)).trans ((hup_ne (by decide)).trans ((hup_ne (by decide)).trans ((hup_ne (by decide)).trans hup_eq))))))))
      have x2 : H 20 (c) = (((h 2 0))) := by rw [hH]; exact ((hup_ne (by decide)).trans ((hup_ne (by decide)).trans ((hup_ne (by decide)).trans ((hup_ne (by decide)).trans ((hup_ne (by decide)).trans ((hup_ne (by decide)).trans ((hup_ne (by decide)).trans hup_eq)))))))
      have y0 : H 194 (306 + 5 * c) = (((ρ 3)) / 10000) := by rw [hH]; exact ((hup_nj (by omega)).trans ((hup_nj (by omega)).trans ((hup_nj (by omega)).trans ((hup_nj (by omega)).trans ((hup_nj (by omega)).trans hup_eq)))))
      have y1 : H 194 (306 + 5 * c + 1) = ((((ρ 3)) / 1000) % 10) := by rw [hH]; exact ((hup_nj (by omega)).trans ((hup_nj (by omega)).trans ((hup_nj (by omega)).trans ((hup_nj (by omega)).trans hup_eq))))
      have y2 : H 194 (306 + 5 * c + 2) = (((ρ 3)) % 1000) := by rw [hH]; exact ((hup_nj (by omega)).trans ((hup_nj (by omega)).trans ((hup_nj (by omega)).trans hup_eq)))
      have y3 : H 194 (306 + 5 * c + 3) = ((ρ 4)) := by rw [hH]; exact ((hup_nj (by omega)).trans ((hup_nj (by omega)).trans hup_eq))
      have y4 : H 194 (306 + 5 * c + 4) = ((h 2 0)) := by rw [hH]; exact ((hup_nj (by omega)).trans hup_eq)
      have p_box : pc_box.1 H 0 194 := by
        refine recX_push (As := [18, 19, 20]) (zs := []) (s := 5) (B := 306) (N := 24) (n0 := 5) (cn := (17, 0)) f_box_ok (t := 0) (D := 194) (c := c) hc (q.2.1 _ (List.Mem.tail _ (List.Mem.head _))).1 (by omega) e1 e2 (fun i hi b hb => ?_) (fun j j1 j2 => ?_) (fun _ _ _ _ q => q) ?_
        · match i, hi with
          | 0, _ => exact (by rw [hH]; exact ((hup_ne (by decide)).trans ((hup_ne (by decide)).trans ((hup_ne (by decide)).trans ((hup_ne (by decide)).trans ((hup_ne (by decide)).trans ((hup_ne (by decide)).trans ((hup_ne (by decide)).trans ((hup_ne (by decide)).trans ((hup_ne (by decide)).trans (hup_nj (by omega))))))))))) : H 18 b = h 18 b)
          | 1, _ => exact (by rw [hH]; exact ((hup_ne (by decide)).trans ((hup_ne (by decide)).trans ((hup_ne (by decide)).trans ((hup_ne (by decide)).trans ((hup_ne (by decide)).trans ((hup_ne (by decide)).trans ((hup_ne (by decide)).trans ((hup_ne (by decide)).trans ((hup_nj (by omega)).trans (hup_ne (by decide))))))))))) : H 19 b = h 19 b)
          | 2, _ => exact (by rw [hH]; exact ((hup_ne (by decide)).trans ((hup_ne (by decide)).trans ((hup_ne (by decide)).trans ((hup_ne (by decide)).trans ((hup_ne (by decide)).trans ((hup_ne (by decide)).trans ((hup_ne (by decide)).trans ((hup_nj (by omega)).trans ((hup_ne (by decide)).trans (hup_ne (by decide))))))))))) : H 20 b = h 20 b)
          | i + 3, hi => exact absurd hi (by show ¬ i + 3 < 3; omega)
        · rw [hH]; exact ((hup_nj (by omega)).trans ((hup_nj (by omega)).trans ((hup_nj (by omega)).trans ((hup_nj (by omega)).trans ((hup_nj (by omega)).trans ((hup_nj (by omega)).trans ((hup_ne (by decide)).trans ((hup_ne (by decide)).trans ((hup_ne (by decide)).trans (hup_ne (by decide)))))))))))
        · show (0 ≤ (H 194 (306 + 5 * c)) ∧ (H 194 (306 + 5 * c)) < 6 ∧ 0 ≤ (H 194 (306 + 5 * c + 1)) ∧ (H 194 (306 + 5 * c + 1)) < 4 ∧ 0 ≤ (H 194 (306 + 5 * c + 2)) ∧ (H 194 (306 + 5 * c + 2)) < 240) ∧ (H 18 c) = 10000 * (H 194 (306 + 5 * c)) + 1000 * (H 194 (306 + 5 * c + 1)) + (H 194 (306 + 5 * c + 2)) ∧ (H 19 c) = (H 194 (306 + 5 * c + 3)) ∧ (H 20 c) = (H 194 (306 + 5 * c + 4))
          omega
      exact ⟨RR_op PS_ok GS_ok fr (by decide +kernel) (List.forall_mem_cons.mpr ⟨⟨by decide +kernel, Or.inl (by decide +kernel)⟩, (List.forall_mem_cons.mpr ⟨⟨by decide +kernel, Or.inr p_box⟩, (List.forall_mem_cons.mpr ⟨⟨by decide +kernel, Or.inl (by decide +kernel)⟩, (fun _ hc => by cases hc)⟩)⟩)⟩) (fun _ hc => by cases hc) q, rfl⟩
theorem cnt_eq {h : bH} {c : Nat} {x kk : Int} (q : ∀ b, b < c → (0 ≤ (h 194 (306 + 5 * b)) ∧ (h 194 (306 + 5 * b)) < 6 ∧ 0 ≤ (h 194 (306 + 5 * b + 1)) ∧ (h 194 (306 + 5 * b + 1)) < 4 ∧ 0 ≤ (h 194 (306 + 5 * b + 2)) ∧ (h 194 (306 + 5 * b + 2)) < 240) ∧ (h 18 b) = 10000 * (h 194 (306 + 5 * b)) + 1000 * (h 194 (306 + 5 * b + 1)) + (h 194 (306 + 5 * b + 2)) ∧ (h 19 b) = (h 194 (306 + 5 * b + 3)) ∧ (h 20 b) = (h 194 (306 + 5 * b + 4))) (hx : 0 ≤ x ∧ x / 10000 < 6 ∧ x / 1000 % 10 < 4 ∧ x % 1000 < 240) : ∀ b, b ≤ c → cntA h x kk b = cntM h (x / 10000) (x / 1000 % 10) (x % 1000) kk b
  | 0, _ => rfl
  | b + 1, hb => by
    have ih := cnt_eq (kk := kk) q hx b (by omega)
    obtain ⟨a1, a2, a3, a4⟩ := q b (by omega)
    simp only [cntA, cntM]
    rw [ih, a3, a4]
    congr 1
    by_cases e : h 18 b = x ∧ h 194 (306 + 5 * b + 4) ≤ kk
    · rw [if_pos e, if_pos ⟨by omega, by omega, by omega, e.2⟩]
    · rw [if_neg e, if_neg (fun w => e ⟨by omega, w.2.2.2⟩)]
theorem rel_count {ρ : Nat → Int} {h h1 h2 : bH} {r1 r2 : Option bV} (q : RR PS GS h) (s1 : s_countB (evS ρ [(2, fcon 0), (0, fid 3), (0, fid 4)]) h r1 h1) (s2 : s_countM (evS ρ [(2, fcon 193), (0, fid 3), (0, fid 4)]) h1 r2 h2) : RR PS GS h2 ∧ r1 = r2 := by
  have ht : TH h := s1.1
  obtain ⟨c, hc, mc, lc, gc⟩ : (recX (17, 0) 5 24 306 5 [18, 19, 20] [] f_box).1 h 0 194 := (q.2.1 pc_box (List.Mem.tail _ (List.Mem.head _))).1
  have t1 := s1.2 (ρ 3) (ρ 4) c (show [((2 : Nat), ev ρ (fcon 0)), (0, ev ρ (fid 3)), (0, ev ρ (fid 4))] = [(2, ((0 : Nat) : Int)), (0, (ρ 3)), (0, (ρ 4))] from by rw [fcon_ev, fid_ev, fid_ev]; rfl) hc
  rcases t1 with ⟨k1, rfl, rfl⟩ | ⟨k1, rfl, rfl⟩
  · have t2 := s2.2 (ρ 3) (ρ 4) c (show [((2 : Nat), ev ρ (fcon 193)), (0, ev ρ (fid 3)), (0, ev ρ (fid 4))] = [(2, ((193 : Nat) : Int)), (0, (ρ 3)), (0, (ρ 4))] from by rw [fcon_ev, fid_ev, fid_ev]; rfl) mc
    rcases t2 with ⟨k2, rfl, rfl⟩ | ⟨k2, rfl, rfl⟩
    · exact ⟨q, rfl⟩
    · exfalso; omega
  · have t2 := s2.2 (ρ 3) (ρ 4) c (show [((2 : Nat), ev ρ (fcon 193)), (0, ev ρ (fid 3)), (0, ev ρ (fid 4))] = [(2, ((193 : Nat) : Int)), (0, (ρ 3)), (0, (ρ 4))] from by rw [fcon_ev, fid_ev, fid_ev]; rfl) mc
    rcases t2 with ⟨k2, rfl, rfl⟩ | ⟨k2, rfl, rfl⟩
    · exfalso; omega
    · exact ⟨q, (by rw [cnt_eq gc k1.1 c (Nat.le_refl _)])⟩
theorem rel_drawn {ρ : Nat → Int} {h h1 h2 : bH} {r1 r2 : Option bV} (q : RR PS GS h) (s1 : s_drawnB (evS ρ [(2, fcon 0), (0, fid 3), (0, fid 4), (0, fid 5)]) h r1 h1) (s2 : s_drawnM (evS ρ [(2, fcon 193), (0, fid 3), (0, fid 4), (0, fid 5)]) h1 r2 h2) : RR PS GS h2 ∧ r1 = r2 := by
  have ht : TH h := s1.1
  obtain ⟨c, hc, mc, lc, gc⟩ : (recX (17, 14) 8 12 514 5 [28, 29] [] f_draw).1 h 0 194 := (q.2.1 pc_draw (List.Mem.tail _ (List.Mem.tail _ (List.Mem.head _)))).1
  have t1 := s1.2 (ρ 3) (ρ 4) (ρ 5) c (show [((2 : Nat), ev ρ (fcon 0)), (0, ev ρ (fid 3)), (0, ev ρ (fid 4)), (0, ev ρ (fid 5))] = [(2, ((0 : Nat) : Int)), (0, (ρ 3)), (0, (ρ 4)), (0, (ρ 5))] from by rw [fcon_ev, fid_ev, fid_ev, fid_ev]; rfl) hc
  rcases t1 with ⟨k1, rfl, rfl⟩ | ⟨k1, rfl, rfl⟩ | ⟨k1, rfl, rfl⟩
  · have t2 := s2.2 (ρ 3) (ρ 4) (ρ 5) c (show [((2 : Nat), ev ρ (fcon 193)), (0, ev ρ (fid 3)), (0, ev ρ (fid 4)), (0, ev ρ (fid 5))] = [(2, ((193 : Nat) : Int)), (0, (ρ 3)), (0, (ρ 4)), (0, (ρ 5))] from by rw [fcon_ev, fid_ev, fid_ev, fid_ev]; rfl) mc
    rcases t2 with ⟨k2, rfl, rfl⟩ | ⟨k2, rfl, rfl⟩ | ⟨k2, rfl, rfl⟩
    · exact ⟨q, rfl⟩
    · exfalso; omega
    · exfalso; omega
  · have t2 := s2.2 (ρ 3) (ρ 4) (ρ 5) c (show [((2 : Nat), ev ρ (fcon 193)), (0, ev ρ (fid 3)), (0, ev ρ (fid 4)), (0, ev ρ (fid 5))] = [(2, ((193 : Nat) : Int)), (0, (ρ 3)), (0, (ρ 4)), (0, (ρ 5))] from by rw [fcon_ev, fid_ev, fid_ev, fid_ev]; rfl) mc
    rcases t2 with ⟨k2, rfl, rfl⟩ | ⟨k2, rfl, rfl⟩ | ⟨k2, rfl, rfl⟩
    · exfalso; omega
    · exact ⟨q, rfl⟩
    · exfalso; omega
  · have t2 := s2.2 (ρ 3) (ρ 4) (ρ 5) c (show [((2 : Nat), ev ρ (fcon 193)), (0, ev ρ (fid 3)), (0, ev ρ (fid 4)), (0, ev ρ (fid 5))] = [(2, ((193 : Nat) : Int)), (0, (ρ 3)), (0, (ρ 4)), (0, (ρ 5))] from by rw [fcon_ev, fid_ev, fid_ev, fid_ev]; rfl) (((hup_ne (by decide)).trans ((hup_ne (by decide)).trans (hup_ne (by decide)))).trans mc)
    rcases t2 with ⟨k2, rfl, rfl⟩ | ⟨k2, rfl, rfl⟩ | ⟨k2, rfl, rfl⟩
    · exfalso; omega
    · exfalso; omega
    · skip
      obtain ⟨H, hH⟩ : ∃ H : bH, H = (hup (hup (hup (hup (hup (hup (hup (hup (hup h 28 (c) ((ρ 3))) 29 (c) ((ρ 4))) 17 (14) (((c + 1) : Nat) : Int)) 194 ((514 + (5 * c))) (((ρ 3)) / 10000)) 194 (((514 + (5 * c)) + 1)) ((((ρ 3)) / 1000) % 10)) 194 (((514 + (5 * c)) + 2)) (((ρ 3)) % 1000)) 194 (((514 + (5 * c)) + 3)) ((ρ 4))) 194 (((514 + (5 * c)) + 4)) ((ρ 5))) 194 (8) (((c + 1) : Nat) : Int)) := ⟨_, rfl⟩
      rw [← hH]
      have fr : ∀ a j, wrF (some [(17, 14, 15), (28, 0, 12), (29, 0, 12), (194, 8, 9), (194, 514, 574)]) a j = false → H a j = h a j := by rw [hH]; exact (fr_up (fr_up (fr_up (fr_up (fr_up (fr_up (fr_up (fr_up (fr_up (fun _ _ _ => rfl) (wr_in (lo := 0) (hi := 12) (by decide) (by omega) (by omega))) (wr_in (lo := 0) (hi := 12) (by decide) (by omega) (by omega))) (wr_in (lo := 14) (hi := 15) (by decide) (by omega) (by omega))) (wr_in (lo := 514) (hi := 574) (by decide) (by omega) (by omega))) (wr_in (lo := 514) (hi := 574) (by decide) (by omega) (by omega))) (wr_in (lo := 514) (hi := 574) (by decide) (by omega) (by omega))) (wr_in (lo := 514) (hi := 574) (by decide) (by omega) (by omega))) (wr_in (lo := 514) (hi := 574) (by decide) (by omega) (by omega))) (wr_in (lo := 8) (hi := 9) (by decide) (by omega) (by omega)))
      have e1 : H 17 (14) = (((c + 1) : Nat) : Int) := by rw [hH]; exact ((hup_ne (by decide)).trans ((hup_ne (by decide)).trans ((hup_ne (by decide)).trans ((hup_ne (by decide)).trans ((hup_ne (by decide)).trans ((hup_ne (by decide)).trans hup_eq))))))
      have e2 : H 194 (8) = (((c + 1) : Nat) : Int) := by rw [hH]; exact hup_eq
      have x0 : H 28 (c) = ((ρ 3)) := by rw [hH]; exact ((hup_ne (by decide)).trans ((hup_ne (by decide)).trans ((hup_ne (by decide)).trans ((hup_ne (by decide)).trans ((hup_ne (by decide)).trans ((hup_ne (by decide)).trans ((hup_ne (by decide)).trans ((hup_ne (by decide)).trans hup_eq))))))))
      have x1 : H 29 (c) = ((ρ 4)) := by rw [hH]; exact ((hup_ne (by decide)).trans ((hup_ne (by decide)).trans ((hup_ne (by decide)).trans ((hup_ne (by decide)).trans ((hup_ne (by decide)).trans ((hup_ne (by decide)).trans ((hup_ne (by decide)).trans hup_eq)))))))
      have y0 : H 194 (514 + 5 * c) = (((ρ 3)) / 10000) := by rw [hH]; exact ((hup_nj (by omega)).trans ((hup_nj (by omega)).trans ((hup_nj (by omega)).trans ((hup_nj (by omega)).trans ((hup_nj (by omega)).trans hup_eq)))))
      have y1 : H 194 (514 + 5 * c + 1) = ((((ρ 3)) / 1000) % 10) := by rw [hH]; exact ((hup_nj (by omega)).trans ((hup_nj (by omega)).trans ((hup_nj (by omega)).trans ((hup_nj (by omega)).trans hup_eq))))
      have y2 : H 194 (514 + 5 * c + 2) = (((ρ 3)) % 1000) := by rw [hH]; exact ((hup_nj (by omega)).trans ((hup_nj (by omega)).trans ((hup_nj (by omega)).trans hup_eq)))
      have y3 : H 194 (514 + 5 * c + 3) = ((ρ 4)) := by rw [hH]; exact ((hup_nj (by omega)).trans ((hup_nj (by omega)).trans hup_eq))
      have y4 : H 194 (514 + 5 * c + 4) = ((ρ 5)) := by rw [hH]; exact ((hup_nj (by omega)).trans hup_eq)
      have p_draw : pc_draw.1 H 0 194 := by
        refine recX_push (As := [28, 29]) (zs := []) (s := 5) (B := 514) (N := 12) (n0 := 8) (cn := (17, 14)) f_draw_ok (t := 0) (D := 194) (c := c) hc (q.2.1 _ (List.Mem.tail _ (List.Mem.tail _ (List.Mem.head _)))).1 (by omega) e1 e2 (fun i hi b hb => ?_) (fun j j1 j2 => ?_) (fun _ _ _ _ q => q) ?_
        · match i, hi with
          | 0, _ => exact (by rw [hH]; exact ((hup_ne (by decide)).trans ((hup_ne (by decide)).trans ((hup_ne (by decide)).trans ((hup_ne (by decide)).trans ((hup_ne (by decide)).trans ((hup_ne (by decide)).trans ((hup_ne (by decide)).trans ((hup_ne (by decide)).trans (hup_nj (by omega)))))))))) : H 28 b = h 28 b)
          | 1, _ => exact (by rw [hH]; exact ((hup_ne (by decide)).trans ((hup_ne (by decide)).trans ((hup_ne (by decide)).trans ((hup_ne (by decide)).trans ((hup_ne (by decide)).trans ((hup_ne (by decide)).trans ((hup_ne (by decide)).trans ((hup_nj (by omega)).trans (hup_ne (by decide)))))))))) : H 29 b = h 29 b)
          | i + 2, hi => exact absurd hi (by show ¬ i + 2 < 2; omega)
        · rw [hH]; exact ((hup_nj (by omega)).trans ((hup_nj (by omega)).trans ((hup_nj (by omega)).trans ((hup_nj (by omega)).trans ((hup_nj (by omega)).trans ((hup_nj (by omega)).trans ((hup_ne (by decide)).trans ((hup_ne (by decide)).trans (hup_ne (by decide))))))))))
        · show (0 ≤ (H 194 (514 + 5 * c)) ∧ (H 194 (514 + 5 * c)) < 6 ∧ 0 ≤ (H 194 (514 + 5 * c + 1)) ∧ (H 194 (514 + 5 * c + 1)) < 4 ∧ 0 ≤ (H 194 (514 + 5 * c + 2)) ∧ (H 194 (514 + 5 * c + 2)) < 240 ∧ 0 ≤ (H 194 (514 + 5 * c + 3)) ∧ (H 194 (514 + 5 * c + 3)) ≤ 9999) ∧ (H 28 c) = 10000 * (H 194 (514 + 5 * c)) + 1000 * (H 194 (514 + 5 * c + 1)) + (H 194 (514 + 5 * c + 2)) ∧ (H 29 c) = (H 194 (514 + 5 * c + 3))
          omega
      exact ⟨RR_op PS_ok GS_ok fr (by decide +kernel) (List.forall_mem_cons.mpr ⟨⟨by decide +kernel, Or.inl (by decide +kernel)⟩, (List.forall_mem_cons.mpr ⟨⟨by decide +kernel, Or.inl (by decide +kernel)⟩, (List.forall_mem_cons.mpr ⟨⟨by decide +kernel, Or.inr p_draw⟩, (fun _ hc => by cases hc)⟩)⟩)⟩) (fun _ hc => by cases hc) q, rfl⟩
def wD (h : bH) (d : Nat) : Nat := (h 28 d).toNat
def fD (h : bH) (mk kk : Int) (u c v : Nat) : Int := if (v : Int) / 10000 = mk then blA h (v : Int) kk u c else 0
theorem bd_sm {h : bH} {mk kk : Int} {u c n : Nat} (hp : ∀ b, b < n → 0 ≤ h 28 b) : ∀ b, b ≤ n → bdA h mk kk u c b = smI (fun d => @ite Int (fstP (wD h) d) (Classical.propDecidable _) (fD h mk kk u c (wD h d)) 0) b
  | 0, _ => rfl
  | b + 1, hb => by
    have ih := bd_sm (mk := mk) (kk := kk) (u := u) (c := c) hp b (by omega)
    simp only [bdA, smI]
    rw [ih]
    congr 1
    have p0 := hp b (by omega)
    have e0 : ((wD h b : Nat) : Int) = h 28 b := by unfold wD; omega
    by_cases e1 : frA h b
    · have e3 : fstP (wD h) b := fun e he q => e1 e he (by have := hp e (by omega); unfold wD at q; omega)
      rw [if_pos e3]
      unfold fD
      rw [e0]
      by_cases e2 : h 28 b / 10000 = mk
      · rw [if_pos ⟨e2, e1⟩, if_pos e2]
      · rw [if_neg (fun q => e2 q.1), if_neg e2]
    · have e3 : ¬ fstP (wD h) b := fun q => e1 (fun e he r => q e he (by unfold wD; rw [r]))
      rw [if_neg (fun q => e1 q.2), if_neg e3]
theorem gf_ge {h : bH} {w : Int} {d : Nat} (hw : h 28 d = w) : ∀ n, d < n → h 29 d ≤ gfA h w n
  | 0, hd => by omega
  | n + 1, hd => by
    simp only [gfA]
    by_cases e : d = n
    · subst e
      rw [if_pos hw]
      split <;> omega
    · have := gf_ge hw n (by omega)
      by_cases e2 : h 28 n = w
      · rw [if_pos e2]
        split <;> omega
      · rw [if_neg e2]
        exact this
theorem gf_le {h : bH} {w M : Int} (hM : 0 ≤ M) : ∀ n, (∀ e, e < n → h 28 e = w → h 29 e ≤ M) → gfA h w n ≤ M
  | 0, _ => hM
  | n + 1, q => by
    have := gf_le (w := w) hM n (fun e he => q e (by omega))
    simp only [gfA]
    by_cases e2 : h 28 n = w
    · have := q n (by omega) e2
      rw [if_pos e2]
      split <;> omega
    · rw [if_neg e2]
      exact this
theorem fl_tp {h : bH} {mk : Int} {u d : Nat} (gu : ∀ b, b < u → (0 ≤ (h 194 (514 + 5 * b)) ∧ (h 194 (514 + 5 * b)) < 6 ∧ 0 ≤ (h 194 (514 + 5 * b + 1)) ∧ (h 194 (514 + 5 * b + 1)) < 4 ∧ 0 ≤ (h 194 (514 + 5 * b + 2)) ∧ (h 194 (514 + 5 * b + 2)) < 240 ∧ 0 ≤ (h 194 (514 + 5 * b + 3)) ∧ (h 194 (514 + 5 * b + 3)) ≤ 9999) ∧ (h 28 b) = 10000 * (h 194 (514 + 5 * b)) + 1000 * (h 194 (514 + 5 * b + 1)) + (h 194 (514 + 5 * b + 2)) ∧ (h 29 b) = (h 194 (514 + 5 * b + 3))) (hd : d < u) : ∀ b, b ≤ u → (flM h mk d b ≠ 0 ↔ (h 194 (514 + 5 * d) = mk ∧ ∀ e, e < b → wD h e = wD h d → ¬ (h 29 d < h 29 e ∨ (h 29 e = h 29 d ∧ e < d))))
  | 0, _ => by
    simp only [flM]
    constructor
    · intro q
      refine ⟨?_, fun e he => by omega⟩
      by_cases m : h 194 (514 + 5 * d) = mk
      · exact m
      · rw [if_neg m] at q
        exact absurd rfl q
    · intro q
      rw [if_pos q.1]
      decide
  | b + 1, hb => by
    have ih := fl_tp (mk := mk) gu hd b (by omega)
    have g1 := gu b (by omega)
    have g2 := gu d hd
    have k1 : ((h 194 (514 + 5 * d) = h 194 (514 + 5 * b) ∧ h 194 (514 + 5 * d + 1) = h 194 (514 + 5 * b + 1) ∧ h 194 (514 + 5 * d + 2) = h 194 (514 + 5 * b + 2)) ∧ (h 194 (514 + 5 * d + 3) < h 194 (514 + 5 * b + 3) ∨ (h 194 (514 + 5 * b + 3) = h 194 (514 + 5 * d + 3) ∧ b < d))) → wD h b = wD h d ∧ (h 29 d < h 29 b ∨ (h 29 b = h 29 d ∧ b < d)) := by
      intro q
      refine ⟨?_, by omega⟩
      have : h 28 b = h 28 d := by omega
      unfold wD
      rw [this]
    have k2 : wD h b = wD h d ∧ (h 29 d < h 29 b ∨ (h 29 b = h 29 d ∧ b < d)) → ((h 194 (514 + 5 * d) = h 194 (514 + 5 * b) ∧ h 194 (514 + 5 * d + 1) = h 194 (514 + 5 * b + 1) ∧ h 194 (514 + 5 * d + 2) = h 194 (514 + 5 * b + 2)) ∧ (h 194 (514 + 5 * d + 3) < h 194 (514 + 5 * b + 3) ∨ (h 194 (514 + 5 * b + 3) = h 194 (514 + 5 * d + 3) ∧ b < d))) := by
      intro q
      have q1 := q.1
      unfold wD at q1
      have : h 28 b = h 28 d := by omega
      have q2 := q.2
      refine ⟨⟨by omega, by omega, by omega⟩, by omega⟩
    simp only [flM]
    constructor
    · intro q
      by_cases c : flM h mk d b ≠ 0 ∧ ¬ ((h 194 (514 + 5 * d) = h 194 (514 + 5 * b) ∧ h 194 (514 + 5 * d + 1) = h 194 (514 + 5 * b + 1) ∧ h 194 (514 + 5 * d + 2) = h 194 (514 + 5 * b + 2)) ∧ (h 194 (514 + 5 * d + 3) < h 194 (514 + 5 * b + 3) ∨ (h 194 (514 + 5 * b + 3) = h 194 (514 + 5 * d + 3) ∧ b < d)))
      · refine ⟨(ih.mp c.1).1, fun e he hw => ?_⟩
        by_cases x : e = b
        · subst x
          exact fun z => c.2 (k2 ⟨hw, z⟩)
        · exact (ih.mp c.1).2 e (by omega) hw
      · rw [if_neg c] at q
        exact absurd rfl q
    · intro q
      rw [if_pos ⟨ih.mpr ⟨q.1, fun e he => q.2 e (by omega)⟩, fun z => q.2 b (by omega) (k1 z).1 (k1 z).2⟩]
      decide
theorem un_sm {h : bH} {mk kk : Int} {u c : Nat} (gu : ∀ b, b < u → (0 ≤ (h 194 (514 + 5 * b)) ∧ (h 194 (514 + 5 * b)) < 6 ∧ 0 ≤ (h 194 (514 + 5 * b + 1)) ∧ (h 194 (514 + 5 * b + 1)) < 4 ∧ 0 ≤ (h 194 (514 + 5 * b + 2)) ∧ (h 194 (514 + 5 * b + 2)) < 240 ∧ 0 ≤ (h 194 (514 + 5 * b + 3)) ∧ (h 194 (514 + 5 * b + 3)) ≤ 9999) ∧ (h 28 b) = 10000 * (h 194 (514 + 5 * b)) + 1000 * (h 194 (514 + 5 * b + 1)) + (h 194 (514 + 5 * b + 2)) ∧ (h 29 b) = (h 194 (514 + 5 * b + 3))) (gc : ∀ b, b < c → (0 ≤ (h 194 (306 + 5 * b)) ∧ (h 194 (306 + 5 * b)) < 6 ∧ 0 ≤ (h 194 (306 + 5 * b + 1)) ∧ (h 194 (306 + 5 * b + 1)) < 4 ∧ 0 ≤ (h 194 (306 + 5 * b + 2)) ∧ (h 194 (306 + 5 * b + 2)) < 240) ∧ (h 18 b) = 10000 * (h 194 (306 + 5 * b)) + 1000 * (h 194 (306 + 5 * b + 1)) + (h 194 (306 + 5 * b + 2)) ∧ (h 19 b) = (h 194 (306 + 5 * b + 3)) ∧ (h 20 b) = (h 194 (306 + 5 * b + 4))) : ∀ b, b ≤ u → unM h mk kk u c b = smI (fun d => @ite Int (topP (wD h) (h 29) u d) (Classical.propDecidable _) (fD h mk kk u c (wD h d)) 0) b
  | 0, _ => rfl
  | b + 1, hb => by
    have ih := un_sm (mk := mk) (kk := kk) gu gc b (by omega)
    simp only [unM, smI]
    rw [ih]
    congr 1
    have fl := fl_tp (mk := mk) gu (d := b) (by omega) u (Nat.le_refl _)
    have g2 := gu b (by omega)
    have e0 : ((wD h b : Nat) : Int) = h 28 b := by unfold wD; omega
    have ec := cnt_eq (kk := kk) (x := h 28 b) gc (by omega) c (Nat.le_refl _)
    have e1 : h 194 (514 + 5 * b) = h 28 b / 10000 := by omega
    have e2 : h 194 (514 + 5 * b + 1) = h 28 b / 1000 % 10 := by omega
    have e3 : h 194 (514 + 5 * b + 2) = h 28 b % 1000 := by omega
    have e4 : h 194 (514 + 5 * b + 3) = h 29 b := by omega
    have e5 : 0 ≤ h 29 b := by omega
    unfold duM fD
    rw [e0]
    by_cases t : topP (wD h) (h 29) u b
    · rw [if_pos t]
      have eg : gfA h (h 28 b) u = h 29 b := by
        have a1 := gf_ge (h := h) (d := b) rfl u (by omega)
        have a2 := gf_le (h := h) (w := h 28 b) e5 u (fun e he q => by have := t e he (by unfold wD; rw [q]); omega)
        omega
      by_cases m : h 28 b / 10000 = mk
      · subst m
        have f1 := fl.mpr ⟨e1, t⟩
        rw [if_pos rfl]
        unfold blA
        rw [eg, ec, e2, e3, e4]
        by_cases z : cntM h (h 28 b / 10000) (h 28 b / 1000 % 10) (h 28 b % 1000) kk c < h 29 b
        · rw [if_pos ⟨f1, z⟩, if_pos z]
        · rw [if_neg (fun q => z q.2), if_neg z]
      · rw [if_neg m, if_neg (fun q => m (e1.symm.trans (fl.mp q.1).1))]
    · rw [if_neg t, if_neg (fun q => t (fl.mp q.1).2)]
theorem und_eq {h : bH} {mk kk : Int} {u c : Nat} (gu : ∀ b, b < u → (0 ≤ (h 194 (514 + 5 * b)) ∧ (h 194 (514 + 5 * b)) < 6 ∧ 0 ≤ (h 194 (514 + 5 * b + 1)) ∧ (h 194 (514 + 5 * b + 1)) < 4 ∧ 0 ≤ (h 194 (514 + 5 * b + 2)) ∧ (h 194 (514 + 5 * b + 2)) < 240 ∧ 0 ≤ (h 194 (514 + 5 * b + 3)) ∧ (h 194 (514 + 5 * b + 3)) ≤ 9999) ∧ (h 28 b) = 10000 * (h 194 (514 + 5 * b)) + 1000 * (h 194 (514 + 5 * b + 1)) + (h 194 (514 + 5 * b + 2)) ∧ (h 29 b) = (h 194 (514 + 5 * b + 3))) (gc : ∀ b, b < c → (0 ≤ (h 194 (306 + 5 * b)) ∧ (h 194 (306 + 5 * b)) < 6 ∧ 0 ≤ (h 194 (306 + 5 * b + 1)) ∧ (h 194 (306 + 5 * b + 1)) < 4 ∧ 0 ≤ (h 194 (306 + 5 * b + 2)) ∧ (h 194 (306 + 5 * b + 2)) < 240) ∧ (h 18 b) = 10000 * (h 194 (306 + 5 * b)) + 1000 * (h 194 (306 + 5 * b + 1)) + (h 194 (306 + 5 * b + 2)) ∧ (h 19 b) = (h 194 (306 + 5 * b + 3)) ∧ (h 20 b) = (h 194 (306 + 5 * b + 4))) : bdA h mk kk u c u = unM h mk kk u c u := by
  rw [bd_sm (n := u) (fun b hb => by have := gu b hb; omega) u (Nat.le_refl _), un_sm gu gc u (Nat.le_refl _)]
  exact @smI_kinds (wD h) (fD h mk kk u c) (fstP (wD h)) (topP (wD h) (h 29) u) (fun _ => Classical.propDecidable _) (fun _ => Classical.propDecidable _) u 65536 (fun d hd => by have := gu d hd; unfold wD; omega) (fun d hd => by
    obtain ⟨e, e1, e2, e3⟩ := fst_ex (w := wD h) d
    exact ⟨e, by omega, e2, e3⟩) (fun d e hd he q a b => fst_un q a b) (fun d hd => top_ex0 u hd) (fun d e hd he q a b => top_un hd he q a b)
theorem rel_under {ρ : Nat → Int} {h h1 h2 : bH} {r1 r2 : Option bV} (q : RR PS GS h) (s1 : s_underB (evS ρ [(2, fcon 0), (0, fid 3), (0, fid 4)]) h r1 h1) (s2 : s_underM (evS ρ [(2, fcon 193), (0, fid 3), (0, fid 4)]) h1 r2 h2) : RR PS GS h2 ∧ r1 = r2 := by
  have ht : TH h := s1.1
  obtain ⟨u, hu, mu, lu, gu⟩ : (recX (17, 14) 8 12 514 5 [28, 29] [] f_draw).1 h 0 194 := (q.2.1 pc_draw (List.Mem.tail _ (List.Mem.tail _ (List.Mem.head _)))).1
  obtain ⟨c, hc, mc, lc, gc⟩ : (recX (17, 0) 5 24 306 5 [18, 19, 20] [] f_box).1 h 0 194 := (q.2.1 pc_box (List.Mem.tail _ (List.Mem.head _))).1
  have t1 := s1.2 (ρ 3) (ρ 4) u c (show [((2 : Nat), ev ρ (fcon 0)), (0, ev ρ (fid 3)), (0, ev ρ (fid 4))] = [(2, ((0 : Nat) : Int)), (0, (ρ 3)), (0, (ρ 4))] from by rw [fcon_ev, fid_ev, fid_ev]; rfl) hu hc
  rcases t1 with ⟨k1, rfl, rfl⟩ | ⟨k1, rfl, rfl⟩
  · have t2 := s2.2 (ρ 3) (ρ 4) u c (show [((2 : Nat), ev ρ (fcon 193)), (0, ev ρ (fid 3)), (0, ev ρ (fid 4))] = [(2, ((193 : Nat) : Int)), (0, (ρ 3)), (0, (ρ 4))] from by rw [fcon_ev, fid_ev, fid_ev]; rfl) mu mc
    rcases t2 with ⟨k2, rfl, rfl⟩ | ⟨k2, rfl, rfl⟩
    · exact ⟨q, rfl⟩
    · exfalso; omega
  · have t2 := s2.2 (ρ 3) (ρ 4) u c (show [((2 : Nat), ev ρ (fcon 193)), (0, ev ρ (fid 3)), (0, ev ρ (fid 4))] = [(2, ((193 : Nat) : Int)), (0, (ρ 3)), (0, (ρ 4))] from by rw [fcon_ev, fid_ev, fid_ev]; rfl) mu mc
    rcases t2 with ⟨k2, rfl, rfl⟩ | ⟨k2, rfl, rfl⟩
    · exfalso; omega
    · exact ⟨q, (by rw [und_eq gu gc])⟩
