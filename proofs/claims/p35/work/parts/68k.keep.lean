def wcov (l l' : List (Nat × Nat × Nat)) : Bool := l.all fun q => (List.range (q.2.2 - q.2.1)).all fun i => wrF (some l') q.1 (q.2.1 + i)
theorem wcov_ok {l l' : List (Nat × Nat × Nat)} (h : wcov l l' = true) {a j : Nat} (hw : wrF (some l) a j = true) : wrF (some l') a j = true := by
  obtain ⟨q, hq, e1, e2, e3⟩ := wr_x hw
  have := List.all_eq_true.mp (List.all_eq_true.mp h q hq) (j - q.2.1) (List.mem_range.mpr (by omega))
  rw [show q.2.1 + (j - q.2.1) = j by omega, e1] at this
  exact this
/-- a text's copy: its contract -/
theorem sk_trm {g : bG} {l : Launch} {d : Nat} {Q : bQ} {h : bH} {k a b : Nat} {w : List (Nat × Nat × Nat)} (hK : Keeps g l gT (k, 2, some w, false, ([], [], [], 212), [(2, (((a : Nat) : Int), [])), (2, (((b : Nat) : Int), []))], [(([], [], [], 212), none)])) (ht : TH h) (hq : ∀ H, (∀ x j, wrF (some w) x j = false → H x j = h x j) → TH H → Q none H) : MH g l (d + 1 + 1) k 212 212 [(2, ((a : Nat) : Int)), (2, ((b : Nat) : Int))] h Q := by
  have e : evS (fun _ => (0 : Int)) [(2, (((a : Nat) : Int), [])), (2, (((b : Nat) : Int), []))] = [(2, ((a : Nat) : Int)), (2, ((b : Nat) : Int))] := by
    show [((2 : Nat), ev _ (fcon ((a : Nat) : Int))), ((2 : Nat), ev _ (fcon ((b : Nat) : Int)))] = _
    rw [fcon_ev, fcon_ev]
  rw [← e]
  refine hK (d + 1 + 1) (by show 2 ≤ _; omega) (fun _ => 0) h Q ⟨fun i hi => absurd hi (Nat.not_lt_zero i), fun f hf => (by cases hf), fun c hc => (by cases hc), fun a j ha hj _ => ht a j ha hj, fun _ _ _ => rfl, fun e => (by cases e)⟩ (fun r H hp => ?_)
  obtain ⟨p, hp, ρ', _, hc, rfl⟩ := hp
  cases List.mem_singleton.mp hp
  exact hq H hc.2.2.2.2.1 (fun a j ha hj => hc.2.2.2.1 a j ha hj (fun c hc => (by cases hc)))
theorem m_poolk (hB : BytesOK) {g : bG} {l : Launch} {d : Nat} {Q : bQ} {h : bH} (ht : TH h) (hR : TR h) (hq : ∀ H, CP 0 84 (((((((((L_bec57k ++ L_bec18k) ++ L_bec121k) ++ L_bec79k) ++ ([(1, 4, 4 + 1)] ++ [])) ++ []) ++ []) ++ []) ++ []) ++ []) (((((((((W_bec57k ++ W_bec18k) ++ W_bec121k) ++ W_bec79k) ++ ([(85, 4, 4 + 1)] ++ [(127, 0, 2), (127, 4, 6), (127, 8, 9), (127, 10, 12), (128, 0, 9), (129, 0, 9), (130, 0, 4), (131, 0, 3), (132, 0, 4), (133, 0, 220)])) ++ [(134, 0, 2), (134, 4, 6), (134, 8, 9), (134, 10, 12), (135, 0, 9), (136, 0, 9), (137, 0, 4), (138, 0, 3), (139, 0, 4), (140, 0, 220)]) ++ [(141, 0, 2), (141, 4, 6), (141, 8, 9), (141, 10, 12), (142, 0, 9), (143, 0, 9), (144, 0, 4), (145, 0, 3), (146, 0, 4), (147, 0, 220)]) ++ [(148, 0, 2), (148, 4, 6), (148, 8, 9), (148, 10, 12), (149, 0, 9), (150, 0, 9), (151, 0, 4), (152, 0, 3), (153, 0, 4), (154, 0, 220)]) ++ [(155, 0, 2), (155, 4, 6), (155, 8, 9), (155, 10, 12), (156, 0, 9), (157, 0, 9), (158, 0, 4), (159, 0, 3), (160, 0, 4), (161, 0, 220)]) ++ [(162, 0, 2), (162, 4, 6), (162, 8, 9), (162, 10, 12), (163, 0, 9), (164, 0, 9), (165, 0, 4), (166, 0, 3), (167, 0, 4), (168, 0, 220)]) h H → TH H → Q none H) : MH g l (d + 1 + 1 + 1) 43 212 212 [(2, ((85 : Nat) : Int)), (2, ((1 : Nat) : Int))] h Q := by
  refine mh_go hB mg43 ml43 (Nat.le_of_ble_eq_true rfl) ?_
  show HW g l (d + 1 + 1 + 1) 43 _ _ 0 [(0, (2, ((85 : Nat) : Int))), (1, (2, ((1 : Nat) : Int)))] [] h
  refine w_pl (pc' := 1) (lv' := [(0, (2, ((85 : Nat) : Int))), (1, (2, ((1 : Nat) : Int)))]) (st' := [(2, ((85 : Nat) : Int))]) (h' := h) (o43_0 hB) rfl ?_
  refine w_getf (A := 85) (t := 2) (z := ((86 : Nat) : Int)) (pc' := 4) (o43_1 hB) rfl (by decide +kernel) (hR (85, 0, 86) (by decide)) ?_
  refine w_pl (pc' := 5) (lv' := [(0, (2, ((85 : Nat) : Int))), (1, (2, ((1 : Nat) : Int)))]) (st' := [(2, ((1 : Nat) : Int)), (2, ((86 : Nat) : Int))]) (h' := h) (o43_2 hB) rfl ?_
  refine w_getf (A := 1) (t := 2) (z := ((2 : Nat) : Int)) (pc' := 8) (o43_3 hB) rfl (by decide +kernel) (hR (1, 0, 2) (by decide)) ?_
  refine w_callV (A := 86) (as := [(2, ((2 : Nat) : Int))]) (rest := []) (n := 1) (pc' := 11) 3 hB (o43_4 hB) rfl (by decide +kernel) rfl rfl (Nat.le_of_ble_eq_true rfl) (m_bec57k hB hR (fun H1 c1 => ?_))
  show HW g l _ 43 _ _ 11 [(0, (2, ((85 : Nat) : Int))), (1, (2, ((1 : Nat) : Int)))] [] H1
  have C1 : CP 0 84 (L_bec57k) (W_bec57k) h H1 := c1
  have hR1 : TR H1 := TR_fr (w := W_bec57k) (by decide +kernel) c1.2 hR
  have T1 : TH H1 := CP_TH c1 (by decide +kernel) (by decide +kernel) ht
  refine w_pl (pc' := 12) (lv' := [(0, (2, ((85 : Nat) : Int))), (1, (2, ((1 : Nat) : Int)))]) (st' := [(2, ((85 : Nat) : Int))]) (h' := H1) (o43_5 hB) rfl ?_
  refine w_getf (A := 85) (t := 2) (z := ((98 : Nat) : Int)) (pc' := 15) (o43_6 hB) rfl (by decide +kernel) (hR1 (85, 1, 98) (by decide)) ?_
  refine w_pl (pc' := 16) (lv' := [(0, (2, ((85 : Nat) : Int))), (1, (2, ((1 : Nat) : Int)))]) (st' := [(2, ((1 : Nat) : Int)), (2, ((98 : Nat) : Int))]) (h' := H1) (o43_7 hB) rfl ?_
  refine w_getf (A := 1) (t := 2) (z := ((14 : Nat) : Int)) (pc' := 19) (o43_8 hB) rfl (by decide +kernel) (hR1 (1, 1, 14) (by decide)) ?_
  refine w_callV (A := 98) (as := [(2, ((14 : Nat) : Int))]) (rest := []) (n := 1) (pc' := 22) 1 hB (o43_9 hB) rfl (by decide +kernel) rfl rfl (Nat.le_of_ble_eq_true rfl) (m_bec18k hB hR1 (fun H2 c2 => ?_))
  show HW g l _ 43 _ _ 22 [(0, (2, ((85 : Nat) : Int))), (1, (2, ((1 : Nat) : Int)))] [] H2
  have C2 : CP 0 84 (L_bec57k ++ L_bec18k) (W_bec57k ++ W_bec18k) h H2 := CP_seq C1 c2 (by decide +kernel)
  have hR2 : TR H2 := TR_fr (w := W_bec18k) (by decide +kernel) c2.2 hR1
  have T2 : TH H2 := CP_TH c2 (by decide +kernel) (by decide +kernel) T1
  refine w_pl (pc' := 23) (lv' := [(0, (2, ((85 : Nat) : Int))), (1, (2, ((1 : Nat) : Int)))]) (st' := [(2, ((85 : Nat) : Int))]) (h' := H2) (o43_10 hB) rfl ?_
  refine w_getf (A := 85) (t := 2) (z := ((101 : Nat) : Int)) (pc' := 26) (o43_11 hB) rfl (by decide +kernel) (hR2 (85, 2, 101) (by decide)) ?_
  refine w_pl (pc' := 27) (lv' := [(0, (2, ((85 : Nat) : Int))), (1, (2, ((1 : Nat) : Int)))]) (st' := [(2, ((1 : Nat) : Int)), (2, ((101 : Nat) : Int))]) (h' := H2) (o43_12 hB) rfl ?_
  refine w_getf (A := 1) (t := 2) (z := ((17 : Nat) : Int)) (pc' := 30) (o43_13 hB) rfl (by decide +kernel) (hR2 (1, 2, 17) (by decide)) ?_
  refine w_callV (A := 101) (as := [(2, ((17 : Nat) : Int))]) (rest := []) (n := 1) (pc' := 33) 9 hB (o43_14 hB) rfl (by decide +kernel) rfl rfl (Nat.le_of_ble_eq_true rfl) (m_bec121k hB hR2 (fun H3 c3 => ?_))
  show HW g l _ 43 _ _ 33 [(0, (2, ((85 : Nat) : Int))), (1, (2, ((1 : Nat) : Int)))] [] H3
  have C3 : CP 0 84 ((L_bec57k ++ L_bec18k) ++ L_bec121k) ((W_bec57k ++ W_bec18k) ++ W_bec121k) h H3 := CP_seq C2 c3 (by decide +kernel)
  have hR3 : TR H3 := TR_fr (w := W_bec121k) (by decide +kernel) c3.2 hR2
  have T3 : TH H3 := CP_TH c3 (by decide +kernel) (by decide +kernel) T2
  refine w_pl (pc' := 34) (lv' := [(0, (2, ((85 : Nat) : Int))), (1, (2, ((1 : Nat) : Int)))]) (st' := [(2, ((85 : Nat) : Int))]) (h' := H3) (o43_15 hB) rfl ?_
  refine w_getf (A := 85) (t := 2) (z := ((114 : Nat) : Int)) (pc' := 37) (o43_16 hB) rfl (by decide +kernel) (hR3 (85, 3, 114) (by decide)) ?_
  refine w_pl (pc' := 38) (lv' := [(0, (2, ((85 : Nat) : Int))), (1, (2, ((1 : Nat) : Int)))]) (st' := [(2, ((1 : Nat) : Int)), (2, ((114 : Nat) : Int))]) (h' := H3) (o43_17 hB) rfl ?_
  refine w_getf (A := 1) (t := 2) (z := ((30 : Nat) : Int)) (pc' := 41) (o43_18 hB) rfl (by decide +kernel) (hR3 (1, 3, 30) (by decide)) ?_
  refine w_callV (A := 114) (as := [(2, ((30 : Nat) : Int))]) (rest := []) (n := 1) (pc' := 44) 6 hB (o43_19 hB) rfl (by decide +kernel) rfl rfl (Nat.le_of_ble_eq_true rfl) (m_bec79k hB hR3 (fun H4 c4 => ?_))
  show HW g l _ 43 _ _ 44 [(0, (2, ((85 : Nat) : Int))), (1, (2, ((1 : Nat) : Int)))] [] H4
  have C4 : CP 0 84 (((L_bec57k ++ L_bec18k) ++ L_bec121k) ++ L_bec79k) (((W_bec57k ++ W_bec18k) ++ W_bec121k) ++ W_bec79k) h H4 := CP_seq C3 c4 (by decide +kernel)
  have hR4 : TR H4 := TR_fr (w := W_bec79k) (by decide +kernel) c4.2 hR3
  have T4 : TH H4 := CP_TH c4 (by decide +kernel) (by decide +kernel) T3
  refine w_pl (pc' := 45) (lv' := [(0, (2, ((85 : Nat) : Int))), (1, (2, ((1 : Nat) : Int)))]) (st' := [(2, ((85 : Nat) : Int))]) (h' := H4) (o43_20 hB) rfl ?_
  refine w_pl (pc' := 46) (lv' := [(0, (2, ((85 : Nat) : Int))), (1, (2, ((1 : Nat) : Int)))]) (st' := [(2, ((1 : Nat) : Int)), (2, ((85 : Nat) : Int))]) (h' := H4) (o43_21 hB) rfl ?_
  refine w_getf (A := 1) (t := 0) (z := (H4 1 4)) (pc' := 49) (o43_22 hB) rfl (by decide +kernel) rfl ?_
  refine w_putf (A := 85) (t := 0) (pc' := 52) (o43_23 hB) rfl (by decide +kernel) ?_
  refine w_pl (pc' := 53) (lv' := [(0, (2, ((85 : Nat) : Int))), (1, (2, ((1 : Nat) : Int)))]) (st' := [(0, ((0 : Nat) : Int))]) (h' := (hup H4 85 (4) (H4 1 4))) (o43_24 hB) rfl ?_
  refine w_st (tg := 0) (j := 2) (len := 1) (pc' := 54) (lv' := [(2, (0, ((0 : Nat) : Int))), (0, (2, ((85 : Nat) : Int))), (1, (2, ((1 : Nat) : Int)))]) (o43_25 hB) rfl rfl ml43 (by decide) rfl ?_
  refine w_pl (pc' := 55) (lv' := [(2, (0, ((0 : Nat) : Int))), (0, (2, ((85 : Nat) : Int))), (1, (2, ((1 : Nat) : Int)))]) (st' := [(0, ((0 : Nat) : Int))]) (h' := (hup H4 85 (4) (H4 1 4))) (o43_26 hB) rfl ?_
  refine w_pl (pc' := 57) (lv' := [(2, (0, ((0 : Nat) : Int))), (0, (2, ((85 : Nat) : Int))), (1, (2, ((1 : Nat) : Int)))]) (st' := [(0, ((6 : Nat) : Int)), (0, ((0 : Nat) : Int))]) (h' := (hup H4 85 (4) (H4 1 4))) (o43_27 hB) rfl ?_
  refine w_icmp (pt := 96) (pf := 60) (o43_28 hB) (by decide) rfl (fun e => ?_) (fun e => ?_)
  · have f600 : (((6 : Nat) : Int) ≤ ((0 : Nat) : Int)) := e
    exfalso; omega
  · have f601 : ¬ (((6 : Nat) : Int) ≤ ((0 : Nat) : Int)) := e
    refine w_pl (pc' := 61) (lv' := [(2, (0, ((0 : Nat) : Int))), (0, (2, ((85 : Nat) : Int))), (1, (2, ((1 : Nat) : Int)))]) (st' := [(2, ((85 : Nat) : Int))]) (h' := (hup H4 85 (4) (H4 1 4))) (o43_29 hB) rfl ?_
    refine w_getf (A := 85) (t := 2) (z := ((118 : Nat) : Int)) (pc' := 64) (o43_30 hB) rfl (by decide +kernel) ((hup_nj (by omega)).trans (hR4 (85, 5, 118) (by decide))) ?_
    refine w_pl (pc' := 65) (lv' := [(2, (0, ((0 : Nat) : Int))), (0, (2, ((85 : Nat) : Int))), (1, (2, ((1 : Nat) : Int)))]) (st' := [(0, ((0 : Nat) : Int)), (2, ((118 : Nat) : Int))]) (h' := (hup H4 85 (4) (H4 1 4))) (o43_31 hB) rfl ?_
    refine w_aald (kd := 2) (A := 118) (i := 0) (n := 6) (B := 127) (pc' := 66) (o43_32 hB) rfl rfl (by decide +kernel) (by decide) ((hup_ne (by decide)).trans (hR4 (118, 0, 127) (by decide))) ?_
    refine w_st (tg := 2) (j := 3) (len := 1) (pc' := 67) (lv' := [(3, (2, ((127 : Nat) : Int))), (2, (0, ((0 : Nat) : Int))), (0, (2, ((85 : Nat) : Int))), (1, (2, ((1 : Nat) : Int)))]) (o43_33 hB) rfl rfl ml43 (by decide) rfl ?_
    refine w_pl (pc' := 68) (lv' := [(3, (2, ((127 : Nat) : Int))), (2, (0, ((0 : Nat) : Int))), (0, (2, ((85 : Nat) : Int))), (1, (2, ((1 : Nat) : Int)))]) (st' := [(2, ((1 : Nat) : Int))]) (h' := (hup H4 85 (4) (H4 1 4))) (o43_34 hB) rfl ?_
    refine w_getf (A := 1) (t := 2) (z := ((34 : Nat) : Int)) (pc' := 71) (o43_35 hB) rfl (by decide +kernel) ((hup_ne (by decide)).trans (hR4 (1, 5, 34) (by decide))) ?_
    refine w_pl (pc' := 72) (lv' := [(3, (2, ((127 : Nat) : Int))), (2, (0, ((0 : Nat) : Int))), (0, (2, ((85 : Nat) : Int))), (1, (2, ((1 : Nat) : Int)))]) (st' := [(0, ((0 : Nat) : Int)), (2, ((34 : Nat) : Int))]) (h' := (hup H4 85 (4) (H4 1 4))) (o43_36 hB) rfl ?_
    refine w_aald (kd := 2) (A := 34) (i := 0) (n := 6) (B := 43) (pc' := 73) (o43_37 hB) rfl rfl (by decide +kernel) (by decide) ((hup_ne (by decide)).trans (hR4 (34, 0, 43) (by decide))) ?_
    refine w_st (tg := 2) (j := 4) (len := 2) (pc' := 75) (lv' := [(4, (2, ((43 : Nat) : Int))), (3, (2, ((127 : Nat) : Int))), (2, (0, ((0 : Nat) : Int))), (0, (2, ((85 : Nat) : Int))), (1, (2, ((1 : Nat) : Int)))]) (o43_38 hB) rfl rfl ml43 (by decide) rfl ?_
    refine w_pl (pc' := 76) (lv' := [(4, (2, ((43 : Nat) : Int))), (3, (2, ((127 : Nat) : Int))), (2, (0, ((0 : Nat) : Int))), (0, (2, ((85 : Nat) : Int))), (1, (2, ((1 : Nat) : Int)))]) (st' := [(2, ((127 : Nat) : Int))]) (h' := (hup H4 85 (4) (H4 1 4))) (o43_39 hB) rfl ?_
    refine w_null (pt := 90) (pf := 79) (o43_40 hB) (by decide) rfl ?_
    refine w_pl (pc' := 81) (lv' := [(4, (2, ((43 : Nat) : Int))), (3, (2, ((127 : Nat) : Int))), (2, (0, ((0 : Nat) : Int))), (0, (2, ((85 : Nat) : Int))), (1, (2, ((1 : Nat) : Int)))]) (st' := [(2, ((43 : Nat) : Int))]) (h' := (hup H4 85 (4) (H4 1 4))) (o43_41 hB) rfl ?_
    refine w_null (pt := 90) (pf := 84) (o43_42 hB) (by decide) rfl ?_
    refine w_pl (pc' := 85) (lv' := [(4, (2, ((43 : Nat) : Int))), (3, (2, ((127 : Nat) : Int))), (2, (0, ((0 : Nat) : Int))), (0, (2, ((85 : Nat) : Int))), (1, (2, ((1 : Nat) : Int)))]) (st' := [(2, ((127 : Nat) : Int))]) (h' := (hup H4 85 (4) (H4 1 4))) (o43_43 hB) rfl ?_
    refine w_pl (pc' := 87) (lv' := [(4, (2, ((43 : Nat) : Int))), (3, (2, ((127 : Nat) : Int))), (2, (0, ((0 : Nat) : Int))), (0, (2, ((85 : Nat) : Int))), (1, (2, ((1 : Nat) : Int)))]) (st' := [(2, ((43 : Nat) : Int)), (2, ((127 : Nat) : Int))]) (h' := (hup H4 85 (4) (H4 1 4))) (o43_44 hB) rfl ?_
    refine w_callV (A := 127) (as := [(2, ((43 : Nat) : Int))]) (rest := []) (n := 1) (pc' := 90) 8 hB (o43_45 hB) rfl (by decide +kernel) rfl rfl (Nat.le_of_ble_eq_true rfl) (sk_trm (k_197 hB g l) ((T4).upc (a := 85) (j := 4) (lo := (0)) (hi := 6) (by decide +kernel) (by have := (T4).c (a := 1) (j := 4) (lo := (0)) (hi := 6) (by decide +kernel); omega)) (fun H5 c5 T5 => ?_))
    show HW g l _ 43 _ _ 90 [(4, (2, ((43 : Nat) : Int))), (3, (2, ((127 : Nat) : Int))), (2, (0, ((0 : Nat) : Int))), (0, (2, ((85 : Nat) : Int))), (1, (2, ((1 : Nat) : Int)))] [] H5
    have C5 : CP 0 84 ((((L_bec57k ++ L_bec18k) ++ L_bec121k) ++ L_bec79k) ++ ([(1, 4, 4 + 1)] ++ [])) ((((W_bec57k ++ W_bec18k) ++ W_bec121k) ++ W_bec79k) ++ ([(85, 4, 4 + 1)] ++ [(127, 0, 2), (127, 4, 6), (127, 8, 9), (127, 10, 12), (128, 0, 9), (129, 0, 9), (130, 0, 4), (131, 0, 3), (132, 0, 4), (133, 0, 220)])) h H5 := CP_seq C4 (CP_seq (CP_up (t := 0) (t' := 84) (A := 1) (j := 4) (h := H4) rfl) (CP_fr c5) (by decide +kernel)) (by decide +kernel)
    have hR5 : TR H5 := (T5 : TH H5).r
    refine w_iinc (x := ((0 : Nat) : Int)) (z := ((1 : Nat) : Int)) (pc' := 93) (lv' := [(2, (0, ((1 : Nat) : Int))), (4, (2, ((43 : Nat) : Int))), (3, (2, ((127 : Nat) : Int))), (0, (2, ((85 : Nat) : Int))), (1, (2, ((1 : Nat) : Int)))]) (o43_46 hB) rfl rfl ml43 (by decide) (w32_e (by omega) (by omega)) rfl ?_
    refine w_goto (pt := 54) (o43_47 hB) (by decide) ?_
    refine w_pl (pc' := 55) (lv' := [(2, (0, ((1 : Nat) : Int))), (4, (2, ((43 : Nat) : Int))), (3, (2, ((127 : Nat) : Int))), (0, (2, ((85 : Nat) : Int))), (1, (2, ((1 : Nat) : Int)))]) (st' := [(0, ((1 : Nat) : Int))]) (h' := H5) (o43_26 hB) rfl ?_
    refine w_pl (pc' := 57) (lv' := [(2, (0, ((1 : Nat) : Int))), (4, (2, ((43 : Nat) : Int))), (3, (2, ((127 : Nat) : Int))), (0, (2, ((85 : Nat) : Int))), (1, (2, ((1 : Nat) : Int)))]) (st' := [(0, ((6 : Nat) : Int)), (0, ((1 : Nat) : Int))]) (h' := H5) (o43_27 hB) rfl ?_
    refine w_icmp (pt := 96) (pf := 60) (o43_28 hB) (by decide) rfl (fun e => ?_) (fun e => ?_)
    · have f603 : (((6 : Nat) : Int) ≤ ((1 : Nat) : Int)) := e
      exfalso; omega
    · have f604 : ¬ (((6 : Nat) : Int) ≤ ((1 : Nat) : Int)) := e
      refine w_pl (pc' := 61) (lv' := [(2, (0, ((1 : Nat) : Int))), (4, (2, ((43 : Nat) : Int))), (3, (2, ((127 : Nat) : Int))), (0, (2, ((85 : Nat) : Int))), (1, (2, ((1 : Nat) : Int)))]) (st' := [(2, ((85 : Nat) : Int))]) (h' := H5) (o43_29 hB) rfl ?_
      refine w_getf (A := 85) (t := 2) (z := ((118 : Nat) : Int)) (pc' := 64) (o43_30 hB) rfl (by decide +kernel) (hR5 (85, 5, 118) (by decide)) ?_
      refine w_pl (pc' := 65) (lv' := [(2, (0, ((1 : Nat) : Int))), (4, (2, ((43 : Nat) : Int))), (3, (2, ((127 : Nat) : Int))), (0, (2, ((85 : Nat) : Int))), (1, (2, ((1 : Nat) : Int)))]) (st' := [(0, ((1 : Nat) : Int)), (2, ((118 : Nat) : Int))]) (h' := H5) (o43_31 hB) rfl ?_
      refine w_aald (kd := 2) (A := 118) (i := 1) (n := 6) (B := 134) (pc' := 66) (o43_32 hB) rfl rfl (by decide +kernel) (by decide) (hR5 (118, 1, 134) (by decide)) ?_
      refine w_st (tg := 2) (j := 3) (len := 1) (pc' := 67) (lv' := [(3, (2, ((134 : Nat) : Int))), (2, (0, ((1 : Nat) : Int))), (4, (2, ((43 : Nat) : Int))), (0, (2, ((85 : Nat) : Int))), (1, (2, ((1 : Nat) : Int)))]) (o43_33 hB) rfl rfl ml43 (by decide) rfl ?_
      refine w_pl (pc' := 68) (lv' := [(3, (2, ((134 : Nat) : Int))), (2, (0, ((1 : Nat) : Int))), (4, (2, ((43 : Nat) : Int))), (0, (2, ((85 : Nat) : Int))), (1, (2, ((1 : Nat) : Int)))]) (st' := [(2, ((1 : Nat) : Int))]) (h' := H5) (o43_34 hB) rfl ?_
      refine w_getf (A := 1) (t := 2) (z := ((34 : Nat) : Int)) (pc' := 71) (o43_35 hB) rfl (by decide +kernel) (hR5 (1, 5, 34) (by decide)) ?_
      refine w_pl (pc' := 72) (lv' := [(3, (2, ((134 : Nat) : Int))), (2, (0, ((1 : Nat) : Int))), (4, (2, ((43 : Nat) : Int))), (0, (2, ((85 : Nat) : Int))), (1, (2, ((1 : Nat) : Int)))]) (st' := [(0, ((1 : Nat) : Int)), (2, ((34 : Nat) : Int))]) (h' := H5) (o43_36 hB) rfl ?_
      refine w_aald (kd := 2) (A := 34) (i := 1) (n := 6) (B := 50) (pc' := 73) (o43_37 hB) rfl rfl (by decide +kernel) (by decide) (hR5 (34, 1, 50) (by decide)) ?_
      refine w_st (tg := 2) (j := 4) (len := 2) (pc' := 75) (lv' := [(4, (2, ((50 : Nat) : Int))), (3, (2, ((134 : Nat) : Int))), (2, (0, ((1 : Nat) : Int))), (0, (2, ((85 : Nat) : Int))), (1, (2, ((1 : Nat) : Int)))]) (o43_38 hB) rfl rfl ml43 (by decide) rfl ?_
      refine w_pl (pc' := 76) (lv' := [(4, (2, ((50 : Nat) : Int))), (3, (2, ((134 : Nat) : Int))), (2, (0, ((1 : Nat) : Int))), (0, (2, ((85 : Nat) : Int))), (1, (2, ((1 : Nat) : Int)))]) (st' := [(2, ((134 : Nat) : Int))]) (h' := H5) (o43_39 hB) rfl ?_
      refine w_null (pt := 90) (pf := 79) (o43_40 hB) (by decide) rfl ?_
      refine w_pl (pc' := 81) (lv' := [(4, (2, ((50 : Nat) : Int))), (3, (2, ((134 : Nat) : Int))), (2, (0, ((1 : Nat) : Int))), (0, (2, ((85 : Nat) : Int))), (1, (2, ((1 : Nat) : Int)))]) (st' := [(2, ((50 : Nat) : Int))]) (h' := H5) (o43_41 hB) rfl ?_
      refine w_null (pt := 90) (pf := 84) (o43_42 hB) (by decide) rfl ?_
      refine w_pl (pc' := 85) (lv' := [(4, (2, ((50 : Nat) : Int))), (3, (2, ((134 : Nat) : Int))), (2, (0, ((1 : Nat) : Int))), (0, (2, ((85 : Nat) : Int))), (1, (2, ((1 : Nat) : Int)))]) (st' := [(2, ((134 : Nat) : Int))]) (h' := H5) (o43_43 hB) rfl ?_
      refine w_pl (pc' := 87) (lv' := [(4, (2, ((50 : Nat) : Int))), (3, (2, ((134 : Nat) : Int))), (2, (0, ((1 : Nat) : Int))), (0, (2, ((85 : Nat) : Int))), (1, (2, ((1 : Nat) : Int)))]) (st' := [(2, ((50 : Nat) : Int)), (2, ((134 : Nat) : Int))]) (h' := H5) (o43_44 hB) rfl ?_
      refine w_callV (A := 134) (as := [(2, ((50 : Nat) : Int))]) (rest := []) (n := 1) (pc' := 90) 8 hB (o43_45 hB) rfl (by decide +kernel) rfl rfl (Nat.le_of_ble_eq_true rfl) (sk_trm (k_198 hB g l) (T5) (fun H6 c6 T6 => ?_))
      show HW g l _ 43 _ _ 90 [(4, (2, ((50 : Nat) : Int))), (3, (2, ((134 : Nat) : Int))), (2, (0, ((1 : Nat) : Int))), (0, (2, ((85 : Nat) : Int))), (1, (2, ((1 : Nat) : Int)))] [] H6
      have C6 : CP 0 84 (((((L_bec57k ++ L_bec18k) ++ L_bec121k) ++ L_bec79k) ++ ([(1, 4, 4 + 1)] ++ [])) ++ []) (((((W_bec57k ++ W_bec18k) ++ W_bec121k) ++ W_bec79k) ++ ([(85, 4, 4 + 1)] ++ [(127, 0, 2), (127, 4, 6), (127, 8, 9), (127, 10, 12), (128, 0, 9), (129, 0, 9), (130, 0, 4), (131, 0, 3), (132, 0, 4), (133, 0, 220)])) ++ [(134, 0, 2), (134, 4, 6), (134, 8, 9), (134, 10, 12), (135, 0, 9), (136, 0, 9), (137, 0, 4), (138, 0, 3), (139, 0, 4), (140, 0, 220)]) h H6 := CP_seq C5 (CP_fr c6) (by decide +kernel)
      have hR6 : TR H6 := (T6 : TH H6).r
      refine w_iinc (x := ((1 : Nat) : Int)) (z := ((2 : Nat) : Int)) (pc' := 93) (lv' := [(2, (0, ((2 : Nat) : Int))), (4, (2, ((50 : Nat) : Int))), (3, (2, ((134 : Nat) : Int))), (0, (2, ((85 : Nat) : Int))), (1, (2, ((1 : Nat) : Int)))]) (o43_46 hB) rfl rfl ml43 (by decide) (w32_e (by omega) (by omega)) rfl ?_
      refine w_goto (pt := 54) (o43_47 hB) (by decide) ?_
      refine w_pl (pc' := 55) (lv' := [(2, (0, ((2 : Nat) : Int))), (4, (2, ((50 : Nat) : Int))), (3, (2, ((134 : Nat) : Int))), (0, (2, ((85 : Nat) : Int))), (1, (2, ((1 : Nat) : Int)))]) (st' := [(0, ((2 : Nat) : Int))]) (h' := H6) (o43_26 hB) rfl ?_
      refine w_pl (pc' := 57) (lv' := [(2, (0, ((2 : Nat) : Int))), (4, (2, ((50 : Nat) : Int))), (3, (2, ((134 : Nat) : Int))), (0, (2, ((85 : Nat) : Int))), (1, (2, ((1 : Nat) : Int)))]) (st' := [(0, ((6 : Nat) : Int)), (0, ((2 : Nat) : Int))]) (h' := H6) (o43_27 hB) rfl ?_
      refine w_icmp (pt := 96) (pf := 60) (o43_28 hB) (by decide) rfl (fun e => ?_) (fun e => ?_)
      · have f606 : (((6 : Nat) : Int) ≤ ((2 : Nat) : Int)) := e
        exfalso; omega
      · have f607 : ¬ (((6 : Nat) : Int) ≤ ((2 : Nat) : Int)) := e
        refine w_pl (pc' := 61) (lv' := [(2, (0, ((2 : Nat) : Int))), (4, (2, ((50 : Nat) : Int))), (3, (2, ((134 : Nat) : Int))), (0, (2, ((85 : Nat) : Int))), (1, (2, ((1 : Nat) : Int)))]) (st' := [(2, ((85 : Nat) : Int))]) (h' := H6) (o43_29 hB) rfl ?_
        refine w_getf (A := 85) (t := 2) (z := ((118 : Nat) : Int)) (pc' := 64) (o43_30 hB) rfl (by decide +kernel) (hR6 (85, 5, 118) (by decide)) ?_
        refine w_pl (pc' := 65) (lv' := [(2, (0, ((2 : Nat) : Int))), (4, (2, ((50 : Nat) : Int))), (3, (2, ((134 : Nat) : Int))), (0, (2, ((85 : Nat) : Int))), (1, (2, ((1 : Nat) : Int)))]) (st' := [(0, ((2 : Nat) : Int)), (2, ((118 : Nat) : Int))]) (h' := H6) (o43_31 hB) rfl ?_
        refine w_aald (kd := 2) (A := 118) (i := 2) (n := 6) (B := 141) (pc' := 66) (o43_32 hB) rfl rfl (by decide +kernel) (by decide) (hR6 (118, 2, 141) (by decide)) ?_
        refine w_st (tg := 2) (j := 3) (len := 1) (pc' := 67) (lv' := [(3, (2, ((141 : Nat) : Int))), (2, (0, ((2 : Nat) : Int))), (4, (2, ((50 : Nat) : Int))), (0, (2, ((85 : Nat) : Int))), (1, (2, ((1 : Nat) : Int)))]) (o43_33 hB) rfl rfl ml43 (by decide) rfl ?_
        refine w_pl (pc' := 68) (lv' := [(3, (2, ((141 : Nat) : Int))), (2, (0, ((2 : Nat) : Int))), (4, (2, ((50 : Nat) : Int))), (0, (2, ((85 : Nat) : Int))), (1, (2, ((1 : Nat) : Int)))]) (st' := [(2, ((1 : Nat) : Int))]) (h' := H6) (o43_34 hB) rfl ?_
        refine w_getf (A := 1) (t := 2) (z := ((34 : Nat) : Int)) (pc' := 71) (o43_35 hB) rfl (by decide +kernel) (hR6 (1, 5, 34) (by decide)) ?_
        refine w_pl (pc' := 72) (lv' := [(3, (2, ((141 : Nat) : Int))), (2, (0, ((2 : Nat) : Int))), (4, (2, ((50 : Nat) : Int))), (0, (2, ((85 : Nat) : Int))), (1, (2, ((1 : Nat) : Int)))]) (st' := [(0, ((2 : Nat) : Int)), (2, ((34 : Nat) : Int))]) (h' := H6) (o43_36 hB) rfl ?_
        refine w_aald (kd := 2) (A := 34) (i := 2) (n := 6) (B := 57) (pc' := 73) (o43_37 hB) rfl rfl (by decide +kernel) (by decide) (hR6 (34, 2, 57) (by decide)) ?_
        refine w_st (tg := 2) (j := 4) (len := 2) (pc' := 75) (lv' := [(4, (2, ((57 : Nat) : Int))), (3, (2, ((141 : Nat) : Int))), (2, (0, ((2 : Nat) : Int))), (0, (2, ((85 : Nat) : Int))), (1, (2, ((1 : Nat) : Int)))]) (o43_38 hB) rfl rfl ml43 (by decide) rfl ?_
        refine w_pl (pc' := 76) (lv' := [(4, (2, ((57 : Nat) : Int))), (3, (2, ((141 : Nat) : Int))), (2, (0, ((2 : Nat) : Int))), (0, (2, ((85 : Nat) : Int))), (1, (2, ((1 : Nat) : Int)))]) (st' := [(2, ((141 : Nat) : Int))]) (h' := H6) (o43_39 hB) rfl ?_
        refine w_null (pt := 90) (pf := 79) (o43_40 hB) (by decide) rfl ?_
        refine w_pl (pc' := 81) (lv' := [(4, (2, ((57 : Nat) : Int))), (3, (2, ((141 : Nat) : Int))), (2, (0, ((2 : Nat) : Int))), (0, (2, ((85 : Nat) : Int))), (1, (2, ((1 : Nat) : Int)))]) (st' := [(2, ((57 : Nat) : Int))]) (h' := H6) (o43_41 hB) rfl ?_
        refine w_null (pt := 90) (pf := 84) (o43_42 hB) (by decide) rfl ?_
        refine w_pl (pc' := 85) (lv' := [(4, (2, ((57 : Nat) : Int))), (3, (2, ((141 : Nat) : Int))), (2, (0, ((2 : Nat) : Int))), (0, (2, ((85 : Nat) : Int))), (1, (2, ((1 : Nat) : Int)))]) (st' := [(2, ((141 : Nat) : Int))]) (h' := H6) (o43_43 hB) rfl ?_
        refine w_pl (pc' := 87) (lv' := [(4, (2, ((57 : Nat) : Int))), (3, (2, ((141 : Nat) : Int))), (2, (0, ((2 : Nat) : Int))), (0, (2, ((85 : Nat) : Int))), (1, (2, ((1 : Nat) : Int)))]) (st' := [(2, ((57 : Nat) : Int)), (2, ((141 : Nat) : Int))]) (h' := H6) (o43_44 hB) rfl ?_
        refine w_callV (A := 141) (as := [(2, ((57 : Nat) : Int))]) (rest := []) (n := 1) (pc' := 90) 8 hB (o43_45 hB) rfl (by decide +kernel) rfl rfl (Nat.le_of_ble_eq_true rfl) (sk_trm (k_199 hB g l) (T6) (fun H7 c7 T7 => ?_))
        show HW g l _ 43 _ _ 90 [(4, (2, ((57 : Nat) : Int))), (3, (2, ((141 : Nat) : Int))), (2, (0, ((2 : Nat) : Int))), (0, (2, ((85 : Nat) : Int))), (1, (2, ((1 : Nat) : Int)))] [] H7
        have C7 : CP 0 84 ((((((L_bec57k ++ L_bec18k) ++ L_bec121k) ++ L_bec79k) ++ ([(1, 4, 4 + 1)] ++ [])) ++ []) ++ []) ((((((W_bec57k ++ W_bec18k) ++ W_bec121k) ++ W_bec79k) ++ ([(85, 4, 4 + 1)] ++ [(127, 0, 2), (127, 4, 6), (127, 8, 9), (127, 10, 12), (128, 0, 9), (129, 0, 9), (130, 0, 4), (131, 0, 3), (132, 0, 4), (133, 0, 220)])) ++ [(134, 0, 2), (134, 4, 6), (134, 8, 9), (134, 10, 12), (135, 0, 9), (136, 0, 9), (137, 0, 4), (138, 0, 3), (139, 0, 4), (140, 0, 220)]) ++ [(141, 0, 2), (141, 4, 6), (141, 8, 9), (141, 10, 12), (142, 0, 9), (143, 0, 9), (144, 0, 4), (145, 0, 3), (146, 0, 4), (147, 0, 220)]) h H7 := CP_seq C6 (CP_fr c7) (by decide +kernel)
        have hR7 : TR H7 := (T7 : TH H7).r
        refine w_iinc (x := ((2 : Nat) : Int)) (z := ((3 : Nat) : Int)) (pc' := 93) (lv' := [(2, (0, ((3 : Nat) : Int))), (4, (2, ((57 : Nat) : Int))), (3, (2, ((141 : Nat) : Int))), (0, (2, ((85 : Nat) : Int))), (1, (2, ((1 : Nat) : Int)))]) (o43_46 hB) rfl rfl ml43 (by decide) (w32_e (by omega) (by omega)) rfl ?_
        refine w_goto (pt := 54) (o43_47 hB) (by decide) ?_
        refine w_pl (pc' := 55) (lv' := [(2, (0, ((3 : Nat) : Int))), (4, (2, ((57 : Nat) : Int))), (3, (2, ((141 : Nat) : Int))), (0, (2, ((85 : Nat) : Int))), (1, (2, ((1 : Nat) : Int)))]) (st' := [(0, ((3 : Nat) : Int))]) (h' := H7) (o43_26 hB) rfl ?_
        refine w_pl (pc' := 57) (lv' := [(2, (0, ((3 : Nat) : Int))), (4, (2, ((57 : Nat) : Int))), (3, (2, ((141 : Nat) : Int))), (0, (2, ((85 : Nat) : Int))), (1, (2, ((1 : Nat) : Int)))]) (st' := [(0, ((6 : Nat) : Int)), (0, ((3 : Nat) : Int))]) (h' := H7) (o43_27 hB) rfl ?_
        refine w_icmp (pt := 96) (pf := 60) (o43_28 hB) (by decide) rfl (fun e => ?_) (fun e => ?_)
        · have f609 : (((6 : Nat) : Int) ≤ ((3 : Nat) : Int)) := e
          exfalso; omega
        · have f610 : ¬ (((6 : Nat) : Int) ≤ ((3 : Nat) : Int)) := e
          refine w_pl (pc' := 61) (lv' := [(2, (0, ((3 : Nat) : Int))), (4, (2, ((57 : Nat) : Int))), (3, (2, ((141 : Nat) : Int))), (0, (2, ((85 : Nat) : Int))), (1, (2, ((1 : Nat) : Int)))]) (st' := [(2, ((85 : Nat) : Int))]) (h' := H7) (o43_29 hB) rfl ?_
          refine w_getf (A := 85) (t := 2) (z := ((118 : Nat) : Int)) (pc' := 64) (o43_30 hB) rfl (by decide +kernel) (hR7 (85, 5, 118) (by decide)) ?_
          refine w_pl (pc' := 65) (lv' := [(2, (0, ((3 : Nat) : Int))), (4, (2, ((57 : Nat) : Int))), (3, (2, ((141 : Nat) : Int))), (0, (2, ((85 : Nat) : Int))), (1, (2, ((1 : Nat) : Int)))]) (st' := [(0, ((3 : Nat) : Int)), (2, ((118 : Nat) : Int))]) (h' := H7) (o43_31 hB) rfl ?_
          refine w_aald (kd := 2) (A := 118) (i := 3) (n := 6) (B := 148) (pc' := 66) (o43_32 hB) rfl rfl (by decide +kernel) (by decide) (hR7 (118, 3, 148) (by decide)) ?_
          refine w_st (tg := 2) (j := 3) (len := 1) (pc' := 67) (lv' := [(3, (2, ((148 : Nat) : Int))), (2, (0, ((3 : Nat) : Int))), (4, (2, ((57 : Nat) : Int))), (0, (2, ((85 : Nat) : Int))), (1, (2, ((1 : Nat) : Int)))]) (o43_33 hB) rfl rfl ml43 (by decide) rfl ?_
          refine w_pl (pc' := 68) (lv' := [(3, (2, ((148 : Nat) : Int))), (2, (0, ((3 : Nat) : Int))), (4, (2, ((57 : Nat) : Int))), (0, (2, ((85 : Nat) : Int))), (1, (2, ((1 : Nat) : Int)))]) (st' := [(2, ((1 : Nat) : Int))]) (h' := H7) (o43_34 hB) rfl ?_
          refine w_getf (A := 1) (t := 2) (z := ((34 : Nat) : Int)) (pc' := 71) (o43_35 hB) rfl (by decide +kernel) (hR7 (1, 5, 34) (by decide)) ?_
          refine w_pl (pc' := 72) (lv' := [(3, (2, ((148 : Nat) : Int))), (2, (0, ((3 : Nat) : Int))), (4, (2, ((57 : Nat) : Int))), (0, (2, ((85 : Nat) : Int))), (1, (2, ((1 : Nat) : Int)))]) (st' := [(0, ((3 : Nat) : Int)), (2, ((34 : Nat) : Int))]) (h' := H7) (o43_36 hB) rfl ?_
          refine w_aald (kd := 2) (A := 34) (i := 3) (n := 6) (B := 64) (pc' := 73) (o43_37 hB) rfl rfl (by decide +kernel) (by decide) (hR7 (34, 3, 64) (by decide)) ?_
          refine w_st (tg := 2) (j := 4) (len := 2) (pc' := 75) (lv' := [(4, (2, ((64 : Nat) : Int))), (3, (2, ((148 : Nat) : Int))), (2, (0, ((3 : Nat) : Int))), (0, (2, ((85 : Nat) : Int))), (1, (2, ((1 : Nat) : Int)))]) (o43_38 hB) rfl rfl ml43 (by decide) rfl ?_
          refine w_pl (pc' := 76) (lv' := [(4, (2, ((64 : Nat) : Int))), (3, (2, ((148 : Nat) : Int))), (2, (0, ((3 : Nat) : Int))), (0, (2, ((85 : Nat) : Int))), (1, (2, ((1 : Nat) : Int)))]) (st' := [(2, ((148 : Nat) : Int))]) (h' := H7) (o43_39 hB) rfl ?_
          refine w_null (pt := 90) (pf := 79) (o43_40 hB) (by decide) rfl ?_
          refine w_pl (pc' := 81) (lv' := [(4, (2, ((64 : Nat) : Int))), (3, (2, ((148 : Nat) : Int))), (2, (0, ((3 : Nat) : Int))), (0, (2, ((85 : Nat) : Int))), (1, (2, ((1 : Nat) : Int)))]) (st' := [(2, ((64 : Nat) : Int))]) (h' := H7) (o43_41 hB) rfl ?_
          refine w_null (pt := 90) (pf := 84) (o43_42 hB) (by decide) rfl ?_
          refine w_pl (pc' := 85) (lv' := [(4, (2, ((64 : Nat) : Int))), (3, (2, ((148 : Nat) : Int))), (2, (0, ((3 : Nat) : Int))), (0, (2, ((85 : Nat) : Int))), (1, (2, ((1 : Nat) : Int)))]) (st' := [(2, ((148 : Nat) : Int))]) (h' := H7) (o43_43 hB) rfl ?_
          refine w_pl (pc' := 87) (lv' := [(4, (2, ((64 : Nat) : Int))), (3, (2, ((148 : Nat) : Int))), (2, (0, ((3 : Nat) : Int))), (0, (2, ((85 : Nat) : Int))), (1, (2, ((1 : Nat) : Int)))]) (st' := [(2, ((64 : Nat) : Int)), (2, ((148 : Nat) : Int))]) (h' := H7) (o43_44 hB) rfl ?_
          refine w_callV (A := 148) (as := [(2, ((64 : Nat) : Int))]) (rest := []) (n := 1) (pc' := 90) 8 hB (o43_45 hB) rfl (by decide +kernel) rfl rfl (Nat.le_of_ble_eq_true rfl) (sk_trm (k_200 hB g l) (T7) (fun H8 c8 T8 => ?_))
          show HW g l _ 43 _ _ 90 [(4, (2, ((64 : Nat) : Int))), (3, (2, ((148 : Nat) : Int))), (2, (0, ((3 : Nat) : Int))), (0, (2, ((85 : Nat) : Int))), (1, (2, ((1 : Nat) : Int)))] [] H8
          have C8 : CP 0 84 (((((((L_bec57k ++ L_bec18k) ++ L_bec121k) ++ L_bec79k) ++ ([(1, 4, 4 + 1)] ++ [])) ++ []) ++ []) ++ []) (((((((W_bec57k ++ W_bec18k) ++ W_bec121k) ++ W_bec79k) ++ ([(85, 4, 4 + 1)] ++ [(127, 0, 2), (127, 4, 6), (127, 8, 9), (127, 10, 12), (128, 0, 9), (129, 0, 9), (130, 0, 4), (131, 0, 3), (132, 0, 4), (133, 0, 220)])) ++ [(134, 0, 2), (134, 4, 6), (134, 8, 9), (134, 10, 12), (135, 0, 9), (136, 0, 9), (137, 0, 4), (138, 0, 3), (139, 0, 4), (140, 0, 220)]) ++ [(141, 0, 2), (141, 4, 6), (141, 8, 9), (141, 10, 12), (142, 0, 9), (143, 0, 9), (144, 0, 4), (145, 0, 3), (146, 0, 4), (147, 0, 220)]) ++ [(148, 0, 2), (148, 4, 6), (148, 8, 9), (148, 10, 12), (149, 0, 9), (150, 0, 9), (151, 0, 4), (152, 0, 3), (153, 0, 4), (154, 0, 220)]) h H8 := CP_seq C7 (CP_fr c8) (by decide +kernel)
          have hR8 : TR H8 := (T8 : TH H8).r
          refine w_iinc (x := ((3 : Nat) : Int)) (z := ((4 : Nat) : Int)) (pc' := 93) (lv' := [(2, (0, ((4 : Nat) : Int))), (4, (2, ((64 : Nat) : Int))), (3, (2, ((148 : Nat) : Int))), (0, (2, ((85 : Nat) : Int))), (1, (2, ((1 : Nat) : Int)))]) (o43_46 hB) rfl rfl ml43 (by decide) (w32_e (by omega) (by omega)) rfl ?_
          refine w_goto (pt := 54) (o43_47 hB) (by decide) ?_
          refine w_pl (pc' := 55) (lv' := [(2, (0, ((4 : Nat) : Int))), (4, (2, ((64 : Nat) : Int))), (3, (2, ((148 : Nat) : Int))), (0, (2, ((85 : Nat) : Int))), (1, (2, ((1 : Nat) : Int)))]) (st' := [(0, ((4 : Nat) : Int))]) (h' := H8) (o43_26 hB) rfl ?_
          refine w_pl (pc' := 57) (lv' := [(2, (0, ((4 : Nat) : Int))), (4, (2, ((64 : Nat) : Int))), (3, (2, ((148 : Nat) : Int))), (0, (2, ((85 : Nat) : Int))), (1, (2, ((1 : Nat) : Int)))]) (st' := [(0, ((6 : Nat) : Int)), (0, ((4 : Nat) : Int))]) (h' := H8) (o43_27 hB) rfl ?_
          refine w_icmp (pt := 96) (pf := 60) (o43_28 hB) (by decide) rfl (fun e => ?_) (fun e => ?_)
          · have f612 : (((6 : Nat) : Int) ≤ ((4 : Nat) : Int)) := e
            exfalso; omega
          · have f613 : ¬ (((6 : Nat) : Int) ≤ ((4 : Nat) : Int)) := e
            refine w_pl (pc' := 61) (lv' := [(2, (0, ((4 : Nat) : Int))), (4, (2, ((64 : Nat) : Int))), (3, (2, ((148 : Nat) : Int))), (0, (2, ((85 : Nat) : Int))), (1, (2, ((1 : Nat) : Int)))]) (st' := [(2, ((85 : Nat) : Int))]) (h' := H8) (o43_29 hB) rfl ?_
            refine w_getf (A := 85) (t := 2) (z := ((118 : Nat) : Int)) (pc' := 64) (o43_30 hB) rfl (by decide +kernel) (hR8 (85, 5, 118) (by decide)) ?_
            refine w_pl (pc' := 65) (lv' := [(2, (0, ((4 : Nat) : Int))), (4, (2, ((64 : Nat) : Int))), (3, (2, ((148 : Nat) : Int))), (0, (2, ((85 : Nat) : Int))), (1, (2, ((1 : Nat) : Int)))]) (st' := [(0, ((4 : Nat) : Int)), (2, ((118 : Nat) : Int))]) (h' := H8) (o43_31 hB) rfl ?_
            refine w_aald (kd := 2) (A := 118) (i := 4) (n := 6) (B := 155) (pc' := 66) (o43_32 hB) rfl rfl (by decide +kernel) (by decide) (hR8 (118, 4, 155) (by decide)) ?_
            refine w_st (tg := 2) (j := 3) (len := 1) (pc' := 67) (lv' := [(3, (2, ((155 : Nat) : Int))), (2, (0, ((4 : Nat) : Int))), (4, (2, ((64 : Nat) : Int))), (0, (2, ((85 : Nat) : Int))), (1, (2, ((1 : Nat) : Int)))]) (o43_33 hB) rfl rfl ml43 (by decide) rfl ?_
            refine w_pl (pc' := 68) (lv' := [(3, (2, ((155 : Nat) : Int))), (2, (0, ((4 : Nat) : Int))), (4, (2, ((64 : Nat) : Int))), (0, (2, ((85 : Nat) : Int))), (1, (2, ((1 : Nat) : Int)))]) (st' := [(2, ((1 : Nat) : Int))]) (h' := H8) (o43_34 hB) rfl ?_
            refine w_getf (A := 1) (t := 2) (z := ((34 : Nat) : Int)) (pc' := 71) (o43_35 hB) rfl (by decide +kernel) (hR8 (1, 5, 34) (by decide)) ?_
            refine w_pl (pc' := 72) (lv' := [(3, (2, ((155 : Nat) : Int))), (2, (0, ((4 : Nat) : Int))), (4, (2, ((64 : Nat) : Int))), (0, (2, ((85 : Nat) : Int))), (1, (2, ((1 : Nat) : Int)))]) (st' := [(0, ((4 : Nat) : Int)), (2, ((34 : Nat) : Int))]) (h' := H8) (o43_36 hB) rfl ?_
            refine w_aald (kd := 2) (A := 34) (i := 4) (n := 6) (B := 71) (pc' := 73) (o43_37 hB) rfl rfl (by decide +kernel) (by decide) (hR8 (34, 4, 71) (by decide)) ?_
            refine w_st (tg := 2) (j := 4) (len := 2) (pc' := 75) (lv' := [(4, (2, ((71 : Nat) : Int))), (3, (2, ((155 : Nat) : Int))), (2, (0, ((4 : Nat) : Int))), (0, (2, ((85 : Nat) : Int))), (1, (2, ((1 : Nat) : Int)))]) (o43_38 hB) rfl rfl ml43 (by decide) rfl ?_
            refine w_pl (pc' := 76) (lv' := [(4, (2, ((71 : Nat) : Int))), (3, (2, ((155 : Nat) : Int))), (2, (0, ((4 : Nat) : Int))), (0, (2, ((85 : Nat) : Int))), (1, (2, ((1 : Nat) : Int)))]) (st' := [(2, ((155 : Nat) : Int))]) (h' := H8) (o43_39 hB) rfl ?_
            refine w_null (pt := 90) (pf := 79) (o43_40 hB) (by decide) rfl ?_
            refine w_pl (pc' := 81) (lv' := [(4, (2, ((71 : Nat) : Int))), (3, (2, ((155 : Nat) : Int))), (2, (0, ((4 : Nat) : Int))), (0, (2, ((85 : Nat) : Int))), (1, (2, ((1 : Nat) : Int)))]) (st' := [(2, ((71 : Nat) : Int))]) (h' := H8) (o43_41 hB) rfl ?_
            refine w_null (pt := 90) (pf := 84) (o43_42 hB) (by decide) rfl ?_
            refine w_pl (pc' := 85) (lv' := [(4, (2, ((71 : Nat) : Int))), (3, (2, ((155 : Nat) : Int))), (2, (0, ((4 : Nat) : Int))), (0, (2, ((85 : Nat) : Int))), (1, (2, ((1 : Nat) : Int)))]) (st' := [(2, ((155 : Nat) : Int))]) (h' := H8) (o43_43 hB) rfl ?_
            refine w_pl (pc' := 87) (lv' := [(4, (2, ((71 : Nat) : Int))), (3, (2, ((155 : Nat) : Int))), (2, (0, ((4 : Nat) : Int))), (0, (2, ((85 : Nat) : Int))), (1, (2, ((1 : Nat) : Int)))]) (st' := [(2, ((71 : Nat) : Int)), (2, ((155 : Nat) : Int))]) (h' := H8) (o43_44 hB) rfl ?_
            refine w_callV (A := 155) (as := [(2, ((71 : Nat) : Int))]) (rest := []) (n := 1) (pc' := 90) 8 hB (o43_45 hB) rfl (by decide +kernel) rfl rfl (Nat.le_of_ble_eq_true rfl) (sk_trm (k_201 hB g l) (T8) (fun H9 c9 T9 => ?_))
            show HW g l _ 43 _ _ 90 [(4, (2, ((71 : Nat) : Int))), (3, (2, ((155 : Nat) : Int))), (2, (0, ((4 : Nat) : Int))), (0, (2, ((85 : Nat) : Int))), (1, (2, ((1 : Nat) : Int)))] [] H9
            have C9 : CP 0 84 ((((((((L_bec57k ++ L_bec18k) ++ L_bec121k) ++ L_bec79k) ++ ([(1, 4, 4 + 1)] ++ [])) ++ []) ++ []) ++ []) ++ []) ((((((((W_bec57k ++ W_bec18k) ++ W_bec121k) ++ W_bec79k) ++ ([(85, 4, 4 + 1)] ++ [(127, 0, 2), (127, 4, 6), (127, 8, 9), (127, 10, 12), (128, 0, 9), (129, 0, 9), (130, 0, 4), (131, 0, 3), (132, 0, 4), (133, 0, 220)])) ++ [(134, 0, 2), (134, 4, 6), (134, 8, 9), (134, 10, 12), (135, 0, 9), (136, 0, 9), (137, 0, 4), (138, 0, 3), (139, 0, 4), (140, 0, 220)]) ++ [(141, 0, 2), (141, 4, 6), (141, 8, 9), (141, 10, 12), (142, 0, 9), (143, 0, 9), (144, 0, 4), (145, 0, 3), (146, 0, 4), (147, 0, 220)]) ++ [(148, 0, 2), (148, 4, 6), (148, 8, 9), (148, 10, 12), (149, 0, 9), (150, 0, 9), (151, 0, 4), (152, 0, 3), (153, 0, 4), (154, 0, 220)]) ++ [(155, 0, 2), (155, 4, 6), (155, 8, 9), (155, 10, 12), (156, 0, 9), (157, 0, 9), (158, 0, 4), (159, 0, 3), (160, 0, 4), (161, 0, 220)]) h H9 := CP_seq C8 (CP_fr c9) (by decide +kernel)
            have hR9 : TR H9 := (T9 : TH H9).r
            refine w_iinc (x := ((4 : Nat) : Int)) (z := ((5 : Nat) : Int)) (pc' := 93) (lv' := [(2, (0, ((5 : Nat) : Int))), (4, (2, ((71 : Nat) : Int))), (3, (2, ((155 : Nat) : Int))), (0, (2, ((85 : Nat) : Int))), (1, (2, ((1 : Nat) : Int)))]) (o43_46 hB) rfl rfl ml43 (by decide) (w32_e (by omega) (by omega)) rfl ?_
            refine w_goto (pt := 54) (o43_47 hB) (by decide) ?_
            refine w_pl (pc' := 55) (lv' := [(2, (0, ((5 : Nat) : Int))), (4, (2, ((71 : Nat) : Int))), (3, (2, ((155 : Nat) : Int))), (0, (2, ((85 : Nat) : Int))), (1, (2, ((1 : Nat) : Int)))]) (st' := [(0, ((5 : Nat) : Int))]) (h' := H9) (o43_26 hB) rfl ?_
            refine w_pl (pc' := 57) (lv' := [(2, (0, ((5 : Nat) : Int))), (4, (2, ((71 : Nat) : Int))), (3, (2, ((155 : Nat) : Int))), (0, (2, ((85 : Nat) : Int))), (1, (2, ((1 : Nat) : Int)))]) (st' := [(0, ((6 : Nat) : Int)), (0, ((5 : Nat) : Int))]) (h' := H9) (o43_27 hB) rfl ?_
            refine w_icmp (pt := 96) (pf := 60) (o43_28 hB) (by decide) rfl (fun e => ?_) (fun e => ?_)
            · have f615 : (((6 : Nat) : Int) ≤ ((5 : Nat) : Int)) := e
              exfalso; omega
            · have f616 : ¬ (((6 : Nat) : Int) ≤ ((5 : Nat) : Int)) := e
              refine w_pl (pc' := 61) (lv' := [(2, (0, ((5 : Nat) : Int))), (4, (2, ((71 : Nat) : Int))), (3, (2, ((155 : Nat) : Int))), (0, (2, ((85 : Nat) : Int))), (1, (2, ((1 : Nat) : Int)))]) (st' := [(2, ((85 : Nat) : Int))]) (h' := H9) (o43_29 hB) rfl ?_
              refine w_getf (A := 85) (t := 2) (z := ((118 : Nat) : Int)) (pc' := 64) (o43_30 hB) rfl (by decide +kernel) (hR9 (85, 5, 118) (by decide)) ?_
              refine w_pl (pc' := 65) (lv' := [(2, (0, ((5 : Nat) : Int))), (4, (2, ((71 : Nat) : Int))), (3, (2, ((155 : Nat) : Int))), (0, (2, ((85 : Nat) : Int))), (1, (2, ((1 : Nat) : Int)))]) (st' := [(0, ((5 : Nat) : Int)), (2, ((118 : Nat) : Int))]) (h' := H9) (o43_31 hB) rfl ?_
              refine w_aald (kd := 2) (A := 118) (i := 5) (n := 6) (B := 162) (pc' := 66) (o43_32 hB) rfl rfl (by decide +kernel) (by decide) (hR9 (118, 5, 162) (by decide)) ?_
              refine w_st (tg := 2) (j := 3) (len := 1) (pc' := 67) (lv' := [(3, (2, ((162 : Nat) : Int))), (2, (0, ((5 : Nat) : Int))), (4, (2, ((71 : Nat) : Int))), (0, (2, ((85 : Nat) : Int))), (1, (2, ((1 : Nat) : Int)))]) (o43_33 hB) rfl rfl ml43 (by decide) rfl ?_
              refine w_pl (pc' := 68) (lv' := [(3, (2, ((162 : Nat) : Int))), (2, (0, ((5 : Nat) : Int))), (4, (2, ((71 : Nat) : Int))), (0, (2, ((85 : Nat) : Int))), (1, (2, ((1 : Nat) : Int)))]) (st' := [(2, ((1 : Nat) : Int))]) (h' := H9) (o43_34 hB) rfl ?_
              refine w_getf (A := 1) (t := 2) (z := ((34 : Nat) : Int)) (pc' := 71) (o43_35 hB) rfl (by decide +kernel) (hR9 (1, 5, 34) (by decide)) ?_
              refine w_pl (pc' := 72) (lv' := [(3, (2, ((162 : Nat) : Int))), (2, (0, ((5 : Nat) : Int))), (4, (2, ((71 : Nat) : Int))), (0, (2, ((85 : Nat) : Int))), (1, (2, ((1 : Nat) : Int)))]) (st' := [(0, ((5 : Nat) : Int)), (2, ((34 : Nat) : Int))]) (h' := H9) (o43_36 hB) rfl ?_
              refine w_aald (kd := 2) (A := 34) (i := 5) (n := 6) (B := 78) (pc' := 73) (o43_37 hB) rfl rfl (by decide +kernel) (by decide) (hR9 (34, 5, 78) (by decide)) ?_
              refine w_st (tg := 2) (j := 4) (len := 2) (pc' := 75) (lv' := [(4, (2, ((78 : Nat) : Int))), (3, (2, ((162 : Nat) : Int))), (2, (0, ((5 : Nat) : Int))), (0, (2, ((85 : Nat) : Int))), (1, (2, ((1 : Nat) : Int)))]) (o43_38 hB) rfl rfl ml43 (by decide) rfl ?_
              refine w_pl (pc' := 76) (lv' := [(4, (2, ((78 : Nat) : Int))), (3, (2, ((162 : Nat) : Int))), (2, (0, ((5 : Nat) : Int))), (0, (2, ((85 : Nat) : Int))), (1, (2, ((1 : Nat) : Int)))]) (st' := [(2, ((162 : Nat) : Int))]) (h' := H9) (o43_39 hB) rfl ?_
              refine w_null (pt := 90) (pf := 79) (o43_40 hB) (by decide) rfl ?_
              refine w_pl (pc' := 81) (lv' := [(4, (2, ((78 : Nat) : Int))), (3, (2, ((162 : Nat) : Int))), (2, (0, ((5 : Nat) : Int))), (0, (2, ((85 : Nat) : Int))), (1, (2, ((1 : Nat) : Int)))]) (st' := [(2, ((78 : Nat) : Int))]) (h' := H9) (o43_41 hB) rfl ?_
              refine w_null (pt := 90) (pf := 84) (o43_42 hB) (by decide) rfl ?_
              refine w_pl (pc' := 85) (lv' := [(4, (2, ((78 : Nat) : Int))), (3, (2, ((162 : Nat) : Int))), (2, (0, ((5 : Nat) : Int))), (0, (2, ((85 : Nat) : Int))), (1, (2, ((1 : Nat) : Int)))]) (st' := [(2, ((162 : Nat) : Int))]) (h' := H9) (o43_43 hB) rfl ?_
              refine w_pl (pc' := 87) (lv' := [(4, (2, ((78 : Nat) : Int))), (3, (2, ((162 : Nat) : Int))), (2, (0, ((5 : Nat) : Int))), (0, (2, ((85 : Nat) : Int))), (1, (2, ((1 : Nat) : Int)))]) (st' := [(2, ((78 : Nat) : Int)), (2, ((162 : Nat) : Int))]) (h' := H9) (o43_44 hB) rfl ?_
              refine w_callV (A := 162) (as := [(2, ((78 : Nat) : Int))]) (rest := []) (n := 1) (pc' := 90) 8 hB (o43_45 hB) rfl (by decide +kernel) rfl rfl (Nat.le_of_ble_eq_true rfl) (sk_trm (k_202 hB g l) (T9) (fun H10 c10 T10 => ?_))
              show HW g l _ 43 _ _ 90 [(4, (2, ((78 : Nat) : Int))), (3, (2, ((162 : Nat) : Int))), (2, (0, ((5 : Nat) : Int))), (0, (2, ((85 : Nat) : Int))), (1, (2, ((1 : Nat) : Int)))] [] H10
              have C10 : CP 0 84 (((((((((L_bec57k ++ L_bec18k) ++ L_bec121k) ++ L_bec79k) ++ ([(1, 4, 4 + 1)] ++ [])) ++ []) ++ []) ++ []) ++ []) ++ []) (((((((((W_bec57k ++ W_bec18k) ++ W_bec121k) ++ W_bec79k) ++ ([(85, 4, 4 + 1)] ++ [(127, 0, 2), (127, 4, 6), (127, 8, 9), (127, 10, 12), (128, 0, 9), (129, 0, 9), (130, 0, 4), (131, 0, 3), (132, 0, 4), (133, 0, 220)])) ++ [(134, 0, 2), (134, 4, 6), (134, 8, 9), (134, 10, 12), (135, 0, 9), (136, 0, 9), (137, 0, 4), (138, 0, 3), (139, 0, 4), (140, 0, 220)]) ++ [(141, 0, 2), (141, 4, 6), (141, 8, 9), (141, 10, 12), (142, 0, 9), (143, 0, 9), (144, 0, 4), (145, 0, 3), (146, 0, 4), (147, 0, 220)]) ++ [(148, 0, 2), (148, 4, 6), (148, 8, 9), (148, 10, 12), (149, 0, 9), (150, 0, 9), (151, 0, 4), (152, 0, 3), (153, 0, 4), (154, 0, 220)]) ++ [(155, 0, 2), (155, 4, 6), (155, 8, 9), (155, 10, 12), (156, 0, 9), (157, 0, 9), (158, 0, 4), (159, 0, 3), (160, 0, 4), (161, 0, 220)]) ++ [(162, 0, 2), (162, 4, 6), (162, 8, 9), (162, 10, 12), (163, 0, 9), (164, 0, 9), (165, 0, 4), (166, 0, 3), (167, 0, 4), (168, 0, 220)]) h H10 := CP_seq C9 (CP_fr c10) (by decide +kernel)
              have hR10 : TR H10 := (T10 : TH H10).r
              refine w_iinc (x := ((5 : Nat) : Int)) (z := ((6 : Nat) : Int)) (pc' := 93) (lv' := [(2, (0, ((6 : Nat) : Int))), (4, (2, ((78 : Nat) : Int))), (3, (2, ((162 : Nat) : Int))), (0, (2, ((85 : Nat) : Int))), (1, (2, ((1 : Nat) : Int)))]) (o43_46 hB) rfl rfl ml43 (by decide) (w32_e (by omega) (by omega)) rfl ?_
              refine w_goto (pt := 54) (o43_47 hB) (by decide) ?_
              refine w_pl (pc' := 55) (lv' := [(2, (0, ((6 : Nat) : Int))), (4, (2, ((78 : Nat) : Int))), (3, (2, ((162 : Nat) : Int))), (0, (2, ((85 : Nat) : Int))), (1, (2, ((1 : Nat) : Int)))]) (st' := [(0, ((6 : Nat) : Int))]) (h' := H10) (o43_26 hB) rfl ?_
              refine w_pl (pc' := 57) (lv' := [(2, (0, ((6 : Nat) : Int))), (4, (2, ((78 : Nat) : Int))), (3, (2, ((162 : Nat) : Int))), (0, (2, ((85 : Nat) : Int))), (1, (2, ((1 : Nat) : Int)))]) (st' := [(0, ((6 : Nat) : Int)), (0, ((6 : Nat) : Int))]) (h' := H10) (o43_27 hB) rfl ?_
              refine w_icmp (pt := 96) (pf := 60) (o43_28 hB) (by decide) rfl (fun e => ?_) (fun e => ?_)
              · have f618 : (((6 : Nat) : Int) ≤ ((6 : Nat) : Int)) := e
                exact w_vret (o43_48 hB) mr43 (hq _ C10 T10)
              · have f619 : ¬ (((6 : Nat) : Int) ≤ ((6 : Nat) : Int)) := e
                exfalso; omega
theorem m_poola (hB : BytesOK) {g : bG} {l : Launch} {d : Nat} {Q : bQ} {h : bH} (ht : TH h) (hR : TR h) (hq : ∀ H, CP 84 0 (((((((((L_bec57a ++ L_bec18a) ++ L_bec121a) ++ L_bec79a) ++ ([(1, 4, 4 + 1)] ++ [])) ++ []) ++ []) ++ []) ++ []) ++ []) (((((((((W_bec57a ++ W_bec18a) ++ W_bec121a) ++ W_bec79a) ++ ([(1, 4, 4 + 1)] ++ [(43, 0, 2), (43, 4, 6), (43, 8, 9), (43, 10, 12), (44, 0, 9), (45, 0, 9), (46, 0, 4), (47, 0, 3), (48, 0, 4), (49, 0, 220)])) ++ [(50, 0, 2), (50, 4, 6), (50, 8, 9), (50, 10, 12), (51, 0, 9), (52, 0, 9), (53, 0, 4), (54, 0, 3), (55, 0, 4), (56, 0, 220)]) ++ [(57, 0, 2), (57, 4, 6), (57, 8, 9), (57, 10, 12), (58, 0, 9), (59, 0, 9), (60, 0, 4), (61, 0, 3), (62, 0, 4), (63, 0, 220)]) ++ [(64, 0, 2), (64, 4, 6), (64, 8, 9), (64, 10, 12), (65, 0, 9), (66, 0, 9), (67, 0, 4), (68, 0, 3), (69, 0, 4), (70, 0, 220)]) ++ [(71, 0, 2), (71, 4, 6), (71, 8, 9), (71, 10, 12), (72, 0, 9), (73, 0, 9), (74, 0, 4), (75, 0, 3), (76, 0, 4), (77, 0, 220)]) ++ [(78, 0, 2), (78, 4, 6), (78, 8, 9), (78, 10, 12), (79, 0, 9), (80, 0, 9), (81, 0, 4), (82, 0, 3), (83, 0, 4), (84, 0, 220)]) h H → TH H → Q none H) : MH g l (d + 1 + 1 + 1) 43 212 212 [(2, ((1 : Nat) : Int)), (2, ((85 : Nat) : Int))] h Q := by
  refine mh_go hB mg43 ml43 (Nat.le_of_ble_eq_true rfl) ?_
  show HW g l (d + 1 + 1 + 1) 43 _ _ 0 [(0, (2, ((1 : Nat) : Int))), (1, (2, ((85 : Nat) : Int)))] [] h
  refine w_pl (pc' := 1) (lv' := [(0, (2, ((1 : Nat) : Int))), (1, (2, ((85 : Nat) : Int)))]) (st' := [(2, ((1 : Nat) : Int))]) (h' := h) (o43_0 hB) rfl ?_
  refine w_getf (A := 1) (t := 2) (z := ((2 : Nat) : Int)) (pc' := 4) (o43_1 hB) rfl (by decide +kernel) (hR (1, 0, 2) (by decide)) ?_
  refine w_pl (pc' := 5) (lv' := [(0, (2, ((1 : Nat) : Int))), (1, (2, ((85 : Nat) : Int)))]) (st' := [(2, ((85 : Nat) : Int)), (2, ((2 : Nat) : Int))]) (h' := h) (o43_2 hB) rfl ?_
  refine w_getf (A := 85) (t := 2) (z := ((86 : Nat) : Int)) (pc' := 8) (o43_3 hB) rfl (by decide +kernel) (hR (85, 0, 86) (by decide)) ?_
  refine w_callV (A := 2) (as := [(2, ((86 : Nat) : Int))]) (rest := []) (n := 1) (pc' := 11) 3 hB (o43_4 hB) rfl (by decide +kernel) rfl rfl (Nat.le_of_ble_eq_true rfl) (m_bec57a hB hR (fun H1 c1 => ?_))
  show HW g l _ 43 _ _ 11 [(0, (2, ((1 : Nat) : Int))), (1, (2, ((85 : Nat) : Int)))] [] H1
  have C1 : CP 84 0 (L_bec57a) (W_bec57a) h H1 := c1
  have hR1 : TR H1 := TR_fr (w := W_bec57a) (by decide +kernel) c1.2 hR
  have T1 : TH H1 := CP_TH c1 (by decide +kernel) (by decide +kernel) ht
  refine w_pl (pc' := 12) (lv' := [(0, (2, ((1 : Nat) : Int))), (1, (2, ((85 : Nat) : Int)))]) (st' := [(2, ((1 : Nat) : Int))]) (h' := H1) (o43_5 hB) rfl ?_
  refine w_getf (A := 1) (t := 2) (z := ((14 : Nat) : Int)) (pc' := 15) (o43_6 hB) rfl (by decide +kernel) (hR1 (1, 1, 14) (by decide)) ?_
  refine w_pl (pc' := 16) (lv' := [(0, (2, ((1 : Nat) : Int))), (1, (2, ((85 : Nat) : Int)))]) (st' := [(2, ((85 : Nat) : Int)), (2, ((14 : Nat) : Int))]) (h' := H1) (o43_7 hB) rfl ?_
  refine w_getf (A := 85) (t := 2) (z := ((98 : Nat) : Int)) (pc' := 19) (o43_8 hB) rfl (by decide +kernel) (hR1 (85, 1, 98) (by decide)) ?_
  refine w_callV (A := 14) (as := [(2, ((98 : Nat) : Int))]) (rest := []) (n := 1) (pc' := 22) 1 hB (o43_9 hB) rfl (by decide +kernel) rfl rfl (Nat.le_of_ble_eq_true rfl) (m_bec18a hB hR1 (fun H2 c2 => ?_))
  show HW g l _ 43 _ _ 22 [(0, (2, ((1 : Nat) : Int))), (1, (2, ((85 : Nat) : Int)))] [] H2
  have C2 : CP 84 0 (L_bec57a ++ L_bec18a) (W_bec57a ++ W_bec18a) h H2 := CP_seq C1 c2 (by decide +kernel)
  have hR2 : TR H2 := TR_fr (w := W_bec18a) (by decide +kernel) c2.2 hR1
  have T2 : TH H2 := CP_TH c2 (by decide +kernel) (by decide +kernel) T1
  refine w_pl (pc' := 23) (lv' := [(0, (2, ((1 : Nat) : Int))), (1, (2, ((85 : Nat) : Int)))]) (st' := [(2, ((1 : Nat) : Int))]) (h' := H2) (o43_10 hB) rfl ?_
  refine w_getf (A := 1) (t := 2) (z := ((17 : Nat) : Int)) (pc' := 26) (o43_11 hB) rfl (by decide +kernel) (hR2 (1, 2, 17) (by decide)) ?_
  refine w_pl (pc' := 27) (lv' := [(0, (2, ((1 : Nat) : Int))), (1, (2, ((85 : Nat) : Int)))]) (st' := [(2, ((85 : Nat) : Int)), (2, ((17 : Nat) : Int))]) (h' := H2) (o43_12 hB) rfl ?_
  refine w_getf (A := 85) (t := 2) (z := ((101 : Nat) : Int)) (pc' := 30) (o43_13 hB) rfl (by decide +kernel) (hR2 (85, 2, 101) (by decide)) ?_
  refine w_callV (A := 17) (as := [(2, ((101 : Nat) : Int))]) (rest := []) (n := 1) (pc' := 33) 9 hB (o43_14 hB) rfl (by decide +kernel) rfl rfl (Nat.le_of_ble_eq_true rfl) (m_bec121a hB hR2 (fun H3 c3 => ?_))
  show HW g l _ 43 _ _ 33 [(0, (2, ((1 : Nat) : Int))), (1, (2, ((85 : Nat) : Int)))] [] H3
  have C3 : CP 84 0 ((L_bec57a ++ L_bec18a) ++ L_bec121a) ((W_bec57a ++ W_bec18a) ++ W_bec121a) h H3 := CP_seq C2 c3 (by decide +kernel)
  have hR3 : TR H3 := TR_fr (w := W_bec121a) (by decide +kernel) c3.2 hR2
  have T3 : TH H3 := CP_TH c3 (by decide +kernel) (by decide +kernel) T2
  refine w_pl (pc' := 34) (lv' := [(0, (2, ((1 : Nat) : Int))), (1, (2, ((85 : Nat) : Int)))]) (st' := [(2, ((1 : Nat) : Int))]) (h' := H3) (o43_15 hB) rfl ?_
  refine w_getf (A := 1) (t := 2) (z := ((30 : Nat) : Int)) (pc' := 37) (o43_16 hB) rfl (by decide +kernel) (hR3 (1, 3, 30) (by decide)) ?_
  refine w_pl (pc' := 38) (lv' := [(0, (2, ((1 : Nat) : Int))), (1, (2, ((85 : Nat) : Int)))]) (st' := [(2, ((85 : Nat) : Int)), (2, ((30 : Nat) : Int))]) (h' := H3) (o43_17 hB) rfl ?_
  refine w_getf (A := 85) (t := 2) (z := ((114 : Nat) : Int)) (pc' := 41) (o43_18 hB) rfl (by decide +kernel) (hR3 (85, 3, 114) (by decide)) ?_
  refine w_callV (A := 30) (as := [(2, ((114 : Nat) : Int))]) (rest := []) (n := 1) (pc' := 44) 6 hB (o43_19 hB) rfl (by decide +kernel) rfl rfl (Nat.le_of_ble_eq_true rfl) (m_bec79a hB hR3 (fun H4 c4 => ?_))
  show HW g l _ 43 _ _ 44 [(0, (2, ((1 : Nat) : Int))), (1, (2, ((85 : Nat) : Int)))] [] H4
  have C4 : CP 84 0 (((L_bec57a ++ L_bec18a) ++ L_bec121a) ++ L_bec79a) (((W_bec57a ++ W_bec18a) ++ W_bec121a) ++ W_bec79a) h H4 := CP_seq C3 c4 (by decide +kernel)
  have hR4 : TR H4 := TR_fr (w := W_bec79a) (by decide +kernel) c4.2 hR3
  have T4 : TH H4 := CP_TH c4 (by decide +kernel) (by decide +kernel) T3
  refine w_pl (pc' := 45) (lv' := [(0, (2, ((1 : Nat) : Int))), (1, (2, ((85 : Nat) : Int)))]) (st' := [(2, ((1 : Nat) : Int))]) (h' := H4) (o43_20 hB) rfl ?_
  refine w_pl (pc' := 46) (lv' := [(0, (2, ((1 : Nat) : Int))), (1, (2, ((85 : Nat) : Int)))]) (st' := [(2, ((85 : Nat) : Int)), (2, ((1 : Nat) : Int))]) (h' := H4) (o43_21 hB) rfl ?_
  refine w_getf (A := 85) (t := 0) (z := (H4 85 4)) (pc' := 49) (o43_22 hB) rfl (by decide +kernel) rfl ?_
  refine w_putf (A := 1) (t := 0) (pc' := 52) (o43_23 hB) rfl (by decide +kernel) ?_
  refine w_pl (pc' := 53) (lv' := [(0, (2, ((1 : Nat) : Int))), (1, (2, ((85 : Nat) : Int)))]) (st' := [(0, ((0 : Nat) : Int))]) (h' := (hup H4 1 (4) (H4 85 4))) (o43_24 hB) rfl ?_
  refine w_st (tg := 0) (j := 2) (len := 1) (pc' := 54) (lv' := [(2, (0, ((0 : Nat) : Int))), (0, (2, ((1 : Nat) : Int))), (1, (2, ((85 : Nat) : Int)))]) (o43_25 hB) rfl rfl ml43 (by decide) rfl ?_
  refine w_pl (pc' := 55) (lv' := [(2, (0, ((0 : Nat) : Int))), (0, (2, ((1 : Nat) : Int))), (1, (2, ((85 : Nat) : Int)))]) (st' := [(0, ((0 : Nat) : Int))]) (h' := (hup H4 1 (4) (H4 85 4))) (o43_26 hB) rfl ?_
  refine w_pl (pc' := 57) (lv' := [(2, (0, ((0 : Nat) : Int))), (0, (2, ((1 : Nat) : Int))), (1, (2, ((85 : Nat) : Int)))]) (st' := [(0, ((6 : Nat) : Int)), (0, ((0 : Nat) : Int))]) (h' := (hup H4 1 (4) (H4 85 4))) (o43_27 hB) rfl ?_
  refine w_icmp (pt := 96) (pf := 60) (o43_28 hB) (by decide) rfl (fun e => ?_) (fun e => ?_)
  · have f652 : (((6 : Nat) : Int) ≤ ((0 : Nat) : Int)) := e
    exfalso; omega
  · have f653 : ¬ (((6 : Nat) : Int) ≤ ((0 : Nat) : Int)) := e
    refine w_pl (pc' := 61) (lv' := [(2, (0, ((0 : Nat) : Int))), (0, (2, ((1 : Nat) : Int))), (1, (2, ((85 : Nat) : Int)))]) (st' := [(2, ((1 : Nat) : Int))]) (h' := (hup H4 1 (4) (H4 85 4))) (o43_29 hB) rfl ?_
    refine w_getf (A := 1) (t := 2) (z := ((34 : Nat) : Int)) (pc' := 64) (o43_30 hB) rfl (by decide +kernel) ((hup_nj (by omega)).trans (hR4 (1, 5, 34) (by decide))) ?_
    refine w_pl (pc' := 65) (lv' := [(2, (0, ((0 : Nat) : Int))), (0, (2, ((1 : Nat) : Int))), (1, (2, ((85 : Nat) : Int)))]) (st' := [(0, ((0 : Nat) : Int)), (2, ((34 : Nat) : Int))]) (h' := (hup H4 1 (4) (H4 85 4))) (o43_31 hB) rfl ?_
    refine w_aald (kd := 2) (A := 34) (i := 0) (n := 6) (B := 43) (pc' := 66) (o43_32 hB) rfl rfl (by decide +kernel) (by decide) ((hup_ne (by decide)).trans (hR4 (34, 0, 43) (by decide))) ?_
    refine w_st (tg := 2) (j := 3) (len := 1) (pc' := 67) (lv' := [(3, (2, ((43 : Nat) : Int))), (2, (0, ((0 : Nat) : Int))), (0, (2, ((1 : Nat) : Int))), (1, (2, ((85 : Nat) : Int)))]) (o43_33 hB) rfl rfl ml43 (by decide) rfl ?_
    refine w_pl (pc' := 68) (lv' := [(3, (2, ((43 : Nat) : Int))), (2, (0, ((0 : Nat) : Int))), (0, (2, ((1 : Nat) : Int))), (1, (2, ((85 : Nat) : Int)))]) (st' := [(2, ((85 : Nat) : Int))]) (h' := (hup H4 1 (4) (H4 85 4))) (o43_34 hB) rfl ?_
    refine w_getf (A := 85) (t := 2) (z := ((118 : Nat) : Int)) (pc' := 71) (o43_35 hB) rfl (by decide +kernel) ((hup_ne (by decide)).trans (hR4 (85, 5, 118) (by decide))) ?_
    refine w_pl (pc' := 72) (lv' := [(3, (2, ((43 : Nat) : Int))), (2, (0, ((0 : Nat) : Int))), (0, (2, ((1 : Nat) : Int))), (1, (2, ((85 : Nat) : Int)))]) (st' := [(0, ((0 : Nat) : Int)), (2, ((118 : Nat) : Int))]) (h' := (hup H4 1 (4) (H4 85 4))) (o43_36 hB) rfl ?_
    refine w_aald (kd := 2) (A := 118) (i := 0) (n := 6) (B := 127) (pc' := 73) (o43_37 hB) rfl rfl (by decide +kernel) (by decide) ((hup_ne (by decide)).trans (hR4 (118, 0, 127) (by decide))) ?_
    refine w_st (tg := 2) (j := 4) (len := 2) (pc' := 75) (lv' := [(4, (2, ((127 : Nat) : Int))), (3, (2, ((43 : Nat) : Int))), (2, (0, ((0 : Nat) : Int))), (0, (2, ((1 : Nat) : Int))), (1, (2, ((85 : Nat) : Int)))]) (o43_38 hB) rfl rfl ml43 (by decide) rfl ?_
    refine w_pl (pc' := 76) (lv' := [(4, (2, ((127 : Nat) : Int))), (3, (2, ((43 : Nat) : Int))), (2, (0, ((0 : Nat) : Int))), (0, (2, ((1 : Nat) : Int))), (1, (2, ((85 : Nat) : Int)))]) (st' := [(2, ((43 : Nat) : Int))]) (h' := (hup H4 1 (4) (H4 85 4))) (o43_39 hB) rfl ?_
    refine w_null (pt := 90) (pf := 79) (o43_40 hB) (by decide) rfl ?_
    refine w_pl (pc' := 81) (lv' := [(4, (2, ((127 : Nat) : Int))), (3, (2, ((43 : Nat) : Int))), (2, (0, ((0 : Nat) : Int))), (0, (2, ((1 : Nat) : Int))), (1, (2, ((85 : Nat) : Int)))]) (st' := [(2, ((127 : Nat) : Int))]) (h' := (hup H4 1 (4) (H4 85 4))) (o43_41 hB) rfl ?_
    refine w_null (pt := 90) (pf := 84) (o43_42 hB) (by decide) rfl ?_
    refine w_pl (pc' := 85) (lv' := [(4, (2, ((127 : Nat) : Int))), (3, (2, ((43 : Nat) : Int))), (2, (0, ((0 : Nat) : Int))), (0, (2, ((1 : Nat) : Int))), (1, (2, ((85 : Nat) : Int)))]) (st' := [(2, ((43 : Nat) : Int))]) (h' := (hup H4 1 (4) (H4 85 4))) (o43_43 hB) rfl ?_
    refine w_pl (pc' := 87) (lv' := [(4, (2, ((127 : Nat) : Int))), (3, (2, ((43 : Nat) : Int))), (2, (0, ((0 : Nat) : Int))), (0, (2, ((1 : Nat) : Int))), (1, (2, ((85 : Nat) : Int)))]) (st' := [(2, ((127 : Nat) : Int)), (2, ((43 : Nat) : Int))]) (h' := (hup H4 1 (4) (H4 85 4))) (o43_44 hB) rfl ?_
    refine w_callV (A := 43) (as := [(2, ((127 : Nat) : Int))]) (rest := []) (n := 1) (pc' := 90) 8 hB (o43_45 hB) rfl (by decide +kernel) rfl rfl (Nat.le_of_ble_eq_true rfl) (sk_trm (k_203 hB g l) ((T4).upc (a := 1) (j := 4) (lo := (0)) (hi := 6) (by decide +kernel) (by have := (T4).c (a := 85) (j := 4) (lo := (0)) (hi := 6) (by decide +kernel); omega)) (fun H5 c5 T5 => ?_))
    show HW g l _ 43 _ _ 90 [(4, (2, ((127 : Nat) : Int))), (3, (2, ((43 : Nat) : Int))), (2, (0, ((0 : Nat) : Int))), (0, (2, ((1 : Nat) : Int))), (1, (2, ((85 : Nat) : Int)))] [] H5
    have C5 : CP 84 0 ((((L_bec57a ++ L_bec18a) ++ L_bec121a) ++ L_bec79a) ++ ([(1, 4, 4 + 1)] ++ [])) ((((W_bec57a ++ W_bec18a) ++ W_bec121a) ++ W_bec79a) ++ ([(1, 4, 4 + 1)] ++ [(43, 0, 2), (43, 4, 6), (43, 8, 9), (43, 10, 12), (44, 0, 9), (45, 0, 9), (46, 0, 4), (47, 0, 3), (48, 0, 4), (49, 0, 220)])) h H5 := CP_seq C4 (CP_seq (CP_up (t := 84) (t' := 0) (A := 1) (j := 4) (h := H4) rfl) (CP_fr c5) (by decide +kernel)) (by decide +kernel)
    have hR5 : TR H5 := (T5 : TH H5).r
    refine w_iinc (x := ((0 : Nat) : Int)) (z := ((1 : Nat) : Int)) (pc' := 93) (lv' := [(2, (0, ((1 : Nat) : Int))), (4, (2, ((127 : Nat) : Int))), (3, (2, ((43 : Nat) : Int))), (0, (2, ((1 : Nat) : Int))), (1, (2, ((85 : Nat) : Int)))]) (o43_46 hB) rfl rfl ml43 (by decide) (w32_e (by omega) (by omega)) rfl ?_
    refine w_goto (pt := 54) (o43_47 hB) (by decide) ?_
    refine w_pl (pc' := 55) (lv' := [(2, (0, ((1 : Nat) : Int))), (4, (2, ((127 : Nat) : Int))), (3, (2, ((43 : Nat) : Int))), (0, (2, ((1 : Nat) : Int))), (1, (2, ((85 : Nat) : Int)))]) (st' := [(0, ((1 : Nat) : Int))]) (h' := H5) (o43_26 hB) rfl ?_
    refine w_pl (pc' := 57) (lv' := [(2, (0, ((1 : Nat) : Int))), (4, (2, ((127 : Nat) : Int))), (3, (2, ((43 : Nat) : Int))), (0, (2, ((1 : Nat) : Int))), (1, (2, ((85 : Nat) : Int)))]) (st' := [(0, ((6 : Nat) : Int)), (0, ((1 : Nat) : Int))]) (h' := H5) (o43_27 hB) rfl ?_
    refine w_icmp (pt := 96) (pf := 60) (o43_28 hB) (by decide) rfl (fun e => ?_) (fun e => ?_)
    · have f655 : (((6 : Nat) : Int) ≤ ((1 : Nat) : Int)) := e
      exfalso; omega
    · have f656 : ¬ (((6 : Nat) : Int) ≤ ((1 : Nat) : Int)) := e
      refine w_pl (pc' := 61) (lv' := [(2, (0, ((1 : Nat) : Int))), (4, (2, ((127 : Nat) : Int))), (3, (2, ((43 : Nat) : Int))), (0, (2, ((1 : Nat) : Int))), (1, (2, ((85 : Nat) : Int)))]) (st' := [(2, ((1 : Nat) : Int))]) (h' := H5) (o43_29 hB) rfl ?_
      refine w_getf (A := 1) (t := 2) (z := ((34 : Nat) : Int)) (pc' := 64) (o43_30 hB) rfl (by decide +kernel) (hR5 (1, 5, 34) (by decide)) ?_
      refine w_pl (pc' := 65) (lv' := [(2, (0, ((1 : Nat) : Int))), (4, (2, ((127 : Nat) : Int))), (3, (2, ((43 : Nat) : Int))), (0, (2, ((1 : Nat) : Int))), (1, (2, ((85 : Nat) : Int)))]) (st' := [(0, ((1 : Nat) : Int)), (2, ((34 : Nat) : Int))]) (h' := H5) (o43_31 hB) rfl ?_
      refine w_aald (kd := 2) (A := 34) (i := 1) (n := 6) (B := 50) (pc' := 66) (o43_32 hB) rfl rfl (by decide +kernel) (by decide) (hR5 (34, 1, 50) (by decide)) ?_
      refine w_st (tg := 2) (j := 3) (len := 1) (pc' := 67) (lv' := [(3, (2, ((50 : Nat) : Int))), (2, (0, ((1 : Nat) : Int))), (4, (2, ((127 : Nat) : Int))), (0, (2, ((1 : Nat) : Int))), (1, (2, ((85 : Nat) : Int)))]) (o43_33 hB) rfl rfl ml43 (by decide) rfl ?_
      refine w_pl (pc' := 68) (lv' := [(3, (2, ((50 : Nat) : Int))), (2, (0, ((1 : Nat) : Int))), (4, (2, ((127 : Nat) : Int))), (0, (2, ((1 : Nat) : Int))), (1, (2, ((85 : Nat) : Int)))]) (st' := [(2, ((85 : Nat) : Int))]) (h' := H5) (o43_34 hB) rfl ?_
      refine w_getf (A := 85) (t := 2) (z := ((118 : Nat) : Int)) (pc' := 71) (o43_35 hB) rfl (by decide +kernel) (hR5 (85, 5, 118) (by decide)) ?_
      refine w_pl (pc' := 72) (lv' := [(3, (2, ((50 : Nat) : Int))), (2, (0, ((1 : Nat) : Int))), (4, (2, ((127 : Nat) : Int))), (0, (2, ((1 : Nat) : Int))), (1, (2, ((85 : Nat) : Int)))]) (st' := [(0, ((1 : Nat) : Int)), (2, ((118 : Nat) : Int))]) (h' := H5) (o43_36 hB) rfl ?_
      refine w_aald (kd := 2) (A := 118) (i := 1) (n := 6) (B := 134) (pc' := 73) (o43_37 hB) rfl rfl (by decide +kernel) (by decide) (hR5 (118, 1, 134) (by decide)) ?_
      refine w_st (tg := 2) (j := 4) (len := 2) (pc' := 75) (lv' := [(4, (2, ((134 : Nat) : Int))), (3, (2, ((50 : Nat) : Int))), (2, (0, ((1 : Nat) : Int))), (0, (2, ((1 : Nat) : Int))), (1, (2, ((85 : Nat) : Int)))]) (o43_38 hB) rfl rfl ml43 (by decide) rfl ?_
      refine w_pl (pc' := 76) (lv' := [(4, (2, ((134 : Nat) : Int))), (3, (2, ((50 : Nat) : Int))), (2, (0, ((1 : Nat) : Int))), (0, (2, ((1 : Nat) : Int))), (1, (2, ((85 : Nat) : Int)))]) (st' := [(2, ((50 : Nat) : Int))]) (h' := H5) (o43_39 hB) rfl ?_
      refine w_null (pt := 90) (pf := 79) (o43_40 hB) (by decide) rfl ?_
      refine w_pl (pc' := 81) (lv' := [(4, (2, ((134 : Nat) : Int))), (3, (2, ((50 : Nat) : Int))), (2, (0, ((1 : Nat) : Int))), (0, (2, ((1 : Nat) : Int))), (1, (2, ((85 : Nat) : Int)))]) (st' := [(2, ((134 : Nat) : Int))]) (h' := H5) (o43_41 hB) rfl ?_
      refine w_null (pt := 90) (pf := 84) (o43_42 hB) (by decide) rfl ?_
      refine w_pl (pc' := 85) (lv' := [(4, (2, ((134 : Nat) : Int))), (3, (2, ((50 : Nat) : Int))), (2, (0, ((1 : Nat) : Int))), (0, (2, ((1 : Nat) : Int))), (1, (2, ((85 : Nat) : Int)))]) (st' := [(2, ((50 : Nat) : Int))]) (h' := H5) (o43_43 hB) rfl ?_
      refine w_pl (pc' := 87) (lv' := [(4, (2, ((134 : Nat) : Int))), (3, (2, ((50 : Nat) : Int))), (2, (0, ((1 : Nat) : Int))), (0, (2, ((1 : Nat) : Int))), (1, (2, ((85 : Nat) : Int)))]) (st' := [(2, ((134 : Nat) : Int)), (2, ((50 : Nat) : Int))]) (h' := H5) (o43_44 hB) rfl ?_
      refine w_callV (A := 50) (as := [(2, ((134 : Nat) : Int))]) (rest := []) (n := 1) (pc' := 90) 8 hB (o43_45 hB) rfl (by decide +kernel) rfl rfl (Nat.le_of_ble_eq_true rfl) (sk_trm (k_204 hB g l) (T5) (fun H6 c6 T6 => ?_))
      show HW g l _ 43 _ _ 90 [(4, (2, ((134 : Nat) : Int))), (3, (2, ((50 : Nat) : Int))), (2, (0, ((1 : Nat) : Int))), (0, (2, ((1 : Nat) : Int))), (1, (2, ((85 : Nat) : Int)))] [] H6
      have C6 : CP 84 0 (((((L_bec57a ++ L_bec18a) ++ L_bec121a) ++ L_bec79a) ++ ([(1, 4, 4 + 1)] ++ [])) ++ []) (((((W_bec57a ++ W_bec18a) ++ W_bec121a) ++ W_bec79a) ++ ([(1, 4, 4 + 1)] ++ [(43, 0, 2), (43, 4, 6), (43, 8, 9), (43, 10, 12), (44, 0, 9), (45, 0, 9), (46, 0, 4), (47, 0, 3), (48, 0, 4), (49, 0, 220)])) ++ [(50, 0, 2), (50, 4, 6), (50, 8, 9), (50, 10, 12), (51, 0, 9), (52, 0, 9), (53, 0, 4), (54, 0, 3), (55, 0, 4), (56, 0, 220)]) h H6 := CP_seq C5 (CP_fr c6) (by decide +kernel)
      have hR6 : TR H6 := (T6 : TH H6).r
      refine w_iinc (x := ((1 : Nat) : Int)) (z := ((2 : Nat) : Int)) (pc' := 93) (lv' := [(2, (0, ((2 : Nat) : Int))), (4, (2, ((134 : Nat) : Int))), (3, (2, ((50 : Nat) : Int))), (0, (2, ((1 : Nat) : Int))), (1, (2, ((85 : Nat) : Int)))]) (o43_46 hB) rfl rfl ml43 (by decide) (w32_e (by omega) (by omega)) rfl ?_
      refine w_goto (pt := 54) (o43_47 hB) (by decide) ?_
      refine w_pl (pc' := 55) (lv' := [(2, (0, ((2 : Nat) : Int))), (4, (2, ((134 : Nat) : Int))), (3, (2, ((50 : Nat) : Int))), (0, (2, ((1 : Nat) : Int))), (1, (2, ((85 : Nat) : Int)))]) (st' := [(0, ((2 : Nat) : Int))]) (h' := H6) (o43_26 hB) rfl ?_
      refine w_pl (pc' := 57) (lv' := [(2, (0, ((2 : Nat) : Int))), (4, (2, ((134 : Nat) : Int))), (3, (2, ((50 : Nat) : Int))), (0, (2, ((1 : Nat) : Int))), (1, (2, ((85 : Nat) : Int)))]) (st' := [(0, ((6 : Nat) : Int)), (0, ((2 : Nat) : Int))]) (h' := H6) (o43_27 hB) rfl ?_
      refine w_icmp (pt := 96) (pf := 60) (o43_28 hB) (by decide) rfl (fun e => ?_) (fun e => ?_)
      · have f658 : (((6 : Nat) : Int) ≤ ((2 : Nat) : Int)) := e
        exfalso; omega
      · have f659 : ¬ (((6 : Nat) : Int) ≤ ((2 : Nat) : Int)) := e
        refine w_pl (pc' := 61) (lv' := [(2, (0, ((2 : Nat) : Int))), (4, (2, ((134 : Nat) : Int))), (3, (2, ((50 : Nat) : Int))), (0, (2, ((1 : Nat) : Int))), (1, (2, ((85 : Nat) : Int)))]) (st' := [(2, ((1 : Nat) : Int))]) (h' := H6) (o43_29 hB) rfl ?_
        refine w_getf (A := 1) (t := 2) (z := ((34 : Nat) : Int)) (pc' := 64) (o43_30 hB) rfl (by decide +kernel) (hR6 (1, 5, 34) (by decide)) ?_
        refine w_pl (pc' := 65) (lv' := [(2, (0, ((2 : Nat) : Int))), (4, (2, ((134 : Nat) : Int))), (3, (2, ((50 : Nat) : Int))), (0, (2, ((1 : Nat) : Int))), (1, (2, ((85 : Nat) : Int)))]) (st' := [(0, ((2 : Nat) : Int)), (2, ((34 : Nat) : Int))]) (h' := H6) (o43_31 hB) rfl ?_
        refine w_aald (kd := 2) (A := 34) (i := 2) (n := 6) (B := 57) (pc' := 66) (o43_32 hB) rfl rfl (by decide +kernel) (by decide) (hR6 (34, 2, 57) (by decide)) ?_
        refine w_st (tg := 2) (j := 3) (len := 1) (pc' := 67) (lv' := [(3, (2, ((57 : Nat) : Int))), (2, (0, ((2 : Nat) : Int))), (4, (2, ((134 : Nat) : Int))), (0, (2, ((1 : Nat) : Int))), (1, (2, ((85 : Nat) : Int)))]) (o43_33 hB) rfl rfl ml43 (by decide) rfl ?_
        refine w_pl (pc' := 68) (lv' := [(3, (2, ((57 : Nat) : Int))), (2, (0, ((2 : Nat) : Int))), (4, (2, ((134 : Nat) : Int))), (0, (2, ((1 : Nat) : Int))), (1, (2, ((85 : Nat) : Int)))]) (st' := [(2, ((85 : Nat) : Int))]) (h' := H6) (o43_34 hB) rfl ?_
        refine w_getf (A := 85) (t := 2) (z := ((118 : Nat) : Int)) (pc' := 71) (o43_35 hB) rfl (by decide +kernel) (hR6 (85, 5, 118) (by decide)) ?_
        refine w_pl (pc' := 72) (lv' := [(3, (2, ((57 : Nat) : Int))), (2, (0, ((2 : Nat) : Int))), (4, (2, ((134 : Nat) : Int))), (0, (2, ((1 : Nat) : Int))), (1, (2, ((85 : Nat) : Int)))]) (st' := [(0, ((2 : Nat) : Int)), (2, ((118 : Nat) : Int))]) (h' := H6) (o43_36 hB) rfl ?_
        refine w_aald (kd := 2) (A := 118) (i := 2) (n := 6) (B := 141) (pc' := 73) (o43_37 hB) rfl rfl (by decide +kernel) (by decide) (hR6 (118, 2, 141) (by decide)) ?_
        refine w_st (tg := 2) (j := 4) (len := 2) (pc' := 75) (lv' := [(4, (2, ((141 : Nat) : Int))), (3, (2, ((57 : Nat) : Int))), (2, (0, ((2 : Nat) : Int))), (0, (2, ((1 : Nat) : Int))), (1, (2, ((85 : Nat) : Int)))]) (o43_38 hB) rfl rfl ml43 (by decide) rfl ?_
        refine w_pl (pc' := 76) (lv' := [(4, (2, ((141 : Nat) : Int))), (3, (2, ((57 : Nat) : Int))), (2, (0, ((2 : Nat) : Int))), (0, (2, ((1 : Nat) : Int))), (1, (2, ((85 : Nat) : Int)))]) (st' := [(2, ((57 : Nat) : Int))]) (h' := H6) (o43_39 hB) rfl ?_
        refine w_null (pt := 90) (pf := 79) (o43_40 hB) (by decide) rfl ?_
        refine w_pl (pc' := 81) (lv' := [(4, (2, ((141 : Nat) : Int))), (3, (2, ((57 : Nat) : Int))), (2, (0, ((2 : Nat) : Int))), (0, (2, ((1 : Nat) : Int))), (1, (2, ((85 : Nat) : Int)))]) (st' := [(2, ((141 : Nat) : Int))]) (h' := H6) (o43_41 hB) rfl ?_
        refine w_null (pt := 90) (pf := 84) (o43_42 hB) (by decide) rfl ?_
        refine w_pl (pc' := 85) (lv' := [(4, (2, ((141 : Nat) : Int))), (3, (2, ((57 : Nat) : Int))), (2, (0, ((2 : Nat) : Int))), (0, (2, ((1 : Nat) : Int))), (1, (2, ((85 : Nat) : Int)))]) (st' := [(2, ((57 : Nat) : Int))]) (h' := H6) (o43_43 hB) rfl ?_
        refine w_pl (pc' := 87) (lv' := [(4, (2, ((141 : Nat) : Int))), (3, (2, ((57 : Nat) : Int))), (2, (0, ((2 : Nat) : Int))), (0, (2, ((1 : Nat) : Int))), (1, (2, ((85 : Nat) : Int)))]) (st' := [(2, ((141 : Nat) : Int)), (2, ((57 : Nat) : Int))]) (h' := H6) (o43_44 hB) rfl ?_
        refine w_callV (A := 57) (as := [(2, ((141 : Nat) : Int))]) (rest := []) (n := 1) (pc' := 90) 8 hB (o43_45 hB) rfl (by decide +kernel) rfl rfl (Nat.le_of_ble_eq_true rfl) (sk_trm (k_205 hB g l) (T6) (fun H7 c7 T7 => ?_))
        show HW g l _ 43 _ _ 90 [(4, (2, ((141 : Nat) : Int))), (3, (2, ((57 : Nat) : Int))), (2, (0, ((2 : Nat) : Int))), (0, (2, ((1 : Nat) : Int))), (1, (2, ((85 : Nat) : Int)))] [] H7
        have C7 : CP 84 0 ((((((L_bec57a ++ L_bec18a) ++ L_bec121a) ++ L_bec79a) ++ ([(1, 4, 4 + 1)] ++ [])) ++ []) ++ []) ((((((W_bec57a ++ W_bec18a) ++ W_bec121a) ++ W_bec79a) ++ ([(1, 4, 4 + 1)] ++ [(43, 0, 2), (43, 4, 6), (43, 8, 9), (43, 10, 12), (44, 0, 9), (45, 0, 9), (46, 0, 4), (47, 0, 3), (48, 0, 4), (49, 0, 220)])) ++ [(50, 0, 2), (50, 4, 6), (50, 8, 9), (50, 10, 12), (51, 0, 9), (52, 0, 9), (53, 0, 4), (54, 0, 3), (55, 0, 4), (56, 0, 220)]) ++ [(57, 0, 2), (57, 4, 6), (57, 8, 9), (57, 10, 12), (58, 0, 9), (59, 0, 9), (60, 0, 4), (61, 0, 3), (62, 0, 4), (63, 0, 220)]) h H7 := CP_seq C6 (CP_fr c7) (by decide +kernel)
        have hR7 : TR H7 := (T7 : TH H7).r
        refine w_iinc (x := ((2 : Nat) : Int)) (z := ((3 : Nat) : Int)) (pc' := 93) (lv' := [(2, (0, ((3 : Nat) : Int))), (4, (2, ((141 : Nat) : Int))), (3, (2, ((57 : Nat) : Int))), (0, (2, ((1 : Nat) : Int))), (1, (2, ((85 : Nat) : Int)))]) (o43_46 hB) rfl rfl ml43 (by decide) (w32_e (by omega) (by omega)) rfl ?_
        refine w_goto (pt := 54) (o43_47 hB) (by decide) ?_
        refine w_pl (pc' := 55) (lv' := [(2, (0, ((3 : Nat) : Int))), (4, (2, ((141 : Nat) : Int))), (3, (2, ((57 : Nat) : Int))), (0, (2, ((1 : Nat) : Int))), (1, (2, ((85 : Nat) : Int)))]) (st' := [(0, ((3 : Nat) : Int))]) (h' := H7) (o43_26 hB) rfl ?_
        refine w_pl (pc' := 57) (lv' := [(2, (0, ((3 : Nat) : Int))), (4, (2, ((141 : Nat) : Int))), (3, (2, ((57 : Nat) : Int))), (0, (2, ((1 : Nat) : Int))), (1, (2, ((85 : Nat) : Int)))]) (st' := [(0, ((6 : Nat) : Int)), (0, ((3 : Nat) : Int))]) (h' := H7) (o43_27 hB) rfl ?_
        refine w_icmp (pt := 96) (pf := 60) (o43_28 hB) (by decide) rfl (fun e => ?_) (fun e => ?_)
        · have f661 : (((6 : Nat) : Int) ≤ ((3 : Nat) : Int)) := e
          exfalso; omega
        · have f662 : ¬ (((6 : Nat) : Int) ≤ ((3 : Nat) : Int)) := e
          refine w_pl (pc' := 61) (lv' := [(2, (0, ((3 : Nat) : Int))), (4, (2, ((141 : Nat) : Int))), (3, (2, ((57 : Nat) : Int))), (0, (2, ((1 : Nat) : Int))), (1, (2, ((85 : Nat) : Int)))]) (st' := [(2, ((1 : Nat) : Int))]) (h' := H7) (o43_29 hB) rfl ?_
          refine w_getf (A := 1) (t := 2) (z := ((34 : Nat) : Int)) (pc' := 64) (o43_30 hB) rfl (by decide +kernel) (hR7 (1, 5, 34) (by decide)) ?_
          refine w_pl (pc' := 65) (lv' := [(2, (0, ((3 : Nat) : Int))), (4, (2, ((141 : Nat) : Int))), (3, (2, ((57 : Nat) : Int))), (0, (2, ((1 : Nat) : Int))), (1, (2, ((85 : Nat) : Int)))]) (st' := [(0, ((3 : Nat) : Int)), (2, ((34 : Nat) : Int))]) (h' := H7) (o43_31 hB) rfl ?_
          refine w_aald (kd := 2) (A := 34) (i := 3) (n := 6) (B := 64) (pc' := 66) (o43_32 hB) rfl rfl (by decide +kernel) (by decide) (hR7 (34, 3, 64) (by decide)) ?_
          refine w_st (tg := 2) (j := 3) (len := 1) (pc' := 67) (lv' := [(3, (2, ((64 : Nat) : Int))), (2, (0, ((3 : Nat) : Int))), (4, (2, ((141 : Nat) : Int))), (0, (2, ((1 : Nat) : Int))), (1, (2, ((85 : Nat) : Int)))]) (o43_33 hB) rfl rfl ml43 (by decide) rfl ?_
          refine w_pl (pc' := 68) (lv' := [(3, (2, ((64 : Nat) : Int))), (2, (0, ((3 : Nat) : Int))), (4, (2, ((141 : Nat) : Int))), (0, (2, ((1 : Nat) : Int))), (1, (2, ((85 : Nat) : Int)))]) (st' := [(2, ((85 : Nat) : Int))]) (h' := H7) (o43_34 hB) rfl ?_
          refine w_getf (A := 85) (t := 2) (z := ((118 : Nat) : Int)) (pc' := 71) (o43_35 hB) rfl (by decide +kernel) (hR7 (85, 5, 118) (by decide)) ?_
          refine w_pl (pc' := 72) (lv' := [(3, (2, ((64 : Nat) : Int))), (2, (0, ((3 : Nat) : Int))), (4, (2, ((141 : Nat) : Int))), (0, (2, ((1 : Nat) : Int))), (1, (2, ((85 : Nat) : Int)))]) (st' := [(0, ((3 : Nat) : Int)), (2, ((118 : Nat) : Int))]) (h' := H7) (o43_36 hB) rfl ?_
          refine w_aald (kd := 2) (A := 118) (i := 3) (n := 6) (B := 148) (pc' := 73) (o43_37 hB) rfl rfl (by decide +kernel) (by decide) (hR7 (118, 3, 148) (by decide)) ?_
          refine w_st (tg := 2) (j := 4) (len := 2) (pc' := 75) (lv' := [(4, (2, ((148 : Nat) : Int))), (3, (2, ((64 : Nat) : Int))), (2, (0, ((3 : Nat) : Int))), (0, (2, ((1 : Nat) : Int))), (1, (2, ((85 : Nat) : Int)))]) (o43_38 hB) rfl rfl ml43 (by decide) rfl ?_
          refine w_pl (pc' := 76) (lv' := [(4, (2, ((148 : Nat) : Int))), (3, (2, ((64 : Nat) : Int))), (2, (0, ((3 : Nat) : Int))), (0, (2, ((1 : Nat) : Int))), (1, (2, ((85 : Nat) : Int)))]) (st' := [(2, ((64 : Nat) : Int))]) (h' := H7) (o43_39 hB) rfl ?_
          refine w_null (pt := 90) (pf := 79) (o43_40 hB) (by decide) rfl ?_
          refine w_pl (pc' := 81) (lv' := [(4, (2, ((148 : Nat) : Int))), (3, (2, ((64 : Nat) : Int))), (2, (0, ((3 : Nat) : Int))), (0, (2, ((1 : Nat) : Int))), (1, (2, ((85 : Nat) : Int)))]) (st' := [(2, ((148 : Nat) : Int))]) (h' := H7) (o43_41 hB) rfl ?_
          refine w_null (pt := 90) (pf := 84) (o43_42 hB) (by decide) rfl ?_
          refine w_pl (pc' := 85) (lv' := [(4, (2, ((148 : Nat) : Int))), (3, (2, ((64 : Nat) : Int))), (2, (0, ((3 : Nat) : Int))), (0, (2, ((1 : Nat) : Int))), (1, (2, ((85 : Nat) : Int)))]) (st' := [(2, ((64 : Nat) : Int))]) (h' := H7) (o43_43 hB) rfl ?_
          refine w_pl (pc' := 87) (lv' := [(4, (2, ((148 : Nat) : Int))), (3, (2, ((64 : Nat) : Int))), (2, (0, ((3 : Nat) : Int))), (0, (2, ((1 : Nat) : Int))), (1, (2, ((85 : Nat) : Int)))]) (st' := [(2, ((148 : Nat) : Int)), (2, ((64 : Nat) : Int))]) (h' := H7) (o43_44 hB) rfl ?_
          refine w_callV (A := 64) (as := [(2, ((148 : Nat) : Int))]) (rest := []) (n := 1) (pc' := 90) 8 hB (o43_45 hB) rfl (by decide +kernel) rfl rfl (Nat.le_of_ble_eq_true rfl) (sk_trm (k_206 hB g l) (T7) (fun H8 c8 T8 => ?_))
          show HW g l _ 43 _ _ 90 [(4, (2, ((148 : Nat) : Int))), (3, (2, ((64 : Nat) : Int))), (2, (0, ((3 : Nat) : Int))), (0, (2, ((1 : Nat) : Int))), (1, (2, ((85 : Nat) : Int)))] [] H8
          have C8 : CP 84 0 (((((((L_bec57a ++ L_bec18a) ++ L_bec121a) ++ L_bec79a) ++ ([(1, 4, 4 + 1)] ++ [])) ++ []) ++ []) ++ []) (((((((W_bec57a ++ W_bec18a) ++ W_bec121a) ++ W_bec79a) ++ ([(1, 4, 4 + 1)] ++ [(43, 0, 2), (43, 4, 6), (43, 8, 9), (43, 10, 12), (44, 0, 9), (45, 0, 9), (46, 0, 4), (47, 0, 3), (48, 0, 4), (49, 0, 220)])) ++ [(50, 0, 2), (50, 4, 6), (50, 8, 9), (50, 10, 12), (51, 0, 9), (52, 0, 9), (53, 0, 4), (54, 0, 3), (55, 0, 4), (56, 0, 220)]) ++ [(57, 0, 2), (57, 4, 6), (57, 8, 9), (57, 10, 12), (58, 0, 9), (59, 0, 9), (60, 0, 4), (61, 0, 3), (62, 0, 4), (63, 0, 220)]) ++ [(64, 0, 2), (64, 4, 6), (64, 8, 9), (64, 10, 12), (65, 0, 9), (66, 0, 9), (67, 0, 4), (68, 0, 3), (69, 0, 4), (70, 0, 220)]) h H8 := CP_seq C7 (CP_fr c8) (by decide +kernel)
          have hR8 : TR H8 := (T8 : TH H8).r
          refine w_iinc (x := ((3 : Nat) : Int)) (z := ((4 : Nat) : Int)) (pc' := 93) (lv' := [(2, (0, ((4 : Nat) : Int))), (4, (2, ((148 : Nat) : Int))), (3, (2, ((64 : Nat) : Int))), (0, (2, ((1 : Nat) : Int))), (1, (2, ((85 : Nat) : Int)))]) (o43_46 hB) rfl rfl ml43 (by decide) (w32_e (by omega) (by omega)) rfl ?_
          refine w_goto (pt := 54) (o43_47 hB) (by decide) ?_
          refine w_pl (pc' := 55) (lv' := [(2, (0, ((4 : Nat) : Int))), (4, (2, ((148 : Nat) : Int))), (3, (2, ((64 : Nat) : Int))), (0, (2, ((1 : Nat) : Int))), (1, (2, ((85 : Nat) : Int)))]) (st' := [(0, ((4 : Nat) : Int))]) (h' := H8) (o43_26 hB) rfl ?_
          refine w_pl (pc' := 57) (lv' := [(2, (0, ((4 : Nat) : Int))), (4, (2, ((148 : Nat) : Int))), (3, (2, ((64 : Nat) : Int))), (0, (2, ((1 : Nat) : Int))), (1, (2, ((85 : Nat) : Int)))]) (st' := [(0, ((6 : Nat) : Int)), (0, ((4 : Nat) : Int))]) (h' := H8) (o43_27 hB) rfl ?_
          refine w_icmp (pt := 96) (pf := 60) (o43_28 hB) (by decide) rfl (fun e => ?_) (fun e => ?_)
          · have f664 : (((6 : Nat) : Int) ≤ ((4 : Nat) : Int)) := e
            exfalso; omega
          · have f665 : ¬ (((6 : Nat) : Int) ≤ ((4 : Nat) : Int)) := e
            refine w_pl (pc' := 61) (lv' := [(2, (0, ((4 : Nat) : Int))), (4, (2, ((148 : Nat) : Int))), (3, (2, ((64 : Nat) : Int))), (0, (2, ((1 : Nat) : Int))), (1, (2, ((85 : Nat) : Int)))]) (st' := [(2, ((1 : Nat) : Int))]) (h' := H8) (o43_29 hB) rfl ?_
            refine w_getf (A := 1) (t := 2) (z := ((34 : Nat) : Int)) (pc' := 64) (o43_30 hB) rfl (by decide +kernel) (hR8 (1, 5, 34) (by decide)) ?_
            refine w_pl (pc' := 65) (lv' := [(2, (0, ((4 : Nat) : Int))), (4, (2, ((148 : Nat) : Int))), (3, (2, ((64 : Nat) : Int))), (0, (2, ((1 : Nat) : Int))), (1, (2, ((85 : Nat) : Int)))]) (st' := [(0, ((4 : Nat) : Int)), (2, ((34 : Nat) : Int))]) (h' := H8) (o43_31 hB) rfl ?_
            refine w_aald (kd := 2) (A := 34) (i := 4) (n := 6) (B := 71) (pc' := 66) (o43_32 hB) rfl rfl (by decide +kernel) (by decide) (hR8 (34, 4, 71) (by decide)) ?_
            refine w_st (tg := 2) (j := 3) (len := 1) (pc' := 67) (lv' := [(3, (2, ((71 : Nat) : Int))), (2, (0, ((4 : Nat) : Int))), (4, (2, ((148 : Nat) : Int))), (0, (2, ((1 : Nat) : Int))), (1, (2, ((85 : Nat) : Int)))]) (o43_33 hB) rfl rfl ml43 (by decide) rfl ?_
            refine w_pl (pc' := 68) (lv' := [(3, (2, ((71 : Nat) : Int))), (2, (0, ((4 : Nat) : Int))), (4, (2, ((148 : Nat) : Int))), (0, (2, ((1 : Nat) : Int))), (1, (2, ((85 : Nat) : Int)))]) (st' := [(2, ((85 : Nat) : Int))]) (h' := H8) (o43_34 hB) rfl ?_
            refine w_getf (A := 85) (t := 2) (z := ((118 : Nat) : Int)) (pc' := 71) (o43_35 hB) rfl (by decide +kernel) (hR8 (85, 5, 118) (by decide)) ?_
            refine w_pl (pc' := 72) (lv' := [(3, (2, ((71 : Nat) : Int))), (2, (0, ((4 : Nat) : Int))), (4, (2, ((148 : Nat) : Int))), (0, (2, ((1 : Nat) : Int))), (1, (2, ((85 : Nat) : Int)))]) (st' := [(0, ((4 : Nat) : Int)), (2, ((118 : Nat) : Int))]) (h' := H8) (o43_36 hB) rfl ?_
            refine w_aald (kd := 2) (A := 118) (i := 4) (n := 6) (B := 155) (pc' := 73) (o43_37 hB) rfl rfl (by decide +kernel) (by decide) (hR8 (118, 4, 155) (by decide)) ?_
            refine w_st (tg := 2) (j := 4) (len := 2) (pc' := 75) (lv' := [(4, (2, ((155 : Nat) : Int))), (3, (2, ((71 : Nat) : Int))), (2, (0, ((4 : Nat) : Int))), (0, (2, ((1 : Nat) : Int))), (1, (2, ((85 : Nat) : Int)))]) (o43_38 hB) rfl rfl ml43 (by decide) rfl ?_
            refine w_pl (pc' := 76) (lv' := [(4, (2, ((155 : Nat) : Int))), (3, (2, ((71 : Nat) : Int))), (2, (0, ((4 : Nat) : Int))), (0, (2, ((1 : Nat) : Int))), (1, (2, ((85 : Nat) : Int)))]) (st' := [(2, ((71 : Nat) : Int))]) (h' := H8) (o43_39 hB) rfl ?_
            refine w_null (pt := 90) (pf := 79) (o43_40 hB) (by decide) rfl ?_
            refine w_pl (pc' := 81) (lv' := [(4, (2, ((155 : Nat) : Int))), (3, (2, ((71 : Nat) : Int))), (2, (0, ((4 : Nat) : Int))), (0, (2, ((1 : Nat) : Int))), (1, (2, ((85 : Nat) : Int)))]) (st' := [(2, ((155 : Nat) : Int))]) (h' := H8) (o43_41 hB) rfl ?_
            refine w_null (pt := 90) (pf := 84) (o43_42 hB) (by decide) rfl ?_
            refine w_pl (pc' := 85) (lv' := [(4, (2, ((155 : Nat) : Int))), (3, (2, ((71 : Nat) : Int))), (2, (0, ((4 : Nat) : Int))), (0, (2, ((1 : Nat) : Int))), (1, (2, ((85 : Nat) : Int)))]) (st' := [(2, ((71 : Nat) : Int))]) (h' := H8) (o43_43 hB) rfl ?_
            refine w_pl (pc' := 87) (lv' := [(4, (2, ((155 : Nat) : Int))), (3, (2, ((71 : Nat) : Int))), (2, (0, ((4 : Nat) : Int))), (0, (2, ((1 : Nat) : Int))), (1, (2, ((85 : Nat) : Int)))]) (st' := [(2, ((155 : Nat) : Int)), (2, ((71 : Nat) : Int))]) (h' := H8) (o43_44 hB) rfl ?_
            refine w_callV (A := 71) (as := [(2, ((155 : Nat) : Int))]) (rest := []) (n := 1) (pc' := 90) 8 hB (o43_45 hB) rfl (by decide +kernel) rfl rfl (Nat.le_of_ble_eq_true rfl) (sk_trm (k_207 hB g l) (T8) (fun H9 c9 T9 => ?_))
            show HW g l _ 43 _ _ 90 [(4, (2, ((155 : Nat) : Int))), (3, (2, ((71 : Nat) : Int))), (2, (0, ((4 : Nat) : Int))), (0, (2, ((1 : Nat) : Int))), (1, (2, ((85 : Nat) : Int)))] [] H9
            have C9 : CP 84 0 ((((((((L_bec57a ++ L_bec18a) ++ L_bec121a) ++ L_bec79a) ++ ([(1, 4, 4 + 1)] ++ [])) ++ []) ++ []) ++ []) ++ []) ((((((((W_bec57a ++ W_bec18a) ++ W_bec121a) ++ W_bec79a) ++ ([(1, 4, 4 + 1)] ++ [(43, 0, 2), (43, 4, 6), (43, 8, 9), (43, 10, 12), (44, 0, 9), (45, 0, 9), (46, 0, 4), (47, 0, 3), (48, 0, 4), (49, 0, 220)])) ++ [(50, 0, 2), (50, 4, 6), (50, 8, 9), (50, 10, 12), (51, 0, 9), (52, 0, 9), (53, 0, 4), (54, 0, 3), (55, 0, 4), (56, 0, 220)]) ++ [(57, 0, 2), (57, 4, 6), (57, 8, 9), (57, 10, 12), (58, 0, 9), (59, 0, 9), (60, 0, 4), (61, 0, 3), (62, 0, 4), (63, 0, 220)]) ++ [(64, 0, 2), (64, 4, 6), (64, 8, 9), (64, 10, 12), (65, 0, 9), (66, 0, 9), (67, 0, 4), (68, 0, 3), (69, 0, 4), (70, 0, 220)]) ++ [(71, 0, 2), (71, 4, 6), (71, 8, 9), (71, 10, 12), (72, 0, 9), (73, 0, 9), (74, 0, 4), (75, 0, 3), (76, 0, 4), (77, 0, 220)]) h H9 := CP_seq C8 (CP_fr c9) (by decide +kernel)
            have hR9 : TR H9 := (T9 : TH H9).r
            refine w_iinc (x := ((4 : Nat) : Int)) (z := ((5 : Nat) : Int)) (pc' := 93) (lv' := [(2, (0, ((5 : Nat) : Int))), (4, (2, ((155 : Nat) : Int))), (3, (2, ((71 : Nat) : Int))), (0, (2, ((1 : Nat) : Int))), (1, (2, ((85 : Nat) : Int)))]) (o43_46 hB) rfl rfl ml43 (by decide) (w32_e (by omega) (by omega)) rfl ?_
            refine w_goto (pt := 54) (o43_47 hB) (by decide) ?_
            refine w_pl (pc' := 55) (lv' := [(2, (0, ((5 : Nat) : Int))), (4, (2, ((155 : Nat) : Int))), (3, (2, ((71 : Nat) : Int))), (0, (2, ((1 : Nat) : Int))), (1, (2, ((85 : Nat) : Int)))]) (st' := [(0, ((5 : Nat) : Int))]) (h' := H9) (o43_26 hB) rfl ?_
            refine w_pl (pc' := 57) (lv' := [(2, (0, ((5 : Nat) : Int))), (4, (2, ((155 : Nat) : Int))), (3, (2, ((71 : Nat) : Int))), (0, (2, ((1 : Nat) : Int))), (1, (2, ((85 : Nat) : Int)))]) (st' := [(0, ((6 : Nat) : Int)), (0, ((5 : Nat) : Int))]) (h' := H9) (o43_27 hB) rfl ?_
            refine w_icmp (pt := 96) (pf := 60) (o43_28 hB) (by decide) rfl (fun e => ?_) (fun e => ?_)
            · have f667 : (((6 : Nat) : Int) ≤ ((5 : Nat) : Int)) := e
              exfalso; omega
            · have f668 : ¬ (((6 : Nat) : Int) ≤ ((5 : Nat) : Int)) := e
              refine w_pl (pc' := 61) (lv' := [(2, (0, ((5 : Nat) : Int))), (4, (2, ((155 : Nat) : Int))), (3, (2, ((71 : Nat) : Int))), (0, (2, ((1 : Nat) : Int))), (1, (2, ((85 : Nat) : Int)))]) (st' := [(2, ((1 : Nat) : Int))]) (h' := H9) (o43_29 hB) rfl ?_
              refine w_getf (A := 1) (t := 2) (z := ((34 : Nat) : Int)) (pc' := 64) (o43_30 hB) rfl (by decide +kernel) (hR9 (1, 5, 34) (by decide)) ?_
              refine w_pl (pc' := 65) (lv' := [(2, (0, ((5 : Nat) : Int))), (4, (2, ((155 : Nat) : Int))), (3, (2, ((71 : Nat) : Int))), (0, (2, ((1 : Nat) : Int))), (1, (2, ((85 : Nat) : Int)))]) (st' := [(0, ((5 : Nat) : Int)), (2, ((34 : Nat) : Int))]) (h' := H9) (o43_31 hB) rfl ?_
              refine w_aald (kd := 2) (A := 34) (i := 5) (n := 6) (B := 78) (pc' := 66) (o43_32 hB) rfl rfl (by decide +kernel) (by decide) (hR9 (34, 5, 78) (by decide)) ?_
              refine w_st (tg := 2) (j := 3) (len := 1) (pc' := 67) (lv' := [(3, (2, ((78 : Nat) : Int))), (2, (0, ((5 : Nat) : Int))), (4, (2, ((155 : Nat) : Int))), (0, (2, ((1 : Nat) : Int))), (1, (2, ((85 : Nat) : Int)))]) (o43_33 hB) rfl rfl ml43 (by decide) rfl ?_
              refine w_pl (pc' := 68) (lv' := [(3, (2, ((78 : Nat) : Int))), (2, (0, ((5 : Nat) : Int))), (4, (2, ((155 : Nat) : Int))), (0, (2, ((1 : Nat) : Int))), (1, (2, ((85 : Nat) : Int)))]) (st' := [(2, ((85 : Nat) : Int))]) (h' := H9) (o43_34 hB) rfl ?_
              refine w_getf (A := 85) (t := 2) (z := ((118 : Nat) : Int)) (pc' := 71) (o43_35 hB) rfl (by decide +kernel) (hR9 (85, 5, 118) (by decide)) ?_
              refine w_pl (pc' := 72) (lv' := [(3, (2, ((78 : Nat) : Int))), (2, (0, ((5 : Nat) : Int))), (4, (2, ((155 : Nat) : Int))), (0, (2, ((1 : Nat) : Int))), (1, (2, ((85 : Nat) : Int)))]) (st' := [(0, ((5 : Nat) : Int)), (2, ((118 : Nat) : Int))]) (h' := H9) (o43_36 hB) rfl ?_
              refine w_aald (kd := 2) (A := 118) (i := 5) (n := 6) (B := 162) (pc' := 73) (o43_37 hB) rfl rfl (by decide +kernel) (by decide) (hR9 (118, 5, 162) (by decide)) ?_
              refine w_st (tg := 2) (j := 4) (len := 2) (pc' := 75) (lv' := [(4, (2, ((162 : Nat) : Int))), (3, (2, ((78 : Nat) : Int))), (2, (0, ((5 : Nat) : Int))), (0, (2, ((1 : Nat) : Int))), (1, (2, ((85 : Nat) : Int)))]) (o43_38 hB) rfl rfl ml43 (by decide) rfl ?_
              refine w_pl (pc' := 76) (lv' := [(4, (2, ((162 : Nat) : Int))), (3, (2, ((78 : Nat) : Int))), (2, (0, ((5 : Nat) : Int))), (0, (2, ((1 : Nat) : Int))), (1, (2, ((85 : Nat) : Int)))]) (st' := [(2, ((78 : Nat) : Int))]) (h' := H9) (o43_39 hB) rfl ?_
              refine w_null (pt := 90) (pf := 79) (o43_40 hB) (by decide) rfl ?_
              refine w_pl (pc' := 81) (lv' := [(4, (2, ((162 : Nat) : Int))), (3, (2, ((78 : Nat) : Int))), (2, (0, ((5 : Nat) : Int))), (0, (2, ((1 : Nat) : Int))), (1, (2, ((85 : Nat) : Int)))]) (st' := [(2, ((162 : Nat) : Int))]) (h' := H9) (o43_41 hB) rfl ?_
              refine w_null (pt := 90) (pf := 84) (o43_42 hB) (by decide) rfl ?_
              refine w_pl (pc' := 85) (lv' := [(4, (2, ((162 : Nat) : Int))), (3, (2, ((78 : Nat) : Int))), (2, (0, ((5 : Nat) : Int))), (0, (2, ((1 : Nat) : Int))), (1, (2, ((85 : Nat) : Int)))]) (st' := [(2, ((78 : Nat) : Int))]) (h' := H9) (o43_43 hB) rfl ?_
              refine w_pl (pc' := 87) (lv' := [(4, (2, ((162 : Nat) : Int))), (3, (2, ((78 : Nat) : Int))), (2, (0, ((5 : Nat) : Int))), (0, (2, ((1 : Nat) : Int))), (1, (2, ((85 : Nat) : Int)))]) (st' := [(2, ((162 : Nat) : Int)), (2, ((78 : Nat) : Int))]) (h' := H9) (o43_44 hB) rfl ?_
              refine w_callV (A := 78) (as := [(2, ((162 : Nat) : Int))]) (rest := []) (n := 1) (pc' := 90) 8 hB (o43_45 hB) rfl (by decide +kernel) rfl rfl (Nat.le_of_ble_eq_true rfl) (sk_trm (k_208 hB g l) (T9) (fun H10 c10 T10 => ?_))
              show HW g l _ 43 _ _ 90 [(4, (2, ((162 : Nat) : Int))), (3, (2, ((78 : Nat) : Int))), (2, (0, ((5 : Nat) : Int))), (0, (2, ((1 : Nat) : Int))), (1, (2, ((85 : Nat) : Int)))] [] H10
              have C10 : CP 84 0 (((((((((L_bec57a ++ L_bec18a) ++ L_bec121a) ++ L_bec79a) ++ ([(1, 4, 4 + 1)] ++ [])) ++ []) ++ []) ++ []) ++ []) ++ []) (((((((((W_bec57a ++ W_bec18a) ++ W_bec121a) ++ W_bec79a) ++ ([(1, 4, 4 + 1)] ++ [(43, 0, 2), (43, 4, 6), (43, 8, 9), (43, 10, 12), (44, 0, 9), (45, 0, 9), (46, 0, 4), (47, 0, 3), (48, 0, 4), (49, 0, 220)])) ++ [(50, 0, 2), (50, 4, 6), (50, 8, 9), (50, 10, 12), (51, 0, 9), (52, 0, 9), (53, 0, 4), (54, 0, 3), (55, 0, 4), (56, 0, 220)]) ++ [(57, 0, 2), (57, 4, 6), (57, 8, 9), (57, 10, 12), (58, 0, 9), (59, 0, 9), (60, 0, 4), (61, 0, 3), (62, 0, 4), (63, 0, 220)]) ++ [(64, 0, 2), (64, 4, 6), (64, 8, 9), (64, 10, 12), (65, 0, 9), (66, 0, 9), (67, 0, 4), (68, 0, 3), (69, 0, 4), (70, 0, 220)]) ++ [(71, 0, 2), (71, 4, 6), (71, 8, 9), (71, 10, 12), (72, 0, 9), (73, 0, 9), (74, 0, 4), (75, 0, 3), (76, 0, 4), (77, 0, 220)]) ++ [(78, 0, 2), (78, 4, 6), (78, 8, 9), (78, 10, 12), (79, 0, 9), (80, 0, 9), (81, 0, 4), (82, 0, 3), (83, 0, 4), (84, 0, 220)]) h H10 := CP_seq C9 (CP_fr c10) (by decide +kernel)
              have hR10 : TR H10 := (T10 : TH H10).r
              refine w_iinc (x := ((5 : Nat) : Int)) (z := ((6 : Nat) : Int)) (pc' := 93) (lv' := [(2, (0, ((6 : Nat) : Int))), (4, (2, ((162 : Nat) : Int))), (3, (2, ((78 : Nat) : Int))), (0, (2, ((1 : Nat) : Int))), (1, (2, ((85 : Nat) : Int)))]) (o43_46 hB) rfl rfl ml43 (by decide) (w32_e (by omega) (by omega)) rfl ?_
              refine w_goto (pt := 54) (o43_47 hB) (by decide) ?_
              refine w_pl (pc' := 55) (lv' := [(2, (0, ((6 : Nat) : Int))), (4, (2, ((162 : Nat) : Int))), (3, (2, ((78 : Nat) : Int))), (0, (2, ((1 : Nat) : Int))), (1, (2, ((85 : Nat) : Int)))]) (st' := [(0, ((6 : Nat) : Int))]) (h' := H10) (o43_26 hB) rfl ?_
              refine w_pl (pc' := 57) (lv' := [(2, (0, ((6 : Nat) : Int))), (4, (2, ((162 : Nat) : Int))), (3, (2, ((78 : Nat) : Int))), (0, (2, ((1 : Nat) : Int))), (1, (2, ((85 : Nat) : Int)))]) (st' := [(0, ((6 : Nat) : Int)), (0, ((6 : Nat) : Int))]) (h' := H10) (o43_27 hB) rfl ?_
              refine w_icmp (pt := 96) (pf := 60) (o43_28 hB) (by decide) rfl (fun e => ?_) (fun e => ?_)
              · have f670 : (((6 : Nat) : Int) ≤ ((6 : Nat) : Int)) := e
                exact w_vret (o43_48 hB) mr43 (hq _ C10 T10)
              · have f671 : ¬ (((6 : Nat) : Int) ≤ ((6 : Nat) : Int)) := e
                exfalso; omega
def w_keepB : List (Nat × Nat × Nat) := (((((((((W_bec57k ++ W_bec18k) ++ W_bec121k) ++ W_bec79k) ++ ([(85, 4, 4 + 1)] ++ [(127, 0, 2), (127, 4, 6), (127, 8, 9), (127, 10, 12), (128, 0, 9), (129, 0, 9), (130, 0, 4), (131, 0, 3), (132, 0, 4), (133, 0, 220)])) ++ [(134, 0, 2), (134, 4, 6), (134, 8, 9), (134, 10, 12), (135, 0, 9), (136, 0, 9), (137, 0, 4), (138, 0, 3), (139, 0, 4), (140, 0, 220)]) ++ [(141, 0, 2), (141, 4, 6), (141, 8, 9), (141, 10, 12), (142, 0, 9), (143, 0, 9), (144, 0, 4), (145, 0, 3), (146, 0, 4), (147, 0, 220)]) ++ [(148, 0, 2), (148, 4, 6), (148, 8, 9), (148, 10, 12), (149, 0, 9), (150, 0, 9), (151, 0, 4), (152, 0, 3), (153, 0, 4), (154, 0, 220)]) ++ [(155, 0, 2), (155, 4, 6), (155, 8, 9), (155, 10, 12), (156, 0, 9), (157, 0, 9), (158, 0, 4), (159, 0, 3), (160, 0, 4), (161, 0, 220)]) ++ [(162, 0, 2), (162, 4, 6), (162, 8, 9), (162, 10, 12), (163, 0, 9), (164, 0, 9), (165, 0, 4), (166, 0, 3), (167, 0, 4), (168, 0, 220)]) ++ [(0, 2, 3)]
def q_keepB : aCt := cH 169 4 w_keepB 0 0
theorem m_keepB (hB : BytesOK) {g : bG} {l : Launch} {d : Nat} {Q : bQ} {h : bH} (ht : TH h) (h1 : ∀ H, CP 0 84 (((((((((L_bec57k ++ L_bec18k) ++ L_bec121k) ++ L_bec79k) ++ ([(1, 4, 4 + 1)] ++ [])) ++ []) ++ []) ++ []) ++ []) ++ []) (((((((((W_bec57k ++ W_bec18k) ++ W_bec121k) ++ W_bec79k) ++ ([(85, 4, 4 + 1)] ++ [(127, 0, 2), (127, 4, 6), (127, 8, 9), (127, 10, 12), (128, 0, 9), (129, 0, 9), (130, 0, 4), (131, 0, 3), (132, 0, 4), (133, 0, 220)])) ++ [(134, 0, 2), (134, 4, 6), (134, 8, 9), (134, 10, 12), (135, 0, 9), (136, 0, 9), (137, 0, 4), (138, 0, 3), (139, 0, 4), (140, 0, 220)]) ++ [(141, 0, 2), (141, 4, 6), (141, 8, 9), (141, 10, 12), (142, 0, 9), (143, 0, 9), (144, 0, 4), (145, 0, 3), (146, 0, 4), (147, 0, 220)]) ++ [(148, 0, 2), (148, 4, 6), (148, 8, 9), (148, 10, 12), (149, 0, 9), (150, 0, 9), (151, 0, 4), (152, 0, 3), (153, 0, 4), (154, 0, 220)]) ++ [(155, 0, 2), (155, 4, 6), (155, 8, 9), (155, 10, 12), (156, 0, 9), (157, 0, 9), (158, 0, 4), (159, 0, 3), (160, 0, 4), (161, 0, 220)]) ++ [(162, 0, 2), (162, 4, 6), (162, 8, 9), (162, 10, 12), (163, 0, 9), (164, 0, 9), (165, 0, 4), (166, 0, 3), (167, 0, 4), (168, 0, 220)]) h H → TH H → Q (some (0, 1)) (hup H 0 2 1)) : MH g l (d + 1 + 1 + 1 + 1) 169 212 212 [(2, ((0 : Nat) : Int))] h Q := by
  have hR := ht.r
  refine mh_go hB mg169 ml169 (Nat.le_of_ble_eq_true rfl) ?_
  show HW g l (d + 1 + 1 + 1 + 1) 169 _ _ 0 [(0, (2, ((0 : Nat) : Int)))] [] h
  refine w_pl (pc' := 1) (lv' := [(0, (2, ((0 : Nat) : Int)))]) (st' := [(2, ((0 : Nat) : Int))]) (h' := h) (o169_0 hB) rfl ?_
  refine w_getf (A := 0) (t := 2) (z := ((85 : Nat) : Int)) (pc' := 4) (o169_1 hB) rfl (by decide +kernel) (hR (0, 1, 85) (by decide)) ?_
  refine w_pl (pc' := 5) (lv' := [(0, (2, ((0 : Nat) : Int)))]) (st' := [(2, ((0 : Nat) : Int)), (2, ((85 : Nat) : Int))]) (h' := h) (o169_2 hB) rfl ?_
  refine w_getf (A := 0) (t := 2) (z := ((1 : Nat) : Int)) (pc' := 8) (o169_3 hB) rfl (by decide +kernel) (hR (0, 0, 1) (by decide)) ?_
  refine w_callV (A := 85) (as := [(2, ((1 : Nat) : Int))]) (rest := []) (n := 1) (pc' := 11) 2 hB (o169_4 hB) rfl (by decide +kernel) rfl rfl (Nat.le_of_ble_eq_true rfl) (m_poolk hB ht hR (fun H1 C1 T1 => ?_))
  show HW g l _ 169 _ _ 11 [(0, (2, ((0 : Nat) : Int)))] [] H1
  have hR1 := T1.r
  refine w_pl (pc' := 12) (lv' := [(0, (2, ((0 : Nat) : Int)))]) (st' := [(2, ((0 : Nat) : Int))]) (h' := H1) (o169_5 hB) rfl ?_
  refine w_pl (pc' := 13) (lv' := [(0, (2, ((0 : Nat) : Int)))]) (st' := [(0, ((1 : Nat) : Int)), (2, ((0 : Nat) : Int))]) (h' := H1) (o169_6 hB) rfl ?_
  refine w_putz (A := 0) (pc' := 16) (o169_7 hB) rfl (by decide +kernel) (by omega) ?_
  refine w_pl (pc' := 17) (lv' := [(0, (2, ((0 : Nat) : Int)))]) (st' := [(0, ((1 : Nat) : Int))]) (h' := (hup H1 0 (2) ((1 : Nat) : Int))) (o169_8 hB) rfl ?_
  exact w_iret (o169_9 hB) mr169 (by unfold in32; omega) (h1 H1 C1 T1)
theorem sk_keepB (hB : BytesOK) (g : bG) (l : Launch) : SK g l gT q_keepB (semKB w_keepB) := by
  intro d hd ρ h Q hc hQ
  have hc : core (PofW gT (some w_keepB) false) (gsc g) h ρ h (List.replicate 0 r32, [], [], 212) := hc
  have ht := hTH hc
  obtain ⟨d', rfl⟩ : ∃ d', d = d' + 1 + 1 + 1 + 1 := ⟨d - 4, by have : 4 ≤ d := hd; omega⟩
  rw [show evS ρ (ctA q_keepB) = [(2, ((0 : Nat) : Int))] from evA0]
  refine m_keepB hB ht (fun H C T => ?_)
  have fr : ∀ a j, wrF (some w_keepB) a j = false → hup H 0 2 1 a j = h a j := fun a j e => by
    rw [show hup H 0 2 1 a j = H a j from if_neg (fun q => by rw [q.1, q.2] at e; exact absurd e (by decide +kernel))]
    exact C.2 a j (wr_app e).1
  refine hQ _ _ (hpost hc (T.upc (a := 0) (j := 2) (lo := 0) (hi := 1) (by decide +kernel) (by omega)) fr (by unfold in32; omega)) ⟨rfl, fun a j e => ?_, hup_eq, fr⟩
  rw [hup_ne (by omega)]
  exact C.1 a j (wcov_ok (by decide +kernel) e)
def w_againB : List (Nat × Nat × Nat) := (((((((((W_bec57a ++ W_bec18a) ++ W_bec121a) ++ W_bec79a) ++ ([(1, 4, 4 + 1)] ++ [(43, 0, 2), (43, 4, 6), (43, 8, 9), (43, 10, 12), (44, 0, 9), (45, 0, 9), (46, 0, 4), (47, 0, 3), (48, 0, 4), (49, 0, 220)])) ++ [(50, 0, 2), (50, 4, 6), (50, 8, 9), (50, 10, 12), (51, 0, 9), (52, 0, 9), (53, 0, 4), (54, 0, 3), (55, 0, 4), (56, 0, 220)]) ++ [(57, 0, 2), (57, 4, 6), (57, 8, 9), (57, 10, 12), (58, 0, 9), (59, 0, 9), (60, 0, 4), (61, 0, 3), (62, 0, 4), (63, 0, 220)]) ++ [(64, 0, 2), (64, 4, 6), (64, 8, 9), (64, 10, 12), (65, 0, 9), (66, 0, 9), (67, 0, 4), (68, 0, 3), (69, 0, 4), (70, 0, 220)]) ++ [(71, 0, 2), (71, 4, 6), (71, 8, 9), (71, 10, 12), (72, 0, 9), (73, 0, 9), (74, 0, 4), (75, 0, 3), (76, 0, 4), (77, 0, 220)]) ++ [(78, 0, 2), (78, 4, 6), (78, 8, 9), (78, 10, 12), (79, 0, 9), (80, 0, 9), (81, 0, 4), (82, 0, 3), (83, 0, 4), (84, 0, 220)])
def q_againB : aCt := cH 170 4 w_againB 0 0
theorem m_againB (hB : BytesOK) {g : bG} {l : Launch} {d : Nat} {Q : bQ} {h : bH} (ht : TH h) {fl : Int} (hf : h 0 2 = fl) (h1 : ∀ H, CP 84 0 (((((((((L_bec57a ++ L_bec18a) ++ L_bec121a) ++ L_bec79a) ++ ([(1, 4, 4 + 1)] ++ [])) ++ []) ++ []) ++ []) ++ []) ++ []) (((((((((W_bec57a ++ W_bec18a) ++ W_bec121a) ++ W_bec79a) ++ ([(1, 4, 4 + 1)] ++ [(43, 0, 2), (43, 4, 6), (43, 8, 9), (43, 10, 12), (44, 0, 9), (45, 0, 9), (46, 0, 4), (47, 0, 3), (48, 0, 4), (49, 0, 220)])) ++ [(50, 0, 2), (50, 4, 6), (50, 8, 9), (50, 10, 12), (51, 0, 9), (52, 0, 9), (53, 0, 4), (54, 0, 3), (55, 0, 4), (56, 0, 220)]) ++ [(57, 0, 2), (57, 4, 6), (57, 8, 9), (57, 10, 12), (58, 0, 9), (59, 0, 9), (60, 0, 4), (61, 0, 3), (62, 0, 4), (63, 0, 220)]) ++ [(64, 0, 2), (64, 4, 6), (64, 8, 9), (64, 10, 12), (65, 0, 9), (66, 0, 9), (67, 0, 4), (68, 0, 3), (69, 0, 4), (70, 0, 220)]) ++ [(71, 0, 2), (71, 4, 6), (71, 8, 9), (71, 10, 12), (72, 0, 9), (73, 0, 9), (74, 0, 4), (75, 0, 3), (76, 0, 4), (77, 0, 220)]) ++ [(78, 0, 2), (78, 4, 6), (78, 8, 9), (78, 10, 12), (79, 0, 9), (80, 0, 9), (81, 0, 4), (82, 0, 3), (83, 0, 4), (84, 0, 220)]) h H → TH H → fl ≠ 0 → Q (some (0, 1)) H) (h0 : fl = 0 → Q (some (0, -3)) h) : MH g l (d + 1 + 1 + 1 + 1) 170 212 212 [(2, ((0 : Nat) : Int))] h Q := by
  have hR := ht.r
  have rf := ty_0_c2 ht
  rw [hf] at rf
  refine mh_go hB mg170 ml170 (Nat.le_of_ble_eq_true rfl) ?_
  show HW g l (d + 1 + 1 + 1 + 1) 170 _ _ 0 [(0, (2, ((0 : Nat) : Int)))] [] h
  refine w_pl (pc' := 1) (lv' := [(0, (2, ((0 : Nat) : Int)))]) (st' := [(2, ((0 : Nat) : Int))]) (h' := h) (o170_0 hB) rfl ?_
  refine w_getf (A := 0) (t := 0) (z := (fl)) (pc' := 4) (o170_1 hB) rfl (by decide +kernel) hf ?_
  refine w_ifc (pt := 10) (pf := 7) (o170_2 hB) (by decide) rfl (fun e => ?_) (fun e => ?_)
  · have f673 : ((fl) ≠ (0)) := e
    refine w_pl (pc' := 11) (lv' := [(0, (2, ((0 : Nat) : Int)))]) (st' := [(2, ((0 : Nat) : Int))]) (h' := h) (o170_5 hB) rfl ?_
    refine w_getf (A := 0) (t := 2) (z := ((1 : Nat) : Int)) (pc' := 14) (o170_6 hB) rfl (by decide +kernel) (hR (0, 0, 1) (by decide)) ?_
    refine w_pl (pc' := 15) (lv' := [(0, (2, ((0 : Nat) : Int)))]) (st' := [(2, ((0 : Nat) : Int)), (2, ((1 : Nat) : Int))]) (h' := h) (o170_7 hB) rfl ?_
    refine w_getf (A := 0) (t := 2) (z := ((85 : Nat) : Int)) (pc' := 18) (o170_8 hB) rfl (by decide +kernel) (hR (0, 1, 85) (by decide)) ?_
    refine w_callV (A := 1) (as := [(2, ((85 : Nat) : Int))]) (rest := []) (n := 1) (pc' := 21) 2 hB (o170_9 hB) rfl (by decide +kernel) rfl rfl (Nat.le_of_ble_eq_true rfl) (m_poola hB ht hR (fun H1 C1 T1 => ?_))
    show HW g l _ 170 _ _ 21 [(0, (2, ((0 : Nat) : Int)))] [] H1
    have hR1 := T1.r
    refine w_pl (pc' := 22) (lv' := [(0, (2, ((0 : Nat) : Int)))]) (st' := [(0, ((1 : Nat) : Int))]) (h' := H1) (o170_10 hB) rfl ?_
    exact w_iret (o170_11 hB) mr170 (by unfold in32; omega) (h1 H1 C1 T1 (by omega))
  · have f675 : ¬ ((fl) ≠ (0)) := e
    refine w_pl (pc' := 9) (lv' := [(0, (2, ((0 : Nat) : Int)))]) (st' := [(0, (-3))]) (h' := h) (o170_3 hB) rfl ?_
    exact w_iret (o170_4 hB) mr170 (by unfold in32; omega) (h0 (by omega))
theorem sk_againB (hB : BytesOK) (g : bG) (l : Launch) : SK g l gT q_againB (semAB w_againB) := by
  intro d hd ρ h Q hc hQ
  have hc : core (PofW gT (some w_againB) false) (gsc g) h ρ h (List.replicate 0 r32, [], [], 212) := hc
  have ht := hTH hc
  obtain ⟨d', rfl⟩ : ∃ d', d = d' + 1 + 1 + 1 + 1 := ⟨d - 4, by have : 4 ≤ d := hd; omega⟩
  rw [show evS ρ (ctA q_againB) = [(2, ((0 : Nat) : Int))] from evA0]
  refine m_againB hB ht rfl (fun H C T e => ?_) (fun e => ?_)
  · exact hQ _ _ (hpost hc T C.2 (by unfold in32; omega)) (Or.inr ⟨e, rfl, fun a j e => C.1 a j (wcov_ok (by decide +kernel) e), C.2⟩)
  · exact hQ _ _ (hpost hc ht (fun _ _ _ => rfl) (by unfold in32; omega)) (Or.inl ⟨e, rfl, rfl⟩)
