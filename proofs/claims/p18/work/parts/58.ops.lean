/-! p18: THE OPS -/
theorem m_count (hB : BytesOK) {g : bG} {l : Launch} {d : Nat} {Q : bQ} {h : bH} {x kk : Int} (hx : in32 x) {c : Nat} (hR : TR h) (hT : ∀ b, b < 24 → 0 ≤ h 19 b ∧ h 19 b ≤ 999) (hc : h 17 0 = (c : Int)) (h24 : c ≤ 24) (hb : ¬ ((0 ≤ x ∧ x / 10000 < 6 ∧ x / 1000 % 10 < 4 ∧ x % 1000 < 240) ∧ 0 ≤ kk ∧ kk ≤ 239) → Q (some (0, -1)) h) (hg : (0 ≤ x ∧ x / 10000 < 6 ∧ x / 1000 % 10 < 4 ∧ x % 1000 < 240) ∧ 0 ≤ kk ∧ kk ≤ 239 → Q (some (0, cntA h x kk c)) h) : MH g l (d + 1) 139 212 212 [(2, ((0 : Nat) : Int)), (0, x), (0, kk)] h Q := by
  refine mh_go hB mg139 ml139 (Nat.le_of_ble_eq_true rfl) ?_
  show HW g l (d + 1) 139 _ _ 0 [(0, (2, ((0 : Nat) : Int))), (1, (0, (x))), (2, (0, (kk)))] [] h
  refine w_pl (pc' := 1) (lv' := [(0, (2, ((0 : Nat) : Int))), (1, (0, (x))), (2, (0, (kk)))]) (st' := [(0, (x))]) (h' := h) (o139_0 hB) rfl ?_
  refine w_callS (as := [(0, (x))]) (rest := []) (n := 1) (pc' := 4) hB (o139_1 hB) rfl (by decide +kernel) rfl rfl (Nat.le_of_ble_eq_true rfl) (m_isWhereB hB hx (fun f59 => ?_) (fun f60 => ?_))
  · show HW g l _ 139 _ _ 4 [(0, (2, ((0 : Nat) : Int))), (1, (0, (x))), (2, (0, (kk)))] [(0, ((1 : Nat) : Int))] h
    refine w_ifc (pt := 14) (pf := 7) (o139_2 hB) (by decide) rfl (fun e => ?_) (fun e => ?_)
    · have f61 : (((1 : Nat) : Int) = (0)) := e
      exfalso; omega
    · have f62 : ¬ (((1 : Nat) : Int) = (0)) := e
      refine w_pl (pc' := 8) (lv' := [(0, (2, ((0 : Nat) : Int))), (1, (0, (x))), (2, (0, (kk)))]) (st' := [(0, (kk))]) (h' := h) (o139_3 hB) rfl ?_
      refine w_callS (as := [(0, (kk))]) (rest := []) (n := 1) (pc' := 11) hB (o139_4 hB) rfl (by decide +kernel) rfl rfl (Nat.le_of_ble_eq_true rfl) (m_isMonthB hB (fun f63 => ?_) (fun f64 => ?_))
      · show HW g l _ 139 _ _ 11 [(0, (2, ((0 : Nat) : Int))), (1, (0, (x))), (2, (0, (kk)))] [(0, ((1 : Nat) : Int))] h
        refine w_ifc (pt := 16) (pf := 14) (o139_5 hB) (by decide) rfl (fun e => ?_) (fun e => ?_)
        · have f65 : (((1 : Nat) : Int) ≠ (0)) := e
          refine w_pl (pc' := 17) (lv' := [(0, (2, ((0 : Nat) : Int))), (1, (0, (x))), (2, (0, (kk)))]) (st' := [(2, ((0 : Nat) : Int))]) (h' := h) (o139_8 hB) rfl ?_
          refine w_getf (A := 0) (t := 2) (z := ((1 : Nat) : Int)) (pc' := 20) (o139_9 hB) rfl (by decide +kernel) (hR (0, 0, 1) (by decide)) ?_
          refine w_getf (A := 1) (t := 2) (z := ((17 : Nat) : Int)) (pc' := 23) (o139_10 hB) rfl (by decide +kernel) (hR (1, 2, 17) (by decide)) ?_
          refine w_pl (pc' := 24) (lv' := [(0, (2, ((0 : Nat) : Int))), (1, (0, (x))), (2, (0, (kk)))]) (st' := [(0, (x)), (2, ((17 : Nat) : Int))]) (h' := h) (o139_11 hB) rfl ?_
          refine w_pl (pc' := 25) (lv' := [(0, (2, ((0 : Nat) : Int))), (1, (0, (x))), (2, (0, (kk)))]) (st' := [(0, (kk)), (0, (x)), (2, ((17 : Nat) : Int))]) (h' := h) (o139_12 hB) rfl ?_
          refine w_callV (A := 17) (as := [(0, (x)), (0, (kk))]) (rest := []) (n := 2) (pc' := 28) 9 hB (o139_13 hB) rfl (by decide +kernel) rfl rfl (Nat.le_of_ble_eq_true rfl) (m_countAt hB hR hT hc h24 ?_)
          show HW g l _ 139 _ _ 28 [(0, (2, ((0 : Nat) : Int))), (1, (0, (x))), (2, (0, (kk)))] [(0, (cntA h x kk c))] h
          exact w_iret (o139_14 hB) mr139 (by have := cntA_r (w := x) hT (kk := kk) c h24; unfold in32; omega) (hg (by omega))
        · have f67 : ¬ (((1 : Nat) : Int) ≠ (0)) := e
          exfalso; omega
      · show HW g l _ 139 _ _ 11 [(0, (2, ((0 : Nat) : Int))), (1, (0, (x))), (2, (0, (kk)))] [(0, ((0 : Nat) : Int))] h
        refine w_ifc (pt := 16) (pf := 14) (o139_5 hB) (by decide) rfl (fun e => ?_) (fun e => ?_)
        · have f68 : (((0 : Nat) : Int) ≠ (0)) := e
          exfalso; omega
        · have f69 : ¬ (((0 : Nat) : Int) ≠ (0)) := e
          refine w_pl (pc' := 15) (lv' := [(0, (2, ((0 : Nat) : Int))), (1, (0, (x))), (2, (0, (kk)))]) (st' := [(0, (-1))]) (h' := h) (o139_6 hB) rfl ?_
          exact w_iret (o139_7 hB) mr139 (by unfold in32; omega) (hb (by omega))
  · show HW g l _ 139 _ _ 4 [(0, (2, ((0 : Nat) : Int))), (1, (0, (x))), (2, (0, (kk)))] [(0, ((0 : Nat) : Int))] h
    refine w_ifc (pt := 14) (pf := 7) (o139_2 hB) (by decide) rfl (fun e => ?_) (fun e => ?_)
    · have f70 : (((0 : Nat) : Int) = (0)) := e
      refine w_pl (pc' := 15) (lv' := [(0, (2, ((0 : Nat) : Int))), (1, (0, (x))), (2, (0, (kk)))]) (st' := [(0, (-1))]) (h' := h) (o139_6 hB) rfl ?_
      exact w_iret (o139_7 hB) mr139 (by unfold in32; omega) (hb (by omega))
    · have f71 : ¬ (((0 : Nat) : Int) = (0)) := e
      exfalso; omega
theorem m_countM (hB : BytesOK) {g : bG} {l : Launch} {d : Nat} {Q : bQ} {h : bH} {x kk : Int} (hx : in32 x) {c : Nat} (hR : TR h) (hT : ∀ b, b < 24 → 0 ≤ h 194 (306 + 5 * b + 3) ∧ h 194 (306 + 5 * b + 3) ≤ 999) (hc : h 194 5 = (c : Int)) (h24 : c ≤ 24) (hb : ¬ ((0 ≤ x ∧ x / 10000 < 6 ∧ x / 1000 % 10 < 4 ∧ x % 1000 < 240) ∧ 0 ≤ kk ∧ kk ≤ 239) → Q (some (0, -1)) h) (hg : (0 ≤ x ∧ x / 10000 < 6 ∧ x / 1000 % 10 < 4 ∧ x % 1000 < 240) ∧ 0 ≤ kk ∧ kk ≤ 239 → Q (some (0, cntM h (x / 10000) (x / 1000 % 10) (x % 1000) kk c)) h) : MH g l (d + 1 + 1 + 1) 232 212 212 [(2, ((193 : Nat) : Int)), (0, x), (0, kk)] h Q := by
  refine mh_go hB mg232 ml232 (Nat.le_of_ble_eq_true rfl) ?_
  show HW g l (d + 1 + 1 + 1) 232 _ _ 0 [(0, (2, ((193 : Nat) : Int))), (1, (0, (x))), (2, (0, (kk)))] [] h
  have hx0 := hx
  unfold in32 at hx0
  refine w_pl (pc' := 1) (lv' := [(0, (2, ((193 : Nat) : Int))), (1, (0, (x))), (2, (0, (kk)))]) (st' := [(0, (x))]) (h' := h) (o232_0 hB) rfl ?_
  refine w_callS (as := [(0, (x))]) (rest := []) (n := 1) (pc' := 4) hB (o232_1 hB) rfl (by decide +kernel) rfl rfl (Nat.le_of_ble_eq_true rfl) (m_isWhereM hB hx (fun f72 => ?_) (fun f73 => ?_))
  · show HW g l _ 232 _ _ 4 [(0, (2, ((193 : Nat) : Int))), (1, (0, (x))), (2, (0, (kk)))] [(0, ((1 : Nat) : Int))] h
    refine w_ifc (pt := 14) (pf := 7) (o232_2 hB) (by decide) rfl (fun e => ?_) (fun e => ?_)
    · have f74 : (((1 : Nat) : Int) = (0)) := e
      exfalso; omega
    · have f75 : ¬ (((1 : Nat) : Int) = (0)) := e
      refine w_pl (pc' := 8) (lv' := [(0, (2, ((193 : Nat) : Int))), (1, (0, (x))), (2, (0, (kk)))]) (st' := [(0, (kk))]) (h' := h) (o232_3 hB) rfl ?_
      refine w_callS (as := [(0, (kk))]) (rest := []) (n := 1) (pc' := 11) hB (o232_4 hB) rfl (by decide +kernel) rfl rfl (Nat.le_of_ble_eq_true rfl) (m_isMonthM hB (fun f76 => ?_) (fun f77 => ?_))
      · show HW g l _ 232 _ _ 11 [(0, (2, ((193 : Nat) : Int))), (1, (0, (x))), (2, (0, (kk)))] [(0, ((1 : Nat) : Int))] h
        refine w_ifc (pt := 16) (pf := 14) (o232_5 hB) (by decide) rfl (fun e => ?_) (fun e => ?_)
        · have f78 : (((1 : Nat) : Int) ≠ (0)) := e
          refine w_pl (pc' := 17) (lv' := [(0, (2, ((193 : Nat) : Int))), (1, (0, (x))), (2, (0, (kk)))]) (st' := [(2, ((193 : Nat) : Int))]) (h' := h) (o232_8 hB) rfl ?_
          refine w_pl (pc' := 18) (lv' := [(0, (2, ((193 : Nat) : Int))), (1, (0, (x))), (2, (0, (kk)))]) (st' := [(0, (x)), (2, ((193 : Nat) : Int))]) (h' := h) (o232_9 hB) rfl ?_
          refine w_pl (pc' := 21) (lv' := [(0, (2, ((193 : Nat) : Int))), (1, (0, (x))), (2, (0, (kk)))]) (st' := [(0, ((10000 : Nat) : Int)), (0, (x)), (2, ((193 : Nat) : Int))]) (h' := h) (o232_10 hB) rfl ?_
          refine w_idiv (z := ((x) / 10000)) (pc' := 22) (o232_11 hB) rfl (divI_p (by omega) (by omega) (by decide)) ?_
          refine w_pl (pc' := 23) (lv' := [(0, (2, ((193 : Nat) : Int))), (1, (0, (x))), (2, (0, (kk)))]) (st' := [(0, (x)), (0, ((x) / 10000)), (2, ((193 : Nat) : Int))]) (h' := h) (o232_12 hB) rfl ?_
          refine w_pl (pc' := 26) (lv' := [(0, (2, ((193 : Nat) : Int))), (1, (0, (x))), (2, (0, (kk)))]) (st' := [(0, ((1000 : Nat) : Int)), (0, (x)), (0, ((x) / 10000)), (2, ((193 : Nat) : Int))]) (h' := h) (o232_13 hB) rfl ?_
          refine w_idiv (z := ((x) / 1000)) (pc' := 27) (o232_14 hB) rfl (divI_p (by omega) (by omega) (by decide)) ?_
          refine w_pl (pc' := 29) (lv' := [(0, (2, ((193 : Nat) : Int))), (1, (0, (x))), (2, (0, (kk)))]) (st' := [(0, ((10 : Nat) : Int)), (0, ((x) / 1000)), (0, ((x) / 10000)), (2, ((193 : Nat) : Int))]) (h' := h) (o232_15 hB) rfl ?_
          refine w_irem (z := (((x) / 1000) % 10)) (pc' := 30) (o232_16 hB) rfl (remI_p (by omega) (by decide)) ?_
          refine w_pl (pc' := 31) (lv' := [(0, (2, ((193 : Nat) : Int))), (1, (0, (x))), (2, (0, (kk)))]) (st' := [(0, (x)), (0, (((x) / 1000) % 10)), (0, ((x) / 10000)), (2, ((193 : Nat) : Int))]) (h' := h) (o232_17 hB) rfl ?_
          refine w_pl (pc' := 34) (lv' := [(0, (2, ((193 : Nat) : Int))), (1, (0, (x))), (2, (0, (kk)))]) (st' := [(0, ((1000 : Nat) : Int)), (0, (x)), (0, (((x) / 1000) % 10)), (0, ((x) / 10000)), (2, ((193 : Nat) : Int))]) (h' := h) (o232_18 hB) rfl ?_
          refine w_irem (z := ((x) % 1000)) (pc' := 35) (o232_19 hB) rfl (remI_p (by omega) (by decide)) ?_
          refine w_pl (pc' := 36) (lv' := [(0, (2, ((193 : Nat) : Int))), (1, (0, (x))), (2, (0, (kk)))]) (st' := [(0, (kk)), (0, ((x) % 1000)), (0, (((x) / 1000) % 10)), (0, ((x) / 10000)), (2, ((193 : Nat) : Int))]) (h' := h) (o232_20 hB) rfl ?_
          refine w_callV (A := 193) (as := [(0, ((x) / 10000)), (0, (((x) / 1000) % 10)), (0, ((x) % 1000)), (0, (kk))]) (rest := []) (n := 4) (pc' := 39) 11 hB (o232_21 hB) rfl (by decide +kernel) rfl rfl (Nat.le_of_ble_eq_true rfl) (m_countOf hB hR hT hc h24 ?_)
          show HW g l _ 232 _ _ 39 [(0, (2, ((193 : Nat) : Int))), (1, (0, (x))), (2, (0, (kk)))] [(0, (cntM h (x / 10000) (x / 1000 % 10) (x % 1000) kk c))] h
          exact w_iret (o232_22 hB) mr232 (by have := cntM_r hT (mk := x / 10000) (ld := x / 1000 % 10) (mo := x % 1000) (kk := kk) c h24; unfold in32; omega) (hg (by omega))
        · have f80 : ¬ (((1 : Nat) : Int) ≠ (0)) := e
          exfalso; omega
      · show HW g l _ 232 _ _ 11 [(0, (2, ((193 : Nat) : Int))), (1, (0, (x))), (2, (0, (kk)))] [(0, ((0 : Nat) : Int))] h
        refine w_ifc (pt := 16) (pf := 14) (o232_5 hB) (by decide) rfl (fun e => ?_) (fun e => ?_)
        · have f81 : (((0 : Nat) : Int) ≠ (0)) := e
          exfalso; omega
        · have f82 : ¬ (((0 : Nat) : Int) ≠ (0)) := e
          refine w_pl (pc' := 15) (lv' := [(0, (2, ((193 : Nat) : Int))), (1, (0, (x))), (2, (0, (kk)))]) (st' := [(0, (-1))]) (h' := h) (o232_6 hB) rfl ?_
          exact w_iret (o232_7 hB) mr232 (by unfold in32; omega) (hb (by omega))
  · show HW g l _ 232 _ _ 4 [(0, (2, ((193 : Nat) : Int))), (1, (0, (x))), (2, (0, (kk)))] [(0, ((0 : Nat) : Int))] h
    refine w_ifc (pt := 14) (pf := 7) (o232_2 hB) (by decide) rfl (fun e => ?_) (fun e => ?_)
    · have f83 : (((0 : Nat) : Int) = (0)) := e
      refine w_pl (pc' := 15) (lv' := [(0, (2, ((193 : Nat) : Int))), (1, (0, (x))), (2, (0, (kk)))]) (st' := [(0, (-1))]) (h' := h) (o232_6 hB) rfl ?_
      exact w_iret (o232_7 hB) mr232 (by unfold in32; omega) (hb (by omega))
    · have f84 : ¬ (((0 : Nat) : Int) = (0)) := e
      exfalso; omega
theorem m_addBoxes (hB : BytesOK) {g : bG} {l : Launch} {d : Nat} {Q : bQ} {h : bH} {x n m : Int} {c : Nat} (hR : TR h) (hc : h 17 0 = (c : Int)) (h24 : c ≤ 24) (hb : ¬ (1 ≤ n ∧ n ≤ 999 ∧ c < 24) → ∀ r, in32 r → Q (some (0, r)) h) (hg : (1 ≤ n ∧ n ≤ 999 ∧ c < 24) → Q (some (0, (c : Int))) (hup (hup (hup (hup h 18 (c) (x)) 19 (c) (n)) 20 (c) (m)) 17 (0) (((c + 1) : Nat) : Int))) : MH g l d 107 212 212 [(2, ((17 : Nat) : Int)), (0, x), (0, n), (0, m)] h Q := by
  refine mh_go hB mg107 ml107 (Nat.le_of_ble_eq_true rfl) ?_
  show HW g l d 107 _ _ 0 [(0, (2, ((17 : Nat) : Int))), (1, (0, (x))), (2, (0, (n))), (3, (0, (m)))] [] h
  refine w_pl (pc' := 1) (lv' := [(0, (2, ((17 : Nat) : Int))), (1, (0, (x))), (2, (0, (n))), (3, (0, (m)))]) (st' := [(0, (n))]) (h' := h) (o107_0 hB) rfl ?_
  refine w_pl (pc' := 2) (lv' := [(0, (2, ((17 : Nat) : Int))), (1, (0, (x))), (2, (0, (n))), (3, (0, (m)))]) (st' := [(0, ((1 : Nat) : Int)), (0, (n))]) (h' := h) (o107_1 hB) rfl ?_
  refine w_icmp (pt := 12) (pf := 5) (o107_2 hB) (by decide) rfl (fun e => ?_) (fun e => ?_)
  · have f85 : ((n) < ((1 : Nat) : Int)) := e
    refine w_pl (pc' := 13) (lv' := [(0, (2, ((17 : Nat) : Int))), (1, (0, (x))), (2, (0, (n))), (3, (0, (m)))]) (st' := [(0, (-1))]) (h' := h) (o107_6 hB) rfl ?_
    exact w_iret (o107_7 hB) mr107 (by unfold in32; omega) (hb (by omega) _ (by unfold in32; omega))
  · have f86 : ¬ ((n) < ((1 : Nat) : Int)) := e
    refine w_pl (pc' := 6) (lv' := [(0, (2, ((17 : Nat) : Int))), (1, (0, (x))), (2, (0, (n))), (3, (0, (m)))]) (st' := [(0, (n))]) (h' := h) (o107_3 hB) rfl ?_
    refine w_pl (pc' := 9) (lv' := [(0, (2, ((17 : Nat) : Int))), (1, (0, (x))), (2, (0, (n))), (3, (0, (m)))]) (st' := [(0, ((999 : Nat) : Int)), (0, (n))]) (h' := h) (o107_4 hB) rfl ?_
    refine w_icmp (pt := 14) (pf := 12) (o107_5 hB) (by decide) rfl (fun e => ?_) (fun e => ?_)
    · have f87 : ((n) ≤ ((999 : Nat) : Int)) := e
      refine w_pl (pc' := 15) (lv' := [(0, (2, ((17 : Nat) : Int))), (1, (0, (x))), (2, (0, (n))), (3, (0, (m)))]) (st' := [(2, ((17 : Nat) : Int))]) (h' := h) (o107_8 hB) rfl ?_
      refine w_getf (A := 17) (t := 0) (z := ((c : Nat) : Int)) (pc' := 18) (o107_9 hB) rfl (by decide +kernel) hc ?_
      refine w_pl (pc' := 20) (lv' := [(0, (2, ((17 : Nat) : Int))), (1, (0, (x))), (2, (0, (n))), (3, (0, (m)))]) (st' := [(0, ((24 : Nat) : Int)), (0, ((c : Nat) : Int))]) (h' := h) (o107_10 hB) rfl ?_
      refine w_icmp (pt := 26) (pf := 23) (o107_11 hB) (by decide) rfl (fun e => ?_) (fun e => ?_)
      · have f88 : (((c : Nat) : Int) < ((24 : Nat) : Int)) := e
        refine w_pl (pc' := 27) (lv' := [(0, (2, ((17 : Nat) : Int))), (1, (0, (x))), (2, (0, (n))), (3, (0, (m)))]) (st' := [(2, ((17 : Nat) : Int))]) (h' := h) (o107_14 hB) rfl ?_
        refine w_getf (A := 17) (t := 2) (z := ((18 : Nat) : Int)) (pc' := 30) (o107_15 hB) rfl (by decide +kernel) (hR (17, 1, 18) (by decide)) ?_
        refine w_pl (pc' := 31) (lv' := [(0, (2, ((17 : Nat) : Int))), (1, (0, (x))), (2, (0, (n))), (3, (0, (m)))]) (st' := [(2, ((17 : Nat) : Int)), (2, ((18 : Nat) : Int))]) (h' := h) (o107_16 hB) rfl ?_
        refine w_getf (A := 17) (t := 0) (z := ((c : Nat) : Int)) (pc' := 34) (o107_17 hB) rfl (by decide +kernel) hc ?_
        refine w_pl (pc' := 35) (lv' := [(0, (2, ((17 : Nat) : Int))), (1, (0, (x))), (2, (0, (n))), (3, (0, (m)))]) (st' := [(0, (x)), (0, ((c : Nat) : Int)), (2, ((18 : Nat) : Int))]) (h' := h) (o107_18 hB) rfl ?_
        refine w_iast (A := 18) (i := c) (n := 24) (pc' := 36) (o107_19 hB) rfl (by decide +kernel) (by omega) ?_
        refine w_pl (pc' := 37) (lv' := [(0, (2, ((17 : Nat) : Int))), (1, (0, (x))), (2, (0, (n))), (3, (0, (m)))]) (st' := [(2, ((17 : Nat) : Int))]) (h' := (hup h 18 (c) (x))) (o107_20 hB) rfl ?_
        refine w_getf (A := 17) (t := 2) (z := ((19 : Nat) : Int)) (pc' := 40) (o107_21 hB) rfl (by decide +kernel) ((hup_ne (by decide)).trans (hR (17, 2, 19) (by decide))) ?_
        refine w_pl (pc' := 41) (lv' := [(0, (2, ((17 : Nat) : Int))), (1, (0, (x))), (2, (0, (n))), (3, (0, (m)))]) (st' := [(2, ((17 : Nat) : Int)), (2, ((19 : Nat) : Int))]) (h' := (hup h 18 (c) (x))) (o107_22 hB) rfl ?_
        refine w_getf (A := 17) (t := 0) (z := ((c : Nat) : Int)) (pc' := 44) (o107_23 hB) rfl (by decide +kernel) ((hup_ne (by decide)).trans hc) ?_
        refine w_pl (pc' := 45) (lv' := [(0, (2, ((17 : Nat) : Int))), (1, (0, (x))), (2, (0, (n))), (3, (0, (m)))]) (st' := [(0, (n)), (0, ((c : Nat) : Int)), (2, ((19 : Nat) : Int))]) (h' := (hup h 18 (c) (x))) (o107_24 hB) rfl ?_
        refine w_iast (A := 19) (i := c) (n := 24) (pc' := 46) (o107_25 hB) rfl (by decide +kernel) (by omega) ?_
        refine w_pl (pc' := 47) (lv' := [(0, (2, ((17 : Nat) : Int))), (1, (0, (x))), (2, (0, (n))), (3, (0, (m)))]) (st' := [(2, ((17 : Nat) : Int))]) (h' := (hup (hup h 18 (c) (x)) 19 (c) (n))) (o107_26 hB) rfl ?_
        refine w_getf (A := 17) (t := 2) (z := ((20 : Nat) : Int)) (pc' := 50) (o107_27 hB) rfl (by decide +kernel) ((hup_ne (by decide)).trans ((hup_ne (by decide)).trans (hR (17, 3, 20) (by decide)))) ?_
        refine w_pl (pc' := 51) (lv' := [(0, (2, ((17 : Nat) : Int))), (1, (0, (x))), (2, (0, (n))), (3, (0, (m)))]) (st' := [(2, ((17 : Nat) : Int)), (2, ((20 : Nat) : Int))]) (h' := (hup (hup h 18 (c) (x)) 19 (c) (n))) (o107_28 hB) rfl ?_
        refine w_getf (A := 17) (t := 0) (z := ((c : Nat) : Int)) (pc' := 54) (o107_29 hB) rfl (by decide +kernel) ((hup_ne (by decide)).trans ((hup_ne (by decide)).trans hc)) ?_
        refine w_pl (pc' := 55) (lv' := [(0, (2, ((17 : Nat) : Int))), (1, (0, (x))), (2, (0, (n))), (3, (0, (m)))]) (st' := [(0, (m)), (0, ((c : Nat) : Int)), (2, ((20 : Nat) : Int))]) (h' := (hup (hup h 18 (c) (x)) 19 (c) (n))) (o107_30 hB) rfl ?_
        refine w_iast (A := 20) (i := c) (n := 24) (pc' := 56) (o107_31 hB) rfl (by decide +kernel) (by omega) ?_
        refine w_pl (pc' := 57) (lv' := [(0, (2, ((17 : Nat) : Int))), (1, (0, (x))), (2, (0, (n))), (3, (0, (m)))]) (st' := [(2, ((17 : Nat) : Int))]) (h' := (hup (hup (hup h 18 (c) (x)) 19 (c) (n)) 20 (c) (m))) (o107_32 hB) rfl ?_
        refine w_pl (pc' := 58) (lv' := [(0, (2, ((17 : Nat) : Int))), (1, (0, (x))), (2, (0, (n))), (3, (0, (m)))]) (st' := [(2, ((17 : Nat) : Int)), (2, ((17 : Nat) : Int))]) (h' := (hup (hup (hup h 18 (c) (x)) 19 (c) (n)) 20 (c) (m))) (o107_33 hB) rfl ?_
        refine w_getf (A := 17) (t := 0) (z := ((c : Nat) : Int)) (pc' := 61) (o107_34 hB) rfl (by decide +kernel) ((hup_ne (by decide)).trans ((hup_ne (by decide)).trans ((hup_ne (by decide)).trans hc))) ?_
        refine w_pl (pc' := 62) (lv' := [(0, (2, ((17 : Nat) : Int))), (1, (0, (x))), (2, (0, (n))), (3, (0, (m)))]) (st' := [(0, ((c : Nat) : Int)), (2, ((17 : Nat) : Int)), (0, ((c : Nat) : Int))]) (h' := (hup (hup (hup h 18 (c) (x)) 19 (c) (n)) 20 (c) (m))) (o107_35 hB) rfl ?_
        refine w_pl (pc' := 63) (lv' := [(0, (2, ((17 : Nat) : Int))), (1, (0, (x))), (2, (0, (n))), (3, (0, (m)))]) (st' := [(0, ((1 : Nat) : Int)), (0, ((c : Nat) : Int)), (2, ((17 : Nat) : Int)), (0, ((c : Nat) : Int))]) (h' := (hup (hup (hup h 18 (c) (x)) 19 (c) (n)) 20 (c) (m))) (o107_36 hB) rfl ?_
        refine w_iadd (z := (((c + 1) : Nat) : Int)) (pc' := 64) (o107_37 hB) rfl (w32_e (by omega) (by omega)) ?_
        refine w_putf (A := 17) (t := 0) (pc' := 67) (o107_38 hB) rfl (by decide +kernel) ?_
        exact w_iret (o107_39 hB) mr107 (by unfold in32; omega) (qe (hg (by omega)) (by omega))
      · have f89 : ¬ (((c : Nat) : Int) < ((24 : Nat) : Int)) := e
        refine w_pl (pc' := 25) (lv' := [(0, (2, ((17 : Nat) : Int))), (1, (0, (x))), (2, (0, (n))), (3, (0, (m)))]) (st' := [(0, (-2))]) (h' := h) (o107_12 hB) rfl ?_
        exact w_iret (o107_13 hB) mr107 (by unfold in32; omega) (hb (by omega) _ (by unfold in32; omega))
    · have f90 : ¬ ((n) ≤ ((999 : Nat) : Int)) := e
      refine w_pl (pc' := 13) (lv' := [(0, (2, ((17 : Nat) : Int))), (1, (0, (x))), (2, (0, (n))), (3, (0, (m)))]) (st' := [(0, (-1))]) (h' := h) (o107_6 hB) rfl ?_
      exact w_iret (o107_7 hB) mr107 (by unfold in32; omega) (hb (by omega) _ (by unfold in32; omega))
theorem m_boxes (hB : BytesOK) {g : bG} {l : Launch} {d : Nat} {Q : bQ} {h : bH} {x n : Int} (hx : in32 x) {c : Nat} (hR : TR h) (hc : h 17 0 = (c : Int)) (h24 : c ≤ 24) (hb : ¬ ((0 ≤ x ∧ x / 10000 < 6 ∧ x / 1000 % 10 < 4 ∧ x % 1000 < 240) ∧ x % 1000 ≤ h 2 0 ∧ 1 ≤ n ∧ n ≤ 999 ∧ c < 24) → ∀ r, in32 r → Q (some (0, r)) h) (hg : ((0 ≤ x ∧ x / 10000 < 6 ∧ x / 1000 % 10 < 4 ∧ x % 1000 < 240) ∧ x % 1000 ≤ h 2 0 ∧ 1 ≤ n ∧ n ≤ 999 ∧ c < 24) → Q (some (0, (c : Int))) (hup (hup (hup (hup h 18 (c) (x)) 19 (c) (n)) 20 (c) (((h 2 0)))) 17 (0) (((c + 1) : Nat) : Int))) : MH g l (d + 1) 138 212 212 [(2, ((0 : Nat) : Int)), (0, x), (0, n)] h Q := by
  refine mh_go hB mg138 ml138 (Nat.le_of_ble_eq_true rfl) ?_
  show HW g l (d + 1) 138 _ _ 0 [(0, (2, ((0 : Nat) : Int))), (1, (0, (x))), (2, (0, (n)))] [] h
  have hx0 := hx
  unfold in32 at hx0
  refine w_pl (pc' := 1) (lv' := [(0, (2, ((0 : Nat) : Int))), (1, (0, (x))), (2, (0, (n)))]) (st' := [(0, (x))]) (h' := h) (o138_0 hB) rfl ?_
  refine w_callS (as := [(0, (x))]) (rest := []) (n := 1) (pc' := 4) hB (o138_1 hB) rfl (by decide +kernel) rfl rfl (Nat.le_of_ble_eq_true rfl) (m_isWhereB hB hx (fun f91 => ?_) (fun f92 => ?_))
  · show HW g l _ 138 _ _ 4 [(0, (2, ((0 : Nat) : Int))), (1, (0, (x))), (2, (0, (n)))] [(0, ((1 : Nat) : Int))] h
    refine w_ifc (pt := 25) (pf := 7) (o138_2 hB) (by decide) rfl (fun e => ?_) (fun e => ?_)
    · have f93 : (((1 : Nat) : Int) = (0)) := e
      exfalso; omega
    · have f94 : ¬ (((1 : Nat) : Int) = (0)) := e
      refine w_pl (pc' := 8) (lv' := [(0, (2, ((0 : Nat) : Int))), (1, (0, (x))), (2, (0, (n)))]) (st' := [(0, (x))]) (h' := h) (o138_3 hB) rfl ?_
      refine w_pl (pc' := 11) (lv' := [(0, (2, ((0 : Nat) : Int))), (1, (0, (x))), (2, (0, (n)))]) (st' := [(0, ((1000 : Nat) : Int)), (0, (x))]) (h' := h) (o138_4 hB) rfl ?_
      refine w_irem (z := ((x) % 1000)) (pc' := 12) (o138_5 hB) rfl (remI_p (by omega) (by decide)) ?_
      refine w_pl (pc' := 13) (lv' := [(0, (2, ((0 : Nat) : Int))), (1, (0, (x))), (2, (0, (n)))]) (st' := [(2, ((0 : Nat) : Int)), (0, ((x) % 1000))]) (h' := h) (o138_6 hB) rfl ?_
      refine w_getf (A := 0) (t := 2) (z := ((1 : Nat) : Int)) (pc' := 16) (o138_7 hB) rfl (by decide +kernel) (hR (0, 0, 1) (by decide)) ?_
      refine w_getf (A := 1) (t := 2) (z := ((2 : Nat) : Int)) (pc' := 19) (o138_8 hB) rfl (by decide +kernel) (hR (1, 0, 2) (by decide)) ?_
      refine w_getf (A := 2) (t := 0) (z := (h 2 0)) (pc' := 22) (o138_9 hB) rfl (by decide +kernel) rfl ?_
      refine w_icmp (pt := 27) (pf := 25) (o138_10 hB) (by decide) rfl (fun e => ?_) (fun e => ?_)
      · have f95 : (((x) % 1000) ≤ (h 2 0)) := e
        refine w_pl (pc' := 28) (lv' := [(0, (2, ((0 : Nat) : Int))), (1, (0, (x))), (2, (0, (n)))]) (st' := [(2, ((0 : Nat) : Int))]) (h' := h) (o138_13 hB) rfl ?_
        refine w_getf (A := 0) (t := 2) (z := ((1 : Nat) : Int)) (pc' := 31) (o138_14 hB) rfl (by decide +kernel) (hR (0, 0, 1) (by decide)) ?_
        refine w_getf (A := 1) (t := 2) (z := ((17 : Nat) : Int)) (pc' := 34) (o138_15 hB) rfl (by decide +kernel) (hR (1, 2, 17) (by decide)) ?_
        refine w_pl (pc' := 35) (lv' := [(0, (2, ((0 : Nat) : Int))), (1, (0, (x))), (2, (0, (n)))]) (st' := [(0, (x)), (2, ((17 : Nat) : Int))]) (h' := h) (o138_16 hB) rfl ?_
        refine w_pl (pc' := 36) (lv' := [(0, (2, ((0 : Nat) : Int))), (1, (0, (x))), (2, (0, (n)))]) (st' := [(0, (n)), (0, (x)), (2, ((17 : Nat) : Int))]) (h' := h) (o138_17 hB) rfl ?_
        refine w_pl (pc' := 37) (lv' := [(0, (2, ((0 : Nat) : Int))), (1, (0, (x))), (2, (0, (n)))]) (st' := [(2, ((0 : Nat) : Int)), (0, (n)), (0, (x)), (2, ((17 : Nat) : Int))]) (h' := h) (o138_18 hB) rfl ?_
        refine w_getf (A := 0) (t := 2) (z := ((1 : Nat) : Int)) (pc' := 40) (o138_19 hB) rfl (by decide +kernel) (hR (0, 0, 1) (by decide)) ?_
        refine w_getf (A := 1) (t := 2) (z := ((2 : Nat) : Int)) (pc' := 43) (o138_20 hB) rfl (by decide +kernel) (hR (1, 0, 2) (by decide)) ?_
        refine w_getf (A := 2) (t := 0) (z := (h 2 0)) (pc' := 46) (o138_21 hB) rfl (by decide +kernel) rfl ?_
        refine w_callV (A := 17) (as := [(0, (x)), (0, (n)), (0, (h 2 0))]) (rest := []) (n := 3) (pc' := 49) 9 hB (o138_22 hB) rfl (by decide +kernel) rfl rfl (Nat.le_of_ble_eq_true rfl) (m_addBoxes hB hR hc h24 (fun f96 r1 hr1 => ?_) (fun f97 => ?_))
        · show HW g l _ 138 _ _ 49 [(0, (2, ((0 : Nat) : Int))), (1, (0, (x))), (2, (0, (n)))] [(0, (r1))] h
          exact w_iret (o138_23 hB) mr138 hr1 (hb (by omega) _ hr1)
        · show HW g l _ 138 _ _ 49 [(0, (2, ((0 : Nat) : Int))), (1, (0, (x))), (2, (0, (n)))] [(0, ((c : Nat) : Int))] (hup (hup (hup (hup h 18 (c) (x)) 19 (c) (n)) 20 (c) (((h 2 0)))) 17 (0) (((c + 1) : Nat) : Int))
          exact w_iret (o138_23 hB) mr138 (by unfold in32; omega) (hg (by omega))
      · have f98 : ¬ (((x) % 1000) ≤ (h 2 0)) := e
        refine w_pl (pc' := 26) (lv' := [(0, (2, ((0 : Nat) : Int))), (1, (0, (x))), (2, (0, (n)))]) (st' := [(0, (-1))]) (h' := h) (o138_11 hB) rfl ?_
        exact w_iret (o138_12 hB) mr138 (by unfold in32; omega) (hb (by omega) _ (by unfold in32; omega))
  · show HW g l _ 138 _ _ 4 [(0, (2, ((0 : Nat) : Int))), (1, (0, (x))), (2, (0, (n)))] [(0, ((0 : Nat) : Int))] h
    refine w_ifc (pt := 25) (pf := 7) (o138_2 hB) (by decide) rfl (fun e => ?_) (fun e => ?_)
    · have f99 : (((0 : Nat) : Int) = (0)) := e
      refine w_pl (pc' := 26) (lv' := [(0, (2, ((0 : Nat) : Int))), (1, (0, (x))), (2, (0, (n)))]) (st' := [(0, (-1))]) (h' := h) (o138_11 hB) rfl ?_
      exact w_iret (o138_12 hB) mr138 (by unfold in32; omega) (hb (by omega) _ (by unfold in32; omega))
    · have f100 : ¬ (((0 : Nat) : Int) = (0)) := e
      exfalso; omega
theorem m_boxesM (hB : BytesOK) {g : bG} {l : Launch} {d : Nat} {Q : bQ} {h : bH} {x n : Int} (hx : in32 x) {c : Nat} (hR : TR h) (hc : h 194 5 = (c : Int)) (h24 : c ≤ 24) (hb : ¬ ((0 ≤ x ∧ x / 10000 < 6 ∧ x / 1000 % 10 < 4 ∧ x % 1000 < 240) ∧ x % 1000 ≤ h 194 0 ∧ 1 ≤ n ∧ n ≤ 999 ∧ c < 24) → ∀ r, in32 r → Q (some (0, r)) h) (hg : ((0 ≤ x ∧ x / 10000 < 6 ∧ x / 1000 % 10 < 4 ∧ x % 1000 < 240) ∧ x % 1000 ≤ h 194 0 ∧ 1 ≤ n ∧ n ≤ 999 ∧ c < 24) → Q (some (0, (c : Int))) (hup (hup (hup (hup (hup (hup h 194 ((306 + (5 * c))) ((x) / 10000)) 194 (((306 + (5 * c)) + 1)) (((x) / 1000) % 10)) 194 (((306 + (5 * c)) + 2)) ((x) % 1000)) 194 (((306 + (5 * c)) + 3)) (n)) 194 (((306 + (5 * c)) + 4)) (h 194 0)) 194 (5) (((c + 1) : Nat) : Int))) : MH g l (d + 1 + 1 + 1) 230 212 212 [(2, ((193 : Nat) : Int)), (0, x), (0, n)] h Q := by
  refine mh_go hB mg230 ml230 (Nat.le_of_ble_eq_true rfl) ?_
  show HW g l (d + 1 + 1 + 1) 230 _ _ 0 [(0, (2, ((193 : Nat) : Int))), (1, (0, (x))), (2, (0, (n)))] [] h
  have hx0 := hx
  unfold in32 at hx0
  refine w_pl (pc' := 1) (lv' := [(0, (2, ((193 : Nat) : Int))), (1, (0, (x))), (2, (0, (n)))]) (st' := [(0, (x))]) (h' := h) (o230_0 hB) rfl ?_
  refine w_callS (as := [(0, (x))]) (rest := []) (n := 1) (pc' := 4) hB (o230_1 hB) rfl (by decide +kernel) rfl rfl (Nat.le_of_ble_eq_true rfl) (m_isWhereM hB hx (fun f101 => ?_) (fun f102 => ?_))
  · show HW g l _ 230 _ _ 4 [(0, (2, ((193 : Nat) : Int))), (1, (0, (x))), (2, (0, (n)))] [(0, ((1 : Nat) : Int))] h
    refine w_ifc (pt := 32) (pf := 7) (o230_2 hB) (by decide) rfl (fun e => ?_) (fun e => ?_)
    · have f103 : (((1 : Nat) : Int) = (0)) := e
      exfalso; omega
    · have f104 : ¬ (((1 : Nat) : Int) = (0)) := e
      refine w_pl (pc' := 8) (lv' := [(0, (2, ((193 : Nat) : Int))), (1, (0, (x))), (2, (0, (n)))]) (st' := [(0, (x))]) (h' := h) (o230_3 hB) rfl ?_
      refine w_pl (pc' := 11) (lv' := [(0, (2, ((193 : Nat) : Int))), (1, (0, (x))), (2, (0, (n)))]) (st' := [(0, ((1000 : Nat) : Int)), (0, (x))]) (h' := h) (o230_4 hB) rfl ?_
      refine w_irem (z := ((x) % 1000)) (pc' := 12) (o230_5 hB) rfl (remI_p (by omega) (by decide)) ?_
      refine w_pl (pc' := 13) (lv' := [(0, (2, ((193 : Nat) : Int))), (1, (0, (x))), (2, (0, (n)))]) (st' := [(2, ((193 : Nat) : Int)), (0, ((x) % 1000))]) (h' := h) (o230_6 hB) rfl ?_
      refine w_getf (A := 193) (t := 2) (z := ((194 : Nat) : Int)) (pc' := 16) (o230_7 hB) rfl (by decide +kernel) (hR (193, 0, 194) (by decide)) ?_
      refine w_pl (pc' := 17) (lv' := [(0, (2, ((193 : Nat) : Int))), (1, (0, (x))), (2, (0, (n)))]) (st' := [(0, ((0 : Nat) : Int)), (2, ((194 : Nat) : Int)), (0, ((x) % 1000))]) (h' := h) (o230_8 hB) rfl ?_
      refine w_iald (A := 194) (i := 0) (n := 1984) (z := (h 194 0)) (pc' := 18) (o230_9 hB) rfl (by decide +kernel) (by omega) rfl ?_
      refine w_icmp (pt := 32) (pf := 21) (o230_10 hB) (by decide) rfl (fun e => ?_) (fun e => ?_)
      · have f105 : ((h 194 0) < ((x) % 1000)) := e
        refine w_pl (pc' := 33) (lv' := [(0, (2, ((193 : Nat) : Int))), (1, (0, (x))), (2, (0, (n)))]) (st' := [(0, (-1))]) (h' := h) (o230_16 hB) rfl ?_
        exact w_iret (o230_17 hB) mr230 (by unfold in32; omega) (hb (by omega) _ (by unfold in32; omega))
      · have f106 : ¬ ((h 194 0) < ((x) % 1000)) := e
        refine w_pl (pc' := 22) (lv' := [(0, (2, ((193 : Nat) : Int))), (1, (0, (x))), (2, (0, (n)))]) (st' := [(0, (n))]) (h' := h) (o230_11 hB) rfl ?_
        refine w_pl (pc' := 23) (lv' := [(0, (2, ((193 : Nat) : Int))), (1, (0, (x))), (2, (0, (n)))]) (st' := [(0, ((1 : Nat) : Int)), (0, (n))]) (h' := h) (o230_12 hB) rfl ?_
        refine w_pl (pc' := 26) (lv' := [(0, (2, ((193 : Nat) : Int))), (1, (0, (x))), (2, (0, (n)))]) (st' := [(0, ((999 : Nat) : Int)), (0, ((1 : Nat) : Int)), (0, (n))]) (h' := h) (o230_13 hB) rfl ?_
        refine w_callS (as := [(0, (n)), (0, ((1 : Nat) : Int)), (0, ((999 : Nat) : Int))]) (rest := []) (n := 3) (pc' := 29) hB (o230_14 hB) rfl (by decide +kernel) rfl rfl (Nat.le_of_ble_eq_true rfl) (m_in hB (fun f107 => ?_) (fun f108 => ?_))
        · show HW g l _ 230 _ _ 29 [(0, (2, ((193 : Nat) : Int))), (1, (0, (x))), (2, (0, (n)))] [(0, ((1 : Nat) : Int))] h
          refine w_ifc (pt := 34) (pf := 32) (o230_15 hB) (by decide) rfl (fun e => ?_) (fun e => ?_)
          · have f109 : (((1 : Nat) : Int) ≠ (0)) := e
            refine w_pl (pc' := 35) (lv' := [(0, (2, ((193 : Nat) : Int))), (1, (0, (x))), (2, (0, (n)))]) (st' := [(2, ((193 : Nat) : Int))]) (h' := h) (o230_18 hB) rfl ?_
            refine w_getf (A := 193) (t := 2) (z := ((194 : Nat) : Int)) (pc' := 38) (o230_19 hB) rfl (by decide +kernel) (hR (193, 0, 194) (by decide)) ?_
            refine w_pl (pc' := 39) (lv' := [(0, (2, ((193 : Nat) : Int))), (1, (0, (x))), (2, (0, (n)))]) (st' := [(0, ((5 : Nat) : Int)), (2, ((194 : Nat) : Int))]) (h' := h) (o230_20 hB) rfl ?_
            refine w_iald (A := 194) (i := 5) (n := 1984) (z := ((c : Nat) : Int)) (pc' := 40) (o230_21 hB) rfl (by decide +kernel) (by omega) hc ?_
            refine w_pl (pc' := 42) (lv' := [(0, (2, ((193 : Nat) : Int))), (1, (0, (x))), (2, (0, (n)))]) (st' := [(0, ((24 : Nat) : Int)), (0, ((c : Nat) : Int))]) (h' := h) (o230_22 hB) rfl ?_
            refine w_icmp (pt := 48) (pf := 45) (o230_23 hB) (by decide) rfl (fun e => ?_) (fun e => ?_)
            · have f110 : (((c : Nat) : Int) ≠ ((24 : Nat) : Int)) := e
              refine w_pl (pc' := 51) (lv' := [(0, (2, ((193 : Nat) : Int))), (1, (0, (x))), (2, (0, (n)))]) (st' := [(0, ((306 : Nat) : Int))]) (h' := h) (o230_26 hB) rfl ?_
              refine w_pl (pc' := 52) (lv' := [(0, (2, ((193 : Nat) : Int))), (1, (0, (x))), (2, (0, (n)))]) (st' := [(0, ((5 : Nat) : Int)), (0, ((306 : Nat) : Int))]) (h' := h) (o230_27 hB) rfl ?_
              refine w_pl (pc' := 53) (lv' := [(0, (2, ((193 : Nat) : Int))), (1, (0, (x))), (2, (0, (n)))]) (st' := [(2, ((193 : Nat) : Int)), (0, ((5 : Nat) : Int)), (0, ((306 : Nat) : Int))]) (h' := h) (o230_28 hB) rfl ?_
              refine w_getf (A := 193) (t := 2) (z := ((194 : Nat) : Int)) (pc' := 56) (o230_29 hB) rfl (by decide +kernel) (hR (193, 0, 194) (by decide)) ?_
              refine w_pl (pc' := 57) (lv' := [(0, (2, ((193 : Nat) : Int))), (1, (0, (x))), (2, (0, (n)))]) (st' := [(0, ((5 : Nat) : Int)), (2, ((194 : Nat) : Int)), (0, ((5 : Nat) : Int)), (0, ((306 : Nat) : Int))]) (h' := h) (o230_30 hB) rfl ?_
              refine w_iald (A := 194) (i := 5) (n := 1984) (z := ((c : Nat) : Int)) (pc' := 58) (o230_31 hB) rfl (by decide +kernel) (by omega) hc ?_
              refine w_imul (z := (((5 * c) : Nat) : Int)) (pc' := 59) (o230_32 hB) rfl (w32_e (by omega) (by omega)) ?_
              refine w_iadd (z := (((306 + (5 * c)) : Nat) : Int)) (pc' := 60) (o230_33 hB) rfl (w32_e (by omega) (by omega)) ?_
              refine w_st (tg := 0) (j := 3) (len := 1) (pc' := 61) (lv' := [(3, (0, (((306 + (5 * c)) : Nat) : Int))), (0, (2, ((193 : Nat) : Int))), (1, (0, (x))), (2, (0, (n)))]) (o230_34 hB) rfl rfl ml230 (by decide) rfl ?_
              refine w_pl (pc' := 62) (lv' := [(3, (0, (((306 + (5 * c)) : Nat) : Int))), (0, (2, ((193 : Nat) : Int))), (1, (0, (x))), (2, (0, (n)))]) (st' := [(2, ((193 : Nat) : Int))]) (h' := h) (o230_35 hB) rfl ?_
              refine w_getf (A := 193) (t := 2) (z := ((194 : Nat) : Int)) (pc' := 65) (o230_36 hB) rfl (by decide +kernel) (hR (193, 0, 194) (by decide)) ?_
              refine w_pl (pc' := 66) (lv' := [(3, (0, (((306 + (5 * c)) : Nat) : Int))), (0, (2, ((193 : Nat) : Int))), (1, (0, (x))), (2, (0, (n)))]) (st' := [(0, (((306 + (5 * c)) : Nat) : Int)), (2, ((194 : Nat) : Int))]) (h' := h) (o230_37 hB) rfl ?_
              refine w_pl (pc' := 67) (lv' := [(3, (0, (((306 + (5 * c)) : Nat) : Int))), (0, (2, ((193 : Nat) : Int))), (1, (0, (x))), (2, (0, (n)))]) (st' := [(0, (x)), (0, (((306 + (5 * c)) : Nat) : Int)), (2, ((194 : Nat) : Int))]) (h' := h) (o230_38 hB) rfl ?_
              refine w_pl (pc' := 70) (lv' := [(3, (0, (((306 + (5 * c)) : Nat) : Int))), (0, (2, ((193 : Nat) : Int))), (1, (0, (x))), (2, (0, (n)))]) (st' := [(0, ((10000 : Nat) : Int)), (0, (x)), (0, (((306 + (5 * c)) : Nat) : Int)), (2, ((194 : Nat) : Int))]) (h' := h) (o230_39 hB) rfl ?_
              refine w_idiv (z := ((x) / 10000)) (pc' := 71) (o230_40 hB) rfl (divI_p (by omega) (by omega) (by decide)) ?_
              refine w_iast (A := 194) (i := (306 + (5 * c))) (n := 1984) (pc' := 72) (o230_41 hB) rfl (by decide +kernel) (by omega) ?_
              refine w_pl (pc' := 73) (lv' := [(3, (0, (((306 + (5 * c)) : Nat) : Int))), (0, (2, ((193 : Nat) : Int))), (1, (0, (x))), (2, (0, (n)))]) (st' := [(2, ((193 : Nat) : Int))]) (h' := (hup h 194 ((306 + (5 * c))) ((x) / 10000))) (o230_42 hB) rfl ?_
              refine w_getf (A := 193) (t := 2) (z := ((194 : Nat) : Int)) (pc' := 76) (o230_43 hB) rfl (by decide +kernel) ((hup_ne (by decide)).trans (hR (193, 0, 194) (by decide))) ?_
              refine w_pl (pc' := 77) (lv' := [(3, (0, (((306 + (5 * c)) : Nat) : Int))), (0, (2, ((193 : Nat) : Int))), (1, (0, (x))), (2, (0, (n)))]) (st' := [(0, (((306 + (5 * c)) : Nat) : Int)), (2, ((194 : Nat) : Int))]) (h' := (hup h 194 ((306 + (5 * c))) ((x) / 10000))) (o230_44 hB) rfl ?_
              refine w_pl (pc' := 78) (lv' := [(3, (0, (((306 + (5 * c)) : Nat) : Int))), (0, (2, ((193 : Nat) : Int))), (1, (0, (x))), (2, (0, (n)))]) (st' := [(0, ((1 : Nat) : Int)), (0, (((306 + (5 * c)) : Nat) : Int)), (2, ((194 : Nat) : Int))]) (h' := (hup h 194 ((306 + (5 * c))) ((x) / 10000))) (o230_45 hB) rfl ?_
              refine w_iadd (z := ((((306 + (5 * c)) + 1) : Nat) : Int)) (pc' := 79) (o230_46 hB) rfl (w32_e (by omega) (by omega)) ?_
              refine w_pl (pc' := 80) (lv' := [(3, (0, (((306 + (5 * c)) : Nat) : Int))), (0, (2, ((193 : Nat) : Int))), (1, (0, (x))), (2, (0, (n)))]) (st' := [(0, (x)), (0, ((((306 + (5 * c)) + 1) : Nat) : Int)), (2, ((194 : Nat) : Int))]) (h' := (hup h 194 ((306 + (5 * c))) ((x) / 10000))) (o230_47 hB) rfl ?_
              refine w_pl (pc' := 83) (lv' := [(3, (0, (((306 + (5 * c)) : Nat) : Int))), (0, (2, ((193 : Nat) : Int))), (1, (0, (x))), (2, (0, (n)))]) (st' := [(0, ((1000 : Nat) : Int)), (0, (x)), (0, ((((306 + (5 * c)) + 1) : Nat) : Int)), (2, ((194 : Nat) : Int))]) (h' := (hup h 194 ((306 + (5 * c))) ((x) / 10000))) (o230_48 hB) rfl ?_
              refine w_idiv (z := ((x) / 1000)) (pc' := 84) (o230_49 hB) rfl (divI_p (by omega) (by omega) (by decide)) ?_
              refine w_pl (pc' := 86) (lv' := [(3, (0, (((306 + (5 * c)) : Nat) : Int))), (0, (2, ((193 : Nat) : Int))), (1, (0, (x))), (2, (0, (n)))]) (st' := [(0, ((10 : Nat) : Int)), (0, ((x) / 1000)), (0, ((((306 + (5 * c)) + 1) : Nat) : Int)), (2, ((194 : Nat) : Int))]) (h' := (hup h 194 ((306 + (5 * c))) ((x) / 10000))) (o230_50 hB) rfl ?_
              refine w_irem (z := (((x) / 1000) % 10)) (pc' := 87) (o230_51 hB) rfl (remI_p (by omega) (by decide)) ?_
              refine w_iast (A := 194) (i := ((306 + (5 * c)) + 1)) (n := 1984) (pc' := 88) (o230_52 hB) rfl (by decide +kernel) (by omega) ?_
              refine w_pl (pc' := 89) (lv' := [(3, (0, (((306 + (5 * c)) : Nat) : Int))), (0, (2, ((193 : Nat) : Int))), (1, (0, (x))), (2, (0, (n)))]) (st' := [(2, ((193 : Nat) : Int))]) (h' := (hup (hup h 194 ((306 + (5 * c))) ((x) / 10000)) 194 (((306 + (5 * c)) + 1)) (((x) / 1000) % 10))) (o230_53 hB) rfl ?_
              refine w_getf (A := 193) (t := 2) (z := ((194 : Nat) : Int)) (pc' := 92) (o230_54 hB) rfl (by decide +kernel) ((hup_ne (by decide)).trans ((hup_ne (by decide)).trans (hR (193, 0, 194) (by decide)))) ?_
              refine w_pl (pc' := 93) (lv' := [(3, (0, (((306 + (5 * c)) : Nat) : Int))), (0, (2, ((193 : Nat) : Int))), (1, (0, (x))), (2, (0, (n)))]) (st' := [(0, (((306 + (5 * c)) : Nat) : Int)), (2, ((194 : Nat) : Int))]) (h' := (hup (hup h 194 ((306 + (5 * c))) ((x) / 10000)) 194 (((306 + (5 * c)) + 1)) (((x) / 1000) % 10))) (o230_55 hB) rfl ?_
              refine w_pl (pc' := 94) (lv' := [(3, (0, (((306 + (5 * c)) : Nat) : Int))), (0, (2, ((193 : Nat) : Int))), (1, (0, (x))), (2, (0, (n)))]) (st' := [(0, ((2 : Nat) : Int)), (0, (((306 + (5 * c)) : Nat) : Int)), (2, ((194 : Nat) : Int))]) (h' := (hup (hup h 194 ((306 + (5 * c))) ((x) / 10000)) 194 (((306 + (5 * c)) + 1)) (((x) / 1000) % 10))) (o230_56 hB) rfl ?_
              refine w_iadd (z := ((((306 + (5 * c)) + 2) : Nat) : Int)) (pc' := 95) (o230_57 hB) rfl (w32_e (by omega) (by omega)) ?_
              refine w_pl (pc' := 96) (lv' := [(3, (0, (((306 + (5 * c)) : Nat) : Int))), (0, (2, ((193 : Nat) : Int))), (1, (0, (x))), (2, (0, (n)))]) (st' := [(0, (x)), (0, ((((306 + (5 * c)) + 2) : Nat) : Int)), (2, ((194 : Nat) : Int))]) (h' := (hup (hup h 194 ((306 + (5 * c))) ((x) / 10000)) 194 (((306 + (5 * c)) + 1)) (((x) / 1000) % 10))) (o230_58 hB) rfl ?_
              refine w_pl (pc' := 99) (lv' := [(3, (0, (((306 + (5 * c)) : Nat) : Int))), (0, (2, ((193 : Nat) : Int))), (1, (0, (x))), (2, (0, (n)))]) (st' := [(0, ((1000 : Nat) : Int)), (0, (x)), (0, ((((306 + (5 * c)) + 2) : Nat) : Int)), (2, ((194 : Nat) : Int))]) (h' := (hup (hup h 194 ((306 + (5 * c))) ((x) / 10000)) 194 (((306 + (5 * c)) + 1)) (((x) / 1000) % 10))) (o230_59 hB) rfl ?_
              refine w_irem (z := ((x) % 1000)) (pc' := 100) (o230_60 hB) rfl (remI_p (by omega) (by decide)) ?_
              refine w_iast (A := 194) (i := ((306 + (5 * c)) + 2)) (n := 1984) (pc' := 101) (o230_61 hB) rfl (by decide +kernel) (by omega) ?_
              refine w_pl (pc' := 102) (lv' := [(3, (0, (((306 + (5 * c)) : Nat) : Int))), (0, (2, ((193 : Nat) : Int))), (1, (0, (x))), (2, (0, (n)))]) (st' := [(2, ((193 : Nat) : Int))]) (h' := (hup (hup (hup h 194 ((306 + (5 * c))) ((x) / 10000)) 194 (((306 + (5 * c)) + 1)) (((x) / 1000) % 10)) 194 (((306 + (5 * c)) + 2)) ((x) % 1000))) (o230_62 hB) rfl ?_
              refine w_getf (A := 193) (t := 2) (z := ((194 : Nat) : Int)) (pc' := 105) (o230_63 hB) rfl (by decide +kernel) ((hup_ne (by decide)).trans ((hup_ne (by decide)).trans ((hup_ne (by decide)).trans (hR (193, 0, 194) (by decide))))) ?_
              refine w_pl (pc' := 106) (lv' := [(3, (0, (((306 + (5 * c)) : Nat) : Int))), (0, (2, ((193 : Nat) : Int))), (1, (0, (x))), (2, (0, (n)))]) (st' := [(0, (((306 + (5 * c)) : Nat) : Int)), (2, ((194 : Nat) : Int))]) (h' := (hup (hup (hup h 194 ((306 + (5 * c))) ((x) / 10000)) 194 (((306 + (5 * c)) + 1)) (((x) / 1000) % 10)) 194 (((306 + (5 * c)) + 2)) ((x) % 1000))) (o230_64 hB) rfl ?_
              refine w_pl (pc' := 107) (lv' := [(3, (0, (((306 + (5 * c)) : Nat) : Int))), (0, (2, ((193 : Nat) : Int))), (1, (0, (x))), (2, (0, (n)))]) (st' := [(0, ((3 : Nat) : Int)), (0, (((306 + (5 * c)) : Nat) : Int)), (2, ((194 : Nat) : Int))]) (h' := (hup (hup (hup h 194 ((306 + (5 * c))) ((x) / 10000)) 194 (((306 + (5 * c)) + 1)) (((x) / 1000) % 10)) 194 (((306 + (5 * c)) + 2)) ((x) % 1000))) (o230_65 hB) rfl ?_
              refine w_iadd (z := ((((306 + (5 * c)) + 3) : Nat) : Int)) (pc' := 108) (o230_66 hB) rfl (w32_e (by omega) (by omega)) ?_
              refine w_pl (pc' := 109) (lv' := [(3, (0, (((306 + (5 * c)) : Nat) : Int))), (0, (2, ((193 : Nat) : Int))), (1, (0, (x))), (2, (0, (n)))]) (st' := [(0, (n)), (0, ((((306 + (5 * c)) + 3) : Nat) : Int)), (2, ((194 : Nat) : Int))]) (h' := (hup (hup (hup h 194 ((306 + (5 * c))) ((x) / 10000)) 194 (((306 + (5 * c)) + 1)) (((x) / 1000) % 10)) 194 (((306 + (5 * c)) + 2)) ((x) % 1000))) (o230_67 hB) rfl ?_
              refine w_iast (A := 194) (i := ((306 + (5 * c)) + 3)) (n := 1984) (pc' := 110) (o230_68 hB) rfl (by decide +kernel) (by omega) ?_
              refine w_pl (pc' := 111) (lv' := [(3, (0, (((306 + (5 * c)) : Nat) : Int))), (0, (2, ((193 : Nat) : Int))), (1, (0, (x))), (2, (0, (n)))]) (st' := [(2, ((193 : Nat) : Int))]) (h' := (hup (hup (hup (hup h 194 ((306 + (5 * c))) ((x) / 10000)) 194 (((306 + (5 * c)) + 1)) (((x) / 1000) % 10)) 194 (((306 + (5 * c)) + 2)) ((x) % 1000)) 194 (((306 + (5 * c)) + 3)) (n))) (o230_69 hB) rfl ?_
              refine w_getf (A := 193) (t := 2) (z := ((194 : Nat) : Int)) (pc' := 114) (o230_70 hB) rfl (by decide +kernel) ((hup_ne (by decide)).trans ((hup_ne (by decide)).trans ((hup_ne (by decide)).trans ((hup_ne (by decide)).trans (hR (193, 0, 194) (by decide)))))) ?_
              refine w_pl (pc' := 115) (lv' := [(3, (0, (((306 + (5 * c)) : Nat) : Int))), (0, (2, ((193 : Nat) : Int))), (1, (0, (x))), (2, (0, (n)))]) (st' := [(0, (((306 + (5 * c)) : Nat) : Int)), (2, ((194 : Nat) : Int))]) (h' := (hup (hup (hup (hup h 194 ((306 + (5 * c))) ((x) / 10000)) 194 (((306 + (5 * c)) + 1)) (((x) / 1000) % 10)) 194 (((306 + (5 * c)) + 2)) ((x) % 1000)) 194 (((306 + (5 * c)) + 3)) (n))) (o230_71 hB) rfl ?_
              refine w_pl (pc' := 116) (lv' := [(3, (0, (((306 + (5 * c)) : Nat) : Int))), (0, (2, ((193 : Nat) : Int))), (1, (0, (x))), (2, (0, (n)))]) (st' := [(0, ((4 : Nat) : Int)), (0, (((306 + (5 * c)) : Nat) : Int)), (2, ((194 : Nat) : Int))]) (h' := (hup (hup (hup (hup h 194 ((306 + (5 * c))) ((x) / 10000)) 194 (((306 + (5 * c)) + 1)) (((x) / 1000) % 10)) 194 (((306 + (5 * c)) + 2)) ((x) % 1000)) 194 (((306 + (5 * c)) + 3)) (n))) (o230_72 hB) rfl ?_
              refine w_iadd (z := ((((306 + (5 * c)) + 4) : Nat) : Int)) (pc' := 117) (o230_73 hB) rfl (w32_e (by omega) (by omega)) ?_
              refine w_pl (pc' := 118) (lv' := [(3, (0, (((306 + (5 * c)) : Nat) : Int))), (0, (2, ((193 : Nat) : Int))), (1, (0, (x))), (2, (0, (n)))]) (st' := [(2, ((193 : Nat) : Int)), (0, ((((306 + (5 * c)) + 4) : Nat) : Int)), (2, ((194 : Nat) : Int))]) (h' := (hup (hup (hup (hup h 194 ((306 + (5 * c))) ((x) / 10000)) 194 (((306 + (5 * c)) + 1)) (((x) / 1000) % 10)) 194 (((306 + (5 * c)) + 2)) ((x) % 1000)) 194 (((306 + (5 * c)) + 3)) (n))) (o230_74 hB) rfl ?_
              refine w_getf (A := 193) (t := 2) (z := ((194 : Nat) : Int)) (pc' := 121) (o230_75 hB) rfl (by decide +kernel) ((hup_ne (by decide)).trans ((hup_ne (by decide)).trans ((hup_ne (by decide)).trans ((hup_ne (by decide)).trans (hR (193, 0, 194) (by decide)))))) ?_
              refine w_pl (pc' := 122) (lv' := [(3, (0, (((306 + (5 * c)) : Nat) : Int))), (0, (2, ((193 : Nat) : Int))), (1, (0, (x))), (2, (0, (n)))]) (st' := [(0, ((0 : Nat) : Int)), (2, ((194 : Nat) : Int)), (0, ((((306 + (5 * c)) + 4) : Nat) : Int)), (2, ((194 : Nat) : Int))]) (h' := (hup (hup (hup (hup h 194 ((306 + (5 * c))) ((x) / 10000)) 194 (((306 + (5 * c)) + 1)) (((x) / 1000) % 10)) 194 (((306 + (5 * c)) + 2)) ((x) % 1000)) 194 (((306 + (5 * c)) + 3)) (n))) (o230_76 hB) rfl ?_
              refine w_iald (A := 194) (i := 0) (n := 1984) (z := (h 194 0)) (pc' := 123) (o230_77 hB) rfl (by decide +kernel) (by omega) ((hup_nj (by omega)).trans ((hup_nj (by omega)).trans ((hup_nj (by omega)).trans ((hup_nj (by omega)).trans rfl)))) ?_
              refine w_iast (A := 194) (i := ((306 + (5 * c)) + 4)) (n := 1984) (pc' := 124) (o230_78 hB) rfl (by decide +kernel) (by omega) ?_
              refine w_pl (pc' := 125) (lv' := [(3, (0, (((306 + (5 * c)) : Nat) : Int))), (0, (2, ((193 : Nat) : Int))), (1, (0, (x))), (2, (0, (n)))]) (st' := [(2, ((193 : Nat) : Int))]) (h' := (hup (hup (hup (hup (hup h 194 ((306 + (5 * c))) ((x) / 10000)) 194 (((306 + (5 * c)) + 1)) (((x) / 1000) % 10)) 194 (((306 + (5 * c)) + 2)) ((x) % 1000)) 194 (((306 + (5 * c)) + 3)) (n)) 194 (((306 + (5 * c)) + 4)) (h 194 0))) (o230_79 hB) rfl ?_
              refine w_getf (A := 193) (t := 2) (z := ((194 : Nat) : Int)) (pc' := 128) (o230_80 hB) rfl (by decide +kernel) ((hup_ne (by decide)).trans ((hup_ne (by decide)).trans ((hup_ne (by decide)).trans ((hup_ne (by decide)).trans ((hup_ne (by decide)).trans (hR (193, 0, 194) (by decide))))))) ?_
              refine w_pl (pc' := 129) (lv' := [(3, (0, (((306 + (5 * c)) : Nat) : Int))), (0, (2, ((193 : Nat) : Int))), (1, (0, (x))), (2, (0, (n)))]) (st' := [(0, ((5 : Nat) : Int)), (2, ((194 : Nat) : Int))]) (h' := (hup (hup (hup (hup (hup h 194 ((306 + (5 * c))) ((x) / 10000)) 194 (((306 + (5 * c)) + 1)) (((x) / 1000) % 10)) 194 (((306 + (5 * c)) + 2)) ((x) % 1000)) 194 (((306 + (5 * c)) + 3)) (n)) 194 (((306 + (5 * c)) + 4)) (h 194 0))) (o230_81 hB) rfl ?_
              refine w_pl (pc' := 130) (lv' := [(3, (0, (((306 + (5 * c)) : Nat) : Int))), (0, (2, ((193 : Nat) : Int))), (1, (0, (x))), (2, (0, (n)))]) (st' := [(0, ((5 : Nat) : Int)), (2, ((194 : Nat) : Int)), (0, ((5 : Nat) : Int)), (2, ((194 : Nat) : Int))]) (h' := (hup (hup (hup (hup (hup h 194 ((306 + (5 * c))) ((x) / 10000)) 194 (((306 + (5 * c)) + 1)) (((x) / 1000) % 10)) 194 (((306 + (5 * c)) + 2)) ((x) % 1000)) 194 (((306 + (5 * c)) + 3)) (n)) 194 (((306 + (5 * c)) + 4)) (h 194 0))) (o230_82 hB) rfl ?_
              refine w_iald (A := 194) (i := 5) (n := 1984) (z := ((c : Nat) : Int)) (pc' := 131) (o230_83 hB) rfl (by decide +kernel) (by omega) ((hup_nj (by omega)).trans ((hup_nj (by omega)).trans ((hup_nj (by omega)).trans ((hup_nj (by omega)).trans ((hup_nj (by omega)).trans hc))))) ?_
              refine w_pl (pc' := 132) (lv' := [(3, (0, (((306 + (5 * c)) : Nat) : Int))), (0, (2, ((193 : Nat) : Int))), (1, (0, (x))), (2, (0, (n)))]) (st' := [(0, ((1 : Nat) : Int)), (0, ((c : Nat) : Int)), (0, ((5 : Nat) : Int)), (2, ((194 : Nat) : Int))]) (h' := (hup (hup (hup (hup (hup h 194 ((306 + (5 * c))) ((x) / 10000)) 194 (((306 + (5 * c)) + 1)) (((x) / 1000) % 10)) 194 (((306 + (5 * c)) + 2)) ((x) % 1000)) 194 (((306 + (5 * c)) + 3)) (n)) 194 (((306 + (5 * c)) + 4)) (h 194 0))) (o230_84 hB) rfl ?_
              refine w_iadd (z := (((c + 1) : Nat) : Int)) (pc' := 133) (o230_85 hB) rfl (w32_e (by omega) (by omega)) ?_
              refine w_iast (A := 194) (i := 5) (n := 1984) (pc' := 134) (o230_86 hB) rfl (by decide +kernel) (by omega) ?_
              refine w_pl (pc' := 135) (lv' := [(3, (0, (((306 + (5 * c)) : Nat) : Int))), (0, (2, ((193 : Nat) : Int))), (1, (0, (x))), (2, (0, (n)))]) (st' := [(2, ((193 : Nat) : Int))]) (h' := (hup (hup (hup (hup (hup (hup h 194 ((306 + (5 * c))) ((x) / 10000)) 194 (((306 + (5 * c)) + 1)) (((x) / 1000) % 10)) 194 (((306 + (5 * c)) + 2)) ((x) % 1000)) 194 (((306 + (5 * c)) + 3)) (n)) 194 (((306 + (5 * c)) + 4)) (h 194 0)) 194 (5) (((c + 1) : Nat) : Int))) (o230_87 hB) rfl ?_
              refine w_getf (A := 193) (t := 2) (z := ((194 : Nat) : Int)) (pc' := 138) (o230_88 hB) rfl (by decide +kernel) ((hup_ne (by decide)).trans ((hup_ne (by decide)).trans ((hup_ne (by decide)).trans ((hup_ne (by decide)).trans ((hup_ne (by decide)).trans ((hup_ne (by decide)).trans (hR (193, 0, 194) (by decide)))))))) ?_
              refine w_pl (pc' := 139) (lv' := [(3, (0, (((306 + (5 * c)) : Nat) : Int))), (0, (2, ((193 : Nat) : Int))), (1, (0, (x))), (2, (0, (n)))]) (st' := [(0, ((5 : Nat) : Int)), (2, ((194 : Nat) : Int))]) (h' := (hup (hup (hup (hup (hup (hup h 194 ((306 + (5 * c))) ((x) / 10000)) 194 (((306 + (5 * c)) + 1)) (((x) / 1000) % 10)) 194 (((306 + (5 * c)) + 2)) ((x) % 1000)) 194 (((306 + (5 * c)) + 3)) (n)) 194 (((306 + (5 * c)) + 4)) (h 194 0)) 194 (5) (((c + 1) : Nat) : Int))) (o230_89 hB) rfl ?_
              refine w_iald (A := 194) (i := 5) (n := 1984) (z := ((((c + 1) : Nat) : Int))) (pc' := 140) (o230_90 hB) rfl (by decide +kernel) (by omega) (hup_eq) ?_
              refine w_pl (pc' := 141) (lv' := [(3, (0, (((306 + (5 * c)) : Nat) : Int))), (0, (2, ((193 : Nat) : Int))), (1, (0, (x))), (2, (0, (n)))]) (st' := [(0, ((1 : Nat) : Int)), (0, ((((c + 1) : Nat) : Int)))]) (h' := (hup (hup (hup (hup (hup (hup h 194 ((306 + (5 * c))) ((x) / 10000)) 194 (((306 + (5 * c)) + 1)) (((x) / 1000) % 10)) 194 (((306 + (5 * c)) + 2)) ((x) % 1000)) 194 (((306 + (5 * c)) + 3)) (n)) 194 (((306 + (5 * c)) + 4)) (h 194 0)) 194 (5) (((c + 1) : Nat) : Int))) (o230_91 hB) rfl ?_
              refine w_isub (z := (((((c + 1) : Nat) : Int)) - ((1 : Nat) : Int))) (pc' := 142) (o230_92 hB) rfl (w32_e (by omega) (by omega)) ?_
              exact w_iret (o230_93 hB) mr230 (by unfold in32; omega) (qe (hg (by omega)) (by omega))
            · have f111 : ¬ (((c : Nat) : Int) ≠ ((24 : Nat) : Int)) := e
              refine w_pl (pc' := 47) (lv' := [(0, (2, ((193 : Nat) : Int))), (1, (0, (x))), (2, (0, (n)))]) (st' := [(0, (-2))]) (h' := h) (o230_24 hB) rfl ?_
              exact w_iret (o230_25 hB) mr230 (by unfold in32; omega) (hb (by omega) _ (by unfold in32; omega))
          · have f112 : ¬ (((1 : Nat) : Int) ≠ (0)) := e
            exfalso; omega
        · show HW g l _ 230 _ _ 29 [(0, (2, ((193 : Nat) : Int))), (1, (0, (x))), (2, (0, (n)))] [(0, ((0 : Nat) : Int))] h
          refine w_ifc (pt := 34) (pf := 32) (o230_15 hB) (by decide) rfl (fun e => ?_) (fun e => ?_)
          · have f113 : (((0 : Nat) : Int) ≠ (0)) := e
            exfalso; omega
          · have f114 : ¬ (((0 : Nat) : Int) ≠ (0)) := e
            refine w_pl (pc' := 33) (lv' := [(0, (2, ((193 : Nat) : Int))), (1, (0, (x))), (2, (0, (n)))]) (st' := [(0, (-1))]) (h' := h) (o230_16 hB) rfl ?_
            exact w_iret (o230_17 hB) mr230 (by unfold in32; omega) (hb (by omega) _ (by unfold in32; omega))
  · show HW g l _ 230 _ _ 4 [(0, (2, ((193 : Nat) : Int))), (1, (0, (x))), (2, (0, (n)))] [(0, ((0 : Nat) : Int))] h
    refine w_ifc (pt := 32) (pf := 7) (o230_2 hB) (by decide) rfl (fun e => ?_) (fun e => ?_)
    · have f115 : (((0 : Nat) : Int) = (0)) := e
      refine w_pl (pc' := 33) (lv' := [(0, (2, ((193 : Nat) : Int))), (1, (0, (x))), (2, (0, (n)))]) (st' := [(0, (-1))]) (h' := h) (o230_16 hB) rfl ?_
      exact w_iret (o230_17 hB) mr230 (by unfold in32; omega) (hb (by omega) _ (by unfold in32; omega))
    · have f116 : ¬ (((0 : Nat) : Int) = (0)) := e
      exfalso; omega
theorem m_months (hB : BytesOK) {g : bG} {l : Launch} {d : Nat} {Q : bQ} {h : bH} {n : Int} (hR : TR h) (hn : 0 ≤ h 2 0 ∧ h 2 0 ≤ 239) (hb : ¬ (1 ≤ n ∧ n ≤ 60 ∧ h 2 0 + n ≤ 239) → ∀ r, in32 r → Q (some (0, r)) h) (hg : (1 ≤ n ∧ n ≤ 60 ∧ h 2 0 + n ≤ 239) → Q (some (0, h 2 0 + n)) (hup h 2 (0) ((h 2 0) + (n)))) : MH g l d 123 212 212 [(2, ((0 : Nat) : Int)), (0, n)] h Q := by
  refine mh_go hB mg123 ml123 (Nat.le_of_ble_eq_true rfl) ?_
  show HW g l d 123 _ _ 0 [(0, (2, ((0 : Nat) : Int))), (1, (0, (n)))] [] h
  refine w_pl (pc' := 1) (lv' := [(0, (2, ((0 : Nat) : Int))), (1, (0, (n)))]) (st' := [(0, (n))]) (h' := h) (o123_0 hB) rfl ?_
  refine w_pl (pc' := 2) (lv' := [(0, (2, ((0 : Nat) : Int))), (1, (0, (n)))]) (st' := [(0, ((1 : Nat) : Int)), (0, (n))]) (h' := h) (o123_1 hB) rfl ?_
  refine w_icmp (pt := 11) (pf := 5) (o123_2 hB) (by decide) rfl (fun e => ?_) (fun e => ?_)
  · have f117 : ((n) < ((1 : Nat) : Int)) := e
    refine w_pl (pc' := 12) (lv' := [(0, (2, ((0 : Nat) : Int))), (1, (0, (n)))]) (st' := [(0, (-1))]) (h' := h) (o123_6 hB) rfl ?_
    exact w_iret (o123_7 hB) mr123 (by unfold in32; omega) (hb (by omega) _ (by unfold in32; omega))
  · have f118 : ¬ ((n) < ((1 : Nat) : Int)) := e
    refine w_pl (pc' := 6) (lv' := [(0, (2, ((0 : Nat) : Int))), (1, (0, (n)))]) (st' := [(0, (n))]) (h' := h) (o123_3 hB) rfl ?_
    refine w_pl (pc' := 8) (lv' := [(0, (2, ((0 : Nat) : Int))), (1, (0, (n)))]) (st' := [(0, ((60 : Nat) : Int)), (0, (n))]) (h' := h) (o123_4 hB) rfl ?_
    refine w_icmp (pt := 13) (pf := 11) (o123_5 hB) (by decide) rfl (fun e => ?_) (fun e => ?_)
    · have f119 : ((n) ≤ ((60 : Nat) : Int)) := e
      refine w_pl (pc' := 14) (lv' := [(0, (2, ((0 : Nat) : Int))), (1, (0, (n)))]) (st' := [(2, ((0 : Nat) : Int))]) (h' := h) (o123_8 hB) rfl ?_
      refine w_getf (A := 0) (t := 2) (z := ((1 : Nat) : Int)) (pc' := 17) (o123_9 hB) rfl (by decide +kernel) (hR (0, 0, 1) (by decide)) ?_
      refine w_getf (A := 1) (t := 2) (z := ((2 : Nat) : Int)) (pc' := 20) (o123_10 hB) rfl (by decide +kernel) (hR (1, 0, 2) (by decide)) ?_
      refine w_getf (A := 2) (t := 0) (z := (h 2 0)) (pc' := 23) (o123_11 hB) rfl (by decide +kernel) rfl ?_
      refine w_pl (pc' := 24) (lv' := [(0, (2, ((0 : Nat) : Int))), (1, (0, (n)))]) (st' := [(0, (n)), (0, (h 2 0))]) (h' := h) (o123_12 hB) rfl ?_
      refine w_iadd (z := ((h 2 0) + (n))) (pc' := 25) (o123_13 hB) rfl (w32_e (by omega) (by omega)) ?_
      refine w_pl (pc' := 28) (lv' := [(0, (2, ((0 : Nat) : Int))), (1, (0, (n)))]) (st' := [(0, ((240 : Nat) : Int)), (0, ((h 2 0) + (n)))]) (h' := h) (o123_14 hB) rfl ?_
      refine w_icmp (pt := 34) (pf := 31) (o123_15 hB) (by decide) rfl (fun e => ?_) (fun e => ?_)
      · have f120 : (((h 2 0) + (n)) < ((240 : Nat) : Int)) := e
        refine w_pl (pc' := 35) (lv' := [(0, (2, ((0 : Nat) : Int))), (1, (0, (n)))]) (st' := [(2, ((0 : Nat) : Int))]) (h' := h) (o123_18 hB) rfl ?_
        refine w_getf (A := 0) (t := 2) (z := ((1 : Nat) : Int)) (pc' := 38) (o123_19 hB) rfl (by decide +kernel) (hR (0, 0, 1) (by decide)) ?_
        refine w_getf (A := 1) (t := 2) (z := ((2 : Nat) : Int)) (pc' := 41) (o123_20 hB) rfl (by decide +kernel) (hR (1, 0, 2) (by decide)) ?_
        refine w_pl (pc' := 42) (lv' := [(0, (2, ((0 : Nat) : Int))), (1, (0, (n)))]) (st' := [(2, ((2 : Nat) : Int)), (2, ((2 : Nat) : Int))]) (h' := h) (o123_21 hB) rfl ?_
        refine w_getf (A := 2) (t := 0) (z := (h 2 0)) (pc' := 45) (o123_22 hB) rfl (by decide +kernel) rfl ?_
        refine w_pl (pc' := 46) (lv' := [(0, (2, ((0 : Nat) : Int))), (1, (0, (n)))]) (st' := [(0, (n)), (0, (h 2 0)), (2, ((2 : Nat) : Int))]) (h' := h) (o123_23 hB) rfl ?_
        refine w_iadd (z := ((h 2 0) + (n))) (pc' := 47) (o123_24 hB) rfl (w32_e (by omega) (by omega)) ?_
        refine w_putf (A := 2) (t := 0) (pc' := 50) (o123_25 hB) rfl (by decide +kernel) ?_
        refine w_pl (pc' := 51) (lv' := [(0, (2, ((0 : Nat) : Int))), (1, (0, (n)))]) (st' := [(2, ((0 : Nat) : Int))]) (h' := (hup h 2 (0) ((h 2 0) + (n)))) (o123_26 hB) rfl ?_
        refine w_getf (A := 0) (t := 2) (z := ((1 : Nat) : Int)) (pc' := 54) (o123_27 hB) rfl (by decide +kernel) ((hup_ne (by decide)).trans (hR (0, 0, 1) (by decide))) ?_
        refine w_getf (A := 1) (t := 2) (z := ((2 : Nat) : Int)) (pc' := 57) (o123_28 hB) rfl (by decide +kernel) ((hup_ne (by decide)).trans (hR (1, 0, 2) (by decide))) ?_
        refine w_getf (A := 2) (t := 0) (z := (((h 2 0) + (n)))) (pc' := 60) (o123_29 hB) rfl (by decide +kernel) (hup_eq) ?_
        exact w_iret (o123_30 hB) mr123 (by unfold in32; omega) (qe (hg (by omega)) (by omega))
      · have f121 : ¬ (((h 2 0) + (n)) < ((240 : Nat) : Int)) := e
        refine w_pl (pc' := 33) (lv' := [(0, (2, ((0 : Nat) : Int))), (1, (0, (n)))]) (st' := [(0, (-4))]) (h' := h) (o123_16 hB) rfl ?_
        exact w_iret (o123_17 hB) mr123 (by unfold in32; omega) (hb (by omega) _ (by unfold in32; omega))
    · have f122 : ¬ ((n) ≤ ((60 : Nat) : Int)) := e
      refine w_pl (pc' := 12) (lv' := [(0, (2, ((0 : Nat) : Int))), (1, (0, (n)))]) (st' := [(0, (-1))]) (h' := h) (o123_6 hB) rfl ?_
      exact w_iret (o123_7 hB) mr123 (by unfold in32; omega) (hb (by omega) _ (by unfold in32; omega))
theorem m_monthsM (hB : BytesOK) {g : bG} {l : Launch} {d : Nat} {Q : bQ} {h : bH} {n : Int} (hR : TR h) (hn : 0 ≤ h 194 0 ∧ h 194 0 ≤ 239) (hb : ¬ (1 ≤ n ∧ n ≤ 60 ∧ h 194 0 + n ≤ 239) → ∀ r, in32 r → Q (some (0, r)) h) (hg : (1 ≤ n ∧ n ≤ 60 ∧ h 194 0 + n ≤ 239) → Q (some (0, h 194 0 + n)) (hup h 194 (0) ((h 194 0) + (n)))) : MH g l (d + 1) 189 212 212 [(2, ((193 : Nat) : Int)), (0, n)] h Q := by
  refine mh_go hB mg189 ml189 (Nat.le_of_ble_eq_true rfl) ?_
  show HW g l (d + 1) 189 _ _ 0 [(0, (2, ((193 : Nat) : Int))), (1, (0, (n)))] [] h
  refine w_pl (pc' := 1) (lv' := [(0, (2, ((193 : Nat) : Int))), (1, (0, (n)))]) (st' := [(0, (n))]) (h' := h) (o189_0 hB) rfl ?_
  refine w_pl (pc' := 2) (lv' := [(0, (2, ((193 : Nat) : Int))), (1, (0, (n)))]) (st' := [(0, ((1 : Nat) : Int)), (0, (n))]) (h' := h) (o189_1 hB) rfl ?_
  refine w_pl (pc' := 4) (lv' := [(0, (2, ((193 : Nat) : Int))), (1, (0, (n)))]) (st' := [(0, ((60 : Nat) : Int)), (0, ((1 : Nat) : Int)), (0, (n))]) (h' := h) (o189_2 hB) rfl ?_
  refine w_callS (as := [(0, (n)), (0, ((1 : Nat) : Int)), (0, ((60 : Nat) : Int))]) (rest := []) (n := 3) (pc' := 7) hB (o189_3 hB) rfl (by decide +kernel) rfl rfl (Nat.le_of_ble_eq_true rfl) (m_in hB (fun f123 => ?_) (fun f124 => ?_))
  · show HW g l _ 189 _ _ 7 [(0, (2, ((193 : Nat) : Int))), (1, (0, (n)))] [(0, ((1 : Nat) : Int))] h
    refine w_ifc (pt := 12) (pf := 10) (o189_4 hB) (by decide) rfl (fun e => ?_) (fun e => ?_)
    · have f125 : (((1 : Nat) : Int) ≠ (0)) := e
      refine w_pl (pc' := 13) (lv' := [(0, (2, ((193 : Nat) : Int))), (1, (0, (n)))]) (st' := [(2, ((193 : Nat) : Int))]) (h' := h) (o189_7 hB) rfl ?_
      refine w_getf (A := 193) (t := 2) (z := ((194 : Nat) : Int)) (pc' := 16) (o189_8 hB) rfl (by decide +kernel) (hR (193, 0, 194) (by decide)) ?_
      refine w_pl (pc' := 17) (lv' := [(0, (2, ((193 : Nat) : Int))), (1, (0, (n)))]) (st' := [(0, ((0 : Nat) : Int)), (2, ((194 : Nat) : Int))]) (h' := h) (o189_9 hB) rfl ?_
      refine w_iald (A := 194) (i := 0) (n := 1984) (z := (h 194 0)) (pc' := 18) (o189_10 hB) rfl (by decide +kernel) (by omega) rfl ?_
      refine w_pl (pc' := 19) (lv' := [(0, (2, ((193 : Nat) : Int))), (1, (0, (n)))]) (st' := [(0, (n)), (0, (h 194 0))]) (h' := h) (o189_11 hB) rfl ?_
      refine w_iadd (z := ((h 194 0) + (n))) (pc' := 20) (o189_12 hB) rfl (w32_e (by omega) (by omega)) ?_
      refine w_pl (pc' := 23) (lv' := [(0, (2, ((193 : Nat) : Int))), (1, (0, (n)))]) (st' := [(0, ((239 : Nat) : Int)), (0, ((h 194 0) + (n)))]) (h' := h) (o189_13 hB) rfl ?_
      refine w_icmp (pt := 29) (pf := 26) (o189_14 hB) (by decide) rfl (fun e => ?_) (fun e => ?_)
      · have f126 : (((h 194 0) + (n)) ≤ ((239 : Nat) : Int)) := e
        refine w_pl (pc' := 30) (lv' := [(0, (2, ((193 : Nat) : Int))), (1, (0, (n)))]) (st' := [(2, ((193 : Nat) : Int))]) (h' := h) (o189_17 hB) rfl ?_
        refine w_getf (A := 193) (t := 2) (z := ((194 : Nat) : Int)) (pc' := 33) (o189_18 hB) rfl (by decide +kernel) (hR (193, 0, 194) (by decide)) ?_
        refine w_pl (pc' := 34) (lv' := [(0, (2, ((193 : Nat) : Int))), (1, (0, (n)))]) (st' := [(0, ((0 : Nat) : Int)), (2, ((194 : Nat) : Int))]) (h' := h) (o189_19 hB) rfl ?_
        refine w_pl (pc' := 35) (lv' := [(0, (2, ((193 : Nat) : Int))), (1, (0, (n)))]) (st' := [(0, ((0 : Nat) : Int)), (2, ((194 : Nat) : Int)), (0, ((0 : Nat) : Int)), (2, ((194 : Nat) : Int))]) (h' := h) (o189_20 hB) rfl ?_
        refine w_iald (A := 194) (i := 0) (n := 1984) (z := (h 194 0)) (pc' := 36) (o189_21 hB) rfl (by decide +kernel) (by omega) rfl ?_
        refine w_pl (pc' := 37) (lv' := [(0, (2, ((193 : Nat) : Int))), (1, (0, (n)))]) (st' := [(0, (n)), (0, (h 194 0)), (0, ((0 : Nat) : Int)), (2, ((194 : Nat) : Int))]) (h' := h) (o189_22 hB) rfl ?_
        refine w_iadd (z := ((h 194 0) + (n))) (pc' := 38) (o189_23 hB) rfl (w32_e (by omega) (by omega)) ?_
        refine w_iast (A := 194) (i := 0) (n := 1984) (pc' := 39) (o189_24 hB) rfl (by decide +kernel) (by omega) ?_
        refine w_pl (pc' := 40) (lv' := [(0, (2, ((193 : Nat) : Int))), (1, (0, (n)))]) (st' := [(2, ((193 : Nat) : Int))]) (h' := (hup h 194 (0) ((h 194 0) + (n)))) (o189_25 hB) rfl ?_
        refine w_getf (A := 193) (t := 2) (z := ((194 : Nat) : Int)) (pc' := 43) (o189_26 hB) rfl (by decide +kernel) ((hup_ne (by decide)).trans (hR (193, 0, 194) (by decide))) ?_
        refine w_pl (pc' := 44) (lv' := [(0, (2, ((193 : Nat) : Int))), (1, (0, (n)))]) (st' := [(0, ((0 : Nat) : Int)), (2, ((194 : Nat) : Int))]) (h' := (hup h 194 (0) ((h 194 0) + (n)))) (o189_27 hB) rfl ?_
        refine w_iald (A := 194) (i := 0) (n := 1984) (z := (((h 194 0) + (n)))) (pc' := 45) (o189_28 hB) rfl (by decide +kernel) (by omega) (hup_eq) ?_
        exact w_iret (o189_29 hB) mr189 (by unfold in32; omega) (qe (hg (by omega)) (by omega))
      · have f127 : ¬ (((h 194 0) + (n)) ≤ ((239 : Nat) : Int)) := e
        refine w_pl (pc' := 28) (lv' := [(0, (2, ((193 : Nat) : Int))), (1, (0, (n)))]) (st' := [(0, (-4))]) (h' := h) (o189_15 hB) rfl ?_
        exact w_iret (o189_16 hB) mr189 (by unfold in32; omega) (hb (by omega) _ (by unfold in32; omega))
    · have f128 : ¬ (((1 : Nat) : Int) ≠ (0)) := e
      exfalso; omega
  · show HW g l _ 189 _ _ 7 [(0, (2, ((193 : Nat) : Int))), (1, (0, (n)))] [(0, ((0 : Nat) : Int))] h
    refine w_ifc (pt := 12) (pf := 10) (o189_4 hB) (by decide) rfl (fun e => ?_) (fun e => ?_)
    · have f129 : (((0 : Nat) : Int) ≠ (0)) := e
      exfalso; omega
    · have f130 : ¬ (((0 : Nat) : Int) ≠ (0)) := e
      refine w_pl (pc' := 11) (lv' := [(0, (2, ((193 : Nat) : Int))), (1, (0, (n)))]) (st' := [(0, (-1))]) (h' := h) (o189_5 hB) rfl ?_
      exact w_iret (o189_6 hB) mr189 (by unfold in32; omega) (hb (by omega) _ (by unfold in32; omega))
