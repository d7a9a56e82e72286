/-! p18: THE METHODS THAT COUNT BOXES, BY HAND -/
theorem m_in (hB : BytesOK) {g : bG} {l : Launch} {d : Nat} {Q : bQ} {h : bH} {x lo hi : Int} (h1 : lo ≤ x ∧ x ≤ hi → Q (some (0, 1)) h) (h0 : ¬ (lo ≤ x ∧ x ≤ hi) → Q (some (0, 0)) h) : MH g l d 184 212 212 [(0, x), (0, lo), (0, hi)] h Q := by
  refine mh_go hB mg184 ml184 (Nat.le_of_ble_eq_true rfl) ?_
  show HW g l d 184 _ _ 0 [(0, (0, (x))), (1, (0, (lo))), (2, (0, (hi)))] [] h
  refine w_pl (pc' := 1) (lv' := [(0, (0, (x))), (1, (0, (lo))), (2, (0, (hi)))]) (st' := [(0, (x))]) (h' := h) (o184_0 hB) rfl ?_
  refine w_pl (pc' := 2) (lv' := [(0, (0, (x))), (1, (0, (lo))), (2, (0, (hi)))]) (st' := [(0, (lo)), (0, (x))]) (h' := h) (o184_1 hB) rfl ?_
  refine w_icmp (pt := 14) (pf := 5) (o184_2 hB) (by decide) rfl (fun e => ?_) (fun e => ?_)
  · have f1 : ((x) < (lo)) := e
    refine w_pl (pc' := 15) (lv' := [(0, (0, (x))), (1, (0, (lo))), (2, (0, (hi)))]) (st' := [(0, ((0 : Nat) : Int))]) (h' := h) (o184_8 hB) rfl ?_
    exact w_zret (o184_9 hB) mr184 (by decide) (h0 (by omega))
  · have f2 : ¬ ((x) < (lo)) := e
    refine w_pl (pc' := 6) (lv' := [(0, (0, (x))), (1, (0, (lo))), (2, (0, (hi)))]) (st' := [(0, (x))]) (h' := h) (o184_3 hB) rfl ?_
    refine w_pl (pc' := 7) (lv' := [(0, (0, (x))), (1, (0, (lo))), (2, (0, (hi)))]) (st' := [(0, (hi)), (0, (x))]) (h' := h) (o184_4 hB) rfl ?_
    refine w_icmp (pt := 14) (pf := 10) (o184_5 hB) (by decide) rfl (fun e => ?_) (fun e => ?_)
    · have f3 : ((hi) < (x)) := e
      refine w_pl (pc' := 15) (lv' := [(0, (0, (x))), (1, (0, (lo))), (2, (0, (hi)))]) (st' := [(0, ((0 : Nat) : Int))]) (h' := h) (o184_8 hB) rfl ?_
      exact w_zret (o184_9 hB) mr184 (by decide) (h0 (by omega))
    · have f4 : ¬ ((hi) < (x)) := e
      refine w_pl (pc' := 11) (lv' := [(0, (0, (x))), (1, (0, (lo))), (2, (0, (hi)))]) (st' := [(0, ((1 : Nat) : Int))]) (h' := h) (o184_6 hB) rfl ?_
      refine w_goto (pt := 15) (o184_7 hB) (by decide) ?_
      exact w_zret (o184_9 hB) mr184 (by decide) (h1 (by omega))
theorem m_isMonthM (hB : BytesOK) {g : bG} {l : Launch} {d : Nat} {Q : bQ} {h : bH} {x : Int} (h1 : 0 ≤ x ∧ x ≤ 239 → Q (some (0, 1)) h) (h0 : ¬ (0 ≤ x ∧ x ≤ 239) → Q (some (0, 0)) h) : MH g l (d + 1) 185 212 212 [(0, x)] h Q := by
  refine mh_go hB mg185 ml185 (Nat.le_of_ble_eq_true rfl) ?_
  show HW g l (d + 1) 185 _ _ 0 [(0, (0, (x)))] [] h
  refine w_pl (pc' := 1) (lv' := [(0, (0, (x)))]) (st' := [(0, (x))]) (h' := h) (o185_0 hB) rfl ?_
  refine w_pl (pc' := 2) (lv' := [(0, (0, (x)))]) (st' := [(0, ((0 : Nat) : Int)), (0, (x))]) (h' := h) (o185_1 hB) rfl ?_
  refine w_pl (pc' := 5) (lv' := [(0, (0, (x)))]) (st' := [(0, ((239 : Nat) : Int)), (0, ((0 : Nat) : Int)), (0, (x))]) (h' := h) (o185_2 hB) rfl ?_
  refine w_callS (as := [(0, (x)), (0, ((0 : Nat) : Int)), (0, ((239 : Nat) : Int))]) (rest := []) (n := 3) (pc' := 8) hB (o185_3 hB) rfl (by decide +kernel) rfl rfl (Nat.le_of_ble_eq_true rfl) (m_in hB (fun f5 => ?_) (fun f6 => ?_))
  · show HW g l _ 185 _ _ 8 [(0, (0, (x)))] [(0, ((1 : Nat) : Int))] h
    exact w_zret (o185_4 hB) mr185 (by decide) (h1 (by omega))
  · show HW g l _ 185 _ _ 8 [(0, (0, (x)))] [(0, ((0 : Nat) : Int))] h
    exact w_zret (o185_4 hB) mr185 (by decide) (h0 (by omega))
theorem m_isWhereM (hB : BytesOK) {g : bG} {l : Launch} {d : Nat} {Q : bQ} {h : bH} {x : Int} (hx : in32 x) (h1 : 0 ≤ x ∧ x / 10000 < 6 ∧ x / 1000 % 10 < 4 ∧ x % 1000 < 240 → Q (some (0, 1)) h) (h0 : ¬ (0 ≤ x ∧ x / 10000 < 6 ∧ x / 1000 % 10 < 4 ∧ x % 1000 < 240) → Q (some (0, 0)) h) : MH g l (d + 1 + 1) 229 212 212 [(0, x)] h Q := by
  refine mh_go hB mg229 ml229 (Nat.le_of_ble_eq_true rfl) ?_
  show HW g l (d + 1 + 1) 229 _ _ 0 [(0, (0, (x)))] [] h
  unfold in32 at hx
  refine w_pl (pc' := 1) (lv' := [(0, (0, (x)))]) (st' := [(0, (x))]) (h' := h) (o229_0 hB) rfl ?_
  refine w_pl (pc' := 2) (lv' := [(0, (0, (x)))]) (st' := [(0, ((0 : Nat) : Int)), (0, (x))]) (h' := h) (o229_1 hB) rfl ?_
  refine w_pl (pc' := 4) (lv' := [(0, (0, (x)))]) (st' := [(0, ((53239 : Nat) : Int)), (0, ((0 : Nat) : Int)), (0, (x))]) (h' := h) (o229_2 hB) rfl ?_
  refine w_callS (as := [(0, (x)), (0, ((0 : Nat) : Int)), (0, ((53239 : Nat) : Int))]) (rest := []) (n := 3) (pc' := 7) hB (o229_3 hB) rfl (by decide +kernel) rfl rfl (Nat.le_of_ble_eq_true rfl) (m_in hB (fun f7 => ?_) (fun f8 => ?_))
  · show HW g l _ 229 _ _ 7 [(0, (0, (x)))] [(0, ((1 : Nat) : Int))] h
    refine w_ifc (pt := 37) (pf := 10) (o229_4 hB) (by decide) rfl (fun e => ?_) (fun e => ?_)
    · have f9 : (((1 : Nat) : Int) = (0)) := e
      exfalso; omega
    · have f10 : ¬ (((1 : Nat) : Int) = (0)) := e
      refine w_pl (pc' := 11) (lv' := [(0, (0, (x)))]) (st' := [(0, (x))]) (h' := h) (o229_5 hB) rfl ?_
      refine w_pl (pc' := 14) (lv' := [(0, (0, (x)))]) (st' := [(0, ((1000 : Nat) : Int)), (0, (x))]) (h' := h) (o229_6 hB) rfl ?_
      refine w_idiv (z := ((x) / 1000)) (pc' := 15) (o229_7 hB) rfl (divI_p (by omega) (by omega) (by decide)) ?_
      refine w_pl (pc' := 17) (lv' := [(0, (0, (x)))]) (st' := [(0, ((10 : Nat) : Int)), (0, ((x) / 1000))]) (h' := h) (o229_8 hB) rfl ?_
      refine w_irem (z := (((x) / 1000) % 10)) (pc' := 18) (o229_9 hB) rfl (remI_p (by omega) (by decide)) ?_
      refine w_pl (pc' := 19) (lv' := [(0, (0, (x)))]) (st' := [(0, ((4 : Nat) : Int)), (0, (((x) / 1000) % 10))]) (h' := h) (o229_10 hB) rfl ?_
      refine w_icmp (pt := 37) (pf := 22) (o229_11 hB) (by decide) rfl (fun e => ?_) (fun e => ?_)
      · have f11 : (((4 : Nat) : Int) ≤ (((x) / 1000) % 10)) := e
        refine w_pl (pc' := 38) (lv' := [(0, (0, (x)))]) (st' := [(0, ((0 : Nat) : Int))]) (h' := h) (o229_19 hB) rfl ?_
        exact w_zret (o229_20 hB) mr229 (by decide) (h0 (by omega))
      · have f12 : ¬ (((4 : Nat) : Int) ≤ (((x) / 1000) % 10)) := e
        refine w_pl (pc' := 23) (lv' := [(0, (0, (x)))]) (st' := [(0, (x))]) (h' := h) (o229_12 hB) rfl ?_
        refine w_pl (pc' := 26) (lv' := [(0, (0, (x)))]) (st' := [(0, ((1000 : Nat) : Int)), (0, (x))]) (h' := h) (o229_13 hB) rfl ?_
        refine w_irem (z := ((x) % 1000)) (pc' := 27) (o229_14 hB) rfl (remI_p (by omega) (by decide)) ?_
        refine w_callS (as := [(0, ((x) % 1000))]) (rest := []) (n := 1) (pc' := 30) hB (o229_15 hB) rfl (by decide +kernel) rfl rfl (Nat.le_of_ble_eq_true rfl) (m_isMonthM hB (fun f13 => ?_) (fun f14 => ?_))
        · show HW g l _ 229 _ _ 30 [(0, (0, (x)))] [(0, ((1 : Nat) : Int))] h
          refine w_ifc (pt := 37) (pf := 33) (o229_16 hB) (by decide) rfl (fun e => ?_) (fun e => ?_)
          · have f15 : (((1 : Nat) : Int) = (0)) := e
            exfalso; omega
          · have f16 : ¬ (((1 : Nat) : Int) = (0)) := e
            refine w_pl (pc' := 34) (lv' := [(0, (0, (x)))]) (st' := [(0, ((1 : Nat) : Int))]) (h' := h) (o229_17 hB) rfl ?_
            refine w_goto (pt := 38) (o229_18 hB) (by decide) ?_
            exact w_zret (o229_20 hB) mr229 (by decide) (h1 (by omega))
        · show HW g l _ 229 _ _ 30 [(0, (0, (x)))] [(0, ((0 : Nat) : Int))] h
          refine w_ifc (pt := 37) (pf := 33) (o229_16 hB) (by decide) rfl (fun e => ?_) (fun e => ?_)
          · have f17 : (((0 : Nat) : Int) = (0)) := e
            refine w_pl (pc' := 38) (lv' := [(0, (0, (x)))]) (st' := [(0, ((0 : Nat) : Int))]) (h' := h) (o229_19 hB) rfl ?_
            exact w_zret (o229_20 hB) mr229 (by decide) (h0 (by omega))
          · have f18 : ¬ (((0 : Nat) : Int) = (0)) := e
            exfalso; omega
  · show HW g l _ 229 _ _ 7 [(0, (0, (x)))] [(0, ((0 : Nat) : Int))] h
    refine w_ifc (pt := 37) (pf := 10) (o229_4 hB) (by decide) rfl (fun e => ?_) (fun e => ?_)
    · have f19 : (((0 : Nat) : Int) = (0)) := e
      refine w_pl (pc' := 38) (lv' := [(0, (0, (x)))]) (st' := [(0, ((0 : Nat) : Int))]) (h' := h) (o229_19 hB) rfl ?_
      exact w_zret (o229_20 hB) mr229 (by decide) (h0 (by omega))
    · have f20 : ¬ (((0 : Nat) : Int) = (0)) := e
      exfalso; omega
theorem m_isMonthB (hB : BytesOK) {g : bG} {l : Launch} {d : Nat} {Q : bQ} {h : bH} {x : Int} (h1 : 0 ≤ x ∧ x ≤ 239 → Q (some (0, 1)) h) (h0 : ¬ (0 ≤ x ∧ x ≤ 239) → Q (some (0, 0)) h) : MH g l d 171 212 212 [(0, x)] h Q := by
  refine mh_go hB mg171 ml171 (Nat.le_of_ble_eq_true rfl) ?_
  show HW g l d 171 _ _ 0 [(0, (0, (x)))] [] h
  refine w_pl (pc' := 1) (lv' := [(0, (0, (x)))]) (st' := [(0, (x))]) (h' := h) (o171_0 hB) rfl ?_
  refine w_ifc (pt := 15) (pf := 4) (o171_1 hB) (by decide) rfl (fun e => ?_) (fun e => ?_)
  · have f21 : ((x) < (0)) := e
    refine w_pl (pc' := 16) (lv' := [(0, (0, (x)))]) (st' := [(0, ((0 : Nat) : Int))]) (h' := h) (o171_7 hB) rfl ?_
    exact w_zret (o171_8 hB) mr171 (by decide) (h0 (by omega))
  · have f22 : ¬ ((x) < (0)) := e
    refine w_pl (pc' := 5) (lv' := [(0, (0, (x)))]) (st' := [(0, (x))]) (h' := h) (o171_2 hB) rfl ?_
    refine w_pl (pc' := 8) (lv' := [(0, (0, (x)))]) (st' := [(0, ((240 : Nat) : Int)), (0, (x))]) (h' := h) (o171_3 hB) rfl ?_
    refine w_icmp (pt := 15) (pf := 11) (o171_4 hB) (by decide) rfl (fun e => ?_) (fun e => ?_)
    · have f23 : (((240 : Nat) : Int) ≤ (x)) := e
      refine w_pl (pc' := 16) (lv' := [(0, (0, (x)))]) (st' := [(0, ((0 : Nat) : Int))]) (h' := h) (o171_7 hB) rfl ?_
      exact w_zret (o171_8 hB) mr171 (by decide) (h0 (by omega))
    · have f24 : ¬ (((240 : Nat) : Int) ≤ (x)) := e
      refine w_pl (pc' := 12) (lv' := [(0, (0, (x)))]) (st' := [(0, ((1 : Nat) : Int))]) (h' := h) (o171_5 hB) rfl ?_
      refine w_goto (pt := 16) (o171_6 hB) (by decide) ?_
      exact w_zret (o171_8 hB) mr171 (by decide) (h1 (by omega))
theorem m_isWhereB (hB : BytesOK) {g : bG} {l : Launch} {d : Nat} {Q : bQ} {h : bH} {x : Int} (hx : in32 x) (h1 : 0 ≤ x ∧ x / 10000 < 6 ∧ x / 1000 % 10 < 4 ∧ x % 1000 < 240 → Q (some (0, 1)) h) (h0 : ¬ (0 ≤ x ∧ x / 10000 < 6 ∧ x / 1000 % 10 < 4 ∧ x % 1000 < 240) → Q (some (0, 0)) h) : MH g l d 177 212 212 [(0, x)] h Q := by
  refine mh_go hB mg177 ml177 (Nat.le_of_ble_eq_true rfl) ?_
  show HW g l d 177 _ _ 0 [(0, (0, (x)))] [] h
  unfold in32 at hx
  refine w_pl (pc' := 1) (lv' := [(0, (0, (x)))]) (st' := [(0, (x))]) (h' := h) (o177_0 hB) rfl ?_
  refine w_ifc (pt := 41) (pf := 4) (o177_1 hB) (by decide) rfl (fun e => ?_) (fun e => ?_)
  · have f25 : ((x) < (0)) := e
    refine w_pl (pc' := 42) (lv' := [(0, (0, (x)))]) (st' := [(0, ((0 : Nat) : Int))]) (h' := h) (o177_21 hB) rfl ?_
    exact w_zret (o177_22 hB) mr177 (by decide) (h0 (by omega))
  · have f26 : ¬ ((x) < (0)) := e
    refine w_pl (pc' := 5) (lv' := [(0, (0, (x)))]) (st' := [(0, (x))]) (h' := h) (o177_2 hB) rfl ?_
    refine w_pl (pc' := 8) (lv' := [(0, (0, (x)))]) (st' := [(0, ((10000 : Nat) : Int)), (0, (x))]) (h' := h) (o177_3 hB) rfl ?_
    refine w_idiv (z := ((x) / 10000)) (pc' := 9) (o177_4 hB) rfl (divI_p (by omega) (by omega) (by decide)) ?_
    refine w_pl (pc' := 11) (lv' := [(0, (0, (x)))]) (st' := [(0, ((6 : Nat) : Int)), (0, ((x) / 10000))]) (h' := h) (o177_5 hB) rfl ?_
    refine w_icmp (pt := 41) (pf := 14) (o177_6 hB) (by decide) rfl (fun e => ?_) (fun e => ?_)
    · have f27 : (((6 : Nat) : Int) ≤ ((x) / 10000)) := e
      refine w_pl (pc' := 42) (lv' := [(0, (0, (x)))]) (st' := [(0, ((0 : Nat) : Int))]) (h' := h) (o177_21 hB) rfl ?_
      exact w_zret (o177_22 hB) mr177 (by decide) (h0 (by omega))
    · have f28 : ¬ (((6 : Nat) : Int) ≤ ((x) / 10000)) := e
      refine w_pl (pc' := 15) (lv' := [(0, (0, (x)))]) (st' := [(0, (x))]) (h' := h) (o177_7 hB) rfl ?_
      refine w_pl (pc' := 18) (lv' := [(0, (0, (x)))]) (st' := [(0, ((1000 : Nat) : Int)), (0, (x))]) (h' := h) (o177_8 hB) rfl ?_
      refine w_idiv (z := ((x) / 1000)) (pc' := 19) (o177_9 hB) rfl (divI_p (by omega) (by omega) (by decide)) ?_
      refine w_pl (pc' := 21) (lv' := [(0, (0, (x)))]) (st' := [(0, ((10 : Nat) : Int)), (0, ((x) / 1000))]) (h' := h) (o177_10 hB) rfl ?_
      refine w_irem (z := (((x) / 1000) % 10)) (pc' := 22) (o177_11 hB) rfl (remI_p (by omega) (by decide)) ?_
      refine w_pl (pc' := 23) (lv' := [(0, (0, (x)))]) (st' := [(0, ((4 : Nat) : Int)), (0, (((x) / 1000) % 10))]) (h' := h) (o177_12 hB) rfl ?_
      refine w_icmp (pt := 41) (pf := 26) (o177_13 hB) (by decide) rfl (fun e => ?_) (fun e => ?_)
      · have f29 : (((4 : Nat) : Int) ≤ (((x) / 1000) % 10)) := e
        refine w_pl (pc' := 42) (lv' := [(0, (0, (x)))]) (st' := [(0, ((0 : Nat) : Int))]) (h' := h) (o177_21 hB) rfl ?_
        exact w_zret (o177_22 hB) mr177 (by decide) (h0 (by omega))
      · have f30 : ¬ (((4 : Nat) : Int) ≤ (((x) / 1000) % 10)) := e
        refine w_pl (pc' := 27) (lv' := [(0, (0, (x)))]) (st' := [(0, (x))]) (h' := h) (o177_14 hB) rfl ?_
        refine w_pl (pc' := 30) (lv' := [(0, (0, (x)))]) (st' := [(0, ((1000 : Nat) : Int)), (0, (x))]) (h' := h) (o177_15 hB) rfl ?_
        refine w_irem (z := ((x) % 1000)) (pc' := 31) (o177_16 hB) rfl (remI_p (by omega) (by decide)) ?_
        refine w_pl (pc' := 34) (lv' := [(0, (0, (x)))]) (st' := [(0, ((240 : Nat) : Int)), (0, ((x) % 1000))]) (h' := h) (o177_17 hB) rfl ?_
        refine w_icmp (pt := 41) (pf := 37) (o177_18 hB) (by decide) rfl (fun e => ?_) (fun e => ?_)
        · have f31 : (((240 : Nat) : Int) ≤ ((x) % 1000)) := e
          refine w_pl (pc' := 42) (lv' := [(0, (0, (x)))]) (st' := [(0, ((0 : Nat) : Int))]) (h' := h) (o177_21 hB) rfl ?_
          exact w_zret (o177_22 hB) mr177 (by decide) (h0 (by omega))
        · have f32 : ¬ (((240 : Nat) : Int) ≤ ((x) % 1000)) := e
          refine w_pl (pc' := 38) (lv' := [(0, (0, (x)))]) (st' := [(0, ((1 : Nat) : Int))]) (h' := h) (o177_19 hB) rfl ?_
          refine w_goto (pt := 42) (o177_20 hB) (by decide) ?_
          exact w_zret (o177_22 hB) mr177 (by decide) (h1 (by omega))
/-- the class's count over the first b, the reference's -/
def cntA (h : bH) (w kk : Int) : Nat → Int
  | 0 => 0
  | b + 1 => cntA h w kk b + (if h 18 b = w ∧ h 20 b ≤ kk then h 19 b else 0)
def cntM (h : bH) (mk ld mo kk : Int) : Nat → Int
  | 0 => 0
  | b + 1 => cntM h mk ld mo kk b + (if h 194 (306 + 5 * b) = mk ∧ h 194 (306 + 5 * b + 1) = ld ∧ h 194 (306 + 5 * b + 2) = mo ∧ h 194 (306 + 5 * b + 4) ≤ kk then h 194 (306 + 5 * b + 3) else 0)
theorem cntA_r {h : bH} (hT : ∀ b, b < 24 → 0 ≤ h 19 b ∧ h 19 b ≤ 999) {w kk : Int} : ∀ b, b ≤ 24 → 0 ≤ cntA h w kk b ∧ cntA h w kk b ≤ 999 * b
  | 0, _ => by simp [cntA]
  | b + 1, hb => by
    have := cntA_r hT (w := w) (kk := kk) b (by omega)
    have := hT b (by omega)
    simp only [cntA]
    split <;> omega
theorem cntM_r {h : bH} (hT : ∀ b, b < 24 → 0 ≤ h 194 (306 + 5 * b + 3) ∧ h 194 (306 + 5 * b + 3) ≤ 999) {mk ld mo kk : Int} : ∀ b, b ≤ 24 → 0 ≤ cntM h mk ld mo kk b ∧ cntM h mk ld mo kk b ≤ 999 * b
  | 0, _ => by simp [cntM]
  | b + 1, hb => by
    have := cntM_r hT (mk := mk) (ld := ld) (mo := mo) (kk := kk) b (by omega)
    have := hT b (by omega)
    simp only [cntM]
    split <;> omega
theorem m_countAt (hB : BytesOK) {g : bG} {l : Launch} {d : Nat} {Q : bQ} {h : bH} {w kk : Int} {c : Nat} (hR : TR h) (hT : ∀ b, b < 24 → 0 ≤ h 19 b ∧ h 19 b ≤ 999) (hc : h 17 0 = (c : Int)) (h24 : c ≤ 24) (hq : Q (some (0, cntA h w kk c)) h) : MH g l d 108 212 212 [(2, ((17 : Nat) : Int)), (0, w), (0, kk)] h Q := by
  have loop : ∀ (n b : Nat), b + n = c → HW g l d 108 212 Q 5 [(4, (0, ((b : Nat) : Int))), (3, (0, (cntA h w kk b))), (0, (2, ((17 : Nat) : Int))), (1, (0, (w))), (2, (0, (kk)))] [] h := by
    intro n
    induction n with
    | zero =>
      intro b hb
      refine w_pl (pc' := 7) (lv' := [(4, (0, ((b : Nat) : Int))), (3, (0, (cntA h w kk b))), (0, (2, ((17 : Nat) : Int))), (1, (0, (w))), (2, (0, (kk)))]) (st' := [(0, ((b : Nat) : Int))]) (h' := h) (o108_4 hB) rfl ?_
      refine w_pl (pc' := 8) (lv' := [(4, (0, ((b : Nat) : Int))), (3, (0, (cntA h w kk b))), (0, (2, ((17 : Nat) : Int))), (1, (0, (w))), (2, (0, (kk)))]) (st' := [(2, ((17 : Nat) : Int)), (0, ((b : Nat) : Int))]) (h' := h) (o108_5 hB) rfl ?_
      refine w_getf (A := 17) (t := 0) (z := ((c : Nat) : Int)) (pc' := 11) (o108_6 hB) rfl (by decide +kernel) hc ?_
      refine w_icmp (pt := 52) (pf := 14) (o108_7 hB) (by decide) rfl (fun e => ?_) (fun e => ?_)
      · have f33 : (((c : Nat) : Int) ≤ ((b : Nat) : Int)) := e
        refine w_pl (pc' := 53) (lv' := [(4, (0, ((b : Nat) : Int))), (3, (0, (cntA h w kk b))), (0, (2, ((17 : Nat) : Int))), (1, (0, (w))), (2, (0, (kk)))]) (st' := [(0, (cntA h w kk b))]) (h' := h) (o108_29 hB) rfl ?_
        have e0 : b = c := by omega
        subst e0
        exact w_iret (o108_30 hB) mr108 (by have := cntA_r hT (w := w) (kk := kk) b (by omega); unfold in32; omega) hq
      · have f34 : ¬ (((c : Nat) : Int) ≤ ((b : Nat) : Int)) := e
        exfalso; omega
    | succ n ih =>
      intro b hb
      refine w_pl (pc' := 7) (lv' := [(4, (0, ((b : Nat) : Int))), (3, (0, (cntA h w kk b))), (0, (2, ((17 : Nat) : Int))), (1, (0, (w))), (2, (0, (kk)))]) (st' := [(0, ((b : Nat) : Int))]) (h' := h) (o108_4 hB) rfl ?_
      refine w_pl (pc' := 8) (lv' := [(4, (0, ((b : Nat) : Int))), (3, (0, (cntA h w kk b))), (0, (2, ((17 : Nat) : Int))), (1, (0, (w))), (2, (0, (kk)))]) (st' := [(2, ((17 : Nat) : Int)), (0, ((b : Nat) : Int))]) (h' := h) (o108_5 hB) rfl ?_
      refine w_getf (A := 17) (t := 0) (z := ((c : Nat) : Int)) (pc' := 11) (o108_6 hB) rfl (by decide +kernel) hc ?_
      refine w_icmp (pt := 52) (pf := 14) (o108_7 hB) (by decide) rfl (fun e => ?_) (fun e => ?_)
      · have f35 : (((c : Nat) : Int) ≤ ((b : Nat) : Int)) := e
        exfalso; omega
      · have f36 : ¬ (((c : Nat) : Int) ≤ ((b : Nat) : Int)) := e
        refine w_pl (pc' := 15) (lv' := [(4, (0, ((b : Nat) : Int))), (3, (0, (cntA h w kk b))), (0, (2, ((17 : Nat) : Int))), (1, (0, (w))), (2, (0, (kk)))]) (st' := [(2, ((17 : Nat) : Int))]) (h' := h) (o108_8 hB) rfl ?_
        refine w_getf (A := 17) (t := 2) (z := ((18 : Nat) : Int)) (pc' := 18) (o108_9 hB) rfl (by decide +kernel) (hR (17, 1, 18) (by decide)) ?_
        refine w_pl (pc' := 20) (lv' := [(4, (0, ((b : Nat) : Int))), (3, (0, (cntA h w kk b))), (0, (2, ((17 : Nat) : Int))), (1, (0, (w))), (2, (0, (kk)))]) (st' := [(0, ((b : Nat) : Int)), (2, ((18 : Nat) : Int))]) (h' := h) (o108_10 hB) rfl ?_
        refine w_iald (A := 18) (i := b) (n := 24) (z := (h 18 b)) (pc' := 21) (o108_11 hB) rfl (by decide +kernel) (by omega) rfl ?_
        refine w_pl (pc' := 22) (lv' := [(4, (0, ((b : Nat) : Int))), (3, (0, (cntA h w kk b))), (0, (2, ((17 : Nat) : Int))), (1, (0, (w))), (2, (0, (kk)))]) (st' := [(0, (w)), (0, (h 18 b))]) (h' := h) (o108_12 hB) rfl ?_
        refine w_icmp (pt := 46) (pf := 25) (o108_13 hB) (by decide) rfl (fun e => ?_) (fun e => ?_)
        · have f37 : ((h 18 b) ≠ (w)) := e
          refine w_iinc (x := ((b : Nat) : Int)) (z := (((b + 1) : Nat) : Int)) (pc' := 49) (lv' := [(4, (0, (((b + 1) : Nat) : Int))), (3, (0, (cntA h w kk b))), (0, (2, ((17 : Nat) : Int))), (1, (0, (w))), (2, (0, (kk)))]) (o108_27 hB) rfl rfl ml108 (by decide) (w32_e (by omega) (by omega)) rfl ?_
          refine w_goto (pt := 5) (o108_28 hB) (by decide) ?_
          refine w_sub (lv' := [(4, (0, (((b + 1) : Nat) : Int))), (3, (0, (cntA h w kk b))), (0, (2, ((17 : Nat) : Int))), (1, (0, (w))), (2, (0, (kk)))]) (List.Sublist.subset (.cons₂ _ (.cons₂ _ (.cons₂ _ (.cons₂ _ (.cons₂ _ .slnil)))))) ?_
          have e1 : (cntA h w kk b) = cntA h w kk (b + 1) := by
            simp only [cntA]
            rw [if_neg (by omega)]; omega
          rw [e1]
          exact ih (b + 1) (by omega)
        · have f38 : ¬ ((h 18 b) ≠ (w)) := e
          refine w_pl (pc' := 26) (lv' := [(4, (0, ((b : Nat) : Int))), (3, (0, (cntA h w kk b))), (0, (2, ((17 : Nat) : Int))), (1, (0, (w))), (2, (0, (kk)))]) (st' := [(2, ((17 : Nat) : Int))]) (h' := h) (o108_14 hB) rfl ?_
          refine w_getf (A := 17) (t := 2) (z := ((20 : Nat) : Int)) (pc' := 29) (o108_15 hB) rfl (by decide +kernel) (hR (17, 3, 20) (by decide)) ?_
          refine w_pl (pc' := 31) (lv' := [(4, (0, ((b : Nat) : Int))), (3, (0, (cntA h w kk b))), (0, (2, ((17 : Nat) : Int))), (1, (0, (w))), (2, (0, (kk)))]) (st' := [(0, ((b : Nat) : Int)), (2, ((20 : Nat) : Int))]) (h' := h) (o108_16 hB) rfl ?_
          refine w_iald (A := 20) (i := b) (n := 24) (z := (h 20 b)) (pc' := 32) (o108_17 hB) rfl (by decide +kernel) (by omega) rfl ?_
          refine w_pl (pc' := 33) (lv' := [(4, (0, ((b : Nat) : Int))), (3, (0, (cntA h w kk b))), (0, (2, ((17 : Nat) : Int))), (1, (0, (w))), (2, (0, (kk)))]) (st' := [(0, (kk)), (0, (h 20 b))]) (h' := h) (o108_18 hB) rfl ?_
          refine w_icmp (pt := 46) (pf := 36) (o108_19 hB) (by decide) rfl (fun e => ?_) (fun e => ?_)
          · have f39 : ((kk) < (h 20 b)) := e
            refine w_iinc (x := ((b : Nat) : Int)) (z := (((b + 1) : Nat) : Int)) (pc' := 49) (lv' := [(4, (0, (((b + 1) : Nat) : Int))), (3, (0, (cntA h w kk b))), (0, (2, ((17 : Nat) : Int))), (1, (0, (w))), (2, (0, (kk)))]) (o108_27 hB) rfl rfl ml108 (by decide) (w32_e (by omega) (by omega)) rfl ?_
            refine w_goto (pt := 5) (o108_28 hB) (by decide) ?_
            refine w_sub (lv' := [(4, (0, (((b + 1) : Nat) : Int))), (3, (0, (cntA h w kk b))), (0, (2, ((17 : Nat) : Int))), (1, (0, (w))), (2, (0, (kk)))]) (List.Sublist.subset (.cons₂ _ (.cons₂ _ (.cons₂ _ (.cons₂ _ (.cons₂ _ .slnil)))))) ?_
            have e1 : (cntA h w kk b) = cntA h w kk (b + 1) := by
              simp only [cntA]
              rw [if_neg (by omega)]; omega
            rw [e1]
            exact ih (b + 1) (by omega)
          · have f40 : ¬ ((kk) < (h 20 b)) := e
            refine w_pl (pc' := 37) (lv' := [(4, (0, ((b : Nat) : Int))), (3, (0, (cntA h w kk b))), (0, (2, ((17 : Nat) : Int))), (1, (0, (w))), (2, (0, (kk)))]) (st' := [(0, (cntA h w kk b))]) (h' := h) (o108_20 hB) rfl ?_
            refine w_pl (pc' := 38) (lv' := [(4, (0, ((b : Nat) : Int))), (3, (0, (cntA h w kk b))), (0, (2, ((17 : Nat) : Int))), (1, (0, (w))), (2, (0, (kk)))]) (st' := [(2, ((17 : Nat) : Int)), (0, (cntA h w kk b))]) (h' := h) (o108_21 hB) rfl ?_
            refine w_getf (A := 17) (t := 2) (z := ((19 : Nat) : Int)) (pc' := 41) (o108_22 hB) rfl (by decide +kernel) (hR (17, 2, 19) (by decide)) ?_
            refine w_pl (pc' := 43) (lv' := [(4, (0, ((b : Nat) : Int))), (3, (0, (cntA h w kk b))), (0, (2, ((17 : Nat) : Int))), (1, (0, (w))), (2, (0, (kk)))]) (st' := [(0, ((b : Nat) : Int)), (2, ((19 : Nat) : Int)), (0, (cntA h w kk b))]) (h' := h) (o108_23 hB) rfl ?_
            have f41 := And.intro (hT (b) (by omega)) (cntA_r hT (w := w) (kk := kk) b (by omega))
            refine w_iald (A := 19) (i := b) (n := 24) (z := (h 19 b)) (pc' := 44) (o108_24 hB) rfl (by decide +kernel) (by omega) rfl ?_
            refine w_iadd (z := ((cntA h w kk b) + (h 19 b))) (pc' := 45) (o108_25 hB) rfl (w32_e (by omega) (by omega)) ?_
            refine w_st (tg := 0) (j := 3) (len := 1) (pc' := 46) (lv' := [(3, (0, ((cntA h w kk b) + (h 19 b)))), (4, (0, ((b : Nat) : Int))), (0, (2, ((17 : Nat) : Int))), (1, (0, (w))), (2, (0, (kk)))]) (o108_26 hB) rfl rfl ml108 (by decide) rfl ?_
            refine w_iinc (x := ((b : Nat) : Int)) (z := (((b + 1) : Nat) : Int)) (pc' := 49) (lv' := [(4, (0, (((b + 1) : Nat) : Int))), (3, (0, ((cntA h w kk b) + (h 19 b)))), (0, (2, ((17 : Nat) : Int))), (1, (0, (w))), (2, (0, (kk)))]) (o108_27 hB) rfl rfl ml108 (by decide) (w32_e (by omega) (by omega)) rfl ?_
            refine w_goto (pt := 5) (o108_28 hB) (by decide) ?_
            refine w_sub (lv' := [(4, (0, (((b + 1) : Nat) : Int))), (3, (0, ((cntA h w kk b) + (h 19 b)))), (0, (2, ((17 : Nat) : Int))), (1, (0, (w))), (2, (0, (kk)))]) (List.Sublist.subset (.cons₂ _ (.cons₂ _ (.cons₂ _ (.cons₂ _ (.cons₂ _ .slnil)))))) ?_
            have e1 : ((cntA h w kk b) + (h 19 b)) = cntA h w kk (b + 1) := by
              simp only [cntA]
              rw [if_pos ⟨by omega, by omega⟩]
            rw [e1]
            exact ih (b + 1) (by omega)
  refine mh_go hB mg108 ml108 (Nat.le_of_ble_eq_true rfl) ?_
  show HW g l d 108 _ _ 0 [(0, (2, ((17 : Nat) : Int))), (1, (0, (w))), (2, (0, (kk)))] [] h
  refine w_pl (pc' := 1) (lv' := [(0, (2, ((17 : Nat) : Int))), (1, (0, (w))), (2, (0, (kk)))]) (st' := [(0, ((0 : Nat) : Int))]) (h' := h) (o108_0 hB) rfl ?_
  refine w_st (tg := 0) (j := 3) (len := 1) (pc' := 2) (lv' := [(3, (0, ((0 : Nat) : Int))), (0, (2, ((17 : Nat) : Int))), (1, (0, (w))), (2, (0, (kk)))]) (o108_1 hB) rfl rfl ml108 (by decide) rfl ?_
  refine w_pl (pc' := 3) (lv' := [(3, (0, ((0 : Nat) : Int))), (0, (2, ((17 : Nat) : Int))), (1, (0, (w))), (2, (0, (kk)))]) (st' := [(0, ((0 : Nat) : Int))]) (h' := h) (o108_2 hB) rfl ?_
  refine w_st (tg := 0) (j := 4) (len := 2) (pc' := 5) (lv' := [(4, (0, ((0 : Nat) : Int))), (3, (0, ((0 : Nat) : Int))), (0, (2, ((17 : Nat) : Int))), (1, (0, (w))), (2, (0, (kk)))]) (o108_3 hB) rfl rfl ml108 (by decide) rfl ?_
  refine w_sub (lv' := [(4, (0, ((0 : Nat) : Int))), (3, (0, ((0 : Nat) : Int))), (0, (2, ((17 : Nat) : Int))), (1, (0, (w))), (2, (0, (kk)))]) (List.Sublist.subset (.cons₂ _ (.cons₂ _ (.cons₂ _ (.cons₂ _ (.cons₂ _ .slnil)))))) ?_
  exact loop c 0 (by omega)
theorem m_countOf (hB : BytesOK) {g : bG} {l : Launch} {d : Nat} {Q : bQ} {h : bH} {mk ld mo kk : Int} {c : Nat} (hR : TR h) (hT : ∀ b, b < 24 → 0 ≤ h 194 (306 + 5 * b + 3) ∧ h 194 (306 + 5 * b + 3) ≤ 999) (hc : h 194 5 = (c : Int)) (h24 : c ≤ 24) (hq : Q (some (0, cntM h mk ld mo kk c)) h) : MH g l d 231 212 212 [(2, ((193 : Nat) : Int)), (0, mk), (0, ld), (0, mo), (0, kk)] h Q := by
  have loop : ∀ (n b : Nat), b + n = c → HW g l d 231 212 Q 6 [(6, (0, ((b : Nat) : Int))), (5, (0, (cntM h mk ld mo kk b))), (0, (2, ((193 : Nat) : Int))), (1, (0, (mk))), (2, (0, (ld))), (3, (0, (mo))), (4, (0, (kk)))] [] h := by
    intro n
    induction n with
    | zero =>
      intro b hb
      refine w_pl (pc' := 8) (lv' := [(6, (0, ((b : Nat) : Int))), (5, (0, (cntM h mk ld mo kk b))), (0, (2, ((193 : Nat) : Int))), (1, (0, (mk))), (2, (0, (ld))), (3, (0, (mo))), (4, (0, (kk)))]) (st' := [(0, ((b : Nat) : Int))]) (h' := h) (o231_4 hB) rfl ?_
      refine w_pl (pc' := 9) (lv' := [(6, (0, ((b : Nat) : Int))), (5, (0, (cntM h mk ld mo kk b))), (0, (2, ((193 : Nat) : Int))), (1, (0, (mk))), (2, (0, (ld))), (3, (0, (mo))), (4, (0, (kk)))]) (st' := [(2, ((193 : Nat) : Int)), (0, ((b : Nat) : Int))]) (h' := h) (o231_5 hB) rfl ?_
      refine w_getf (A := 193) (t := 2) (z := ((194 : Nat) : Int)) (pc' := 12) (o231_6 hB) rfl (by decide +kernel) (hR (193, 0, 194) (by decide)) ?_
      refine w_pl (pc' := 13) (lv' := [(6, (0, ((b : Nat) : Int))), (5, (0, (cntM h mk ld mo kk b))), (0, (2, ((193 : Nat) : Int))), (1, (0, (mk))), (2, (0, (ld))), (3, (0, (mo))), (4, (0, (kk)))]) (st' := [(0, ((5 : Nat) : Int)), (2, ((194 : Nat) : Int)), (0, ((b : Nat) : Int))]) (h' := h) (o231_7 hB) rfl ?_
      refine w_iald (A := 194) (i := 5) (n := 1984) (z := ((c : Nat) : Int)) (pc' := 14) (o231_8 hB) rfl (by decide +kernel) (by omega) hc ?_
      refine w_icmp (pt := 102) (pf := 17) (o231_9 hB) (by decide) rfl (fun e => ?_) (fun e => ?_)
      · have f42 : (((c : Nat) : Int) ≤ ((b : Nat) : Int)) := e
        refine w_pl (pc' := 104) (lv' := [(6, (0, ((b : Nat) : Int))), (5, (0, (cntM h mk ld mo kk b))), (0, (2, ((193 : Nat) : Int))), (1, (0, (mk))), (2, (0, (ld))), (3, (0, (mo))), (4, (0, (kk)))]) (st' := [(0, (cntM h mk ld mo kk b))]) (h' := h) (o231_59 hB) rfl ?_
        have e0 : b = c := by omega
        subst e0
        exact w_iret (o231_60 hB) mr231 (by have := cntM_r hT (mk := mk) (ld := ld) (mo := mo) (kk := kk) b (by omega); unfold in32; omega) hq
      · have f43 : ¬ (((c : Nat) : Int) ≤ ((b : Nat) : Int)) := e
        exfalso; omega
    | succ n ih =>
      intro b hb
      refine w_pl (pc' := 8) (lv' := [(6, (0, ((b : Nat) : Int))), (5, (0, (cntM h mk ld mo kk b))), (0, (2, ((193 : Nat) : Int))), (1, (0, (mk))), (2, (0, (ld))), (3, (0, (mo))), (4, (0, (kk)))]) (st' := [(0, ((b : Nat) : Int))]) (h' := h) (o231_4 hB) rfl ?_
      refine w_pl (pc' := 9) (lv' := [(6, (0, ((b : Nat) : Int))), (5, (0, (cntM h mk ld mo kk b))), (0, (2, ((193 : Nat) : Int))), (1, (0, (mk))), (2, (0, (ld))), (3, (0, (mo))), (4, (0, (kk)))]) (st' := [(2, ((193 : Nat) : Int)), (0, ((b : Nat) : Int))]) (h' := h) (o231_5 hB) rfl ?_
      refine w_getf (A := 193) (t := 2) (z := ((194 : Nat) : Int)) (pc' := 12) (o231_6 hB) rfl (by decide +kernel) (hR (193, 0, 194) (by decide)) ?_
      refine w_pl (pc' := 13) (lv' := [(6, (0, ((b : Nat) : Int))), (5, (0, (cntM h mk ld mo kk b))), (0, (2, ((193 : Nat) : Int))), (1, (0, (mk))), (2, (0, (ld))), (3, (0, (mo))), (4, (0, (kk)))]) (st' := [(0, ((5 : Nat) : Int)), (2, ((194 : Nat) : Int)), (0, ((b : Nat) : Int))]) (h' := h) (o231_7 hB) rfl ?_
      refine w_iald (A := 194) (i := 5) (n := 1984) (z := ((c : Nat) : Int)) (pc' := 14) (o231_8 hB) rfl (by decide +kernel) (by omega) hc ?_
      refine w_icmp (pt := 102) (pf := 17) (o231_9 hB) (by decide) rfl (fun e => ?_) (fun e => ?_)
      · have f44 : (((c : Nat) : Int) ≤ ((b : Nat) : Int)) := e
        exfalso; omega
      · have f45 : ¬ (((c : Nat) : Int) ≤ ((b : Nat) : Int)) := e
        refine w_pl (pc' := 20) (lv' := [(6, (0, ((b : Nat) : Int))), (5, (0, (cntM h mk ld mo kk b))), (0, (2, ((193 : Nat) : Int))), (1, (0, (mk))), (2, (0, (ld))), (3, (0, (mo))), (4, (0, (kk)))]) (st' := [(0, ((306 : Nat) : Int))]) (h' := h) (o231_10 hB) rfl ?_
        refine w_pl (pc' := 21) (lv' := [(6, (0, ((b : Nat) : Int))), (5, (0, (cntM h mk ld mo kk b))), (0, (2, ((193 : Nat) : Int))), (1, (0, (mk))), (2, (0, (ld))), (3, (0, (mo))), (4, (0, (kk)))]) (st' := [(0, ((5 : Nat) : Int)), (0, ((306 : Nat) : Int))]) (h' := h) (o231_11 hB) rfl ?_
        refine w_pl (pc' := 23) (lv' := [(6, (0, ((b : Nat) : Int))), (5, (0, (cntM h mk ld mo kk b))), (0, (2, ((193 : Nat) : Int))), (1, (0, (mk))), (2, (0, (ld))), (3, (0, (mo))), (4, (0, (kk)))]) (st' := [(0, ((b : Nat) : Int)), (0, ((5 : Nat) : Int)), (0, ((306 : Nat) : Int))]) (h' := h) (o231_12 hB) rfl ?_
        refine w_imul (z := (((5 * b) : Nat) : Int)) (pc' := 24) (o231_13 hB) rfl (w32_e (by omega) (by omega)) ?_
        refine w_iadd (z := (((306 + (5 * b)) : Nat) : Int)) (pc' := 25) (o231_14 hB) rfl (w32_e (by omega) (by omega)) ?_
        refine w_st (tg := 0) (j := 7) (len := 2) (pc' := 27) (lv' := [(7, (0, (((306 + (5 * b)) : Nat) : Int))), (6, (0, ((b : Nat) : Int))), (5, (0, (cntM h mk ld mo kk b))), (0, (2, ((193 : Nat) : Int))), (1, (0, (mk))), (2, (0, (ld))), (3, (0, (mo))), (4, (0, (kk)))]) (o231_15 hB) rfl rfl ml231 (by decide) rfl ?_
        refine w_pl (pc' := 29) (lv' := [(7, (0, (((306 + (5 * b)) : Nat) : Int))), (6, (0, ((b : Nat) : Int))), (5, (0, (cntM h mk ld mo kk b))), (0, (2, ((193 : Nat) : Int))), (1, (0, (mk))), (2, (0, (ld))), (3, (0, (mo))), (4, (0, (kk)))]) (st' := [(0, (cntM h mk ld mo kk b))]) (h' := h) (o231_16 hB) rfl ?_
        refine w_pl (pc' := 30) (lv' := [(7, (0, (((306 + (5 * b)) : Nat) : Int))), (6, (0, ((b : Nat) : Int))), (5, (0, (cntM h mk ld mo kk b))), (0, (2, ((193 : Nat) : Int))), (1, (0, (mk))), (2, (0, (ld))), (3, (0, (mo))), (4, (0, (kk)))]) (st' := [(2, ((193 : Nat) : Int)), (0, (cntM h mk ld mo kk b))]) (h' := h) (o231_17 hB) rfl ?_
        refine w_getf (A := 193) (t := 2) (z := ((194 : Nat) : Int)) (pc' := 33) (o231_18 hB) rfl (by decide +kernel) (hR (193, 0, 194) (by decide)) ?_
        refine w_pl (pc' := 35) (lv' := [(7, (0, (((306 + (5 * b)) : Nat) : Int))), (6, (0, ((b : Nat) : Int))), (5, (0, (cntM h mk ld mo kk b))), (0, (2, ((193 : Nat) : Int))), (1, (0, (mk))), (2, (0, (ld))), (3, (0, (mo))), (4, (0, (kk)))]) (st' := [(0, (((306 + (5 * b)) : Nat) : Int)), (2, ((194 : Nat) : Int)), (0, (cntM h mk ld mo kk b))]) (h' := h) (o231_19 hB) rfl ?_
        have f46 := cntM_r hT (mk := mk) (ld := ld) (mo := mo) (kk := kk) b (by omega)
        refine w_iald (A := 194) (i := (306 + (5 * b))) (n := 1984) (z := (h 194 (306 + (5 * b)))) (pc' := 36) (o231_20 hB) rfl (by decide +kernel) (by omega) rfl ?_
        refine w_pl (pc' := 37) (lv' := [(7, (0, (((306 + (5 * b)) : Nat) : Int))), (6, (0, ((b : Nat) : Int))), (5, (0, (cntM h mk ld mo kk b))), (0, (2, ((193 : Nat) : Int))), (1, (0, (mk))), (2, (0, (ld))), (3, (0, (mo))), (4, (0, (kk)))]) (st' := [(0, (mk)), (0, (h 194 (306 + (5 * b)))), (0, (cntM h mk ld mo kk b))]) (h' := h) (o231_21 hB) rfl ?_
        refine w_icmp (pt := 92) (pf := 40) (o231_22 hB) (by decide) rfl (fun e => ?_) (fun e => ?_)
        · have f47 : ((h 194 (306 + (5 * b))) ≠ (mk)) := e
          refine w_pl (pc' := 93) (lv' := [(7, (0, (((306 + (5 * b)) : Nat) : Int))), (6, (0, ((b : Nat) : Int))), (5, (0, (cntM h mk ld mo kk b))), (0, (2, ((193 : Nat) : Int))), (1, (0, (mk))), (2, (0, (ld))), (3, (0, (mo))), (4, (0, (kk)))]) (st' := [(0, ((0 : Nat) : Int)), (0, (cntM h mk ld mo kk b))]) (h' := h) (o231_54 hB) rfl ?_
          refine w_iadd (z := ((cntM h mk ld mo kk b) + ((0 : Nat) : Int))) (pc' := 94) (o231_55 hB) rfl (w32_e (by omega) (by omega)) ?_
          refine w_st (tg := 0) (j := 5) (len := 2) (pc' := 96) (lv' := [(5, (0, ((cntM h mk ld mo kk b) + ((0 : Nat) : Int)))), (7, (0, (((306 + (5 * b)) : Nat) : Int))), (6, (0, ((b : Nat) : Int))), (0, (2, ((193 : Nat) : Int))), (1, (0, (mk))), (2, (0, (ld))), (3, (0, (mo))), (4, (0, (kk)))]) (o231_56 hB) rfl rfl ml231 (by decide) rfl ?_
          refine w_iinc (x := ((b : Nat) : Int)) (z := (((b + 1) : Nat) : Int)) (pc' := 99) (lv' := [(6, (0, (((b + 1) : Nat) : Int))), (5, (0, ((cntM h mk ld mo kk b) + ((0 : Nat) : Int)))), (7, (0, (((306 + (5 * b)) : Nat) : Int))), (0, (2, ((193 : Nat) : Int))), (1, (0, (mk))), (2, (0, (ld))), (3, (0, (mo))), (4, (0, (kk)))]) (o231_57 hB) rfl rfl ml231 (by decide) (w32_e (by omega) (by omega)) rfl ?_
          refine w_goto (pt := 6) (o231_58 hB) (by decide) ?_
          refine w_sub (lv' := [(6, (0, (((b + 1) : Nat) : Int))), (5, (0, ((cntM h mk ld mo kk b) + ((0 : Nat) : Int)))), (0, (2, ((193 : Nat) : Int))), (1, (0, (mk))), (2, (0, (ld))), (3, (0, (mo))), (4, (0, (kk)))]) (List.Sublist.subset (.cons₂ _ (.cons₂ _ (.cons _ (.cons₂ _ (.cons₂ _ (.cons₂ _ (.cons₂ _ (.cons₂ _ .slnil))))))))) ?_
          have e1 : ((cntM h mk ld mo kk b) + ((0 : Nat) : Int)) = cntM h mk ld mo kk (b + 1) := by
            simp only [cntM]
            rw [if_neg (by omega)]; omega
          rw [e1]
          exact ih (b + 1) (by omega)
        · have f48 : ¬ ((h 194 (306 + (5 * b))) ≠ (mk)) := e
          refine w_pl (pc' := 41) (lv' := [(7, (0, (((306 + (5 * b)) : Nat) : Int))), (6, (0, ((b : Nat) : Int))), (5, (0, (cntM h mk ld mo kk b))), (0, (2, ((193 : Nat) : Int))), (1, (0, (mk))), (2, (0, (ld))), (3, (0, (mo))), (4, (0, (kk)))]) (st' := [(2, ((193 : Nat) : Int)), (0, (cntM h mk ld mo kk b))]) (h' := h) (o231_23 hB) rfl ?_
          refine w_getf (A := 193) (t := 2) (z := ((194 : Nat) : Int)) (pc' := 44) (o231_24 hB) rfl (by decide +kernel) (hR (193, 0, 194) (by decide)) ?_
          refine w_pl (pc' := 46) (lv' := [(7, (0, (((306 + (5 * b)) : Nat) : Int))), (6, (0, ((b : Nat) : Int))), (5, (0, (cntM h mk ld mo kk b))), (0, (2, ((193 : Nat) : Int))), (1, (0, (mk))), (2, (0, (ld))), (3, (0, (mo))), (4, (0, (kk)))]) (st' := [(0, (((306 + (5 * b)) : Nat) : Int)), (2, ((194 : Nat) : Int)), (0, (cntM h mk ld mo kk b))]) (h' := h) (o231_25 hB) rfl ?_
          refine w_pl (pc' := 47) (lv' := [(7, (0, (((306 + (5 * b)) : Nat) : Int))), (6, (0, ((b : Nat) : Int))), (5, (0, (cntM h mk ld mo kk b))), (0, (2, ((193 : Nat) : Int))), (1, (0, (mk))), (2, (0, (ld))), (3, (0, (mo))), (4, (0, (kk)))]) (st' := [(0, ((1 : Nat) : Int)), (0, (((306 + (5 * b)) : Nat) : Int)), (2, ((194 : Nat) : Int)), (0, (cntM h mk ld mo kk b))]) (h' := h) (o231_26 hB) rfl ?_
          refine w_iadd (z := ((((306 + (5 * b)) + 1) : Nat) : Int)) (pc' := 48) (o231_27 hB) rfl (w32_e (by omega) (by omega)) ?_
          have f49 := cntM_r hT (mk := mk) (ld := ld) (mo := mo) (kk := kk) b (by omega)
          refine w_iald (A := 194) (i := ((306 + (5 * b)) + 1)) (n := 1984) (z := (h 194 ((306 + (5 * b)) + 1))) (pc' := 49) (o231_28 hB) rfl (by decide +kernel) (by omega) rfl ?_
          refine w_pl (pc' := 50) (lv' := [(7, (0, (((306 + (5 * b)) : Nat) : Int))), (6, (0, ((b : Nat) : Int))), (5, (0, (cntM h mk ld mo kk b))), (0, (2, ((193 : Nat) : Int))), (1, (0, (mk))), (2, (0, (ld))), (3, (0, (mo))), (4, (0, (kk)))]) (st' := [(0, (ld)), (0, (h 194 ((306 + (5 * b)) + 1))), (0, (cntM h mk ld mo kk b))]) (h' := h) (o231_29 hB) rfl ?_
          refine w_icmp (pt := 92) (pf := 53) (o231_30 hB) (by decide) rfl (fun e => ?_) (fun e => ?_)
          · have f50 : ((h 194 ((306 + (5 * b)) + 1)) ≠ (ld)) := e
            refine w_pl (pc' := 93) (lv' := [(7, (0, (((306 + (5 * b)) : Nat) : Int))), (6, (0, ((b : Nat) : Int))), (5, (0, (cntM h mk ld mo kk b))), (0, (2, ((193 : Nat) : Int))), (1, (0, (mk))), (2, (0, (ld))), (3, (0, (mo))), (4, (0, (kk)))]) (st' := [(0, ((0 : Nat) : Int)), (0, (cntM h mk ld mo kk b))]) (h' := h) (o231_54 hB) rfl ?_
            refine w_iadd (z := ((cntM h mk ld mo kk b) + ((0 : Nat) : Int))) (pc' := 94) (o231_55 hB) rfl (w32_e (by omega) (by omega)) ?_
            refine w_st (tg := 0) (j := 5) (len := 2) (pc' := 96) (lv' := [(5, (0, ((cntM h mk ld mo kk b) + ((0 : Nat) : Int)))), (7, (0, (((306 + (5 * b)) : Nat) : Int))), (6, (0, ((b : Nat) : Int))), (0, (2, ((193 : Nat) : Int))), (1, (0, (mk))), (2, (0, (ld))), (3, (0, (mo))), (4, (0, (kk)))]) (o231_56 hB) rfl rfl ml231 (by decide) rfl ?_
            refine w_iinc (x := ((b : Nat) : Int)) (z := (((b + 1) : Nat) : Int)) (pc' := 99) (lv' := [(6, (0, (((b + 1) : Nat) : Int))), (5, (0, ((cntM h mk ld mo kk b) + ((0 : Nat) : Int)))), (7, (0, (((306 + (5 * b)) : Nat) : Int))), (0, (2, ((193 : Nat) : Int))), (1, (0, (mk))), (2, (0, (ld))), (3, (0, (mo))), (4, (0, (kk)))]) (o231_57 hB) rfl rfl ml231 (by decide) (w32_e (by omega) (by omega)) rfl ?_
            refine w_goto (pt := 6) (o231_58 hB) (by decide) ?_
            refine w_sub (lv' := [(6, (0, (((b + 1) : Nat) : Int))), (5, (0, ((cntM h mk ld mo kk b) + ((0 : Nat) : Int)))), (0, (2, ((193 : Nat) : Int))), (1, (0, (mk))), (2, (0, (ld))), (3, (0, (mo))), (4, (0, (kk)))]) (List.Sublist.subset (.cons₂ _ (.cons₂ _ (.cons _ (.cons₂ _ (.cons₂ _ (.cons₂ _ (.cons₂ _ (.cons₂ _ .slnil))))))))) ?_
            have e1 : ((cntM h mk ld mo kk b) + ((0 : Nat) : Int)) = cntM h mk ld mo kk (b + 1) := by
              simp only [cntM]
              rw [if_neg (by omega)]; omega
            rw [e1]
            exact ih (b + 1) (by omega)
          · have f51 : ¬ ((h 194 ((306 + (5 * b)) + 1)) ≠ (ld)) := e
            refine w_pl (pc' := 54) (lv' := [(7, (0, (((306 + (5 * b)) : Nat) : Int))), (6, (0, ((b : Nat) : Int))), (5, (0, (cntM h mk ld mo kk b))), (0, (2, ((193 : Nat) : Int))), (1, (0, (mk))), (2, (0, (ld))), (3, (0, (mo))), (4, (0, (kk)))]) (st' := [(2, ((193 : Nat) : Int)), (0, (cntM h mk ld mo kk b))]) (h' := h) (o231_31 hB) rfl ?_
            refine w_getf (A := 193) (t := 2) (z := ((194 : Nat) : Int)) (pc' := 57) (o231_32 hB) rfl (by decide +kernel) (hR (193, 0, 194) (by decide)) ?_
            refine w_pl (pc' := 59) (lv' := [(7, (0, (((306 + (5 * b)) : Nat) : Int))), (6, (0, ((b : Nat) : Int))), (5, (0, (cntM h mk ld mo kk b))), (0, (2, ((193 : Nat) : Int))), (1, (0, (mk))), (2, (0, (ld))), (3, (0, (mo))), (4, (0, (kk)))]) (st' := [(0, (((306 + (5 * b)) : Nat) : Int)), (2, ((194 : Nat) : Int)), (0, (cntM h mk ld mo kk b))]) (h' := h) (o231_33 hB) rfl ?_
            refine w_pl (pc' := 60) (lv' := [(7, (0, (((306 + (5 * b)) : Nat) : Int))), (6, (0, ((b : Nat) : Int))), (5, (0, (cntM h mk ld mo kk b))), (0, (2, ((193 : Nat) : Int))), (1, (0, (mk))), (2, (0, (ld))), (3, (0, (mo))), (4, (0, (kk)))]) (st' := [(0, ((2 : Nat) : Int)), (0, (((306 + (5 * b)) : Nat) : Int)), (2, ((194 : Nat) : Int)), (0, (cntM h mk ld mo kk b))]) (h' := h) (o231_34 hB) rfl ?_
            refine w_iadd (z := ((((306 + (5 * b)) + 2) : Nat) : Int)) (pc' := 61) (o231_35 hB) rfl (w32_e (by omega) (by omega)) ?_
            have f52 := cntM_r hT (mk := mk) (ld := ld) (mo := mo) (kk := kk) b (by omega)
            refine w_iald (A := 194) (i := ((306 + (5 * b)) + 2)) (n := 1984) (z := (h 194 ((306 + (5 * b)) + 2))) (pc' := 62) (o231_36 hB) rfl (by decide +kernel) (by omega) rfl ?_
            refine w_pl (pc' := 63) (lv' := [(7, (0, (((306 + (5 * b)) : Nat) : Int))), (6, (0, ((b : Nat) : Int))), (5, (0, (cntM h mk ld mo kk b))), (0, (2, ((193 : Nat) : Int))), (1, (0, (mk))), (2, (0, (ld))), (3, (0, (mo))), (4, (0, (kk)))]) (st' := [(0, (mo)), (0, (h 194 ((306 + (5 * b)) + 2))), (0, (cntM h mk ld mo kk b))]) (h' := h) (o231_37 hB) rfl ?_
            refine w_icmp (pt := 92) (pf := 66) (o231_38 hB) (by decide) rfl (fun e => ?_) (fun e => ?_)
            · have f53 : ((h 194 ((306 + (5 * b)) + 2)) ≠ (mo)) := e
              refine w_pl (pc' := 93) (lv' := [(7, (0, (((306 + (5 * b)) : Nat) : Int))), (6, (0, ((b : Nat) : Int))), (5, (0, (cntM h mk ld mo kk b))), (0, (2, ((193 : Nat) : Int))), (1, (0, (mk))), (2, (0, (ld))), (3, (0, (mo))), (4, (0, (kk)))]) (st' := [(0, ((0 : Nat) : Int)), (0, (cntM h mk ld mo kk b))]) (h' := h) (o231_54 hB) rfl ?_
              refine w_iadd (z := ((cntM h mk ld mo kk b) + ((0 : Nat) : Int))) (pc' := 94) (o231_55 hB) rfl (w32_e (by omega) (by omega)) ?_
              refine w_st (tg := 0) (j := 5) (len := 2) (pc' := 96) (lv' := [(5, (0, ((cntM h mk ld mo kk b) + ((0 : Nat) : Int)))), (7, (0, (((306 + (5 * b)) : Nat) : Int))), (6, (0, ((b : Nat) : Int))), (0, (2, ((193 : Nat) : Int))), (1, (0, (mk))), (2, (0, (ld))), (3, (0, (mo))), (4, (0, (kk)))]) (o231_56 hB) rfl rfl ml231 (by decide) rfl ?_
              refine w_iinc (x := ((b : Nat) : Int)) (z := (((b + 1) : Nat) : Int)) (pc' := 99) (lv' := [(6, (0, (((b + 1) : Nat) : Int))), (5, (0, ((cntM h mk ld mo kk b) + ((0 : Nat) : Int)))), (7, (0, (((306 + (5 * b)) : Nat) : Int))), (0, (2, ((193 : Nat) : Int))), (1, (0, (mk))), (2, (0, (ld))), (3, (0, (mo))), (4, (0, (kk)))]) (o231_57 hB) rfl rfl ml231 (by decide) (w32_e (by omega) (by omega)) rfl ?_
              refine w_goto (pt := 6) (o231_58 hB) (by decide) ?_
              refine w_sub (lv' := [(6, (0, (((b + 1) : Nat) : Int))), (5, (0, ((cntM h mk ld mo kk b) + ((0 : Nat) : Int)))), (0, (2, ((193 : Nat) : Int))), (1, (0, (mk))), (2, (0, (ld))), (3, (0, (mo))), (4, (0, (kk)))]) (List.Sublist.subset (.cons₂ _ (.cons₂ _ (.cons _ (.cons₂ _ (.cons₂ _ (.cons₂ _ (.cons₂ _ (.cons₂ _ .slnil))))))))) ?_
              have e1 : ((cntM h mk ld mo kk b) + ((0 : Nat) : Int)) = cntM h mk ld mo kk (b + 1) := by
                simp only [cntM]
                rw [if_neg (by omega)]; omega
              rw [e1]
              exact ih (b + 1) (by omega)
            · have f54 : ¬ ((h 194 ((306 + (5 * b)) + 2)) ≠ (mo)) := e
              refine w_pl (pc' := 67) (lv' := [(7, (0, (((306 + (5 * b)) : Nat) : Int))), (6, (0, ((b : Nat) : Int))), (5, (0, (cntM h mk ld mo kk b))), (0, (2, ((193 : Nat) : Int))), (1, (0, (mk))), (2, (0, (ld))), (3, (0, (mo))), (4, (0, (kk)))]) (st' := [(2, ((193 : Nat) : Int)), (0, (cntM h mk ld mo kk b))]) (h' := h) (o231_39 hB) rfl ?_
              refine w_getf (A := 193) (t := 2) (z := ((194 : Nat) : Int)) (pc' := 70) (o231_40 hB) rfl (by decide +kernel) (hR (193, 0, 194) (by decide)) ?_
              refine w_pl (pc' := 72) (lv' := [(7, (0, (((306 + (5 * b)) : Nat) : Int))), (6, (0, ((b : Nat) : Int))), (5, (0, (cntM h mk ld mo kk b))), (0, (2, ((193 : Nat) : Int))), (1, (0, (mk))), (2, (0, (ld))), (3, (0, (mo))), (4, (0, (kk)))]) (st' := [(0, (((306 + (5 * b)) : Nat) : Int)), (2, ((194 : Nat) : Int)), (0, (cntM h mk ld mo kk b))]) (h' := h) (o231_41 hB) rfl ?_
              refine w_pl (pc' := 73) (lv' := [(7, (0, (((306 + (5 * b)) : Nat) : Int))), (6, (0, ((b : Nat) : Int))), (5, (0, (cntM h mk ld mo kk b))), (0, (2, ((193 : Nat) : Int))), (1, (0, (mk))), (2, (0, (ld))), (3, (0, (mo))), (4, (0, (kk)))]) (st' := [(0, ((4 : Nat) : Int)), (0, (((306 + (5 * b)) : Nat) : Int)), (2, ((194 : Nat) : Int)), (0, (cntM h mk ld mo kk b))]) (h' := h) (o231_42 hB) rfl ?_
              refine w_iadd (z := ((((306 + (5 * b)) + 4) : Nat) : Int)) (pc' := 74) (o231_43 hB) rfl (w32_e (by omega) (by omega)) ?_
              have f55 := cntM_r hT (mk := mk) (ld := ld) (mo := mo) (kk := kk) b (by omega)
              refine w_iald (A := 194) (i := ((306 + (5 * b)) + 4)) (n := 1984) (z := (h 194 ((306 + (5 * b)) + 4))) (pc' := 75) (o231_44 hB) rfl (by decide +kernel) (by omega) rfl ?_
              refine w_pl (pc' := 77) (lv' := [(7, (0, (((306 + (5 * b)) : Nat) : Int))), (6, (0, ((b : Nat) : Int))), (5, (0, (cntM h mk ld mo kk b))), (0, (2, ((193 : Nat) : Int))), (1, (0, (mk))), (2, (0, (ld))), (3, (0, (mo))), (4, (0, (kk)))]) (st' := [(0, (kk)), (0, (h 194 ((306 + (5 * b)) + 4))), (0, (cntM h mk ld mo kk b))]) (h' := h) (o231_45 hB) rfl ?_
              refine w_icmp (pt := 92) (pf := 80) (o231_46 hB) (by decide) rfl (fun e => ?_) (fun e => ?_)
              · have f56 : ((kk) < (h 194 ((306 + (5 * b)) + 4))) := e
                refine w_pl (pc' := 93) (lv' := [(7, (0, (((306 + (5 * b)) : Nat) : Int))), (6, (0, ((b : Nat) : Int))), (5, (0, (cntM h mk ld mo kk b))), (0, (2, ((193 : Nat) : Int))), (1, (0, (mk))), (2, (0, (ld))), (3, (0, (mo))), (4, (0, (kk)))]) (st' := [(0, ((0 : Nat) : Int)), (0, (cntM h mk ld mo kk b))]) (h' := h) (o231_54 hB) rfl ?_
                refine w_iadd (z := ((cntM h mk ld mo kk b) + ((0 : Nat) : Int))) (pc' := 94) (o231_55 hB) rfl (w32_e (by omega) (by omega)) ?_
                refine w_st (tg := 0) (j := 5) (len := 2) (pc' := 96) (lv' := [(5, (0, ((cntM h mk ld mo kk b) + ((0 : Nat) : Int)))), (7, (0, (((306 + (5 * b)) : Nat) : Int))), (6, (0, ((b : Nat) : Int))), (0, (2, ((193 : Nat) : Int))), (1, (0, (mk))), (2, (0, (ld))), (3, (0, (mo))), (4, (0, (kk)))]) (o231_56 hB) rfl rfl ml231 (by decide) rfl ?_
                refine w_iinc (x := ((b : Nat) : Int)) (z := (((b + 1) : Nat) : Int)) (pc' := 99) (lv' := [(6, (0, (((b + 1) : Nat) : Int))), (5, (0, ((cntM h mk ld mo kk b) + ((0 : Nat) : Int)))), (7, (0, (((306 + (5 * b)) : Nat) : Int))), (0, (2, ((193 : Nat) : Int))), (1, (0, (mk))), (2, (0, (ld))), (3, (0, (mo))), (4, (0, (kk)))]) (o231_57 hB) rfl rfl ml231 (by decide) (w32_e (by omega) (by omega)) rfl ?_
                refine w_goto (pt := 6) (o231_58 hB) (by decide) ?_
                refine w_sub (lv' := [(6, (0, (((b + 1) : Nat) : Int))), (5, (0, ((cntM h mk ld mo kk b) + ((0 : Nat) : Int)))), (0, (2, ((193 : Nat) : Int))), (1, (0, (mk))), (2, (0, (ld))), (3, (0, (mo))), (4, (0, (kk)))]) (List.Sublist.subset (.cons₂ _ (.cons₂ _ (.cons _ (.cons₂ _ (.cons₂ _ (.cons₂ _ (.cons₂ _ (.cons₂ _ .slnil))))))))) ?_
                have e1 : ((cntM h mk ld mo kk b) + ((0 : Nat) : Int)) = cntM h mk ld mo kk (b + 1) := by
                  simp only [cntM]
                  rw [if_neg (by omega)]; omega
                rw [e1]
                exact ih (b + 1) (by omega)
              · have f57 : ¬ ((kk) < (h 194 ((306 + (5 * b)) + 4))) := e
                refine w_pl (pc' := 81) (lv' := [(7, (0, (((306 + (5 * b)) : Nat) : Int))), (6, (0, ((b : Nat) : Int))), (5, (0, (cntM h mk ld mo kk b))), (0, (2, ((193 : Nat) : Int))), (1, (0, (mk))), (2, (0, (ld))), (3, (0, (mo))), (4, (0, (kk)))]) (st' := [(2, ((193 : Nat) : Int)), (0, (cntM h mk ld mo kk b))]) (h' := h) (o231_47 hB) rfl ?_
                refine w_getf (A := 193) (t := 2) (z := ((194 : Nat) : Int)) (pc' := 84) (o231_48 hB) rfl (by decide +kernel) (hR (193, 0, 194) (by decide)) ?_
                refine w_pl (pc' := 86) (lv' := [(7, (0, (((306 + (5 * b)) : Nat) : Int))), (6, (0, ((b : Nat) : Int))), (5, (0, (cntM h mk ld mo kk b))), (0, (2, ((193 : Nat) : Int))), (1, (0, (mk))), (2, (0, (ld))), (3, (0, (mo))), (4, (0, (kk)))]) (st' := [(0, (((306 + (5 * b)) : Nat) : Int)), (2, ((194 : Nat) : Int)), (0, (cntM h mk ld mo kk b))]) (h' := h) (o231_49 hB) rfl ?_
                refine w_pl (pc' := 87) (lv' := [(7, (0, (((306 + (5 * b)) : Nat) : Int))), (6, (0, ((b : Nat) : Int))), (5, (0, (cntM h mk ld mo kk b))), (0, (2, ((193 : Nat) : Int))), (1, (0, (mk))), (2, (0, (ld))), (3, (0, (mo))), (4, (0, (kk)))]) (st' := [(0, ((3 : Nat) : Int)), (0, (((306 + (5 * b)) : Nat) : Int)), (2, ((194 : Nat) : Int)), (0, (cntM h mk ld mo kk b))]) (h' := h) (o231_50 hB) rfl ?_
                refine w_iadd (z := ((((306 + (5 * b)) + 3) : Nat) : Int)) (pc' := 88) (o231_51 hB) rfl (w32_e (by omega) (by omega)) ?_
                have f58 := And.intro (hT b (by omega)) (cntM_r hT (mk := mk) (ld := ld) (mo := mo) (kk := kk) b (by omega))
                refine w_iald (A := 194) (i := ((306 + (5 * b)) + 3)) (n := 1984) (z := (h 194 ((306 + (5 * b)) + 3))) (pc' := 89) (o231_52 hB) rfl (by decide +kernel) (by omega) rfl ?_
                refine w_goto (pt := 93) (o231_53 hB) (by decide) ?_
                refine w_iadd (z := ((cntM h mk ld mo kk b) + (h 194 ((306 + (5 * b)) + 3)))) (pc' := 94) (o231_55 hB) rfl (w32_e (by omega) (by omega)) ?_
                refine w_st (tg := 0) (j := 5) (len := 2) (pc' := 96) (lv' := [(5, (0, ((cntM h mk ld mo kk b) + (h 194 ((306 + (5 * b)) + 3))))), (7, (0, (((306 + (5 * b)) : Nat) : Int))), (6, (0, ((b : Nat) : Int))), (0, (2, ((193 : Nat) : Int))), (1, (0, (mk))), (2, (0, (ld))), (3, (0, (mo))), (4, (0, (kk)))]) (o231_56 hB) rfl rfl ml231 (by decide) rfl ?_
                refine w_iinc (x := ((b : Nat) : Int)) (z := (((b + 1) : Nat) : Int)) (pc' := 99) (lv' := [(6, (0, (((b + 1) : Nat) : Int))), (5, (0, ((cntM h mk ld mo kk b) + (h 194 ((306 + (5 * b)) + 3))))), (7, (0, (((306 + (5 * b)) : Nat) : Int))), (0, (2, ((193 : Nat) : Int))), (1, (0, (mk))), (2, (0, (ld))), (3, (0, (mo))), (4, (0, (kk)))]) (o231_57 hB) rfl rfl ml231 (by decide) (w32_e (by omega) (by omega)) rfl ?_
                refine w_goto (pt := 6) (o231_58 hB) (by decide) ?_
                refine w_sub (lv' := [(6, (0, (((b + 1) : Nat) : Int))), (5, (0, ((cntM h mk ld mo kk b) + (h 194 ((306 + (5 * b)) + 3))))), (0, (2, ((193 : Nat) : Int))), (1, (0, (mk))), (2, (0, (ld))), (3, (0, (mo))), (4, (0, (kk)))]) (List.Sublist.subset (.cons₂ _ (.cons₂ _ (.cons _ (.cons₂ _ (.cons₂ _ (.cons₂ _ (.cons₂ _ (.cons₂ _ .slnil))))))))) ?_
                have e1 : ((cntM h mk ld mo kk b) + (h 194 ((306 + (5 * b)) + 3))) = cntM h mk ld mo kk (b + 1) := by
                  simp only [cntM]
                  rw [if_pos ⟨by omega, by omega, by omega, by omega⟩]
                rw [e1]
                exact ih (b + 1) (by omega)
  refine mh_go hB mg231 ml231 (Nat.le_of_ble_eq_true rfl) ?_
  show HW g l d 231 _ _ 0 [(0, (2, ((193 : Nat) : Int))), (1, (0, (mk))), (2, (0, (ld))), (3, (0, (mo))), (4, (0, (kk)))] [] h
  refine w_pl (pc' := 1) (lv' := [(0, (2, ((193 : Nat) : Int))), (1, (0, (mk))), (2, (0, (ld))), (3, (0, (mo))), (4, (0, (kk)))]) (st' := [(0, ((0 : Nat) : Int))]) (h' := h) (o231_0 hB) rfl ?_
  refine w_st (tg := 0) (j := 5) (len := 2) (pc' := 3) (lv' := [(5, (0, ((0 : Nat) : Int))), (0, (2, ((193 : Nat) : Int))), (1, (0, (mk))), (2, (0, (ld))), (3, (0, (mo))), (4, (0, (kk)))]) (o231_1 hB) rfl rfl ml231 (by decide) rfl ?_
  refine w_pl (pc' := 4) (lv' := [(5, (0, ((0 : Nat) : Int))), (0, (2, ((193 : Nat) : Int))), (1, (0, (mk))), (2, (0, (ld))), (3, (0, (mo))), (4, (0, (kk)))]) (st' := [(0, ((0 : Nat) : Int))]) (h' := h) (o231_2 hB) rfl ?_
  refine w_st (tg := 0) (j := 6) (len := 2) (pc' := 6) (lv' := [(6, (0, ((0 : Nat) : Int))), (5, (0, ((0 : Nat) : Int))), (0, (2, ((193 : Nat) : Int))), (1, (0, (mk))), (2, (0, (ld))), (3, (0, (mo))), (4, (0, (kk)))]) (o231_3 hB) rfl rfl ml231 (by decide) rfl ?_
  refine w_sub (lv' := [(6, (0, ((0 : Nat) : Int))), (5, (0, ((0 : Nat) : Int))), (0, (2, ((193 : Nat) : Int))), (1, (0, (mk))), (2, (0, (ld))), (3, (0, (mo))), (4, (0, (kk)))]) (List.Sublist.subset (.cons₂ _ (.cons₂ _ (.cons₂ _ (.cons₂ _ (.cons₂ _ (.cons₂ _ (.cons₂ _ .slnil)))))))) ?_
  exact loop c 0 (by omega)
