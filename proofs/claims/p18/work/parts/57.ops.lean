/-! RANGES OF PLACES, AS THEY ARE ASKED FOR -/
theorem ty_2_c0 {h : bH} (ht : TH h) : (0) ≤ h 2 0 ∧ h 2 0 ≤ 239 := ht.c (by decide +kernel)
theorem ty_194_c0 {h : bH} (ht : TH h) : (0) ≤ h 194 0 ∧ h 194 0 ≤ 239 := ht.c (by decide +kernel)
theorem ty_18_s0 {h : bH} (ht : TH h) {j r : Nat} (e : j = 0 + 1 * r) (hr : r < 24) : (0) ≤ h 18 j ∧ h 18 j ≤ 2147483647 := by
  subst e
  exact ht.s2 (s := 0) (st := 1) (n := 24) (by decide +kernel) hr
theorem ty_19_s0 {h : bH} (ht : TH h) {j r : Nat} (e : j = 0 + 1 * r) (hr : r < 24) : (0) ≤ h 19 j ∧ h 19 j ≤ 999 := by
  subst e
  exact ht.s2 (s := 0) (st := 1) (n := 24) (by decide +kernel) hr
theorem ty_20_s0 {h : bH} (ht : TH h) {j r : Nat} (e : j = 0 + 1 * r) (hr : r < 24) : (0) ≤ h 20 j ∧ h 20 j ≤ 239 := by
  subst e
  exact ht.s2 (s := 0) (st := 1) (n := 24) (by decide +kernel) hr
theorem ty_194_s306 {h : bH} (ht : TH h) {j r : Nat} (e : j = 306 + 5 * r) (hr : r < 24) : (0) ≤ h 194 j ∧ h 194 j ≤ 999 := by
  subst e
  exact ht.s2 (s := 306) (st := 5) (n := 24) (by decide +kernel) hr
theorem ty_194_s307 {h : bH} (ht : TH h) {j r : Nat} (e : j = 307 + 5 * r) (hr : r < 24) : (0) ≤ h 194 j ∧ h 194 j ≤ 999 := by
  subst e
  exact ht.s2 (s := 307) (st := 5) (n := 24) (by decide +kernel) hr
theorem ty_194_s308 {h : bH} (ht : TH h) {j r : Nat} (e : j = 308 + 5 * r) (hr : r < 24) : (0) ≤ h 194 j ∧ h 194 j ≤ 999 := by
  subst e
  exact ht.s2 (s := 308) (st := 5) (n := 24) (by decide +kernel) hr
theorem ty_194_s309 {h : bH} (ht : TH h) {j r : Nat} (e : j = 309 + 5 * r) (hr : r < 24) : (0) ≤ h 194 j ∧ h 194 j ≤ 999 := by
  subst e
  exact ht.s2 (s := 309) (st := 5) (n := 24) (by decide +kernel) hr
theorem ty_194_s310 {h : bH} (ht : TH h) {j r : Nat} (e : j = 310 + 5 * r) (hr : r < 24) : (0) ≤ h 194 j ∧ h 194 j ≤ 999 := by
  subst e
  exact ht.s2 (s := 310) (st := 5) (n := 24) (by decide +kernel) hr
theorem ty_0_c2 {h : bH} (ht : TH h) : (0) ≤ h 0 2 ∧ h 0 2 ≤ 1 := ht.c (by decide +kernel)
theorem m_in (hB : BytesOK) {g : bG} {l : Launch} {d : Nat} {Q : bQ} {h : bH} {x lo hi : Int} (h1 : lo ≤ x ∧ x ≤ hi → Q (some (0, 1)) h) (h0 : ¬ (lo ≤ x ∧ x ≤ hi) → Q (some (0, 0)) h) : MH g l d 184 212 212 [(0, x), (0, lo), (0, hi)] h Q := by
  refine mh_go hB mg184 ml184 (Nat.le_of_ble_eq_true rfl) ?_
  show HW g l d 184 _ _ 0 [(0, (0, (x))), (1, (0, (lo))), (2, (0, (hi)))] [] h
  refine w_pl (pc' := 1) (lv' := [(0, (0, (x))), (1, (0, (lo))), (2, (0, (hi)))]) (st' := [(0, (x))]) (h' := h) (o184_0 hB) rfl ?_
  refine w_pl (pc' := 2) (lv' := [(0, (0, (x))), (1, (0, (lo))), (2, (0, (hi)))]) (st' := [(0, (lo)), (0, (x))]) (h' := h) (o184_1 hB) rfl ?_
  refine w_icmp (pt := 14) (pf := 5) (o184_2 hB) (by decide) rfl (fun e => ?_) (fun e => ?_)
  · have f1 : ((x) < (lo)) := e
    refine w_pl (pc' := 15) (lv' := [(0, (0, (x))), (1, (0, (lo))), (2, (0, (hi)))]) (st' := [(0, ((0 : Nat) : Int))]) (h' := h) (o184_8 hB) rfl ?_
    exact w_zret (o184_9 hB) mr184 (by decide) (h0 (by omega))
  · have f2 : ¬ ((x) < (lo)) := e
    refine w_pl (pc' := 6) (lv' := [(0, (0, (x))), (1, (0, (lo))), (2, (0, (hi)))]) (st' := [(0, (x))]) (h' := h) (o184_3 hB) rfl ?_
    refine w_pl (pc' := 7) (lv' := [(0, (0, (x))), (1, (0, (lo))), (2, (0, (hi)))]) (st' := [(0, (hi)), (0, (x))]) (h' := h) (o184_4 hB) rfl ?_
    refine w_icmp (pt := 14) (pf := 10) (o184_5 hB) (by decide) rfl (fun e => ?_) (fun e => ?_)
    · have f3 : ((hi) < (x)) := e
      refine w_pl (pc' := 15) (lv' := [(0, (0, (x))), (1, (0, (lo))), (2, (0, (hi)))]) (st' := [(0, ((0 : Nat) : Int))]) (h' := h) (o184_8 hB) rfl ?_
      exact w_zret (o184_9 hB) mr184 (by decide) (h0 (by omega))
    · have f4 : ¬ ((hi) < (x)) := e
      refine w_pl (pc' := 11) (lv' := [(0, (0, (x))), (1, (0, (lo))), (2, (0, (hi)))]) (st' := [(0, ((1 : Nat) : Int))]) (h' := h) (o184_6 hB) rfl ?_
      refine w_goto (pt := 15) (o184_7 hB) (by decide) ?_
      exact w_zret (o184_9 hB) mr184 (by decide) (h1 (by omega))
theorem m_isMonthM (hB : BytesOK) {g : bG} {l : Launch} {d : Nat} {Q : bQ} {h : bH} {x : Int} (h1 : 0 ≤ x ∧ x ≤ 239 → Q (some (0, 1)) h) (h0 : ¬ (0 ≤ x ∧ x ≤ 239) → Q (some (0, 0)) h) : MH g l (d + 1) 185 212 212 [(0, x)] h Q := by
  refine mh_go hB mg185 ml185 (Nat.le_of_ble_eq_true rfl) ?_
  show HW g l (d + 1) 185 _ _ 0 [(0, (0, (x)))] [] h
  refine w_pl (pc' := 1) (lv' := [(0, (0, (x)))]) (st' := [(0, (x))]) (h' := h) (o185_0 hB) rfl ?_
  refine w_pl (pc' := 2) (lv' := [(0, (0, (x)))]) (st' := [(0, ((0 : Nat) : Int)), (0, (x))]) (h' := h) (o185_1 hB) rfl ?_
  refine w_pl (pc' := 5) (lv' := [(0, (0, (x)))]) (st' := [(0, ((239 : Nat) : Int)), (0, ((0 : Nat) : Int)), (0, (x))]) (h' := h) (o185_2 hB) rfl ?_
  refine w_callS (as := [(0, (x)), (0, ((0 : Nat) : Int)), (0, ((239 : Nat) : Int))]) (rest := []) (n := 3) (pc' := 8) hB (o185_3 hB) rfl (by decide +kernel) rfl rfl (Nat.le_of_ble_eq_true rfl) (m_in hB (fun f5 => ?_) (fun f6 => ?_))
  · show HW g l _ 185 _ _ 8 [(0, (0, (x)))] [(0, ((1 : Nat) : Int))] h
    exact w_zret (o185_4 hB) mr185 (by decide) (h1 (by omega))
  · show HW g l _ 185 _ _ 8 [(0, (0, (x)))] [(0, ((0 : Nat) : Int))] h
    exact w_zret (o185_4 hB) mr185 (by decide) (h0 (by omega))
theorem m_isMonthB (hB : BytesOK) {g : bG} {l : Launch} {d : Nat} {Q : bQ} {h : bH} {x : Int} (h1 : 0 ≤ x ∧ x ≤ 239 → Q (some (0, 1)) h) (h0 : ¬ (0 ≤ x ∧ x ≤ 239) → Q (some (0, 0)) h) : MH g l d 171 212 212 [(0, x)] h Q := by
  refine mh_go hB mg171 ml171 (Nat.le_of_ble_eq_true rfl) ?_
  show HW g l d 171 _ _ 0 [(0, (0, (x)))] [] h
  refine w_pl (pc' := 1) (lv' := [(0, (0, (x)))]) (st' := [(0, (x))]) (h' := h) (o171_0 hB) rfl ?_
  refine w_ifc (pt := 15) (pf := 4) (o171_1 hB) (by decide) rfl (fun e => ?_) (fun e => ?_)
  · have f7 : ((x) < (0)) := e
    refine w_pl (pc' := 16) (lv' := [(0, (0, (x)))]) (st' := [(0, ((0 : Nat) : Int))]) (h' := h) (o171_7 hB) rfl ?_
    exact w_zret (o171_8 hB) mr171 (by decide) (h0 (by omega))
  · have f8 : ¬ ((x) < (0)) := e
    refine w_pl (pc' := 5) (lv' := [(0, (0, (x)))]) (st' := [(0, (x))]) (h' := h) (o171_2 hB) rfl ?_
    refine w_pl (pc' := 8) (lv' := [(0, (0, (x)))]) (st' := [(0, ((240 : Nat) : Int)), (0, (x))]) (h' := h) (o171_3 hB) rfl ?_
    refine w_icmp (pt := 15) (pf := 11) (o171_4 hB) (by decide) rfl (fun e => ?_) (fun e => ?_)
    · have f9 : (((240 : Nat) : Int) ≤ (x)) := e
      refine w_pl (pc' := 16) (lv' := [(0, (0, (x)))]) (st' := [(0, ((0 : Nat) : Int))]) (h' := h) (o171_7 hB) rfl ?_
      exact w_zret (o171_8 hB) mr171 (by decide) (h0 (by omega))
    · have f10 : ¬ (((240 : Nat) : Int) ≤ (x)) := e
      refine w_pl (pc' := 12) (lv' := [(0, (0, (x)))]) (st' := [(0, ((1 : Nat) : Int))]) (h' := h) (o171_5 hB) rfl ?_
      refine w_goto (pt := 16) (o171_6 hB) (by decide) ?_
      exact w_zret (o171_8 hB) mr171 (by decide) (h1 (by omega))
theorem m_isWhereM (hB : BytesOK) {g : bG} {l : Launch} {d : Nat} {Q : bQ} {h : bH} {x : Int} (z_x : in32 x) (h1 : 0 ≤ x ∧ x / 10000 < 6 ∧ x / 1000 % 10 < 4 ∧ x % 1000 < 240 → Q (some (0, 1)) h) (h0 : ¬ (0 ≤ x ∧ x / 10000 < 6 ∧ x / 1000 % 10 < 4 ∧ x % 1000 < 240) → Q (some (0, 0)) h) : MH g l (d + 1 + 1) 229 212 212 [(0, x)] h Q := by
  have z0_x := z_x
  unfold in32 at z0_x
  refine mh_go hB mg229 ml229 (Nat.le_of_ble_eq_true rfl) ?_
  show HW g l (d + 1 + 1) 229 _ _ 0 [(0, (0, (x)))] [] h
  refine w_pl (pc' := 1) (lv' := [(0, (0, (x)))]) (st' := [(0, (x))]) (h' := h) (o229_0 hB) rfl ?_
  refine w_pl (pc' := 2) (lv' := [(0, (0, (x)))]) (st' := [(0, ((0 : Nat) : Int)), (0, (x))]) (h' := h) (o229_1 hB) rfl ?_
  refine w_pl (pc' := 4) (lv' := [(0, (0, (x)))]) (st' := [(0, ((53239 : Nat) : Int)), (0, ((0 : Nat) : Int)), (0, (x))]) (h' := h) (o229_2 hB) rfl ?_
  refine w_callS (as := [(0, (x)), (0, ((0 : Nat) : Int)), (0, ((53239 : Nat) : Int))]) (rest := []) (n := 3) (pc' := 7) hB (o229_3 hB) rfl (by decide +kernel) rfl rfl (Nat.le_of_ble_eq_true rfl) (m_in hB (fun f11 => ?_) (fun f12 => ?_))
  · show HW g l _ 229 _ _ 7 [(0, (0, (x)))] [(0, ((1 : Nat) : Int))] h
    refine w_ifc (pt := 37) (pf := 10) (o229_4 hB) (by decide) rfl (fun e => ?_) (fun e => ?_)
    · have f13 : (((1 : Nat) : Int) = (0)) := e
      exfalso; omega
    · have f14 : ¬ (((1 : Nat) : Int) = (0)) := e
      refine w_pl (pc' := 11) (lv' := [(0, (0, (x)))]) (st' := [(0, (x))]) (h' := h) (o229_5 hB) rfl ?_
      refine w_pl (pc' := 14) (lv' := [(0, (0, (x)))]) (st' := [(0, ((1000 : Nat) : Int)), (0, (x))]) (h' := h) (o229_6 hB) rfl ?_
      refine w_idiv (z := ((x) / 1000)) (pc' := 15) (o229_7 hB) rfl (divI_p (by omega) (by omega) (by decide)) ?_
      refine w_pl (pc' := 17) (lv' := [(0, (0, (x)))]) (st' := [(0, ((10 : Nat) : Int)), (0, ((x) / 1000))]) (h' := h) (o229_8 hB) rfl ?_
      refine w_irem (z := (((x) / 1000) % 10)) (pc' := 18) (o229_9 hB) rfl (remI_p (by omega) (by decide)) ?_
      refine w_pl (pc' := 19) (lv' := [(0, (0, (x)))]) (st' := [(0, ((4 : Nat) : Int)), (0, (((x) / 1000) % 10))]) (h' := h) (o229_10 hB) rfl ?_
      refine w_icmp (pt := 37) (pf := 22) (o229_11 hB) (by decide) rfl (fun e => ?_) (fun e => ?_)
      · have f15 : (((4 : Nat) : Int) ≤ (((x) / 1000) % 10)) := e
        refine w_pl (pc' := 38) (lv' := [(0, (0, (x)))]) (st' := [(0, ((0 : Nat) : Int))]) (h' := h) (o229_19 hB) rfl ?_
        exact w_zret (o229_20 hB) mr229 (by decide) (h0 (by omega))
      · have f16 : ¬ (((4 : Nat) : Int) ≤ (((x) / 1000) % 10)) := e
        refine w_pl (pc' := 23) (lv' := [(0, (0, (x)))]) (st' := [(0, (x))]) (h' := h) (o229_12 hB) rfl ?_
        refine w_pl (pc' := 26) (lv' := [(0, (0, (x)))]) (st' := [(0, ((1000 : Nat) : Int)), (0, (x))]) (h' := h) (o229_13 hB) rfl ?_
        refine w_irem (z := ((x) % 1000)) (pc' := 27) (o229_14 hB) rfl (remI_p (by omega) (by decide)) ?_
        refine w_callS (as := [(0, ((x) % 1000))]) (rest := []) (n := 1) (pc' := 30) hB (o229_15 hB) rfl (by decide +kernel) rfl rfl (Nat.le_of_ble_eq_true rfl) (m_isMonthM hB (fun f17 => ?_) (fun f18 => ?_))
        · show HW g l _ 229 _ _ 30 [(0, (0, (x)))] [(0, ((1 : Nat) : Int))] h
          refine w_ifc (pt := 37) (pf := 33) (o229_16 hB) (by decide) rfl (fun e => ?_) (fun e => ?_)
          · have f19 : (((1 : Nat) : Int) = (0)) := e
            exfalso; omega
          · have f20 : ¬ (((1 : Nat) : Int) = (0)) := e
            refine w_pl (pc' := 34) (lv' := [(0, (0, (x)))]) (st' := [(0, ((1 : Nat) : Int))]) (h' := h) (o229_17 hB) rfl ?_
            refine w_goto (pt := 38) (o229_18 hB) (by decide) ?_
            exact w_zret (o229_20 hB) mr229 (by decide) (h1 (by omega))
        · show HW g l _ 229 _ _ 30 [(0, (0, (x)))] [(0, ((0 : Nat) : Int))] h
          refine w_ifc (pt := 37) (pf := 33) (o229_16 hB) (by decide) rfl (fun e => ?_) (fun e => ?_)
          · have f21 : (((0 : Nat) : Int) = (0)) := e
            refine w_pl (pc' := 38) (lv' := [(0, (0, (x)))]) (st' := [(0, ((0 : Nat) : Int))]) (h' := h) (o229_19 hB) rfl ?_
            exact w_zret (o229_20 hB) mr229 (by decide) (h0 (by omega))
          · have f22 : ¬ (((0 : Nat) : Int) = (0)) := e
            exfalso; omega
  · show HW g l _ 229 _ _ 7 [(0, (0, (x)))] [(0, ((0 : Nat) : Int))] h
    refine w_ifc (pt := 37) (pf := 10) (o229_4 hB) (by decide) rfl (fun e => ?_) (fun e => ?_)
    · have f23 : (((0 : Nat) : Int) = (0)) := e
      refine w_pl (pc' := 38) (lv' := [(0, (0, (x)))]) (st' := [(0, ((0 : Nat) : Int))]) (h' := h) (o229_19 hB) rfl ?_
      exact w_zret (o229_20 hB) mr229 (by decide) (h0 (by omega))
    · have f24 : ¬ (((0 : Nat) : Int) = (0)) := e
      exfalso; omega
theorem m_isWhereB (hB : BytesOK) {g : bG} {l : Launch} {d : Nat} {Q : bQ} {h : bH} {x : Int} (z_x : in32 x) (h1 : 0 ≤ x ∧ x / 10000 < 6 ∧ x / 1000 % 10 < 4 ∧ x % 1000 < 240 → Q (some (0, 1)) h) (h0 : ¬ (0 ≤ x ∧ x / 10000 < 6 ∧ x / 1000 % 10 < 4 ∧ x % 1000 < 240) → Q (some (0, 0)) h) : MH g l d 177 212 212 [(0, x)] h Q := by
  have z0_x := z_x
  unfold in32 at z0_x
  refine mh_go hB mg177 ml177 (Nat.le_of_ble_eq_true rfl) ?_
  show HW g l d 177 _ _ 0 [(0, (0, (x)))] [] h
  refine w_pl (pc' := 1) (lv' := [(0, (0, (x)))]) (st' := [(0, (x))]) (h' := h) (o177_0 hB) rfl ?_
  refine w_ifc (pt := 41) (pf := 4) (o177_1 hB) (by decide) rfl (fun e => ?_) (fun e => ?_)
  · have f25 : ((x) < (0)) := e
    refine w_pl (pc' := 42) (lv' := [(0, (0, (x)))]) (st' := [(0, ((0 : Nat) : Int))]) (h' := h) (o177_21 hB) rfl ?_
    exact w_zret (o177_22 hB) mr177 (by decide) (h0 (by omega))
  · have f26 : ¬ ((x) < (0)) := e
    refine w_pl (pc' := 5) (lv' := [(0, (0, (x)))]) (st' := [(0, (x))]) (h' := h) (o177_2 hB) rfl ?_
    refine w_pl (pc' := 8) (lv' := [(0, (0, (x)))]) (st' := [(0, ((10000 : Nat) : Int)), (0, (x))]) (h' := h) (o177_3 hB) rfl ?_
    refine w_idiv (z := ((x) / 10000)) (pc' := 9) (o177_4 hB) rfl (divI_p (by omega) (by omega) (by decide)) ?_
    refine w_pl (pc' := 11) (lv' := [(0, (0, (x)))]) (st' := [(0, ((6 : Nat) : Int)), (0, ((x) / 10000))]) (h' := h) (o177_5 hB) rfl ?_
    refine w_icmp (pt := 41) (pf := 14) (o177_6 hB) (by decide) rfl (fun e => ?_) (fun e => ?_)
    · have f27 : (((6 : Nat) : Int) ≤ ((x) / 10000)) := e
      refine w_pl (pc' := 42) (lv' := [(0, (0, (x)))]) (st' := [(0, ((0 : Nat) : Int))]) (h' := h) (o177_21 hB) rfl ?_
      exact w_zret (o177_22 hB) mr177 (by decide) (h0 (by omega))
    · have f28 : ¬ (((6 : Nat) : Int) ≤ ((x) / 10000)) := e
      refine w_pl (pc' := 15) (lv' := [(0, (0, (x)))]) (st' := [(0, (x))]) (h' := h) (o177_7 hB) rfl ?_
      refine w_pl (pc' := 18) (lv' := [(0, (0, (x)))]) (st' := [(0, ((1000 : Nat) : Int)), (0, (x))]) (h' := h) (o177_8 hB) rfl ?_
      refine w_idiv (z := ((x) / 1000)) (pc' := 19) (o177_9 hB) rfl (divI_p (by omega) (by omega) (by decide)) ?_
      refine w_pl (pc' := 21) (lv' := [(0, (0, (x)))]) (st' := [(0, ((10 : Nat) : Int)), (0, ((x) / 1000))]) (h' := h) (o177_10 hB) rfl ?_
      refine w_irem (z := (((x) / 1000) % 10)) (pc' := 22) (o177_11 hB) rfl (remI_p (by omega) (by decide)) ?_
      refine w_pl (pc' := 23) (lv' := [(0, (0, (x)))]) (st' := [(0, ((4 : Nat) : Int)), (0, (((x) / 1000) % 10))]) (h' := h) (o177_12 hB) rfl ?_
      refine w_icmp (pt := 41) (pf := 26) (o177_13 hB) (by decide) rfl (fun e => ?_) (fun e => ?_)
      · have f29 : (((4 : Nat) : Int) ≤ (((x) / 1000) % 10)) := e
        refine w_pl (pc' := 42) (lv' := [(0, (0, (x)))]) (st' := [(0, ((0 : Nat) : Int))]) (h' := h) (o177_21 hB) rfl ?_
        exact w_zret (o177_22 hB) mr177 (by decide) (h0 (by omega))
      · have f30 : ¬ (((4 : Nat) : Int) ≤ (((x) / 1000) % 10)) := e
        refine w_pl (pc' := 27) (lv' := [(0, (0, (x)))]) (st' := [(0, (x))]) (h' := h) (o177_14 hB) rfl ?_
        refine w_pl (pc' := 30) (lv' := [(0, (0, (x)))]) (st' := [(0, ((1000 : Nat) : Int)), (0, (x))]) (h' := h) (o177_15 hB) rfl ?_
        refine w_irem (z := ((x) % 1000)) (pc' := 31) (o177_16 hB) rfl (remI_p (by omega) (by decide)) ?_
        refine w_pl (pc' := 34) (lv' := [(0, (0, (x)))]) (st' := [(0, ((240 : Nat) : Int)), (0, ((x) % 1000))]) (h' := h) (o177_17 hB) rfl ?_
        refine w_icmp (pt := 41) (pf := 37) (o177_18 hB) (by decide) rfl (fun e => ?_) (fun e => ?_)
        · have f31 : (((240 : Nat) : Int) ≤ ((x) % 1000)) := e
          refine w_pl (pc' := 42) (lv' := [(0, (0, (x)))]) (st' := [(0, ((0 : Nat) : Int))]) (h' := h) (o177_21 hB) rfl ?_
          exact w_zret (o177_22 hB) mr177 (by decide) (h0 (by omega))
        · have f32 : ¬ (((240 : Nat) : Int) ≤ ((x) % 1000)) := e
          refine w_pl (pc' := 38) (lv' := [(0, (0, (x)))]) (st' := [(0, ((1 : Nat) : Int))]) (h' := h) (o177_19 hB) rfl ?_
          refine w_goto (pt := 42) (o177_20 hB) (by decide) ?_
          exact w_zret (o177_22 hB) mr177 (by decide) (h1 (by omega))
theorem m_monthsB (hB : BytesOK) {g : bG} {l : Launch} {d : Nat} {Q : bQ} {h : bH} {n : Int} (ht : TH h) (z_n : in32 n) {w : Int} (hw : h 2 0 = w)  (a0 : ¬ (1 ≤ n ∧ n ≤ 60) → Q (some (0, (-1))) h) (a1 : (1 ≤ n ∧ n ≤ 60) ∧ 239 < w + n → Q (some (0, (-4))) h) (a2 : (1 ≤ n ∧ n ≤ 60) ∧ w + n ≤ 239 → Q (some (0, (w + n))) (hup h 2 (0) ((w) + (n)))) : MH g l d 123 212 212 [(2, ((0 : Nat) : Int)), (0, (n))] h Q := by
  have hR := ht.r
  have z0_n := z_n
  unfold in32 at z0_n
  have r_w := ty_2_c0 ht
  rw [hw] at r_w
  refine mh_go hB mg123 ml123 (Nat.le_of_ble_eq_true rfl) ?_
  show HW g l d 123 _ _ 0 [(0, (2, ((0 : Nat) : Int))), (1, (0, (n)))] [] h
  refine w_pl (pc' := 1) (lv' := [(0, (2, ((0 : Nat) : Int))), (1, (0, (n)))]) (st' := [(0, (n))]) (h' := h) (o123_0 hB) rfl ?_
  refine w_pl (pc' := 2) (lv' := [(0, (2, ((0 : Nat) : Int))), (1, (0, (n)))]) (st' := [(0, ((1 : Nat) : Int)), (0, (n))]) (h' := h) (o123_1 hB) rfl ?_
  refine w_icmp (pt := 11) (pf := 5) (o123_2 hB) (by decide) rfl (fun e => ?_) (fun e => ?_)
  · have f39 : ((n) < ((1 : Nat) : Int)) := e
    refine w_pl (pc' := 12) (lv' := [(0, (2, ((0 : Nat) : Int))), (1, (0, (n)))]) (st' := [(0, (-1))]) (h' := h) (o123_6 hB) rfl ?_
    exact w_iret (o123_7 hB) mr123 (by unfold in32; omega) (a0 (by omega))
  · have f40 : ¬ ((n) < ((1 : Nat) : Int)) := e
    refine w_pl (pc' := 6) (lv' := [(0, (2, ((0 : Nat) : Int))), (1, (0, (n)))]) (st' := [(0, (n))]) (h' := h) (o123_3 hB) rfl ?_
    refine w_pl (pc' := 8) (lv' := [(0, (2, ((0 : Nat) : Int))), (1, (0, (n)))]) (st' := [(0, ((60 : Nat) : Int)), (0, (n))]) (h' := h) (o123_4 hB) rfl ?_
    refine w_icmp (pt := 13) (pf := 11) (o123_5 hB) (by decide) rfl (fun e => ?_) (fun e => ?_)
    · have f41 : ((n) ≤ ((60 : Nat) : Int)) := e
      refine w_pl (pc' := 14) (lv' := [(0, (2, ((0 : Nat) : Int))), (1, (0, (n)))]) (st' := [(2, ((0 : Nat) : Int))]) (h' := h) (o123_8 hB) rfl ?_
      refine w_getf (A := 0) (t := 2) (z := ((1 : Nat) : Int)) (pc' := 17) (o123_9 hB) rfl (by decide +kernel) (hR (0, 0, 1) (by decide)) ?_
      refine w_getf (A := 1) (t := 2) (z := ((2 : Nat) : Int)) (pc' := 20) (o123_10 hB) rfl (by decide +kernel) (hR (1, 0, 2) (by decide)) ?_
      refine w_getf (A := 2) (t := 0) (z := (w)) (pc' := 23) (o123_11 hB) rfl (by decide +kernel) hw ?_
      refine w_pl (pc' := 24) (lv' := [(0, (2, ((0 : Nat) : Int))), (1, (0, (n)))]) (st' := [(0, (n)), (0, (w))]) (h' := h) (o123_12 hB) rfl ?_
      refine w_iadd (z := ((w) + (n))) (pc' := 25) (o123_13 hB) rfl (w32_e (by omega) (by omega)) ?_
      refine w_pl (pc' := 28) (lv' := [(0, (2, ((0 : Nat) : Int))), (1, (0, (n)))]) (st' := [(0, ((240 : Nat) : Int)), (0, ((w) + (n)))]) (h' := h) (o123_14 hB) rfl ?_
      refine w_icmp (pt := 34) (pf := 31) (o123_15 hB) (by decide) rfl (fun e => ?_) (fun e => ?_)
      · have f42 : (((w) + (n)) < ((240 : Nat) : Int)) := e
        refine w_pl (pc' := 35) (lv' := [(0, (2, ((0 : Nat) : Int))), (1, (0, (n)))]) (st' := [(2, ((0 : Nat) : Int))]) (h' := h) (o123_18 hB) rfl ?_
        refine w_getf (A := 0) (t := 2) (z := ((1 : Nat) : Int)) (pc' := 38) (o123_19 hB) rfl (by decide +kernel) (hR (0, 0, 1) (by decide)) ?_
        refine w_getf (A := 1) (t := 2) (z := ((2 : Nat) : Int)) (pc' := 41) (o123_20 hB) rfl (by decide +kernel) (hR (1, 0, 2) (by decide)) ?_
        refine w_pl (pc' := 42) (lv' := [(0, (2, ((0 : Nat) : Int))), (1, (0, (n)))]) (st' := [(2, ((2 : Nat) : Int)), (2, ((2 : Nat) : Int))]) (h' := h) (o123_21 hB) rfl ?_
        refine w_getf (A := 2) (t := 0) (z := (w)) (pc' := 45) (o123_22 hB) rfl (by decide +kernel) hw ?_
        refine w_pl (pc' := 46) (lv' := [(0, (2, ((0 : Nat) : Int))), (1, (0, (n)))]) (st' := [(0, (n)), (0, (w)), (2, ((2 : Nat) : Int))]) (h' := h) (o123_23 hB) rfl ?_
        refine w_iadd (z := ((w) + (n))) (pc' := 47) (o123_24 hB) rfl (w32_e (by omega) (by omega)) ?_
        refine w_putf (A := 2) (t := 0) (pc' := 50) (o123_25 hB) rfl (by decide +kernel) ?_
        refine w_pl (pc' := 51) (lv' := [(0, (2, ((0 : Nat) : Int))), (1, (0, (n)))]) (st' := [(2, ((0 : Nat) : Int))]) (h' := (hup h 2 (0) ((w) + (n)))) (o123_26 hB) rfl ?_
        refine w_getf (A := 0) (t := 2) (z := ((1 : Nat) : Int)) (pc' := 54) (o123_27 hB) rfl (by decide +kernel) ((hup_ne (by decide)).trans (hR (0, 0, 1) (by decide))) ?_
        refine w_getf (A := 1) (t := 2) (z := ((2 : Nat) : Int)) (pc' := 57) (o123_28 hB) rfl (by decide +kernel) ((hup_ne (by decide)).trans (hR (1, 0, 2) (by decide))) ?_
        refine w_getf (A := 2) (t := 0) (z := (((w) + (n)))) (pc' := 60) (o123_29 hB) rfl (by decide +kernel) (hup_eq) ?_
        exact w_iret (o123_30 hB) mr123 (by unfold in32; omega) (qe (a2 (by omega)) (by omega))
      · have f43 : ¬ (((w) + (n)) < ((240 : Nat) : Int)) := e
        refine w_pl (pc' := 33) (lv' := [(0, (2, ((0 : Nat) : Int))), (1, (0, (n)))]) (st' := [(0, (-4))]) (h' := h) (o123_16 hB) rfl ?_
        exact w_iret (o123_17 hB) mr123 (by unfold in32; omega) (a1 (by omega))
    · have f44 : ¬ ((n) ≤ ((60 : Nat) : Int)) := e
      refine w_pl (pc' := 12) (lv' := [(0, (2, ((0 : Nat) : Int))), (1, (0, (n)))]) (st' := [(0, (-1))]) (h' := h) (o123_6 hB) rfl ?_
      exact w_iret (o123_7 hB) mr123 (by unfold in32; omega) (a0 (by omega))
def s_monthsB (vs : List bV) (h : bH) (r : Option bV) (h' : bH) : Prop := TH h ∧ ∀ (n : Int) (w : Int) , vs = [(2, ((0 : Nat) : Int)), (0, n)] → h 2 0 = w → ((¬ (1 ≤ n ∧ n ≤ 60)) ∧ r = some (0, (-1)) ∧ h = h') ∨ (((1 ≤ n ∧ n ≤ 60) ∧ 239 < w + n) ∧ r = some (0, (-4)) ∧ h = h') ∨ (((1 ≤ n ∧ n ≤ 60) ∧ w + n ≤ 239) ∧ r = some (0, (w + n)) ∧ h' = (hup h 2 (0) ((w) + (n))))
def w_monthsB : List (Nat × Nat × Nat) := [(2, 0, 1)]
def q_monthsB : aCt := cH 123 0 w_monthsB 1 0
theorem sk_monthsB (hB : BytesOK) (g : bG) (l : Launch) : SK g l gT q_monthsB s_monthsB := by
  intro d hd ρ h Q hcore hQ
  have hcore : core (PofW gT (some w_monthsB) false) (gsc g) h ρ h (List.replicate 1 r32, [], [], 212) := hcore
  have ht := hTH hcore
  have y0 := r32_0 hcore 0 (by decide)
  have y00 := y0
  unfold in32 at y00
  have r_w := ty_2_c0 ht
  rw [show evS ρ (ctA q_monthsB) = [(2, ((0 : Nat) : Int)), (0, ρ 0)] from evA1]
  refine m_monthsB (n := ρ 0) hB ht y0 rfl (fun hn => ?_) (fun hn => ?_) (fun hn => ?_)
  · refine hQ _ _ (hpost hcore (ht) (fun _ _ _ => rfl) (by unfold in32; omega)) ⟨ht, fun n v_w hv e_w => ?_⟩
    have hv := (evA1 (ρ := ρ)).symm.trans hv
    obtain rfl := vsA1 hv
    subst e_w
    exact Or.inl ⟨hn, rfl, rfl⟩
  · refine hQ _ _ (hpost hcore (ht) (fun _ _ _ => rfl) (by unfold in32; omega)) ⟨ht, fun n v_w hv e_w => ?_⟩
    have hv := (evA1 (ρ := ρ)).symm.trans hv
    obtain rfl := vsA1 hv
    subst e_w
    exact Or.inr (Or.inl ⟨hn, rfl, rfl⟩)
  · refine hQ _ _ (hpost hcore ((ht).upc (a := 2) (j := 0) (lo := (0)) (hi := 239) (by decide +kernel) (by omega)) (fr_up (fun _ _ _ => rfl) (wr_in (lo := 0) (hi := 1) (by decide) (by omega) (by omega))) (by unfold in32; omega)) ⟨ht, fun n v_w hv e_w => ?_⟩
    have hv := (evA1 (ρ := ρ)).symm.trans hv
    obtain rfl := vsA1 hv
    subst e_w
    exact Or.inr (Or.inr (⟨hn, rfl, rfl⟩))
theorem m_monthsM (hB : BytesOK) {g : bG} {l : Launch} {d : Nat} {Q : bQ} {h : bH} {n : Int} (ht : TH h) (z_n : in32 n) {w : Int} (hw : h 194 0 = w)  (a0 : ¬ (1 ≤ n ∧ n ≤ 60) → Q (some (0, (-1))) h) (a1 : (1 ≤ n ∧ n ≤ 60) ∧ 239 < w + n → Q (some (0, (-4))) h) (a2 : (1 ≤ n ∧ n ≤ 60) ∧ w + n ≤ 239 → Q (some (0, (w + n))) (hup h 194 (0) ((w) + (n)))) : MH g l (d + 1) 189 212 212 [(2, ((193 : Nat) : Int)), (0, (n))] h Q := by
  have hR := ht.r
  have z0_n := z_n
  unfold in32 at z0_n
  have r_w := ty_194_c0 ht
  rw [hw] at r_w
  refine mh_go hB mg189 ml189 (Nat.le_of_ble_eq_true rfl) ?_
  show HW g l (d + 1) 189 _ _ 0 [(0, (2, ((193 : Nat) : Int))), (1, (0, (n)))] [] h
  refine w_pl (pc' := 1) (lv' := [(0, (2, ((193 : Nat) : Int))), (1, (0, (n)))]) (st' := [(0, (n))]) (h' := h) (o189_0 hB) rfl ?_
  refine w_pl (pc' := 2) (lv' := [(0, (2, ((193 : Nat) : Int))), (1, (0, (n)))]) (st' := [(0, ((1 : Nat) : Int)), (0, (n))]) (h' := h) (o189_1 hB) rfl ?_
  refine w_pl (pc' := 4) (lv' := [(0, (2, ((193 : Nat) : Int))), (1, (0, (n)))]) (st' := [(0, ((60 : Nat) : Int)), (0, ((1 : Nat) : Int)), (0, (n))]) (h' := h) (o189_2 hB) rfl ?_
  refine w_callS (as := [(0, (n)), (0, ((1 : Nat) : Int)), (0, ((60 : Nat) : Int))]) (rest := []) (n := 3) (pc' := 7) hB (o189_3 hB) rfl (by decide +kernel) rfl rfl (Nat.le_of_ble_eq_true rfl) (m_in hB (fun f53 => ?_) (fun f54 => ?_))
  · show HW g l _ 189 _ _ 7 [(0, (2, ((193 : Nat) : Int))), (1, (0, (n)))] [(0, ((1 : Nat) : Int))] h
    refine w_ifc (pt := 12) (pf := 10) (o189_4 hB) (by decide) rfl (fun e => ?_) (fun e => ?_)
    · have f55 : (((1 : Nat) : Int) ≠ (0)) := e
      refine w_pl (pc' := 13) (lv' := [(0, (2, ((193 : Nat) : Int))), (1, (0, (n)))]) (st' := [(2, ((193 : Nat) : Int))]) (h' := h) (o189_7 hB) rfl ?_
      refine w_getf (A := 193) (t := 2) (z := ((194 : Nat) : Int)) (pc' := 16) (o189_8 hB) rfl (by decide +kernel) (hR (193, 0, 194) (by decide)) ?_
      refine w_pl (pc' := 17) (lv' := [(0, (2, ((193 : Nat) : Int))), (1, (0, (n)))]) (st' := [(0, ((0 : Nat) : Int)), (2, ((194 : Nat) : Int))]) (h' := h) (o189_9 hB) rfl ?_
      refine w_iald (A := 194) (i := 0) (n := 1984) (z := (w)) (pc' := 18) (o189_10 hB) rfl (by decide +kernel) (by omega) hw ?_
      refine w_pl (pc' := 19) (lv' := [(0, (2, ((193 : Nat) : Int))), (1, (0, (n)))]) (st' := [(0, (n)), (0, (w))]) (h' := h) (o189_11 hB) rfl ?_
      refine w_iadd (z := ((w) + (n))) (pc' := 20) (o189_12 hB) rfl (w32_e (by omega) (by omega)) ?_
      refine w_pl (pc' := 23) (lv' := [(0, (2, ((193 : Nat) : Int))), (1, (0, (n)))]) (st' := [(0, ((239 : Nat) : Int)), (0, ((w) + (n)))]) (h' := h) (o189_13 hB) rfl ?_
      refine w_icmp (pt := 29) (pf := 26) (o189_14 hB) (by decide) rfl (fun e => ?_) (fun e => ?_)
      · have f56 : (((w) + (n)) ≤ ((239 : Nat) : Int)) := e
        refine w_pl (pc' := 30) (lv' := [(0, (2, ((193 : Nat) : Int))), (1, (0, (n)))]) (st' := [(2, ((193 : Nat) : Int))]) (h' := h) (o189_17 hB) rfl ?_
        refine w_getf (A := 193) (t := 2) (z := ((194 : Nat) : Int)) (pc' := 33) (o189_18 hB) rfl (by decide +kernel) (hR (193, 0, 194) (by decide)) ?_
        refine w_pl (pc' := 34) (lv' := [(0, (2, ((193 : Nat) : Int))), (1, (0, (n)))]) (st' := [(0, ((0 : Nat) : Int)), (2, ((194 : Nat) : Int))]) (h' := h) (o189_19 hB) rfl ?_
        refine w_pl (pc' := 35) (lv' := [(0, (2, ((193 : Nat) : Int))), (1, (0, (n)))]) (st' := [(0, ((0 : Nat) : Int)), (2, ((194 : Nat) : Int)), (0, ((0 : Nat) : Int)), (2, ((194 : Nat) : Int))]) (h' := h) (o189_20 hB) rfl ?_
        refine w_iald (A := 194) (i := 0) (n := 1984) (z := (w)) (pc' := 36) (o189_21 hB) rfl (by decide +kernel) (by omega) hw ?_
        refine w_pl (pc' := 37) (lv' := [(0, (2, ((193 : Nat) : Int))), (1, (0, (n)))]) (st' := [(0, (n)), (0, (w)), (0, ((0 : Nat) : Int)), (2, ((194 : Nat) : Int))]) (h' := h) (o189_22 hB) rfl ?_
        refine w_iadd (z := ((w) + (n))) (pc' := 38) (o189_23 hB) rfl (w32_e (by omega) (by omega)) ?_
        refine w_iast (A := 194) (i := 0) (n := 1984) (pc' := 39) (o189_24 hB) rfl (by decide +kernel) (by omega) ?_
        refine w_pl (pc' := 40) (lv' := [(0, (2, ((193 : Nat) : Int))), (1, (0, (n)))]) (st' := [(2, ((193 : Nat) : Int))]) (h' := (hup h 194 (0) ((w) + (n)))) (o189_25 hB) rfl ?_
        refine w_getf (A := 193) (t := 2) (z := ((194 : Nat) : Int)) (pc' := 43) (o189_26 hB) rfl (by decide +kernel) ((hup_ne (by decide)).trans (hR (193, 0, 194) (by decide))) ?_
        refine w_pl (pc' := 44) (lv' := [(0, (2, ((193 : Nat) : Int))), (1, (0, (n)))]) (st' := [(0, ((0 : Nat) : Int)), (2, ((194 : Nat) : Int))]) (h' := (hup h 194 (0) ((w) + (n)))) (o189_27 hB) rfl ?_
        refine w_iald (A := 194) (i := 0) (n := 1984) (z := (((w) + (n)))) (pc' := 45) (o189_28 hB) rfl (by decide +kernel) (by omega) (hup_eq) ?_
        exact w_iret (o189_29 hB) mr189 (by unfold in32; omega) (qe (a2 (by omega)) (by omega))
      · have f57 : ¬ (((w) + (n)) ≤ ((239 : Nat) : Int)) := e
        refine w_pl (pc' := 28) (lv' := [(0, (2, ((193 : Nat) : Int))), (1, (0, (n)))]) (st' := [(0, (-4))]) (h' := h) (o189_15 hB) rfl ?_
        exact w_iret (o189_16 hB) mr189 (by unfold in32; omega) (a1 (by omega))
    · have f58 : ¬ (((1 : Nat) : Int) ≠ (0)) := e
      exfalso; omega
  · show HW g l _ 189 _ _ 7 [(0, (2, ((193 : Nat) : Int))), (1, (0, (n)))] [(0, ((0 : Nat) : Int))] h
    refine w_ifc (pt := 12) (pf := 10) (o189_4 hB) (by decide) rfl (fun e => ?_) (fun e => ?_)
    · have f59 : (((0 : Nat) : Int) ≠ (0)) := e
      exfalso; omega
    · have f60 : ¬ (((0 : Nat) : Int) ≠ (0)) := e
      refine w_pl (pc' := 11) (lv' := [(0, (2, ((193 : Nat) : Int))), (1, (0, (n)))]) (st' := [(0, (-1))]) (h' := h) (o189_5 hB) rfl ?_
      exact w_iret (o189_6 hB) mr189 (by unfold in32; omega) (a0 (by omega))
def s_monthsM (vs : List bV) (h : bH) (r : Option bV) (h' : bH) : Prop := TH h ∧ ∀ (n : Int) (w : Int) , vs = [(2, ((193 : Nat) : Int)), (0, n)] → h 194 0 = w → ((¬ (1 ≤ n ∧ n ≤ 60)) ∧ r = some (0, (-1)) ∧ h = h') ∨ (((1 ≤ n ∧ n ≤ 60) ∧ 239 < w + n) ∧ r = some (0, (-4)) ∧ h = h') ∨ (((1 ≤ n ∧ n ≤ 60) ∧ w + n ≤ 239) ∧ r = some (0, (w + n)) ∧ h' = (hup h 194 (0) ((w) + (n))))
def w_monthsM : List (Nat × Nat × Nat) := [(194, 0, 1)]
def q_monthsM : aCt := cH 189 1 w_monthsM 1 193
theorem sk_monthsM (hB : BytesOK) (g : bG) (l : Launch) : SK g l gT q_monthsM s_monthsM := by
  intro d hd ρ h Q hcore hQ
  have hcore : core (PofW gT (some w_monthsM) false) (gsc g) h ρ h (List.replicate 1 r32, [], [], 212) := hcore
  have ht := hTH hcore
  have y0 := r32_0 hcore 0 (by decide)
  have y00 := y0
  unfold in32 at y00
  have r_w := ty_194_c0 ht
  obtain ⟨d', rfl⟩ : ∃ d', d = d' + 1 := ⟨d - 1, by have : 1 ≤ d := hd; omega⟩
  rw [show evS ρ (ctA q_monthsM) = [(2, ((193 : Nat) : Int)), (0, ρ 0)] from evA1]
  refine m_monthsM (n := ρ 0) hB ht y0 rfl (fun hn => ?_) (fun hn => ?_) (fun hn => ?_)
  · refine hQ _ _ (hpost hcore (ht) (fun _ _ _ => rfl) (by unfold in32; omega)) ⟨ht, fun n v_w hv e_w => ?_⟩
    have hv := (evA1 (ρ := ρ)).symm.trans hv
    obtain rfl := vsA1 hv
    subst e_w
    exact Or.inl ⟨hn, rfl, rfl⟩
  · refine hQ _ _ (hpost hcore (ht) (fun _ _ _ => rfl) (by unfold in32; omega)) ⟨ht, fun n v_w hv e_w => ?_⟩
    have hv := (evA1 (ρ := ρ)).symm.trans hv
    obtain rfl := vsA1 hv
    subst e_w
    exact Or.inr (Or.inl ⟨hn, rfl, rfl⟩)
  · refine hQ _ _ (hpost hcore ((ht).upc (a := 194) (j := 0) (lo := (0)) (hi := 239) (by decide +kernel) (by omega)) (fr_up (fun _ _ _ => rfl) (wr_in (lo := 0) (hi := 1) (by decide) (by omega) (by omega))) (by unfold in32; omega)) ⟨ht, fun n v_w hv e_w => ?_⟩
    have hv := (evA1 (ρ := ρ)).symm.trans hv
    obtain rfl := vsA1 hv
    subst e_w
    exact Or.inr (Or.inr (⟨hn, rfl, rfl⟩))
theorem m_addBoxes (hB : BytesOK) {g : bG} {l : Launch} {d : Nat} {Q : bQ} {h : bH} {x n m : Int} (ht : TH h) (z_x : in32 x) (z_n : in32 n) (z_m : in32 m) {c : Nat} (hc : h 17 0 = (c : Int)) (lc : c ≤ 24)  (a0 : ¬ (1 ≤ n ∧ n ≤ 999) → Q (some (0, (-1))) h) (a1 : (1 ≤ n ∧ n ≤ 999) ∧ c = 24 → Q (some (0, (-2))) h) (a2 : (1 ≤ n ∧ n ≤ 999) ∧ c < 24 → Q (some (0, (c : Int))) (hup (hup (hup (hup h 18 (c) (x)) 19 (c) (n)) 20 (c) (m)) 17 (0) (((c + 1) : Nat) : Int))) : MH g l d 107 212 212 [(2, ((17 : Nat) : Int)), (0, (x)), (0, (n)), (0, (m))] h Q := by
  have hR := ht.r
  have z0_x := z_x
  have z0_n := z_n
  have z0_m := z_m
  unfold in32 at z0_x
  unfold in32 at z0_n
  unfold in32 at z0_m
  refine mh_go hB mg107 ml107 (Nat.le_of_ble_eq_true rfl) ?_
  show HW g l d 107 _ _ 0 [(0, (2, ((17 : Nat) : Int))), (1, (0, (x))), (2, (0, (n))), (3, (0, (m)))] [] h
  refine w_pl (pc' := 1) (lv' := [(0, (2, ((17 : Nat) : Int))), (1, (0, (x))), (2, (0, (n))), (3, (0, (m)))]) (st' := [(0, (n))]) (h' := h) (o107_0 hB) rfl ?_
  refine w_pl (pc' := 2) (lv' := [(0, (2, ((17 : Nat) : Int))), (1, (0, (x))), (2, (0, (n))), (3, (0, (m)))]) (st' := [(0, ((1 : Nat) : Int)), (0, (n))]) (h' := h) (o107_1 hB) rfl ?_
  refine w_icmp (pt := 12) (pf := 5) (o107_2 hB) (by decide) rfl (fun e => ?_) (fun e => ?_)
  · have f67 : ((n) < ((1 : Nat) : Int)) := e
    refine w_pl (pc' := 13) (lv' := [(0, (2, ((17 : Nat) : Int))), (1, (0, (x))), (2, (0, (n))), (3, (0, (m)))]) (st' := [(0, (-1))]) (h' := h) (o107_6 hB) rfl ?_
    exact w_iret (o107_7 hB) mr107 (by unfold in32; omega) (a0 (by omega))
  · have f68 : ¬ ((n) < ((1 : Nat) : Int)) := e
    refine w_pl (pc' := 6) (lv' := [(0, (2, ((17 : Nat) : Int))), (1, (0, (x))), (2, (0, (n))), (3, (0, (m)))]) (st' := [(0, (n))]) (h' := h) (o107_3 hB) rfl ?_
    refine w_pl (pc' := 9) (lv' := [(0, (2, ((17 : Nat) : Int))), (1, (0, (x))), (2, (0, (n))), (3, (0, (m)))]) (st' := [(0, ((999 : Nat) : Int)), (0, (n))]) (h' := h) (o107_4 hB) rfl ?_
    refine w_icmp (pt := 14) (pf := 12) (o107_5 hB) (by decide) rfl (fun e => ?_) (fun e => ?_)
    · have f69 : ((n) ≤ ((999 : Nat) : Int)) := e
      refine w_pl (pc' := 15) (lv' := [(0, (2, ((17 : Nat) : Int))), (1, (0, (x))), (2, (0, (n))), (3, (0, (m)))]) (st' := [(2, ((17 : Nat) : Int))]) (h' := h) (o107_8 hB) rfl ?_
      refine w_getf (A := 17) (t := 0) (z := ((c : Nat) : Int)) (pc' := 18) (o107_9 hB) rfl (by decide +kernel) hc ?_
      refine w_pl (pc' := 20) (lv' := [(0, (2, ((17 : Nat) : Int))), (1, (0, (x))), (2, (0, (n))), (3, (0, (m)))]) (st' := [(0, ((24 : Nat) : Int)), (0, ((c : Nat) : Int))]) (h' := h) (o107_10 hB) rfl ?_
      refine w_icmp (pt := 26) (pf := 23) (o107_11 hB) (by decide) rfl (fun e => ?_) (fun e => ?_)
      · have f70 : (((c : Nat) : Int) < ((24 : Nat) : Int)) := e
        refine w_pl (pc' := 27) (lv' := [(0, (2, ((17 : Nat) : Int))), (1, (0, (x))), (2, (0, (n))), (3, (0, (m)))]) (st' := [(2, ((17 : Nat) : Int))]) (h' := h) (o107_14 hB) rfl ?_
        refine w_getf (A := 17) (t := 2) (z := ((18 : Nat) : Int)) (pc' := 30) (o107_15 hB) rfl (by decide +kernel) (hR (17, 1, 18) (by decide)) ?_
        refine w_pl (pc' := 31) (lv' := [(0, (2, ((17 : Nat) : Int))), (1, (0, (x))), (2, (0, (n))), (3, (0, (m)))]) (st' := [(2, ((17 : Nat) : Int)), (2, ((18 : Nat) : Int))]) (h' := h) (o107_16 hB) rfl ?_
        refine w_getf (A := 17) (t := 0) (z := ((c : Nat) : Int)) (pc' := 34) (o107_17 hB) rfl (by decide +kernel) hc ?_
        refine w_pl (pc' := 35) (lv' := [(0, (2, ((17 : Nat) : Int))), (1, (0, (x))), (2, (0, (n))), (3, (0, (m)))]) (st' := [(0, (x)), (0, ((c : Nat) : Int)), (2, ((18 : Nat) : Int))]) (h' := h) (o107_18 hB) rfl ?_
        refine w_iast (A := 18) (i := c) (n := 24) (pc' := 36) (o107_19 hB) rfl (by decide +kernel) (by omega) ?_
        refine w_pl (pc' := 37) (lv' := [(0, (2, ((17 : Nat) : Int))), (1, (0, (x))), (2, (0, (n))), (3, (0, (m)))]) (st' := [(2, ((17 : Nat) : Int))]) (h' := (hup h 18 (c) (x))) (o107_20 hB) rfl ?_
        refine w_getf (A := 17) (t := 2) (z := ((19 : Nat) : Int)) (pc' := 40) (o107_21 hB) rfl (by decide +kernel) ((hup_ne (by decide)).trans (hR (17, 2, 19) (by decide))) ?_
        refine w_pl (pc' := 41) (lv' := [(0, (2, ((17 : Nat) : Int))), (1, (0, (x))), (2, (0, (n))), (3, (0, (m)))]) (st' := [(2, ((17 : Nat) : Int)), (2, ((19 : Nat) : Int))]) (h' := (hup h 18 (c) (x))) (o107_22 hB) rfl ?_
        refine w_getf (A := 17) (t := 0) (z := ((c : Nat) : Int)) (pc' := 44) (o107_23 hB) rfl (by decide +kernel) ((hup_ne (by decide)).trans hc) ?_
        refine w_pl (pc' := 45) (lv' := [(0, (2, ((17 : Nat) : Int))), (1, (0, (x))), (2, (0, (n))), (3, (0, (m)))]) (st' := [(0, (n)), (0, ((c : Nat) : Int)), (2, ((19 : Nat) : Int))]) (h' := (hup h 18 (c) (x))) (o107_24 hB) rfl ?_
        refine w_iast (A := 19) (i := c) (n := 24) (pc' := 46) (o107_25 hB) rfl (by decide +kernel) (by omega) ?_
        refine w_pl (pc' := 47) (lv' := [(0, (2, ((17 : Nat) : Int))), (1, (0, (x))), (2, (0, (n))), (3, (0, (m)))]) (st' := [(2, ((17 : Nat) : Int))]) (h' := (hup (hup h 18 (c) (x)) 19 (c) (n))) (o107_26 hB) rfl ?_
        refine w_getf (A := 17) (t := 2) (z := ((20 : Nat) : Int)) (pc' := 50) (o107_27 hB) rfl (by decide +kernel) ((hup_ne (by decide)).trans ((hup_ne (by decide)).trans (hR (17, 3, 20) (by decide)))) ?_
        refine w_pl (pc' := 51) (lv' := [(0, (2, ((17 : Nat) : Int))), (1, (0, (x))), (2, (0, (n))), (3, (0, (m)))]) (st' := [(2, ((17 : Nat) : Int)), (2, ((20 : Nat) : Int))]) (h' := (hup (hup h 18 (c) (x)) 19 (c) (n))) (o107_28 hB) rfl ?_
        refine w_getf (A := 17) (t := 0) (z := ((c : Nat) : Int)) (pc' := 54) (o107_29 hB) rfl (by decide +kernel) ((hup_ne (by decide)).trans ((hup_ne (by decide)).trans hc)) ?_
        refine w_pl (pc' := 55) (lv' := [(0, (2, ((17 : Nat) : Int))), (1, (0, (x))), (2, (0, (n))), (3, (0, (m)))]) (st' := [(0, (m)), (0, ((c : Nat) : Int)), (2, ((20 : Nat) : Int))]) (h' := (hup (hup h 18 (c) (x)) 19 (c) (n))) (o107_30 hB) rfl ?_
        refine w_iast (A := 20) (i := c) (n := 24) (pc' := 56) (o107_31 hB) rfl (by decide +kernel) (by omega) ?_
        refine w_pl (pc' := 57) (lv' := [(0, (2, ((17 : Nat) : Int))), (1, (0, (x))), (2, (0, (n))), (3, (0, (m)))]) (st' := [(2, ((17 : Nat) : Int))]) (h' := (hup (hup (hup h 18 (c) (x)) 19 (c) (n)) 20 (c) (m))) (o107_32 hB) rfl ?_
        refine w_pl (pc' := 58) (lv' := [(0, (2, ((17 : Nat) : Int))), (1, (0, (x))), (2, (0, (n))), (3, (0, (m)))]) (st' := [(2, ((17 : Nat) : Int)), (2, ((17 : Nat) : Int))]) (h' := (hup (hup (hup h 18 (c) (x)) 19 (c) (n)) 20 (c) (m))) (o107_33 hB) rfl ?_
        refine w_getf (A := 17) (t := 0) (z := ((c : Nat) : Int)) (pc' := 61) (o107_34 hB) rfl (by decide +kernel) ((hup_ne (by decide)).trans ((hup_ne (by decide)).trans ((hup_ne (by decide)).trans hc))) ?_
        refine w_pl (pc' := 62) (lv' := [(0, (2, ((17 : Nat) : Int))), (1, (0, (x))), (2, (0, (n))), (3, (0, (m)))]) (st' := [(0, ((c : Nat) : Int)), (2, ((17 : Nat) : Int)), (0, ((c : Nat) : Int))]) (h' := (hup (hup (hup h 18 (c) (x)) 19 (c) (n)) 20 (c) (m))) (o107_35 hB) rfl ?_
        refine w_pl (pc' := 63) (lv' := [(0, (2, ((17 : Nat) : Int))), (1, (0, (x))), (2, (0, (n))), (3, (0, (m)))]) (st' := [(0, ((1 : Nat) : Int)), (0, ((c : Nat) : Int)), (2, ((17 : Nat) : Int)), (0, ((c : Nat) : Int))]) (h' := (hup (hup (hup h 18 (c) (x)) 19 (c) (n)) 20 (c) (m))) (o107_36 hB) rfl ?_
        refine w_iadd (z := (((c + 1) : Nat) : Int)) (pc' := 64) (o107_37 hB) rfl (w32_e (by omega) (by omega)) ?_
        refine w_putf (A := 17) (t := 0) (pc' := 67) (o107_38 hB) rfl (by decide +kernel) ?_
        exact w_iret (o107_39 hB) mr107 (by unfold in32; omega) (qe (a2 (by omega)) (by omega))
      · have f71 : ¬ (((c : Nat) : Int) < ((24 : Nat) : Int)) := e
        refine w_pl (pc' := 25) (lv' := [(0, (2, ((17 : Nat) : Int))), (1, (0, (x))), (2, (0, (n))), (3, (0, (m)))]) (st' := [(0, (-2))]) (h' := h) (o107_12 hB) rfl ?_
        exact w_iret (o107_13 hB) mr107 (by unfold in32; omega) (a1 (by omega))
    · have f72 : ¬ ((n) ≤ ((999 : Nat) : Int)) := e
      refine w_pl (pc' := 13) (lv' := [(0, (2, ((17 : Nat) : Int))), (1, (0, (x))), (2, (0, (n))), (3, (0, (m)))]) (st' := [(0, (-1))]) (h' := h) (o107_6 hB) rfl ?_
      exact w_iret (o107_7 hB) mr107 (by unfold in32; omega) (a0 (by omega))
theorem m_boxesB (hB : BytesOK) {g : bG} {l : Launch} {d : Nat} {Q : bQ} {h : bH} {x n : Int} (ht : TH h) (z_x : in32 x) (z_n : in32 n) {c : Nat} (hc : h 17 0 = (c : Int)) (lc : c ≤ 24) {w : Int} (hw : h 2 0 = w)  (a0 : ¬ ((0 ≤ x ∧ x / 10000 < 6 ∧ x / 1000 % 10 < 4 ∧ x % 1000 < 240) ∧ x % 1000 ≤ w ∧ 1 ≤ n ∧ n ≤ 999) → Q (some (0, (-1))) h) (a1 : ((0 ≤ x ∧ x / 10000 < 6 ∧ x / 1000 % 10 < 4 ∧ x % 1000 < 240) ∧ x % 1000 ≤ w ∧ 1 ≤ n ∧ n ≤ 999) ∧ c = 24 → Q (some (0, (-2))) h) (a2 : ((0 ≤ x ∧ x / 10000 < 6 ∧ x / 1000 % 10 < 4 ∧ x % 1000 < 240) ∧ x % 1000 ≤ w ∧ 1 ≤ n ∧ n ≤ 999) ∧ c < 24 → Q (some (0, (c : Int))) (hup (hup (hup (hup h 18 (c) ((x))) 19 (c) ((n))) 20 (c) ((w))) 17 (0) (((c + 1) : Nat) : Int))) : MH g l (d + 1) 138 212 212 [(2, ((0 : Nat) : Int)), (0, (x)), (0, (n))] h Q := by
  have hR := ht.r
  have z0_x := z_x
  have z0_n := z_n
  unfold in32 at z0_x
  unfold in32 at z0_n
  have r_w := ty_2_c0 ht
  rw [hw] at r_w
  refine mh_go hB mg138 ml138 (Nat.le_of_ble_eq_true rfl) ?_
  show HW g l (d + 1) 138 _ _ 0 [(0, (2, ((0 : Nat) : Int))), (1, (0, (x))), (2, (0, (n)))] [] h
  refine w_pl (pc' := 1) (lv' := [(0, (2, ((0 : Nat) : Int))), (1, (0, (x))), (2, (0, (n)))]) (st' := [(0, (x))]) (h' := h) (o138_0 hB) rfl ?_
  refine w_callS (as := [(0, (x))]) (rest := []) (n := 1) (pc' := 4) hB (o138_1 hB) rfl (by decide +kernel) rfl rfl (Nat.le_of_ble_eq_true rfl) (m_isWhereB hB z_x (fun f84 => ?_) (fun f85 => ?_))
  · show HW g l _ 138 _ _ 4 [(0, (2, ((0 : Nat) : Int))), (1, (0, (x))), (2, (0, (n)))] [(0, ((1 : Nat) : Int))] h
    refine w_ifc (pt := 25) (pf := 7) (o138_2 hB) (by decide) rfl (fun e => ?_) (fun e => ?_)
    · have f86 : (((1 : Nat) : Int) = (0)) := e
      exfalso; omega
    · have f87 : ¬ (((1 : Nat) : Int) = (0)) := e
      refine w_pl (pc' := 8) (lv' := [(0, (2, ((0 : Nat) : Int))), (1, (0, (x))), (2, (0, (n)))]) (st' := [(0, (x))]) (h' := h) (o138_3 hB) rfl ?_
      refine w_pl (pc' := 11) (lv' := [(0, (2, ((0 : Nat) : Int))), (1, (0, (x))), (2, (0, (n)))]) (st' := [(0, ((1000 : Nat) : Int)), (0, (x))]) (h' := h) (o138_4 hB) rfl ?_
      refine w_irem (z := ((x) % 1000)) (pc' := 12) (o138_5 hB) rfl (remI_p (by omega) (by decide)) ?_
      refine w_pl (pc' := 13) (lv' := [(0, (2, ((0 : Nat) : Int))), (1, (0, (x))), (2, (0, (n)))]) (st' := [(2, ((0 : Nat) : Int)), (0, ((x) % 1000))]) (h' := h) (o138_6 hB) rfl ?_
      refine w_getf (A := 0) (t := 2) (z := ((1 : Nat) : Int)) (pc' := 16) (o138_7 hB) rfl (by decide +kernel) (hR (0, 0, 1) (by decide)) ?_
      refine w_getf (A := 1) (t := 2) (z := ((2 : Nat) : Int)) (pc' := 19) (o138_8 hB) rfl (by decide +kernel) (hR (1, 0, 2) (by decide)) ?_
      refine w_getf (A := 2) (t := 0) (z := (w)) (pc' := 22) (o138_9 hB) rfl (by decide +kernel) hw ?_
      refine w_icmp (pt := 27) (pf := 25) (o138_10 hB) (by decide) rfl (fun e => ?_) (fun e => ?_)
      · have f88 : (((x) % 1000) ≤ (w)) := e
        refine w_pl (pc' := 28) (lv' := [(0, (2, ((0 : Nat) : Int))), (1, (0, (x))), (2, (0, (n)))]) (st' := [(2, ((0 : Nat) : Int))]) (h' := h) (o138_13 hB) rfl ?_
        refine w_getf (A := 0) (t := 2) (z := ((1 : Nat) : Int)) (pc' := 31) (o138_14 hB) rfl (by decide +kernel) (hR (0, 0, 1) (by decide)) ?_
        refine w_getf (A := 1) (t := 2) (z := ((17 : Nat) : Int)) (pc' := 34) (o138_15 hB) rfl (by decide +kernel) (hR (1, 2, 17) (by decide)) ?_
        refine w_pl (pc' := 35) (lv' := [(0, (2, ((0 : Nat) : Int))), (1, (0, (x))), (2, (0, (n)))]) (st' := [(0, (x)), (2, ((17 : Nat) : Int))]) (h' := h) (o138_16 hB) rfl ?_
        refine w_pl (pc' := 36) (lv' := [(0, (2, ((0 : Nat) : Int))), (1, (0, (x))), (2, (0, (n)))]) (st' := [(0, (n)), (0, (x)), (2, ((17 : Nat) : Int))]) (h' := h) (o138_17 hB) rfl ?_
        refine w_pl (pc' := 37) (lv' := [(0, (2, ((0 : Nat) : Int))), (1, (0, (x))), (2, (0, (n)))]) (st' := [(2, ((0 : Nat) : Int)), (0, (n)), (0, (x)), (2, ((17 : Nat) : Int))]) (h' := h) (o138_18 hB) rfl ?_
        refine w_getf (A := 0) (t := 2) (z := ((1 : Nat) : Int)) (pc' := 40) (o138_19 hB) rfl (by decide +kernel) (hR (0, 0, 1) (by decide)) ?_
        refine w_getf (A := 1) (t := 2) (z := ((2 : Nat) : Int)) (pc' := 43) (o138_20 hB) rfl (by decide +kernel) (hR (1, 0, 2) (by decide)) ?_
        refine w_getf (A := 2) (t := 0) (z := (w)) (pc' := 46) (o138_21 hB) rfl (by decide +kernel) hw ?_
        refine w_callV (A := 17) (as := [(0, (x)), (0, (n)), (0, (w))]) (rest := []) (n := 3) (pc' := 49) 9 hB (o138_22 hB) rfl (by decide +kernel) rfl rfl (Nat.le_of_ble_eq_true rfl) (m_addBoxes hB ht z_x z_n (by unfold in32; omega) hc lc (fun f89 => ?_) (fun f90 => ?_) (fun f91 => ?_))
        · show HW g l _ 138 _ _ 49 [(0, (2, ((0 : Nat) : Int))), (1, (0, (x))), (2, (0, (n)))] [(0, (-1))] h
          exact w_iret (o138_23 hB) mr138 (by unfold in32; omega) (a0 (by omega))
        · show HW g l _ 138 _ _ 49 [(0, (2, ((0 : Nat) : Int))), (1, (0, (x))), (2, (0, (n)))] [(0, (-2))] h
          exact w_iret (o138_23 hB) mr138 (by unfold in32; omega) (a1 (by omega))
        · show HW g l _ 138 _ _ 49 [(0, (2, ((0 : Nat) : Int))), (1, (0, (x))), (2, (0, (n)))] [(0, ((c : Nat) : Int))] (hup (hup (hup (hup h 18 (c) ((x))) 19 (c) ((n))) 20 (c) ((w))) 17 (0) (((c + 1) : Nat) : Int))
          exact w_iret (o138_23 hB) mr138 (by unfold in32; omega) (qe (a2 (by omega)) (by omega))
      · have f92 : ¬ (((x) % 1000) ≤ (w)) := e
        refine w_pl (pc' := 26) (lv' := [(0, (2, ((0 : Nat) : Int))), (1, (0, (x))), (2, (0, (n)))]) (st' := [(0, (-1))]) (h' := h) (o138_11 hB) rfl ?_
        exact w_iret (o138_12 hB) mr138 (by unfold in32; omega) (a0 (by omega))
  · show HW g l _ 138 _ _ 4 [(0, (2, ((0 : Nat) : Int))), (1, (0, (x))), (2, (0, (n)))] [(0, ((0 : Nat) : Int))] h
    refine w_ifc (pt := 25) (pf := 7) (o138_2 hB) (by decide) rfl (fun e => ?_) (fun e => ?_)
    · have f93 : (((0 : Nat) : Int) = (0)) := e
      refine w_pl (pc' := 26) (lv' := [(0, (2, ((0 : Nat) : Int))), (1, (0, (x))), (2, (0, (n)))]) (st' := [(0, (-1))]) (h' := h) (o138_11 hB) rfl ?_
      exact w_iret (o138_12 hB) mr138 (by unfold in32; omega) (a0 (by omega))
    · have f94 : ¬ (((0 : Nat) : Int) = (0)) := e
      exfalso; omega
def s_boxesB (vs : List bV) (h : bH) (r : Option bV) (h' : bH) : Prop := TH h ∧ ∀ (x n : Int) (c : Nat) (w : Int) , vs = [(2, ((0 : Nat) : Int)), (0, x), (0, n)] → h 17 0 = (c : Int) → h 2 0 = w → ((¬ ((0 ≤ x ∧ x / 10000 < 6 ∧ x / 1000 % 10 < 4 ∧ x % 1000 < 240) ∧ x % 1000 ≤ w ∧ 1 ≤ n ∧ n ≤ 999)) ∧ r = some (0, (-1)) ∧ h = h') ∨ ((((0 ≤ x ∧ x / 10000 < 6 ∧ x / 1000 % 10 < 4 ∧ x % 1000 < 240) ∧ x % 1000 ≤ w ∧ 1 ≤ n ∧ n ≤ 999) ∧ c = 24) ∧ r = some (0, (-2)) ∧ h = h') ∨ ((((0 ≤ x ∧ x / 10000 < 6 ∧ x / 1000 % 10 < 4 ∧ x % 1000 < 240) ∧ x % 1000 ≤ w ∧ 1 ≤ n ∧ n ≤ 999) ∧ c < 24) ∧ r = some (0, (c : Int)) ∧ h' = (hup (hup (hup (hup h 18 (c) ((x))) 19 (c) ((n))) 20 (c) ((w))) 17 (0) (((c + 1) : Nat) : Int)))
def w_boxesB : List (Nat × Nat × Nat) := [(17, 0, 1), (18, 0, 24), (19, 0, 24), (20, 0, 24)]
def q_boxesB : aCt := cH 138 1 w_boxesB 2 0
theorem sk_boxesB (hB : BytesOK) (g : bG) (l : Launch) : SK g l gT q_boxesB s_boxesB := by
  intro d hd ρ h Q hcore hQ
  have hcore : core (PofW gT (some w_boxesB) false) (gsc g) h ρ h (List.replicate 2 r32, [], [], 212) := hcore
  have ht := hTH hcore
  have y0 := r32_0 hcore 0 (by decide)
  have y1 := r32_0 hcore 1 (by decide)
  have y00 := y0
  unfold in32 at y00
  have y01 := y1
  unfold in32 at y01
  obtain ⟨c, hc, lc⟩ := nat_to ht (a := 17) (j := 0) (n := 24) (by decide +kernel)
  have r_w := ty_2_c0 ht
  obtain ⟨d', rfl⟩ : ∃ d', d = d' + 1 := ⟨d - 1, by have : 1 ≤ d := hd; omega⟩
  rw [show evS ρ (ctA q_boxesB) = [(2, ((0 : Nat) : Int)), (0, ρ 0), (0, ρ 1)] from evA2]
  refine m_boxesB (x := ρ 0) (n := ρ 1) hB ht y0 y1 hc lc rfl (fun hn => ?_) (fun hn => ?_) (fun hn => ?_)
  · refine hQ _ _ (hpost hcore (ht) (fun _ _ _ => rfl) (by unfold in32; omega)) ⟨ht, fun x n c_c v_w hv e_c e_w => ?_⟩
    have hv := (evA2 (ρ := ρ)).symm.trans hv
    obtain ⟨rfl, rfl⟩ := vsA2 hv
    obtain rfl : c_c = c := by have := e_c.symm.trans hc; omega
    subst e_w
    exact Or.inl ⟨hn, rfl, rfl⟩
  · refine hQ _ _ (hpost hcore (ht) (fun _ _ _ => rfl) (by unfold in32; omega)) ⟨ht, fun x n c_c v_w hv e_c e_w => ?_⟩
    have hv := (evA2 (ρ := ρ)).symm.trans hv
    obtain ⟨rfl, rfl⟩ := vsA2 hv
    obtain rfl : c_c = c := by have := e_c.symm.trans hc; omega
    subst e_w
    exact Or.inr (Or.inl ⟨hn, rfl, rfl⟩)
  · refine hQ _ _ (hpost hcore (((((ht).ups2 (a := 18) (s := 0) (st := 1) (n := 24) (lo := (0)) (hi := 2147483647) (r := c) (by decide +kernel) (by omega) (by omega) (by omega)).ups2 (a := 19) (s := 0) (st := 1) (n := 24) (lo := (0)) (hi := 999) (r := c) (by decide +kernel) (by omega) (by omega) (by omega)).ups2 (a := 20) (s := 0) (st := 1) (n := 24) (lo := (0)) (hi := 239) (r := c) (by decide +kernel) (by omega) (by omega) (by omega)).upc (a := 17) (j := 0) (lo := (0)) (hi := 24) (by decide +kernel) (by omega)) (fr_up (fr_up (fr_up (fr_up (fun _ _ _ => rfl) (wr_in (lo := 0) (hi := 24) (by decide) (by omega) (by omega))) (wr_in (lo := 0) (hi := 24) (by decide) (by omega) (by omega))) (wr_in (lo := 0) (hi := 24) (by decide) (by omega) (by omega))) (wr_in (lo := 0) (hi := 1) (by decide) (by omega) (by omega))) (by unfold in32; omega)) ⟨ht, fun x n c_c v_w hv e_c e_w => ?_⟩
    have hv := (evA2 (ρ := ρ)).symm.trans hv
    obtain ⟨rfl, rfl⟩ := vsA2 hv
    obtain rfl : c_c = c := by have := e_c.symm.trans hc; omega
    subst e_w
    exact Or.inr (Or.inr (⟨hn, rfl, rfl⟩))
theorem m_boxesM (hB : BytesOK) {g : bG} {l : Launch} {d : Nat} {Q : bQ} {h : bH} {x n : Int} (ht : TH h) (z_x : in32 x) (z_n : in32 n) {c : Nat} (hc : h 194 5 = (c : Int)) (lc : c ≤ 24) {w : Int} (hw : h 194 0 = w)  (a0 : ¬ ((0 ≤ x ∧ x / 10000 < 6 ∧ x / 1000 % 10 < 4 ∧ x % 1000 < 240) ∧ x % 1000 ≤ w ∧ 1 ≤ n ∧ n ≤ 999) → Q (some (0, (-1))) h) (a1 : ((0 ≤ x ∧ x / 10000 < 6 ∧ x / 1000 % 10 < 4 ∧ x % 1000 < 240) ∧ x % 1000 ≤ w ∧ 1 ≤ n ∧ n ≤ 999) ∧ c = 24 → Q (some (0, (-2))) h) (a2 : ((0 ≤ x ∧ x / 10000 < 6 ∧ x / 1000 % 10 < 4 ∧ x % 1000 < 240) ∧ x % 1000 ≤ w ∧ 1 ≤ n ∧ n ≤ 999) ∧ c < 24 → Q (some (0, (c : Int))) (hup (hup (hup (hup (hup (hup h 194 ((306 + (5 * c))) ((x) / 10000)) 194 (((306 + (5 * c)) + 1)) (((x) / 1000) % 10)) 194 (((306 + (5 * c)) + 2)) ((x) % 1000)) 194 (((306 + (5 * c)) + 3)) (n)) 194 (((306 + (5 * c)) + 4)) (w)) 194 (5) (((c + 1) : Nat) : Int))) : MH g l (d + 1 + 1 + 1) 230 212 212 [(2, ((193 : Nat) : Int)), (0, (x)), (0, (n))] h Q := by
  have hR := ht.r
  have z0_x := z_x
  have z0_n := z_n
  unfold in32 at z0_x
  unfold in32 at z0_n
  have r_w := ty_194_c0 ht
  rw [hw] at r_w
  refine mh_go hB mg230 ml230 (Nat.le_of_ble_eq_true rfl) ?_
  show HW g l (d + 1 + 1 + 1) 230 _ _ 0 [(0, (2, ((193 : Nat) : Int))), (1, (0, (x))), (2, (0, (n)))] [] h
  refine w_pl (pc' := 1) (lv' := [(0, (2, ((193 : Nat) : Int))), (1, (0, (x))), (2, (0, (n)))]) (st' := [(0, (x))]) (h' := h) (o230_0 hB) rfl ?_
  refine w_callS (as := [(0, (x))]) (rest := []) (n := 1) (pc' := 4) hB (o230_1 hB) rfl (by decide +kernel) rfl rfl (Nat.le_of_ble_eq_true rfl) (m_isWhereM hB z_x (fun f111 => ?_) (fun f112 => ?_))
  · show HW g l _ 230 _ _ 4 [(0, (2, ((193 : Nat) : Int))), (1, (0, (x))), (2, (0, (n)))] [(0, ((1 : Nat) : Int))] h
    refine w_ifc (pt := 32) (pf := 7) (o230_2 hB) (by decide) rfl (fun e => ?_) (fun e => ?_)
    · have f113 : (((1 : Nat) : Int) = (0)) := e
      exfalso; omega
    · have f114 : ¬ (((1 : Nat) : Int) = (0)) := e
      refine w_pl (pc' := 8) (lv' := [(0, (2, ((193 : Nat) : Int))), (1, (0, (x))), (2, (0, (n)))]) (st' := [(0, (x))]) (h' := h) (o230_3 hB) rfl ?_
      refine w_pl (pc' := 11) (lv' := [(0, (2, ((193 : Nat) : Int))), (1, (0, (x))), (2, (0, (n)))]) (st' := [(0, ((1000 : Nat) : Int)), (0, (x))]) (h' := h) (o230_4 hB) rfl ?_
      refine w_irem (z := ((x) % 1000)) (pc' := 12) (o230_5 hB) rfl (remI_p (by omega) (by decide)) ?_
      refine w_pl (pc' := 13) (lv' := [(0, (2, ((193 : Nat) : Int))), (1, (0, (x))), (2, (0, (n)))]) (st' := [(2, ((193 : Nat) : Int)), (0, ((x) % 1000))]) (h' := h) (o230_6 hB) rfl ?_
      refine w_getf (A := 193) (t := 2) (z := ((194 : Nat) : Int)) (pc' := 16) (o230_7 hB) rfl (by decide +kernel) (hR (193, 0, 194) (by decide)) ?_
      refine w_pl (pc' := 17) (lv' := [(0, (2, ((193 : Nat) : Int))), (1, (0, (x))), (2, (0, (n)))]) (st' := [(0, ((0 : Nat) : Int)), (2, ((194 : Nat) : Int)), (0, ((x) % 1000))]) (h' := h) (o230_8 hB) rfl ?_
      refine w_iald (A := 194) (i := 0) (n := 1984) (z := (w)) (pc' := 18) (o230_9 hB) rfl (by decide +kernel) (by omega) hw ?_
      refine w_icmp (pt := 32) (pf := 21) (o230_10 hB) (by decide) rfl (fun e => ?_) (fun e => ?_)
      · have f115 : ((w) < ((x) % 1000)) := e
        refine w_pl (pc' := 33) (lv' := [(0, (2, ((193 : Nat) : Int))), (1, (0, (x))), (2, (0, (n)))]) (st' := [(0, (-1))]) (h' := h) (o230_16 hB) rfl ?_
        exact w_iret (o230_17 hB) mr230 (by unfold in32; omega) (a0 (by omega))
      · have f116 : ¬ ((w) < ((x) % 1000)) := e
        refine w_pl (pc' := 22) (lv' := [(0, (2, ((193 : Nat) : Int))), (1, (0, (x))), (2, (0, (n)))]) (st' := [(0, (n))]) (h' := h) (o230_11 hB) rfl ?_
        refine w_pl (pc' := 23) (lv' := [(0, (2, ((193 : Nat) : Int))), (1, (0, (x))), (2, (0, (n)))]) (st' := [(0, ((1 : Nat) : Int)), (0, (n))]) (h' := h) (o230_12 hB) rfl ?_
        refine w_pl (pc' := 26) (lv' := [(0, (2, ((193 : Nat) : Int))), (1, (0, (x))), (2, (0, (n)))]) (st' := [(0, ((999 : Nat) : Int)), (0, ((1 : Nat) : Int)), (0, (n))]) (h' := h) (o230_13 hB) rfl ?_
        refine w_callS (as := [(0, (n)), (0, ((1 : Nat) : Int)), (0, ((999 : Nat) : Int))]) (rest := []) (n := 3) (pc' := 29) hB (o230_14 hB) rfl (by decide +kernel) rfl rfl (Nat.le_of_ble_eq_true rfl) (m_in hB (fun f117 => ?_) (fun f118 => ?_))
        · show HW g l _ 230 _ _ 29 [(0, (2, ((193 : Nat) : Int))), (1, (0, (x))), (2, (0, (n)))] [(0, ((1 : Nat) : Int))] h
          refine w_ifc (pt := 34) (pf := 32) (o230_15 hB) (by decide) rfl (fun e => ?_) (fun e => ?_)
          · have f119 : (((1 : Nat) : Int) ≠ (0)) := e
            refine w_pl (pc' := 35) (lv' := [(0, (2, ((193 : Nat) : Int))), (1, (0, (x))), (2, (0, (n)))]) (st' := [(2, ((193 : Nat) : Int))]) (h' := h) (o230_18 hB) rfl ?_
            refine w_getf (A := 193) (t := 2) (z := ((194 : Nat) : Int)) (pc' := 38) (o230_19 hB) rfl (by decide +kernel) (hR (193, 0, 194) (by decide)) ?_
            refine w_pl (pc' := 39) (lv' := [(0, (2, ((193 : Nat) : Int))), (1, (0, (x))), (2, (0, (n)))]) (st' := [(0, ((5 : Nat) : Int)), (2, ((194 : Nat) : Int))]) (h' := h) (o230_20 hB) rfl ?_
            refine w_iald (A := 194) (i := 5) (n := 1984) (z := ((c : Nat) : Int)) (pc' := 40) (o230_21 hB) rfl (by decide +kernel) (by omega) hc ?_
            refine w_pl (pc' := 42) (lv' := [(0, (2, ((193 : Nat) : Int))), (1, (0, (x))), (2, (0, (n)))]) (st' := [(0, ((24 : Nat) : Int)), (0, ((c : Nat) : Int))]) (h' := h) (o230_22 hB) rfl ?_
            refine w_icmp (pt := 48) (pf := 45) (o230_23 hB) (by decide) rfl (fun e => ?_) (fun e => ?_)
            · have f120 : (((c : Nat) : Int) ≠ ((24 : Nat) : Int)) := e
              refine w_pl (pc' := 51) (lv' := [(0, (2, ((193 : Nat) : Int))), (1, (0, (x))), (2, (0, (n)))]) (st' := [(0, ((306 : Nat) : Int))]) (h' := h) (o230_26 hB) rfl ?_
              refine w_pl (pc' := 52) (lv' := [(0, (2, ((193 : Nat) : Int))), (1, (0, (x))), (2, (0, (n)))]) (st' := [(0, ((5 : Nat) : Int)), (0, ((306 : Nat) : Int))]) (h' := h) (o230_27 hB) rfl ?_
              refine w_pl (pc' := 53) (lv' := [(0, (2, ((193 : Nat) : Int))), (1, (0, (x))), (2, (0, (n)))]) (st' := [(2, ((193 : Nat) : Int)), (0, ((5 : Nat) : Int)), (0, ((306 : Nat) : Int))]) (h' := h) (o230_28 hB) rfl ?_
              refine w_getf (A := 193) (t := 2) (z := ((194 : Nat) : Int)) (pc' := 56) (o230_29 hB) rfl (by decide +kernel) (hR (193, 0, 194) (by decide)) ?_
              refine w_pl (pc' := 57) (lv' := [(0, (2, ((193 : Nat) : Int))), (1, (0, (x))), (2, (0, (n)))]) (st' := [(0, ((5 : Nat) : Int)), (2, ((194 : Nat) : Int)), (0, ((5 : Nat) : Int)), (0, ((306 : Nat) : Int))]) (h' := h) (o230_30 hB) rfl ?_
              refine w_iald (A := 194) (i := 5) (n := 1984) (z := ((c : Nat) : Int)) (pc' := 58) (o230_31 hB) rfl (by decide +kernel) (by omega) hc ?_
              refine w_imul (z := (((5 * c) : Nat) : Int)) (pc' := 59) (o230_32 hB) rfl (w32_e (by omega) (by omega)) ?_
              refine w_iadd (z := (((306 + (5 * c)) : Nat) : Int)) (pc' := 60) (o230_33 hB) rfl (w32_e (by omega) (by omega)) ?_
              refine w_st (tg := 0) (j := 3) (len := 1) (pc' := 61) (lv' := [(3, (0, (((306 + (5 * c)) : Nat) : Int))), (0, (2, ((193 : Nat) : Int))), (1, (0, (x))), (2, (0, (n)))]) (o230_34 hB) rfl rfl ml230 (by decide) rfl ?_
              refine w_pl (pc' := 62) (lv' := [(3, (0, (((306 + (5 * c)) : Nat) : Int))), (0, (2, ((193 : Nat) : Int))), (1, (0, (x))), (2, (0, (n)))]) (st' := [(2, ((193 : Nat) : Int))]) (h' := h) (o230_35 hB) rfl ?_
              refine w_getf (A := 193) (t := 2) (z := ((194 : Nat) : Int)) (pc' := 65) (o230_36 hB) rfl (by decide +kernel) (hR (193, 0, 194) (by decide)) ?_
              refine w_pl (pc' := 66) (lv' := [(3, (0, (((306 + (5 * c)) : Nat) : Int))), (0, (2, ((193 : Nat) : Int))), (1, (0, (x))), (2, (0, (n)))]) (st' := [(0, (((306 + (5 * c)) : Nat) : Int)), (2, ((194 : Nat) : Int))]) (h' := h) (o230_37 hB) rfl ?_
              refine w_pl (pc' := 67) (lv' := [(3, (0, (((306 + (5 * c)) : Nat) : Int))), (0, (2, ((193 : Nat) : Int))), (1, (0, (x))), (2, (0, (n)))]) (st' := [(0, (x)), (0, (((306 + (5 * c)) : Nat) : Int)), (2, ((194 : Nat) : Int))]) (h' := h) (o230_38 hB) rfl ?_
              refine w_pl (pc' := 70) (lv' := [(3, (0, (((306 + (5 * c)) : Nat) : Int))), (0, (2, ((193 : Nat) : Int))), (1, (0, (x))), (2, (0, (n)))]) (st' := [(0, ((10000 : Nat) : Int)), (0, (x)), (0, (((306 + (5 * c)) : Nat) : Int)), (2, ((194 : Nat) : Int))]) (h' := h) (o230_39 hB) rfl ?_
              refine w_idiv (z := ((x) / 10000)) (pc' := 71) (o230_40 hB) rfl (divI_p (by omega) (by omega) (by decide)) ?_
              refine w_iast (A := 194) (i := (306 + (5 * c))) (n := 1984) (pc' := 72) (o230_41 hB) rfl (by decide +kernel) (by omega) ?_
              refine w_pl (pc' := 73) (lv' := [(3, (0, (((306 + (5 * c)) : Nat) : Int))), (0, (2, ((193 : Nat) : Int))), (1, (0, (x))), (2, (0, (n)))]) (st' := [(2, ((193 : Nat) : Int))]) (h' := (hup h 194 ((306 + (5 * c))) ((x) / 10000))) (o230_42 hB) rfl ?_
              refine w_getf (A := 193) (t := 2) (z := ((194 : Nat) : Int)) (pc' := 76) (o230_43 hB) rfl (by decide +kernel) ((hup_ne (by decide)).trans (hR (193, 0, 194) (by decide))) ?_
              refine w_pl (pc' := 77) (lv' := [(3, (0, (((306 + (5 * c)) : Nat) : Int))), (0, (2, ((193 : Nat) : Int))), (1, (0, (x))), (2, (0, (n)))]) (st' := [(0, (((306 + (5 * c)) : Nat) : Int)), (2, ((194 : Nat) : Int))]) (h' := (hup h 194 ((306 + (5 * c))) ((x) / 10000))) (o230_44 hB) rfl ?_
              refine w_pl (pc' := 78) (lv' := [(3, (0, (((306 + (5 * c)) : Nat) : Int))), (0, (2, ((193 : Nat) : Int))), (1, (0, (x))), (2, (0, (n)))]) (st' := [(0, ((1 : Nat) : Int)), (0, (((306 + (5 * c)) : Nat) : Int)), (2, ((194 : Nat) : Int))]) (h' := (hup h 194 ((306 + (5 * c))) ((x) / 10000))) (o230_45 hB) rfl ?_
              refine w_iadd (z := ((((306 + (5 * c)) + 1) : Nat) : Int)) (pc' := 79) (o230_46 hB) rfl (w32_e (by omega) (by omega)) ?_
              refine w_pl (pc' := 80) (lv' := [(3, (0, (((306 + (5 * c)) : Nat) : Int))), (0, (2, ((193 : Nat) : Int))), (1, (0, (x))), (2, (0, (n)))]) (st' := [(0, (x)), (0, ((((306 + (5 * c)) + 1) : Nat) : Int)), (2, ((194 : Nat) : Int))]) (h' := (hup h 194 ((306 + (5 * c))) ((x) / 10000))) (o230_47 hB) rfl ?_
              refine w_pl (pc' := 83) (lv' := [(3, (0, (((306 + (5 * c)) : Nat) : Int))), (0, (2, ((193 : Nat) : Int))), (1, (0, (x))), (2, (0, (n)))]) (st' := [(0, ((1000 : Nat) : Int)), (0, (x)), (0, ((((306 + (5 * c)) + 1) : Nat) : Int)), (2, ((194 : Nat) : Int))]) (h' := (hup h 194 ((306 + (5 * c))) ((x) / 10000))) (o230_48 hB) rfl ?_
              refine w_idiv (z := ((x) / 1000)) (pc' := 84) (o230_49 hB) rfl (divI_p (by omega) (by omega) (by decide)) ?_
              refine w_pl (pc' := 86) (lv' := [(3, (0, (((306 + (5 * c)) : Nat) : Int))), (0, (2, ((193 : Nat) : Int))), (1, (0, (x))), (2, (0, (n)))]) (st' := [(0, ((10 : Nat) : Int)), (0, ((x) / 1000)), (0, ((((306 + (5 * c)) + 1) : Nat) : Int)), (2, ((194 : Nat) : Int))]) (h' := (hup h 194 ((306 + (5 * c))) ((x) / 10000))) (o230_50 hB) rfl ?_
              refine w_irem (z := (((x) / 1000) % 10)) (pc' := 87) (o230_51 hB) rfl (remI_p (by omega) (by decide)) ?_
              refine w_iast (A := 194) (i := ((306 + (5 * c)) + 1)) (n := 1984) (pc' := 88) (o230_52 hB) rfl (by decide +kernel) (by omega) ?_
              refine w_pl (pc' := 89) (lv' := [(3, (0, (((306 + (5 * c)) : Nat) : Int))), (0, (2, ((193 : Nat) : Int))), (1, (0, (x))), (2, (0, (n)))]) (st' := [(2, ((193 : Nat) : Int))]) (h' := (hup (hup h 194 ((306 + (5 * c))) ((x) / 10000)) 194 (((306 + (5 * c)) + 1)) (((x) / 1000) % 10))) (o230_53 hB) rfl ?_
              refine w_getf (A := 193) (t := 2) (z := ((194 : Nat) : Int)) (pc' := 92) (o230_54 hB) rfl (by decide +kernel) ((hup_ne (by decide)).trans ((hup_ne (by decide)).trans (hR (193, 0, 194) (by decide)))) ?_
              refine w_pl (pc' := 93) (lv' := [(3, (0, (((306 + (5 * c)) : Nat) : Int))), (0, (2, ((193 : Nat) : Int))), (1, (0, (x))), (2, (0, (n)))]) (st' := [(0, (((306 + (5 * c)) : Nat) : Int)), (2, ((194 : Nat) : Int))]) (h' := (hup (hup h 194 ((306 + (5 * c))) ((x) / 10000)) 194 (((306 + (5 * c)) + 1)) (((x) / 1000) % 10))) (o230_55 hB) rfl ?_
              refine w_pl (pc' := 94) (lv' := [(3, (0, (((306 + (5 * c)) : Nat) : Int))), (0, (2, ((193 : Nat) : Int))), (1, (0, (x))), (2, (0, (n)))]) (st' := [(0, ((2 : Nat) : Int)), (0, (((306 + (5 * c)) : Nat) : Int)), (2, ((194 : Nat) : Int))]) (h' := (hup (hup h 194 ((306 + (5 * c))) ((x) / 10000)) 194 (((306 + (5 * c)) + 1)) (((x) / 1000) % 10))) (o230_56 hB) rfl ?_
              refine w_iadd (z := ((((306 + (5 * c)) + 2) : Nat) : Int)) (pc' := 95) (o230_57 hB) rfl (w32_e (by omega) (by omega)) ?_
              refine w_pl (pc' := 96) (lv' := [(3, (0, (((306 + (5 * c)) : Nat) : Int))), (0, (2, ((193 : Nat) : Int))), (1, (0, (x))), (2, (0, (n)))]) (st' := [(0, (x)), (0, ((((306 + (5 * c)) + 2) : Nat) : Int)), (2, ((194 : Nat) : Int))]) (h' := (hup (hup h 194 ((306 + (5 * c))) ((x) / 10000)) 194 (((306 + (5 * c)) + 1)) (((x) / 1000) % 10))) (o230_58 hB) rfl ?_
              refine w_pl (pc' := 99) (lv' := [(3, (0, (((306 + (5 * c)) : Nat) : Int))), (0, (2, ((193 : Nat) : Int))), (1, (0, (x))), (2, (0, (n)))]) (st' := [(0, ((1000 : Nat) : Int)), (0, (x)), (0, ((((306 + (5 * c)) + 2) : Nat) : Int)), (2, ((194 : Nat) : Int))]) (h' := (hup (hup h 194 ((306 + (5 * c))) ((x) / 10000)) 194 (((306 + (5 * c)) + 1)) (((x) / 1000) % 10))) (o230_59 hB) rfl ?_
              refine w_irem (z := ((x) % 1000)) (pc' := 100) (o230_60 hB) rfl (remI_p (by omega) (by decide)) ?_
              refine w_iast (A := 194) (i := ((306 + (5 * c)) + 2)) (n := 1984) (pc' := 101) (o230_61 hB) rfl (by decide +kernel) (by omega) ?_
              refine w_pl (pc' := 102) (lv' := [(3, (0, (((306 + (5 * c)) : Nat) : Int))), (0, (2, ((193 : Nat) : Int))), (1, (0, (x))), (2, (0, (n)))]) (st' := [(2, ((193 : Nat) : Int))]) (h' := (hup (hup (hup h 194 ((306 + (5 * c))) ((x) / 10000)) 194 (((306 + (5 * c)) + 1)) (((x) / 1000) % 10)) 194 (((306 + (5 * c)) + 2)) ((x) % 1000))) (o230_62 hB) rfl ?_
              refine w_getf (A := 193) (t := 2) (z := ((194 : Nat) : Int)) (pc' := 105) (o230_63 hB) rfl (by decide +kernel) ((hup_ne (by decide)).trans ((hup_ne (by decide)).trans ((hup_ne (by decide)).trans (hR (193, 0, 194) (by decide))))) ?_
              refine w_pl (pc' := 106) (lv' := [(3, (0, (((306 + (5 * c)) : Nat) : Int))), (0, (2, ((193 : Nat) : Int))), (1, (0, (x))), (2, (0, (n)))]) (st' := [(0, (((306 + (5 * c)) : Nat) : Int)), (2, ((194 : Nat) : Int))]) (h' := (hup (hup (hup h 194 ((306 + (5 * c))) ((x) / 10000)) 194 (((306 + (5 * c)) + 1)) (((x) / 1000) % 10)) 194 (((306 + (5 * c)) + 2)) ((x) % 1000))) (o230_64 hB) rfl ?_
              refine w_pl (pc' := 107) (lv' := [(3, (0, (((306 + (5 * c)) : Nat) : Int))), (0, (2, ((193 : Nat) : Int))), (1, (0, (x))), (2, (0, (n)))]) (st' := [(0, ((3 : Nat) : Int)), (0, (((306 + (5 * c)) : Nat) : Int)), (2, ((194 : Nat) : Int))]) (h' := (hup (hup (hup h 194 ((306 + (5 * c))) ((x) / 10000)) 194 (((306 + (5 * c)) + 1)) (((x) / 1000) % 10)) 194 (((306 + (5 * c)) + 2)) ((x) % 1000))) (o230_65 hB) rfl ?_
              refine w_iadd (z := ((((306 + (5 * c)) + 3) : Nat) : Int)) (pc' := 108) (o230_66 hB) rfl (w32_e (by omega) (by omega)) ?_
              refine w_pl (pc' := 109) (lv' := [(3, (0, (((306 + (5 * c)) : Nat) : Int))), (0, (2, ((193 : Nat) : Int))), (1, (0, (x))), (2, (0, (n)))]) (st' := [(0, (n)), (0, ((((306 + (5 * c)) + 3) : Nat) : Int)), (2, ((194 : Nat) : Int))]) (h' := (hup (hup (hup h 194 ((306 + (5 * c))) ((x) / 10000)) 194 (((306 + (5 * c)) + 1)) (((x) / 1000) % 10)) 194 (((306 + (5 * c)) + 2)) ((x) % 1000))) (o230_67 hB) rfl ?_
              refine w_iast (A := 194) (i := ((306 + (5 * c)) + 3)) (n := 1984) (pc' := 110) (o230_68 hB) rfl (by decide +kernel) (by omega) ?_
              refine w_pl (pc' := 111) (lv' := [(3, (0, (((306 + (5 * c)) : Nat) : Int))), (0, (2, ((193 : Nat) : Int))), (1, (0, (x))), (2, (0, (n)))]) (st' := [(2, ((193 : Nat) : Int))]) (h' := (hup (hup (hup (hup h 194 ((306 + (5 * c))) ((x) / 10000)) 194 (((306 + (5 * c)) + 1)) (((x) / 1000) % 10)) 194 (((306 + (5 * c)) + 2)) ((x) % 1000)) 194 (((306 + (5 * c)) + 3)) (n))) (o230_69 hB) rfl ?_
              refine w_getf (A := 193) (t := 2) (z := ((194 : Nat) : Int)) (pc' := 114) (o230_70 hB) rfl (by decide +kernel) ((hup_ne (by decide)).trans ((hup_ne (by decide)).trans ((hup_ne (by decide)).trans ((hup_ne (by decide)).trans (hR (193, 0, 194) (by decide)))))) ?_
              refine w_pl (pc' := 115) (lv' := [(3, (0, (((306 + (5 * c)) : Nat) : Int))), (0, (2, ((193 : Nat) : Int))), (1, (0, (x))), (2, (0, (n)))]) (st' := [(0, (((306 + (5 * c)) : Nat) : Int)), (2, ((194 : Nat) : Int))]) (h' := (hup (hup (hup (hup h 194 ((306 + (5 * c))) ((x) / 10000)) 194 (((306 + (5 * c)) + 1)) (((x) / 1000) % 10)) 194 (((306 + (5 * c)) + 2)) ((x) % 1000)) 194 (((306 + (5 * c)) + 3)) (n))) (o230_71 hB) rfl ?_
              refine w_pl (pc' := 116) (lv' := [(3, (0, (((306 + (5 * c)) : Nat) : Int))), (0, (2, ((193 : Nat) : Int))), (1, (0, (x))), (2, (0, (n)))]) (st' := [(0, ((4 : Nat) : Int)), (0, (((306 + (5 * c)) : Nat) : Int)), (2, ((194 : Nat) : Int))]) (h' := (hup (hup (hup (hup h 194 ((306 + (5 * c))) ((x) / 10000)) 194 (((306 + (5 * c)) + 1)) (((x) / 1000) % 10)) 194 (((306 + (5 * c)) + 2)) ((x) % 1000)) 194 (((306 + (5 * c)) + 3)) (n))) (o230_72 hB) rfl ?_
              refine w_iadd (z := ((((306 + (5 * c)) + 4) : Nat) : Int)) (pc' := 117) (o230_73 hB) rfl (w32_e (by omega) (by omega)) ?_
              refine w_pl (pc' := 118) (lv' := [(3, (0, (((306 + (5 * c)) : Nat) : Int))), (0, (2, ((193 : Nat) : Int))), (1, (0, (x))), (2, (0, (n)))]) (st' := [(2, ((193 : Nat) : Int)), (0, ((((306 + (5 * c)) + 4) : Nat) : Int)), (2, ((194 : Nat) : Int))]) (h' := (hup (hup (hup (hup h 194 ((306 + (5 * c))) ((x) / 10000)) 194 (((306 + (5 * c)) + 1)) (((x) / 1000) % 10)) 194 (((306 + (5 * c)) + 2)) ((x) % 1000)) 194 (((306 + (5 * c)) + 3)) (n))) (o230_74 hB) rfl ?_
              refine w_getf (A := 193) (t := 2) (z := ((194 : Nat) : Int)) (pc' := 121) (o230_75 hB) rfl (by decide +kernel) ((hup_ne (by decide)).trans ((hup_ne (by decide)).trans ((hup_ne (by decide)).trans ((hup_ne (by decide)).trans (hR (193, 0, 194) (by decide)))))) ?_
              refine w_pl (pc' := 122) (lv' := [(3, (0, (((306 + (5 * c)) : Nat) : Int))), (0, (2, ((193 : Nat) : Int))), (1, (0, (x))), (2, (0, (n)))]) (st' := [(0, ((0 : Nat) : Int)), (2, ((194 : Nat) : Int)), (0, ((((306 + (5 * c)) + 4) : Nat) : Int)), (2, ((194 : Nat) : Int))]) (h' := (hup (hup (hup (hup h 194 ((306 + (5 * c))) ((x) / 10000)) 194 (((306 + (5 * c)) + 1)) (((x) / 1000) % 10)) 194 (((306 + (5 * c)) + 2)) ((x) % 1000)) 194 (((306 + (5 * c)) + 3)) (n))) (o230_76 hB) rfl ?_
              refine w_iald (A := 194) (i := 0) (n := 1984) (z := (w)) (pc' := 123) (o230_77 hB) rfl (by decide +kernel) (by omega) ((hup_nj (by omega)).trans ((hup_nj (by omega)).trans ((hup_nj (by omega)).trans ((hup_nj (by omega)).trans hw)))) ?_
              refine w_iast (A := 194) (i := ((306 + (5 * c)) + 4)) (n := 1984) (pc' := 124) (o230_78 hB) rfl (by decide +kernel) (by omega) ?_
              refine w_pl (pc' := 125) (lv' := [(3, (0, (((306 + (5 * c)) : Nat) : Int))), (0, (2, ((193 : Nat) : Int))), (1, (0, (x))), (2, (0, (n)))]) (st' := [(2, ((193 : Nat) : Int))]) (h' := (hup (hup (hup (hup (hup h 194 ((306 + (5 * c))) ((x) / 10000)) 194 (((306 + (5 * c)) + 1)) (((x) / 1000) % 10)) 194 (((306 + (5 * c)) + 2)) ((x) % 1000)) 194 (((306 + (5 * c)) + 3)) (n)) 194 (((306 + (5 * c)) + 4)) (w))) (o230_79 hB) rfl ?_
              refine w_getf (A := 193) (t := 2) (z := ((194 : Nat) : Int)) (pc' := 128) (o230_80 hB) rfl (by decide +kernel) ((hup_ne (by decide)).trans ((hup_ne (by decide)).trans ((hup_ne (by decide)).trans ((hup_ne (by decide)).trans ((hup_ne (by decide)).trans (hR (193, 0, 194) (by decide))))))) ?_
              refine w_pl (pc' := 129) (lv' := [(3, (0, (((306 + (5 * c)) : Nat) : Int))), (0, (2, ((193 : Nat) : Int))), (1, (0, (x))), (2, (0, (n)))]) (st' := [(0, ((5 : Nat) : Int)), (2, ((194 : Nat) : Int))]) (h' := (hup (hup (hup (hup (hup h 194 ((306 + (5 * c))) ((x) / 10000)) 194 (((306 + (5 * c)) + 1)) (((x) / 1000) % 10)) 194 (((306 + (5 * c)) + 2)) ((x) % 1000)) 194 (((306 + (5 * c)) + 3)) (n)) 194 (((306 + (5 * c)) + 4)) (w))) (o230_81 hB) rfl ?_
              refine w_pl (pc' := 130) (lv' := [(3, (0, (((306 + (5 * c)) : Nat) : Int))), (0, (2, ((193 : Nat) : Int))), (1, (0, (x))), (2, (0, (n)))]) (st' := [(0, ((5 : Nat) : Int)), (2, ((194 : Nat) : Int)), (0, ((5 : Nat) : Int)), (2, ((194 : Nat) : Int))]) (h' := (hup (hup (hup (hup (hup h 194 ((306 + (5 * c))) ((x) / 10000)) 194 (((306 + (5 * c)) + 1)) (((x) / 1000) % 10)) 194 (((306 + (5 * c)) + 2)) ((x) % 1000)) 194 (((306 + (5 * c)) + 3)) (n)) 194 (((306 + (5 * c)) + 4)) (w))) (o230_82 hB) rfl ?_
              refine w_iald (A := 194) (i := 5) (n := 1984) (z := ((c : Nat) : Int)) (pc' := 131) (o230_83 hB) rfl (by decide +kernel) (by omega) ((hup_nj (by omega)).trans ((hup_nj (by omega)).trans ((hup_nj (by omega)).trans ((hup_nj (by omega)).trans ((hup_nj (by omega)).trans hc))))) ?_
              refine w_pl (pc' := 132) (lv' := [(3, (0, (((306 + (5 * c)) : Nat) : Int))), (0, (2, ((193 : Nat) : Int))), (1, (0, (x))), (2, (0, (n)))]) (st' := [(0, ((1 : Nat) : Int)), (0, ((c : Nat) : Int)), (0, ((5 : Nat) : Int)), (2, ((194 : Nat) : Int))]) (h' := (hup (hup (hup (hup (hup h 194 ((306 + (5 * c))) ((x) / 10000)) 194 (((306 + (5 * c)) + 1)) (((x) / 1000) % 10)) 194 (((306 + (5 * c)) + 2)) ((x) % 1000)) 194 (((306 + (5 * c)) + 3)) (n)) 194 (((306 + (5 * c)) + 4)) (w))) (o230_84 hB) rfl ?_
              refine w_iadd (z := (((c + 1) : Nat) : Int)) (pc' := 133) (o230_85 hB) rfl (w32_e (by omega) (by omega)) ?_
              refine w_iast (A := 194) (i := 5) (n := 1984) (pc' := 134) (o230_86 hB) rfl (by decide +kernel) (by omega) ?_
              refine w_pl (pc' := 135) (lv' := [(3, (0, (((306 + (5 * c)) : Nat) : Int))), (0, (2, ((193 : Nat) : Int))), (1, (0, (x))), (2, (0, (n)))]) (st' := [(2, ((193 : Nat) : Int))]) (h' := (hup (hup (hup (hup (hup (hup h 194 ((306 + (5 * c))) ((x) / 10000)) 194 (((306 + (5 * c)) + 1)) (((x) / 1000) % 10)) 194 (((306 + (5 * c)) + 2)) ((x) % 1000)) 194 (((306 + (5 * c)) + 3)) (n)) 194 (((306 + (5 * c)) + 4)) (w)) 194 (5) (((c + 1) : Nat) : Int))) (o230_87 hB) rfl ?_
              refine w_getf (A := 193) (t := 2) (z := ((194 : Nat) : Int)) (pc' := 138) (o230_88 hB) rfl (by decide +kernel) ((hup_ne (by decide)).trans ((hup_ne (by decide)).trans ((hup_ne (by decide)).trans ((hup_ne (by decide)).trans ((hup_ne (by decide)).trans ((hup_ne (by decide)).trans (hR (193, 0, 194) (by decide)))))))) ?_
              refine w_pl (pc' := 139) (lv' := [(3, (0, (((306 + (5 * c)) : Nat) : Int))), (0, (2, ((193 : Nat) : Int))), (1, (0, (x))), (2, (0, (n)))]) (st' := [(0, ((5 : Nat) : Int)), (2, ((194 : Nat) : Int))]) (h' := (hup (hup (hup (hup (hup (hup h 194 ((306 + (5 * c))) ((x) / 10000)) 194 (((306 + (5 * c)) + 1)) (((x) / 1000) % 10)) 194 (((306 + (5 * c)) + 2)) ((x) % 1000)) 194 (((306 + (5 * c)) + 3)) (n)) 194 (((306 + (5 * c)) + 4)) (w)) 194 (5) (((c + 1) : Nat) : Int))) (o230_89 hB) rfl ?_
              refine w_iald (A := 194) (i := 5) (n := 1984) (z := ((((c + 1) : Nat) : Int))) (pc' := 140) (o230_90 hB) rfl (by decide +kernel) (by omega) (hup_eq) ?_
              refine w_pl (pc' := 141) (lv' := [(3, (0, (((306 + (5 * c)) : Nat) : Int))), (0, (2, ((193 : Nat) : Int))), (1, (0, (x))), (2, (0, (n)))]) (st' := [(0, ((1 : Nat) : Int)), (0, ((((c + 1) : Nat) : Int)))]) (h' := (hup (hup (hup (hup (hup (hup h 194 ((306 + (5 * c))) ((x) / 10000)) 194 (((306 + (5 * c)) + 1)) (((x) / 1000) % 10)) 194 (((306 + (5 * c)) + 2)) ((x) % 1000)) 194 (((306 + (5 * c)) + 3)) (n)) 194 (((306 + (5 * c)) + 4)) (w)) 194 (5) (((c + 1) : Nat) : Int))) (o230_91 hB) rfl ?_
              refine w_isub (z := (((((c + 1) : Nat) : Int)) - ((1 : Nat) : Int))) (pc' := 142) (o230_92 hB) rfl (w32_e (by omega) (by omega)) ?_
              exact w_iret (o230_93 hB) mr230 (by unfold in32; omega) (qe (a2 (by omega)) (by omega))
            · have f121 : ¬ (((c : Nat) : Int) ≠ ((24 : Nat) : Int)) := e
              refine w_pl (pc' := 47) (lv' := [(0, (2, ((193 : Nat) : Int))), (1, (0, (x))), (2, (0, (n)))]) (st' := [(0, (-2))]) (h' := h) (o230_24 hB) rfl ?_
              exact w_iret (o230_25 hB) mr230 (by unfold in32; omega) (a1 (by omega))
          · have f122 : ¬ (((1 : Nat) : Int) ≠ (0)) := e
            exfalso; omega
        · show HW g l _ 230 _ _ 29 [(0, (2, ((193 : Nat) : Int))), (1, (0, (x))), (2, (0, (n)))] [(0, ((0 : Nat) : Int))] h
          refine w_ifc (pt := 34) (pf := 32) (o230_15 hB) (by decide) rfl (fun e => ?_) (fun e => ?_)
          · have f123 : (((0 : Nat) : Int) ≠ (0)) := e
            exfalso; omega
          · have f124 : ¬ (((0 : Nat) : Int) ≠ (0)) := e
            refine w_pl (pc' := 33) (lv' := [(0, (2, ((193 : Nat) : Int))), (1, (0, (x))), (2, (0, (n)))]) (st' := [(0, (-1))]) (h' := h) (o230_16 hB) rfl ?_
            exact w_iret (o230_17 hB) mr230 (by unfold in32; omega) (a0 (by omega))
  · show HW g l _ 230 _ _ 4 [(0, (2, ((193 : Nat) : Int))), (1, (0, (x))), (2, (0, (n)))] [(0, ((0 : Nat) : Int))] h
    refine w_ifc (pt := 32) (pf := 7) (o230_2 hB) (by decide) rfl (fun e => ?_) (fun e => ?_)
    · have f125 : (((0 : Nat) : Int) = (0)) := e
      refine w_pl (pc' := 33) (lv' := [(0, (2, ((193 : Nat) : Int))), (1, (0, (x))), (2, (0, (n)))]) (st' := [(0, (-1))]) (h' := h) (o230_16 hB) rfl ?_
      exact w_iret (o230_17 hB) mr230 (by unfold in32; omega) (a0 (by omega))
    · have f126 : ¬ (((0 : Nat) : Int) = (0)) := e
      exfalso; omega
def s_boxesM (vs : List bV) (h : bH) (r : Option bV) (h' : bH) : Prop := TH h ∧ ∀ (x n : Int) (c : Nat) (w : Int) , vs = [(2, ((193 : Nat) : Int)), (0, x), (0, n)] → h 194 5 = (c : Int) → h 194 0 = w → ((¬ ((0 ≤ x ∧ x / 10000 < 6 ∧ x / 1000 % 10 < 4 ∧ x % 1000 < 240) ∧ x % 1000 ≤ w ∧ 1 ≤ n ∧ n ≤ 999)) ∧ r = some (0, (-1)) ∧ h = h') ∨ ((((0 ≤ x ∧ x / 10000 < 6 ∧ x / 1000 % 10 < 4 ∧ x % 1000 < 240) ∧ x % 1000 ≤ w ∧ 1 ≤ n ∧ n ≤ 999) ∧ c = 24) ∧ r = some (0, (-2)) ∧ h = h') ∨ ((((0 ≤ x ∧ x / 10000 < 6 ∧ x / 1000 % 10 < 4 ∧ x % 1000 < 240) ∧ x % 1000 ≤ w ∧ 1 ≤ n ∧ n ≤ 999) ∧ c < 24) ∧ r = some (0, (c : Int)) ∧ h' = (hup (hup (hup (hup (hup (hup h 194 ((306 + (5 * c))) ((x) / 10000)) 194 (((306 + (5 * c)) + 1)) (((x) / 1000) % 10)) 194 (((306 + (5 * c)) + 2)) ((x) % 1000)) 194 (((306 + (5 * c)) + 3)) (n)) 194 (((306 + (5 * c)) + 4)) (w)) 194 (5) (((c + 1) : Nat) : Int)))
def w_boxesM : List (Nat × Nat × Nat) := [(194, 5, 6), (194, 306, 426)]
def q_boxesM : aCt := cH 230 3 w_boxesM 2 193
theorem sk_boxesM (hB : BytesOK) (g : bG) (l : Launch) : SK g l gT q_boxesM s_boxesM := by
  intro d hd ρ h Q hcore hQ
  have hcore : core (PofW gT (some w_boxesM) false) (gsc g) h ρ h (List.replicate 2 r32, [], [], 212) := hcore
  have ht := hTH hcore
  have y0 := r32_0 hcore 0 (by decide)
  have y1 := r32_0 hcore 1 (by decide)
  have y00 := y0
  unfold in32 at y00
  have y01 := y1
  unfold in32 at y01
  obtain ⟨c, hc, lc⟩ := nat_to ht (a := 194) (j := 5) (n := 24) (by decide +kernel)
  have r_w := ty_194_c0 ht
  obtain ⟨d', rfl⟩ : ∃ d', d = d' + 1 + 1 + 1 := ⟨d - 3, by have : 3 ≤ d := hd; omega⟩
  rw [show evS ρ (ctA q_boxesM) = [(2, ((193 : Nat) : Int)), (0, ρ 0), (0, ρ 1)] from evA2]
  refine m_boxesM (x := ρ 0) (n := ρ 1) hB ht y0 y1 hc lc rfl (fun hn => ?_) (fun hn => ?_) (fun hn => ?_)
  · refine hQ _ _ (hpost hcore (ht) (fun _ _ _ => rfl) (by unfold in32; omega)) ⟨ht, fun x n c_c v_w hv e_c e_w => ?_⟩
    have hv := (evA2 (ρ := ρ)).symm.trans hv
    obtain ⟨rfl, rfl⟩ := vsA2 hv
    obtain rfl : c_c = c := by have := e_c.symm.trans hc; omega
    subst e_w
    exact Or.inl ⟨hn, rfl, rfl⟩
  · refine hQ _ _ (hpost hcore (ht) (fun _ _ _ => rfl) (by unfold in32; omega)) ⟨ht, fun x n c_c v_w hv e_c e_w => ?_⟩
    have hv := (evA2 (ρ := ρ)).symm.trans hv
    obtain ⟨rfl, rfl⟩ := vsA2 hv
    obtain rfl : c_c = c := by have := e_c.symm.trans hc; omega
    subst e_w
    exact Or.inr (Or.inl ⟨hn, rfl, rfl⟩)
  · refine hQ _ _ (hpost hcore (((((((ht).ups2 (a := 194) (s := 306) (st := 5) (n := 24) (lo := (0)) (hi := 999) (r := c) (by decide +kernel) (by omega) (by omega) (by omega)).ups2 (a := 194) (s := 307) (st := 5) (n := 24) (lo := (0)) (hi := 999) (r := c) (by decide +kernel) (by omega) (by omega) (by omega)).ups2 (a := 194) (s := 308) (st := 5) (n := 24) (lo := (0)) (hi := 999) (r := c) (by decide +kernel) (by omega) (by omega) (by omega)).ups2 (a := 194) (s := 309) (st := 5) (n := 24) (lo := (0)) (hi := 999) (r := c) (by decide +kernel) (by omega) (by omega) (by omega)).ups2 (a := 194) (s := 310) (st := 5) (n := 24) (lo := (0)) (hi := 999) (r := c) (by decide +kernel) (by omega) (by omega) (by omega)).upc (a := 194) (j := 5) (lo := (0)) (hi := 24) (by decide +kernel) (by omega)) (fr_up (fr_up (fr_up (fr_up (fr_up (fr_up (fun _ _ _ => rfl) (wr_in (lo := 306) (hi := 426) (by decide) (by omega) (by omega))) (wr_in (lo := 306) (hi := 426) (by decide) (by omega) (by omega))) (wr_in (lo := 306) (hi := 426) (by decide) (by omega) (by omega))) (wr_in (lo := 306) (hi := 426) (by decide) (by omega) (by omega))) (wr_in (lo := 306) (hi := 426) (by decide) (by omega) (by omega))) (wr_in (lo := 5) (hi := 6) (by decide) (by omega) (by omega))) (by unfold in32; omega)) ⟨ht, fun x n c_c v_w hv e_c e_w => ?_⟩
    have hv := (evA2 (ρ := ρ)).symm.trans hv
    obtain ⟨rfl, rfl⟩ := vsA2 hv
    obtain rfl : c_c = c := by have := e_c.symm.trans hc; omega
    subst e_w
    exact Or.inr (Or.inr (⟨hn, rfl, rfl⟩))
/-- the class's count over the first b, the reference's -/
def cntA (h : bH) (w kk : Int) : Nat → Int
  | 0 => 0
  | b + 1 => cntA h w kk b + (if h 18 b = w ∧ h 20 b ≤ kk then h 19 b else 0)
def cntM (h : bH) (mk ld mo kk : Int) : Nat → Int
  | 0 => 0
  | b + 1 => cntM h mk ld mo kk b + (if h 194 (306 + 5 * b) = mk ∧ h 194 (306 + 5 * b + 1) = ld ∧ h 194 (306 + 5 * b + 2) = mo ∧ h 194 (306 + 5 * b + 4) ≤ kk then h 194 (306 + 5 * b + 3) else 0)
theorem cntA_r {h : bH} (ht : TH h) {w kk : Int} : ∀ b, b ≤ 24 → 0 ≤ cntA h w kk b ∧ cntA h w kk b ≤ 999 * b
  | 0, _ => by simp [cntA]
  | b + 1, hb => by
    have := cntA_r ht (w := w) (kk := kk) b (by omega)
    have := ty_19_s0 ht (j := b) (r := b) (by omega) (by omega)
    simp only [cntA]
    split <;> omega
theorem cntM_r {h : bH} (ht : TH h) {mk ld mo kk : Int} : ∀ b, b ≤ 24 → 0 ≤ cntM h mk ld mo kk b ∧ cntM h mk ld mo kk b ≤ 999 * b
  | 0, _ => by simp [cntM]
  | b + 1, hb => by
    have := cntM_r ht (mk := mk) (ld := ld) (mo := mo) (kk := kk) b (by omega)
    have := ty_194_s309 ht (j := 306 + 5 * b + 3) (r := b) (by omega) (by omega)
    simp only [cntM]
    split <;> omega
theorem m_countAt (hB : BytesOK) {g : bG} {l : Launch} {d : Nat} {Q : bQ} {h : bH} {w kk : Int} {c : Nat} (ht : TH h) (hc : h 17 0 = (c : Int)) (lc : c ≤ 24) (hq : Q (some (0, cntA h w kk c)) h) : MH g l d 108 212 212 [(2, ((17 : Nat) : Int)), (0, w), (0, kk)] h Q := by
  have hR := ht.r
  have loop : ∀ (n b : Nat), b + n = c → HW g l d 108 212 Q 5 [(4, (0, ((b : Nat) : Int))), (3, (0, (cntA h w kk b))), (0, (2, ((17 : Nat) : Int))), (1, (0, (w))), (2, (0, (kk)))] [] h := by
    intro n
    induction n with
    | zero =>
      intro b hb
      have rb := cntA_r ht (w := w) (kk := kk) b (by omega)
      refine w_pl (pc' := 7) (lv' := [(4, (0, ((b : Nat) : Int))), (3, (0, (cntA h w kk b))), (0, (2, ((17 : Nat) : Int))), (1, (0, (w))), (2, (0, (kk)))]) (st' := [(0, ((b : Nat) : Int))]) (h' := h) (o108_4 hB) rfl ?_
      refine w_pl (pc' := 8) (lv' := [(4, (0, ((b : Nat) : Int))), (3, (0, (cntA h w kk b))), (0, (2, ((17 : Nat) : Int))), (1, (0, (w))), (2, (0, (kk)))]) (st' := [(2, ((17 : Nat) : Int)), (0, ((b : Nat) : Int))]) (h' := h) (o108_5 hB) rfl ?_
      refine w_getf (A := 17) (t := 0) (z := ((c : Nat) : Int)) (pc' := 11) (o108_6 hB) rfl (by decide +kernel) hc ?_
      refine w_icmp (pt := 52) (pf := 14) (o108_7 hB) (by decide) rfl (fun e => ?_) (fun e => ?_)
      · have f127 : (((c : Nat) : Int) ≤ ((b : Nat) : Int)) := e
        refine w_pl (pc' := 53) (lv' := [(4, (0, ((b : Nat) : Int))), (3, (0, (cntA h w kk b))), (0, (2, ((17 : Nat) : Int))), (1, (0, (w))), (2, (0, (kk)))]) (st' := [(0, (cntA h w kk b))]) (h' := h) (o108_29 hB) rfl ?_
        have e0 : b = c := by omega
        subst e0
        exact w_iret (o108_30 hB) mr108 (by have := cntA_r ht (w := w) (kk := kk) b (by omega); unfold in32; omega) hq
      · have f128 : ¬ (((c : Nat) : Int) ≤ ((b : Nat) : Int)) := e
        exfalso; omega
    | succ n ih =>
      intro b hb
      have rb := cntA_r ht (w := w) (kk := kk) b (by omega)
      refine w_pl (pc' := 7) (lv' := [(4, (0, ((b : Nat) : Int))), (3, (0, (cntA h w kk b))), (0, (2, ((17 : Nat) : Int))), (1, (0, (w))), (2, (0, (kk)))]) (st' := [(0, ((b : Nat) : Int))]) (h' := h) (o108_4 hB) rfl ?_
      refine w_pl (pc' := 8) (lv' := [(4, (0, ((b : Nat) : Int))), (3, (0, (cntA h w kk b))), (0, (2, ((17 : Nat) : Int))), (1, (0, (w))), (2, (0, (kk)))]) (st' := [(2, ((17 : Nat) : Int)), (0, ((b : Nat) : Int))]) (h' := h) (o108_5 hB) rfl ?_
      refine w_getf (A := 17) (t := 0) (z := ((c : Nat) : Int)) (pc' := 11) (o108_6 hB) rfl (by decide +kernel) hc ?_
      refine w_icmp (pt := 52) (pf := 14) (o108_7 hB) (by decide) rfl (fun e => ?_) (fun e => ?_)
      · have f129 : (((c : Nat) : Int) ≤ ((b : Nat) : Int)) := e
        exfalso; omega
      · have f130 : ¬ (((c : Nat) : Int) ≤ ((b : Nat) : Int)) := e
        refine w_pl (pc' := 15) (lv' := [(4, (0, ((b : Nat) : Int))), (3, (0, (cntA h w kk b))), (0, (2, ((17 : Nat) : Int))), (1, (0, (w))), (2, (0, (kk)))]) (st' := [(2, ((17 : Nat) : Int))]) (h' := h) (o108_8 hB) rfl ?_
        refine w_getf (A := 17) (t := 2) (z := ((18 : Nat) : Int)) (pc' := 18) (o108_9 hB) rfl (by decide +kernel) (hR (17, 1, 18) (by decide)) ?_
        refine w_pl (pc' := 20) (lv' := [(4, (0, ((b : Nat) : Int))), (3, (0, (cntA h w kk b))), (0, (2, ((17 : Nat) : Int))), (1, (0, (w))), (2, (0, (kk)))]) (st' := [(0, ((b : Nat) : Int)), (2, ((18 : Nat) : Int))]) (h' := h) (o108_10 hB) rfl ?_
        have f131 := ty_18_s0 ht (j := b) (r := b) (by omega) (by omega)
        refine w_iald (A := 18) (i := b) (n := 24) (z := (h 18 b)) (pc' := 21) (o108_11 hB) rfl (by decide +kernel) (by omega) rfl ?_
        refine w_pl (pc' := 22) (lv' := [(4, (0, ((b : Nat) : Int))), (3, (0, (cntA h w kk b))), (0, (2, ((17 : Nat) : Int))), (1, (0, (w))), (2, (0, (kk)))]) (st' := [(0, (w)), (0, (h 18 b))]) (h' := h) (o108_12 hB) rfl ?_
        refine w_icmp (pt := 46) (pf := 25) (o108_13 hB) (by decide) rfl (fun e => ?_) (fun e => ?_)
        · have f132 : ((h 18 b) ≠ (w)) := e
          refine w_iinc (x := ((b : Nat) : Int)) (z := (((b + 1) : Nat) : Int)) (pc' := 49) (lv' := [(4, (0, (((b + 1) : Nat) : Int))), (3, (0, (cntA h w kk b))), (0, (2, ((17 : Nat) : Int))), (1, (0, (w))), (2, (0, (kk)))]) (o108_27 hB) rfl rfl ml108 (by decide) (w32_e (by omega) (by omega)) rfl ?_
          refine w_goto (pt := 5) (o108_28 hB) (by decide) ?_
          refine w_sub (lv' := [(4, (0, (((b + 1) : Nat) : Int))), (3, (0, (cntA h w kk b))), (0, (2, ((17 : Nat) : Int))), (1, (0, (w))), (2, (0, (kk)))]) (List.forall_mem_cons.mpr ⟨(List.Mem.head _), (List.forall_mem_cons.mpr ⟨(List.Mem.tail _ (List.Mem.head _)), (List.forall_mem_cons.mpr ⟨(List.Mem.tail _ (List.Mem.tail _ (List.Mem.head _))), (List.forall_mem_cons.mpr ⟨(List.Mem.tail _ (List.Mem.tail _ (List.Mem.tail _ (List.Mem.head _)))), (List.forall_mem_cons.mpr ⟨(List.Mem.tail _ (List.Mem.tail _ (List.Mem.tail _ (List.Mem.tail _ (List.Mem.head _))))), (fun _ hx => by cases hx)⟩)⟩)⟩)⟩)⟩) ?_
          have e1 : (cntA h w kk b) = cntA h w kk (b + 1) := by
            simp only [cntA]
            rw [if_neg (by omega)]; omega
          rw [e1]
          exact ih (b + 1) (by omega)
        · have f133 : ¬ ((h 18 b) ≠ (w)) := e
          refine w_pl (pc' := 26) (lv' := [(4, (0, ((b : Nat) : Int))), (3, (0, (cntA h w kk b))), (0, (2, ((17 : Nat) : Int))), (1, (0, (w))), (2, (0, (kk)))]) (st' := [(2, ((17 : Nat) : Int))]) (h' := h) (o108_14 hB) rfl ?_
          refine w_getf (A := 17) (t := 2) (z := ((20 : Nat) : Int)) (pc' := 29) (o108_15 hB) rfl (by decide +kernel) (hR (17, 3, 20) (by decide)) ?_
          refine w_pl (pc' := 31) (lv' := [(4, (0, ((b : Nat) : Int))), (3, (0, (cntA h w kk b))), (0, (2, ((17 : Nat) : Int))), (1, (0, (w))), (2, (0, (kk)))]) (st' := [(0, ((b : Nat) : Int)), (2, ((20 : Nat) : Int))]) (h' := h) (o108_16 hB) rfl ?_
          have f134 := ty_20_s0 ht (j := b) (r := b) (by omega) (by omega)
          refine w_iald (A := 20) (i := b) (n := 24) (z := (h 20 b)) (pc' := 32) (o108_17 hB) rfl (by decide +kernel) (by omega) rfl ?_
          refine w_pl (pc' := 33) (lv' := [(4, (0, ((b : Nat) : Int))), (3, (0, (cntA h w kk b))), (0, (2, ((17 : Nat) : Int))), (1, (0, (w))), (2, (0, (kk)))]) (st' := [(0, (kk)), (0, (h 20 b))]) (h' := h) (o108_18 hB) rfl ?_
          refine w_icmp (pt := 46) (pf := 36) (o108_19 hB) (by decide) rfl (fun e => ?_) (fun e => ?_)
          · have f135 : ((kk) < (h 20 b)) := e
            refine w_iinc (x := ((b : Nat) : Int)) (z := (((b + 1) : Nat) : Int)) (pc' := 49) (lv' := [(4, (0, (((b + 1) : Nat) : Int))), (3, (0, (cntA h w kk b))), (0, (2, ((17 : Nat) : Int))), (1, (0, (w))), (2, (0, (kk)))]) (o108_27 hB) rfl rfl ml108 (by decide) (w32_e (by omega) (by omega)) rfl ?_
            refine w_goto (pt := 5) (o108_28 hB) (by decide) ?_
            refine w_sub (lv' := [(4, (0, (((b + 1) : Nat) : Int))), (3, (0, (cntA h w kk b))), (0, (2, ((17 : Nat) : Int))), (1, (0, (w))), (2, (0, (kk)))]) (List.forall_mem_cons.mpr ⟨(List.Mem.head _), (List.forall_mem_cons.mpr ⟨(List.Mem.tail _ (List.Mem.head _)), (List.forall_mem_cons.mpr ⟨(List.Mem.tail _ (List.Mem.tail _ (List.Mem.head _))), (List.forall_mem_cons.mpr ⟨(List.Mem.tail _ (List.Mem.tail _ (List.Mem.tail _ (List.Mem.head _)))), (List.forall_mem_cons.mpr ⟨(List.Mem.tail _ (List.Mem.tail _ (List.Mem.tail _ (List.Mem.tail _ (List.Mem.head _))))), (fun _ hx => by cases hx)⟩)⟩)⟩)⟩)⟩) ?_
            have e1 : (cntA h w kk b) = cntA h w kk (b + 1) := by
              simp only [cntA]
              rw [if_neg (by omega)]; omega
            rw [e1]
            exact ih (b + 1) (by omega)
          · have f136 : ¬ ((kk) < (h 20 b)) := e
            refine w_pl (pc' := 37) (lv' := [(4, (0, ((b : Nat) : Int))), (3, (0, (cntA h w kk b))), (0, (2, ((17 : Nat) : Int))), (1, (0, (w))), (2, (0, (kk)))]) (st' := [(0, (cntA h w kk b))]) (h' := h) (o108_20 hB) rfl ?_
            refine w_pl (pc' := 38) (lv' := [(4, (0, ((b : Nat) : Int))), (3, (0, (cntA h w kk b))), (0, (2, ((17 : Nat) : Int))), (1, (0, (w))), (2, (0, (kk)))]) (st' := [(2, ((17 : Nat) : Int)), (0, (cntA h w kk b))]) (h' := h) (o108_21 hB) rfl ?_
            refine w_getf (A := 17) (t := 2) (z := ((19 : Nat) : Int)) (pc' := 41) (o108_22 hB) rfl (by decide +kernel) (hR (17, 2, 19) (by decide)) ?_
            refine w_pl (pc' := 43) (lv' := [(4, (0, ((b : Nat) : Int))), (3, (0, (cntA h w kk b))), (0, (2, ((17 : Nat) : Int))), (1, (0, (w))), (2, (0, (kk)))]) (st' := [(0, ((b : Nat) : Int)), (2, ((19 : Nat) : Int)), (0, (cntA h w kk b))]) (h' := h) (o108_23 hB) rfl ?_
            have f137 := ty_19_s0 ht (j := b) (r := b) (by omega) (by omega)
            refine w_iald (A := 19) (i := b) (n := 24) (z := (h 19 b)) (pc' := 44) (o108_24 hB) rfl (by decide +kernel) (by omega) rfl ?_
            refine w_iadd (z := ((cntA h w kk b) + (h 19 b))) (pc' := 45) (o108_25 hB) rfl (w32_e (by omega) (by omega)) ?_
            refine w_st (tg := 0) (j := 3) (len := 1) (pc' := 46) (lv' := [(3, (0, ((cntA h w kk b) + (h 19 b)))), (4, (0, ((b : Nat) : Int))), (0, (2, ((17 : Nat) : Int))), (1, (0, (w))), (2, (0, (kk)))]) (o108_26 hB) rfl rfl ml108 (by decide) rfl ?_
            refine w_iinc (x := ((b : Nat) : Int)) (z := (((b + 1) : Nat) : Int)) (pc' := 49) (lv' := [(4, (0, (((b + 1) : Nat) : Int))), (3, (0, ((cntA h w kk b) + (h 19 b)))), (0, (2, ((17 : Nat) : Int))), (1, (0, (w))), (2, (0, (kk)))]) (o108_27 hB) rfl rfl ml108 (by decide) (w32_e (by omega) (by omega)) rfl ?_
            refine w_goto (pt := 5) (o108_28 hB) (by decide) ?_
            refine w_sub (lv' := [(4, (0, (((b + 1) : Nat) : Int))), (3, (0, ((cntA h w kk b) + (h 19 b)))), (0, (2, ((17 : Nat) : Int))), (1, (0, (w))), (2, (0, (kk)))]) (List.forall_mem_cons.mpr ⟨(List.Mem.head _), (List.forall_mem_cons.mpr ⟨(List.Mem.tail _ (List.Mem.head _)), (List.forall_mem_cons.mpr ⟨(List.Mem.tail _ (List.Mem.tail _ (List.Mem.head _))), (List.forall_mem_cons.mpr ⟨(List.Mem.tail _ (List.Mem.tail _ (List.Mem.tail _ (List.Mem.head _)))), (List.forall_mem_cons.mpr ⟨(List.Mem.tail _ (List.Mem.tail _ (List.Mem.tail _ (List.Mem.tail _ (List.Mem.head _))))), (fun _ hx => by cases hx)⟩)⟩)⟩)⟩)⟩) ?_
            have e1 : ((cntA h w kk b) + (h 19 b)) = cntA h w kk (b + 1) := by
              simp only [cntA]
              rw [if_pos ⟨by omega, by omega⟩]
            rw [e1]
            exact ih (b + 1) (by omega)
  refine mh_go hB mg108 ml108 (Nat.le_of_ble_eq_true rfl) ?_
  show HW g l d 108 _ _ 0 [(0, (2, ((17 : Nat) : Int))), (1, (0, (w))), (2, (0, (kk)))] [] h
  refine w_pl (pc' := 1) (lv' := [(0, (2, ((17 : Nat) : Int))), (1, (0, (w))), (2, (0, (kk)))]) (st' := [(0, ((0 : Nat) : Int))]) (h' := h) (o108_0 hB) rfl ?_
  refine w_st (tg := 0) (j := 3) (len := 1) (pc' := 2) (lv' := [(3, (0, ((0 : Nat) : Int))), (0, (2, ((17 : Nat) : Int))), (1, (0, (w))), (2, (0, (kk)))]) (o108_1 hB) rfl rfl ml108 (by decide) rfl ?_
  refine w_pl (pc' := 3) (lv' := [(3, (0, ((0 : Nat) : Int))), (0, (2, ((17 : Nat) : Int))), (1, (0, (w))), (2, (0, (kk)))]) (st' := [(0, ((0 : Nat) : Int))]) (h' := h) (o108_2 hB) rfl ?_
  refine w_st (tg := 0) (j := 4) (len := 2) (pc' := 5) (lv' := [(4, (0, ((0 : Nat) : Int))), (3, (0, ((0 : Nat) : Int))), (0, (2, ((17 : Nat) : Int))), (1, (0, (w))), (2, (0, (kk)))]) (o108_3 hB) rfl rfl ml108 (by decide) rfl ?_
  refine w_sub (lv' := [(4, (0, ((0 : Nat) : Int))), (3, (0, ((0 : Nat) : Int))), (0, (2, ((17 : Nat) : Int))), (1, (0, (w))), (2, (0, (kk)))]) (List.forall_mem_cons.mpr ⟨(List.Mem.head _), (List.forall_mem_cons.mpr ⟨(List.Mem.tail _ (List.Mem.head _)), (List.forall_mem_cons.mpr ⟨(List.Mem.tail _ (List.Mem.tail _ (List.Mem.head _))), (List.forall_mem_cons.mpr ⟨(List.Mem.tail _ (List.Mem.tail _ (List.Mem.tail _ (List.Mem.head _)))), (List.forall_mem_cons.mpr ⟨(List.Mem.tail _ (List.Mem.tail _ (List.Mem.tail _ (List.Mem.tail _ (List.Mem.head _))))), (fun _ hx => by cases hx)⟩)⟩)⟩)⟩)⟩) ?_
  exact loop c 0 (by omega)
theorem m_countOf (hB : BytesOK) {g : bG} {l : Launch} {d : Nat} {Q : bQ} {h : bH} {mk ld mo kk : Int} {c : Nat} (ht : TH h) (hc : h 194 5 = (c : Int)) (lc : c ≤ 24) (hq : Q (some (0, cntM h mk ld mo kk c)) h) : MH g l d 231 212 212 [(2, ((193 : Nat) : Int)), (0, mk), (0, ld), (0, mo), (0, kk)] h Q := by
  have hR := ht.r
  have loop : ∀ (n b : Nat), b + n = c → HW g l d 231 212 Q 6 [(6, (0, ((b : Nat) : Int))), (5, (0, (cntM h mk ld mo kk b))), (0, (2, ((193 : Nat) : Int))), (1, (0, (mk))), (2, (0, (ld))), (3, (0, (mo))), (4, (0, (kk)))] [] h := by
    intro n
    induction n with
    | zero =>
      intro b hb
      have rb := cntM_r ht (mk := mk) (ld := ld) (mo := mo) (kk := kk) b (by omega)
      refine w_pl (pc' := 8) (lv' := [(6, (0, ((b : Nat) : Int))), (5, (0, (cntM h mk ld mo kk b))), (0, (2, ((193 : Nat) : Int))), (1, (0, (mk))), (2, (0, (ld))), (3, (0, (mo))), (4, (0, (kk)))]) (st' := [(0, ((b : Nat) : Int))]) (h' := h) (o231_4 hB) rfl ?_
      refine w_pl (pc' := 9) (lv' := [(6, (0, ((b : Nat) : Int))), (5, (0, (cntM h mk ld mo kk b))), (0, (2, ((193 : Nat) : Int))), (1, (0, (mk))), (2, (0, (ld))), (3, (0, (mo))), (4, (0, (kk)))]) (st' := [(2, ((193 : Nat) : Int)), (0, ((b : Nat) : Int))]) (h' := h) (o231_5 hB) rfl ?_
      refine w_getf (A := 193) (t := 2) (z := ((194 : Nat) : Int)) (pc' := 12) (o231_6 hB) rfl (by decide +kernel) (hR (193, 0, 194) (by decide)) ?_
      refine w_pl (pc' := 13) (lv' := [(6, (0, ((b : Nat) : Int))), (5, (0, (cntM h mk ld mo kk b))), (0, (2, ((193 : Nat) : Int))), (1, (0, (mk))), (2, (0, (ld))), (3, (0, (mo))), (4, (0, (kk)))]) (st' := [(0, ((5 : Nat) : Int)), (2, ((194 : Nat) : Int)), (0, ((b : Nat) : Int))]) (h' := h) (o231_7 hB) rfl ?_
      refine w_iald (A := 194) (i := 5) (n := 1984) (z := ((c : Nat) : Int)) (pc' := 14) (o231_8 hB) rfl (by decide +kernel) (by omega) hc ?_
      refine w_icmp (pt := 102) (pf := 17) (o231_9 hB) (by decide) rfl (fun e => ?_) (fun e => ?_)
      · have f138 : (((c : Nat) : Int) ≤ ((b : Nat) : Int)) := e
        refine w_pl (pc' := 104) (lv' := [(6, (0, ((b : Nat) : Int))), (5, (0, (cntM h mk ld mo kk b))), (0, (2, ((193 : Nat) : Int))), (1, (0, (mk))), (2, (0, (ld))), (3, (0, (mo))), (4, (0, (kk)))]) (st' := [(0, (cntM h mk ld mo kk b))]) (h' := h) (o231_59 hB) rfl ?_
        have e0 : b = c := by omega
        subst e0
        exact w_iret (o231_60 hB) mr231 (by have := cntM_r ht (mk := mk) (ld := ld) (mo := mo) (kk := kk) b (by omega); unfold in32; omega) hq
      · have f139 : ¬ (((c : Nat) : Int) ≤ ((b : Nat) : Int)) := e
        exfalso; omega
    | succ n ih =>
      intro b hb
      have rb := cntM_r ht (mk := mk) (ld := ld) (mo := mo) (kk := kk) b (by omega)
      refine w_pl (pc' := 8) (lv' := [(6, (0, ((b : Nat) : Int))), (5, (0, (cntM h mk ld mo kk b))), (0, (2, ((193 : Nat) : Int))), (1, (0, (mk))), (2, (0, (ld))), (3, (0, (mo))), (4, (0, (kk)))]) (st' := [(0, ((b : Nat) : Int))]) (h' := h) (o231_4 hB) rfl ?_
      refine w_pl (pc' := 9) (lv' := [(6, (0, ((b : Nat) : Int))), (5, (0, (cntM h mk ld mo kk b))), (0, (2, ((193 : Nat) : Int))), (1, (0, (mk))), (2, (0, (ld))), (3, (0, (mo))), (4, (0, (kk)))]) (st' := [(2, ((193 : Nat) : Int)), (0, ((b : Nat) : Int))]) (h' := h) (o231_5 hB) rfl ?_
      refine w_getf (A := 193) (t := 2) (z := ((194 : Nat) : Int)) (pc' := 12) (o231_6 hB) rfl (by decide +kernel) (hR (193, 0, 194) (by decide)) ?_
      refine w_pl (pc' := 13) (lv' := [(6, (0, ((b : Nat) : Int))), (5, (0, (cntM h mk ld mo kk b))), (0, (2, ((193 : Nat) : Int))), (1, (0, (mk))), (2, (0, (ld))), (3, (0, (mo))), (4, (0, (kk)))]) (st' := [(0, ((5 : Nat) : Int)), (2, ((194 : Nat) : Int)), (0, ((b : Nat) : Int))]) (h' := h) (o231_7 hB) rfl ?_
      refine w_iald (A := 194) (i := 5) (n := 1984) (z := ((c : Nat) : Int)) (pc' := 14) (o231_8 hB) rfl (by decide +kernel) (by omega) hc ?_
      refine w_icmp (pt := 102) (pf := 17) (o231_9 hB) (by decide) rfl (fun e => ?_) (fun e => ?_)
      · have f140 : (((c : Nat) : Int) ≤ ((b : Nat) : Int)) := e
        exfalso; omega
      · have f141 : ¬ (((c : Nat) : Int) ≤ ((b : Nat) : Int)) := e
        refine w_pl (pc' := 20) (lv' := [(6, (0, ((b : Nat) : Int))), (5, (0, (cntM h mk ld mo kk b))), (0, (2, ((193 : Nat) : Int))), (1, (0, (mk))), (2, (0, (ld))), (3, (0, (mo))), (4, (0, (kk)))]) (st' := [(0, ((306 : Nat) : Int))]) (h' := h) (o231_10 hB) rfl ?_
        refine w_pl (pc' := 21) (lv' := [(6, (0, ((b : Nat) : Int))), (5, (0, (cntM h mk ld mo kk b))), (0, (2, ((193 : Nat) : Int))), (1, (0, (mk))), (2, (0, (ld))), (3, (0, (mo))), (4, (0, (kk)))]) (st' := [(0, ((5 : Nat) : Int)), (0, ((306 : Nat) : Int))]) (h' := h) (o231_11 hB) rfl ?_
        refine w_pl (pc' := 23) (lv' := [(6, (0, ((b : Nat) : Int))), (5, (0, (cntM h mk ld mo kk b))), (0, (2, ((193 : Nat) : Int))), (1, (0, (mk))), (2, (0, (ld))), (3, (0, (mo))), (4, (0, (kk)))]) (st' := [(0, ((b : Nat) : Int)), (0, ((5 : Nat) : Int)), (0, ((306 : Nat) : Int))]) (h' := h) (o231_12 hB) rfl ?_
        refine w_imul (z := (((5 * b) : Nat) : Int)) (pc' := 24) (o231_13 hB) rfl (w32_e (by omega) (by omega)) ?_
        refine w_iadd (z := (((306 + (5 * b)) : Nat) : Int)) (pc' := 25) (o231_14 hB) rfl (w32_e (by omega) (by omega)) ?_
        refine w_st (tg := 0) (j := 7) (len := 2) (pc' := 27) (lv' := [(7, (0, (((306 + (5 * b)) : Nat) : Int))), (6, (0, ((b : Nat) : Int))), (5, (0, (cntM h mk ld mo kk b))), (0, (2, ((193 : Nat) : Int))), (1, (0, (mk))), (2, (0, (ld))), (3, (0, (mo))), (4, (0, (kk)))]) (o231_15 hB) rfl rfl ml231 (by decide) rfl ?_
        refine w_pl (pc' := 29) (lv' := [(7, (0, (((306 + (5 * b)) : Nat) : Int))), (6, (0, ((b : Nat) : Int))), (5, (0, (cntM h mk ld mo kk b))), (0, (2, ((193 : Nat) : Int))), (1, (0, (mk))), (2, (0, (ld))), (3, (0, (mo))), (4, (0, (kk)))]) (st' := [(0, (cntM h mk ld mo kk b))]) (h' := h) (o231_16 hB) rfl ?_
        refine w_pl (pc' := 30) (lv' := [(7, (0, (((306 + (5 * b)) : Nat) : Int))), (6, (0, ((b : Nat) : Int))), (5, (0, (cntM h mk ld mo kk b))), (0, (2, ((193 : Nat) : Int))), (1, (0, (mk))), (2, (0, (ld))), (3, (0, (mo))), (4, (0, (kk)))]) (st' := [(2, ((193 : Nat) : Int)), (0, (cntM h mk ld mo kk b))]) (h' := h) (o231_17 hB) rfl ?_
        refine w_getf (A := 193) (t := 2) (z := ((194 : Nat) : Int)) (pc' := 33) (o231_18 hB) rfl (by decide +kernel) (hR (193, 0, 194) (by decide)) ?_
        refine w_pl (pc' := 35) (lv' := [(7, (0, (((306 + (5 * b)) : Nat) : Int))), (6, (0, ((b : Nat) : Int))), (5, (0, (cntM h mk ld mo kk b))), (0, (2, ((193 : Nat) : Int))), (1, (0, (mk))), (2, (0, (ld))), (3, (0, (mo))), (4, (0, (kk)))]) (st' := [(0, (((306 + (5 * b)) : Nat) : Int)), (2, ((194 : Nat) : Int)), (0, (cntM h mk ld mo kk b))]) (h' := h) (o231_19 hB) rfl ?_
        have f142 := ty_194_s306 ht (j := (306 + (5 * b))) (r := b) (by omega) (by omega)
        refine w_iald (A := 194) (i := (306 + (5 * b))) (n := 1984) (z := (h 194 (306 + (5 * b)))) (pc' := 36) (o231_20 hB) rfl (by decide +kernel) (by omega) rfl ?_
        refine w_pl (pc' := 37) (lv' := [(7, (0, (((306 + (5 * b)) : Nat) : Int))), (6, (0, ((b : Nat) : Int))), (5, (0, (cntM h mk ld mo kk b))), (0, (2, ((193 : Nat) : Int))), (1, (0, (mk))), (2, (0, (ld))), (3, (0, (mo))), (4, (0, (kk)))]) (st' := [(0, (mk)), (0, (h 194 (306 + (5 * b)))), (0, (cntM h mk ld mo kk b))]) (h' := h) (o231_21 hB) rfl ?_
        refine w_icmp (pt := 92) (pf := 40) (o231_22 hB) (by decide) rfl (fun e => ?_) (fun e => ?_)
        · have f143 : ((h 194 (306 + (5 * b))) ≠ (mk)) := e
          refine w_pl (pc' := 93) (lv' := [(7, (0, (((306 + (5 * b)) : Nat) : Int))), (6, (0, ((b : Nat) : Int))), (5, (0, (cntM h mk ld mo kk b))), (0, (2, ((193 : Nat) : Int))), (1, (0, (mk))), (2, (0, (ld))), (3, (0, (mo))), (4, (0, (kk)))]) (st' := [(0, ((0 : Nat) : Int)), (0, (cntM h mk ld mo kk b))]) (h' := h) (o231_54 hB) rfl ?_
          refine w_iadd (z := ((cntM h mk ld mo kk b) + ((0 : Nat) : Int))) (pc' := 94) (o231_55 hB) rfl (w32_e (by omega) (by omega)) ?_
          refine w_st (tg := 0) (j := 5) (len := 2) (pc' := 96) (lv' := [(5, (0, ((cntM h mk ld mo kk b) + ((0 : Nat) : Int)))), (7, (0, (((306 + (5 * b)) : Nat) : Int))), (6, (0, ((b : Nat) : Int))), (0, (2, ((193 : Nat) : Int))), (1, (0, (mk))), (2, (0, (ld))), (3, (0, (mo))), (4, (0, (kk)))]) (o231_56 hB) rfl rfl ml231 (by decide) rfl ?_
          refine w_iinc (x := ((b : Nat) : Int)) (z := (((b + 1) : Nat) : Int)) (pc' := 99) (lv' := [(6, (0, (((b + 1) : Nat) : Int))), (5, (0, ((cntM h mk ld mo kk b) + ((0 : Nat) : Int)))), (7, (0, (((306 + (5 * b)) : Nat) : Int))), (0, (2, ((193 : Nat) : Int))), (1, (0, (mk))), (2, (0, (ld))), (3, (0, (mo))), (4, (0, (kk)))]) (o231_57 hB) rfl rfl ml231 (by decide) (w32_e (by omega) (by omega)) rfl ?_
          refine w_goto (pt := 6) (o231_58 hB) (by decide) ?_
          refine w_sub (lv' := [(6, (0, (((b + 1) : Nat) : Int))), (5, (0, ((cntM h mk ld mo kk b) + ((0 : Nat) : Int)))), (0, (2, ((193 : Nat) : Int))), (1, (0, (mk))), (2, (0, (ld))), (3, (0, (mo))), (4, (0, (kk)))]) (List.forall_mem_cons.mpr ⟨(List.Mem.head _), (List.forall_mem_cons.mpr ⟨(List.Mem.tail _ (List.Mem.head _)), (List.forall_mem_cons.mpr ⟨(List.Mem.tail _ (List.Mem.tail _ (List.Mem.tail _ (List.Mem.head _)))), (List.forall_mem_cons.mpr ⟨(List.Mem.tail _ (List.Mem.tail _ (List.Mem.tail _ (List.Mem.tail _ (List.Mem.head _))))), (List.forall_mem_cons.mpr ⟨(List.Mem.tail _ (List.Mem.tail _ (List.Mem.tail _ (List.Mem.tail _ (List.Mem.tail _ (List.Mem.head _)))))), (List.forall_mem_cons.mpr ⟨(List.Mem.tail _ (List.Mem.tail _ (List.Mem.tail _ (List.Mem.tail _ (List.Mem.tail _ (List.Mem.tail _ (List.Mem.head _))))))), (List.forall_mem_cons.mpr ⟨(List.Mem.tail _ (List.Mem.tail _ (List.Mem.tail _ (List.Mem.tail _ (List.Mem.tail _ (List.Mem.tail _ (List.Mem.tail _ (List.Mem.head _)))))))), (fun _ hx => by cases hx)⟩)⟩)⟩)⟩)⟩)⟩)⟩) ?_
          have e1 : ((cntM h mk ld mo kk b) + ((0 : Nat) : Int)) = cntM h mk ld mo kk (b + 1) := by
            simp only [cntM]
            rw [if_neg (by omega)]; omega
          rw [e1]
          exact ih (b + 1) (by omega)
        · have f144 : ¬ ((h 194 (306 + (5 * b))) ≠ (mk)) := e
          refine w_pl (pc' := 41) (lv' := [(7, (0, (((306 + (5 * b)) : Nat) : Int))), (6, (0, ((b : Nat) : Int))), (5, (0, (cntM h mk ld mo kk b))), (0, (2, ((193 : Nat) : Int))), (1, (0, (mk))), (2, (0, (ld))), (3, (0, (mo))), (4, (0, (kk)))]) (st' := [(2, ((193 : Nat) : Int)), (0, (cntM h mk ld mo kk b))]) (h' := h) (o231_23 hB) rfl ?_
          refine w_getf (A := 193) (t := 2) (z := ((194 : Nat) : Int)) (pc' := 44) (o231_24 hB) rfl (by decide +kernel) (hR (193, 0, 194) (by decide)) ?_
          refine w_pl (pc' := 46) (lv' := [(7, (0, (((306 + (5 * b)) : Nat) : Int))), (6, (0, ((b : Nat) : Int))), (5, (0, (cntM h mk ld mo kk b))), (0, (2, ((193 : Nat) : Int))), (1, (0, (mk))), (2, (0, (ld))), (3, (0, (mo))), (4, (0, (kk)))]) (st' := [(0, (((306 + (5 * b)) : Nat) : Int)), (2, ((194 : Nat) : Int)), (0, (cntM h mk ld mo kk b))]) (h' := h) (o231_25 hB) rfl ?_
          refine w_pl (pc' := 47) (lv' := [(7, (0, (((306 + (5 * b)) : Nat) : Int))), (6, (0, ((b : Nat) : Int))), (5, (0, (cntM h mk ld mo kk b))), (0, (2, ((193 : Nat) : Int))), (1, (0, (mk))), (2, (0, (ld))), (3, (0, (mo))), (4, (0, (kk)))]) (st' := [(0, ((1 : Nat) : Int)), (0, (((306 + (5 * b)) : Nat) : Int)), (2, ((194 : Nat) : Int)), (0, (cntM h mk ld mo kk b))]) (h' := h) (o231_26 hB) rfl ?_
          refine w_iadd (z := ((((306 + (5 * b)) + 1) : Nat) : Int)) (pc' := 48) (o231_27 hB) rfl (w32_e (by omega) (by omega)) ?_
          have f145 := ty_194_s307 ht (j := ((306 + (5 * b)) + 1)) (r := b) (by omega) (by omega)
          refine w_iald (A := 194) (i := ((306 + (5 * b)) + 1)) (n := 1984) (z := (h 194 ((306 + (5 * b)) + 1))) (pc' := 49) (o231_28 hB) rfl (by decide +kernel) (by omega) rfl ?_
          refine w_pl (pc' := 50) (lv' := [(7, (0, (((306 + (5 * b)) : Nat) : Int))), (6, (0, ((b : Nat) : Int))), (5, (0, (cntM h mk ld mo kk b))), (0, (2, ((193 : Nat) : Int))), (1, (0, (mk))), (2, (0, (ld))), (3, (0, (mo))), (4, (0, (kk)))]) (st' := [(0, (ld)), (0, (h 194 ((306 + (5 * b)) + 1))), (0, (cntM h mk ld mo kk b))]) (h' := h) (o231_29 hB) rfl ?_
          refine w_icmp (pt := 92) (pf := 53) (o231_30 hB) (by decide) rfl (fun e => ?_) (fun e => ?_)
          · have f146 : ((h 194 ((306 + (5 * b)) + 1)) ≠ (ld)) := e
            refine w_pl (pc' := 93) (lv' := [(7, (0, (((306 + (5 * b)) : Nat) : Int))), (6, (0, ((b : Nat) : Int))), (5, (0, (cntM h mk ld mo kk b))), (0, (2, ((193 : Nat) : Int))), (1, (0, (mk))), (2, (0, (ld))), (3, (0, (mo))), (4, (0, (kk)))]) (st' := [(0, ((0 : Nat) : Int)), (0, (cntM h mk ld mo kk b))]) (h' := h) (o231_54 hB) rfl ?_
            refine w_iadd (z := ((cntM h mk ld mo kk b) + ((0 : Nat) : Int))) (pc' := 94) (o231_55 hB) rfl (w32_e (by omega) (by omega)) ?_
            refine w_st (tg := 0) (j := 5) (len := 2) (pc' := 96) (lv' := [(5, (0, ((cntM h mk ld mo kk b) + ((0 : Nat) : Int)))), (7, (0, (((306 + (5 * b)) : Nat) : Int))), (6, (0, ((b : Nat) : Int))), (0, (2, ((193 : Nat) : Int))), (1, (0, (mk))), (2, (0, (ld))), (3, (0, (mo))), (4, (0, (kk)))]) (o231_56 hB) rfl rfl ml231 (by decide) rfl ?_
            refine w_iinc (x := ((b : Nat) : Int)) (z := (((b + 1) : Nat) : Int)) (pc' := 99) (lv' := [(6, (0, (((b + 1) : Nat) : Int))), (5, (0, ((cntM h mk ld mo kk b) + ((0 : Nat) : Int)))), (7, (0, (((306 + (5 * b)) : Nat) : Int))), (0, (2, ((193 : Nat) : Int))), (1, (0, (mk))), (2, (0, (ld))), (3, (0, (mo))), (4, (0, (kk)))]) (o231_57 hB) rfl rfl ml231 (by decide) (w32_e (by omega) (by omega)) rfl ?_
            refine w_goto (pt := 6) (o231_58 hB) (by decide) ?_
            refine w_sub (lv' := [(6, (0, (((b + 1) : Nat) : Int))), (5, (0, ((cntM h mk ld mo kk b) + ((0 : Nat) : Int)))), (0, (2, ((193 : Nat) : Int))), (1, (0, (mk))), (2, (0, (ld))), (3, (0, (mo))), (4, (0, (kk)))]) (List.forall_mem_cons.mpr ⟨(List.Mem.head _), (List.forall_mem_cons.mpr ⟨(List.Mem.tail _ (List.Mem.head _)), (List.forall_mem_cons.mpr ⟨(List.Mem.tail _ (List.Mem.tail _ (List.Mem.tail _ (List.Mem.head _)))), (List.forall_mem_cons.mpr ⟨(List.Mem.tail _ (List.Mem.tail _ (List.Mem.tail _ (List.Mem.tail _ (List.Mem.head _))))), (List.forall_mem_cons.mpr ⟨(List.Mem.tail _ (List.Mem.tail _ (List.Mem.tail _ (List.Mem.tail _ (List.Mem.tail _ (List.Mem.head _)))))), (List.forall_mem_cons.mpr ⟨(List.Mem.tail _ (List.Mem.tail _ (List.Mem.tail _ (List.Mem.tail _ (List.Mem.tail _ (List.Mem.tail _ (List.Mem.head _))))))), (List.forall_mem_cons.mpr ⟨(List.Mem.tail _ (List.Mem.tail _ (List.Mem.tail _ (List.Mem.tail _ (List.Mem.tail _ (List.Mem.tail _ (List.Mem.tail _ (List.Mem.head _)))))))), (fun _ hx => by cases hx)⟩)⟩)⟩)⟩)⟩)⟩)⟩) ?_
            have e1 : ((cntM h mk ld mo kk b) + ((0 : Nat) : Int)) = cntM h mk ld mo kk (b + 1) := by
              simp only [cntM]
              rw [if_neg (by omega)]; omega
            rw [e1]
            exact ih (b + 1) (by omega)
          · have f147 : ¬ ((h 194 ((306 + (5 * b)) + 1)) ≠ (ld)) := e
            refine w_pl (pc' := 54) (lv' := [(7, (0, (((306 + (5 * b)) : Nat) : Int))), (6, (0, ((b : Nat) : Int))), (5, (0, (cntM h mk ld mo kk b))), (0, (2, ((193 : Nat) : Int))), (1, (0, (mk))), (2, (0, (ld))), (3, (0, (mo))), (4, (0, (kk)))]) (st' := [(2, ((193 : Nat) : Int)), (0, (cntM h mk ld mo kk b))]) (h' := h) (o231_31 hB) rfl ?_
            refine w_getf (A := 193) (t := 2) (z := ((194 : Nat) : Int)) (pc' := 57) (o231_32 hB) rfl (by decide +kernel) (hR (193, 0, 194) (by decide)) ?_
            refine w_pl (pc' := 59) (lv' := [(7, (0, (((306 + (5 * b)) : Nat) : Int))), (6, (0, ((b : Nat) : Int))), (5, (0, (cntM h mk ld mo kk b))), (0, (2, ((193 : Nat) : Int))), (1, (0, (mk))), (2, (0, (ld))), (3, (0, (mo))), (4, (0, (kk)))]) (st' := [(0, (((306 + (5 * b)) : Nat) : Int)), (2, ((194 : Nat) : Int)), (0, (cntM h mk ld mo kk b))]) (h' := h) (o231_33 hB) rfl ?_
            refine w_pl (pc' := 60) (lv' := [(7, (0, (((306 + (5 * b)) : Nat) : Int))), (6, (0, ((b : Nat) : Int))), (5, (0, (cntM h mk ld mo kk b))), (0, (2, ((193 : Nat) : Int))), (1, (0, (mk))), (2, (0, (ld))), (3, (0, (mo))), (4, (0, (kk)))]) (st' := [(0, ((2 : Nat) : Int)), (0, (((306 + (5 * b)) : Nat) : Int)), (2, ((194 : Nat) : Int)), (0, (cntM h mk ld mo kk b))]) (h' := h) (o231_34 hB) rfl ?_
            refine w_iadd (z := ((((306 + (5 * b)) + 2) : Nat) : Int)) (pc' := 61) (o231_35 hB) rfl (w32_e (by omega) (by omega)) ?_
            have f148 := ty_194_s308 ht (j := ((306 + (5 * b)) + 2)) (r := b) (by omega) (by omega)
            refine w_iald (A := 194) (i := ((306 + (5 * b)) + 2)) (n := 1984) (z := (h 194 ((306 + (5 * b)) + 2))) (pc' := 62) (o231_36 hB) rfl (by decide +kernel) (by omega) rfl ?_
            refine w_pl (pc' := 63) (lv' := [(7, (0, (((306 + (5 * b)) : Nat) : Int))), (6, (0, ((b : Nat) : Int))), (5, (0, (cntM h mk ld mo kk b))), (0, (2, ((193 : Nat) : Int))), (1, (0, (mk))), (2, (0, (ld))), (3, (0, (mo))), (4, (0, (kk)))]) (st' := [(0, (mo)), (0, (h 194 ((306 + (5 * b)) + 2))), (0, (cntM h mk ld mo kk b))]) (h' := h) (o231_37 hB) rfl ?_
            refine w_icmp (pt := 92) (pf := 66) (o231_38 hB) (by decide) rfl (fun e => ?_) (fun e => ?_)
            · have f149 : ((h 194 ((306 + (5 * b)) + 2)) ≠ (mo)) := e
              refine w_pl (pc' := 93) (lv' := [(7, (0, (((306 + (5 * b)) : Nat) : Int))), (6, (0, ((b : Nat) : Int))), (5, (0, (cntM h mk ld mo kk b))), (0, (2, ((193 : Nat) : Int))), (1, (0, (mk))), (2, (0, (ld))), (3, (0, (mo))), (4, (0, (kk)))]) (st' := [(0, ((0 : Nat) : Int)), (0, (cntM h mk ld mo kk b))]) (h' := h) (o231_54 hB) rfl ?_
              refine w_iadd (z := ((cntM h mk ld mo kk b) + ((0 : Nat) : Int))) (pc' := 94) (o231_55 hB) rfl (w32_e (by omega) (by omega)) ?_
              refine w_st (tg := 0) (j := 5) (len := 2) (pc' := 96) (lv' := [(5, (0, ((cntM h mk ld mo kk b) + ((0 : Nat) : Int)))), (7, (0, (((306 + (5 * b)) : Nat) : Int))), (6, (0, ((b : Nat) : Int))), (0, (2, ((193 : Nat) : Int))), (1, (0, (mk))), (2, (0, (ld))), (3, (0, (mo))), (4, (0, (kk)))]) (o231_56 hB) rfl rfl ml231 (by decide) rfl ?_
              refine w_iinc (x := ((b : Nat) : Int)) (z := (((b + 1) : Nat) : Int)) (pc' := 99) (lv' := [(6, (0, (((b + 1) : Nat) : Int))), (5, (0, ((cntM h mk ld mo kk b) + ((0 : Nat) : Int)))), (7, (0, (((306 + (5 * b)) : Nat) : Int))), (0, (2, ((193 : Nat) : Int))), (1, (0, (mk))), (2, (0, (ld))), (3, (0, (mo))), (4, (0, (kk)))]) (o231_57 hB) rfl rfl ml231 (by decide) (w32_e (by omega) (by omega)) rfl ?_
              refine w_goto (pt := 6) (o231_58 hB) (by decide) ?_
              refine w_sub (lv' := [(6, (0, (((b + 1) : Nat) : Int))), (5, (0, ((cntM h mk ld mo kk b) + ((0 : Nat) : Int)))), (0, (2, ((193 : Nat) : Int))), (1, (0, (mk))), (2, (0, (ld))), (3, (0, (mo))), (4, (0, (kk)))]) (List.forall_mem_cons.mpr ⟨(List.Mem.head _), (List.forall_mem_cons.mpr ⟨(List.Mem.tail _ (List.Mem.head _)), (List.forall_mem_cons.mpr ⟨(List.Mem.tail _ (List.Mem.tail _ (List.Mem.tail _ (List.Mem.head _)))), (List.forall_mem_cons.mpr ⟨(List.Mem.tail _ (List.Mem.tail _ (List.Mem.tail _ (List.Mem.tail _ (List.Mem.head _))))), (List.forall_mem_cons.mpr ⟨(List.Mem.tail _ (List.Mem.tail _ (List.Mem.tail _ (List.Mem.tail _ (List.Mem.tail _ (List.Mem.head _)))))), (List.forall_mem_cons.mpr ⟨(List.Mem.tail _ (List.Mem.tail _ (List.Mem.tail _ (List.Mem.tail _ (List.Mem.tail _ (List.Mem.tail _ (List.Mem.head _))))))), (List.forall_mem_cons.mpr ⟨(List.Mem.tail _ (List.Mem.tail _ (List.Mem.tail _ (List.Mem.tail _ (List.Mem.tail _ (List.Mem.tail _ (List.Mem.tail _ (List.Mem.head _)))))))), (fun _ hx => by cases hx)⟩)⟩)⟩)⟩)⟩)⟩)⟩) ?_
              have e1 : ((cntM h mk ld mo kk b) + ((0 : Nat) : Int)) = cntM h mk ld mo kk (b + 1) := by
                simp only [cntM]
                rw [if_neg (by omega)]; omega
              rw [e1]
              exact ih (b + 1) (by omega)
            · have f150 : ¬ ((h 194 ((306 + (5 * b)) + 2)) ≠ (mo)) := e
              refine w_pl (pc' := 67) (lv' := [(7, (0, (((306 + (5 * b)) : Nat) : Int))), (6, (0, ((b : Nat) : Int))), (5, (0, (cntM h mk ld mo kk b))), (0, (2, ((193 : Nat) : Int))), (1, (0, (mk))), (2, (0, (ld))), (3, (0, (mo))), (4, (0, (kk)))]) (st' := [(2, ((193 : Nat) : Int)), (0, (cntM h mk ld mo kk b))]) (h' := h) (o231_39 hB) rfl ?_
              refine w_getf (A := 193) (t := 2) (z := ((194 : Nat) : Int)) (pc' := 70) (o231_40 hB) rfl (by decide +kernel) (hR (193, 0, 194) (by decide)) ?_
              refine w_pl (pc' := 72) (lv' := [(7, (0, (((306 + (5 * b)) : Nat) : Int))), (6, (0, ((b : Nat) : Int))), (5, (0, (cntM h mk ld mo kk b))), (0, (2, ((193 : Nat) : Int))), (1, (0, (mk))), (2, (0, (ld))), (3, (0, (mo))), (4, (0, (kk)))]) (st' := [(0, (((306 + (5 * b)) : Nat) : Int)), (2, ((194 : Nat) : Int)), (0, (cntM h mk ld mo kk b))]) (h' := h) (o231_41 hB) rfl ?_
              refine w_pl (pc' := 73) (lv' := [(7, (0, (((306 + (5 * b)) : Nat) : Int))), (6, (0, ((b : Nat) : Int))), (5, (0, (cntM h mk ld mo kk b))), (0, (2, ((193 : Nat) : Int))), (1, (0, (mk))), (2, (0, (ld))), (3, (0, (mo))), (4, (0, (kk)))]) (st' := [(0, ((4 : Nat) : Int)), (0, (((306 + (5 * b)) : Nat) : Int)), (2, ((194 : Nat) : Int)), (0, (cntM h mk ld mo kk b))]) (h' := h) (o231_42 hB) rfl ?_
              refine w_iadd (z := ((((306 + (5 * b)) + 4) : Nat) : Int)) (pc' := 74) (o231_43 hB) rfl (w32_e (by omega) (by omega)) ?_
              have f151 := ty_194_s310 ht (j := ((306 + (5 * b)) + 4)) (r := b) (by omega) (by omega)
              refine w_iald (A := 194) (i := ((306 + (5 * b)) + 4)) (n := 1984) (z := (h 194 ((306 + (5 * b)) + 4))) (pc' := 75) (o231_44 hB) rfl (by decide +kernel) (by omega) rfl ?_
              refine w_pl (pc' := 77) (lv' := [(7, (0, (((306 + (5 * b)) : Nat) : Int))), (6, (0, ((b : Nat) : Int))), (5, (0, (cntM h mk ld mo kk b))), (0, (2, ((193 : Nat) : Int))), (1, (0, (mk))), (2, (0, (ld))), (3, (0, (mo))), (4, (0, (kk)))]) (st' := [(0, (kk)), (0, (h 194 ((306 + (5 * b)) + 4))), (0, (cntM h mk ld mo kk b))]) (h' := h) (o231_45 hB) rfl ?_
              refine w_icmp (pt := 92) (pf := 80) (o231_46 hB) (by decide) rfl (fun e => ?_) (fun e => ?_)
              · have f152 : ((kk) < (h 194 ((306 + (5 * b)) + 4))) := e
                refine w_pl (pc' := 93) (lv' := [(7, (0, (((306 + (5 * b)) : Nat) : Int))), (6, (0, ((b : Nat) : Int))), (5, (0, (cntM h mk ld mo kk b))), (0, (2, ((193 : Nat) : Int))), (1, (0, (mk))), (2, (0, (ld))), (3, (0, (mo))), (4, (0, (kk)))]) (st' := [(0, ((0 : Nat) : Int)), (0, (cntM h mk ld mo kk b))]) (h' := h) (o231_54 hB) rfl ?_
                refine w_iadd (z := ((cntM h mk ld mo kk b) + ((0 : Nat) : Int))) (pc' := 94) (o231_55 hB) rfl (w32_e (by omega) (by omega)) ?_
                refine w_st (tg := 0) (j := 5) (len := 2) (pc' := 96) (lv' := [(5, (0, ((cntM h mk ld mo kk b) + ((0 : Nat) : Int)))), (7, (0, (((306 + (5 * b)) : Nat) : Int))), (6, (0, ((b : Nat) : Int))), (0, (2, ((193 : Nat) : Int))), (1, (0, (mk))), (2, (0, (ld))), (3, (0, (mo))), (4, (0, (kk)))]) (o231_56 hB) rfl rfl ml231 (by decide) rfl ?_
                refine w_iinc (x := ((b : Nat) : Int)) (z := (((b + 1) : Nat) : Int)) (pc' := 99) (lv' := [(6, (0, (((b + 1) : Nat) : Int))), (5, (0, ((cntM h mk ld mo kk b) + ((0 : Nat) : Int)))), (7, (0, (((306 + (5 * b)) : Nat) : Int))), (0, (2, ((193 : Nat) : Int))), (1, (0, (mk))), (2, (0, (ld))), (3, (0, (mo))), (4, (0, (kk)))]) (o231_57 hB) rfl rfl ml231 (by decide) (w32_e (by omega) (by omega)) rfl ?_
                refine w_goto (pt := 6) (o231_58 hB) (by decide) ?_
                refine w_sub (lv' := [(6, (0, (((b + 1) : Nat) : Int))), (5, (0, ((cntM h mk ld mo kk b) + ((0 : Nat) : Int)))), (0, (2, ((193 : Nat) : Int))), (1, (0, (mk))), (2, (0, (ld))), (3, (0, (mo))), (4, (0, (kk)))]) (List.forall_mem_cons.mpr ⟨(List.Mem.head _), (List.forall_mem_cons.mpr ⟨(List.Mem.tail _ (List.Mem.head _)), (List.forall_mem_cons.mpr ⟨(List.Mem.tail _ (List.Mem.tail _ (List.Mem.tail _ (List.Mem.head _)))), (List.forall_mem_cons.mpr ⟨(List.Mem.tail _ (List.Mem.tail _ (List.Mem.tail _ (List.Mem.tail _ (List.Mem.head _))))), (List.forall_mem_cons.mpr ⟨(List.Mem.tail _ (List.Mem.tail _ (List.Mem.tail _ (List.Mem.tail _ (List.Mem.tail _ (List.Mem.head _)))))), (List.forall_mem_cons.mpr ⟨(List.Mem.tail _ (List.Mem.tail _ (List.Mem.tail _ (List.Mem.tail _ (List.Mem.tail _ (List.Mem.tail _ (List.Mem.head _))))))), (List.forall_mem_cons.mpr ⟨(List.Mem.tail _ (List.Mem.tail _ (List.Mem.tail _ (List.Mem.tail _ (List.Mem.tail _ (List.Mem.tail _ (List.Mem.tail _ (List.Mem.head _)))))))), (fun _ hx => by cases hx)⟩)⟩)⟩)⟩)⟩)⟩)⟩) ?_
                have e1 : ((cntM h mk ld mo kk b) + ((0 : Nat) : Int)) = cntM h mk ld mo kk (b + 1) := by
                  simp only [cntM]
                  rw [if_neg (by omega)]; omega
                rw [e1]
                exact ih (b + 1) (by omega)
              · have f153 : ¬ ((kk) < (h 194 ((306 + (5 * b)) + 4))) := e
                refine w_pl (pc' := 81) (lv' := [(7, (0, (((306 + (5 * b)) : Nat) : Int))), (6, (0, ((b : Nat) : Int))), (5, (0, (cntM h mk ld mo kk b))), (0, (2, ((193 : Nat) : Int))), (1, (0, (mk))), (2, (0, (ld))), (3, (0, (mo))), (4, (0, (kk)))]) (st' := [(2, ((193 : Nat) : Int)), (0, (cntM h mk ld mo kk b))]) (h' := h) (o231_47 hB) rfl ?_
                refine w_getf (A := 193) (t := 2) (z := ((194 : Nat) : Int)) (pc' := 84) (o231_48 hB) rfl (by decide +kernel) (hR (193, 0, 194) (by decide)) ?_
                refine w_pl (pc' := 86) (lv' := [(7, (0, (((306 + (5 * b)) : Nat) : Int))), (6, (0, ((b : Nat) : Int))), (5, (0, (cntM h mk ld mo kk b))), (0, (2, ((193 : Nat) : Int))), (1, (0, (mk))), (2, (0, (ld))), (3, (0, (mo))), (4, (0, (kk)))]) (st' := [(0, (((306 + (5 * b)) : Nat) : Int)), (2, ((194 : Nat) : Int)), (0, (cntM h mk ld mo kk b))]) (h' := h) (o231_49 hB) rfl ?_
                refine w_pl (pc' := 87) (lv' := [(7, (0, (((306 + (5 * b)) : Nat) : Int))), (6, (0, ((b : Nat) : Int))), (5, (0, (cntM h mk ld mo kk b))), (0, (2, ((193 : Nat) : Int))), (1, (0, (mk))), (2, (0, (ld))), (3, (0, (mo))), (4, (0, (kk)))]) (st' := [(0, ((3 : Nat) : Int)), (0, (((306 + (5 * b)) : Nat) : Int)), (2, ((194 : Nat) : Int)), (0, (cntM h mk ld mo kk b))]) (h' := h) (o231_50 hB) rfl ?_
                refine w_iadd (z := ((((306 + (5 * b)) + 3) : Nat) : Int)) (pc' := 88) (o231_51 hB) rfl (w32_e (by omega) (by omega)) ?_
                have f154 := ty_194_s309 ht (j := ((306 + (5 * b)) + 3)) (r := b) (by omega) (by omega)
                refine w_iald (A := 194) (i := ((306 + (5 * b)) + 3)) (n := 1984) (z := (h 194 ((306 + (5 * b)) + 3))) (pc' := 89) (o231_52 hB) rfl (by decide +kernel) (by omega) rfl ?_
                refine w_goto (pt := 93) (o231_53 hB) (by decide) ?_
                refine w_iadd (z := ((cntM h mk ld mo kk b) + (h 194 ((306 + (5 * b)) + 3)))) (pc' := 94) (o231_55 hB) rfl (w32_e (by omega) (by omega)) ?_
                refine w_st (tg := 0) (j := 5) (len := 2) (pc' := 96) (lv' := [(5, (0, ((cntM h mk ld mo kk b) + (h 194 ((306 + (5 * b)) + 3))))), (7, (0, (((306 + (5 * b)) : Nat) : Int))), (6, (0, ((b : Nat) : Int))), (0, (2, ((193 : Nat) : Int))), (1, (0, (mk))), (2, (0, (ld))), (3, (0, (mo))), (4, (0, (kk)))]) (o231_56 hB) rfl rfl ml231 (by decide) rfl ?_
                refine w_iinc (x := ((b : Nat) : Int)) (z := (((b + 1) : Nat) : Int)) (pc' := 99) (lv' := [(6, (0, (((b + 1) : Nat) : Int))), (5, (0, ((cntM h mk ld mo kk b) + (h 194 ((306 + (5 * b)) + 3))))), (7, (0, (((306 + (5 * b)) : Nat) : Int))), (0, (2, ((193 : Nat) : Int))), (1, (0, (mk))), (2, (0, (ld))), (3, (0, (mo))), (4, (0, (kk)))]) (o231_57 hB) rfl rfl ml231 (by decide) (w32_e (by omega) (by omega)) rfl ?_
                refine w_goto (pt := 6) (o231_58 hB) (by decide) ?_
                refine w_sub (lv' := [(6, (0, (((b + 1) : Nat) : Int))), (5, (0, ((cntM h mk ld mo kk b) + (h 194 ((306 + (5 * b)) + 3))))), (0, (2, ((193 : Nat) : Int))), (1, (0, (mk))), (2, (0, (ld))), (3, (0, (mo))), (4, (0, (kk)))]) (List.forall_mem_cons.mpr ⟨(List.Mem.head _), (List.forall_mem_cons.mpr ⟨(List.Mem.tail _ (List.Mem.head _)), (List.forall_mem_cons.mpr ⟨(List.Mem.tail _ (List.Mem.tail _ (List.Mem.tail _ (List.Mem.head _)))), (List.forall_mem_cons.mpr ⟨(List.Mem.tail _ (List.Mem.tail _ (List.Mem.tail _ (List.Mem.tail _ (List.Mem.head _))))), (List.forall_mem_cons.mpr ⟨(List.Mem.tail _ (List.Mem.tail _ (List.Mem.tail _ (List.Mem.tail _ (List.Mem.tail _ (List.Mem.head _)))))), (List.forall_mem_cons.mpr ⟨(List.Mem.tail _ (List.Mem.tail _ (List.Mem.tail _ (List.Mem.tail _ (List.Mem.tail _ (List.Mem.tail _ (List.Mem.head _))))))), (List.forall_mem_cons.mpr ⟨(List.Mem.tail _ (List.Mem.tail _ (List.Mem.tail _ (List.Mem.tail _ (List.Mem.tail _ (List.Mem.tail _ (List.Mem.tail _ (List.Mem.head _)))))))), (fun _ hx => by cases hx)⟩)⟩)⟩)⟩)⟩)⟩)⟩) ?_
                have e1 : ((cntM h mk ld mo kk b) + (h 194 ((306 + (5 * b)) + 3))) = cntM h mk ld mo kk (b + 1) := by
                  simp only [cntM]
                  rw [if_pos ⟨by omega, by omega, by omega, by omega⟩]
                rw [e1]
                exact ih (b + 1) (by omega)
  refine mh_go hB mg231 ml231 (Nat.le_of_ble_eq_true rfl) ?_
  show HW g l d 231 _ _ 0 [(0, (2, ((193 : Nat) : Int))), (1, (0, (mk))), (2, (0, (ld))), (3, (0, (mo))), (4, (0, (kk)))] [] h
  refine w_pl (pc' := 1) (lv' := [(0, (2, ((193 : Nat) : Int))), (1, (0, (mk))), (2, (0, (ld))), (3, (0, (mo))), (4, (0, (kk)))]) (st' := [(0, ((0 : Nat) : Int))]) (h' := h) (o231_0 hB) rfl ?_
  refine w_st (tg := 0) (j := 5) (len := 2) (pc' := 3) (lv' := [(5, (0, ((0 : Nat) : Int))), (0, (2, ((193 : Nat) : Int))), (1, (0, (mk))), (2, (0, (ld))), (3, (0, (mo))), (4, (0, (kk)))]) (o231_1 hB) rfl rfl ml231 (by decide) rfl ?_
  refine w_pl (pc' := 4) (lv' := [(5, (0, ((0 : Nat) : Int))), (0, (2, ((193 : Nat) : Int))), (1, (0, (mk))), (2, (0, (ld))), (3, (0, (mo))), (4, (0, (kk)))]) (st' := [(0, ((0 : Nat) : Int))]) (h' := h) (o231_2 hB) rfl ?_
  refine w_st (tg := 0) (j := 6) (len := 2) (pc' := 6) (lv' := [(6, (0, ((0 : Nat) : Int))), (5, (0, ((0 : Nat) : Int))), (0, (2, ((193 : Nat) : Int))), (1, (0, (mk))), (2, (0, (ld))), (3, (0, (mo))), (4, (0, (kk)))]) (o231_3 hB) rfl rfl ml231 (by decide) rfl ?_
  refine w_sub (lv' := [(6, (0, ((0 : Nat) : Int))), (5, (0, ((0 : Nat) : Int))), (0, (2, ((193 : Nat) : Int))), (1, (0, (mk))), (2, (0, (ld))), (3, (0, (mo))), (4, (0, (kk)))]) (List.forall_mem_cons.mpr ⟨(List.Mem.head _), (List.forall_mem_cons.mpr ⟨(List.Mem.tail _ (List.Mem.head _)), (List.forall_mem_cons.mpr ⟨(List.Mem.tail _ (List.Mem.tail _ (List.Mem.head _))), (List.forall_mem_cons.mpr ⟨(List.Mem.tail _ (List.Mem.tail _ (List.Mem.tail _ (List.Mem.head _)))), (List.forall_mem_cons.mpr ⟨(List.Mem.tail _ (List.Mem.tail _ (List.Mem.tail _ (List.Mem.tail _ (List.Mem.head _))))), (List.forall_mem_cons.mpr ⟨(List.Mem.tail _ (List.Mem.tail _ (List.Mem.tail _ (List.Mem.tail _ (List.Mem.tail _ (List.Mem.head _)))))), (List.forall_mem_cons.mpr ⟨(List.Mem.tail _ (List.Mem.tail _ (List.Mem.tail _ (List.Mem.tail _ (List.Mem.tail _ (List.Mem.tail _ (List.Mem.head _))))))), (fun _ hx => by cases hx)⟩)⟩)⟩)⟩)⟩)⟩)⟩) ?_
  exact loop c 0 (by omega)
theorem m_countB (hB : BytesOK) {g : bG} {l : Launch} {d : Nat} {Q : bQ} {h : bH} {x kk : Int} (ht : TH h) (z_x : in32 x) (z_kk : in32 kk) {c : Nat} (hc : h 17 0 = (c : Int)) (lc : c ≤ 24)  (a0 : ¬ ((0 ≤ x ∧ x / 10000 < 6 ∧ x / 1000 % 10 < 4 ∧ x % 1000 < 240) ∧ 0 ≤ kk ∧ kk ≤ 239) → Q (some (0, (-1))) h) (a1 : (0 ≤ x ∧ x / 10000 < 6 ∧ x / 1000 % 10 < 4 ∧ x % 1000 < 240) ∧ 0 ≤ kk ∧ kk ≤ 239 → Q (some (0, (cntA h x kk c))) h) : MH g l (d + 1) 139 212 212 [(2, ((0 : Nat) : Int)), (0, (x)), (0, (kk))] h Q := by
  have hR := ht.r
  have z0_x := z_x
  have z0_kk := z_kk
  unfold in32 at z0_x
  unfold in32 at z0_kk
  refine mh_go hB mg139 ml139 (Nat.le_of_ble_eq_true rfl) ?_
  show HW g l (d + 1) 139 _ _ 0 [(0, (2, ((0 : Nat) : Int))), (1, (0, (x))), (2, (0, (kk)))] [] h
  refine w_pl (pc' := 1) (lv' := [(0, (2, ((0 : Nat) : Int))), (1, (0, (x))), (2, (0, (kk)))]) (st' := [(0, (x))]) (h' := h) (o139_0 hB) rfl ?_
  refine w_callS (as := [(0, (x))]) (rest := []) (n := 1) (pc' := 4) hB (o139_1 hB) rfl (by decide +kernel) rfl rfl (Nat.le_of_ble_eq_true rfl) (m_isWhereB hB z_x (fun f168 => ?_) (fun f169 => ?_))
  · show HW g l _ 139 _ _ 4 [(0, (2, ((0 : Nat) : Int))), (1, (0, (x))), (2, (0, (kk)))] [(0, ((1 : Nat) : Int))] h
    refine w_ifc (pt := 14) (pf := 7) (o139_2 hB) (by decide) rfl (fun e => ?_) (fun e => ?_)
    · have f170 : (((1 : Nat) : Int) = (0)) := e
      exfalso; omega
    · have f171 : ¬ (((1 : Nat) : Int) = (0)) := e
      refine w_pl (pc' := 8) (lv' := [(0, (2, ((0 : Nat) : Int))), (1, (0, (x))), (2, (0, (kk)))]) (st' := [(0, (kk))]) (h' := h) (o139_3 hB) rfl ?_
      refine w_callS (as := [(0, (kk))]) (rest := []) (n := 1) (pc' := 11) hB (o139_4 hB) rfl (by decide +kernel) rfl rfl (Nat.le_of_ble_eq_true rfl) (m_isMonthB hB (fun f172 => ?_) (fun f173 => ?_))
      · show HW g l _ 139 _ _ 11 [(0, (2, ((0 : Nat) : Int))), (1, (0, (x))), (2, (0, (kk)))] [(0, ((1 : Nat) : Int))] h
        refine w_ifc (pt := 16) (pf := 14) (o139_5 hB) (by decide) rfl (fun e => ?_) (fun e => ?_)
        · have f174 : (((1 : Nat) : Int) ≠ (0)) := e
          refine w_pl (pc' := 17) (lv' := [(0, (2, ((0 : Nat) : Int))), (1, (0, (x))), (2, (0, (kk)))]) (st' := [(2, ((0 : Nat) : Int))]) (h' := h) (o139_8 hB) rfl ?_
          refine w_getf (A := 0) (t := 2) (z := ((1 : Nat) : Int)) (pc' := 20) (o139_9 hB) rfl (by decide +kernel) (hR (0, 0, 1) (by decide)) ?_
          refine w_getf (A := 1) (t := 2) (z := ((17 : Nat) : Int)) (pc' := 23) (o139_10 hB) rfl (by decide +kernel) (hR (1, 2, 17) (by decide)) ?_
          refine w_pl (pc' := 24) (lv' := [(0, (2, ((0 : Nat) : Int))), (1, (0, (x))), (2, (0, (kk)))]) (st' := [(0, (x)), (2, ((17 : Nat) : Int))]) (h' := h) (o139_11 hB) rfl ?_
          refine w_pl (pc' := 25) (lv' := [(0, (2, ((0 : Nat) : Int))), (1, (0, (x))), (2, (0, (kk)))]) (st' := [(0, (kk)), (0, (x)), (2, ((17 : Nat) : Int))]) (h' := h) (o139_12 hB) rfl ?_
          refine w_callV (A := 17) (as := [(0, (x)), (0, (kk))]) (rest := []) (n := 2) (pc' := 28) 9 hB (o139_13 hB) rfl (by decide +kernel) rfl rfl (Nat.le_of_ble_eq_true rfl) (m_countAt hB ht hc lc ?_)
          show HW g l _ 139 _ _ 28 [(0, (2, ((0 : Nat) : Int))), (1, (0, (x))), (2, (0, (kk)))] [(0, (cntA h x kk c))] h
          exact w_iret (o139_14 hB) mr139 (by have := cntA_r ht (w := x) (kk := kk) c lc; unfold in32; omega) (a1 (by omega))
        · have f176 : ¬ (((1 : Nat) : Int) ≠ (0)) := e
          exfalso; omega
      · show HW g l _ 139 _ _ 11 [(0, (2, ((0 : Nat) : Int))), (1, (0, (x))), (2, (0, (kk)))] [(0, ((0 : Nat) : Int))] h
        refine w_ifc (pt := 16) (pf := 14) (o139_5 hB) (by decide) rfl (fun e => ?_) (fun e => ?_)
        · have f177 : (((0 : Nat) : Int) ≠ (0)) := e
          exfalso; omega
        · have f178 : ¬ (((0 : Nat) : Int) ≠ (0)) := e
          refine w_pl (pc' := 15) (lv' := [(0, (2, ((0 : Nat) : Int))), (1, (0, (x))), (2, (0, (kk)))]) (st' := [(0, (-1))]) (h' := h) (o139_6 hB) rfl ?_
          exact w_iret (o139_7 hB) mr139 (by unfold in32; omega) (a0 (by omega))
  · show HW g l _ 139 _ _ 4 [(0, (2, ((0 : Nat) : Int))), (1, (0, (x))), (2, (0, (kk)))] [(0, ((0 : Nat) : Int))] h
    refine w_ifc (pt := 14) (pf := 7) (o139_2 hB) (by decide) rfl (fun e => ?_) (fun e => ?_)
    · have f179 : (((0 : Nat) : Int) = (0)) := e
      refine w_pl (pc' := 15) (lv' := [(0, (2, ((0 : Nat) : Int))), (1, (0, (x))), (2, (0, (kk)))]) (st' := [(0, (-1))]) (h' := h) (o139_6 hB) rfl ?_
      exact w_iret (o139_7 hB) mr139 (by unfold in32; omega) (a0 (by omega))
    · have f180 : ¬ (((0 : Nat) : Int) = (0)) := e
      exfalso; omega
def s_countB (vs : List bV) (h : bH) (r : Option bV) (h' : bH) : Prop := TH h ∧ ∀ (x kk : Int) (c : Nat) , vs = [(2, ((0 : Nat) : Int)), (0, x), (0, kk)] → h 17 0 = (c : Int) → ((¬ ((0 ≤ x ∧ x / 10000 < 6 ∧ x / 1000 % 10 < 4 ∧ x % 1000 < 240) ∧ 0 ≤ kk ∧ kk ≤ 239)) ∧ r = some (0, (-1)) ∧ h = h') ∨ (((0 ≤ x ∧ x / 10000 < 6 ∧ x / 1000 % 10 < 4 ∧ x % 1000 < 240) ∧ 0 ≤ kk ∧ kk ≤ 239) ∧ r = some (0, (cntA h x kk c)) ∧ h = h')
def w_countB : List (Nat × Nat × Nat) := []
def q_countB : aCt := cH 139 1 w_countB 2 0
theorem sk_countB (hB : BytesOK) (g : bG) (l : Launch) : SK g l gT q_countB s_countB := by
  intro d hd ρ h Q hcore hQ
  have hcore : core (PofW gT (some w_countB) false) (gsc g) h ρ h (List.replicate 2 r32, [], [], 212) := hcore
  have ht := hTH hcore
  have y0 := r32_0 hcore 0 (by decide)
  have y1 := r32_0 hcore 1 (by decide)
  have y00 := y0
  unfold in32 at y00
  have y01 := y1
  unfold in32 at y01
  obtain ⟨c, hc, lc⟩ := nat_to ht (a := 17) (j := 0) (n := 24) (by decide +kernel)
  obtain ⟨d', rfl⟩ : ∃ d', d = d' + 1 := ⟨d - 1, by have : 1 ≤ d := hd; omega⟩
  rw [show evS ρ (ctA q_countB) = [(2, ((0 : Nat) : Int)), (0, ρ 0), (0, ρ 1)] from evA2]
  refine m_countB (x := ρ 0) (kk := ρ 1) hB ht y0 y1 hc lc (fun hn => ?_) (fun hn => ?_)
  · refine hQ _ _ (hpost hcore (ht) (fun _ _ _ => rfl) (by unfold in32; omega)) ⟨ht, fun x kk c_c hv e_c => ?_⟩
    have hv := (evA2 (ρ := ρ)).symm.trans hv
    obtain ⟨rfl, rfl⟩ := vsA2 hv
    obtain rfl : c_c = c := by have := e_c.symm.trans hc; omega
    exact Or.inl ⟨hn, rfl, rfl⟩
  · refine hQ _ _ (hpost hcore (ht) (fun _ _ _ => rfl) (by have := cntA_r ht (w := ρ 0) (kk := ρ 1) c lc; unfold in32; omega)) ⟨ht, fun x kk c_c hv e_c => ?_⟩
    have hv := (evA2 (ρ := ρ)).symm.trans hv
    obtain ⟨rfl, rfl⟩ := vsA2 hv
    obtain rfl : c_c = c := by have := e_c.symm.trans hc; omega
    exact Or.inr (⟨hn, rfl, rfl⟩)
theorem m_countM (hB : BytesOK) {g : bG} {l : Launch} {d : Nat} {Q : bQ} {h : bH} {x kk : Int} (ht : TH h) (z_x : in32 x) (z_kk : in32 kk) {c : Nat} (hc : h 194 5 = (c : Int)) (lc : c ≤ 24)  (a0 : ¬ ((0 ≤ x ∧ x / 10000 < 6 ∧ x / 1000 % 10 < 4 ∧ x % 1000 < 240) ∧ 0 ≤ kk ∧ kk ≤ 239) → Q (some (0, (-1))) h) (a1 : (0 ≤ x ∧ x / 10000 < 6 ∧ x / 1000 % 10 < 4 ∧ x % 1000 < 240) ∧ 0 ≤ kk ∧ kk ≤ 239 → Q (some (0, (cntM h (x / 10000) (x / 1000 % 10) (x % 1000) kk c))) h) : MH g l (d + 1 + 1 + 1) 232 212 212 [(2, ((193 : Nat) : Int)), (0, (x)), (0, (kk))] h Q := by
  have hR := ht.r
  have z0_x := z_x
  have z0_kk := z_kk
  unfold in32 at z0_x
  unfold in32 at z0_kk
  refine mh_go hB mg232 ml232 (Nat.le_of_ble_eq_true rfl) ?_
  show HW g l (d + 1 + 1 + 1) 232 _ _ 0 [(0, (2, ((193 : Nat) : Int))), (1, (0, (x))), (2, (0, (kk)))] [] h
  refine w_pl (pc' := 1) (lv' := [(0, (2, ((193 : Nat) : Int))), (1, (0, (x))), (2, (0, (kk)))]) (st' := [(0, (x))]) (h' := h) (o232_0 hB) rfl ?_
  refine w_callS (as := [(0, (x))]) (rest := []) (n := 1) (pc' := 4) hB (o232_1 hB) rfl (by decide +kernel) rfl rfl (Nat.le_of_ble_eq_true rfl) (m_isWhereM hB z_x (fun f194 => ?_) (fun f195 => ?_))
  · show HW g l _ 232 _ _ 4 [(0, (2, ((193 : Nat) : Int))), (1, (0, (x))), (2, (0, (kk)))] [(0, ((1 : Nat) : Int))] h
    refine w_ifc (pt := 14) (pf := 7) (o232_2 hB) (by decide) rfl (fun e => ?_) (fun e => ?_)
    · have f196 : (((1 : Nat) : Int) = (0)) := e
      exfalso; omega
    · have f197 : ¬ (((1 : Nat) : Int) = (0)) := e
      refine w_pl (pc' := 8) (lv' := [(0, (2, ((193 : Nat) : Int))), (1, (0, (x))), (2, (0, (kk)))]) (st' := [(0, (kk))]) (h' := h) (o232_3 hB) rfl ?_
      refine w_callS (as := [(0, (kk))]) (rest := []) (n := 1) (pc' := 11) hB (o232_4 hB) rfl (by decide +kernel) rfl rfl (Nat.le_of_ble_eq_true rfl) (m_isMonthM hB (fun f198 => ?_) (fun f199 => ?_))
      · show HW g l _ 232 _ _ 11 [(0, (2, ((193 : Nat) : Int))), (1, (0, (x))), (2, (0, (kk)))] [(0, ((1 : Nat) : Int))] h
        refine w_ifc (pt := 16) (pf := 14) (o232_5 hB) (by decide) rfl (fun e => ?_) (fun e => ?_)
        · have f200 : (((1 : Nat) : Int) ≠ (0)) := e
          refine w_pl (pc' := 17) (lv' := [(0, (2, ((193 : Nat) : Int))), (1, (0, (x))), (2, (0, (kk)))]) (st' := [(2, ((193 : Nat) : Int))]) (h' := h) (o232_8 hB) rfl ?_
          refine w_pl (pc' := 18) (lv' := [(0, (2, ((193 : Nat) : Int))), (1, (0, (x))), (2, (0, (kk)))]) (st' := [(0, (x)), (2, ((193 : Nat) : Int))]) (h' := h) (o232_9 hB) rfl ?_
          refine w_pl (pc' := 21) (lv' := [(0, (2, ((193 : Nat) : Int))), (1, (0, (x))), (2, (0, (kk)))]) (st' := [(0, ((10000 : Nat) : Int)), (0, (x)), (2, ((193 : Nat) : Int))]) (h' := h) (o232_10 hB) rfl ?_
          refine w_idiv (z := ((x) / 10000)) (pc' := 22) (o232_11 hB) rfl (divI_p (by omega) (by omega) (by decide)) ?_
          refine w_pl (pc' := 23) (lv' := [(0, (2, ((193 : Nat) : Int))), (1, (0, (x))), (2, (0, (kk)))]) (st' := [(0, (x)), (0, ((x) / 10000)), (2, ((193 : Nat) : Int))]) (h' := h) (o232_12 hB) rfl ?_
          refine w_pl (pc' := 26) (lv' := [(0, (2, ((193 : Nat) : Int))), (1, (0, (x))), (2, (0, (kk)))]) (st' := [(0, ((1000 : Nat) : Int)), (0, (x)), (0, ((x) / 10000)), (2, ((193 : Nat) : Int))]) (h' := h) (o232_13 hB) rfl ?_
          refine w_idiv (z := ((x) / 1000)) (pc' := 27) (o232_14 hB) rfl (divI_p (by omega) (by omega) (by decide)) ?_
          refine w_pl (pc' := 29) (lv' := [(0, (2, ((193 : Nat) : Int))), (1, (0, (x))), (2, (0, (kk)))]) (st' := [(0, ((10 : Nat) : Int)), (0, ((x) / 1000)), (0, ((x) / 10000)), (2, ((193 : Nat) : Int))]) (h' := h) (o232_15 hB) rfl ?_
          refine w_irem (z := (((x) / 1000) % 10)) (pc' := 30) (o232_16 hB) rfl (remI_p (by omega) (by decide)) ?_
          refine w_pl (pc' := 31) (lv' := [(0, (2, ((193 : Nat) : Int))), (1, (0, (x))), (2, (0, (kk)))]) (st' := [(0, (x)), (0, (((x) / 1000) % 10)), (0, ((x) / 10000)), (2, ((193 : Nat) : Int))]) (h' := h) (o232_17 hB) rfl ?_
          refine w_pl (pc' := 34) (lv' := [(0, (2, ((193 : Nat) : Int))), (1, (0, (x))), (2, (0, (kk)))]) (st' := [(0, ((1000 : Nat) : Int)), (0, (x)), (0, (((x) / 1000) % 10)), (0, ((x) / 10000)), (2, ((193 : Nat) : Int))]) (h' := h) (o232_18 hB) rfl ?_
          refine w_irem (z := ((x) % 1000)) (pc' := 35) (o232_19 hB) rfl (remI_p (by omega) (by decide)) ?_
          refine w_pl (pc' := 36) (lv' := [(0, (2, ((193 : Nat) : Int))), (1, (0, (x))), (2, (0, (kk)))]) (st' := [(0, (kk)), (0, ((x) % 1000)), (0, (((x) / 1000) % 10)), (0, ((x) / 10000)), (2, ((193 : Nat) : Int))]) (h' := h) (o232_20 hB) rfl ?_
          refine w_callV (A := 193) (as := [(0, ((x) / 10000)), (0, (((x) / 1000) % 10)), (0, ((x) % 1000)), (0, (kk))]) (rest := []) (n := 4) (pc' := 39) 11 hB (o232_21 hB) rfl (by decide +kernel) rfl rfl (Nat.le_of_ble_eq_true rfl) (m_countOf hB ht hc lc ?_)
          show HW g l _ 232 _ _ 39 [(0, (2, ((193 : Nat) : Int))), (1, (0, (x))), (2, (0, (kk)))] [(0, (cntM h (x / 10000) (x / 1000 % 10) (x % 1000) kk c))] h
          exact w_iret (o232_22 hB) mr232 (by have := cntM_r ht (mk := x / 10000) (ld := x / 1000 % 10) (mo := x % 1000) (kk := kk) c lc; unfold in32; omega) (a1 (by omega))
        · have f202 : ¬ (((1 : Nat) : Int) ≠ (0)) := e
          exfalso; omega
      · show HW g l _ 232 _ _ 11 [(0, (2, ((193 : Nat) : Int))), (1, (0, (x))), (2, (0, (kk)))] [(0, ((0 : Nat) : Int))] h
        refine w_ifc (pt := 16) (pf := 14) (o232_5 hB) (by decide) rfl (fun e => ?_) (fun e => ?_)
        · have f203 : (((0 : Nat) : Int) ≠ (0)) := e
          exfalso; omega
        · have f204 : ¬ (((0 : Nat) : Int) ≠ (0)) := e
          refine w_pl (pc' := 15) (lv' := [(0, (2, ((193 : Nat) : Int))), (1, (0, (x))), (2, (0, (kk)))]) (st' := [(0, (-1))]) (h' := h) (o232_6 hB) rfl ?_
          exact w_iret (o232_7 hB) mr232 (by unfold in32; omega) (a0 (by omega))
  · show HW g l _ 232 _ _ 4 [(0, (2, ((193 : Nat) : Int))), (1, (0, (x))), (2, (0, (kk)))] [(0, ((0 : Nat) : Int))] h
    refine w_ifc (pt := 14) (pf := 7) (o232_2 hB) (by decide) rfl (fun e => ?_) (fun e => ?_)
    · have f205 : (((0 : Nat) : Int) = (0)) := e
      refine w_pl (pc' := 15) (lv' := [(0, (2, ((193 : Nat) : Int))), (1, (0, (x))), (2, (0, (kk)))]) (st' := [(0, (-1))]) (h' := h) (o232_6 hB) rfl ?_
      exact w_iret (o232_7 hB) mr232 (by unfold in32; omega) (a0 (by omega))
    · have f206 : ¬ (((0 : Nat) : Int) = (0)) := e
      exfalso; omega
def s_countM (vs : List bV) (h : bH) (r : Option bV) (h' : bH) : Prop := TH h ∧ ∀ (x kk : Int) (c : Nat) , vs = [(2, ((193 : Nat) : Int)), (0, x), (0, kk)] → h 194 5 = (c : Int) → ((¬ ((0 ≤ x ∧ x / 10000 < 6 ∧ x / 1000 % 10 < 4 ∧ x % 1000 < 240) ∧ 0 ≤ kk ∧ kk ≤ 239)) ∧ r = some (0, (-1)) ∧ h = h') ∨ (((0 ≤ x ∧ x / 10000 < 6 ∧ x / 1000 % 10 < 4 ∧ x % 1000 < 240) ∧ 0 ≤ kk ∧ kk ≤ 239) ∧ r = some (0, (cntM h (x / 10000) (x / 1000 % 10) (x % 1000) kk c)) ∧ h = h')
def w_countM : List (Nat × Nat × Nat) := []
def q_countM : aCt := cH 232 3 w_countM 2 193
theorem sk_countM (hB : BytesOK) (g : bG) (l : Launch) : SK g l gT q_countM s_countM := by
  intro d hd ρ h Q hcore hQ
  have hcore : core (PofW gT (some w_countM) false) (gsc g) h ρ h (List.replicate 2 r32, [], [], 212) := hcore
  have ht := hTH hcore
  have y0 := r32_0 hcore 0 (by decide)
  have y1 := r32_0 hcore 1 (by decide)
  have y00 := y0
  unfold in32 at y00
  have y01 := y1
  unfold in32 at y01
  obtain ⟨c, hc, lc⟩ := nat_to ht (a := 194) (j := 5) (n := 24) (by decide +kernel)
  obtain ⟨d', rfl⟩ : ∃ d', d = d' + 1 + 1 + 1 := ⟨d - 3, by have : 3 ≤ d := hd; omega⟩
  rw [show evS ρ (ctA q_countM) = [(2, ((193 : Nat) : Int)), (0, ρ 0), (0, ρ 1)] from evA2]
  refine m_countM (x := ρ 0) (kk := ρ 1) hB ht y0 y1 hc lc (fun hn => ?_) (fun hn => ?_)
  · refine hQ _ _ (hpost hcore (ht) (fun _ _ _ => rfl) (by unfold in32; omega)) ⟨ht, fun x kk c_c hv e_c => ?_⟩
    have hv := (evA2 (ρ := ρ)).symm.trans hv
    obtain ⟨rfl, rfl⟩ := vsA2 hv
    obtain rfl : c_c = c := by have := e_c.symm.trans hc; omega
    exact Or.inl ⟨hn, rfl, rfl⟩
  · refine hQ _ _ (hpost hcore (ht) (fun _ _ _ => rfl) (by have := cntM_r ht (mk := ρ 0 / 10000) (ld := ρ 0 / 1000 % 10) (mo := ρ 0 % 1000) (kk := ρ 1) c lc; unfold in32; omega)) ⟨ht, fun x kk c_c hv e_c => ?_⟩
    have hv := (evA2 (ρ := ρ)).symm.trans hv
    obtain ⟨rfl, rfl⟩ := vsA2 hv
    obtain rfl : c_c = c := by have := e_c.symm.trans hc; omega
    exact Or.inr (⟨hn, rfl, rfl⟩)
