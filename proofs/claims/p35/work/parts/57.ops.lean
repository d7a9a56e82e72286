/-! RANGES OF PLACES, AS THEY ARE ASKED FOR -/
theorem ty_194_s206 {h : bH} (ht : TH h) {j r : Nat} (e : j = 206 + 3 * r) (hr : r < 24) : (0) ≤ h 194 j ∧ h 194 j ≤ 239 := by
  subst e
  exact ht.s2 (s := 206) (st := 3) (n := 24) (by decide +kernel) hr
theorem ty_12_s0 {h : bH} (ht : TH h) {j r : Nat} (e : j = 0 + 1 * r) (hr : r < 24) : (0) ≤ h 12 j ∧ h 12 j ≤ 7 := by
  subst e
  exact ht.s2 (s := 0) (st := 1) (n := 24) (by decide +kernel) hr
theorem ty_13_s0 {h : bH} (ht : TH h) {j r : Nat} (e : j = 0 + 1 * r) (hr : r < 24) : (0) ≤ h 13 j ∧ h 13 j ≤ 239 := by
  subst e
  exact ht.s2 (s := 0) (st := 1) (n := 24) (by decide +kernel) hr
theorem ty_194_s204 {h : bH} (ht : TH h) {j r : Nat} (e : j = 204 + 3 * r) (hr : r < 24) : (0) ≤ h 194 j ∧ h 194 j ≤ 239 := by
  subst e
  exact ht.s2 (s := 204) (st := 3) (n := 24) (by decide +kernel) hr
theorem ty_194_s205 {h : bH} (ht : TH h) {j r : Nat} (e : j = 205 + 3 * r) (hr : r < 24) : (0) ≤ h 194 j ∧ h 194 j ≤ 239 := by
  subst e
  exact ht.s2 (s := 205) (st := 3) (n := 24) (by decide +kernel) hr
theorem ty_32_s0 {h : bH} (ht : TH h) {j r : Nat} (e : j = 0 + 1 * r) (hr : r < 6) : (0) ≤ h 32 j ∧ h 32 j ≤ 333333 := by
  subst e
  exact ht.s2 (s := 0) (st := 1) (n := 6) (by decide +kernel) hr
theorem ty_194_s582 {h : bH} (ht : TH h) {j r : Nat} (e : j = 582 + 1 * r) (hr : r < 6) : (0) ≤ h 194 j ∧ h 194 j ≤ 333333 := by
  subst e
  exact ht.s2 (s := 582) (st := 1) (n := 6) (by decide +kernel) hr
theorem ty_33_s0 {h : bH} (ht : TH h) {j r : Nat} (e : j = 0 + 1 * r) (hr : r < 8) : (-2147483648) ≤ h 33 j ∧ h 33 j ≤ 2147483647 := by
  subst e
  exact ht.s2 (s := 0) (st := 1) (n := 8) (by decide +kernel) hr
theorem ty_0_c2 {h : bH} (ht : TH h) : (0) ≤ h 0 2 ∧ h 0 2 ≤ 1 := ht.c (by decide +kernel)
/-! BITS OF AN INT -/
def bitB (x : Int) (i : Nat) : Bool := (Int32.ofInt x).toBitVec.getLsbD i
theorem obv (y : Int32) : (Int32.ofInt y.toInt).toBitVec = y.toBitVec := BitVec.ofInt_toInt
theorem bitB_or (x y : Int) (i : Nat) : bitB (orI x y) i = (bitB x i || bitB y i) := by
  unfold bitB orI
  rw [obv]
  show ((Int32.ofInt x).toBitVec ||| (Int32.ofInt y).toBitVec).getLsbD i = _
  rw [BitVec.getLsbD_or]
theorem bitB_and (x y : Int) (i : Nat) : bitB (andI x y) i = (bitB x i && bitB y i) := by
  unfold bitB andI
  rw [obv]
  show ((Int32.ofInt x).toBitVec &&& (Int32.ofInt y).toBitVec).getLsbD i = _
  rw [BitVec.getLsbD_and]
theorem bitB_xor (x y : Int) (i : Nat) : bitB (xorI x y) i = (bitB x i ^^ bitB y i) := by
  unfold bitB xorI
  rw [obv]
  show ((Int32.ofInt x).toBitVec ^^^ (Int32.ofInt y).toBitVec).getLsbD i = _
  rw [BitVec.getLsbD_xor]
theorem shl1_t : ∀ i : Fin 32, ∀ j : Fin 32, bitB (shlI 1 ((i.val : Nat) : Int)) j.val = decide (j.val = i.val) := by decide +kernel
theorem m1_t : ∀ j : Fin 32, bitB (-1) j.val = true := by decide +kernel
theorem bit_set {x : Int} {i j : Nat} (hi : i < 32) (hj : j < 32) : bitB (orI x (shlI 1 (i : Int))) j = (bitB x j || decide (j = i)) := by
  rw [bitB_or, shl1_t ⟨i, hi⟩ ⟨j, hj⟩]
theorem bit_clr {x : Int} {i j : Nat} (hi : i < 32) (hj : j < 32) : bitB (andI x (xorI (shlI 1 (i : Int)) (-1))) j = (bitB x j && !decide (j = i)) := by
  rw [bitB_and, bitB_xor, shl1_t ⟨i, hi⟩ ⟨j, hj⟩, m1_t ⟨j, hj⟩]
  simp
theorem sm32 : ∀ i : Fin 32, ((Int32.ofInt ((i.val : Nat) : Int) &&& 31).toBitVec.smod 32).toNat = i.val := by decide +kernel
theorem bit_sh {x : Int} {i : Nat} (hi : i < 32) : bitB (shrI x (i : Int)) 0 = bitB x i := by
  unfold bitB shrI
  rw [obv]
  show (BitVec.sshiftRight (Int32.ofInt x).toBitVec ((Int32.ofInt (i : Int) &&& 31).toBitVec.smod 32).toNat).getLsbD 0 = _
  rw [sm32 ⟨i, hi⟩, BitVec.getLsbD_sshiftRight]
  simp [hi]
theorem one_bv : (Int32.ofInt 1).toBitVec = BitVec.twoPow 32 0 := by decide
theorem and_one (x : Int) : andI x 1 = if bitB x 0 = true then 1 else 0 := by
  unfold andI bitB
  show ((Int32.ofInt x).toBitVec &&& (Int32.ofInt 1).toBitVec).toInt = _
  rw [one_bv, BitVec.and_twoPow]
  cases (Int32.ofInt x).toBitVec.getLsbD 0 <;> decide
/-- a bit, read -/
theorem bit_rd {x : Int} {i : Nat} (hi : i < 32) : andI (shrI x (i : Int)) 1 = if bitB x i = true then 1 else 0 := by
  rw [and_one, bit_sh hi]
theorem orI_in (x y : Int) : in32 (orI x y) := i32_in _
theorem andI_in (x y : Int) : in32 (andI x y) := i32_in _
theorem bitB_0 (i : Nat) : bitB 0 i = false := by
  unfold bitB
  rw [show (Int32.ofInt 0).toBitVec = 0#32 from by decide]
  exact BitVec.getLsbD_zero

theorem m_in (hB : BytesOK) {g : bG} {l : Launch} {d : Nat} {Q : bQ} {h : bH} {x lo hi : Int} (h1 : lo ≤ x ∧ x ≤ hi → Q (some (0, 1)) h) (h0 : ¬ (lo ≤ x ∧ x ≤ hi) → Q (some (0, 0)) h) : MH g l d 184 212 212 [(0, x), (0, lo), (0, hi)] h Q := by
  refine mh_go hB mg184 ml184 (Nat.le_of_ble_eq_true rfl) ?_
  show HW g l d 184 _ _ 0 [(0, (0, (x))), (1, (0, (lo))), (2, (0, (hi)))] [] h
  refine w_pl (pc' := 1) (lv' := [(0, (0, (x))), (1, (0, (lo))), (2, (0, (hi)))]) (st' := [(0, (x))]) (h' := h) (o184_0 hB) rfl ?_
  refine w_pl (pc' := 2) (lv' := [(0, (0, (x))), (1, (0, (lo))), (2, (0, (hi)))]) (st' := [(0, (lo)), (0, (x))]) (h' := h) (o184_1 hB) rfl ?_
  refine w_icmp (pt := 14) (pf := 5) (o184_2 hB) (by decide) rfl (fun e => ?_) (fun e => ?_)
  · have f1 : ((x) < (lo)) := e
    refine w_pl (pc' := 15) (lv' := [(0, (0, (x))), (1, (0, (lo))), (2, (0, (hi)))]) (st' := [(0, ((0 : Nat) : Int))]) (h' := h) (o184_8 hB) rfl ?_
    exact w_zret (o184_9 hB) mr184 (by decide) (h0 (by omega))
  · have f2 : ¬ ((x) < (lo)) := e
    refine w_pl (pc' := 6) (lv' := [(0, (0, (x))), (1, (0, (lo))), (2, (0, (hi)))]) (st' := [(0, (x))]) (h' := h) (o184_3 hB) rfl ?_
    refine w_pl (pc' := 7) (lv' := [(0, (0, (x))), (1, (0, (lo))), (2, (0, (hi)))]) (st' := [(0, (hi)), (0, (x))]) (h' := h) (o184_4 hB) rfl ?_
    refine w_icmp (pt := 14) (pf := 10) (o184_5 hB) (by decide) rfl (fun e => ?_) (fun e => ?_)
    · have f3 : ((hi) < (x)) := e
      refine w_pl (pc' := 15) (lv' := [(0, (0, (x))), (1, (0, (lo))), (2, (0, (hi)))]) (st' := [(0, ((0 : Nat) : Int))]) (h' := h) (o184_8 hB) rfl ?_
      exact w_zret (o184_9 hB) mr184 (by decide) (h0 (by omega))
    · have f4 : ¬ ((hi) < (x)) := e
      refine w_pl (pc' := 11) (lv' := [(0, (0, (x))), (1, (0, (lo))), (2, (0, (hi)))]) (st' := [(0, ((1 : Nat) : Int))]) (h' := h) (o184_6 hB) rfl ?_
      refine w_goto (pt := 15) (o184_7 hB) (by decide) ?_
      exact w_zret (o184_9 hB) mr184 (by decide) (h1 (by omega))
theorem m_isMonthM (hB : BytesOK) {g : bG} {l : Launch} {d : Nat} {Q : bQ} {h : bH} {x : Int} (h1 : 0 ≤ x ∧ x ≤ 239 → Q (some (0, 1)) h) (h0 : ¬ (0 ≤ x ∧ x ≤ 239) → Q (some (0, 0)) h) : MH g l (d + 1) 185 212 212 [(0, x)] h Q := by
  refine mh_go hB mg185 ml185 (Nat.le_of_ble_eq_true rfl) ?_
  show HW g l (d + 1) 185 _ _ 0 [(0, (0, (x)))] [] h
  refine w_pl (pc' := 1) (lv' := [(0, (0, (x)))]) (st' := [(0, (x))]) (h' := h) (o185_0 hB) rfl ?_
  refine w_pl (pc' := 2) (lv' := [(0, (0, (x)))]) (st' := [(0, ((0 : Nat) : Int)), (0, (x))]) (h' := h) (o185_1 hB) rfl ?_
  refine w_pl (pc' := 5) (lv' := [(0, (0, (x)))]) (st' := [(0, ((239 : Nat) : Int)), (0, ((0 : Nat) : Int)), (0, (x))]) (h' := h) (o185_2 hB) rfl ?_
  refine w_callS (as := [(0, (x)), (0, ((0 : Nat) : Int)), (0, ((239 : Nat) : Int))]) (rest := []) (n := 3) (pc' := 8) hB (o185_3 hB) rfl (by decide +kernel) rfl rfl (Nat.le_of_ble_eq_true rfl) (m_in hB (fun f5 => ?_) (fun f6 => ?_))
  · show HW g l _ 185 _ _ 8 [(0, (0, (x)))] [(0, ((1 : Nat) : Int))] h
    exact w_zret (o185_4 hB) mr185 (by decide) (h1 (by omega))
  · show HW g l _ 185 _ _ 8 [(0, (0, (x)))] [(0, ((0 : Nat) : Int))] h
    exact w_zret (o185_4 hB) mr185 (by decide) (h0 (by omega))
theorem m_isMonthB (hB : BytesOK) {g : bG} {l : Launch} {d : Nat} {Q : bQ} {h : bH} {x : Int} (h1 : 0 ≤ x ∧ x ≤ 239 → Q (some (0, 1)) h) (h0 : ¬ (0 ≤ x ∧ x ≤ 239) → Q (some (0, 0)) h) : MH g l d 171 212 212 [(0, x)] h Q := by
  refine mh_go hB mg171 ml171 (Nat.le_of_ble_eq_true rfl) ?_
  show HW g l d 171 _ _ 0 [(0, (0, (x)))] [] h
  refine w_pl (pc' := 1) (lv' := [(0, (0, (x)))]) (st' := [(0, (x))]) (h' := h) (o171_0 hB) rfl ?_
  refine w_ifc (pt := 15) (pf := 4) (o171_1 hB) (by decide) rfl (fun e => ?_) (fun e => ?_)
  · have f7 : ((x) < (0)) := e
    refine w_pl (pc' := 16) (lv' := [(0, (0, (x)))]) (st' := [(0, ((0 : Nat) : Int))]) (h' := h) (o171_7 hB) rfl ?_
    exact w_zret (o171_8 hB) mr171 (by decide) (h0 (by omega))
  · have f8 : ¬ ((x) < (0)) := e
    refine w_pl (pc' := 5) (lv' := [(0, (0, (x)))]) (st' := [(0, (x))]) (h' := h) (o171_2 hB) rfl ?_
    refine w_pl (pc' := 8) (lv' := [(0, (0, (x)))]) (st' := [(0, ((240 : Nat) : Int)), (0, (x))]) (h' := h) (o171_3 hB) rfl ?_
    refine w_icmp (pt := 15) (pf := 11) (o171_4 hB) (by decide) rfl (fun e => ?_) (fun e => ?_)
    · have f9 : (((240 : Nat) : Int) ≤ (x)) := e
      refine w_pl (pc' := 16) (lv' := [(0, (0, (x)))]) (st' := [(0, ((0 : Nat) : Int))]) (h' := h) (o171_7 hB) rfl ?_
      exact w_zret (o171_8 hB) mr171 (by decide) (h0 (by omega))
    · have f10 : ¬ (((240 : Nat) : Int) ≤ (x)) := e
      refine w_pl (pc' := 12) (lv' := [(0, (0, (x)))]) (st' := [(0, ((1 : Nat) : Int))]) (h' := h) (o171_5 hB) rfl ?_
      refine w_goto (pt := 16) (o171_6 hB) (by decide) ?_
      exact w_zret (o171_8 hB) mr171 (by decide) (h1 (by omega))
theorem m_isWhereM (hB : BytesOK) {g : bG} {l : Launch} {d : Nat} {Q : bQ} {h : bH} {x : Int} (z_x : in32 x) (h1 : 0 ≤ x ∧ x / 10000 < 6 ∧ x / 1000 % 10 < 4 ∧ x % 1000 < 240 → Q (some (0, 1)) h) (h0 : ¬ (0 ≤ x ∧ x / 10000 < 6 ∧ x / 1000 % 10 < 4 ∧ x % 1000 < 240) → Q (some (0, 0)) h) : MH g l (d + 1 + 1) 229 212 212 [(0, x)] h Q := by
  have z0_x := z_x
  unfold in32 at z0_x
  refine mh_go hB mg229 ml229 (Nat.le_of_ble_eq_true rfl) ?_
  show HW g l (d + 1 + 1) 229 _ _ 0 [(0, (0, (x)))] [] h
  refine w_pl (pc' := 1) (lv' := [(0, (0, (x)))]) (st' := [(0, (x))]) (h' := h) (o229_0 hB) rfl ?_
  refine w_pl (pc' := 2) (lv' := [(0, (0, (x)))]) (st' := [(0, ((0 : Nat) : Int)), (0, (x))]) (h' := h) (o229_1 hB) rfl ?_
  refine w_pl (pc' := 4) (lv' := [(0, (0, (x)))]) (st' := [(0, ((53239 : Nat) : Int)), (0, ((0 : Nat) : Int)), (0, (x))]) (h' := h) (o229_2 hB) rfl ?_
  refine w_callS (as := [(0, (x)), (0, ((0 : Nat) : Int)), (0, ((53239 : Nat) : Int))]) (rest := []) (n := 3) (pc' := 7) hB (o229_3 hB) rfl (by decide +kernel) rfl rfl (Nat.le_of_ble_eq_true rfl) (m_in hB (fun f11 => ?_) (fun f12 => ?_))
  · show HW g l _ 229 _ _ 7 [(0, (0, (x)))] [(0, ((1 : Nat) : Int))] h
    refine w_ifc (pt := 37) (pf := 10) (o229_4 hB) (by decide) rfl (fun e => ?_) (fun e => ?_)
    · have f13 : (((1 : Nat) : Int) = (0)) := e
      exfalso; omega
    · have f14 : ¬ (((1 : Nat) : Int) = (0)) := e
      refine w_pl (pc' := 11) (lv' := [(0, (0, (x)))]) (st' := [(0, (x))]) (h' := h) (o229_5 hB) rfl ?_
      refine w_pl (pc' := 14) (lv' := [(0, (0, (x)))]) (st' := [(0, ((1000 : Nat) : Int)), (0, (x))]) (h' := h) (o229_6 hB) rfl ?_
      refine w_idiv (z := ((x) / 1000)) (pc' := 15) (o229_7 hB) rfl (divI_p (by omega) (by omega) (by decide)) ?_
      refine w_pl (pc' := 17) (lv' := [(0, (0, (x)))]) (st' := [(0, ((10 : Nat) : Int)), (0, ((x) / 1000))]) (h' := h) (o229_8 hB) rfl ?_
      refine w_irem (z := (((x) / 1000) % 10)) (pc' := 18) (o229_9 hB) rfl (remI_p (by omega) (by decide)) ?_
      refine w_pl (pc' := 19) (lv' := [(0, (0, (x)))]) (st' := [(0, ((4 : Nat) : Int)), (0, (((x) / 1000) % 10))]) (h' := h) (o229_10 hB) rfl ?_
      refine w_icmp (pt := 37) (pf := 22) (o229_11 hB) (by decide) rfl (fun e => ?_) (fun e => ?_)
      · have f15 : (((4 : Nat) : Int) ≤ (((x) / 1000) % 10)) := e
        refine w_pl (pc' := 38) (lv' := [(0, (0, (x)))]) (st' := [(0, ((0 : Nat) : Int))]) (h' := h) (o229_19 hB) rfl ?_
        exact w_zret (o229_20 hB) mr229 (by decide) (h0 (by omega))
      · have f16 : ¬ (((4 : Nat) : Int) ≤ (((x) / 1000) % 10)) := e
        refine w_pl (pc' := 23) (lv' := [(0, (0, (x)))]) (st' := [(0, (x))]) (h' := h) (o229_12 hB) rfl ?_
        refine w_pl (pc' := 26) (lv' := [(0, (0, (x)))]) (st' := [(0, ((1000 : Nat) : Int)), (0, (x))]) (h' := h) (o229_13 hB) rfl ?_
        refine w_irem (z := ((x) % 1000)) (pc' := 27) (o229_14 hB) rfl (remI_p (by omega) (by decide)) ?_
        refine w_callS (as := [(0, ((x) % 1000))]) (rest := []) (n := 1) (pc' := 30) hB (o229_15 hB) rfl (by decide +kernel) rfl rfl (Nat.le_of_ble_eq_true rfl) (m_isMonthM hB (fun f17 => ?_) (fun f18 => ?_))
        · show HW g l _ 229 _ _ 30 [(0, (0, (x)))] [(0, ((1 : Nat) : Int))] h
          refine w_ifc (pt := 37) (pf := 33) (o229_16 hB) (by decide) rfl (fun e => ?_) (fun e => ?_)
          · have f19 : (((1 : Nat) : Int) = (0)) := e
            exfalso; omega
          · have f20 : ¬ (((1 : Nat) : Int) = (0)) := e
            refine w_pl (pc' := 34) (lv' := [(0, (0, (x)))]) (st' := [(0, ((1 : Nat) : Int))]) (h' := h) (o229_17 hB) rfl ?_
            refine w_goto (pt := 38) (o229_18 hB) (by decide) ?_
            exact w_zret (o229_20 hB) mr229 (by decide) (h1 (by omega))
        · show HW g l _ 229 _ _ 30 [(0, (0, (x)))] [(0, ((0 : Nat) : Int))] h
          refine w_ifc (pt := 37) (pf := 33) (o229_16 hB) (by decide) rfl (fun e => ?_) (fun e => ?_)
          · have f21 : (((0 : Nat) : Int) = (0)) := e
            refine w_pl (pc' := 38) (lv' := [(0, (0, (x)))]) (st' := [(0, ((0 : Nat) : Int))]) (h' := h) (o229_19 hB) rfl ?_
            exact w_zret (o229_20 hB) mr229 (by decide) (h0 (by omega))
          · have f22 : ¬ (((0 : Nat) : Int) = (0)) := e
            exfalso; omega
  · show HW g l _ 229 _ _ 7 [(0, (0, (x)))] [(0, ((0 : Nat) : Int))] h
    refine w_ifc (pt := 37) (pf := 10) (o229_4 hB) (by decide) rfl (fun e => ?_) (fun e => ?_)
    · have f23 : (((0 : Nat) : Int) = (0)) := e
      refine w_pl (pc' := 38) (lv' := [(0, (0, (x)))]) (st' := [(0, ((0 : Nat) : Int))]) (h' := h) (o229_19 hB) rfl ?_
      exact w_zret (o229_20 hB) mr229 (by decide) (h0 (by omega))
    · have f24 : ¬ (((0 : Nat) : Int) = (0)) := e
      exfalso; omega
theorem m_isWhereB (hB : BytesOK) {g : bG} {l : Launch} {d : Nat} {Q : bQ} {h : bH} {x : Int} (z_x : in32 x) (h1 : 0 ≤ x ∧ x / 10000 < 6 ∧ x / 1000 % 10 < 4 ∧ x % 1000 < 240 → Q (some (0, 1)) h) (h0 : ¬ (0 ≤ x ∧ x / 10000 < 6 ∧ x / 1000 % 10 < 4 ∧ x % 1000 < 240) → Q (some (0, 0)) h) : MH g l d 177 212 212 [(0, x)] h Q := by
  have z0_x := z_x
  unfold in32 at z0_x
  refine mh_go hB mg177 ml177 (Nat.le_of_ble_eq_true rfl) ?_
  show HW g l d 177 _ _ 0 [(0, (0, (x)))] [] h
  refine w_pl (pc' := 1) (lv' := [(0, (0, (x)))]) (st' := [(0, (x))]) (h' := h) (o177_0 hB) rfl ?_
  refine w_ifc (pt := 41) (pf := 4) (o177_1 hB) (by decide) rfl (fun e => ?_) (fun e => ?_)
  · have f25 : ((x) < (0)) := e
    refine w_pl (pc' := 42) (lv' := [(0, (0, (x)))]) (st' := [(0, ((0 : Nat) : Int))]) (h' := h) (o177_21 hB) rfl ?_
    exact w_zret (o177_22 hB) mr177 (by decide) (h0 (by omega))
  · have f26 : ¬ ((x) < (0)) := e
    refine w_pl (pc' := 5) (lv' := [(0, (0, (x)))]) (st' := [(0, (x))]) (h' := h) (o177_2 hB) rfl ?_
    refine w_pl (pc' := 8) (lv' := [(0, (0, (x)))]) (st' := [(0, ((10000 : Nat) : Int)), (0, (x))]) (h' := h) (o177_3 hB) rfl ?_
    refine w_idiv (z := ((x) / 10000)) (pc' := 9) (o177_4 hB) rfl (divI_p (by omega) (by omega) (by decide)) ?_
    refine w_pl (pc' := 11) (lv' := [(0, (0, (x)))]) (st' := [(0, ((6 : Nat) : Int)), (0, ((x) / 10000))]) (h' := h) (o177_5 hB) rfl ?_
    refine w_icmp (pt := 41) (pf := 14) (o177_6 hB) (by decide) rfl (fun e => ?_) (fun e => ?_)
    · have f27 : (((6 : Nat) : Int) ≤ ((x) / 10000)) := e
      refine w_pl (pc' := 42) (lv' := [(0, (0, (x)))]) (st' := [(0, ((0 : Nat) : Int))]) (h' := h) (o177_21 hB) rfl ?_
      exact w_zret (o177_22 hB) mr177 (by decide) (h0 (by omega))
    · have f28 : ¬ (((6 : Nat) : Int) ≤ ((x) / 10000)) := e
      refine w_pl (pc' := 15) (lv' := [(0, (0, (x)))]) (st' := [(0, (x))]) (h' := h) (o177_7 hB) rfl ?_
      refine w_pl (pc' := 18) (lv' := [(0, (0, (x)))]) (st' := [(0, ((1000 : Nat) : Int)), (0, (x))]) (h' := h) (o177_8 hB) rfl ?_
      refine w_idiv (z := ((x) / 1000)) (pc' := 19) (o177_9 hB) rfl (divI_p (by omega) (by omega) (by decide)) ?_
      refine w_pl (pc' := 21) (lv' := [(0, (0, (x)))]) (st' := [(0, ((10 : Nat) : Int)), (0, ((x) / 1000))]) (h' := h) (o177_10 hB) rfl ?_
      refine w_irem (z := (((x) / 1000) % 10)) (pc' := 22) (o177_11 hB) rfl (remI_p (by omega) (by decide)) ?_
      refine w_pl (pc' := 23) (lv' := [(0, (0, (x)))]) (st' := [(0, ((4 : Nat) : Int)), (0, (((x) / 1000) % 10))]) (h' := h) (o177_12 hB) rfl ?_
      refine w_icmp (pt := 41) (pf := 26) (o177_13 hB) (by decide) rfl (fun e => ?_) (fun e => ?_)
      · have f29 : (((4 : Nat) : Int) ≤ (((x) / 1000) % 10)) := e
        refine w_pl (pc' := 42) (lv' := [(0, (0, (x)))]) (st' := [(0, ((0 : Nat) : Int))]) (h' := h) (o177_21 hB) rfl ?_
        exact w_zret (o177_22 hB) mr177 (by decide) (h0 (by omega))
      · have f30 : ¬ (((4 : Nat) : Int) ≤ (((x) / 1000) % 10)) := e
        refine w_pl (pc' := 27) (lv' := [(0, (0, (x)))]) (st' := [(0, (x))]) (h' := h) (o177_14 hB) rfl ?_
        refine w_pl (pc' := 30) (lv' := [(0, (0, (x)))]) (st' := [(0, ((1000 : Nat) : Int)), (0, (x))]) (h' := h) (o177_15 hB) rfl ?_
        refine w_irem (z := ((x) % 1000)) (pc' := 31) (o177_16 hB) rfl (remI_p (by omega) (by decide)) ?_
        refine w_pl (pc' := 34) (lv' := [(0, (0, (x)))]) (st' := [(0, ((240 : Nat) : Int)), (0, ((x) % 1000))]) (h' := h) (o177_17 hB) rfl ?_
        refine w_icmp (pt := 41) (pf := 37) (o177_18 hB) (by decide) rfl (fun e => ?_) (fun e => ?_)
        · have f31 : (((240 : Nat) : Int) ≤ ((x) % 1000)) := e
          refine w_pl (pc' := 42) (lv' := [(0, (0, (x)))]) (st' := [(0, ((0 : Nat) : Int))]) (h' := h) (o177_21 hB) rfl ?_
          exact w_zret (o177_22 hB) mr177 (by decide) (h0 (by omega))
        · have f32 : ¬ (((240 : Nat) : Int) ≤ ((x) % 1000)) := e
          refine w_pl (pc' := 38) (lv' := [(0, (0, (x)))]) (st' := [(0, ((1 : Nat) : Int))]) (h' := h) (o177_19 hB) rfl ?_
          refine w_goto (pt := 42) (o177_20 hB) (by decide) ?_
          exact w_zret (o177_22 hB) mr177 (by decide) (h1 (by omega))
/-- who is in, by the class's rows from the last down; by the reference's from the first up, with the month of the last that counted -/
def inA (h : bH) (o m : Int) : Nat → Int
  | 0 => 0
  | j + 1 => if h 12 j = o ∧ h 13 j ≤ m then (if andI (shrI (h 2 16) ((j : Nat) : Int)) 1 = 0 then 0 else 1) else inA h o m j
theorem inA_r {h : bH} {o m : Int} : ∀ j, 0 ≤ inA h o m j ∧ inA h o m j ≤ 1
  | 0 => by simp [inA]
  | j + 1 => by
    have := inA_r (h := h) (o := o) (m := m) j
    simp only [inA]
    split
    · split <;> omega
    · exact this
def inM (h : bH) (o m : Int) : Nat → Int × Int
  | 0 => (0, -1)
  | j + 1 => if h 194 (204 + 3 * j) = o ∧ h 194 (204 + 3 * j + 2) ≤ m ∧ (inM h o m j).2 ≤ h 194 (204 + 3 * j + 2) then (if h 194 (204 + 3 * j + 1) = 1 then 1 else 0, h 194 (204 + 3 * j + 2)) else inM h o m j
theorem inM_r {h : bH} {o m : Int} (ht : TH h) : ∀ j, j ≤ 24 → (0 ≤ (inM h o m j).1 ∧ (inM h o m j).1 ≤ 1) ∧ -1 ≤ (inM h o m j).2 ∧ (inM h o m j).2 ≤ 239
  | 0, _ => by simp [inM]
  | j + 1, hj => by
    have := inM_r ht (o := o) (m := m) j (by omega)
    have r := ty_194_s206 ht (j := 204 + 3 * j + 2) (r := j) (by omega) (by omega)
    simp only [inM]
    split
    · refine ⟨?_, ?_⟩
      · dsimp only
        split <;> omega
      · dsimp only
        omega
    · exact this
theorem inM_congr {h h' : bH} {o m : Int} : ∀ c, (∀ j, 204 ≤ j → j < 204 + 3 * c → h' 194 j = h 194 j) → inM h' o m c = inM h o m c
  | 0, _ => rfl
  | c + 1, hc => by
    have ih := inM_congr (o := o) (m := m) c (fun j h1 h2 => hc j h1 (by omega))
    simp only [inM]
    rw [ih, hc (204 + 3 * c) (by omega) (by omega), hc (204 + 3 * c + 1) (by omega) (by omega), hc (204 + 3 * c + 2) (by omega) (by omega)]
/-- a set of those for whom f is not 0 -/
def memS (f : Nat → Int) : Nat → Int
  | 0 => 0
  | b + 1 => if f b = 0 then memS f b else orI (memS f b) (shlI 1 ((b : Nat) : Int))
theorem memS_in {f : Nat → Int} : ∀ b, in32 (memS f b)
  | 0 => by unfold memS in32; omega
  | b + 1 => by
    simp only [memS]
    split
    · exact memS_in b
    · exact orI_in _ _
theorem memS_congr {f f' : Nat → Int} : ∀ b, (∀ j, j < b → f j = f' j) → memS f b = memS f' b
  | 0, _ => rfl
  | b + 1, hb => by
    simp only [memS]
    rw [memS_congr b (fun j hj => hb j (by omega)), hb b (by omega)]
theorem orI_z {x : Int} (h : in32 x) : orI x 0 = x := by
  unfold orI
  rw [show Int32.ofInt 0 = 0 from rfl, Int32.or_zero, i32_ti h]
theorem m_isOwnerM (hB : BytesOK) {g : bG} {l : Launch} {d : Nat} {Q : bQ} {h : bH} {x : Int} (h1 : 0 ≤ x ∧ x ≤ 7 → Q (some (0, 1)) h) (h0 : ¬ (0 ≤ x ∧ x ≤ 7) → Q (some (0, 0)) h) : MH g l (d + 1) 186 212 212 [(0, x)] h Q := by
  refine mh_go hB mg186 ml186 (Nat.le_of_ble_eq_true rfl) ?_
  show HW g l (d + 1) 186 _ _ 0 [(0, (0, (x)))] [] h
  refine w_pl (pc' := 1) (lv' := [(0, (0, (x)))]) (st' := [(0, (x))]) (h' := h) (o186_0 hB) rfl ?_
  refine w_pl (pc' := 2) (lv' := [(0, (0, (x)))]) (st' := [(0, ((0 : Nat) : Int)), (0, (x))]) (h' := h) (o186_1 hB) rfl ?_
  refine w_pl (pc' := 4) (lv' := [(0, (0, (x)))]) (st' := [(0, ((7 : Nat) : Int)), (0, ((0 : Nat) : Int)), (0, (x))]) (h' := h) (o186_2 hB) rfl ?_
  refine w_callS (as := [(0, (x)), (0, ((0 : Nat) : Int)), (0, ((7 : Nat) : Int))]) (rest := []) (n := 3) (pc' := 7) hB (o186_3 hB) rfl (by decide +kernel) rfl rfl (Nat.le_of_ble_eq_true rfl) (m_in hB (fun f33 => ?_) (fun f34 => ?_))
  · show HW g l _ 186 _ _ 7 [(0, (0, (x)))] [(0, ((1 : Nat) : Int))] h
    exact w_zret (o186_4 hB) mr186 (by decide) (h1 (by omega))
  · show HW g l _ 186 _ _ 7 [(0, (0, (x)))] [(0, ((0 : Nat) : Int))] h
    exact w_zret (o186_4 hB) mr186 (by decide) (h0 (by omega))
theorem m_isOwnerB (hB : BytesOK) {g : bG} {l : Launch} {d : Nat} {Q : bQ} {h : bH} {x : Int} (h1 : 0 ≤ x ∧ x ≤ 7 → Q (some (0, 1)) h) (h0 : ¬ (0 ≤ x ∧ x ≤ 7) → Q (some (0, 0)) h) : MH g l d 172 212 212 [(0, x)] h Q := by
  refine mh_go hB mg172 ml172 (Nat.le_of_ble_eq_true rfl) ?_
  show HW g l d 172 _ _ 0 [(0, (0, (x)))] [] h
  refine w_pl (pc' := 1) (lv' := [(0, (0, (x)))]) (st' := [(0, (x))]) (h' := h) (o172_0 hB) rfl ?_
  refine w_ifc (pt := 14) (pf := 4) (o172_1 hB) (by decide) rfl (fun e => ?_) (fun e => ?_)
  · have f35 : ((x) < (0)) := e
    refine w_pl (pc' := 15) (lv' := [(0, (0, (x)))]) (st' := [(0, ((0 : Nat) : Int))]) (h' := h) (o172_7 hB) rfl ?_
    exact w_zret (o172_8 hB) mr172 (by decide) (h0 (by omega))
  · have f36 : ¬ ((x) < (0)) := e
    refine w_pl (pc' := 5) (lv' := [(0, (0, (x)))]) (st' := [(0, (x))]) (h' := h) (o172_2 hB) rfl ?_
    refine w_pl (pc' := 7) (lv' := [(0, (0, (x)))]) (st' := [(0, ((8 : Nat) : Int)), (0, (x))]) (h' := h) (o172_3 hB) rfl ?_
    refine w_icmp (pt := 14) (pf := 10) (o172_4 hB) (by decide) rfl (fun e => ?_) (fun e => ?_)
    · have f37 : (((8 : Nat) : Int) ≤ (x)) := e
      refine w_pl (pc' := 15) (lv' := [(0, (0, (x)))]) (st' := [(0, ((0 : Nat) : Int))]) (h' := h) (o172_7 hB) rfl ?_
      exact w_zret (o172_8 hB) mr172 (by decide) (h0 (by omega))
    · have f38 : ¬ (((8 : Nat) : Int) ≤ (x)) := e
      refine w_pl (pc' := 11) (lv' := [(0, (0, (x)))]) (st' := [(0, ((1 : Nat) : Int))]) (h' := h) (o172_5 hB) rfl ?_
      refine w_goto (pt := 15) (o172_6 hB) (by decide) ?_
      exact w_zret (o172_8 hB) mr172 (by decide) (h1 (by omega))
theorem m_isInA (hB : BytesOK) {g : bG} {l : Launch} {d : Nat} {Q : bQ} {h : bH} {o m : Int} {c : Nat} (ht : TH h) (hc : h 2 15 = (c : Int)) (lc : c ≤ 24) (hq : Q (some (0, inA h o m c)) h) : MH g l d 51 212 212 [(2, ((2 : Nat) : Int)), (0, o), (0, m)] h Q := by
  have hR := ht.r
  have loop : ∀ (n : Nat), n ≤ c → (Q (some (0, inA h o m n)) h) → HW g l d 51 212 Q 7 [(3, (0, (((n : Nat) : Int) + (-1)))), (0, (2, ((2 : Nat) : Int))), (1, (0, (o))), (2, (0, (m)))] [] h := by
    intro n
    induction n with
    | zero =>
      intro hn hq
      refine w_pl (pc' := 8) (lv' := [(3, (0, (((0 : Nat) : Int) + (-1)))), (0, (2, ((2 : Nat) : Int))), (1, (0, (o))), (2, (0, (m)))]) (st' := [(0, (((0 : Nat) : Int) + (-1)))]) (h' := h) (o51_5 hB) rfl ?_
      refine w_ifc (pt := 54) (pf := 11) (o51_6 hB) (by decide) rfl (fun e => ?_) (fun e => ?_)
      · have f39 : ((((0 : Nat) : Int) + (-1)) < (0)) := e
        refine w_pl (pc' := 55) (lv' := [(3, (0, (((0 : Nat) : Int) + (-1)))), (0, (2, ((2 : Nat) : Int))), (1, (0, (o))), (2, (0, (m)))]) (st' := [(0, ((0 : Nat) : Int))]) (h' := h) (o51_32 hB) rfl ?_
        exact w_zret (o51_33 hB) mr51 (by decide) (qe hq rfl)
      · have f40 : ¬ ((((0 : Nat) : Int) + (-1)) < (0)) := e
        exfalso; omega
    | succ n ih =>
      intro hn hq
      rw [show (((n + 1 : Nat) : Int) + (-1)) = ((n : Nat) : Int) from by omega]
      refine w_pl (pc' := 8) (lv' := [(3, (0, ((n : Nat) : Int))), (0, (2, ((2 : Nat) : Int))), (1, (0, (o))), (2, (0, (m)))]) (st' := [(0, ((n : Nat) : Int))]) (h' := h) (o51_5 hB) rfl ?_
      refine w_ifc (pt := 54) (pf := 11) (o51_6 hB) (by decide) rfl (fun e => ?_) (fun e => ?_)
      · have f41 : (((n : Nat) : Int) < (0)) := e
        exfalso; omega
      · have f42 : ¬ (((n : Nat) : Int) < (0)) := e
        refine w_pl (pc' := 12) (lv' := [(3, (0, ((n : Nat) : Int))), (0, (2, ((2 : Nat) : Int))), (1, (0, (o))), (2, (0, (m)))]) (st' := [(2, ((2 : Nat) : Int))]) (h' := h) (o51_7 hB) rfl ?_
        refine w_getf (A := 2) (t := 2) (z := ((12 : Nat) : Int)) (pc' := 15) (o51_8 hB) rfl (by decide +kernel) (hR (2, 17, 12) (by decide)) ?_
        refine w_pl (pc' := 16) (lv' := [(3, (0, ((n : Nat) : Int))), (0, (2, ((2 : Nat) : Int))), (1, (0, (o))), (2, (0, (m)))]) (st' := [(0, ((n : Nat) : Int)), (2, ((12 : Nat) : Int))]) (h' := h) (o51_9 hB) rfl ?_
        have f43 := ty_12_s0 ht (j := n) (r := n) (by omega) (by omega)
        refine w_iald (A := 12) (i := n) (n := 24) (z := (h 12 n)) (pc' := 17) (o51_10 hB) rfl (by decide +kernel) (by omega) rfl ?_
        refine w_pl (pc' := 18) (lv' := [(3, (0, ((n : Nat) : Int))), (0, (2, ((2 : Nat) : Int))), (1, (0, (o))), (2, (0, (m)))]) (st' := [(0, (o)), (0, (h 12 n))]) (h' := h) (o51_11 hB) rfl ?_
        refine w_icmp (pt := 48) (pf := 21) (o51_12 hB) (by decide) rfl (fun e => ?_) (fun e => ?_)
        · have f44 : ((h 12 n) ≠ (o)) := e
          refine w_iinc (x := ((n : Nat) : Int)) (z := (((n : Nat) : Int) + (-1))) (pc' := 51) (lv' := [(3, (0, (((n : Nat) : Int) + (-1)))), (0, (2, ((2 : Nat) : Int))), (1, (0, (o))), (2, (0, (m)))]) (o51_30 hB) rfl rfl ml51 (by decide) (w32_e (by omega) (by omega)) rfl ?_
          refine w_goto (pt := 7) (o51_31 hB) (by decide) ?_
          refine w_sub (lv' := [(3, (0, (((n : Nat) : Int) + (-1)))), (0, (2, ((2 : Nat) : Int))), (1, (0, (o))), (2, (0, (m)))]) (List.forall_mem_cons.mpr ⟨(List.Mem.head _), (List.forall_mem_cons.mpr ⟨(List.Mem.tail _ (List.Mem.head _)), (List.forall_mem_cons.mpr ⟨(List.Mem.tail _ (List.Mem.tail _ (List.Mem.head _))), (List.forall_mem_cons.mpr ⟨(List.Mem.tail _ (List.Mem.tail _ (List.Mem.tail _ (List.Mem.head _)))), (fun _ hx => by cases hx)⟩)⟩)⟩)⟩) ?_
          have e1 : inA h o m (n + 1) = inA h o m n := by
            simp only [inA]
            rw [if_neg (by omega)]
          rw [e1] at hq
          exact ih (by omega) hq
        · have f45 : ¬ ((h 12 n) ≠ (o)) := e
          refine w_pl (pc' := 22) (lv' := [(3, (0, ((n : Nat) : Int))), (0, (2, ((2 : Nat) : Int))), (1, (0, (o))), (2, (0, (m)))]) (st' := [(2, ((2 : Nat) : Int))]) (h' := h) (o51_13 hB) rfl ?_
          refine w_getf (A := 2) (t := 2) (z := ((13 : Nat) : Int)) (pc' := 25) (o51_14 hB) rfl (by decide +kernel) (hR (2, 18, 13) (by decide)) ?_
          refine w_pl (pc' := 26) (lv' := [(3, (0, ((n : Nat) : Int))), (0, (2, ((2 : Nat) : Int))), (1, (0, (o))), (2, (0, (m)))]) (st' := [(0, ((n : Nat) : Int)), (2, ((13 : Nat) : Int))]) (h' := h) (o51_15 hB) rfl ?_
          have f46 := ty_13_s0 ht (j := n) (r := n) (by omega) (by omega)
          refine w_iald (A := 13) (i := n) (n := 24) (z := (h 13 n)) (pc' := 27) (o51_16 hB) rfl (by decide +kernel) (by omega) rfl ?_
          refine w_pl (pc' := 28) (lv' := [(3, (0, ((n : Nat) : Int))), (0, (2, ((2 : Nat) : Int))), (1, (0, (o))), (2, (0, (m)))]) (st' := [(0, (m)), (0, (h 13 n))]) (h' := h) (o51_17 hB) rfl ?_
          refine w_icmp (pt := 48) (pf := 31) (o51_18 hB) (by decide) rfl (fun e => ?_) (fun e => ?_)
          · have f47 : ((m) < (h 13 n)) := e
            refine w_iinc (x := ((n : Nat) : Int)) (z := (((n : Nat) : Int) + (-1))) (pc' := 51) (lv' := [(3, (0, (((n : Nat) : Int) + (-1)))), (0, (2, ((2 : Nat) : Int))), (1, (0, (o))), (2, (0, (m)))]) (o51_30 hB) rfl rfl ml51 (by decide) (w32_e (by omega) (by omega)) rfl ?_
            refine w_goto (pt := 7) (o51_31 hB) (by decide) ?_
            refine w_sub (lv' := [(3, (0, (((n : Nat) : Int) + (-1)))), (0, (2, ((2 : Nat) : Int))), (1, (0, (o))), (2, (0, (m)))]) (List.forall_mem_cons.mpr ⟨(List.Mem.head _), (List.forall_mem_cons.mpr ⟨(List.Mem.tail _ (List.Mem.head _)), (List.forall_mem_cons.mpr ⟨(List.Mem.tail _ (List.Mem.tail _ (List.Mem.head _))), (List.forall_mem_cons.mpr ⟨(List.Mem.tail _ (List.Mem.tail _ (List.Mem.tail _ (List.Mem.head _)))), (fun _ hx => by cases hx)⟩)⟩)⟩)⟩) ?_
            have e1 : inA h o m (n + 1) = inA h o m n := by
              simp only [inA]
              rw [if_neg (by omega)]
            rw [e1] at hq
            exact ih (by omega) hq
          · have f48 : ¬ ((m) < (h 13 n)) := e
            refine w_pl (pc' := 32) (lv' := [(3, (0, ((n : Nat) : Int))), (0, (2, ((2 : Nat) : Int))), (1, (0, (o))), (2, (0, (m)))]) (st' := [(2, ((2 : Nat) : Int))]) (h' := h) (o51_19 hB) rfl ?_
            refine w_getf (A := 2) (t := 0) (z := (h 2 16)) (pc' := 35) (o51_20 hB) rfl (by decide +kernel) rfl ?_
            refine w_pl (pc' := 36) (lv' := [(3, (0, ((n : Nat) : Int))), (0, (2, ((2 : Nat) : Int))), (1, (0, (o))), (2, (0, (m)))]) (st' := [(0, ((n : Nat) : Int)), (0, (h 2 16))]) (h' := h) (o51_21 hB) rfl ?_
            refine w_ishr (z := (shrI (h 2 16) ((n : Nat) : Int))) (pc' := 37) (o51_22 hB) rfl rfl ?_
            refine w_pl (pc' := 38) (lv' := [(3, (0, ((n : Nat) : Int))), (0, (2, ((2 : Nat) : Int))), (1, (0, (o))), (2, (0, (m)))]) (st' := [(0, ((1 : Nat) : Int)), (0, (shrI (h 2 16) ((n : Nat) : Int)))]) (h' := h) (o51_23 hB) rfl ?_
            refine w_iand (z := (andI (shrI (h 2 16) ((n : Nat) : Int)) 1)) (pc' := 39) (o51_24 hB) rfl rfl ?_
            refine w_ifc (pt := 46) (pf := 42) (o51_25 hB) (by decide) rfl (fun e => ?_) (fun e => ?_)
            · have f49 : ((andI (shrI (h 2 16) ((n : Nat) : Int)) 1) = (0)) := e
              refine w_pl (pc' := 47) (lv' := [(3, (0, ((n : Nat) : Int))), (0, (2, ((2 : Nat) : Int))), (1, (0, (o))), (2, (0, (m)))]) (st' := [(0, ((0 : Nat) : Int))]) (h' := h) (o51_28 hB) rfl ?_
              have e1 : inA h o m (n + 1) = 0 := by
                simp only [inA]
                rw [if_pos ⟨by omega, by omega⟩, if_pos (by omega)]
              exact w_zret (o51_29 hB) mr51 (by decide) (qe hq e1)
            · have f50 : ¬ ((andI (shrI (h 2 16) ((n : Nat) : Int)) 1) = (0)) := e
              refine w_pl (pc' := 43) (lv' := [(3, (0, ((n : Nat) : Int))), (0, (2, ((2 : Nat) : Int))), (1, (0, (o))), (2, (0, (m)))]) (st' := [(0, ((1 : Nat) : Int))]) (h' := h) (o51_26 hB) rfl ?_
              refine w_goto (pt := 47) (o51_27 hB) (by decide) ?_
              have e1 : inA h o m (n + 1) = 1 := by
                simp only [inA]
                rw [if_pos ⟨by omega, by omega⟩, if_neg (by omega)]
              exact w_zret (o51_29 hB) mr51 (by decide) (qe hq e1)
  refine mh_go hB mg51 ml51 (Nat.le_of_ble_eq_true rfl) ?_
  show HW g l d 51 _ _ 0 [(0, (2, ((2 : Nat) : Int))), (1, (0, (o))), (2, (0, (m)))] [] h
  refine w_pl (pc' := 1) (lv' := [(0, (2, ((2 : Nat) : Int))), (1, (0, (o))), (2, (0, (m)))]) (st' := [(2, ((2 : Nat) : Int))]) (h' := h) (o51_0 hB) rfl ?_
  refine w_getf (A := 2) (t := 0) (z := ((c : Nat) : Int)) (pc' := 4) (o51_1 hB) rfl (by decide +kernel) hc ?_
  refine w_pl (pc' := 5) (lv' := [(0, (2, ((2 : Nat) : Int))), (1, (0, (o))), (2, (0, (m)))]) (st' := [(0, ((1 : Nat) : Int)), (0, ((c : Nat) : Int))]) (h' := h) (o51_2 hB) rfl ?_
  refine w_isub (z := (((c : Nat) : Int) - ((1 : Nat) : Int))) (pc' := 6) (o51_3 hB) rfl (w32_e (by omega) (by omega)) ?_
  refine w_st (tg := 0) (j := 3) (len := 1) (pc' := 7) (lv' := [(3, (0, (((c : Nat) : Int) - ((1 : Nat) : Int)))), (0, (2, ((2 : Nat) : Int))), (1, (0, (o))), (2, (0, (m)))]) (o51_4 hB) rfl rfl ml51 (by decide) rfl ?_
  refine w_sub (lv' := [(3, (0, (((c : Nat) : Int) - ((1 : Nat) : Int)))), (0, (2, ((2 : Nat) : Int))), (1, (0, (o))), (2, (0, (m)))]) (List.forall_mem_cons.mpr ⟨(List.Mem.head _), (List.forall_mem_cons.mpr ⟨(List.Mem.tail _ (List.Mem.head _)), (List.forall_mem_cons.mpr ⟨(List.Mem.tail _ (List.Mem.tail _ (List.Mem.head _))), (List.forall_mem_cons.mpr ⟨(List.Mem.tail _ (List.Mem.tail _ (List.Mem.tail _ (List.Mem.head _)))), (fun _ hx => by cases hx)⟩)⟩)⟩)⟩) ?_
  rw [show ((((c : Nat) : Int) - ((1 : Nat) : Int)) : Int) = ((c : Nat) : Int) + (-1) from by omega]
  exact loop c (Nat.le_refl _) hq
theorem m_isInM (hB : BytesOK) {g : bG} {l : Launch} {d : Nat} {Q : bQ} {h : bH} {o m : Int} {c : Nat} (ht : TH h) (hc : h 194 10 = (c : Int)) (lc : c ≤ 24) (hq : Q (some (0, (inM h o m c).1)) h) : MH g l d 196 212 212 [(2, ((193 : Nat) : Int)), (0, o), (0, m)] h Q := by
  have hR := ht.r
  have loop : ∀ (n b : Nat), b + n = c → HW g l d 196 212 Q 8 [(5, (0, ((b : Nat) : Int))), (4, (0, ((inM h o m b).2))), (3, (0, ((inM h o m b).1))), (0, (2, ((193 : Nat) : Int))), (1, (0, (o))), (2, (0, (m)))] [] h := by
    intro n
    induction n with
    | zero =>
      intro b hb
      have rb := inM_r ht (o := o) (m := m) b (by omega)
      refine w_pl (pc' := 10) (lv' := [(5, (0, ((b : Nat) : Int))), (4, (0, ((inM h o m b).2))), (3, (0, ((inM h o m b).1))), (0, (2, ((193 : Nat) : Int))), (1, (0, (o))), (2, (0, (m)))]) (st' := [(0, ((b : Nat) : Int))]) (h' := h) (o196_6 hB) rfl ?_
      refine w_pl (pc' := 11) (lv' := [(5, (0, ((b : Nat) : Int))), (4, (0, ((inM h o m b).2))), (3, (0, ((inM h o m b).1))), (0, (2, ((193 : Nat) : Int))), (1, (0, (o))), (2, (0, (m)))]) (st' := [(2, ((193 : Nat) : Int)), (0, ((b : Nat) : Int))]) (h' := h) (o196_7 hB) rfl ?_
      refine w_getf (A := 193) (t := 2) (z := ((194 : Nat) : Int)) (pc' := 14) (o196_8 hB) rfl (by decide +kernel) (hR (193, 0, 194) (by decide)) ?_
      refine w_pl (pc' := 16) (lv' := [(5, (0, ((b : Nat) : Int))), (4, (0, ((inM h o m b).2))), (3, (0, ((inM h o m b).1))), (0, (2, ((193 : Nat) : Int))), (1, (0, (o))), (2, (0, (m)))]) (st' := [(0, ((10 : Nat) : Int)), (2, ((194 : Nat) : Int)), (0, ((b : Nat) : Int))]) (h' := h) (o196_9 hB) rfl ?_
      refine w_iald (A := 194) (i := 10) (n := 1984) (z := ((c : Nat) : Int)) (pc' := 17) (o196_10 hB) rfl (by decide +kernel) (by omega) hc ?_
      refine w_icmp (pt := 104) (pf := 20) (o196_11 hB) (by decide) rfl (fun e => ?_) (fun e => ?_)
      · have f51 : (((c : Nat) : Int) ≤ ((b : Nat) : Int)) := e
        refine w_pl (pc' := 105) (lv' := [(5, (0, ((b : Nat) : Int))), (4, (0, ((inM h o m b).2))), (3, (0, ((inM h o m b).1))), (0, (2, ((193 : Nat) : Int))), (1, (0, (o))), (2, (0, (m)))]) (st' := [(0, ((inM h o m b).1))]) (h' := h) (o196_61 hB) rfl ?_
        have e0 : b = c := by omega
        subst e0
        exact w_zret (o196_62 hB) mr196 (by omega) hq
      · have f52 : ¬ (((c : Nat) : Int) ≤ ((b : Nat) : Int)) := e
        exfalso; omega
    | succ n ih =>
      intro b hb
      have rb := inM_r ht (o := o) (m := m) b (by omega)
      refine w_pl (pc' := 10) (lv' := [(5, (0, ((b : Nat) : Int))), (4, (0, ((inM h o m b).2))), (3, (0, ((inM h o m b).1))), (0, (2, ((193 : Nat) : Int))), (1, (0, (o))), (2, (0, (m)))]) (st' := [(0, ((b : Nat) : Int))]) (h' := h) (o196_6 hB) rfl ?_
      refine w_pl (pc' := 11) (lv' := [(5, (0, ((b : Nat) : Int))), (4, (0, ((inM h o m b).2))), (3, (0, ((inM h o m b).1))), (0, (2, ((193 : Nat) : Int))), (1, (0, (o))), (2, (0, (m)))]) (st' := [(2, ((193 : Nat) : Int)), (0, ((b : Nat) : Int))]) (h' := h) (o196_7 hB) rfl ?_
      refine w_getf (A := 193) (t := 2) (z := ((194 : Nat) : Int)) (pc' := 14) (o196_8 hB) rfl (by decide +kernel) (hR (193, 0, 194) (by decide)) ?_
      refine w_pl (pc' := 16) (lv' := [(5, (0, ((b : Nat) : Int))), (4, (0, ((inM h o m b).2))), (3, (0, ((inM h o m b).1))), (0, (2, ((193 : Nat) : Int))), (1, (0, (o))), (2, (0, (m)))]) (st' := [(0, ((10 : Nat) : Int)), (2, ((194 : Nat) : Int)), (0, ((b : Nat) : Int))]) (h' := h) (o196_9 hB) rfl ?_
      refine w_iald (A := 194) (i := 10) (n := 1984) (z := ((c : Nat) : Int)) (pc' := 17) (o196_10 hB) rfl (by decide +kernel) (by omega) hc ?_
      refine w_icmp (pt := 104) (pf := 20) (o196_11 hB) (by decide) rfl (fun e => ?_) (fun e => ?_)
      · have f53 : (((c : Nat) : Int) ≤ ((b : Nat) : Int)) := e
        exfalso; omega
      · have f54 : ¬ (((c : Nat) : Int) ≤ ((b : Nat) : Int)) := e
        refine w_pl (pc' := 23) (lv' := [(5, (0, ((b : Nat) : Int))), (4, (0, ((inM h o m b).2))), (3, (0, ((inM h o m b).1))), (0, (2, ((193 : Nat) : Int))), (1, (0, (o))), (2, (0, (m)))]) (st' := [(0, ((204 : Nat) : Int))]) (h' := h) (o196_12 hB) rfl ?_
        refine w_pl (pc' := 24) (lv' := [(5, (0, ((b : Nat) : Int))), (4, (0, ((inM h o m b).2))), (3, (0, ((inM h o m b).1))), (0, (2, ((193 : Nat) : Int))), (1, (0, (o))), (2, (0, (m)))]) (st' := [(0, ((3 : Nat) : Int)), (0, ((204 : Nat) : Int))]) (h' := h) (o196_13 hB) rfl ?_
        refine w_pl (pc' := 26) (lv' := [(5, (0, ((b : Nat) : Int))), (4, (0, ((inM h o m b).2))), (3, (0, ((inM h o m b).1))), (0, (2, ((193 : Nat) : Int))), (1, (0, (o))), (2, (0, (m)))]) (st' := [(0, ((b : Nat) : Int)), (0, ((3 : Nat) : Int)), (0, ((204 : Nat) : Int))]) (h' := h) (o196_14 hB) rfl ?_
        refine w_imul (z := (((3 * b) : Nat) : Int)) (pc' := 27) (o196_15 hB) rfl (w32_e (by omega) (by omega)) ?_
        refine w_iadd (z := (((204 + (3 * b)) : Nat) : Int)) (pc' := 28) (o196_16 hB) rfl (w32_e (by omega) (by omega)) ?_
        refine w_st (tg := 0) (j := 6) (len := 2) (pc' := 30) (lv' := [(6, (0, (((204 + (3 * b)) : Nat) : Int))), (5, (0, ((b : Nat) : Int))), (4, (0, ((inM h o m b).2))), (3, (0, ((inM h o m b).1))), (0, (2, ((193 : Nat) : Int))), (1, (0, (o))), (2, (0, (m)))]) (o196_17 hB) rfl rfl ml196 (by decide) rfl ?_
        refine w_pl (pc' := 31) (lv' := [(6, (0, (((204 + (3 * b)) : Nat) : Int))), (5, (0, ((b : Nat) : Int))), (4, (0, ((inM h o m b).2))), (3, (0, ((inM h o m b).1))), (0, (2, ((193 : Nat) : Int))), (1, (0, (o))), (2, (0, (m)))]) (st' := [(2, ((193 : Nat) : Int))]) (h' := h) (o196_18 hB) rfl ?_
        refine w_getf (A := 193) (t := 2) (z := ((194 : Nat) : Int)) (pc' := 34) (o196_19 hB) rfl (by decide +kernel) (hR (193, 0, 194) (by decide)) ?_
        refine w_pl (pc' := 36) (lv' := [(6, (0, (((204 + (3 * b)) : Nat) : Int))), (5, (0, ((b : Nat) : Int))), (4, (0, ((inM h o m b).2))), (3, (0, ((inM h o m b).1))), (0, (2, ((193 : Nat) : Int))), (1, (0, (o))), (2, (0, (m)))]) (st' := [(0, (((204 + (3 * b)) : Nat) : Int)), (2, ((194 : Nat) : Int))]) (h' := h) (o196_20 hB) rfl ?_
        have f55 := ty_194_s204 ht (j := (204 + (3 * b))) (r := b) (by omega) (by omega)
        refine w_iald (A := 194) (i := (204 + (3 * b))) (n := 1984) (z := (h 194 (204 + (3 * b)))) (pc' := 37) (o196_21 hB) rfl (by decide +kernel) (by omega) rfl ?_
        refine w_pl (pc' := 38) (lv' := [(6, (0, (((204 + (3 * b)) : Nat) : Int))), (5, (0, ((b : Nat) : Int))), (4, (0, ((inM h o m b).2))), (3, (0, ((inM h o m b).1))), (0, (2, ((193 : Nat) : Int))), (1, (0, (o))), (2, (0, (m)))]) (st' := [(0, (o)), (0, (h 194 (204 + (3 * b))))]) (h' := h) (o196_22 hB) rfl ?_
        refine w_icmp (pt := 98) (pf := 41) (o196_23 hB) (by decide) rfl (fun e => ?_) (fun e => ?_)
        · have f56 : ((h 194 (204 + (3 * b))) ≠ (o)) := e
          refine w_iinc (x := ((b : Nat) : Int)) (z := (((b + 1) : Nat) : Int)) (pc' := 101) (lv' := [(5, (0, (((b + 1) : Nat) : Int))), (6, (0, (((204 + (3 * b)) : Nat) : Int))), (4, (0, ((inM h o m b).2))), (3, (0, ((inM h o m b).1))), (0, (2, ((193 : Nat) : Int))), (1, (0, (o))), (2, (0, (m)))]) (o196_59 hB) rfl rfl ml196 (by decide) (w32_e (by omega) (by omega)) rfl ?_
          refine w_goto (pt := 8) (o196_60 hB) (by decide) ?_
          refine w_sub (lv' := [(5, (0, (((b + 1) : Nat) : Int))), (4, (0, ((inM h o m b).2))), (3, (0, ((inM h o m b).1))), (0, (2, ((193 : Nat) : Int))), (1, (0, (o))), (2, (0, (m)))]) (List.forall_mem_cons.mpr ⟨(List.Mem.head _), (List.forall_mem_cons.mpr ⟨(List.Mem.tail _ (List.Mem.tail _ (List.Mem.head _))), (List.forall_mem_cons.mpr ⟨(List.Mem.tail _ (List.Mem.tail _ (List.Mem.tail _ (List.Mem.head _)))), (List.forall_mem_cons.mpr ⟨(List.Mem.tail _ (List.Mem.tail _ (List.Mem.tail _ (List.Mem.tail _ (List.Mem.head _))))), (List.forall_mem_cons.mpr ⟨(List.Mem.tail _ (List.Mem.tail _ (List.Mem.tail _ (List.Mem.tail _ (List.Mem.tail _ (List.Mem.head _)))))), (List.forall_mem_cons.mpr ⟨(List.Mem.tail _ (List.Mem.tail _ (List.Mem.tail _ (List.Mem.tail _ (List.Mem.tail _ (List.Mem.tail _ (List.Mem.head _))))))), (fun _ hx => by cases hx)⟩)⟩)⟩)⟩)⟩)⟩) ?_
          have e1 : inM h o m (b + 1) = (((inM h o m b).1), ((inM h o m b).2)) := by
            simp only [inM]
            rw [if_neg (by omega)]
          rw [show (((inM h o m b).1) : Int) = (inM h o m (b + 1)).1 from by rw [e1], show (((inM h o m b).2) : Int) = (inM h o m (b + 1)).2 from by rw [e1]]
          exact ih (b + 1) (by omega)
        · have f57 : ¬ ((h 194 (204 + (3 * b))) ≠ (o)) := e
          refine w_pl (pc' := 42) (lv' := [(6, (0, (((204 + (3 * b)) : Nat) : Int))), (5, (0, ((b : Nat) : Int))), (4, (0, ((inM h o m b).2))), (3, (0, ((inM h o m b).1))), (0, (2, ((193 : Nat) : Int))), (1, (0, (o))), (2, (0, (m)))]) (st' := [(2, ((193 : Nat) : Int))]) (h' := h) (o196_24 hB) rfl ?_
          refine w_getf (A := 193) (t := 2) (z := ((194 : Nat) : Int)) (pc' := 45) (o196_25 hB) rfl (by decide +kernel) (hR (193, 0, 194) (by decide)) ?_
          refine w_pl (pc' := 47) (lv' := [(6, (0, (((204 + (3 * b)) : Nat) : Int))), (5, (0, ((b : Nat) : Int))), (4, (0, ((inM h o m b).2))), (3, (0, ((inM h o m b).1))), (0, (2, ((193 : Nat) : Int))), (1, (0, (o))), (2, (0, (m)))]) (st' := [(0, (((204 + (3 * b)) : Nat) : Int)), (2, ((194 : Nat) : Int))]) (h' := h) (o196_26 hB) rfl ?_
          refine w_pl (pc' := 48) (lv' := [(6, (0, (((204 + (3 * b)) : Nat) : Int))), (5, (0, ((b : Nat) : Int))), (4, (0, ((inM h o m b).2))), (3, (0, ((inM h o m b).1))), (0, (2, ((193 : Nat) : Int))), (1, (0, (o))), (2, (0, (m)))]) (st' := [(0, ((2 : Nat) : Int)), (0, (((204 + (3 * b)) : Nat) : Int)), (2, ((194 : Nat) : Int))]) (h' := h) (o196_27 hB) rfl ?_
          refine w_iadd (z := ((((204 + (3 * b)) + 2) : Nat) : Int)) (pc' := 49) (o196_28 hB) rfl (w32_e (by omega) (by omega)) ?_
          have f58 := ty_194_s206 ht (j := ((204 + (3 * b)) + 2)) (r := b) (by omega) (by omega)
          refine w_iald (A := 194) (i := ((204 + (3 * b)) + 2)) (n := 1984) (z := (h 194 ((204 + (3 * b)) + 2))) (pc' := 50) (o196_29 hB) rfl (by decide +kernel) (by omega) rfl ?_
          refine w_pl (pc' := 51) (lv' := [(6, (0, (((204 + (3 * b)) : Nat) : Int))), (5, (0, ((b : Nat) : Int))), (4, (0, ((inM h o m b).2))), (3, (0, ((inM h o m b).1))), (0, (2, ((193 : Nat) : Int))), (1, (0, (o))), (2, (0, (m)))]) (st' := [(0, (m)), (0, (h 194 ((204 + (3 * b)) + 2)))]) (h' := h) (o196_30 hB) rfl ?_
          refine w_icmp (pt := 98) (pf := 54) (o196_31 hB) (by decide) rfl (fun e => ?_) (fun e => ?_)
          · have f59 : ((m) < (h 194 ((204 + (3 * b)) + 2))) := e
            refine w_iinc (x := ((b : Nat) : Int)) (z := (((b + 1) : Nat) : Int)) (pc' := 101) (lv' := [(5, (0, (((b + 1) : Nat) : Int))), (6, (0, (((204 + (3 * b)) : Nat) : Int))), (4, (0, ((inM h o m b).2))), (3, (0, ((inM h o m b).1))), (0, (2, ((193 : Nat) : Int))), (1, (0, (o))), (2, (0, (m)))]) (o196_59 hB) rfl rfl ml196 (by decide) (w32_e (by omega) (by omega)) rfl ?_
            refine w_goto (pt := 8) (o196_60 hB) (by decide) ?_
            refine w_sub (lv' := [(5, (0, (((b + 1) : Nat) : Int))), (4, (0, ((inM h o m b).2))), (3, (0, ((inM h o m b).1))), (0, (2, ((193 : Nat) : Int))), (1, (0, (o))), (2, (0, (m)))]) (List.forall_mem_cons.mpr ⟨(List.Mem.head _), (List.forall_mem_cons.mpr ⟨(List.Mem.tail _ (List.Mem.tail _ (List.Mem.head _))), (List.forall_mem_cons.mpr ⟨(List.Mem.tail _ (List.Mem.tail _ (List.Mem.tail _ (List.Mem.head _)))), (List.forall_mem_cons.mpr ⟨(List.Mem.tail _ (List.Mem.tail _ (List.Mem.tail _ (List.Mem.tail _ (List.Mem.head _))))), (List.forall_mem_cons.mpr ⟨(List.Mem.tail _ (List.Mem.tail _ (List.Mem.tail _ (List.Mem.tail _ (List.Mem.tail _ (List.Mem.head _)))))), (List.forall_mem_cons.mpr ⟨(List.Mem.tail _ (List.Mem.tail _ (List.Mem.tail _ (List.Mem.tail _ (List.Mem.tail _ (List.Mem.tail _ (List.Mem.head _))))))), (fun _ hx => by cases hx)⟩)⟩)⟩)⟩)⟩)⟩) ?_
            have e1 : inM h o m (b + 1) = (((inM h o m b).1), ((inM h o m b).2)) := by
              simp only [inM]
              rw [if_neg (by omega)]
            rw [show (((inM h o m b).1) : Int) = (inM h o m (b + 1)).1 from by rw [e1], show (((inM h o m b).2) : Int) = (inM h o m (b + 1)).2 from by rw [e1]]
            exact ih (b + 1) (by omega)
          · have f60 : ¬ ((m) < (h 194 ((204 + (3 * b)) + 2))) := e
            refine w_pl (pc' := 55) (lv' := [(6, (0, (((204 + (3 * b)) : Nat) : Int))), (5, (0, ((b : Nat) : Int))), (4, (0, ((inM h o m b).2))), (3, (0, ((inM h o m b).1))), (0, (2, ((193 : Nat) : Int))), (1, (0, (o))), (2, (0, (m)))]) (st' := [(2, ((193 : Nat) : Int))]) (h' := h) (o196_32 hB) rfl ?_
            refine w_getf (A := 193) (t := 2) (z := ((194 : Nat) : Int)) (pc' := 58) (o196_33 hB) rfl (by decide +kernel) (hR (193, 0, 194) (by decide)) ?_
            refine w_pl (pc' := 60) (lv' := [(6, (0, (((204 + (3 * b)) : Nat) : Int))), (5, (0, ((b : Nat) : Int))), (4, (0, ((inM h o m b).2))), (3, (0, ((inM h o m b).1))), (0, (2, ((193 : Nat) : Int))), (1, (0, (o))), (2, (0, (m)))]) (st' := [(0, (((204 + (3 * b)) : Nat) : Int)), (2, ((194 : Nat) : Int))]) (h' := h) (o196_34 hB) rfl ?_
            refine w_pl (pc' := 61) (lv' := [(6, (0, (((204 + (3 * b)) : Nat) : Int))), (5, (0, ((b : Nat) : Int))), (4, (0, ((inM h o m b).2))), (3, (0, ((inM h o m b).1))), (0, (2, ((193 : Nat) : Int))), (1, (0, (o))), (2, (0, (m)))]) (st' := [(0, ((2 : Nat) : Int)), (0, (((204 + (3 * b)) : Nat) : Int)), (2, ((194 : Nat) : Int))]) (h' := h) (o196_35 hB) rfl ?_
            refine w_iadd (z := ((((204 + (3 * b)) + 2) : Nat) : Int)) (pc' := 62) (o196_36 hB) rfl (w32_e (by omega) (by omega)) ?_
            have f61 := ty_194_s206 ht (j := ((204 + (3 * b)) + 2)) (r := b) (by omega) (by omega)
            refine w_iald (A := 194) (i := ((204 + (3 * b)) + 2)) (n := 1984) (z := (h 194 ((204 + (3 * b)) + 2))) (pc' := 63) (o196_37 hB) rfl (by decide +kernel) (by omega) rfl ?_
            refine w_pl (pc' := 65) (lv' := [(6, (0, (((204 + (3 * b)) : Nat) : Int))), (5, (0, ((b : Nat) : Int))), (4, (0, ((inM h o m b).2))), (3, (0, ((inM h o m b).1))), (0, (2, ((193 : Nat) : Int))), (1, (0, (o))), (2, (0, (m)))]) (st' := [(0, ((inM h o m b).2)), (0, (h 194 ((204 + (3 * b)) + 2)))]) (h' := h) (o196_38 hB) rfl ?_
            refine w_icmp (pt := 98) (pf := 68) (o196_39 hB) (by decide) rfl (fun e => ?_) (fun e => ?_)
            · have f62 : ((h 194 ((204 + (3 * b)) + 2)) < ((inM h o m b).2)) := e
              refine w_iinc (x := ((b : Nat) : Int)) (z := (((b + 1) : Nat) : Int)) (pc' := 101) (lv' := [(5, (0, (((b + 1) : Nat) : Int))), (6, (0, (((204 + (3 * b)) : Nat) : Int))), (4, (0, ((inM h o m b).2))), (3, (0, ((inM h o m b).1))), (0, (2, ((193 : Nat) : Int))), (1, (0, (o))), (2, (0, (m)))]) (o196_59 hB) rfl rfl ml196 (by decide) (w32_e (by omega) (by omega)) rfl ?_
              refine w_goto (pt := 8) (o196_60 hB) (by decide) ?_
              refine w_sub (lv' := [(5, (0, (((b + 1) : Nat) : Int))), (4, (0, ((inM h o m b).2))), (3, (0, ((inM h o m b).1))), (0, (2, ((193 : Nat) : Int))), (1, (0, (o))), (2, (0, (m)))]) (List.forall_mem_cons.mpr ⟨(List.Mem.head _), (List.forall_mem_cons.mpr ⟨(List.Mem.tail _ (List.Mem.tail _ (List.Mem.head _))), (List.forall_mem_cons.mpr ⟨(List.Mem.tail _ (List.Mem.tail _ (List.Mem.tail _ (List.Mem.head _)))), (List.forall_mem_cons.mpr ⟨(List.Mem.tail _ (List.Mem.tail _ (List.Mem.tail _ (List.Mem.tail _ (List.Mem.head _))))), (List.forall_mem_cons.mpr ⟨(List.Mem.tail _ (List.Mem.tail _ (List.Mem.tail _ (List.Mem.tail _ (List.Mem.tail _ (List.Mem.head _)))))), (List.forall_mem_cons.mpr ⟨(List.Mem.tail _ (List.Mem.tail _ (List.Mem.tail _ (List.Mem.tail _ (List.Mem.tail _ (List.Mem.tail _ (List.Mem.head _))))))), (fun _ hx => by cases hx)⟩)⟩)⟩)⟩)⟩)⟩) ?_
              have e1 : inM h o m (b + 1) = (((inM h o m b).1), ((inM h o m b).2)) := by
                simp only [inM]
                rw [if_neg (by omega)]
              rw [show (((inM h o m b).1) : Int) = (inM h o m (b + 1)).1 from by rw [e1], show (((inM h o m b).2) : Int) = (inM h o m (b + 1)).2 from by rw [e1]]
              exact ih (b + 1) (by omega)
            · have f63 : ¬ ((h 194 ((204 + (3 * b)) + 2)) < ((inM h o m b).2)) := e
              refine w_pl (pc' := 69) (lv' := [(6, (0, (((204 + (3 * b)) : Nat) : Int))), (5, (0, ((b : Nat) : Int))), (4, (0, ((inM h o m b).2))), (3, (0, ((inM h o m b).1))), (0, (2, ((193 : Nat) : Int))), (1, (0, (o))), (2, (0, (m)))]) (st' := [(2, ((193 : Nat) : Int))]) (h' := h) (o196_40 hB) rfl ?_
              refine w_getf (A := 193) (t := 2) (z := ((194 : Nat) : Int)) (pc' := 72) (o196_41 hB) rfl (by decide +kernel) (hR (193, 0, 194) (by decide)) ?_
              refine w_pl (pc' := 74) (lv' := [(6, (0, (((204 + (3 * b)) : Nat) : Int))), (5, (0, ((b : Nat) : Int))), (4, (0, ((inM h o m b).2))), (3, (0, ((inM h o m b).1))), (0, (2, ((193 : Nat) : Int))), (1, (0, (o))), (2, (0, (m)))]) (st' := [(0, (((204 + (3 * b)) : Nat) : Int)), (2, ((194 : Nat) : Int))]) (h' := h) (o196_42 hB) rfl ?_
              refine w_pl (pc' := 75) (lv' := [(6, (0, (((204 + (3 * b)) : Nat) : Int))), (5, (0, ((b : Nat) : Int))), (4, (0, ((inM h o m b).2))), (3, (0, ((inM h o m b).1))), (0, (2, ((193 : Nat) : Int))), (1, (0, (o))), (2, (0, (m)))]) (st' := [(0, ((1 : Nat) : Int)), (0, (((204 + (3 * b)) : Nat) : Int)), (2, ((194 : Nat) : Int))]) (h' := h) (o196_43 hB) rfl ?_
              refine w_iadd (z := ((((204 + (3 * b)) + 1) : Nat) : Int)) (pc' := 76) (o196_44 hB) rfl (w32_e (by omega) (by omega)) ?_
              have f64 := ty_194_s205 ht (j := ((204 + (3 * b)) + 1)) (r := b) (by omega) (by omega)
              refine w_iald (A := 194) (i := ((204 + (3 * b)) + 1)) (n := 1984) (z := (h 194 ((204 + (3 * b)) + 1))) (pc' := 77) (o196_45 hB) rfl (by decide +kernel) (by omega) rfl ?_
              refine w_pl (pc' := 78) (lv' := [(6, (0, (((204 + (3 * b)) : Nat) : Int))), (5, (0, ((b : Nat) : Int))), (4, (0, ((inM h o m b).2))), (3, (0, ((inM h o m b).1))), (0, (2, ((193 : Nat) : Int))), (1, (0, (o))), (2, (0, (m)))]) (st' := [(0, ((1 : Nat) : Int)), (0, (h 194 ((204 + (3 * b)) + 1)))]) (h' := h) (o196_46 hB) rfl ?_
              refine w_icmp (pt := 85) (pf := 81) (o196_47 hB) (by decide) rfl (fun e => ?_) (fun e => ?_)
              · have f65 : ((h 194 ((204 + (3 * b)) + 1)) ≠ ((1 : Nat) : Int)) := e
                refine w_pl (pc' := 86) (lv' := [(6, (0, (((204 + (3 * b)) : Nat) : Int))), (5, (0, ((b : Nat) : Int))), (4, (0, ((inM h o m b).2))), (3, (0, ((inM h o m b).1))), (0, (2, ((193 : Nat) : Int))), (1, (0, (o))), (2, (0, (m)))]) (st' := [(0, ((0 : Nat) : Int))]) (h' := h) (o196_50 hB) rfl ?_
                refine w_st (tg := 0) (j := 3) (len := 1) (pc' := 87) (lv' := [(3, (0, ((0 : Nat) : Int))), (6, (0, (((204 + (3 * b)) : Nat) : Int))), (5, (0, ((b : Nat) : Int))), (4, (0, ((inM h o m b).2))), (0, (2, ((193 : Nat) : Int))), (1, (0, (o))), (2, (0, (m)))]) (o196_51 hB) rfl rfl ml196 (by decide) rfl ?_
                refine w_pl (pc' := 88) (lv' := [(3, (0, ((0 : Nat) : Int))), (6, (0, (((204 + (3 * b)) : Nat) : Int))), (5, (0, ((b : Nat) : Int))), (4, (0, ((inM h o m b).2))), (0, (2, ((193 : Nat) : Int))), (1, (0, (o))), (2, (0, (m)))]) (st' := [(2, ((193 : Nat) : Int))]) (h' := h) (o196_52 hB) rfl ?_
                refine w_getf (A := 193) (t := 2) (z := ((194 : Nat) : Int)) (pc' := 91) (o196_53 hB) rfl (by decide +kernel) (hR (193, 0, 194) (by decide)) ?_
                refine w_pl (pc' := 93) (lv' := [(3, (0, ((0 : Nat) : Int))), (6, (0, (((204 + (3 * b)) : Nat) : Int))), (5, (0, ((b : Nat) : Int))), (4, (0, ((inM h o m b).2))), (0, (2, ((193 : Nat) : Int))), (1, (0, (o))), (2, (0, (m)))]) (st' := [(0, (((204 + (3 * b)) : Nat) : Int)), (2, ((194 : Nat) : Int))]) (h' := h) (o196_54 hB) rfl ?_
                refine w_pl (pc' := 94) (lv' := [(3, (0, ((0 : Nat) : Int))), (6, (0, (((204 + (3 * b)) : Nat) : Int))), (5, (0, ((b : Nat) : Int))), (4, (0, ((inM h o m b).2))), (0, (2, ((193 : Nat) : Int))), (1, (0, (o))), (2, (0, (m)))]) (st' := [(0, ((2 : Nat) : Int)), (0, (((204 + (3 * b)) : Nat) : Int)), (2, ((194 : Nat) : Int))]) (h' := h) (o196_55 hB) rfl ?_
                refine w_iadd (z := ((((204 + (3 * b)) + 2) : Nat) : Int)) (pc' := 95) (o196_56 hB) rfl (w32_e (by omega) (by omega)) ?_
                have f66 := ty_194_s206 ht (j := ((204 + (3 * b)) + 2)) (r := b) (by omega) (by omega)
                refine w_iald (A := 194) (i := ((204 + (3 * b)) + 2)) (n := 1984) (z := (h 194 ((204 + (3 * b)) + 2))) (pc' := 96) (o196_57 hB) rfl (by decide +kernel) (by omega) rfl ?_
                refine w_st (tg := 0) (j := 4) (len := 2) (pc' := 98) (lv' := [(4, (0, (h 194 ((204 + (3 * b)) + 2)))), (3, (0, ((0 : Nat) : Int))), (6, (0, (((204 + (3 * b)) : Nat) : Int))), (5, (0, ((b : Nat) : Int))), (0, (2, ((193 : Nat) : Int))), (1, (0, (o))), (2, (0, (m)))]) (o196_58 hB) rfl rfl ml196 (by decide) rfl ?_
                refine w_iinc (x := ((b : Nat) : Int)) (z := (((b + 1) : Nat) : Int)) (pc' := 101) (lv' := [(5, (0, (((b + 1) : Nat) : Int))), (4, (0, (h 194 ((204 + (3 * b)) + 2)))), (3, (0, ((0 : Nat) : Int))), (6, (0, (((204 + (3 * b)) : Nat) : Int))), (0, (2, ((193 : Nat) : Int))), (1, (0, (o))), (2, (0, (m)))]) (o196_59 hB) rfl rfl ml196 (by decide) (w32_e (by omega) (by omega)) rfl ?_
                refine w_goto (pt := 8) (o196_60 hB) (by decide) ?_
                refine w_sub (lv' := [(5, (0, (((b + 1) : Nat) : Int))), (4, (0, (h 194 ((204 + (3 * b)) + 2)))), (3, (0, ((0 : Nat) : Int))), (0, (2, ((193 : Nat) : Int))), (1, (0, (o))), (2, (0, (m)))]) (List.forall_mem_cons.mpr ⟨(List.Mem.head _), (List.forall_mem_cons.mpr ⟨(List.Mem.tail _ (List.Mem.head _)), (List.forall_mem_cons.mpr ⟨(List.Mem.tail _ (List.Mem.tail _ (List.Mem.head _))), (List.forall_mem_cons.mpr ⟨(List.Mem.tail _ (List.Mem.tail _ (List.Mem.tail _ (List.Mem.tail _ (List.Mem.head _))))), (List.forall_mem_cons.mpr ⟨(List.Mem.tail _ (List.Mem.tail _ (List.Mem.tail _ (List.Mem.tail _ (List.Mem.tail _ (List.Mem.head _)))))), (List.forall_mem_cons.mpr ⟨(List.Mem.tail _ (List.Mem.tail _ (List.Mem.tail _ (List.Mem.tail _ (List.Mem.tail _ (List.Mem.tail _ (List.Mem.head _))))))), (fun _ hx => by cases hx)⟩)⟩)⟩)⟩)⟩)⟩) ?_
                have e1 : inM h o m (b + 1) = (((0 : Nat) : Int), (h 194 ((204 + (3 * b)) + 2))) := by
                  simp only [inM]
                  rw [if_pos ⟨by omega, by omega, by omega⟩, if_neg (by omega)]
                  rfl
                rw [show (((0 : Nat) : Int) : Int) = (inM h o m (b + 1)).1 from by rw [e1], show ((h 194 ((204 + (3 * b)) + 2)) : Int) = (inM h o m (b + 1)).2 from by rw [e1]]
                exact ih (b + 1) (by omega)
              · have f67 : ¬ ((h 194 ((204 + (3 * b)) + 1)) ≠ ((1 : Nat) : Int)) := e
                refine w_pl (pc' := 82) (lv' := [(6, (0, (((204 + (3 * b)) : Nat) : Int))), (5, (0, ((b : Nat) : Int))), (4, (0, ((inM h o m b).2))), (3, (0, ((inM h o m b).1))), (0, (2, ((193 : Nat) : Int))), (1, (0, (o))), (2, (0, (m)))]) (st' := [(0, ((1 : Nat) : Int))]) (h' := h) (o196_48 hB) rfl ?_
                refine w_goto (pt := 86) (o196_49 hB) (by decide) ?_
                refine w_st (tg := 0) (j := 3) (len := 1) (pc' := 87) (lv' := [(3, (0, ((1 : Nat) : Int))), (6, (0, (((204 + (3 * b)) : Nat) : Int))), (5, (0, ((b : Nat) : Int))), (4, (0, ((inM h o m b).2))), (0, (2, ((193 : Nat) : Int))), (1, (0, (o))), (2, (0, (m)))]) (o196_51 hB) rfl rfl ml196 (by decide) rfl ?_
                refine w_pl (pc' := 88) (lv' := [(3, (0, ((1 : Nat) : Int))), (6, (0, (((204 + (3 * b)) : Nat) : Int))), (5, (0, ((b : Nat) : Int))), (4, (0, ((inM h o m b).2))), (0, (2, ((193 : Nat) : Int))), (1, (0, (o))), (2, (0, (m)))]) (st' := [(2, ((193 : Nat) : Int))]) (h' := h) (o196_52 hB) rfl ?_
                refine w_getf (A := 193) (t := 2) (z := ((194 : Nat) : Int)) (pc' := 91) (o196_53 hB) rfl (by decide +kernel) (hR (193, 0, 194) (by decide)) ?_
                refine w_pl (pc' := 93) (lv' := [(3, (0, ((1 : Nat) : Int))), (6, (0, (((204 + (3 * b)) : Nat) : Int))), (5, (0, ((b : Nat) : Int))), (4, (0, ((inM h o m b).2))), (0, (2, ((193 : Nat) : Int))), (1, (0, (o))), (2, (0, (m)))]) (st' := [(0, (((204 + (3 * b)) : Nat) : Int)), (2, ((194 : Nat) : Int))]) (h' := h) (o196_54 hB) rfl ?_
                refine w_pl (pc' := 94) (lv' := [(3, (0, ((1 : Nat) : Int))), (6, (0, (((204 + (3 * b)) : Nat) : Int))), (5, (0, ((b : Nat) : Int))), (4, (0, ((inM h o m b).2))), (0, (2, ((193 : Nat) : Int))), (1, (0, (o))), (2, (0, (m)))]) (st' := [(0, ((2 : Nat) : Int)), (0, (((204 + (3 * b)) : Nat) : Int)), (2, ((194 : Nat) : Int))]) (h' := h) (o196_55 hB) rfl ?_
                refine w_iadd (z := ((((204 + (3 * b)) + 2) : Nat) : Int)) (pc' := 95) (o196_56 hB) rfl (w32_e (by omega) (by omega)) ?_
                have f68 := ty_194_s206 ht (j := ((204 + (3 * b)) + 2)) (r := b) (by omega) (by omega)
                refine w_iald (A := 194) (i := ((204 + (3 * b)) + 2)) (n := 1984) (z := (h 194 ((204 + (3 * b)) + 2))) (pc' := 96) (o196_57 hB) rfl (by decide +kernel) (by omega) rfl ?_
                refine w_st (tg := 0) (j := 4) (len := 2) (pc' := 98) (lv' := [(4, (0, (h 194 ((204 + (3 * b)) + 2)))), (3, (0, ((1 : Nat) : Int))), (6, (0, (((204 + (3 * b)) : Nat) : Int))), (5, (0, ((b : Nat) : Int))), (0, (2, ((193 : Nat) : Int))), (1, (0, (o))), (2, (0, (m)))]) (o196_58 hB) rfl rfl ml196 (by decide) rfl ?_
                refine w_iinc (x := ((b : Nat) : Int)) (z := (((b + 1) : Nat) : Int)) (pc' := 101) (lv' := [(5, (0, (((b + 1) : Nat) : Int))), (4, (0, (h 194 ((204 + (3 * b)) + 2)))), (3, (0, ((1 : Nat) : Int))), (6, (0, (((204 + (3 * b)) : Nat) : Int))), (0, (2, ((193 : Nat) : Int))), (1, (0, (o))), (2, (0, (m)))]) (o196_59 hB) rfl rfl ml196 (by decide) (w32_e (by omega) (by omega)) rfl ?_
                refine w_goto (pt := 8) (o196_60 hB) (by decide) ?_
                refine w_sub (lv' := [(5, (0, (((b + 1) : Nat) : Int))), (4, (0, (h 194 ((204 + (3 * b)) + 2)))), (3, (0, ((1 : Nat) : Int))), (0, (2, ((193 : Nat) : Int))), (1, (0, (o))), (2, (0, (m)))]) (List.forall_mem_cons.mpr ⟨(List.Mem.head _), (List.forall_mem_cons.mpr ⟨(List.Mem.tail _ (List.Mem.head _)), (List.forall_mem_cons.mpr ⟨(List.Mem.tail _ (List.Mem.tail _ (List.Mem.head _))), (List.forall_mem_cons.mpr ⟨(List.Mem.tail _ (List.Mem.tail _ (List.Mem.tail _ (List.Mem.tail _ (List.Mem.head _))))), (List.forall_mem_cons.mpr ⟨(List.Mem.tail _ (List.Mem.tail _ (List.Mem.tail _ (List.Mem.tail _ (List.Mem.tail _ (List.Mem.head _)))))), (List.forall_mem_cons.mpr ⟨(List.Mem.tail _ (List.Mem.tail _ (List.Mem.tail _ (List.Mem.tail _ (List.Mem.tail _ (List.Mem.tail _ (List.Mem.head _))))))), (fun _ hx => by cases hx)⟩)⟩)⟩)⟩)⟩)⟩) ?_
                have e1 : inM h o m (b + 1) = (((1 : Nat) : Int), (h 194 ((204 + (3 * b)) + 2))) := by
                  simp only [inM]
                  rw [if_pos ⟨by omega, by omega, by omega⟩, if_pos (by omega)]
                  rfl
                rw [show (((1 : Nat) : Int) : Int) = (inM h o m (b + 1)).1 from by rw [e1], show ((h 194 ((204 + (3 * b)) + 2)) : Int) = (inM h o m (b + 1)).2 from by rw [e1]]
                exact ih (b + 1) (by omega)
  refine mh_go hB mg196 ml196 (Nat.le_of_ble_eq_true rfl) ?_
  show HW g l d 196 _ _ 0 [(0, (2, ((193 : Nat) : Int))), (1, (0, (o))), (2, (0, (m)))] [] h
  refine w_pl (pc' := 1) (lv' := [(0, (2, ((193 : Nat) : Int))), (1, (0, (o))), (2, (0, (m)))]) (st' := [(0, ((0 : Nat) : Int))]) (h' := h) (o196_0 hB) rfl ?_
  refine w_st (tg := 0) (j := 3) (len := 1) (pc' := 2) (lv' := [(3, (0, ((0 : Nat) : Int))), (0, (2, ((193 : Nat) : Int))), (1, (0, (o))), (2, (0, (m)))]) (o196_1 hB) rfl rfl ml196 (by decide) rfl ?_
  refine w_pl (pc' := 3) (lv' := [(3, (0, ((0 : Nat) : Int))), (0, (2, ((193 : Nat) : Int))), (1, (0, (o))), (2, (0, (m)))]) (st' := [(0, (-1))]) (h' := h) (o196_2 hB) rfl ?_
  refine w_st (tg := 0) (j := 4) (len := 2) (pc' := 5) (lv' := [(4, (0, (-1))), (3, (0, ((0 : Nat) : Int))), (0, (2, ((193 : Nat) : Int))), (1, (0, (o))), (2, (0, (m)))]) (o196_3 hB) rfl rfl ml196 (by decide) rfl ?_
  refine w_pl (pc' := 6) (lv' := [(4, (0, (-1))), (3, (0, ((0 : Nat) : Int))), (0, (2, ((193 : Nat) : Int))), (1, (0, (o))), (2, (0, (m)))]) (st' := [(0, ((0 : Nat) : Int))]) (h' := h) (o196_4 hB) rfl ?_
  refine w_st (tg := 0) (j := 5) (len := 2) (pc' := 8) (lv' := [(5, (0, ((0 : Nat) : Int))), (4, (0, (-1))), (3, (0, ((0 : Nat) : Int))), (0, (2, ((193 : Nat) : Int))), (1, (0, (o))), (2, (0, (m)))]) (o196_5 hB) rfl rfl ml196 (by decide) rfl ?_
  refine w_sub (lv' := [(5, (0, ((0 : Nat) : Int))), (4, (0, (-1))), (3, (0, ((0 : Nat) : Int))), (0, (2, ((193 : Nat) : Int))), (1, (0, (o))), (2, (0, (m)))]) (List.forall_mem_cons.mpr ⟨(List.Mem.head _), (List.forall_mem_cons.mpr ⟨(List.Mem.tail _ (List.Mem.head _)), (List.forall_mem_cons.mpr ⟨(List.Mem.tail _ (List.Mem.tail _ (List.Mem.head _))), (List.forall_mem_cons.mpr ⟨(List.Mem.tail _ (List.Mem.tail _ (List.Mem.tail _ (List.Mem.head _)))), (List.forall_mem_cons.mpr ⟨(List.Mem.tail _ (List.Mem.tail _ (List.Mem.tail _ (List.Mem.tail _ (List.Mem.head _))))), (List.forall_mem_cons.mpr ⟨(List.Mem.tail _ (List.Mem.tail _ (List.Mem.tail _ (List.Mem.tail _ (List.Mem.tail _ (List.Mem.head _)))))), (fun _ hx => by cases hx)⟩)⟩)⟩)⟩)⟩)⟩) ?_
  exact loop c 0 (by omega)
theorem m_withBit (hB : BytesOK) {g : bG} {l : Launch} {d : Nat} {Q : bQ} {h : bH} {x i s : Int} (h1 : s ≠ 0 → Q (some (0, orI x (shlI 1 i))) h) (h0 : s = 0 → Q (some (0, andI x (xorI (shlI 1 i) (-1)))) h) : MH g l d 49 212 212 [(0, x), (0, i), (0, s)] h Q := by
  refine mh_go hB mg49 ml49 (Nat.le_of_ble_eq_true rfl) ?_
  show HW g l d 49 _ _ 0 [(0, (0, (x))), (1, (0, (i))), (2, (0, (s)))] [] h
  refine w_pl (pc' := 1) (lv' := [(0, (0, (x))), (1, (0, (i))), (2, (0, (s)))]) (st' := [(0, (s))]) (h' := h) (o49_0 hB) rfl ?_
  refine w_ifc (pt := 12) (pf := 4) (o49_1 hB) (by decide) rfl (fun e => ?_) (fun e => ?_)
  · have f69 : ((s) = (0)) := e
    refine w_pl (pc' := 13) (lv' := [(0, (0, (x))), (1, (0, (i))), (2, (0, (s)))]) (st' := [(0, (x))]) (h' := h) (o49_8 hB) rfl ?_
    refine w_pl (pc' := 14) (lv' := [(0, (0, (x))), (1, (0, (i))), (2, (0, (s)))]) (st' := [(0, ((1 : Nat) : Int)), (0, (x))]) (h' := h) (o49_9 hB) rfl ?_
    refine w_pl (pc' := 15) (lv' := [(0, (0, (x))), (1, (0, (i))), (2, (0, (s)))]) (st' := [(0, (i)), (0, ((1 : Nat) : Int)), (0, (x))]) (h' := h) (o49_10 hB) rfl ?_
    refine w_ishl (z := (shlI 1 (i))) (pc' := 16) (o49_11 hB) rfl rfl ?_
    refine w_pl (pc' := 17) (lv' := [(0, (0, (x))), (1, (0, (i))), (2, (0, (s)))]) (st' := [(0, (-1)), (0, (shlI 1 (i))), (0, (x))]) (h' := h) (o49_12 hB) rfl ?_
    refine w_ixor (z := (xorI (shlI 1 (i)) (-1))) (pc' := 18) (o49_13 hB) rfl rfl ?_
    refine w_iand (z := (andI (x) (xorI (shlI 1 (i)) (-1)))) (pc' := 19) (o49_14 hB) rfl rfl ?_
    exact w_iret (o49_15 hB) mr49 (andI_in _ _) (h0 (by omega))
  · have f70 : ¬ ((s) = (0)) := e
    refine w_pl (pc' := 5) (lv' := [(0, (0, (x))), (1, (0, (i))), (2, (0, (s)))]) (st' := [(0, (x))]) (h' := h) (o49_2 hB) rfl ?_
    refine w_pl (pc' := 6) (lv' := [(0, (0, (x))), (1, (0, (i))), (2, (0, (s)))]) (st' := [(0, ((1 : Nat) : Int)), (0, (x))]) (h' := h) (o49_3 hB) rfl ?_
    refine w_pl (pc' := 7) (lv' := [(0, (0, (x))), (1, (0, (i))), (2, (0, (s)))]) (st' := [(0, (i)), (0, ((1 : Nat) : Int)), (0, (x))]) (h' := h) (o49_4 hB) rfl ?_
    refine w_ishl (z := (shlI 1 (i))) (pc' := 8) (o49_5 hB) rfl rfl ?_
    refine w_ior (z := (orI (x) (shlI 1 (i)))) (pc' := 9) (o49_6 hB) rfl rfl ?_
    refine w_goto (pt := 19) (o49_7 hB) (by decide) ?_
    exact w_iret (o49_15 hB) mr49 (orI_in _ _) (h1 (by omega))
theorem m_isMakerM (hB : BytesOK) {g : bG} {l : Launch} {d : Nat} {Q : bQ} {h : bH} {x : Int} (h1 : 0 ≤ x ∧ x ≤ 5 → Q (some (0, 1)) h) (h0 : ¬ (0 ≤ x ∧ x ≤ 5) → Q (some (0, 0)) h) : MH g l (d + 1) 187 212 212 [(0, x)] h Q := by
  refine mh_go hB mg187 ml187 (Nat.le_of_ble_eq_true rfl) ?_
  show HW g l (d + 1) 187 _ _ 0 [(0, (0, (x)))] [] h
  refine w_pl (pc' := 1) (lv' := [(0, (0, (x)))]) (st' := [(0, (x))]) (h' := h) (o187_0 hB) rfl ?_
  refine w_pl (pc' := 2) (lv' := [(0, (0, (x)))]) (st' := [(0, ((0 : Nat) : Int)), (0, (x))]) (h' := h) (o187_1 hB) rfl ?_
  refine w_pl (pc' := 3) (lv' := [(0, (0, (x)))]) (st' := [(0, ((5 : Nat) : Int)), (0, ((0 : Nat) : Int)), (0, (x))]) (h' := h) (o187_2 hB) rfl ?_
  refine w_callS (as := [(0, (x)), (0, ((0 : Nat) : Int)), (0, ((5 : Nat) : Int))]) (rest := []) (n := 3) (pc' := 6) hB (o187_3 hB) rfl (by decide +kernel) rfl rfl (Nat.le_of_ble_eq_true rfl) (m_in hB (fun f71 => ?_) (fun f72 => ?_))
  · show HW g l _ 187 _ _ 6 [(0, (0, (x)))] [(0, ((1 : Nat) : Int))] h
    exact w_zret (o187_4 hB) mr187 (by decide) (h1 (by omega))
  · show HW g l _ 187 _ _ 6 [(0, (0, (x)))] [(0, ((0 : Nat) : Int))] h
    exact w_zret (o187_4 hB) mr187 (by decide) (h0 (by omega))
theorem m_isMakerB (hB : BytesOK) {g : bG} {l : Launch} {d : Nat} {Q : bQ} {h : bH} {x : Int} (h1 : 0 ≤ x ∧ x ≤ 5 → Q (some (0, 1)) h) (h0 : ¬ (0 ≤ x ∧ x ≤ 5) → Q (some (0, 0)) h) : MH g l d 173 212 212 [(0, x)] h Q := by
  refine mh_go hB mg173 ml173 (Nat.le_of_ble_eq_true rfl) ?_
  show HW g l d 173 _ _ 0 [(0, (0, (x)))] [] h
  refine w_pl (pc' := 1) (lv' := [(0, (0, (x)))]) (st' := [(0, (x))]) (h' := h) (o173_0 hB) rfl ?_
  refine w_ifc (pt := 14) (pf := 4) (o173_1 hB) (by decide) rfl (fun e => ?_) (fun e => ?_)
  · have f73 : ((x) < (0)) := e
    refine w_pl (pc' := 15) (lv' := [(0, (0, (x)))]) (st' := [(0, ((0 : Nat) : Int))]) (h' := h) (o173_7 hB) rfl ?_
    exact w_zret (o173_8 hB) mr173 (by decide) (h0 (by omega))
  · have f74 : ¬ ((x) < (0)) := e
    refine w_pl (pc' := 5) (lv' := [(0, (0, (x)))]) (st' := [(0, (x))]) (h' := h) (o173_2 hB) rfl ?_
    refine w_pl (pc' := 7) (lv' := [(0, (0, (x)))]) (st' := [(0, ((6 : Nat) : Int)), (0, (x))]) (h' := h) (o173_3 hB) rfl ?_
    refine w_icmp (pt := 14) (pf := 10) (o173_4 hB) (by decide) rfl (fun e => ?_) (fun e => ?_)
    · have f75 : (((6 : Nat) : Int) ≤ (x)) := e
      refine w_pl (pc' := 15) (lv' := [(0, (0, (x)))]) (st' := [(0, ((0 : Nat) : Int))]) (h' := h) (o173_7 hB) rfl ?_
      exact w_zret (o173_8 hB) mr173 (by decide) (h0 (by omega))
    · have f76 : ¬ (((6 : Nat) : Int) ≤ (x)) := e
      refine w_pl (pc' := 11) (lv' := [(0, (0, (x)))]) (st' := [(0, ((1 : Nat) : Int))]) (h' := h) (o173_5 hB) rfl ?_
      refine w_goto (pt := 15) (o173_6 hB) (by decide) ?_
      exact w_zret (o173_8 hB) mr173 (by decide) (h1 (by omega))
theorem m_setMachine (hB : BytesOK) {g : bG} {l : Launch} {d : Nat} {Q : bQ} {h : bH} {mk dg : Int} (ht : TH h) (z_mk : in32 mk) (z_dg : in32 dg) {ov : Int} (hov : h 32 (mk.toNat) = ov)  (a0 : ¬ ((0 ≤ mk ∧ mk ≤ 5) ∧ (0 ≤ dg ∧ dg ≤ 333333) ∧ dg % 10 ≤ 3 ∧ dg / 10 % 10 ≤ 3 ∧ dg / 10 / 10 % 10 ≤ 3 ∧ dg / 10 / 10 / 10 % 10 ≤ 3 ∧ dg / 10 / 10 / 10 / 10 % 10 ≤ 3 ∧ dg / 10 / 10 / 10 / 10 / 10 % 10 ≤ 3) → Q (some (0, (-1))) h) (a1 : (0 ≤ mk ∧ mk ≤ 5) ∧ (0 ≤ dg ∧ dg ≤ 333333) ∧ dg % 10 ≤ 3 ∧ dg / 10 % 10 ≤ 3 ∧ dg / 10 / 10 % 10 ≤ 3 ∧ dg / 10 / 10 / 10 % 10 ≤ 3 ∧ dg / 10 / 10 / 10 / 10 % 10 ≤ 3 ∧ dg / 10 / 10 / 10 / 10 / 10 % 10 ≤ 3 → Q (some (0, ov)) (hup h 32 ((mk.toNat)) (dg))) : MH g l (d + 1) 75 212 212 [(2, ((30 : Nat) : Int)), (0, (mk)), (0, (dg))] h Q := by
  have hR := ht.r
  have z0_mk := z_mk
  have z0_dg := z_dg
  unfold in32 at z0_mk
  unfold in32 at z0_dg
  rcases (by omega : ¬ (0 ≤ mk ∧ mk ≤ 5) ∨ (0 ≤ mk ∧ mk ≤ 5)) with gg | gg
  · skip
    refine mh_go hB mg75 ml75 (Nat.le_of_ble_eq_true rfl) ?_
    show HW g l (d + 1) 75 _ _ 0 [(0, (2, ((30 : Nat) : Int))), (1, (0, (mk))), (2, (0, (dg)))] [] h
    refine w_pl (pc' := 1) (lv' := [(0, (2, ((30 : Nat) : Int))), (1, (0, (mk))), (2, (0, (dg)))]) (st' := [(0, (mk))]) (h' := h) (o75_0 hB) rfl ?_
    refine w_callS (as := [(0, (mk))]) (rest := []) (n := 1) (pc' := 4) hB (o75_1 hB) rfl (by decide +kernel) rfl rfl (Nat.le_of_ble_eq_true rfl) (m_isMakerB hB (fun f117 => ?_) (fun f118 => ?_))
    · exfalso; omega
    · show HW g l _ 75 _ _ 4 [(0, (2, ((30 : Nat) : Int))), (1, (0, (mk))), (2, (0, (dg)))] [(0, ((0 : Nat) : Int))] h
      refine w_ifc (pt := 17) (pf := 7) (o75_2 hB) (by decide) rfl (fun e => ?_) (fun e => ?_)
      · have f119 : (((0 : Nat) : Int) = (0)) := e
        refine w_pl (pc' := 18) (lv' := [(0, (2, ((30 : Nat) : Int))), (1, (0, (mk))), (2, (0, (dg)))]) (st' := [(0, (-1))]) (h' := h) (o75_8 hB) rfl ?_
        exact w_iret (o75_9 hB) mr75 (by unfold in32; omega) (a0 (by omega))
      · have f120 : ¬ (((0 : Nat) : Int) = (0)) := e
        exfalso; omega
  · obtain ⟨m', e_m⟩ : ∃ q : Nat, mk = q := ⟨mk.toNat, by omega⟩
    subst e_m
    simp only [Int.toNat_natCast] at hov a1
    have r_ov := ty_32_s0 ht (j := m') (r := m') (by omega) (by omega)
    rw [hov] at r_ov
    refine mh_go hB mg75 ml75 (Nat.le_of_ble_eq_true rfl) ?_
    show HW g l (d + 1) 75 _ _ 0 [(0, (2, ((30 : Nat) : Int))), (1, (0, ((m' : Nat) : Int))), (2, (0, (dg)))] [] h
    refine w_pl (pc' := 1) (lv' := [(0, (2, ((30 : Nat) : Int))), (1, (0, ((m' : Nat) : Int))), (2, (0, (dg)))]) (st' := [(0, ((m' : Nat) : Int))]) (h' := h) (o75_0 hB) rfl ?_
    refine w_callS (as := [(0, ((m' : Nat) : Int))]) (rest := []) (n := 1) (pc' := 4) hB (o75_1 hB) rfl (by decide +kernel) rfl rfl (Nat.le_of_ble_eq_true rfl) (m_isMakerB hB (fun f121 => ?_) (fun f122 => ?_))
    · show HW g l _ 75 _ _ 4 [(0, (2, ((30 : Nat) : Int))), (1, (0, ((m' : Nat) : Int))), (2, (0, (dg)))] [(0, ((1 : Nat) : Int))] h
      refine w_ifc (pt := 17) (pf := 7) (o75_2 hB) (by decide) rfl (fun e => ?_) (fun e => ?_)
      · have f123 : (((1 : Nat) : Int) = (0)) := e
        exfalso; omega
      · have f124 : ¬ (((1 : Nat) : Int) = (0)) := e
        refine w_pl (pc' := 8) (lv' := [(0, (2, ((30 : Nat) : Int))), (1, (0, ((m' : Nat) : Int))), (2, (0, (dg)))]) (st' := [(0, (dg))]) (h' := h) (o75_3 hB) rfl ?_
        refine w_ifc (pt := 17) (pf := 11) (o75_4 hB) (by decide) rfl (fun e => ?_) (fun e => ?_)
        · have f125 : ((dg) < (0)) := e
          refine w_pl (pc' := 18) (lv' := [(0, (2, ((30 : Nat) : Int))), (1, (0, ((m' : Nat) : Int))), (2, (0, (dg)))]) (st' := [(0, (-1))]) (h' := h) (o75_8 hB) rfl ?_
          exact w_iret (o75_9 hB) mr75 (by unfold in32; omega) (a0 (by omega))
        · have f126 : ¬ ((dg) < (0)) := e
          refine w_pl (pc' := 12) (lv' := [(0, (2, ((30 : Nat) : Int))), (1, (0, ((m' : Nat) : Int))), (2, (0, (dg)))]) (st' := [(0, (dg))]) (h' := h) (o75_5 hB) rfl ?_
          refine w_pl (pc' := 14) (lv' := [(0, (2, ((30 : Nat) : Int))), (1, (0, ((m' : Nat) : Int))), (2, (0, (dg)))]) (st' := [(0, ((333333 : Nat) : Int)), (0, (dg))]) (h' := h) (o75_6 hB) rfl ?_
          refine w_icmp (pt := 19) (pf := 17) (o75_7 hB) (by decide) rfl (fun e => ?_) (fun e => ?_)
          · have f127 : ((dg) ≤ ((333333 : Nat) : Int)) := e
            refine w_pl (pc' := 20) (lv' := [(0, (2, ((30 : Nat) : Int))), (1, (0, ((m' : Nat) : Int))), (2, (0, (dg)))]) (st' := [(0, (dg))]) (h' := h) (o75_10 hB) rfl ?_
            refine w_st (tg := 0) (j := 3) (len := 1) (pc' := 21) (lv' := [(3, (0, (dg))), (0, (2, ((30 : Nat) : Int))), (1, (0, ((m' : Nat) : Int))), (2, (0, (dg)))]) (o75_11 hB) rfl rfl ml75 (by decide) rfl ?_
            refine w_pl (pc' := 22) (lv' := [(3, (0, (dg))), (0, (2, ((30 : Nat) : Int))), (1, (0, ((m' : Nat) : Int))), (2, (0, (dg)))]) (st' := [(0, ((0 : Nat) : Int))]) (h' := h) (o75_12 hB) rfl ?_
            refine w_st (tg := 0) (j := 4) (len := 2) (pc' := 24) (lv' := [(4, (0, ((0 : Nat) : Int))), (3, (0, (dg))), (0, (2, ((30 : Nat) : Int))), (1, (0, ((m' : Nat) : Int))), (2, (0, (dg)))]) (o75_13 hB) rfl rfl ml75 (by decide) rfl ?_
            refine w_pl (pc' := 26) (lv' := [(4, (0, ((0 : Nat) : Int))), (3, (0, (dg))), (0, (2, ((30 : Nat) : Int))), (1, (0, ((m' : Nat) : Int))), (2, (0, (dg)))]) (st' := [(0, ((0 : Nat) : Int))]) (h' := h) (o75_14 hB) rfl ?_
            refine w_pl (pc' := 28) (lv' := [(4, (0, ((0 : Nat) : Int))), (3, (0, (dg))), (0, (2, ((30 : Nat) : Int))), (1, (0, ((m' : Nat) : Int))), (2, (0, (dg)))]) (st' := [(0, ((6 : Nat) : Int)), (0, ((0 : Nat) : Int))]) (h' := h) (o75_15 hB) rfl ?_
            refine w_icmp (pt := 52) (pf := 31) (o75_16 hB) (by decide) rfl (fun e => ?_) (fun e => ?_)
            · have f128 : (((6 : Nat) : Int) ≤ ((0 : Nat) : Int)) := e
              exfalso; omega
            · have f129 : ¬ (((6 : Nat) : Int) ≤ ((0 : Nat) : Int)) := e
              refine w_pl (pc' := 32) (lv' := [(4, (0, ((0 : Nat) : Int))), (3, (0, (dg))), (0, (2, ((30 : Nat) : Int))), (1, (0, ((m' : Nat) : Int))), (2, (0, (dg)))]) (st' := [(0, (dg))]) (h' := h) (o75_17 hB) rfl ?_
              refine w_pl (pc' := 34) (lv' := [(4, (0, ((0 : Nat) : Int))), (3, (0, (dg))), (0, (2, ((30 : Nat) : Int))), (1, (0, ((m' : Nat) : Int))), (2, (0, (dg)))]) (st' := [(0, ((10 : Nat) : Int)), (0, (dg))]) (h' := h) (o75_18 hB) rfl ?_
              refine w_irem (z := ((dg) % 10)) (pc' := 35) (o75_19 hB) rfl (remI_p (by omega) (by decide)) ?_
              refine w_pl (pc' := 36) (lv' := [(4, (0, ((0 : Nat) : Int))), (3, (0, (dg))), (0, (2, ((30 : Nat) : Int))), (1, (0, ((m' : Nat) : Int))), (2, (0, (dg)))]) (st' := [(0, ((3 : Nat) : Int)), (0, ((dg) % 10))]) (h' := h) (o75_20 hB) rfl ?_
              refine w_icmp (pt := 41) (pf := 39) (o75_21 hB) (by decide) rfl (fun e => ?_) (fun e => ?_)
              · have f130 : (((dg) % 10) ≤ ((3 : Nat) : Int)) := e
                refine w_pl (pc' := 42) (lv' := [(4, (0, ((0 : Nat) : Int))), (3, (0, (dg))), (0, (2, ((30 : Nat) : Int))), (1, (0, ((m' : Nat) : Int))), (2, (0, (dg)))]) (st' := [(0, (dg))]) (h' := h) (o75_24 hB) rfl ?_
                refine w_pl (pc' := 44) (lv' := [(4, (0, ((0 : Nat) : Int))), (3, (0, (dg))), (0, (2, ((30 : Nat) : Int))), (1, (0, ((m' : Nat) : Int))), (2, (0, (dg)))]) (st' := [(0, ((10 : Nat) : Int)), (0, (dg))]) (h' := h) (o75_25 hB) rfl ?_
                refine w_idiv (z := ((dg) / 10)) (pc' := 45) (o75_26 hB) rfl (divI_p (by omega) (by omega) (by decide)) ?_
                refine w_st (tg := 0) (j := 3) (len := 1) (pc' := 46) (lv' := [(3, (0, ((dg) / 10))), (4, (0, ((0 : Nat) : Int))), (0, (2, ((30 : Nat) : Int))), (1, (0, ((m' : Nat) : Int))), (2, (0, (dg)))]) (o75_27 hB) rfl rfl ml75 (by decide) rfl ?_
                refine w_iinc (x := ((0 : Nat) : Int)) (z := ((1 : Nat) : Int)) (pc' := 49) (lv' := [(4, (0, ((1 : Nat) : Int))), (3, (0, ((dg) / 10))), (0, (2, ((30 : Nat) : Int))), (1, (0, ((m' : Nat) : Int))), (2, (0, (dg)))]) (o75_28 hB) rfl rfl ml75 (by decide) (w32_e (by omega) (by omega)) rfl ?_
                refine w_goto (pt := 24) (o75_29 hB) (by decide) ?_
                refine w_pl (pc' := 26) (lv' := [(4, (0, ((1 : Nat) : Int))), (3, (0, ((dg) / 10))), (0, (2, ((30 : Nat) : Int))), (1, (0, ((m' : Nat) : Int))), (2, (0, (dg)))]) (st' := [(0, ((1 : Nat) : Int))]) (h' := h) (o75_14 hB) rfl ?_
                refine w_pl (pc' := 28) (lv' := [(4, (0, ((1 : Nat) : Int))), (3, (0, ((dg) / 10))), (0, (2, ((30 : Nat) : Int))), (1, (0, ((m' : Nat) : Int))), (2, (0, (dg)))]) (st' := [(0, ((6 : Nat) : Int)), (0, ((1 : Nat) : Int))]) (h' := h) (o75_15 hB) rfl ?_
                refine w_icmp (pt := 52) (pf := 31) (o75_16 hB) (by decide) rfl (fun e => ?_) (fun e => ?_)
                · have f131 : (((6 : Nat) : Int) ≤ ((1 : Nat) : Int)) := e
                  exfalso; omega
                · have f132 : ¬ (((6 : Nat) : Int) ≤ ((1 : Nat) : Int)) := e
                  refine w_pl (pc' := 32) (lv' := [(4, (0, ((1 : Nat) : Int))), (3, (0, ((dg) / 10))), (0, (2, ((30 : Nat) : Int))), (1, (0, ((m' : Nat) : Int))), (2, (0, (dg)))]) (st' := [(0, ((dg) / 10))]) (h' := h) (o75_17 hB) rfl ?_
                  refine w_pl (pc' := 34) (lv' := [(4, (0, ((1 : Nat) : Int))), (3, (0, ((dg) / 10))), (0, (2, ((30 : Nat) : Int))), (1, (0, ((m' : Nat) : Int))), (2, (0, (dg)))]) (st' := [(0, ((10 : Nat) : Int)), (0, ((dg) / 10))]) (h' := h) (o75_18 hB) rfl ?_
                  refine w_irem (z := (((dg) / 10) % 10)) (pc' := 35) (o75_19 hB) rfl (remI_p (by omega) (by decide)) ?_
                  refine w_pl (pc' := 36) (lv' := [(4, (0, ((1 : Nat) : Int))), (3, (0, ((dg) / 10))), (0, (2, ((30 : Nat) : Int))), (1, (0, ((m' : Nat) : Int))), (2, (0, (dg)))]) (st' := [(0, ((3 : Nat) : Int)), (0, (((dg) / 10) % 10))]) (h' := h) (o75_20 hB) rfl ?_
                  refine w_icmp (pt := 41) (pf := 39) (o75_21 hB) (by decide) rfl (fun e => ?_) (fun e => ?_)
                  · have f133 : ((((dg) / 10) % 10) ≤ ((3 : Nat) : Int)) := e
                    refine w_pl (pc' := 42) (lv' := [(4, (0, ((1 : Nat) : Int))), (3, (0, ((dg) / 10))), (0, (2, ((30 : Nat) : Int))), (1, (0, ((m' : Nat) : Int))), (2, (0, (dg)))]) (st' := [(0, ((dg) / 10))]) (h' := h) (o75_24 hB) rfl ?_
                    refine w_pl (pc' := 44) (lv' := [(4, (0, ((1 : Nat) : Int))), (3, (0, ((dg) / 10))), (0, (2, ((30 : Nat) : Int))), (1, (0, ((m' : Nat) : Int))), (2, (0, (dg)))]) (st' := [(0, ((10 : Nat) : Int)), (0, ((dg) / 10))]) (h' := h) (o75_25 hB) rfl ?_
                    refine w_idiv (z := (((dg) / 10) / 10)) (pc' := 45) (o75_26 hB) rfl (divI_p (by omega) (by omega) (by decide)) ?_
                    refine w_st (tg := 0) (j := 3) (len := 1) (pc' := 46) (lv' := [(3, (0, (((dg) / 10) / 10))), (4, (0, ((1 : Nat) : Int))), (0, (2, ((30 : Nat) : Int))), (1, (0, ((m' : Nat) : Int))), (2, (0, (dg)))]) (o75_27 hB) rfl rfl ml75 (by decide) rfl ?_
                    refine w_iinc (x := ((1 : Nat) : Int)) (z := ((2 : Nat) : Int)) (pc' := 49) (lv' := [(4, (0, ((2 : Nat) : Int))), (3, (0, (((dg) / 10) / 10))), (0, (2, ((30 : Nat) : Int))), (1, (0, ((m' : Nat) : Int))), (2, (0, (dg)))]) (o75_28 hB) rfl rfl ml75 (by decide) (w32_e (by omega) (by omega)) rfl ?_
                    refine w_goto (pt := 24) (o75_29 hB) (by decide) ?_
                    refine w_pl (pc' := 26) (lv' := [(4, (0, ((2 : Nat) : Int))), (3, (0, (((dg) / 10) / 10))), (0, (2, ((30 : Nat) : Int))), (1, (0, ((m' : Nat) : Int))), (2, (0, (dg)))]) (st' := [(0, ((2 : Nat) : Int))]) (h' := h) (o75_14 hB) rfl ?_
                    refine w_pl (pc' := 28) (lv' := [(4, (0, ((2 : Nat) : Int))), (3, (0, (((dg) / 10) / 10))), (0, (2, ((30 : Nat) : Int))), (1, (0, ((m' : Nat) : Int))), (2, (0, (dg)))]) (st' := [(0, ((6 : Nat) : Int)), (0, ((2 : Nat) : Int))]) (h' := h) (o75_15 hB) rfl ?_
                    refine w_icmp (pt := 52) (pf := 31) (o75_16 hB) (by decide) rfl (fun e => ?_) (fun e => ?_)
                    · have f134 : (((6 : Nat) : Int) ≤ ((2 : Nat) : Int)) := e
                      exfalso; omega
                    · have f135 : ¬ (((6 : Nat) : Int) ≤ ((2 : Nat) : Int)) := e
                      refine w_pl (pc' := 32) (lv' := [(4, (0, ((2 : Nat) : Int))), (3, (0, (((dg) / 10) / 10))), (0, (2, ((30 : Nat) : Int))), (1, (0, ((m' : Nat) : Int))), (2, (0, (dg)))]) (st' := [(0, (((dg) / 10) / 10))]) (h' := h) (o75_17 hB) rfl ?_
                      refine w_pl (pc' := 34) (lv' := [(4, (0, ((2 : Nat) : Int))), (3, (0, (((dg) / 10) / 10))), (0, (2, ((30 : Nat) : Int))), (1, (0, ((m' : Nat) : Int))), (2, (0, (dg)))]) (st' := [(0, ((10 : Nat) : Int)), (0, (((dg) / 10) / 10))]) (h' := h) (o75_18 hB) rfl ?_
                      refine w_irem (z := ((((dg) / 10) / 10) % 10)) (pc' := 35) (o75_19 hB) rfl (remI_p (by omega) (by decide)) ?_
                      refine w_pl (pc' := 36) (lv' := [(4, (0, ((2 : Nat) : Int))), (3, (0, (((dg) / 10) / 10))), (0, (2, ((30 : Nat) : Int))), (1, (0, ((m' : Nat) : Int))), (2, (0, (dg)))]) (st' := [(0, ((3 : Nat) : Int)), (0, ((((dg) / 10) / 10) % 10))]) (h' := h) (o75_20 hB) rfl ?_
                      refine w_icmp (pt := 41) (pf := 39) (o75_21 hB) (by decide) rfl (fun e => ?_) (fun e => ?_)
                      · have f136 : (((((dg) / 10) / 10) % 10) ≤ ((3 : Nat) : Int)) := e
                        refine w_pl (pc' := 42) (lv' := [(4, (0, ((2 : Nat) : Int))), (3, (0, (((dg) / 10) / 10))), (0, (2, ((30 : Nat) : Int))), (1, (0, ((m' : Nat) : Int))), (2, (0, (dg)))]) (st' := [(0, (((dg) / 10) / 10))]) (h' := h) (o75_24 hB) rfl ?_
                        refine w_pl (pc' := 44) (lv' := [(4, (0, ((2 : Nat) : Int))), (3, (0, (((dg) / 10) / 10))), (0, (2, ((30 : Nat) : Int))), (1, (0, ((m' : Nat) : Int))), (2, (0, (dg)))]) (st' := [(0, ((10 : Nat) : Int)), (0, (((dg) / 10) / 10))]) (h' := h) (o75_25 hB) rfl ?_
                        refine w_idiv (z := ((((dg) / 10) / 10) / 10)) (pc' := 45) (o75_26 hB) rfl (divI_p (by omega) (by omega) (by decide)) ?_
                        refine w_st (tg := 0) (j := 3) (len := 1) (pc' := 46) (lv' := [(3, (0, ((((dg) / 10) / 10) / 10))), (4, (0, ((2 : Nat) : Int))), (0, (2, ((30 : Nat) : Int))), (1, (0, ((m' : Nat) : Int))), (2, (0, (dg)))]) (o75_27 hB) rfl rfl ml75 (by decide) rfl ?_
                        refine w_iinc (x := ((2 : Nat) : Int)) (z := ((3 : Nat) : Int)) (pc' := 49) (lv' := [(4, (0, ((3 : Nat) : Int))), (3, (0, ((((dg) / 10) / 10) / 10))), (0, (2, ((30 : Nat) : Int))), (1, (0, ((m' : Nat) : Int))), (2, (0, (dg)))]) (o75_28 hB) rfl rfl ml75 (by decide) (w32_e (by omega) (by omega)) rfl ?_
                        refine w_goto (pt := 24) (o75_29 hB) (by decide) ?_
                        refine w_pl (pc' := 26) (lv' := [(4, (0, ((3 : Nat) : Int))), (3, (0, ((((dg) / 10) / 10) / 10))), (0, (2, ((30 : Nat) : Int))), (1, (0, ((m' : Nat) : Int))), (2, (0, (dg)))]) (st' := [(0, ((3 : Nat) : Int))]) (h' := h) (o75_14 hB) rfl ?_
                        refine w_pl (pc' := 28) (lv' := [(4, (0, ((3 : Nat) : Int))), (3, (0, ((((dg) / 10) / 10) / 10))), (0, (2, ((30 : Nat) : Int))), (1, (0, ((m' : Nat) : Int))), (2, (0, (dg)))]) (st' := [(0, ((6 : Nat) : Int)), (0, ((3 : Nat) : Int))]) (h' := h) (o75_15 hB) rfl ?_
                        refine w_icmp (pt := 52) (pf := 31) (o75_16 hB) (by decide) rfl (fun e => ?_) (fun e => ?_)
                        · have f137 : (((6 : Nat) : Int) ≤ ((3 : Nat) : Int)) := e
                          exfalso; omega
                        · have f138 : ¬ (((6 : Nat) : Int) ≤ ((3 : Nat) : Int)) := e
                          refine w_pl (pc' := 32) (lv' := [(4, (0, ((3 : Nat) : Int))), (3, (0, ((((dg) / 10) / 10) / 10))), (0, (2, ((30 : Nat) : Int))), (1, (0, ((m' : Nat) : Int))), (2, (0, (dg)))]) (st' := [(0, ((((dg) / 10) / 10) / 10))]) (h' := h) (o75_17 hB) rfl ?_
                          refine w_pl (pc' := 34) (lv' := [(4, (0, ((3 : Nat) : Int))), (3, (0, ((((dg) / 10) / 10) / 10))), (0, (2, ((30 : Nat) : Int))), (1, (0, ((m' : Nat) : Int))), (2, (0, (dg)))]) (st' := [(0, ((10 : Nat) : Int)), (0, ((((dg) / 10) / 10) / 10))]) (h' := h) (o75_18 hB) rfl ?_
                          refine w_irem (z := (((((dg) / 10) / 10) / 10) % 10)) (pc' := 35) (o75_19 hB) rfl (remI_p (by omega) (by decide)) ?_
                          refine w_pl (pc' := 36) (lv' := [(4, (0, ((3 : Nat) : Int))), (3, (0, ((((dg) / 10) / 10) / 10))), (0, (2, ((30 : Nat) : Int))), (1, (0, ((m' : Nat) : Int))), (2, (0, (dg)))]) (st' := [(0, ((3 : Nat) : Int)), (0, (((((dg) / 10) / 10) / 10) % 10))]) (h' := h) (o75_20 hB) rfl ?_
                          refine w_icmp (pt := 41) (pf := 39) (o75_21 hB) (by decide) rfl (fun e => ?_) (fun e => ?_)
                          · have f139 : ((((((dg) / 10) / 10) / 10) % 10) ≤ ((3 : Nat) : Int)) := e
                            refine w_pl (pc' := 42) (lv' := [(4, (0, ((3 : Nat) : Int))), (3, (0, ((((dg) / 10) / 10) / 10))), (0, (2, ((30 : Nat) : Int))), (1, (0, ((m' : Nat) : Int))), (2, (0, (dg)))]) (st' := [(0, ((((dg) / 10) / 10) / 10))]) (h' := h) (o75_24 hB) rfl ?_
                            refine w_pl (pc' := 44) (lv' := [(4, (0, ((3 : Nat) : Int))), (3, (0, ((((dg) / 10) / 10) / 10))), (0, (2, ((30 : Nat) : Int))), (1, (0, ((m' : Nat) : Int))), (2, (0, (dg)))]) (st' := [(0, ((10 : Nat) : Int)), (0, ((((dg) / 10) / 10) / 10))]) (h' := h) (o75_25 hB) rfl ?_
                            refine w_idiv (z := (((((dg) / 10) / 10) / 10) / 10)) (pc' := 45) (o75_26 hB) rfl (divI_p (by omega) (by omega) (by decide)) ?_
                            refine w_st (tg := 0) (j := 3) (len := 1) (pc' := 46) (lv' := [(3, (0, (((((dg) / 10) / 10) / 10) / 10))), (4, (0, ((3 : Nat) : Int))), (0, (2, ((30 : Nat) : Int))), (1, (0, ((m' : Nat) : Int))), (2, (0, (dg)))]) (o75_27 hB) rfl rfl ml75 (by decide) rfl ?_
                            refine w_iinc (x := ((3 : Nat) : Int)) (z := ((4 : Nat) : Int)) (pc' := 49) (lv' := [(4, (0, ((4 : Nat) : Int))), (3, (0, (((((dg) / 10) / 10) / 10) / 10))), (0, (2, ((30 : Nat) : Int))), (1, (0, ((m' : Nat) : Int))), (2, (0, (dg)))]) (o75_28 hB) rfl rfl ml75 (by decide) (w32_e (by omega) (by omega)) rfl ?_
                            refine w_goto (pt := 24) (o75_29 hB) (by decide) ?_
                            refine w_pl (pc' := 26) (lv' := [(4, (0, ((4 : Nat) : Int))), (3, (0, (((((dg) / 10) / 10) / 10) / 10))), (0, (2, ((30 : Nat) : Int))), (1, (0, ((m' : Nat) : Int))), (2, (0, (dg)))]) (st' := [(0, ((4 : Nat) : Int))]) (h' := h) (o75_14 hB) rfl ?_
                            refine w_pl (pc' := 28) (lv' := [(4, (0, ((4 : Nat) : Int))), (3, (0, (((((dg) / 10) / 10) / 10) / 10))), (0, (2, ((30 : Nat) : Int))), (1, (0, ((m' : Nat) : Int))), (2, (0, (dg)))]) (st' := [(0, ((6 : Nat) : Int)), (0, ((4 : Nat) : Int))]) (h' := h) (o75_15 hB) rfl ?_
                            refine w_icmp (pt := 52) (pf := 31) (o75_16 hB) (by decide) rfl (fun e => ?_) (fun e => ?_)
                            · have f140 : (((6 : Nat) : Int) ≤ ((4 : Nat) : Int)) := e
                              exfalso; omega
                            · have f141 : ¬ (((6 : Nat) : Int) ≤ ((4 : Nat) : Int)) := e
                              refine w_pl (pc' := 32) (lv' := [(4, (0, ((4 : Nat) : Int))), (3, (0, (((((dg) / 10) / 10) / 10) / 10))), (0, (2, ((30 : Nat) : Int))), (1, (0, ((m' : Nat) : Int))), (2, (0, (dg)))]) (st' := [(0, (((((dg) / 10) / 10) / 10) / 10))]) (h' := h) (o75_17 hB) rfl ?_
                              refine w_pl (pc' := 34) (lv' := [(4, (0, ((4 : Nat) : Int))), (3, (0, (((((dg) / 10) / 10) / 10) / 10))), (0, (2, ((30 : Nat) : Int))), (1, (0, ((m' : Nat) : Int))), (2, (0, (dg)))]) (st' := [(0, ((10 : Nat) : Int)), (0, (((((dg) / 10) / 10) / 10) / 10))]) (h' := h) (o75_18 hB) rfl ?_
                              refine w_irem (z := ((((((dg) / 10) / 10) / 10) / 10) % 10)) (pc' := 35) (o75_19 hB) rfl (remI_p (by omega) (by decide)) ?_
                              refine w_pl (pc' := 36) (lv' := [(4, (0, ((4 : Nat) : Int))), (3, (0, (((((dg) / 10) / 10) / 10) / 10))), (0, (2, ((30 : Nat) : Int))), (1, (0, ((m' : Nat) : Int))), (2, (0, (dg)))]) (st' := [(0, ((3 : Nat) : Int)), (0, ((((((dg) / 10) / 10) / 10) / 10) % 10))]) (h' := h) (o75_20 hB) rfl ?_
                              refine w_icmp (pt := 41) (pf := 39) (o75_21 hB) (by decide) rfl (fun e => ?_) (fun e => ?_)
                              · have f142 : (((((((dg) / 10) / 10) / 10) / 10) % 10) ≤ ((3 : Nat) : Int)) := e
                                refine w_pl (pc' := 42) (lv' := [(4, (0, ((4 : Nat) : Int))), (3, (0, (((((dg) / 10) / 10) / 10) / 10))), (0, (2, ((30 : Nat) : Int))), (1, (0, ((m' : Nat) : Int))), (2, (0, (dg)))]) (st' := [(0, (((((dg) / 10) / 10) / 10) / 10))]) (h' := h) (o75_24 hB) rfl ?_
                                refine w_pl (pc' := 44) (lv' := [(4, (0, ((4 : Nat) : Int))), (3, (0, (((((dg) / 10) / 10) / 10) / 10))), (0, (2, ((30 : Nat) : Int))), (1, (0, ((m' : Nat) : Int))), (2, (0, (dg)))]) (st' := [(0, ((10 : Nat) : Int)), (0, (((((dg) / 10) / 10) / 10) / 10))]) (h' := h) (o75_25 hB) rfl ?_
                                refine w_idiv (z := ((((((dg) / 10) / 10) / 10) / 10) / 10)) (pc' := 45) (o75_26 hB) rfl (divI_p (by omega) (by omega) (by decide)) ?_
                                refine w_st (tg := 0) (j := 3) (len := 1) (pc' := 46) (lv' := [(3, (0, ((((((dg) / 10) / 10) / 10) / 10) / 10))), (4, (0, ((4 : Nat) : Int))), (0, (2, ((30 : Nat) : Int))), (1, (0, ((m' : Nat) : Int))), (2, (0, (dg)))]) (o75_27 hB) rfl rfl ml75 (by decide) rfl ?_
                                refine w_iinc (x := ((4 : Nat) : Int)) (z := ((5 : Nat) : Int)) (pc' := 49) (lv' := [(4, (0, ((5 : Nat) : Int))), (3, (0, ((((((dg) / 10) / 10) / 10) / 10) / 10))), (0, (2, ((30 : Nat) : Int))), (1, (0, ((m' : Nat) : Int))), (2, (0, (dg)))]) (o75_28 hB) rfl rfl ml75 (by decide) (w32_e (by omega) (by omega)) rfl ?_
                                refine w_goto (pt := 24) (o75_29 hB) (by decide) ?_
                                refine w_pl (pc' := 26) (lv' := [(4, (0, ((5 : Nat) : Int))), (3, (0, ((((((dg) / 10) / 10) / 10) / 10) / 10))), (0, (2, ((30 : Nat) : Int))), (1, (0, ((m' : Nat) : Int))), (2, (0, (dg)))]) (st' := [(0, ((5 : Nat) : Int))]) (h' := h) (o75_14 hB) rfl ?_
                                refine w_pl (pc' := 28) (lv' := [(4, (0, ((5 : Nat) : Int))), (3, (0, ((((((dg) / 10) / 10) / 10) / 10) / 10))), (0, (2, ((30 : Nat) : Int))), (1, (0, ((m' : Nat) : Int))), (2, (0, (dg)))]) (st' := [(0, ((6 : Nat) : Int)), (0, ((5 : Nat) : Int))]) (h' := h) (o75_15 hB) rfl ?_
                                refine w_icmp (pt := 52) (pf := 31) (o75_16 hB) (by decide) rfl (fun e => ?_) (fun e => ?_)
                                · have f143 : (((6 : Nat) : Int) ≤ ((5 : Nat) : Int)) := e
                                  exfalso; omega
                                · have f144 : ¬ (((6 : Nat) : Int) ≤ ((5 : Nat) : Int)) := e
                                  refine w_pl (pc' := 32) (lv' := [(4, (0, ((5 : Nat) : Int))), (3, (0, ((((((dg) / 10) / 10) / 10) / 10) / 10))), (0, (2, ((30 : Nat) : Int))), (1, (0, ((m' : Nat) : Int))), (2, (0, (dg)))]) (st' := [(0, ((((((dg) / 10) / 10) / 10) / 10) / 10))]) (h' := h) (o75_17 hB) rfl ?_
                                  refine w_pl (pc' := 34) (lv' := [(4, (0, ((5 : Nat) : Int))), (3, (0, ((((((dg) / 10) / 10) / 10) / 10) / 10))), (0, (2, ((30 : Nat) : Int))), (1, (0, ((m' : Nat) : Int))), (2, (0, (dg)))]) (st' := [(0, ((10 : Nat) : Int)), (0, ((((((dg) / 10) / 10) / 10) / 10) / 10))]) (h' := h) (o75_18 hB) rfl ?_
                                  refine w_irem (z := (((((((dg) / 10) / 10) / 10) / 10) / 10) % 10)) (pc' := 35) (o75_19 hB) rfl (remI_p (by omega) (by decide)) ?_
                                  refine w_pl (pc' := 36) (lv' := [(4, (0, ((5 : Nat) : Int))), (3, (0, ((((((dg) / 10) / 10) / 10) / 10) / 10))), (0, (2, ((30 : Nat) : Int))), (1, (0, ((m' : Nat) : Int))), (2, (0, (dg)))]) (st' := [(0, ((3 : Nat) : Int)), (0, (((((((dg) / 10) / 10) / 10) / 10) / 10) % 10))]) (h' := h) (o75_20 hB) rfl ?_
                                  refine w_icmp (pt := 41) (pf := 39) (o75_21 hB) (by decide) rfl (fun e => ?_) (fun e => ?_)
                                  · have f145 : ((((((((dg) / 10) / 10) / 10) / 10) / 10) % 10) ≤ ((3 : Nat) : Int)) := e
                                    refine w_pl (pc' := 42) (lv' := [(4, (0, ((5 : Nat) : Int))), (3, (0, ((((((dg) / 10) / 10) / 10) / 10) / 10))), (0, (2, ((30 : Nat) : Int))), (1, (0, ((m' : Nat) : Int))), (2, (0, (dg)))]) (st' := [(0, ((((((dg) / 10) / 10) / 10) / 10) / 10))]) (h' := h) (o75_24 hB) rfl ?_
                                    refine w_pl (pc' := 44) (lv' := [(4, (0, ((5 : Nat) : Int))), (3, (0, ((((((dg) / 10) / 10) / 10) / 10) / 10))), (0, (2, ((30 : Nat) : Int))), (1, (0, ((m' : Nat) : Int))), (2, (0, (dg)))]) (st' := [(0, ((10 : Nat) : Int)), (0, ((((((dg) / 10) / 10) / 10) / 10) / 10))]) (h' := h) (o75_25 hB) rfl ?_
                                    refine w_idiv (z := (((((((dg) / 10) / 10) / 10) / 10) / 10) / 10)) (pc' := 45) (o75_26 hB) rfl (divI_p (by omega) (by omega) (by decide)) ?_
                                    refine w_st (tg := 0) (j := 3) (len := 1) (pc' := 46) (lv' := [(3, (0, (((((((dg) / 10) / 10) / 10) / 10) / 10) / 10))), (4, (0, ((5 : Nat) : Int))), (0, (2, ((30 : Nat) : Int))), (1, (0, ((m' : Nat) : Int))), (2, (0, (dg)))]) (o75_27 hB) rfl rfl ml75 (by decide) rfl ?_
                                    refine w_iinc (x := ((5 : Nat) : Int)) (z := ((6 : Nat) : Int)) (pc' := 49) (lv' := [(4, (0, ((6 : Nat) : Int))), (3, (0, (((((((dg) / 10) / 10) / 10) / 10) / 10) / 10))), (0, (2, ((30 : Nat) : Int))), (1, (0, ((m' : Nat) : Int))), (2, (0, (dg)))]) (o75_28 hB) rfl rfl ml75 (by decide) (w32_e (by omega) (by omega)) rfl ?_
                                    refine w_goto (pt := 24) (o75_29 hB) (by decide) ?_
                                    refine w_pl (pc' := 26) (lv' := [(4, (0, ((6 : Nat) : Int))), (3, (0, (((((((dg) / 10) / 10) / 10) / 10) / 10) / 10))), (0, (2, ((30 : Nat) : Int))), (1, (0, ((m' : Nat) : Int))), (2, (0, (dg)))]) (st' := [(0, ((6 : Nat) : Int))]) (h' := h) (o75_14 hB) rfl ?_
                                    refine w_pl (pc' := 28) (lv' := [(4, (0, ((6 : Nat) : Int))), (3, (0, (((((((dg) / 10) / 10) / 10) / 10) / 10) / 10))), (0, (2, ((30 : Nat) : Int))), (1, (0, ((m' : Nat) : Int))), (2, (0, (dg)))]) (st' := [(0, ((6 : Nat) : Int)), (0, ((6 : Nat) : Int))]) (h' := h) (o75_15 hB) rfl ?_
                                    refine w_icmp (pt := 52) (pf := 31) (o75_16 hB) (by decide) rfl (fun e => ?_) (fun e => ?_)
                                    · have f146 : (((6 : Nat) : Int) ≤ ((6 : Nat) : Int)) := e
                                      refine w_pl (pc' := 53) (lv' := [(4, (0, ((6 : Nat) : Int))), (3, (0, (((((((dg) / 10) / 10) / 10) / 10) / 10) / 10))), (0, (2, ((30 : Nat) : Int))), (1, (0, ((m' : Nat) : Int))), (2, (0, (dg)))]) (st' := [(2, ((30 : Nat) : Int))]) (h' := h) (o75_30 hB) rfl ?_
                                      refine w_getf (A := 30) (t := 2) (z := ((32 : Nat) : Int)) (pc' := 56) (o75_31 hB) rfl (by decide +kernel) (hR (30, 1, 32) (by decide)) ?_
                                      refine w_pl (pc' := 57) (lv' := [(4, (0, ((6 : Nat) : Int))), (3, (0, (((((((dg) / 10) / 10) / 10) / 10) / 10) / 10))), (0, (2, ((30 : Nat) : Int))), (1, (0, ((m' : Nat) : Int))), (2, (0, (dg)))]) (st' := [(0, ((m' : Nat) : Int)), (2, ((32 : Nat) : Int))]) (h' := h) (o75_32 hB) rfl ?_
                                      refine w_iald (A := 32) (i := m') (n := 6) (z := (ov)) (pc' := 58) (o75_33 hB) rfl (by decide +kernel) (by omega) hov ?_
                                      refine w_st (tg := 0) (j := 4) (len := 2) (pc' := 60) (lv' := [(4, (0, (ov))), (3, (0, (((((((dg) / 10) / 10) / 10) / 10) / 10) / 10))), (0, (2, ((30 : Nat) : Int))), (1, (0, ((m' : Nat) : Int))), (2, (0, (dg)))]) (o75_34 hB) rfl rfl ml75 (by decide) rfl ?_
                                      refine w_pl (pc' := 61) (lv' := [(4, (0, (ov))), (3, (0, (((((((dg) / 10) / 10) / 10) / 10) / 10) / 10))), (0, (2, ((30 : Nat) : Int))), (1, (0, ((m' : Nat) : Int))), (2, (0, (dg)))]) (st' := [(2, ((30 : Nat) : Int))]) (h' := h) (o75_35 hB) rfl ?_
                                      refine w_getf (A := 30) (t := 2) (z := ((32 : Nat) : Int)) (pc' := 64) (o75_36 hB) rfl (by decide +kernel) (hR (30, 1, 32) (by decide)) ?_
                                      refine w_pl (pc' := 65) (lv' := [(4, (0, (ov))), (3, (0, (((((((dg) / 10) / 10) / 10) / 10) / 10) / 10))), (0, (2, ((30 : Nat) : Int))), (1, (0, ((m' : Nat) : Int))), (2, (0, (dg)))]) (st' := [(0, ((m' : Nat) : Int)), (2, ((32 : Nat) : Int))]) (h' := h) (o75_37 hB) rfl ?_
                                      refine w_pl (pc' := 66) (lv' := [(4, (0, (ov))), (3, (0, (((((((dg) / 10) / 10) / 10) / 10) / 10) / 10))), (0, (2, ((30 : Nat) : Int))), (1, (0, ((m' : Nat) : Int))), (2, (0, (dg)))]) (st' := [(0, (dg)), (0, ((m' : Nat) : Int)), (2, ((32 : Nat) : Int))]) (h' := h) (o75_38 hB) rfl ?_
                                      refine w_iast (A := 32) (i := m') (n := 6) (pc' := 67) (o75_39 hB) rfl (by decide +kernel) (by omega) ?_
                                      refine w_pl (pc' := 69) (lv' := [(4, (0, (ov))), (3, (0, (((((((dg) / 10) / 10) / 10) / 10) / 10) / 10))), (0, (2, ((30 : Nat) : Int))), (1, (0, ((m' : Nat) : Int))), (2, (0, (dg)))]) (st' := [(0, (ov))]) (h' := (hup h 32 (m') (dg))) (o75_40 hB) rfl ?_
                                      exact w_iret (o75_41 hB) mr75 (by unfold in32; omega) (a1 (by omega))
                                    · have f147 : ¬ (((6 : Nat) : Int) ≤ ((6 : Nat) : Int)) := e
                                      exfalso; omega
                                  · have f148 : ¬ ((((((((dg) / 10) / 10) / 10) / 10) / 10) % 10) ≤ ((3 : Nat) : Int)) := e
                                    refine w_pl (pc' := 40) (lv' := [(4, (0, ((5 : Nat) : Int))), (3, (0, ((((((dg) / 10) / 10) / 10) / 10) / 10))), (0, (2, ((30 : Nat) : Int))), (1, (0, ((m' : Nat) : Int))), (2, (0, (dg)))]) (st' := [(0, (-1))]) (h' := h) (o75_22 hB) rfl ?_
                                    exact w_iret (o75_23 hB) mr75 (by unfold in32; omega) (a0 (by omega))
                              · have f149 : ¬ (((((((dg) / 10) / 10) / 10) / 10) % 10) ≤ ((3 : Nat) : Int)) := e
                                refine w_pl (pc' := 40) (lv' := [(4, (0, ((4 : Nat) : Int))), (3, (0, (((((dg) / 10) / 10) / 10) / 10))), (0, (2, ((30 : Nat) : Int))), (1, (0, ((m' : Nat) : Int))), (2, (0, (dg)))]) (st' := [(0, (-1))]) (h' := h) (o75_22 hB) rfl ?_
                                exact w_iret (o75_23 hB) mr75 (by unfold in32; omega) (a0 (by omega))
                          · have f150 : ¬ ((((((dg) / 10) / 10) / 10) % 10) ≤ ((3 : Nat) : Int)) := e
                            refine w_pl (pc' := 40) (lv' := [(4, (0, ((3 : Nat) : Int))), (3, (0, ((((dg) / 10) / 10) / 10))), (0, (2, ((30 : Nat) : Int))), (1, (0, ((m' : Nat) : Int))), (2, (0, (dg)))]) (st' := [(0, (-1))]) (h' := h) (o75_22 hB) rfl ?_
                            exact w_iret (o75_23 hB) mr75 (by unfold in32; omega) (a0 (by omega))
                      · have f151 : ¬ (((((dg) / 10) / 10) % 10) ≤ ((3 : Nat) : Int)) := e
                        refine w_pl (pc' := 40) (lv' := [(4, (0, ((2 : Nat) : Int))), (3, (0, (((dg) / 10) / 10))), (0, (2, ((30 : Nat) : Int))), (1, (0, ((m' : Nat) : Int))), (2, (0, (dg)))]) (st' := [(0, (-1))]) (h' := h) (o75_22 hB) rfl ?_
                        exact w_iret (o75_23 hB) mr75 (by unfold in32; omega) (a0 (by omega))
                  · have f152 : ¬ ((((dg) / 10) % 10) ≤ ((3 : Nat) : Int)) := e
                    refine w_pl (pc' := 40) (lv' := [(4, (0, ((1 : Nat) : Int))), (3, (0, ((dg) / 10))), (0, (2, ((30 : Nat) : Int))), (1, (0, ((m' : Nat) : Int))), (2, (0, (dg)))]) (st' := [(0, (-1))]) (h' := h) (o75_22 hB) rfl ?_
                    exact w_iret (o75_23 hB) mr75 (by unfold in32; omega) (a0 (by omega))
              · have f153 : ¬ (((dg) % 10) ≤ ((3 : Nat) : Int)) := e
                refine w_pl (pc' := 40) (lv' := [(4, (0, ((0 : Nat) : Int))), (3, (0, (dg))), (0, (2, ((30 : Nat) : Int))), (1, (0, ((m' : Nat) : Int))), (2, (0, (dg)))]) (st' := [(0, (-1))]) (h' := h) (o75_22 hB) rfl ?_
                exact w_iret (o75_23 hB) mr75 (by unfold in32; omega) (a0 (by omega))
          · have f154 : ¬ ((dg) ≤ ((333333 : Nat) : Int)) := e
            refine w_pl (pc' := 18) (lv' := [(0, (2, ((30 : Nat) : Int))), (1, (0, ((m' : Nat) : Int))), (2, (0, (dg)))]) (st' := [(0, (-1))]) (h' := h) (o75_8 hB) rfl ?_
            exact w_iret (o75_9 hB) mr75 (by unfold in32; omega) (a0 (by omega))
    · show HW g l _ 75 _ _ 4 [(0, (2, ((30 : Nat) : Int))), (1, (0, ((m' : Nat) : Int))), (2, (0, (dg)))] [(0, ((0 : Nat) : Int))] h
      refine w_ifc (pt := 17) (pf := 7) (o75_2 hB) (by decide) rfl (fun e => ?_) (fun e => ?_)
      · have f155 : (((0 : Nat) : Int) = (0)) := e
        refine w_pl (pc' := 18) (lv' := [(0, (2, ((30 : Nat) : Int))), (1, (0, ((m' : Nat) : Int))), (2, (0, (dg)))]) (st' := [(0, (-1))]) (h' := h) (o75_8 hB) rfl ?_
        exact w_iret (o75_9 hB) mr75 (by unfold in32; omega) (a0 (by omega))
      · have f156 : ¬ (((0 : Nat) : Int) = (0)) := e
        exfalso; omega
theorem m_machineB (hB : BytesOK) {g : bG} {l : Launch} {d : Nat} {Q : bQ} {h : bH} {mk dg : Int} (ht : TH h) (z_mk : in32 mk) (z_dg : in32 dg) {ov : Int} (hov : h 32 (mk.toNat) = ov)  (a0 : ¬ ((0 ≤ mk ∧ mk ≤ 5) ∧ (0 ≤ dg ∧ dg ≤ 333333) ∧ dg % 10 ≤ 3 ∧ dg / 10 % 10 ≤ 3 ∧ dg / 10 / 10 % 10 ≤ 3 ∧ dg / 10 / 10 / 10 % 10 ≤ 3 ∧ dg / 10 / 10 / 10 / 10 % 10 ≤ 3 ∧ dg / 10 / 10 / 10 / 10 / 10 % 10 ≤ 3) → Q (some (0, (-1))) h) (a1 : (0 ≤ mk ∧ mk ≤ 5) ∧ (0 ≤ dg ∧ dg ≤ 333333) ∧ dg % 10 ≤ 3 ∧ dg / 10 % 10 ≤ 3 ∧ dg / 10 / 10 % 10 ≤ 3 ∧ dg / 10 / 10 / 10 % 10 ≤ 3 ∧ dg / 10 / 10 / 10 / 10 % 10 ≤ 3 ∧ dg / 10 / 10 / 10 / 10 / 10 % 10 ≤ 3 → Q (some (0, ov)) (hup h 32 ((mk.toNat)) (dg))) : MH g l (d + 1 + 1) 155 212 212 [(2, ((0 : Nat) : Int)), (0, (mk)), (0, (dg))] h Q := by
  have hR := ht.r
  have z0_mk := z_mk
  have z0_dg := z_dg
  unfold in32 at z0_mk
  unfold in32 at z0_dg
  refine mh_go hB mg155 ml155 (Nat.le_of_ble_eq_true rfl) ?_
  show HW g l (d + 1 + 1) 155 _ _ 0 [(0, (2, ((0 : Nat) : Int))), (1, (0, (mk))), (2, (0, (dg)))] [] h
  refine w_pl (pc' := 1) (lv' := [(0, (2, ((0 : Nat) : Int))), (1, (0, (mk))), (2, (0, (dg)))]) (st' := [(2, ((0 : Nat) : Int))]) (h' := h) (o155_0 hB) rfl ?_
  refine w_getf (A := 0) (t := 2) (z := ((1 : Nat) : Int)) (pc' := 4) (o155_1 hB) rfl (by decide +kernel) (hR (0, 0, 1) (by decide)) ?_
  refine w_getf (A := 1) (t := 2) (z := ((30 : Nat) : Int)) (pc' := 7) (o155_2 hB) rfl (by decide +kernel) (hR (1, 3, 30) (by decide)) ?_
  refine w_pl (pc' := 8) (lv' := [(0, (2, ((0 : Nat) : Int))), (1, (0, (mk))), (2, (0, (dg)))]) (st' := [(0, (mk)), (2, ((30 : Nat) : Int))]) (h' := h) (o155_3 hB) rfl ?_
  refine w_pl (pc' := 9) (lv' := [(0, (2, ((0 : Nat) : Int))), (1, (0, (mk))), (2, (0, (dg)))]) (st' := [(0, (dg)), (0, (mk)), (2, ((30 : Nat) : Int))]) (h' := h) (o155_4 hB) rfl ?_
  refine w_callV (A := 30) (as := [(0, (mk)), (0, (dg))]) (rest := []) (n := 2) (pc' := 12) 6 hB (o155_5 hB) rfl (by decide +kernel) rfl rfl (Nat.le_of_ble_eq_true rfl) (m_setMachine hB ht z_mk z_dg hov (fun f159 => ?_) (fun f160 => ?_))
  · show HW g l _ 155 _ _ 12 [(0, (2, ((0 : Nat) : Int))), (1, (0, (mk))), (2, (0, (dg)))] [(0, (-1))] h
    exact w_iret (o155_6 hB) mr155 (by unfold in32; omega) (a0 (by omega))
  · show HW g l _ 155 _ _ 12 [(0, (2, ((0 : Nat) : Int))), (1, (0, (mk))), (2, (0, (dg)))] [(0, (ov))] (hup h 32 (mk.toNat) (dg))
    exact w_iret (o155_6 hB) mr155 (by have := ty_32_s0 ht (j := mk.toNat) (r := mk.toNat) (by omega) (by omega); rw [hov] at this; unfold in32; omega) (a1 (by omega))
def s_machineB (vs : List bV) (h : bH) (r : Option bV) (h' : bH) : Prop := TH h ∧ ∀ (mk dg : Int) (ov : Int) , vs = [(2, ((0 : Nat) : Int)), (0, mk), (0, dg)] → h 32 (mk.toNat) = ov → ((¬ ((0 ≤ mk ∧ mk ≤ 5) ∧ (0 ≤ dg ∧ dg ≤ 333333) ∧ dg % 10 ≤ 3 ∧ dg / 10 % 10 ≤ 3 ∧ dg / 10 / 10 % 10 ≤ 3 ∧ dg / 10 / 10 / 10 % 10 ≤ 3 ∧ dg / 10 / 10 / 10 / 10 % 10 ≤ 3 ∧ dg / 10 / 10 / 10 / 10 / 10 % 10 ≤ 3)) ∧ r = some (0, (-1)) ∧ h = h') ∨ (((0 ≤ mk ∧ mk ≤ 5) ∧ (0 ≤ dg ∧ dg ≤ 333333) ∧ dg % 10 ≤ 3 ∧ dg / 10 % 10 ≤ 3 ∧ dg / 10 / 10 % 10 ≤ 3 ∧ dg / 10 / 10 / 10 % 10 ≤ 3 ∧ dg / 10 / 10 / 10 / 10 % 10 ≤ 3 ∧ dg / 10 / 10 / 10 / 10 / 10 % 10 ≤ 3) ∧ r = some (0, ov) ∧ h' = (hup h 32 ((mk.toNat)) (dg)))
def w_machineB : List (Nat × Nat × Nat) := [(32, 0, 6)]
def q_machineB : aCt := cH 155 2 w_machineB 2 0
theorem sk_machineB (hB : BytesOK) (g : bG) (l : Launch) : SK g l gT q_machineB s_machineB := by
  intro d hd ρ h Q hcore hQ
  have hcore : core (PofW gT (some w_machineB) false) (gsc g) h ρ h (List.replicate 2 r32, [], [], 212) := hcore
  have ht := hTH hcore
  have y0 := r32_0 hcore 0 (by decide)
  have y1 := r32_0 hcore 1 (by decide)
  have y00 := y0
  unfold in32 at y00
  have y01 := y1
  unfold in32 at y01
  obtain ⟨d', rfl⟩ : ∃ d', d = d' + 1 + 1 := ⟨d - 2, by have : 2 ≤ d := hd; omega⟩
  rw [show evS ρ (ctA q_machineB) = [(2, ((0 : Nat) : Int)), (0, ρ 0), (0, ρ 1)] from evA2]
  refine m_machineB (mk := ρ 0) (dg := ρ 1) hB ht y0 y1 rfl (fun hn => ?_) (fun hn => ?_)
  · refine hQ _ _ (hpost hcore (ht) (fun _ _ _ => rfl) (by unfold in32; omega)) ⟨ht, fun mk dg v_ov hv e_ov => ?_⟩
    have hv := (evA2 (ρ := ρ)).symm.trans hv
    obtain ⟨rfl, rfl⟩ := vsA2 hv
    subst e_ov
    exact Or.inl ⟨hn, rfl, rfl⟩
  · skip
    obtain ⟨m', e_m9⟩ : ∃ q : Nat, (ρ 0).toNat = q := ⟨_, rfl⟩
    rw [e_m9]
    have a15 : h 32 (ρ 0).toNat = h 32 m' := by rw [e_m9]
    have e15 := ty_32_s0 ht (j := (ρ 0).toNat) (r := (ρ 0).toNat) (by omega) (by omega)
    refine hQ _ _ (hpost hcore ((ht).ups2 (a := 32) (s := 0) (st := 1) (n := 6) (lo := (0)) (hi := 333333) (r := m') (by decide +kernel) (by omega) (by omega) (by omega)) (fr_up (fun _ _ _ => rfl) (wr_in (lo := 0) (hi := 6) (by decide) (by omega) (by omega))) (by have := ty_32_s0 ht (j := (ρ 0).toNat) (r := (ρ 0).toNat) (by omega) (by omega); unfold in32; omega)) ⟨ht, fun mk dg v_ov hv e_ov => ?_⟩
    have hv := (evA2 (ρ := ρ)).symm.trans hv
    obtain ⟨rfl, rfl⟩ := vsA2 hv
    subst e_ov
    exact Or.inr (⟨hn, by first | rfl | (rw [e_m9]; done), by rw [e_m9]⟩)
theorem m_machineM (hB : BytesOK) {g : bG} {l : Launch} {d : Nat} {Q : bQ} {h : bH} {mk dg : Int} (ht : TH h) (z_mk : in32 mk) (z_dg : in32 dg) {oz : Int} (hoz : h 194 (582 + mk.toNat) = oz)  (a0 : ¬ ((0 ≤ mk ∧ mk ≤ 5) ∧ (0 ≤ dg ∧ dg ≤ 333333) ∧ dg % 10 ≤ 3 ∧ dg / 10 % 10 ≤ 3 ∧ dg / 10 / 10 % 10 ≤ 3 ∧ dg / 10 / 10 / 10 % 10 ≤ 3 ∧ dg / 10 / 10 / 10 / 10 % 10 ≤ 3 ∧ dg / 10 / 10 / 10 / 10 / 10 % 10 ≤ 3) → Q (some (0, (-1))) h) (a1 : (0 ≤ mk ∧ mk ≤ 5) ∧ (0 ≤ dg ∧ dg ≤ 333333) ∧ dg % 10 ≤ 3 ∧ dg / 10 % 10 ≤ 3 ∧ dg / 10 / 10 % 10 ≤ 3 ∧ dg / 10 / 10 / 10 % 10 ≤ 3 ∧ dg / 10 / 10 / 10 / 10 % 10 ≤ 3 ∧ dg / 10 / 10 / 10 / 10 / 10 % 10 ≤ 3 → Q (some (0, oz)) (hup h 194 ((582 + (mk.toNat))) (dg))) : MH g l (d + 1 + 1) 264 212 212 [(2, ((193 : Nat) : Int)), (0, (mk)), (0, (dg))] h Q := by
  have hR := ht.r
  have z0_mk := z_mk
  have z0_dg := z_dg
  unfold in32 at z0_mk
  unfold in32 at z0_dg
  rcases (by omega : ¬ (0 ≤ mk ∧ mk ≤ 5) ∨ (0 ≤ mk ∧ mk ≤ 5)) with gg | gg
  · skip
    refine mh_go hB mg264 ml264 (Nat.le_of_ble_eq_true rfl) ?_
    show HW g l (d + 1 + 1) 264 _ _ 0 [(0, (2, ((193 : Nat) : Int))), (1, (0, (mk))), (2, (0, (dg)))] [] h
    refine w_pl (pc' := 1) (lv' := [(0, (2, ((193 : Nat) : Int))), (1, (0, (mk))), (2, (0, (dg)))]) (st' := [(0, (mk))]) (h' := h) (o264_0 hB) rfl ?_
    refine w_callS (as := [(0, (mk))]) (rest := []) (n := 1) (pc' := 4) hB (o264_1 hB) rfl (by decide +kernel) rfl rfl (Nat.le_of_ble_eq_true rfl) (m_isMakerM hB (fun f297 => ?_) (fun f298 => ?_))
    · exfalso; omega
    · show HW g l _ 264 _ _ 4 [(0, (2, ((193 : Nat) : Int))), (1, (0, (mk))), (2, (0, (dg)))] [(0, ((0 : Nat) : Int))] h
      refine w_ifc (pt := 22) (pf := 7) (o264_2 hB) (by decide) rfl (fun e => ?_) (fun e => ?_)
      · have f299 : (((0 : Nat) : Int) = (0)) := e
        refine w_pl (pc' := 23) (lv' := [(0, (2, ((193 : Nat) : Int))), (1, (0, (mk))), (2, (0, (dg)))]) (st' := [(0, ((0 : Nat) : Int))]) (h' := h) (o264_10 hB) rfl ?_
        refine w_st (tg := 0) (j := 3) (len := 1) (pc' := 24) (lv' := [(3, (0, ((0 : Nat) : Int))), (0, (2, ((193 : Nat) : Int))), (1, (0, (mk))), (2, (0, (dg)))]) (o264_11 hB) rfl rfl ml264 (by decide) rfl ?_
        refine w_pl (pc' := 25) (lv' := [(3, (0, ((0 : Nat) : Int))), (0, (2, ((193 : Nat) : Int))), (1, (0, (mk))), (2, (0, (dg)))]) (st' := [(0, (dg))]) (h' := h) (o264_12 hB) rfl ?_
        refine w_st (tg := 0) (j := 4) (len := 2) (pc' := 27) (lv' := [(4, (0, (dg))), (3, (0, ((0 : Nat) : Int))), (0, (2, ((193 : Nat) : Int))), (1, (0, (mk))), (2, (0, (dg)))]) (o264_13 hB) rfl rfl ml264 (by decide) rfl ?_
        refine w_pl (pc' := 29) (lv' := [(4, (0, (dg))), (3, (0, ((0 : Nat) : Int))), (0, (2, ((193 : Nat) : Int))), (1, (0, (mk))), (2, (0, (dg)))]) (st' := [(0, (dg))]) (h' := h) (o264_14 hB) rfl ?_
        refine w_ifc (pt := 61) (pf := 32) (o264_15 hB) (by decide) rfl (fun e => ?_) (fun e => ?_)
        · have f300 : ((dg) ≤ (0)) := e
          refine w_pl (pc' := 62) (lv' := [(4, (0, (dg))), (3, (0, ((0 : Nat) : Int))), (0, (2, ((193 : Nat) : Int))), (1, (0, (mk))), (2, (0, (dg)))]) (st' := [(0, ((0 : Nat) : Int))]) (h' := h) (o264_32 hB) rfl ?_
          refine w_ifc (pt := 67) (pf := 65) (o264_33 hB) (by decide) rfl (fun e => ?_) (fun e => ?_)
          · have f301 : (((0 : Nat) : Int) ≠ (0)) := e
            exfalso; omega
          · have f302 : ¬ (((0 : Nat) : Int) ≠ (0)) := e
            refine w_pl (pc' := 66) (lv' := [(4, (0, (dg))), (3, (0, ((0 : Nat) : Int))), (0, (2, ((193 : Nat) : Int))), (1, (0, (mk))), (2, (0, (dg)))]) (st' := [(0, (-1))]) (h' := h) (o264_34 hB) rfl ?_
            exact w_iret (o264_35 hB) mr264 (by unfold in32; omega) (a0 (by omega))
        · have f303 : ¬ ((dg) ≤ (0)) := e
          refine w_pl (pc' := 33) (lv' := [(4, (0, (dg))), (3, (0, ((0 : Nat) : Int))), (0, (2, ((193 : Nat) : Int))), (1, (0, (mk))), (2, (0, (dg)))]) (st' := [(0, ((0 : Nat) : Int))]) (h' := h) (o264_16 hB) rfl ?_
          refine w_ifc (pt := 61) (pf := 36) (o264_17 hB) (by decide) rfl (fun e => ?_) (fun e => ?_)
          · have f304 : (((0 : Nat) : Int) = (0)) := e
            refine w_pl (pc' := 62) (lv' := [(4, (0, (dg))), (3, (0, ((0 : Nat) : Int))), (0, (2, ((193 : Nat) : Int))), (1, (0, (mk))), (2, (0, (dg)))]) (st' := [(0, ((0 : Nat) : Int))]) (h' := h) (o264_32 hB) rfl ?_
            refine w_ifc (pt := 67) (pf := 65) (o264_33 hB) (by decide) rfl (fun e => ?_) (fun e => ?_)
            · have f305 : (((0 : Nat) : Int) ≠ (0)) := e
              exfalso; omega
            · have f306 : ¬ (((0 : Nat) : Int) ≠ (0)) := e
              refine w_pl (pc' := 66) (lv' := [(4, (0, (dg))), (3, (0, ((0 : Nat) : Int))), (0, (2, ((193 : Nat) : Int))), (1, (0, (mk))), (2, (0, (dg)))]) (st' := [(0, (-1))]) (h' := h) (o264_34 hB) rfl ?_
              exact w_iret (o264_35 hB) mr264 (by unfold in32; omega) (a0 (by omega))
          · have f307 : ¬ (((0 : Nat) : Int) = (0)) := e
            exfalso; omega
      · have f308 : ¬ (((0 : Nat) : Int) = (0)) := e
        exfalso; omega
  · obtain ⟨m', e_m⟩ : ∃ q : Nat, mk = q := ⟨mk.toNat, by omega⟩
    subst e_m
    simp only [Int.toNat_natCast] at hoz a1
    have r_oz := ty_194_s582 ht (j := 582 + m') (r := m') (by omega) (by omega)
    rw [hoz] at r_oz
    refine mh_go hB mg264 ml264 (Nat.le_of_ble_eq_true rfl) ?_
    show HW g l (d + 1 + 1) 264 _ _ 0 [(0, (2, ((193 : Nat) : Int))), (1, (0, ((m' : Nat) : Int))), (2, (0, (dg)))] [] h
    refine w_pl (pc' := 1) (lv' := [(0, (2, ((193 : Nat) : Int))), (1, (0, ((m' : Nat) : Int))), (2, (0, (dg)))]) (st' := [(0, ((m' : Nat) : Int))]) (h' := h) (o264_0 hB) rfl ?_
    refine w_callS (as := [(0, ((m' : Nat) : Int))]) (rest := []) (n := 1) (pc' := 4) hB (o264_1 hB) rfl (by decide +kernel) rfl rfl (Nat.le_of_ble_eq_true rfl) (m_isMakerM hB (fun f309 => ?_) (fun f310 => ?_))
    · show HW g l _ 264 _ _ 4 [(0, (2, ((193 : Nat) : Int))), (1, (0, ((m' : Nat) : Int))), (2, (0, (dg)))] [(0, ((1 : Nat) : Int))] h
      refine w_ifc (pt := 22) (pf := 7) (o264_2 hB) (by decide) rfl (fun e => ?_) (fun e => ?_)
      · have f311 : (((1 : Nat) : Int) = (0)) := e
        exfalso; omega
      · have f312 : ¬ (((1 : Nat) : Int) = (0)) := e
        refine w_pl (pc' := 8) (lv' := [(0, (2, ((193 : Nat) : Int))), (1, (0, ((m' : Nat) : Int))), (2, (0, (dg)))]) (st' := [(0, (dg))]) (h' := h) (o264_3 hB) rfl ?_
        refine w_pl (pc' := 9) (lv' := [(0, (2, ((193 : Nat) : Int))), (1, (0, ((m' : Nat) : Int))), (2, (0, (dg)))]) (st' := [(0, ((0 : Nat) : Int)), (0, (dg))]) (h' := h) (o264_4 hB) rfl ?_
        refine w_pl (pc' := 12) (lv' := [(0, (2, ((193 : Nat) : Int))), (1, (0, ((m' : Nat) : Int))), (2, (0, (dg)))]) (st' := [(0, ((333333 : Nat) : Int)), (0, ((0 : Nat) : Int)), (0, (dg))]) (h' := h) (o264_5 hB) rfl ?_
        refine w_callS (as := [(0, (dg)), (0, ((0 : Nat) : Int)), (0, ((333333 : Nat) : Int))]) (rest := []) (n := 3) (pc' := 15) hB (o264_6 hB) rfl (by decide +kernel) rfl rfl (Nat.le_of_ble_eq_true rfl) (m_in hB (fun f313 => ?_) (fun f314 => ?_))
        · show HW g l _ 264 _ _ 15 [(0, (2, ((193 : Nat) : Int))), (1, (0, ((m' : Nat) : Int))), (2, (0, (dg)))] [(0, ((1 : Nat) : Int))] h
          refine w_ifc (pt := 22) (pf := 18) (o264_7 hB) (by decide) rfl (fun e => ?_) (fun e => ?_)
          · have f315 : (((1 : Nat) : Int) = (0)) := e
            exfalso; omega
          · have f316 : ¬ (((1 : Nat) : Int) = (0)) := e
            refine w_pl (pc' := 19) (lv' := [(0, (2, ((193 : Nat) : Int))), (1, (0, ((m' : Nat) : Int))), (2, (0, (dg)))]) (st' := [(0, ((1 : Nat) : Int))]) (h' := h) (o264_8 hB) rfl ?_
            refine w_goto (pt := 23) (o264_9 hB) (by decide) ?_
            refine w_st (tg := 0) (j := 3) (len := 1) (pc' := 24) (lv' := [(3, (0, ((1 : Nat) : Int))), (0, (2, ((193 : Nat) : Int))), (1, (0, ((m' : Nat) : Int))), (2, (0, (dg)))]) (o264_11 hB) rfl rfl ml264 (by decide) rfl ?_
            refine w_pl (pc' := 25) (lv' := [(3, (0, ((1 : Nat) : Int))), (0, (2, ((193 : Nat) : Int))), (1, (0, ((m' : Nat) : Int))), (2, (0, (dg)))]) (st' := [(0, (dg))]) (h' := h) (o264_12 hB) rfl ?_
            refine w_st (tg := 0) (j := 4) (len := 2) (pc' := 27) (lv' := [(4, (0, (dg))), (3, (0, ((1 : Nat) : Int))), (0, (2, ((193 : Nat) : Int))), (1, (0, ((m' : Nat) : Int))), (2, (0, (dg)))]) (o264_13 hB) rfl rfl ml264 (by decide) rfl ?_
            refine w_pl (pc' := 29) (lv' := [(4, (0, (dg))), (3, (0, ((1 : Nat) : Int))), (0, (2, ((193 : Nat) : Int))), (1, (0, ((m' : Nat) : Int))), (2, (0, (dg)))]) (st' := [(0, (dg))]) (h' := h) (o264_14 hB) rfl ?_
            refine w_ifc (pt := 61) (pf := 32) (o264_15 hB) (by decide) rfl (fun e => ?_) (fun e => ?_)
            · have f317 : ((dg) ≤ (0)) := e
              refine w_pl (pc' := 62) (lv' := [(4, (0, (dg))), (3, (0, ((1 : Nat) : Int))), (0, (2, ((193 : Nat) : Int))), (1, (0, ((m' : Nat) : Int))), (2, (0, (dg)))]) (st' := [(0, ((1 : Nat) : Int))]) (h' := h) (o264_32 hB) rfl ?_
              refine w_ifc (pt := 67) (pf := 65) (o264_33 hB) (by decide) rfl (fun e => ?_) (fun e => ?_)
              · have f318 : (((1 : Nat) : Int) ≠ (0)) := e
                refine w_pl (pc' := 68) (lv' := [(4, (0, (dg))), (3, (0, ((1 : Nat) : Int))), (0, (2, ((193 : Nat) : Int))), (1, (0, ((m' : Nat) : Int))), (2, (0, (dg)))]) (st' := [(2, ((193 : Nat) : Int))]) (h' := h) (o264_36 hB) rfl ?_
                refine w_getf (A := 193) (t := 2) (z := ((194 : Nat) : Int)) (pc' := 71) (o264_37 hB) rfl (by decide +kernel) (hR (193, 0, 194) (by decide)) ?_
                refine w_pl (pc' := 74) (lv' := [(4, (0, (dg))), (3, (0, ((1 : Nat) : Int))), (0, (2, ((193 : Nat) : Int))), (1, (0, ((m' : Nat) : Int))), (2, (0, (dg)))]) (st' := [(0, ((582 : Nat) : Int)), (2, ((194 : Nat) : Int))]) (h' := h) (o264_38 hB) rfl ?_
                refine w_pl (pc' := 75) (lv' := [(4, (0, (dg))), (3, (0, ((1 : Nat) : Int))), (0, (2, ((193 : Nat) : Int))), (1, (0, ((m' : Nat) : Int))), (2, (0, (dg)))]) (st' := [(0, ((m' : Nat) : Int)), (0, ((582 : Nat) : Int)), (2, ((194 : Nat) : Int))]) (h' := h) (o264_39 hB) rfl ?_
                refine w_iadd (z := (((582 + m') : Nat) : Int)) (pc' := 76) (o264_40 hB) rfl (w32_e (by omega) (by omega)) ?_
                refine w_iald (A := 194) (i := (582 + m')) (n := 1984) (z := (oz)) (pc' := 77) (o264_41 hB) rfl (by decide +kernel) (by omega) hoz ?_
                refine w_st (tg := 0) (j := 4) (len := 2) (pc' := 79) (lv' := [(4, (0, (oz))), (3, (0, ((1 : Nat) : Int))), (0, (2, ((193 : Nat) : Int))), (1, (0, ((m' : Nat) : Int))), (2, (0, (dg)))]) (o264_42 hB) rfl rfl ml264 (by decide) rfl ?_
                refine w_pl (pc' := 80) (lv' := [(4, (0, (oz))), (3, (0, ((1 : Nat) : Int))), (0, (2, ((193 : Nat) : Int))), (1, (0, ((m' : Nat) : Int))), (2, (0, (dg)))]) (st' := [(2, ((193 : Nat) : Int))]) (h' := h) (o264_43 hB) rfl ?_
                refine w_getf (A := 193) (t := 2) (z := ((194 : Nat) : Int)) (pc' := 83) (o264_44 hB) rfl (by decide +kernel) (hR (193, 0, 194) (by decide)) ?_
                refine w_pl (pc' := 86) (lv' := [(4, (0, (oz))), (3, (0, ((1 : Nat) : Int))), (0, (2, ((193 : Nat) : Int))), (1, (0, ((m' : Nat) : Int))), (2, (0, (dg)))]) (st' := [(0, ((582 : Nat) : Int)), (2, ((194 : Nat) : Int))]) (h' := h) (o264_45 hB) rfl ?_
                refine w_pl (pc' := 87) (lv' := [(4, (0, (oz))), (3, (0, ((1 : Nat) : Int))), (0, (2, ((193 : Nat) : Int))), (1, (0, ((m' : Nat) : Int))), (2, (0, (dg)))]) (st' := [(0, ((m' : Nat) : Int)), (0, ((582 : Nat) : Int)), (2, ((194 : Nat) : Int))]) (h' := h) (o264_46 hB) rfl ?_
                refine w_iadd (z := (((582 + m') : Nat) : Int)) (pc' := 88) (o264_47 hB) rfl (w32_e (by omega) (by omega)) ?_
                refine w_pl (pc' := 89) (lv' := [(4, (0, (oz))), (3, (0, ((1 : Nat) : Int))), (0, (2, ((193 : Nat) : Int))), (1, (0, ((m' : Nat) : Int))), (2, (0, (dg)))]) (st' := [(0, (dg)), (0, (((582 + m') : Nat) : Int)), (2, ((194 : Nat) : Int))]) (h' := h) (o264_48 hB) rfl ?_
                refine w_iast (A := 194) (i := (582 + m')) (n := 1984) (pc' := 90) (o264_49 hB) rfl (by decide +kernel) (by omega) ?_
                refine w_pl (pc' := 92) (lv' := [(4, (0, (oz))), (3, (0, ((1 : Nat) : Int))), (0, (2, ((193 : Nat) : Int))), (1, (0, ((m' : Nat) : Int))), (2, (0, (dg)))]) (st' := [(0, (oz))]) (h' := (hup h 194 ((582 + m')) (dg))) (o264_50 hB) rfl ?_
                exact w_iret (o264_51 hB) mr264 (by unfold in32; omega) (a1 (by omega))
              · have f319 : ¬ (((1 : Nat) : Int) ≠ (0)) := e
                exfalso; omega
            · have f320 : ¬ ((dg) ≤ (0)) := e
              refine w_pl (pc' := 33) (lv' := [(4, (0, (dg))), (3, (0, ((1 : Nat) : Int))), (0, (2, ((193 : Nat) : Int))), (1, (0, ((m' : Nat) : Int))), (2, (0, (dg)))]) (st' := [(0, ((1 : Nat) : Int))]) (h' := h) (o264_16 hB) rfl ?_
              refine w_ifc (pt := 61) (pf := 36) (o264_17 hB) (by decide) rfl (fun e => ?_) (fun e => ?_)
              · have f321 : (((1 : Nat) : Int) = (0)) := e
                exfalso; omega
              · have f322 : ¬ (((1 : Nat) : Int) = (0)) := e
                refine w_pl (pc' := 38) (lv' := [(4, (0, (dg))), (3, (0, ((1 : Nat) : Int))), (0, (2, ((193 : Nat) : Int))), (1, (0, ((m' : Nat) : Int))), (2, (0, (dg)))]) (st' := [(0, (dg))]) (h' := h) (o264_18 hB) rfl ?_
                refine w_pl (pc' := 40) (lv' := [(4, (0, (dg))), (3, (0, ((1 : Nat) : Int))), (0, (2, ((193 : Nat) : Int))), (1, (0, ((m' : Nat) : Int))), (2, (0, (dg)))]) (st' := [(0, ((10 : Nat) : Int)), (0, (dg))]) (h' := h) (o264_19 hB) rfl ?_
                refine w_irem (z := ((dg) % 10)) (pc' := 41) (o264_20 hB) rfl (remI_p (by omega) (by decide)) ?_
                refine w_pl (pc' := 42) (lv' := [(4, (0, (dg))), (3, (0, ((1 : Nat) : Int))), (0, (2, ((193 : Nat) : Int))), (1, (0, ((m' : Nat) : Int))), (2, (0, (dg)))]) (st' := [(0, ((4 : Nat) : Int)), (0, ((dg) % 10))]) (h' := h) (o264_21 hB) rfl ?_
                refine w_icmp (pt := 49) (pf := 45) (o264_22 hB) (by decide) rfl (fun e => ?_) (fun e => ?_)
                · have f323 : (((4 : Nat) : Int) ≤ ((dg) % 10)) := e
                  refine w_pl (pc' := 50) (lv' := [(4, (0, (dg))), (3, (0, ((1 : Nat) : Int))), (0, (2, ((193 : Nat) : Int))), (1, (0, ((m' : Nat) : Int))), (2, (0, (dg)))]) (st' := [(0, ((0 : Nat) : Int))]) (h' := h) (o264_25 hB) rfl ?_
                  refine w_st (tg := 0) (j := 3) (len := 1) (pc' := 51) (lv' := [(3, (0, ((0 : Nat) : Int))), (4, (0, (dg))), (0, (2, ((193 : Nat) : Int))), (1, (0, ((m' : Nat) : Int))), (2, (0, (dg)))]) (o264_26 hB) rfl rfl ml264 (by decide) rfl ?_
                  refine w_pl (pc' := 53) (lv' := [(3, (0, ((0 : Nat) : Int))), (4, (0, (dg))), (0, (2, ((193 : Nat) : Int))), (1, (0, ((m' : Nat) : Int))), (2, (0, (dg)))]) (st' := [(0, (dg))]) (h' := h) (o264_27 hB) rfl ?_
                  refine w_pl (pc' := 55) (lv' := [(3, (0, ((0 : Nat) : Int))), (4, (0, (dg))), (0, (2, ((193 : Nat) : Int))), (1, (0, ((m' : Nat) : Int))), (2, (0, (dg)))]) (st' := [(0, ((10 : Nat) : Int)), (0, (dg))]) (h' := h) (o264_28 hB) rfl ?_
                  refine w_idiv (z := ((dg) / 10)) (pc' := 56) (o264_29 hB) rfl (divI_p (by omega) (by omega) (by decide)) ?_
                  refine w_st (tg := 0) (j := 4) (len := 2) (pc' := 58) (lv' := [(4, (0, ((dg) / 10))), (3, (0, ((0 : Nat) : Int))), (0, (2, ((193 : Nat) : Int))), (1, (0, ((m' : Nat) : Int))), (2, (0, (dg)))]) (o264_30 hB) rfl rfl ml264 (by decide) rfl ?_
                  refine w_goto (pt := 27) (o264_31 hB) (by decide) ?_
                  refine w_pl (pc' := 29) (lv' := [(4, (0, ((dg) / 10))), (3, (0, ((0 : Nat) : Int))), (0, (2, ((193 : Nat) : Int))), (1, (0, ((m' : Nat) : Int))), (2, (0, (dg)))]) (st' := [(0, ((dg) / 10))]) (h' := h) (o264_14 hB) rfl ?_
                  refine w_ifc (pt := 61) (pf := 32) (o264_15 hB) (by decide) rfl (fun e => ?_) (fun e => ?_)
                  · have f324 : (((dg) / 10) ≤ (0)) := e
                    refine w_pl (pc' := 62) (lv' := [(4, (0, ((dg) / 10))), (3, (0, ((0 : Nat) : Int))), (0, (2, ((193 : Nat) : Int))), (1, (0, ((m' : Nat) : Int))), (2, (0, (dg)))]) (st' := [(0, ((0 : Nat) : Int))]) (h' := h) (o264_32 hB) rfl ?_
                    refine w_ifc (pt := 67) (pf := 65) (o264_33 hB) (by decide) rfl (fun e => ?_) (fun e => ?_)
                    · have f325 : (((0 : Nat) : Int) ≠ (0)) := e
                      exfalso; omega
                    · have f326 : ¬ (((0 : Nat) : Int) ≠ (0)) := e
                      refine w_pl (pc' := 66) (lv' := [(4, (0, ((dg) / 10))), (3, (0, ((0 : Nat) : Int))), (0, (2, ((193 : Nat) : Int))), (1, (0, ((m' : Nat) : Int))), (2, (0, (dg)))]) (st' := [(0, (-1))]) (h' := h) (o264_34 hB) rfl ?_
                      exact w_iret (o264_35 hB) mr264 (by unfold in32; omega) (a0 (by omega))
                  · have f327 : ¬ (((dg) / 10) ≤ (0)) := e
                    refine w_pl (pc' := 33) (lv' := [(4, (0, ((dg) / 10))), (3, (0, ((0 : Nat) : Int))), (0, (2, ((193 : Nat) : Int))), (1, (0, ((m' : Nat) : Int))), (2, (0, (dg)))]) (st' := [(0, ((0 : Nat) : Int))]) (h' := h) (o264_16 hB) rfl ?_
                    refine w_ifc (pt := 61) (pf := 36) (o264_17 hB) (by decide) rfl (fun e => ?_) (fun e => ?_)
                    · have f328 : (((0 : Nat) : Int) = (0)) := e
                      refine w_pl (pc' := 62) (lv' := [(4, (0, ((dg) / 10))), (3, (0, ((0 : Nat) : Int))), (0, (2, ((193 : Nat) : Int))), (1, (0, ((m' : Nat) : Int))), (2, (0, (dg)))]) (st' := [(0, ((0 : Nat) : Int))]) (h' := h) (o264_32 hB) rfl ?_
                      refine w_ifc (pt := 67) (pf := 65) (o264_33 hB) (by decide) rfl (fun e => ?_) (fun e => ?_)
                      · have f329 : (((0 : Nat) : Int) ≠ (0)) := e
                        exfalso; omega
                      · have f330 : ¬ (((0 : Nat) : Int) ≠ (0)) := e
                        refine w_pl (pc' := 66) (lv' := [(4, (0, ((dg) / 10))), (3, (0, ((0 : Nat) : Int))), (0, (2, ((193 : Nat) : Int))), (1, (0, ((m' : Nat) : Int))), (2, (0, (dg)))]) (st' := [(0, (-1))]) (h' := h) (o264_34 hB) rfl ?_
                        exact w_iret (o264_35 hB) mr264 (by unfold in32; omega) (a0 (by omega))
                    · have f331 : ¬ (((0 : Nat) : Int) = (0)) := e
                      exfalso; omega
                · have f332 : ¬ (((4 : Nat) : Int) ≤ ((dg) % 10)) := e
                  refine w_pl (pc' := 46) (lv' := [(4, (0, (dg))), (3, (0, ((1 : Nat) : Int))), (0, (2, ((193 : Nat) : Int))), (1, (0, ((m' : Nat) : Int))), (2, (0, (dg)))]) (st' := [(0, ((1 : Nat) : Int))]) (h' := h) (o264_23 hB) rfl ?_
                  refine w_goto (pt := 50) (o264_24 hB) (by decide) ?_
                  refine w_st (tg := 0) (j := 3) (len := 1) (pc' := 51) (lv' := [(3, (0, ((1 : Nat) : Int))), (4, (0, (dg))), (0, (2, ((193 : Nat) : Int))), (1, (0, ((m' : Nat) : Int))), (2, (0, (dg)))]) (o264_26 hB) rfl rfl ml264 (by decide) rfl ?_
                  refine w_pl (pc' := 53) (lv' := [(3, (0, ((1 : Nat) : Int))), (4, (0, (dg))), (0, (2, ((193 : Nat) : Int))), (1, (0, ((m' : Nat) : Int))), (2, (0, (dg)))]) (st' := [(0, (dg))]) (h' := h) (o264_27 hB) rfl ?_
                  refine w_pl (pc' := 55) (lv' := [(3, (0, ((1 : Nat) : Int))), (4, (0, (dg))), (0, (2, ((193 : Nat) : Int))), (1, (0, ((m' : Nat) : Int))), (2, (0, (dg)))]) (st' := [(0, ((10 : Nat) : Int)), (0, (dg))]) (h' := h) (o264_28 hB) rfl ?_
                  refine w_idiv (z := ((dg) / 10)) (pc' := 56) (o264_29 hB) rfl (divI_p (by omega) (by omega) (by decide)) ?_
                  refine w_st (tg := 0) (j := 4) (len := 2) (pc' := 58) (lv' := [(4, (0, ((dg) / 10))), (3, (0, ((1 : Nat) : Int))), (0, (2, ((193 : Nat) : Int))), (1, (0, ((m' : Nat) : Int))), (2, (0, (dg)))]) (o264_30 hB) rfl rfl ml264 (by decide) rfl ?_
                  refine w_goto (pt := 27) (o264_31 hB) (by decide) ?_
                  refine w_pl (pc' := 29) (lv' := [(4, (0, ((dg) / 10))), (3, (0, ((1 : Nat) : Int))), (0, (2, ((193 : Nat) : Int))), (1, (0, ((m' : Nat) : Int))), (2, (0, (dg)))]) (st' := [(0, ((dg) / 10))]) (h' := h) (o264_14 hB) rfl ?_
                  refine w_ifc (pt := 61) (pf := 32) (o264_15 hB) (by decide) rfl (fun e => ?_) (fun e => ?_)
                  · have f333 : (((dg) / 10) ≤ (0)) := e
                    refine w_pl (pc' := 62) (lv' := [(4, (0, ((dg) / 10))), (3, (0, ((1 : Nat) : Int))), (0, (2, ((193 : Nat) : Int))), (1, (0, ((m' : Nat) : Int))), (2, (0, (dg)))]) (st' := [(0, ((1 : Nat) : Int))]) (h' := h) (o264_32 hB) rfl ?_
                    refine w_ifc (pt := 67) (pf := 65) (o264_33 hB) (by decide) rfl (fun e => ?_) (fun e => ?_)
                    · have f334 : (((1 : Nat) : Int) ≠ (0)) := e
                      refine w_pl (pc' := 68) (lv' := [(4, (0, ((dg) / 10))), (3, (0, ((1 : Nat) : Int))), (0, (2, ((193 : Nat) : Int))), (1, (0, ((m' : Nat) : Int))), (2, (0, (dg)))]) (st' := [(2, ((193 : Nat) : Int))]) (h' := h) (o264_36 hB) rfl ?_
                      refine w_getf (A := 193) (t := 2) (z := ((194 : Nat) : Int)) (pc' := 71) (o264_37 hB) rfl (by decide +kernel) (hR (193, 0, 194) (by decide)) ?_
                      refine w_pl (pc' := 74) (lv' := [(4, (0, ((dg) / 10))), (3, (0, ((1 : Nat) : Int))), (0, (2, ((193 : Nat) : Int))), (1, (0, ((m' : Nat) : Int))), (2, (0, (dg)))]) (st' := [(0, ((582 : Nat) : Int)), (2, ((194 : Nat) : Int))]) (h' := h) (o264_38 hB) rfl ?_
                      refine w_pl (pc' := 75) (lv' := [(4, (0, ((dg) / 10))), (3, (0, ((1 : Nat) : Int))), (0, (2, ((193 : Nat) : Int))), (1, (0, ((m' : Nat) : Int))), (2, (0, (dg)))]) (st' := [(0, ((m' : Nat) : Int)), (0, ((582 : Nat) : Int)), (2, ((194 : Nat) : Int))]) (h' := h) (o264_39 hB) rfl ?_
                      refine w_iadd (z := (((582 + m') : Nat) : Int)) (pc' := 76) (o264_40 hB) rfl (w32_e (by omega) (by omega)) ?_
                      refine w_iald (A := 194) (i := (582 + m')) (n := 1984) (z := (oz)) (pc' := 77) (o264_41 hB) rfl (by decide +kernel) (by omega) hoz ?_
                      refine w_st (tg := 0) (j := 4) (len := 2) (pc' := 79) (lv' := [(4, (0, (oz))), (3, (0, ((1 : Nat) : Int))), (0, (2, ((193 : Nat) : Int))), (1, (0, ((m' : Nat) : Int))), (2, (0, (dg)))]) (o264_42 hB) rfl rfl ml264 (by decide) rfl ?_
                      refine w_pl (pc' := 80) (lv' := [(4, (0, (oz))), (3, (0, ((1 : Nat) : Int))), (0, (2, ((193 : Nat) : Int))), (1, (0, ((m' : Nat) : Int))), (2, (0, (dg)))]) (st' := [(2, ((193 : Nat) : Int))]) (h' := h) (o264_43 hB) rfl ?_
                      refine w_getf (A := 193) (t := 2) (z := ((194 : Nat) : Int)) (pc' := 83) (o264_44 hB) rfl (by decide +kernel) (hR (193, 0, 194) (by decide)) ?_
                      refine w_pl (pc' := 86) (lv' := [(4, (0, (oz))), (3, (0, ((1 : Nat) : Int))), (0, (2, ((193 : Nat) : Int))), (1, (0, ((m' : Nat) : Int))), (2, (0, (dg)))]) (st' := [(0, ((582 : Nat) : Int)), (2, ((194 : Nat) : Int))]) (h' := h) (o264_45 hB) rfl ?_
                      refine w_pl (pc' := 87) (lv' := [(4, (0, (oz))), (3, (0, ((1 : Nat) : Int))), (0, (2, ((193 : Nat) : Int))), (1, (0, ((m' : Nat) : Int))), (2, (0, (dg)))]) (st' := [(0, ((m' : Nat) : Int)), (0, ((582 : Nat) : Int)), (2, ((194 : Nat) : Int))]) (h' := h) (o264_46 hB) rfl ?_
                      refine w_iadd (z := (((582 + m') : Nat) : Int)) (pc' := 88) (o264_47 hB) rfl (w32_e (by omega) (by omega)) ?_
                      refine w_pl (pc' := 89) (lv' := [(4, (0, (oz))), (3, (0, ((1 : Nat) : Int))), (0, (2, ((193 : Nat) : Int))), (1, (0, ((m' : Nat) : Int))), (2, (0, (dg)))]) (st' := [(0, (dg)), (0, (((582 + m') : Nat) : Int)), (2, ((194 : Nat) : Int))]) (h' := h) (o264_48 hB) rfl ?_
                      refine w_iast (A := 194) (i := (582 + m')) (n := 1984) (pc' := 90) (o264_49 hB) rfl (by decide +kernel) (by omega) ?_
                      refine w_pl (pc' := 92) (lv' := [(4, (0, (oz))), (3, (0, ((1 : Nat) : Int))), (0, (2, ((193 : Nat) : Int))), (1, (0, ((m' : Nat) : Int))), (2, (0, (dg)))]) (st' := [(0, (oz))]) (h' := (hup h 194 ((582 + m')) (dg))) (o264_50 hB) rfl ?_
                      exact w_iret (o264_51 hB) mr264 (by unfold in32; omega) (a1 (by omega))
                    · have f335 : ¬ (((1 : Nat) : Int) ≠ (0)) := e
                      exfalso; omega
                  · have f336 : ¬ (((dg) / 10) ≤ (0)) := e
                    refine w_pl (pc' := 33) (lv' := [(4, (0, ((dg) / 10))), (3, (0, ((1 : Nat) : Int))), (0, (2, ((193 : Nat) : Int))), (1, (0, ((m' : Nat) : Int))), (2, (0, (dg)))]) (st' := [(0, ((1 : Nat) : Int))]) (h' := h) (o264_16 hB) rfl ?_
                    refine w_ifc (pt := 61) (pf := 36) (o264_17 hB) (by decide) rfl (fun e => ?_) (fun e => ?_)
                    · have f337 : (((1 : Nat) : Int) = (0)) := e
                      exfalso; omega
                    · have f338 : ¬ (((1 : Nat) : Int) = (0)) := e
                      refine w_pl (pc' := 38) (lv' := [(4, (0, ((dg) / 10))), (3, (0, ((1 : Nat) : Int))), (0, (2, ((193 : Nat) : Int))), (1, (0, ((m' : Nat) : Int))), (2, (0, (dg)))]) (st' := [(0, ((dg) / 10))]) (h' := h) (o264_18 hB) rfl ?_
                      refine w_pl (pc' := 40) (lv' := [(4, (0, ((dg) / 10))), (3, (0, ((1 : Nat) : Int))), (0, (2, ((193 : Nat) : Int))), (1, (0, ((m' : Nat) : Int))), (2, (0, (dg)))]) (st' := [(0, ((10 : Nat) : Int)), (0, ((dg) / 10))]) (h' := h) (o264_19 hB) rfl ?_
                      refine w_irem (z := (((dg) / 10) % 10)) (pc' := 41) (o264_20 hB) rfl (remI_p (by omega) (by decide)) ?_
                      refine w_pl (pc' := 42) (lv' := [(4, (0, ((dg) / 10))), (3, (0, ((1 : Nat) : Int))), (0, (2, ((193 : Nat) : Int))), (1, (0, ((m' : Nat) : Int))), (2, (0, (dg)))]) (st' := [(0, ((4 : Nat) : Int)), (0, (((dg) / 10) % 10))]) (h' := h) (o264_21 hB) rfl ?_
                      refine w_icmp (pt := 49) (pf := 45) (o264_22 hB) (by decide) rfl (fun e => ?_) (fun e => ?_)
                      · have f339 : (((4 : Nat) : Int) ≤ (((dg) / 10) % 10)) := e
                        refine w_pl (pc' := 50) (lv' := [(4, (0, ((dg) / 10))), (3, (0, ((1 : Nat) : Int))), (0, (2, ((193 : Nat) : Int))), (1, (0, ((m' : Nat) : Int))), (2, (0, (dg)))]) (st' := [(0, ((0 : Nat) : Int))]) (h' := h) (o264_25 hB) rfl ?_
                        refine w_st (tg := 0) (j := 3) (len := 1) (pc' := 51) (lv' := [(3, (0, ((0 : Nat) : Int))), (4, (0, ((dg) / 10))), (0, (2, ((193 : Nat) : Int))), (1, (0, ((m' : Nat) : Int))), (2, (0, (dg)))]) (o264_26 hB) rfl rfl ml264 (by decide) rfl ?_
                        refine w_pl (pc' := 53) (lv' := [(3, (0, ((0 : Nat) : Int))), (4, (0, ((dg) / 10))), (0, (2, ((193 : Nat) : Int))), (1, (0, ((m' : Nat) : Int))), (2, (0, (dg)))]) (st' := [(0, ((dg) / 10))]) (h' := h) (o264_27 hB) rfl ?_
                        refine w_pl (pc' := 55) (lv' := [(3, (0, ((0 : Nat) : Int))), (4, (0, ((dg) / 10))), (0, (2, ((193 : Nat) : Int))), (1, (0, ((m' : Nat) : Int))), (2, (0, (dg)))]) (st' := [(0, ((10 : Nat) : Int)), (0, ((dg) / 10))]) (h' := h) (o264_28 hB) rfl ?_
                        refine w_idiv (z := (((dg) / 10) / 10)) (pc' := 56) (o264_29 hB) rfl (divI_p (by omega) (by omega) (by decide)) ?_
                        refine w_st (tg := 0) (j := 4) (len := 2) (pc' := 58) (lv' := [(4, (0, (((dg) / 10) / 10))), (3, (0, ((0 : Nat) : Int))), (0, (2, ((193 : Nat) : Int))), (1, (0, ((m' : Nat) : Int))), (2, (0, (dg)))]) (o264_30 hB) rfl rfl ml264 (by decide) rfl ?_
                        refine w_goto (pt := 27) (o264_31 hB) (by decide) ?_
                        refine w_pl (pc' := 29) (lv' := [(4, (0, (((dg) / 10) / 10))), (3, (0, ((0 : Nat) : Int))), (0, (2, ((193 : Nat) : Int))), (1, (0, ((m' : Nat) : Int))), (2, (0, (dg)))]) (st' := [(0, (((dg) / 10) / 10))]) (h' := h) (o264_14 hB) rfl ?_
                        refine w_ifc (pt := 61) (pf := 32) (o264_15 hB) (by decide) rfl (fun e => ?_) (fun e => ?_)
                        · have f340 : ((((dg) / 10) / 10) ≤ (0)) := e
                          refine w_pl (pc' := 62) (lv' := [(4, (0, (((dg) / 10) / 10))), (3, (0, ((0 : Nat) : Int))), (0, (2, ((193 : Nat) : Int))), (1, (0, ((m' : Nat) : Int))), (2, (0, (dg)))]) (st' := [(0, ((0 : Nat) : Int))]) (h' := h) (o264_32 hB) rfl ?_
                          refine w_ifc (pt := 67) (pf := 65) (o264_33 hB) (by decide) rfl (fun e => ?_) (fun e => ?_)
                          · have f341 : (((0 : Nat) : Int) ≠ (0)) := e
                            exfalso; omega
                          · have f342 : ¬ (((0 : Nat) : Int) ≠ (0)) := e
                            refine w_pl (pc' := 66) (lv' := [(4, (0, (((dg) / 10) / 10))), (3, (0, ((0 : Nat) : Int))), (0, (2, ((193 : Nat) : Int))), (1, (0, ((m' : Nat) : Int))), (2, (0, (dg)))]) (st' := [(0, (-1))]) (h' := h) (o264_34 hB) rfl ?_
                            exact w_iret (o264_35 hB) mr264 (by unfold in32; omega) (a0 (by omega))
                        · have f343 : ¬ ((((dg) / 10) / 10) ≤ (0)) := e
                          refine w_pl (pc' := 33) (lv' := [(4, (0, (((dg) / 10) / 10))), (3, (0, ((0 : Nat) : Int))), (0, (2, ((193 : Nat) : Int))), (1, (0, ((m' : Nat) : Int))), (2, (0, (dg)))]) (st' := [(0, ((0 : Nat) : Int))]) (h' := h) (o264_16 hB) rfl ?_
                          refine w_ifc (pt := 61) (pf := 36) (o264_17 hB) (by decide) rfl (fun e => ?_) (fun e => ?_)
                          · have f344 : (((0 : Nat) : Int) = (0)) := e
                            refine w_pl (pc' := 62) (lv' := [(4, (0, (((dg) / 10) / 10))), (3, (0, ((0 : Nat) : Int))), (0, (2, ((193 : Nat) : Int))), (1, (0, ((m' : Nat) : Int))), (2, (0, (dg)))]) (st' := [(0, ((0 : Nat) : Int))]) (h' := h) (o264_32 hB) rfl ?_
                            refine w_ifc (pt := 67) (pf := 65) (o264_33 hB) (by decide) rfl (fun e => ?_) (fun e => ?_)
                            · have f345 : (((0 : Nat) : Int) ≠ (0)) := e
                              exfalso; omega
                            · have f346 : ¬ (((0 : Nat) : Int) ≠ (0)) := e
                              refine w_pl (pc' := 66) (lv' := [(4, (0, (((dg) / 10) / 10))), (3, (0, ((0 : Nat) : Int))), (0, (2, ((193 : Nat) : Int))), (1, (0, ((m' : Nat) : Int))), (2, (0, (dg)))]) (st' := [(0, (-1))]) (h' := h) (o264_34 hB) rfl ?_
                              exact w_iret (o264_35 hB) mr264 (by unfold in32; omega) (a0 (by omega))
                          · have f347 : ¬ (((0 : Nat) : Int) = (0)) := e
                            exfalso; omega
                      · have f348 : ¬ (((4 : Nat) : Int) ≤ (((dg) / 10) % 10)) := e
                        refine w_pl (pc' := 46) (lv' := [(4, (0, ((dg) / 10))), (3, (0, ((1 : Nat) : Int))), (0, (2, ((193 : Nat) : Int))), (1, (0, ((m' : Nat) : Int))), (2, (0, (dg)))]) (st' := [(0, ((1 : Nat) : Int))]) (h' := h) (o264_23 hB) rfl ?_
                        refine w_goto (pt := 50) (o264_24 hB) (by decide) ?_
                        refine w_st (tg := 0) (j := 3) (len := 1) (pc' := 51) (lv' := [(3, (0, ((1 : Nat) : Int))), (4, (0, ((dg) / 10))), (0, (2, ((193 : Nat) : Int))), (1, (0, ((m' : Nat) : Int))), (2, (0, (dg)))]) (o264_26 hB) rfl rfl ml264 (by decide) rfl ?_
                        refine w_pl (pc' := 53) (lv' := [(3, (0, ((1 : Nat) : Int))), (4, (0, ((dg) / 10))), (0, (2, ((193 : Nat) : Int))), (1, (0, ((m' : Nat) : Int))), (2, (0, (dg)))]) (st' := [(0, ((dg) / 10))]) (h' := h) (o264_27 hB) rfl ?_
                        refine w_pl (pc' := 55) (lv' := [(3, (0, ((1 : Nat) : Int))), (4, (0, ((dg) / 10))), (0, (2, ((193 : Nat) : Int))), (1, (0, ((m' : Nat) : Int))), (2, (0, (dg)))]) (st' := [(0, ((10 : Nat) : Int)), (0, ((dg) / 10))]) (h' := h) (o264_28 hB) rfl ?_
                        refine w_idiv (z := (((dg) / 10) / 10)) (pc' := 56) (o264_29 hB) rfl (divI_p (by omega) (by omega) (by decide)) ?_
                        refine w_st (tg := 0) (j := 4) (len := 2) (pc' := 58) (lv' := [(4, (0, (((dg) / 10) / 10))), (3, (0, ((1 : Nat) : Int))), (0, (2, ((193 : Nat) : Int))), (1, (0, ((m' : Nat) : Int))), (2, (0, (dg)))]) (o264_30 hB) rfl rfl ml264 (by decide) rfl ?_
                        refine w_goto (pt := 27) (o264_31 hB) (by decide) ?_
                        refine w_pl (pc' := 29) (lv' := [(4, (0, (((dg) / 10) / 10))), (3, (0, ((1 : Nat) : Int))), (0, (2, ((193 : Nat) : Int))), (1, (0, ((m' : Nat) : Int))), (2, (0, (dg)))]) (st' := [(0, (((dg) / 10) / 10))]) (h' := h) (o264_14 hB) rfl ?_
                        refine w_ifc (pt := 61) (pf := 32) (o264_15 hB) (by decide) rfl (fun e => ?_) (fun e => ?_)
                        · have f349 : ((((dg) / 10) / 10) ≤ (0)) := e
                          refine w_pl (pc' := 62) (lv' := [(4, (0, (((dg) / 10) / 10))), (3, (0, ((1 : Nat) : Int))), (0, (2, ((193 : Nat) : Int))), (1, (0, ((m' : Nat) : Int))), (2, (0, (dg)))]) (st' := [(0, ((1 : Nat) : Int))]) (h' := h) (o264_32 hB) rfl ?_
                          refine w_ifc (pt := 67) (pf := 65) (o264_33 hB) (by decide) rfl (fun e => ?_) (fun e => ?_)
                          · have f350 : (((1 : Nat) : Int) ≠ (0)) := e
                            refine w_pl (pc' := 68) (lv' := [(4, (0, (((dg) / 10) / 10))), (3, (0, ((1 : Nat) : Int))), (0, (2, ((193 : Nat) : Int))), (1, (0, ((m' : Nat) : Int))), (2, (0, (dg)))]) (st' := [(2, ((193 : Nat) : Int))]) (h' := h) (o264_36 hB) rfl ?_
                            refine w_getf (A := 193) (t := 2) (z := ((194 : Nat) : Int)) (pc' := 71) (o264_37 hB) rfl (by decide +kernel) (hR (193, 0, 194) (by decide)) ?_
                            refine w_pl (pc' := 74) (lv' := [(4, (0, (((dg) / 10) / 10))), (3, (0, ((1 : Nat) : Int))), (0, (2, ((193 : Nat) : Int))), (1, (0, ((m' : Nat) : Int))), (2, (0, (dg)))]) (st' := [(0, ((582 : Nat) : Int)), (2, ((194 : Nat) : Int))]) (h' := h) (o264_38 hB) rfl ?_
                            refine w_pl (pc' := 75) (lv' := [(4, (0, (((dg) / 10) / 10))), (3, (0, ((1 : Nat) : Int))), (0, (2, ((193 : Nat) : Int))), (1, (0, ((m' : Nat) : Int))), (2, (0, (dg)))]) (st' := [(0, ((m' : Nat) : Int)), (0, ((582 : Nat) : Int)), (2, ((194 : Nat) : Int))]) (h' := h) (o264_39 hB) rfl ?_
                            refine w_iadd (z := (((582 + m') : Nat) : Int)) (pc' := 76) (o264_40 hB) rfl (w32_e (by omega) (by omega)) ?_
                            refine w_iald (A := 194) (i := (582 + m')) (n := 1984) (z := (oz)) (pc' := 77) (o264_41 hB) rfl (by decide +kernel) (by omega) hoz ?_
                            refine w_st (tg := 0) (j := 4) (len := 2) (pc' := 79) (lv' := [(4, (0, (oz))), (3, (0, ((1 : Nat) : Int))), (0, (2, ((193 : Nat) : Int))), (1, (0, ((m' : Nat) : Int))), (2, (0, (dg)))]) (o264_42 hB) rfl rfl ml264 (by decide) rfl ?_
                            refine w_pl (pc' := 80) (lv' := [(4, (0, (oz))), (3, (0, ((1 : Nat) : Int))), (0, (2, ((193 : Nat) : Int))), (1, (0, ((m' : Nat) : Int))), (2, (0, (dg)))]) (st' := [(2, ((193 : Nat) : Int))]) (h' := h) (o264_43 hB) rfl ?_
                            refine w_getf (A := 193) (t := 2) (z := ((194 : Nat) : Int)) (pc' := 83) (o264_44 hB) rfl (by decide +kernel) (hR (193, 0, 194) (by decide)) ?_
                            refine w_pl (pc' := 86) (lv' := [(4, (0, (oz))), (3, (0, ((1 : Nat) : Int))), (0, (2, ((193 : Nat) : Int))), (1, (0, ((m' : Nat) : Int))), (2, (0, (dg)))]) (st' := [(0, ((582 : Nat) : Int)), (2, ((194 : Nat) : Int))]) (h' := h) (o264_45 hB) rfl ?_
                            refine w_pl (pc' := 87) (lv' := [(4, (0, (oz))), (3, (0, ((1 : Nat) : Int))), (0, (2, ((193 : Nat) : Int))), (1, (0, ((m' : Nat) : Int))), (2, (0, (dg)))]) (st' := [(0, ((m' : Nat) : Int)), (0, ((582 : Nat) : Int)), (2, ((194 : Nat) : Int))]) (h' := h) (o264_46 hB) rfl ?_
                            refine w_iadd (z := (((582 + m') : Nat) : Int)) (pc' := 88) (o264_47 hB) rfl (w32_e (by omega) (by omega)) ?_
                            refine w_pl (pc' := 89) (lv' := [(4, (0, (oz))), (3, (0, ((1 : Nat) : Int))), (0, (2, ((193 : Nat) : Int))), (1, (0, ((m' : Nat) : Int))), (2, (0, (dg)))]) (st' := [(0, (dg)), (0, (((582 + m') : Nat) : Int)), (2, ((194 : Nat) : Int))]) (h' := h) (o264_48 hB) rfl ?_
                            refine w_iast (A := 194) (i := (582 + m')) (n := 1984) (pc' := 90) (o264_49 hB) rfl (by decide +kernel) (by omega) ?_
                            refine w_pl (pc' := 92) (lv' := [(4, (0, (oz))), (3, (0, ((1 : Nat) : Int))), (0, (2, ((193 : Nat) : Int))), (1, (0, ((m' : Nat) : Int))), (2, (0, (dg)))]) (st' := [(0, (oz))]) (h' := (hup h 194 ((582 + m')) (dg))) (o264_50 hB) rfl ?_
                            exact w_iret (o264_51 hB) mr264 (by unfold in32; omega) (a1 (by omega))
                          · have f351 : ¬ (((1 : Nat) : Int) ≠ (0)) := e
                            exfalso; omega
                        · have f352 : ¬ ((((dg) / 10) / 10) ≤ (0)) := e
                          refine w_pl (pc' := 33) (lv' := [(4, (0, (((dg) / 10) / 10))), (3, (0, ((1 : Nat) : Int))), (0, (2, ((193 : Nat) : Int))), (1, (0, ((m' : Nat) : Int))), (2, (0, (dg)))]) (st' := [(0, ((1 : Nat) : Int))]) (h' := h) (o264_16 hB) rfl ?_
                          refine w_ifc (pt := 61) (pf := 36) (o264_17 hB) (by decide) rfl (fun e => ?_) (fun e => ?_)
                          · have f353 : (((1 : Nat) : Int) = (0)) := e
                            exfalso; omega
                          · have f354 : ¬ (((1 : Nat) : Int) = (0)) := e
                            refine w_pl (pc' := 38) (lv' := [(4, (0, (((dg) / 10) / 10))), (3, (0, ((1 : Nat) : Int))), (0, (2, ((193 : Nat) : Int))), (1, (0, ((m' : Nat) : Int))), (2, (0, (dg)))]) (st' := [(0, (((dg) / 10) / 10))]) (h' := h) (o264_18 hB) rfl ?_
                            refine w_pl (pc' := 40) (lv' := [(4, (0, (((dg) / 10) / 10))), (3, (0, ((1 : Nat) : Int))), (0, (2, ((193 : Nat) : Int))), (1, (0, ((m' : Nat) : Int))), (2, (0, (dg)))]) (st' := [(0, ((10 : Nat) : Int)), (0, (((dg) / 10) / 10))]) (h' := h) (o264_19 hB) rfl ?_
                            refine w_irem (z := ((((dg) / 10) / 10) % 10)) (pc' := 41) (o264_20 hB) rfl (remI_p (by omega) (by decide)) ?_
                            refine w_pl (pc' := 42) (lv' := [(4, (0, (((dg) / 10) / 10))), (3, (0, ((1 : Nat) : Int))), (0, (2, ((193 : Nat) : Int))), (1, (0, ((m' : Nat) : Int))), (2, (0, (dg)))]) (st' := [(0, ((4 : Nat) : Int)), (0, ((((dg) / 10) / 10) % 10))]) (h' := h) (o264_21 hB) rfl ?_
                            refine w_icmp (pt := 49) (pf := 45) (o264_22 hB) (by decide) rfl (fun e => ?_) (fun e => ?_)
                            · have f355 : (((4 : Nat) : Int) ≤ ((((dg) / 10) / 10) % 10)) := e
                              refine w_pl (pc' := 50) (lv' := [(4, (0, (((dg) / 10) / 10))), (3, (0, ((1 : Nat) : Int))), (0, (2, ((193 : Nat) : Int))), (1, (0, ((m' : Nat) : Int))), (2, (0, (dg)))]) (st' := [(0, ((0 : Nat) : Int))]) (h' := h) (o264_25 hB) rfl ?_
                              refine w_st (tg := 0) (j := 3) (len := 1) (pc' := 51) (lv' := [(3, (0, ((0 : Nat) : Int))), (4, (0, (((dg) / 10) / 10))), (0, (2, ((193 : Nat) : Int))), (1, (0, ((m' : Nat) : Int))), (2, (0, (dg)))]) (o264_26 hB) rfl rfl ml264 (by decide) rfl ?_
                              refine w_pl (pc' := 53) (lv' := [(3, (0, ((0 : Nat) : Int))), (4, (0, (((dg) / 10) / 10))), (0, (2, ((193 : Nat) : Int))), (1, (0, ((m' : Nat) : Int))), (2, (0, (dg)))]) (st' := [(0, (((dg) / 10) / 10))]) (h' := h) (o264_27 hB) rfl ?_
                              refine w_pl (pc' := 55) (lv' := [(3, (0, ((0 : Nat) : Int))), (4, (0, (((dg) / 10) / 10))), (0, (2, ((193 : Nat) : Int))), (1, (0, ((m' : Nat) : Int))), (2, (0, (dg)))]) (st' := [(0, ((10 : Nat) : Int)), (0, (((dg) / 10) / 10))]) (h' := h) (o264_28 hB) rfl ?_
                              refine w_idiv (z := ((((dg) / 10) / 10) / 10)) (pc' := 56) (o264_29 hB) rfl (divI_p (by omega) (by omega) (by decide)) ?_
                              refine w_st (tg := 0) (j := 4) (len := 2) (pc' := 58) (lv' := [(4, (0, ((((dg) / 10) / 10) / 10))), (3, (0, ((0 : Nat) : Int))), (0, (2, ((193 : Nat) : Int))), (1, (0, ((m' : Nat) : Int))), (2, (0, (dg)))]) (o264_30 hB) rfl rfl ml264 (by decide) rfl ?_
                              refine w_goto (pt := 27) (o264_31 hB) (by decide) ?_
                              refine w_pl (pc' := 29) (lv' := [(4, (0, ((((dg) / 10) / 10) / 10))), (3, (0, ((0 : Nat) : Int))), (0, (2, ((193 : Nat) : Int))), (1, (0, ((m' : Nat) : Int))), (2, (0, (dg)))]) (st' := [(0, ((((dg) / 10) / 10) / 10))]) (h' := h) (o264_14 hB) rfl ?_
                              refine w_ifc (pt := 61) (pf := 32) (o264_15 hB) (by decide) rfl (fun e => ?_) (fun e => ?_)
                              · have f356 : (((((dg) / 10) / 10) / 10) ≤ (0)) := e
                                refine w_pl (pc' := 62) (lv' := [(4, (0, ((((dg) / 10) / 10) / 10))), (3, (0, ((0 : Nat) : Int))), (0, (2, ((193 : Nat) : Int))), (1, (0, ((m' : Nat) : Int))), (2, (0, (dg)))]) (st' := [(0, ((0 : Nat) : Int))]) (h' := h) (o264_32 hB) rfl ?_
                                refine w_ifc (pt := 67) (pf := 65) (o264_33 hB) (by decide) rfl (fun e => ?_) (fun e => ?_)
                                · have f357 : (((0 : Nat) : Int) ≠ (0)) := e
                                  exfalso; omega
                                · have f358 : ¬ (((0 : Nat) : Int) ≠ (0)) := e
                                  refine w_pl (pc' := 66) (lv' := [(4, (0, ((((dg) / 10) / 10) / 10))), (3, (0, ((0 : Nat) : Int))), (0, (2, ((193 : Nat) : Int))), (1, (0, ((m' : Nat) : Int))), (2, (0, (dg)))]) (st' := [(0, (-1))]) (h' := h) (o264_34 hB) rfl ?_
                                  exact w_iret (o264_35 hB) mr264 (by unfold in32; omega) (a0 (by omega))
                              · have f359 : ¬ (((((dg) / 10) / 10) / 10) ≤ (0)) := e
                                refine w_pl (pc' := 33) (lv' := [(4, (0, ((((dg) / 10) / 10) / 10))), (3, (0, ((0 : Nat) : Int))), (0, (2, ((193 : Nat) : Int))), (1, (0, ((m' : Nat) : Int))), (2, (0, (dg)))]) (st' := [(0, ((0 : Nat) : Int))]) (h' := h) (o264_16 hB) rfl ?_
                                refine w_ifc (pt := 61) (pf := 36) (o264_17 hB) (by decide) rfl (fun e => ?_) (fun e => ?_)
                                · have f360 : (((0 : Nat) : Int) = (0)) := e
                                  refine w_pl (pc' := 62) (lv' := [(4, (0, ((((dg) / 10) / 10) / 10))), (3, (0, ((0 : Nat) : Int))), (0, (2, ((193 : Nat) : Int))), (1, (0, ((m' : Nat) : Int))), (2, (0, (dg)))]) (st' := [(0, ((0 : Nat) : Int))]) (h' := h) (o264_32 hB) rfl ?_
                                  refine w_ifc (pt := 67) (pf := 65) (o264_33 hB) (by decide) rfl (fun e => ?_) (fun e => ?_)
                                  · have f361 : (((0 : Nat) : Int) ≠ (0)) := e
                                    exfalso; omega
                                  · have f362 : ¬ (((0 : Nat) : Int) ≠ (0)) := e
                                    refine w_pl (pc' := 66) (lv' := [(4, (0, ((((dg) / 10) / 10) / 10))), (3, (0, ((0 : Nat) : Int))), (0, (2, ((193 : Nat) : Int))), (1, (0, ((m' : Nat) : Int))), (2, (0, (dg)))]) (st' := [(0, (-1))]) (h' := h) (o264_34 hB) rfl ?_
                                    exact w_iret (o264_35 hB) mr264 (by unfold in32; omega) (a0 (by omega))
                                · have f363 : ¬ (((0 : Nat) : Int) = (0)) := e
                                  exfalso; omega
                            · have f364 : ¬ (((4 : Nat) : Int) ≤ ((((dg) / 10) / 10) % 10)) := e
                              refine w_pl (pc' := 46) (lv' := [(4, (0, (((dg) / 10) / 10))), (3, (0, ((1 : Nat) : Int))), (0, (2, ((193 : Nat) : Int))), (1, (0, ((m' : Nat) : Int))), (2, (0, (dg)))]) (st' := [(0, ((1 : Nat) : Int))]) (h' := h) (o264_23 hB) rfl ?_
                              refine w_goto (pt := 50) (o264_24 hB) (by decide) ?_
                              refine w_st (tg := 0) (j := 3) (len := 1) (pc' := 51) (lv' := [(3, (0, ((1 : Nat) : Int))), (4, (0, (((dg) / 10) / 10))), (0, (2, ((193 : Nat) : Int))), (1, (0, ((m' : Nat) : Int))), (2, (0, (dg)))]) (o264_26 hB) rfl rfl ml264 (by decide) rfl ?_
                              refine w_pl (pc' := 53) (lv' := [(3, (0, ((1 : Nat) : Int))), (4, (0, (((dg) / 10) / 10))), (0, (2, ((193 : Nat) : Int))), (1, (0, ((m' : Nat) : Int))), (2, (0, (dg)))]) (st' := [(0, (((dg) / 10) / 10))]) (h' := h) (o264_27 hB) rfl ?_
                              refine w_pl (pc' := 55) (lv' := [(3, (0, ((1 : Nat) : Int))), (4, (0, (((dg) / 10) / 10))), (0, (2, ((193 : Nat) : Int))), (1, (0, ((m' : Nat) : Int))), (2, (0, (dg)))]) (st' := [(0, ((10 : Nat) : Int)), (0, (((dg) / 10) / 10))]) (h' := h) (o264_28 hB) rfl ?_
                              refine w_idiv (z := ((((dg) / 10) / 10) / 10)) (pc' := 56) (o264_29 hB) rfl (divI_p (by omega) (by omega) (by decide)) ?_
                              refine w_st (tg := 0) (j := 4) (len := 2) (pc' := 58) (lv' := [(4, (0, ((((dg) / 10) / 10) / 10))), (3, (0, ((1 : Nat) : Int))), (0, (2, ((193 : Nat) : Int))), (1, (0, ((m' : Nat) : Int))), (2, (0, (dg)))]) (o264_30 hB) rfl rfl ml264 (by decide) rfl ?_
                              refine w_goto (pt := 27) (o264_31 hB) (by decide) ?_
                              refine w_pl (pc' := 29) (lv' := [(4, (0, ((((dg) / 10) / 10) / 10))), (3, (0, ((1 : Nat) : Int))), (0, (2, ((193 : Nat) : Int))), (1, (0, ((m' : Nat) : Int))), (2, (0, (dg)))]) (st' := [(0, ((((dg) / 10) / 10) / 10))]) (h' := h) (o264_14 hB) rfl ?_
                              refine w_ifc (pt := 61) (pf := 32) (o264_15 hB) (by decide) rfl (fun e => ?_) (fun e => ?_)
                              · have f365 : (((((dg) / 10) / 10) / 10) ≤ (0)) := e
                                refine w_pl (pc' := 62) (lv' := [(4, (0, ((((dg) / 10) / 10) / 10))), (3, (0, ((1 : Nat) : Int))), (0, (2, ((193 : Nat) : Int))), (1, (0, ((m' : Nat) : Int))), (2, (0, (dg)))]) (st' := [(0, ((1 : Nat) : Int))]) (h' := h) (o264_32 hB) rfl ?_
                                refine w_ifc (pt := 67) (pf := 65) (o264_33 hB) (by decide) rfl (fun e => ?_) (fun e => ?_)
                                · have f366 : (((1 : Nat) : Int) ≠ (0)) := e
                                  refine w_pl (pc' := 68) (lv' := [(4, (0, ((((dg) / 10) / 10) / 10))), (3, (0, ((1 : Nat) : Int))), (0, (2, ((193 : Nat) : Int))), (1, (0, ((m' : Nat) : Int))), (2, (0, (dg)))]) (st' := [(2, ((193 : Nat) : Int))]) (h' := h) (o264_36 hB) rfl ?_
                                  refine w_getf (A := 193) (t := 2) (z := ((194 : Nat) : Int)) (pc' := 71) (o264_37 hB) rfl (by decide +kernel) (hR (193, 0, 194) (by decide)) ?_
                                  refine w_pl (pc' := 74) (lv' := [(4, (0, ((((dg) / 10) / 10) / 10))), (3, (0, ((1 : Nat) : Int))), (0, (2, ((193 : Nat) : Int))), (1, (0, ((m' : Nat) : Int))), (2, (0, (dg)))]) (st' := [(0, ((582 : Nat) : Int)), (2, ((194 : Nat) : Int))]) (h' := h) (o264_38 hB) rfl ?_
                                  refine w_pl (pc' := 75) (lv' := [(4, (0, ((((dg) / 10) / 10) / 10))), (3, (0, ((1 : Nat) : Int))), (0, (2, ((193 : Nat) : Int))), (1, (0, ((m' : Nat) : Int))), (2, (0, (dg)))]) (st' := [(0, ((m' : Nat) : Int)), (0, ((582 : Nat) : Int)), (2, ((194 : Nat) : Int))]) (h' := h) (o264_39 hB) rfl ?_
                                  refine w_iadd (z := (((582 + m') : Nat) : Int)) (pc' := 76) (o264_40 hB) rfl (w32_e (by omega) (by omega)) ?_
                                  refine w_iald (A := 194) (i := (582 + m')) (n := 1984) (z := (oz)) (pc' := 77) (o264_41 hB) rfl (by decide +kernel) (by omega) hoz ?_
                                  refine w_st (tg := 0) (j := 4) (len := 2) (pc' := 79) (lv' := [(4, (0, (oz))), (3, (0, ((1 : Nat) : Int))), (0, (2, ((193 : Nat) : Int))), (1, (0, ((m' : Nat) : Int))), (2, (0, (dg)))]) (o264_42 hB) rfl rfl ml264 (by decide) rfl ?_
                                  refine w_pl (pc' := 80) (lv' := [(4, (0, (oz))), (3, (0, ((1 : Nat) : Int))), (0, (2, ((193 : Nat) : Int))), (1, (0, ((m' : Nat) : Int))), (2, (0, (dg)))]) (st' := [(2, ((193 : Nat) : Int))]) (h' := h) (o264_43 hB) rfl ?_
                                  refine w_getf (A := 193) (t := 2) (z := ((194 : Nat) : Int)) (pc' := 83) (o264_44 hB) rfl (by decide +kernel) (hR (193, 0, 194) (by decide)) ?_
                                  refine w_pl (pc' := 86) (lv' := [(4, (0, (oz))), (3, (0, ((1 : Nat) : Int))), (0, (2, ((193 : Nat) : Int))), (1, (0, ((m' : Nat) : Int))), (2, (0, (dg)))]) (st' := [(0, ((582 : Nat) : Int)), (2, ((194 : Nat) : Int))]) (h' := h) (o264_45 hB) rfl ?_
                                  refine w_pl (pc' := 87) (lv' := [(4, (0, (oz))), (3, (0, ((1 : Nat) : Int))), (0, (2, ((193 : Nat) : Int))), (1, (0, ((m' : Nat) : Int))), (2, (0, (dg)))]) (st' := [(0, ((m' : Nat) : Int)), (0, ((582 : Nat) : Int)), (2, ((194 : Nat) : Int))]) (h' := h) (o264_46 hB) rfl ?_
                                  refine w_iadd (z := (((582 + m') : Nat) : Int)) (pc' := 88) (o264_47 hB) rfl (w32_e (by omega) (by omega)) ?_
                                  refine w_pl (pc' := 89) (lv' := [(4, (0, (oz))), (3, (0, ((1 : Nat) : Int))), (0, (2, ((193 : Nat) : Int))), (1, (0, ((m' : Nat) : Int))), (2, (0, (dg)))]) (st' := [(0, (dg)), (0, (((582 + m') : Nat) : Int)), (2, ((194 : Nat) : Int))]) (h' := h) (o264_48 hB) rfl ?_
                                  refine w_iast (A := 194) (i := (582 + m')) (n := 1984) (pc' := 90) (o264_49 hB) rfl (by decide +kernel) (by omega) ?_
                                  refine w_pl (pc' := 92) (lv' := [(4, (0, (oz))), (3, (0, ((1 : Nat) : Int))), (0, (2, ((193 : Nat) : Int))), (1, (0, ((m' : Nat) : Int))), (2, (0, (dg)))]) (st' := [(0, (oz))]) (h' := (hup h 194 ((582 + m')) (dg))) (o264_50 hB) rfl ?_
                                  exact w_iret (o264_51 hB) mr264 (by unfold in32; omega) (a1 (by omega))
                                · have f367 : ¬ (((1 : Nat) : Int) ≠ (0)) := e
                                  exfalso; omega
                              · have f368 : ¬ (((((dg) / 10) / 10) / 10) ≤ (0)) := e
                                refine w_pl (pc' := 33) (lv' := [(4, (0, ((((dg) / 10) / 10) / 10))), (3, (0, ((1 : Nat) : Int))), (0, (2, ((193 : Nat) : Int))), (1, (0, ((m' : Nat) : Int))), (2, (0, (dg)))]) (st' := [(0, ((1 : Nat) : Int))]) (h' := h) (o264_16 hB) rfl ?_
                                refine w_ifc (pt := 61) (pf := 36) (o264_17 hB) (by decide) rfl (fun e => ?_) (fun e => ?_)
                                · have f369 : (((1 : Nat) : Int) = (0)) := e
                                  exfalso; omega
                                · have f370 : ¬ (((1 : Nat) : Int) = (0)) := e
                                  refine w_pl (pc' := 38) (lv' := [(4, (0, ((((dg) / 10) / 10) / 10))), (3, (0, ((1 : Nat) : Int))), (0, (2, ((193 : Nat) : Int))), (1, (0, ((m' : Nat) : Int))), (2, (0, (dg)))]) (st' := [(0, ((((dg) / 10) / 10) / 10))]) (h' := h) (o264_18 hB) rfl ?_
                                  refine w_pl (pc' := 40) (lv' := [(4, (0, ((((dg) / 10) / 10) / 10))), (3, (0, ((1 : Nat) : Int))), (0, (2, ((193 : Nat) : Int))), (1, (0, ((m' : Nat) : Int))), (2, (0, (dg)))]) (st' := [(0, ((10 : Nat) : Int)), (0, ((((dg) / 10) / 10) / 10))]) (h' := h) (o264_19 hB) rfl ?_
                                  refine w_irem (z := (((((dg) / 10) / 10) / 10) % 10)) (pc' := 41) (o264_20 hB) rfl (remI_p (by omega) (by decide)) ?_
                                  refine w_pl (pc' := 42) (lv' := [(4, (0, ((((dg) / 10) / 10) / 10))), (3, (0, ((1 : Nat) : Int))), (0, (2, ((193 : Nat) : Int))), (1, (0, ((m' : Nat) : Int))), (2, (0, (dg)))]) (st' := [(0, ((4 : Nat) : Int)), (0, (((((dg) / 10) / 10) / 10) % 10))]) (h' := h) (o264_21 hB) rfl ?_
                                  refine w_icmp (pt := 49) (pf := 45) (o264_22 hB) (by decide) rfl (fun e => ?_) (fun e => ?_)
                                  · have f371 : (((4 : Nat) : Int) ≤ (((((dg) / 10) / 10) / 10) % 10)) := e
                                    refine w_pl (pc' := 50) (lv' := [(4, (0, ((((dg) / 10) / 10) / 10))), (3, (0, ((1 : Nat) : Int))), (0, (2, ((193 : Nat) : Int))), (1, (0, ((m' : Nat) : Int))), (2, (0, (dg)))]) (st' := [(0, ((0 : Nat) : Int))]) (h' := h) (o264_25 hB) rfl ?_
                                    refine w_st (tg := 0) (j := 3) (len := 1) (pc' := 51) (lv' := [(3, (0, ((0 : Nat) : Int))), (4, (0, ((((dg) / 10) / 10) / 10))), (0, (2, ((193 : Nat) : Int))), (1, (0, ((m' : Nat) : Int))), (2, (0, (dg)))]) (o264_26 hB) rfl rfl ml264 (by decide) rfl ?_
                                    refine w_pl (pc' := 53) (lv' := [(3, (0, ((0 : Nat) : Int))), (4, (0, ((((dg) / 10) / 10) / 10))), (0, (2, ((193 : Nat) : Int))), (1, (0, ((m' : Nat) : Int))), (2, (0, (dg)))]) (st' := [(0, ((((dg) / 10) / 10) / 10))]) (h' := h) (o264_27 hB) rfl ?_
                                    refine w_pl (pc' := 55) (lv' := [(3, (0, ((0 : Nat) : Int))), (4, (0, ((((dg) / 10) / 10) / 10))), (0, (2, ((193 : Nat) : Int))), (1, (0, ((m' : Nat) : Int))), (2, (0, (dg)))]) (st' := [(0, ((10 : Nat) : Int)), (0, ((((dg) / 10) / 10) / 10))]) (h' := h) (o264_28 hB) rfl ?_
                                    refine w_idiv (z := (((((dg) / 10) / 10) / 10) / 10)) (pc' := 56) (o264_29 hB) rfl (divI_p (by omega) (by omega) (by decide)) ?_
                                    refine w_st (tg := 0) (j := 4) (len := 2) (pc' := 58) (lv' := [(4, (0, (((((dg) / 10) / 10) / 10) / 10))), (3, (0, ((0 : Nat) : Int))), (0, (2, ((193 : Nat) : Int))), (1, (0, ((m' : Nat) : Int))), (2, (0, (dg)))]) (o264_30 hB) rfl rfl ml264 (by decide) rfl ?_
                                    refine w_goto (pt := 27) (o264_31 hB) (by decide) ?_
                                    refine w_pl (pc' := 29) (lv' := [(4, (0, (((((dg) / 10) / 10) / 10) / 10))), (3, (0, ((0 : Nat) : Int))), (0, (2, ((193 : Nat) : Int))), (1, (0, ((m' : Nat) : Int))), (2, (0, (dg)))]) (st' := [(0, (((((dg) / 10) / 10) / 10) / 10))]) (h' := h) (o264_14 hB) rfl ?_
                                    refine w_ifc (pt := 61) (pf := 32) (o264_15 hB) (by decide) rfl (fun e => ?_) (fun e => ?_)
                                    · have f372 : ((((((dg) / 10) / 10) / 10) / 10) ≤ (0)) := e
                                      refine w_pl (pc' := 62) (lv' := [(4, (0, (((((dg) / 10) / 10) / 10) / 10))), (3, (0, ((0 : Nat) : Int))), (0, (2, ((193 : Nat) : Int))), (1, (0, ((m' : Nat) : Int))), (2, (0, (dg)))]) (st' := [(0, ((0 : Nat) : Int))]) (h' := h) (o264_32 hB) rfl ?_
                                      refine w_ifc (pt := 67) (pf := 65) (o264_33 hB) (by decide) rfl (fun e => ?_) (fun e => ?_)
                                      · have f373 : (((0 : Nat) : Int) ≠ (0)) := e
                                        exfalso; omega
                                      · have f374 : ¬ (((0 : Nat) : Int) ≠ (0)) := e
                                        refine w_pl (pc' := 66) (lv' := [(4, (0, (((((dg) / 10) / 10) / 10) / 10))), (3, (0, ((0 : Nat) : Int))), (0, (2, ((193 : Nat) : Int))), (1, (0, ((m' : Nat) : Int))), (2, (0, (dg)))]) (st' := [(0, (-1))]) (h' := h) (o264_34 hB) rfl ?_
                                        exact w_iret (o264_35 hB) mr264 (by unfold in32; omega) (a0 (by omega))
                                    · have f375 : ¬ ((((((dg) / 10) / 10) / 10) / 10) ≤ (0)) := e
                                      refine w_pl (pc' := 33) (lv' := [(4, (0, (((((dg) / 10) / 10) / 10) / 10))), (3, (0, ((0 : Nat) : Int))), (0, (2, ((193 : Nat) : Int))), (1, (0, ((m' : Nat) : Int))), (2, (0, (dg)))]) (st' := [(0, ((0 : Nat) : Int))]) (h' := h) (o264_16 hB) rfl ?_
                                      refine w_ifc (pt := 61) (pf := 36) (o264_17 hB) (by decide) rfl (fun e => ?_) (fun e => ?_)
                                      · have f376 : (((0 : Nat) : Int) = (0)) := e
                                        refine w_pl (pc' := 62) (lv' := [(4, (0, (((((dg) / 10) / 10) / 10) / 10))), (3, (0, ((0 : Nat) : Int))), (0, (2, ((193 : Nat) : Int))), (1, (0, ((m' : Nat) : Int))), (2, (0, (dg)))]) (st' := [(0, ((0 : Nat) : Int))]) (h' := h) (o264_32 hB) rfl ?_
                                        refine w_ifc (pt := 67) (pf := 65) (o264_33 hB) (by decide) rfl (fun e => ?_) (fun e => ?_)
                                        · have f377 : (((0 : Nat) : Int) ≠ (0)) := e
                                          exfalso; omega
                                        · have f378 : ¬ (((0 : Nat) : Int) ≠ (0)) := e
                                          refine w_pl (pc' := 66) (lv' := [(4, (0, (((((dg) / 10) / 10) / 10) / 10))), (3, (0, ((0 : Nat) : Int))), (0, (2, ((193 : Nat) : Int))), (1, (0, ((m' : Nat) : Int))), (2, (0, (dg)))]) (st' := [(0, (-1))]) (h' := h) (o264_34 hB) rfl ?_
                                          exact w_iret (o264_35 hB) mr264 (by unfold in32; omega) (a0 (by omega))
                                      · have f379 : ¬ (((0 : Nat) : Int) = (0)) := e
                                        exfalso; omega
                                  · have f380 : ¬ (((4 : Nat) : Int) ≤ (((((dg) / 10) / 10) / 10) % 10)) := e
                                    refine w_pl (pc' := 46) (lv' := [(4, (0, ((((dg) / 10) / 10) / 10))), (3, (0, ((1 : Nat) : Int))), (0, (2, ((193 : Nat) : Int))), (1, (0, ((m' : Nat) : Int))), (2, (0, (dg)))]) (st' := [(0, ((1 : Nat) : Int))]) (h' := h) (o264_23 hB) rfl ?_
                                    refine w_goto (pt := 50) (o264_24 hB) (by decide) ?_
                                    refine w_st (tg := 0) (j := 3) (len := 1) (pc' := 51) (lv' := [(3, (0, ((1 : Nat) : Int))), (4, (0, ((((dg) / 10) / 10) / 10))), (0, (2, ((193 : Nat) : Int))), (1, (0, ((m' : Nat) : Int))), (2, (0, (dg)))]) (o264_26 hB) rfl rfl ml264 (by decide) rfl ?_
                                    refine w_pl (pc' := 53) (lv' := [(3, (0, ((1 : Nat) : Int))), (4, (0, ((((dg) / 10) / 10) / 10))), (0, (2, ((193 : Nat) : Int))), (1, (0, ((m' : Nat) : Int))), (2, (0, (dg)))]) (st' := [(0, ((((dg) / 10) / 10) / 10))]) (h' := h) (o264_27 hB) rfl ?_
                                    refine w_pl (pc' := 55) (lv' := [(3, (0, ((1 : Nat) : Int))), (4, (0, ((((dg) / 10) / 10) / 10))), (0, (2, ((193 : Nat) : Int))), (1, (0, ((m' : Nat) : Int))), (2, (0, (dg)))]) (st' := [(0, ((10 : Nat) : Int)), (0, ((((dg) / 10) / 10) / 10))]) (h' := h) (o264_28 hB) rfl ?_
                                    refine w_idiv (z := (((((dg) / 10) / 10) / 10) / 10)) (pc' := 56) (o264_29 hB) rfl (divI_p (by omega) (by omega) (by decide)) ?_
                                    refine w_st (tg := 0) (j := 4) (len := 2) (pc' := 58) (lv' := [(4, (0, (((((dg) / 10) / 10) / 10) / 10))), (3, (0, ((1 : Nat) : Int))), (0, (2, ((193 : Nat) : Int))), (1, (0, ((m' : Nat) : Int))), (2, (0, (dg)))]) (o264_30 hB) rfl rfl ml264 (by decide) rfl ?_
                                    refine w_goto (pt := 27) (o264_31 hB) (by decide) ?_
                                    refine w_pl (pc' := 29) (lv' := [(4, (0, (((((dg) / 10) / 10) / 10) / 10))), (3, (0, ((1 : Nat) : Int))), (0, (2, ((193 : Nat) : Int))), (1, (0, ((m' : Nat) : Int))), (2, (0, (dg)))]) (st' := [(0, (((((dg) / 10) / 10) / 10) / 10))]) (h' := h) (o264_14 hB) rfl ?_
                                    refine w_ifc (pt := 61) (pf := 32) (o264_15 hB) (by decide) rfl (fun e => ?_) (fun e => ?_)
                                    · have f381 : ((((((dg) / 10) / 10) / 10) / 10) ≤ (0)) := e
                                      refine w_pl (pc' := 62) (lv' := [(4, (0, (((((dg) / 10) / 10) / 10) / 10))), (3, (0, ((1 : Nat) : Int))), (0, (2, ((193 : Nat) : Int))), (1, (0, ((m' : Nat) : Int))), (2, (0, (dg)))]) (st' := [(0, ((1 : Nat) : Int))]) (h' := h) (o264_32 hB) rfl ?_
                                      refine w_ifc (pt := 67) (pf := 65) (o264_33 hB) (by decide) rfl (fun e => ?_) (fun e => ?_)
                                      · have f382 : (((1 : Nat) : Int) ≠ (0)) := e
                                        refine w_pl (pc' := 68) (lv' := [(4, (0, (((((dg) / 10) / 10) / 10) / 10))), (3, (0, ((1 : Nat) : Int))), (0, (2, ((193 : Nat) : Int))), (1, (0, ((m' : Nat) : Int))), (2, (0, (dg)))]) (st' := [(2, ((193 : Nat) : Int))]) (h' := h) (o264_36 hB) rfl ?_
                                        refine w_getf (A := 193) (t := 2) (z := ((194 : Nat) : Int)) (pc' := 71) (o264_37 hB) rfl (by decide +kernel) (hR (193, 0, 194) (by decide)) ?_
                                        refine w_pl (pc' := 74) (lv' := [(4, (0, (((((dg) / 10) / 10) / 10) / 10))), (3, (0, ((1 : Nat) : Int))), (0, (2, ((193 : Nat) : Int))), (1, (0, ((m' : Nat) : Int))), (2, (0, (dg)))]) (st' := [(0, ((582 : Nat) : Int)), (2, ((194 : Nat) : Int))]) (h' := h) (o264_38 hB) rfl ?_
                                        refine w_pl (pc' := 75) (lv' := [(4, (0, (((((dg) / 10) / 10) / 10) / 10))), (3, (0, ((1 : Nat) : Int))), (0, (2, ((193 : Nat) : Int))), (1, (0, ((m' : Nat) : Int))), (2, (0, (dg)))]) (st' := [(0, ((m' : Nat) : Int)), (0, ((582 : Nat) : Int)), (2, ((194 : Nat) : Int))]) (h' := h) (o264_39 hB) rfl ?_
                                        refine w_iadd (z := (((582 + m') : Nat) : Int)) (pc' := 76) (o264_40 hB) rfl (w32_e (by omega) (by omega)) ?_
                                        refine w_iald (A := 194) (i := (582 + m')) (n := 1984) (z := (oz)) (pc' := 77) (o264_41 hB) rfl (by decide +kernel) (by omega) hoz ?_
                                        refine w_st (tg := 0) (j := 4) (len := 2) (pc' := 79) (lv' := [(4, (0, (oz))), (3, (0, ((1 : Nat) : Int))), (0, (2, ((193 : Nat) : Int))), (1, (0, ((m' : Nat) : Int))), (2, (0, (dg)))]) (o264_42 hB) rfl rfl ml264 (by decide) rfl ?_
                                        refine w_pl (pc' := 80) (lv' := [(4, (0, (oz))), (3, (0, ((1 : Nat) : Int))), (0, (2, ((193 : Nat) : Int))), (1, (0, ((m' : Nat) : Int))), (2, (0, (dg)))]) (st' := [(2, ((193 : Nat) : Int))]) (h' := h) (o264_43 hB) rfl ?_
                                        refine w_getf (A := 193) (t := 2) (z := ((194 : Nat) : Int)) (pc' := 83) (o264_44 hB) rfl (by decide +kernel) (hR (193, 0, 194) (by decide)) ?_
                                        refine w_pl (pc' := 86) (lv' := [(4, (0, (oz))), (3, (0, ((1 : Nat) : Int))), (0, (2, ((193 : Nat) : Int))), (1, (0, ((m' : Nat) : Int))), (2, (0, (dg)))]) (st' := [(0, ((582 : Nat) : Int)), (2, ((194 : Nat) : Int))]) (h' := h) (o264_45 hB) rfl ?_
                                        refine w_pl (pc' := 87) (lv' := [(4, (0, (oz))), (3, (0, ((1 : Nat) : Int))), (0, (2, ((193 : Nat) : Int))), (1, (0, ((m' : Nat) : Int))), (2, (0, (dg)))]) (st' := [(0, ((m' : Nat) : Int)), (0, ((582 : Nat) : Int)), (2, ((194 : Nat) : Int))]) (h' := h) (o264_46 hB) rfl ?_
                                        refine w_iadd (z := (((582 + m') : Nat) : Int)) (pc' := 88) (o264_47 hB) rfl (w32_e (by omega) (by omega)) ?_
                                        refine w_pl (pc' := 89) (lv' := [(4, (0, (oz))), (3, (0, ((1 : Nat) : Int))), (0, (2, ((193 : Nat) : Int))), (1, (0, ((m' : Nat) : Int))), (2, (0, (dg)))]) (st' := [(0, (dg)), (0, (((582 + m') : Nat) : Int)), (2, ((194 : Nat) : Int))]) (h' := h) (o264_48 hB) rfl ?_
                                        refine w_iast (A := 194) (i := (582 + m')) (n := 1984) (pc' := 90) (o264_49 hB) rfl (by decide +kernel) (by omega) ?_
                                        refine w_pl (pc' := 92) (lv' := [(4, (0, (oz))), (3, (0, ((1 : Nat) : Int))), (0, (2, ((193 : Nat) : Int))), (1, (0, ((m' : Nat) : Int))), (2, (0, (dg)))]) (st' := [(0, (oz))]) (h' := (hup h 194 ((582 + m')) (dg))) (o264_50 hB) rfl ?_
                                        exact w_iret (o264_51 hB) mr264 (by unfold in32; omega) (a1 (by omega))
                                      · have f383 : ¬ (((1 : Nat) : Int) ≠ (0)) := e
                                        exfalso; omega
                                    · have f384 : ¬ ((((((dg) / 10) / 10) / 10) / 10) ≤ (0)) := e
                                      refine w_pl (pc' := 33) (lv' := [(4, (0, (((((dg) / 10) / 10) / 10) / 10))), (3, (0, ((1 : Nat) : Int))), (0, (2, ((193 : Nat) : Int))), (1, (0, ((m' : Nat) : Int))), (2, (0, (dg)))]) (st' := [(0, ((1 : Nat) : Int))]) (h' := h) (o264_16 hB) rfl ?_
                                      refine w_ifc (pt := 61) (pf := 36) (o264_17 hB) (by decide) rfl (fun e => ?_) (fun e => ?_)
                                      · have f385 : (((1 : Nat) : Int) = (0)) := e
                                        exfalso; omega
                                      · have f386 : ¬ (((1 : Nat) : Int) = (0)) := e
                                        refine w_pl (pc' := 38) (lv' := [(4, (0, (((((dg) / 10) / 10) / 10) / 10))), (3, (0, ((1 : Nat) : Int))), (0, (2, ((193 : Nat) : Int))), (1, (0, ((m' : Nat) : Int))), (2, (0, (dg)))]) (st' := [(0, (((((dg) / 10) / 10) / 10) / 10))]) (h' := h) (o264_18 hB) rfl ?_
                                        refine w_pl (pc' := 40) (lv' := [(4, (0, (((((dg) / 10) / 10) / 10) / 10))), (3, (0, ((1 : Nat) : Int))), (0, (2, ((193 : Nat) : Int))), (1, (0, ((m' : Nat) : Int))), (2, (0, (dg)))]) (st' := [(0, ((10 : Nat) : Int)), (0, (((((dg) / 10) / 10) / 10) / 10))]) (h' := h) (o264_19 hB) rfl ?_
                                        refine w_irem (z := ((((((dg) / 10) / 10) / 10) / 10) % 10)) (pc' := 41) (o264_20 hB) rfl (remI_p (by omega) (by decide)) ?_
                                        refine w_pl (pc' := 42) (lv' := [(4, (0, (((((dg) / 10) / 10) / 10) / 10))), (3, (0, ((1 : Nat) : Int))), (0, (2, ((193 : Nat) : Int))), (1, (0, ((m' : Nat) : Int))), (2, (0, (dg)))]) (st' := [(0, ((4 : Nat) : Int)), (0, ((((((dg) / 10) / 10) / 10) / 10) % 10))]) (h' := h) (o264_21 hB) rfl ?_
                                        refine w_icmp (pt := 49) (pf := 45) (o264_22 hB) (by decide) rfl (fun e => ?_) (fun e => ?_)
                                        · have f387 : (((4 : Nat) : Int) ≤ ((((((dg) / 10) / 10) / 10) / 10) % 10)) := e
                                          refine w_pl (pc' := 50) (lv' := [(4, (0, (((((dg) / 10) / 10) / 10) / 10))), (3, (0, ((1 : Nat) : Int))), (0, (2, ((193 : Nat) : Int))), (1, (0, ((m' : Nat) : Int))), (2, (0, (dg)))]) (st' := [(0, ((0 : Nat) : Int))]) (h' := h) (o264_25 hB) rfl ?_
                                          refine w_st (tg := 0) (j := 3) (len := 1) (pc' := 51) (lv' := [(3, (0, ((0 : Nat) : Int))), (4, (0, (((((dg) / 10) / 10) / 10) / 10))), (0, (2, ((193 : Nat) : Int))), (1, (0, ((m' : Nat) : Int))), (2, (0, (dg)))]) (o264_26 hB) rfl rfl ml264 (by decide) rfl ?_
                                          refine w_pl (pc' := 53) (lv' := [(3, (0, ((0 : Nat) : Int))), (4, (0, (((((dg) / 10) / 10) / 10) / 10))), (0, (2, ((193 : Nat) : Int))), (1, (0, ((m' : Nat) : Int))), (2, (0, (dg)))]) (st' := [(0, (((((dg) / 10) / 10) / 10) / 10))]) (h' := h) (o264_27 hB) rfl ?_
                                          refine w_pl (pc' := 55) (lv' := [(3, (0, ((0 : Nat) : Int))), (4, (0, (((((dg) / 10) / 10) / 10) / 10))), (0, (2, ((193 : Nat) : Int))), (1, (0, ((m' : Nat) : Int))), (2, (0, (dg)))]) (st' := [(0, ((10 : Nat) : Int)), (0, (((((dg) / 10) / 10) / 10) / 10))]) (h' := h) (o264_28 hB) rfl ?_
                                          refine w_idiv (z := ((((((dg) / 10) / 10) / 10) / 10) / 10)) (pc' := 56) (o264_29 hB) rfl (divI_p (by omega) (by omega) (by decide)) ?_
                                          refine w_st (tg := 0) (j := 4) (len := 2) (pc' := 58) (lv' := [(4, (0, ((((((dg) / 10) / 10) / 10) / 10) / 10))), (3, (0, ((0 : Nat) : Int))), (0, (2, ((193 : Nat) : Int))), (1, (0, ((m' : Nat) : Int))), (2, (0, (dg)))]) (o264_30 hB) rfl rfl ml264 (by decide) rfl ?_
                                          refine w_goto (pt := 27) (o264_31 hB) (by decide) ?_
                                          refine w_pl (pc' := 29) (lv' := [(4, (0, ((((((dg) / 10) / 10) / 10) / 10) / 10))), (3, (0, ((0 : Nat) : Int))), (0, (2, ((193 : Nat) : Int))), (1, (0, ((m' : Nat) : Int))), (2, (0, (dg)))]) (st' := [(0, ((((((dg) / 10) / 10) / 10) / 10) / 10))]) (h' := h) (o264_14 hB) rfl ?_
                                          refine w_ifc (pt := 61) (pf := 32) (o264_15 hB) (by decide) rfl (fun e => ?_) (fun e => ?_)
                                          · have f388 : (((((((dg) / 10) / 10) / 10) / 10) / 10) ≤ (0)) := e
                                            refine w_pl (pc' := 62) (lv' := [(4, (0, ((((((dg) / 10) / 10) / 10) / 10) / 10))), (3, (0, ((0 : Nat) : Int))), (0, (2, ((193 : Nat) : Int))), (1, (0, ((m' : Nat) : Int))), (2, (0, (dg)))]) (st' := [(0, ((0 : Nat) : Int))]) (h' := h) (o264_32 hB) rfl ?_
                                            refine w_ifc (pt := 67) (pf := 65) (o264_33 hB) (by decide) rfl (fun e => ?_) (fun e => ?_)
                                            · have f389 : (((0 : Nat) : Int) ≠ (0)) := e
                                              exfalso; omega
                                            · have f390 : ¬ (((0 : Nat) : Int) ≠ (0)) := e
                                              refine w_pl (pc' := 66) (lv' := [(4, (0, ((((((dg) / 10) / 10) / 10) / 10) / 10))), (3, (0, ((0 : Nat) : Int))), (0, (2, ((193 : Nat) : Int))), (1, (0, ((m' : Nat) : Int))), (2, (0, (dg)))]) (st' := [(0, (-1))]) (h' := h) (o264_34 hB) rfl ?_
                                              exact w_iret (o264_35 hB) mr264 (by unfold in32; omega) (a0 (by omega))
                                          · have f391 : ¬ (((((((dg) / 10) / 10) / 10) / 10) / 10) ≤ (0)) := e
                                            refine w_pl (pc' := 33) (lv' := [(4, (0, ((((((dg) / 10) / 10) / 10) / 10) / 10))), (3, (0, ((0 : Nat) : Int))), (0, (2, ((193 : Nat) : Int))), (1, (0, ((m' : Nat) : Int))), (2, (0, (dg)))]) (st' := [(0, ((0 : Nat) : Int))]) (h' := h) (o264_16 hB) rfl ?_
                                            refine w_ifc (pt := 61) (pf := 36) (o264_17 hB) (by decide) rfl (fun e => ?_) (fun e => ?_)
                                            · have f392 : (((0 : Nat) : Int) = (0)) := e
                                              refine w_pl (pc' := 62) (lv' := [(4, (0, ((((((dg) / 10) / 10) / 10) / 10) / 10))), (3, (0, ((0 : Nat) : Int))), (0, (2, ((193 : Nat) : Int))), (1, (0, ((m' : Nat) : Int))), (2, (0, (dg)))]) (st' := [(0, ((0 : Nat) : Int))]) (h' := h) (o264_32 hB) rfl ?_
                                              refine w_ifc (pt := 67) (pf := 65) (o264_33 hB) (by decide) rfl (fun e => ?_) (fun e => ?_)
                                              · have f393 : (((0 : Nat) : Int) ≠ (0)) := e
                                                exfalso; omega
                                              · have f394 : ¬ (((0 : Nat) : Int) ≠ (0)) := e
                                                refine w_pl (pc' := 66) (lv' := [(4, (0, ((((((dg) / 10) / 10) / 10) / 10) / 10))), (3, (0, ((0 : Nat) : Int))), (0, (2, ((193 : Nat) : Int))), (1, (0, ((m' : Nat) : Int))), (2, (0, (dg)))]) (st' := [(0, (-1))]) (h' := h) (o264_34 hB) rfl ?_
                                                exact w_iret (o264_35 hB) mr264 (by unfold in32; omega) (a0 (by omega))
                                            · have f395 : ¬ (((0 : Nat) : Int) = (0)) := e
                                              exfalso; omega
                                        · have f396 : ¬ (((4 : Nat) : Int) ≤ ((((((dg) / 10) / 10) / 10) / 10) % 10)) := e
                                          refine w_pl (pc' := 46) (lv' := [(4, (0, (((((dg) / 10) / 10) / 10) / 10))), (3, (0, ((1 : Nat) : Int))), (0, (2, ((193 : Nat) : Int))), (1, (0, ((m' : Nat) : Int))), (2, (0, (dg)))]) (st' := [(0, ((1 : Nat) : Int))]) (h' := h) (o264_23 hB) rfl ?_
                                          refine w_goto (pt := 50) (o264_24 hB) (by decide) ?_
                                          refine w_st (tg := 0) (j := 3) (len := 1) (pc' := 51) (lv' := [(3, (0, ((1 : Nat) : Int))), (4, (0, (((((dg) / 10) / 10) / 10) / 10))), (0, (2, ((193 : Nat) : Int))), (1, (0, ((m' : Nat) : Int))), (2, (0, (dg)))]) (o264_26 hB) rfl rfl ml264 (by decide) rfl ?_
                                          refine w_pl (pc' := 53) (lv' := [(3, (0, ((1 : Nat) : Int))), (4, (0, (((((dg) / 10) / 10) / 10) / 10))), (0, (2, ((193 : Nat) : Int))), (1, (0, ((m' : Nat) : Int))), (2, (0, (dg)))]) (st' := [(0, (((((dg) / 10) / 10) / 10) / 10))]) (h' := h) (o264_27 hB) rfl ?_
                                          refine w_pl (pc' := 55) (lv' := [(3, (0, ((1 : Nat) : Int))), (4, (0, (((((dg) / 10) / 10) / 10) / 10))), (0, (2, ((193 : Nat) : Int))), (1, (0, ((m' : Nat) : Int))), (2, (0, (dg)))]) (st' := [(0, ((10 : Nat) : Int)), (0, (((((dg) / 10) / 10) / 10) / 10))]) (h' := h) (o264_28 hB) rfl ?_
                                          refine w_idiv (z := ((((((dg) / 10) / 10) / 10) / 10) / 10)) (pc' := 56) (o264_29 hB) rfl (divI_p (by omega) (by omega) (by decide)) ?_
                                          refine w_st (tg := 0) (j := 4) (len := 2) (pc' := 58) (lv' := [(4, (0, ((((((dg) / 10) / 10) / 10) / 10) / 10))), (3, (0, ((1 : Nat) : Int))), (0, (2, ((193 : Nat) : Int))), (1, (0, ((m' : Nat) : Int))), (2, (0, (dg)))]) (o264_30 hB) rfl rfl ml264 (by decide) rfl ?_
                                          refine w_goto (pt := 27) (o264_31 hB) (by decide) ?_
                                          refine w_pl (pc' := 29) (lv' := [(4, (0, ((((((dg) / 10) / 10) / 10) / 10) / 10))), (3, (0, ((1 : Nat) : Int))), (0, (2, ((193 : Nat) : Int))), (1, (0, ((m' : Nat) : Int))), (2, (0, (dg)))]) (st' := [(0, ((((((dg) / 10) / 10) / 10) / 10) / 10))]) (h' := h) (o264_14 hB) rfl ?_
                                          refine w_ifc (pt := 61) (pf := 32) (o264_15 hB) (by decide) rfl (fun e => ?_) (fun e => ?_)
                                          · have f397 : (((((((dg) / 10) / 10) / 10) / 10) / 10) ≤ (0)) := e
                                            refine w_pl (pc' := 62) (lv' := [(4, (0, ((((((dg) / 10) / 10) / 10) / 10) / 10))), (3, (0, ((1 : Nat) : Int))), (0, (2, ((193 : Nat) : Int))), (1, (0, ((m' : Nat) : Int))), (2, (0, (dg)))]) (st' := [(0, ((1 : Nat) : Int))]) (h' := h) (o264_32 hB) rfl ?_
                                            refine w_ifc (pt := 67) (pf := 65) (o264_33 hB) (by decide) rfl (fun e => ?_) (fun e => ?_)
                                            · have f398 : (((1 : Nat) : Int) ≠ (0)) := e
                                              refine w_pl (pc' := 68) (lv' := [(4, (0, ((((((dg) / 10) / 10) / 10) / 10) / 10))), (3, (0, ((1 : Nat) : Int))), (0, (2, ((193 : Nat) : Int))), (1, (0, ((m' : Nat) : Int))), (2, (0, (dg)))]) (st' := [(2, ((193 : Nat) : Int))]) (h' := h) (o264_36 hB) rfl ?_
                                              refine w_getf (A := 193) (t := 2) (z := ((194 : Nat) : Int)) (pc' := 71) (o264_37 hB) rfl (by decide +kernel) (hR (193, 0, 194) (by decide)) ?_
                                              refine w_pl (pc' := 74) (lv' := [(4, (0, ((((((dg) / 10) / 10) / 10) / 10) / 10))), (3, (0, ((1 : Nat) : Int))), (0, (2, ((193 : Nat) : Int))), (1, (0, ((m' : Nat) : Int))), (2, (0, (dg)))]) (st' := [(0, ((582 : Nat) : Int)), (2, ((194 : Nat) : Int))]) (h' := h) (o264_38 hB) rfl ?_
                                              refine w_pl (pc' := 75) (lv' := [(4, (0, ((((((dg) / 10) / 10) / 10) / 10) / 10))), (3, (0, ((1 : Nat) : Int))), (0, (2, ((193 : Nat) : Int))), (1, (0, ((m' : Nat) : Int))), (2, (0, (dg)))]) (st' := [(0, ((m' : Nat) : Int)), (0, ((582 : Nat) : Int)), (2, ((194 : Nat) : Int))]) (h' := h) (o264_39 hB) rfl ?_
                                              refine w_iadd (z := (((582 + m') : Nat) : Int)) (pc' := 76) (o264_40 hB) rfl (w32_e (by omega) (by omega)) ?_
                                              refine w_iald (A := 194) (i := (582 + m')) (n := 1984) (z := (oz)) (pc' := 77) (o264_41 hB) rfl (by decide +kernel) (by omega) hoz ?_
                                              refine w_st (tg := 0) (j := 4) (len := 2) (pc' := 79) (lv' := [(4, (0, (oz))), (3, (0, ((1 : Nat) : Int))), (0, (2, ((193 : Nat) : Int))), (1, (0, ((m' : Nat) : Int))), (2, (0, (dg)))]) (o264_42 hB) rfl rfl ml264 (by decide) rfl ?_
                                              refine w_pl (pc' := 80) (lv' := [(4, (0, (oz))), (3, (0, ((1 : Nat) : Int))), (0, (2, ((193 : Nat) : Int))), (1, (0, ((m' : Nat) : Int))), (2, (0, (dg)))]) (st' := [(2, ((193 : Nat) : Int))]) (h' := h) (o264_43 hB) rfl ?_
                                              refine w_getf (A := 193) (t := 2) (z := ((194 : Nat) : Int)) (pc' := 83) (o264_44 hB) rfl (by decide +kernel) (hR (193, 0, 194) (by decide)) ?_
                                              refine w_pl (pc' := 86) (lv' := [(4, (0, (oz))), (3, (0, ((1 : Nat) : Int))), (0, (2, ((193 : Nat) : Int))), (1, (0, ((m' : Nat) : Int))), (2, (0, (dg)))]) (st' := [(0, ((582 : Nat) : Int)), (2, ((194 : Nat) : Int))]) (h' := h) (o264_45 hB) rfl ?_
                                              refine w_pl (pc' := 87) (lv' := [(4, (0, (oz))), (3, (0, ((1 : Nat) : Int))), (0, (2, ((193 : Nat) : Int))), (1, (0, ((m' : Nat) : Int))), (2, (0, (dg)))]) (st' := [(0, ((m' : Nat) : Int)), (0, ((582 : Nat) : Int)), (2, ((194 : Nat) : Int))]) (h' := h) (o264_46 hB) rfl ?_
                                              refine w_iadd (z := (((582 + m') : Nat) : Int)) (pc' := 88) (o264_47 hB) rfl (w32_e (by omega) (by omega)) ?_
                                              refine w_pl (pc' := 89) (lv' := [(4, (0, (oz))), (3, (0, ((1 : Nat) : Int))), (0, (2, ((193 : Nat) : Int))), (1, (0, ((m' : Nat) : Int))), (2, (0, (dg)))]) (st' := [(0, (dg)), (0, (((582 + m') : Nat) : Int)), (2, ((194 : Nat) : Int))]) (h' := h) (o264_48 hB) rfl ?_
                                              refine w_iast (A := 194) (i := (582 + m')) (n := 1984) (pc' := 90) (o264_49 hB) rfl (by decide +kernel) (by omega) ?_
                                              refine w_pl (pc' := 92) (lv' := [(4, (0, (oz))), (3, (0, ((1 : Nat) : Int))), (0, (2, ((193 : Nat) : Int))), (1, (0, ((m' : Nat) : Int))), (2, (0, (dg)))]) (st' := [(0, (oz))]) (h' := (hup h 194 ((582 + m')) (dg))) (o264_50 hB) rfl ?_
                                              exact w_iret (o264_51 hB) mr264 (by unfold in32; omega) (a1 (by omega))
                                            · have f399 : ¬ (((1 : Nat) : Int) ≠ (0)) := e
                                              exfalso; omega
                                          · have f400 : ¬ (((((((dg) / 10) / 10) / 10) / 10) / 10) ≤ (0)) := e
                                            refine w_pl (pc' := 33) (lv' := [(4, (0, ((((((dg) / 10) / 10) / 10) / 10) / 10))), (3, (0, ((1 : Nat) : Int))), (0, (2, ((193 : Nat) : Int))), (1, (0, ((m' : Nat) : Int))), (2, (0, (dg)))]) (st' := [(0, ((1 : Nat) : Int))]) (h' := h) (o264_16 hB) rfl ?_
                                            refine w_ifc (pt := 61) (pf := 36) (o264_17 hB) (by decide) rfl (fun e => ?_) (fun e => ?_)
                                            · have f401 : (((1 : Nat) : Int) = (0)) := e
                                              exfalso; omega
                                            · have f402 : ¬ (((1 : Nat) : Int) = (0)) := e
                                              refine w_pl (pc' := 38) (lv' := [(4, (0, ((((((dg) / 10) / 10) / 10) / 10) / 10))), (3, (0, ((1 : Nat) : Int))), (0, (2, ((193 : Nat) : Int))), (1, (0, ((m' : Nat) : Int))), (2, (0, (dg)))]) (st' := [(0, ((((((dg) / 10) / 10) / 10) / 10) / 10))]) (h' := h) (o264_18 hB) rfl ?_
                                              refine w_pl (pc' := 40) (lv' := [(4, (0, ((((((dg) / 10) / 10) / 10) / 10) / 10))), (3, (0, ((1 : Nat) : Int))), (0, (2, ((193 : Nat) : Int))), (1, (0, ((m' : Nat) : Int))), (2, (0, (dg)))]) (st' := [(0, ((10 : Nat) : Int)), (0, ((((((dg) / 10) / 10) / 10) / 10) / 10))]) (h' := h) (o264_19 hB) rfl ?_
                                              refine w_irem (z := (((((((dg) / 10) / 10) / 10) / 10) / 10) % 10)) (pc' := 41) (o264_20 hB) rfl (remI_p (by omega) (by decide)) ?_
                                              refine w_pl (pc' := 42) (lv' := [(4, (0, ((((((dg) / 10) / 10) / 10) / 10) / 10))), (3, (0, ((1 : Nat) : Int))), (0, (2, ((193 : Nat) : Int))), (1, (0, ((m' : Nat) : Int))), (2, (0, (dg)))]) (st' := [(0, ((4 : Nat) : Int)), (0, (((((((dg) / 10) / 10) / 10) / 10) / 10) % 10))]) (h' := h) (o264_21 hB) rfl ?_
                                              refine w_icmp (pt := 49) (pf := 45) (o264_22 hB) (by decide) rfl (fun e => ?_) (fun e => ?_)
                                              · have f403 : (((4 : Nat) : Int) ≤ (((((((dg) / 10) / 10) / 10) / 10) / 10) % 10)) := e
                                                refine w_pl (pc' := 50) (lv' := [(4, (0, ((((((dg) / 10) / 10) / 10) / 10) / 10))), (3, (0, ((1 : Nat) : Int))), (0, (2, ((193 : Nat) : Int))), (1, (0, ((m' : Nat) : Int))), (2, (0, (dg)))]) (st' := [(0, ((0 : Nat) : Int))]) (h' := h) (o264_25 hB) rfl ?_
                                                refine w_st (tg := 0) (j := 3) (len := 1) (pc' := 51) (lv' := [(3, (0, ((0 : Nat) : Int))), (4, (0, ((((((dg) / 10) / 10) / 10) / 10) / 10))), (0, (2, ((193 : Nat) : Int))), (1, (0, ((m' : Nat) : Int))), (2, (0, (dg)))]) (o264_26 hB) rfl rfl ml264 (by decide) rfl ?_
                                                refine w_pl (pc' := 53) (lv' := [(3, (0, ((0 : Nat) : Int))), (4, (0, ((((((dg) / 10) / 10) / 10) / 10) / 10))), (0, (2, ((193 : Nat) : Int))), (1, (0, ((m' : Nat) : Int))), (2, (0, (dg)))]) (st' := [(0, ((((((dg) / 10) / 10) / 10) / 10) / 10))]) (h' := h) (o264_27 hB) rfl ?_
                                                refine w_pl (pc' := 55) (lv' := [(3, (0, ((0 : Nat) : Int))), (4, (0, ((((((dg) / 10) / 10) / 10) / 10) / 10))), (0, (2, ((193 : Nat) : Int))), (1, (0, ((m' : Nat) : Int))), (2, (0, (dg)))]) (st' := [(0, ((10 : Nat) : Int)), (0, ((((((dg) / 10) / 10) / 10) / 10) / 10))]) (h' := h) (o264_28 hB) rfl ?_
                                                refine w_idiv (z := (((((((dg) / 10) / 10) / 10) / 10) / 10) / 10)) (pc' := 56) (o264_29 hB) rfl (divI_p (by omega) (by omega) (by decide)) ?_
                                                refine w_st (tg := 0) (j := 4) (len := 2) (pc' := 58) (lv' := [(4, (0, (((((((dg) / 10) / 10) / 10) / 10) / 10) / 10))), (3, (0, ((0 : Nat) : Int))), (0, (2, ((193 : Nat) : Int))), (1, (0, ((m' : Nat) : Int))), (2, (0, (dg)))]) (o264_30 hB) rfl rfl ml264 (by decide) rfl ?_
                                                refine w_goto (pt := 27) (o264_31 hB) (by decide) ?_
                                                refine w_pl (pc' := 29) (lv' := [(4, (0, (((((((dg) / 10) / 10) / 10) / 10) / 10) / 10))), (3, (0, ((0 : Nat) : Int))), (0, (2, ((193 : Nat) : Int))), (1, (0, ((m' : Nat) : Int))), (2, (0, (dg)))]) (st' := [(0, (((((((dg) / 10) / 10) / 10) / 10) / 10) / 10))]) (h' := h) (o264_14 hB) rfl ?_
                                                refine w_ifc (pt := 61) (pf := 32) (o264_15 hB) (by decide) rfl (fun e => ?_) (fun e => ?_)
                                                · have f404 : ((((((((dg) / 10) / 10) / 10) / 10) / 10) / 10) ≤ (0)) := e
                                                  refine w_pl (pc' := 62) (lv' := [(4, (0, (((((((dg) / 10) / 10) / 10) / 10) / 10) / 10))), (3, (0, ((0 : Nat) : Int))), (0, (2, ((193 : Nat) : Int))), (1, (0, ((m' : Nat) : Int))), (2, (0, (dg)))]) (st' := [(0, ((0 : Nat) : Int))]) (h' := h) (o264_32 hB) rfl ?_
                                                  refine w_ifc (pt := 67) (pf := 65) (o264_33 hB) (by decide) rfl (fun e => ?_) (fun e => ?_)
                                                  · have f405 : (((0 : Nat) : Int) ≠ (0)) := e
                                                    exfalso; omega
                                                  · have f406 : ¬ (((0 : Nat) : Int) ≠ (0)) := e
                                                    refine w_pl (pc' := 66) (lv' := [(4, (0, (((((((dg) / 10) / 10) / 10) / 10) / 10) / 10))), (3, (0, ((0 : Nat) : Int))), (0, (2, ((193 : Nat) : Int))), (1, (0, ((m' : Nat) : Int))), (2, (0, (dg)))]) (st' := [(0, (-1))]) (h' := h) (o264_34 hB) rfl ?_
                                                    exact w_iret (o264_35 hB) mr264 (by unfold in32; omega) (a0 (by omega))
                                                · have f407 : ¬ ((((((((dg) / 10) / 10) / 10) / 10) / 10) / 10) ≤ (0)) := e
                                                  exfalso; omega
                                              · have f408 : ¬ (((4 : Nat) : Int) ≤ (((((((dg) / 10) / 10) / 10) / 10) / 10) % 10)) := e
                                                refine w_pl (pc' := 46) (lv' := [(4, (0, ((((((dg) / 10) / 10) / 10) / 10) / 10))), (3, (0, ((1 : Nat) : Int))), (0, (2, ((193 : Nat) : Int))), (1, (0, ((m' : Nat) : Int))), (2, (0, (dg)))]) (st' := [(0, ((1 : Nat) : Int))]) (h' := h) (o264_23 hB) rfl ?_
                                                refine w_goto (pt := 50) (o264_24 hB) (by decide) ?_
                                                refine w_st (tg := 0) (j := 3) (len := 1) (pc' := 51) (lv' := [(3, (0, ((1 : Nat) : Int))), (4, (0, ((((((dg) / 10) / 10) / 10) / 10) / 10))), (0, (2, ((193 : Nat) : Int))), (1, (0, ((m' : Nat) : Int))), (2, (0, (dg)))]) (o264_26 hB) rfl rfl ml264 (by decide) rfl ?_
                                                refine w_pl (pc' := 53) (lv' := [(3, (0, ((1 : Nat) : Int))), (4, (0, ((((((dg) / 10) / 10) / 10) / 10) / 10))), (0, (2, ((193 : Nat) : Int))), (1, (0, ((m' : Nat) : Int))), (2, (0, (dg)))]) (st' := [(0, ((((((dg) / 10) / 10) / 10) / 10) / 10))]) (h' := h) (o264_27 hB) rfl ?_
                                                refine w_pl (pc' := 55) (lv' := [(3, (0, ((1 : Nat) : Int))), (4, (0, ((((((dg) / 10) / 10) / 10) / 10) / 10))), (0, (2, ((193 : Nat) : Int))), (1, (0, ((m' : Nat) : Int))), (2, (0, (dg)))]) (st' := [(0, ((10 : Nat) : Int)), (0, ((((((dg) / 10) / 10) / 10) / 10) / 10))]) (h' := h) (o264_28 hB) rfl ?_
                                                refine w_idiv (z := (((((((dg) / 10) / 10) / 10) / 10) / 10) / 10)) (pc' := 56) (o264_29 hB) rfl (divI_p (by omega) (by omega) (by decide)) ?_
                                                refine w_st (tg := 0) (j := 4) (len := 2) (pc' := 58) (lv' := [(4, (0, (((((((dg) / 10) / 10) / 10) / 10) / 10) / 10))), (3, (0, ((1 : Nat) : Int))), (0, (2, ((193 : Nat) : Int))), (1, (0, ((m' : Nat) : Int))), (2, (0, (dg)))]) (o264_30 hB) rfl rfl ml264 (by decide) rfl ?_
                                                refine w_goto (pt := 27) (o264_31 hB) (by decide) ?_
                                                refine w_pl (pc' := 29) (lv' := [(4, (0, (((((((dg) / 10) / 10) / 10) / 10) / 10) / 10))), (3, (0, ((1 : Nat) : Int))), (0, (2, ((193 : Nat) : Int))), (1, (0, ((m' : Nat) : Int))), (2, (0, (dg)))]) (st' := [(0, (((((((dg) / 10) / 10) / 10) / 10) / 10) / 10))]) (h' := h) (o264_14 hB) rfl ?_
                                                refine w_ifc (pt := 61) (pf := 32) (o264_15 hB) (by decide) rfl (fun e => ?_) (fun e => ?_)
                                                · have f409 : ((((((((dg) / 10) / 10) / 10) / 10) / 10) / 10) ≤ (0)) := e
                                                  refine w_pl (pc' := 62) (lv' := [(4, (0, (((((((dg) / 10) / 10) / 10) / 10) / 10) / 10))), (3, (0, ((1 : Nat) : Int))), (0, (2, ((193 : Nat) : Int))), (1, (0, ((m' : Nat) : Int))), (2, (0, (dg)))]) (st' := [(0, ((1 : Nat) : Int))]) (h' := h) (o264_32 hB) rfl ?_
                                                  refine w_ifc (pt := 67) (pf := 65) (o264_33 hB) (by decide) rfl (fun e => ?_) (fun e => ?_)
                                                  · have f410 : (((1 : Nat) : Int) ≠ (0)) := e
                                                    refine w_pl (pc' := 68) (lv' := [(4, (0, (((((((dg) / 10) / 10) / 10) / 10) / 10) / 10))), (3, (0, ((1 : Nat) : Int))), (0, (2, ((193 : Nat) : Int))), (1, (0, ((m' : Nat) : Int))), (2, (0, (dg)))]) (st' := [(2, ((193 : Nat) : Int))]) (h' := h) (o264_36 hB) rfl ?_
                                                    refine w_getf (A := 193) (t := 2) (z := ((194 : Nat) : Int)) (pc' := 71) (o264_37 hB) rfl (by decide +kernel) (hR (193, 0, 194) (by decide)) ?_
                                                    refine w_pl (pc' := 74) (lv' := [(4, (0, (((((((dg) / 10) / 10) / 10) / 10) / 10) / 10))), (3, (0, ((1 : Nat) : Int))), (0, (2, ((193 : Nat) : Int))), (1, (0, ((m' : Nat) : Int))), (2, (0, (dg)))]) (st' := [(0, ((582 : Nat) : Int)), (2, ((194 : Nat) : Int))]) (h' := h) (o264_38 hB) rfl ?_
                                                    refine w_pl (pc' := 75) (lv' := [(4, (0, (((((((dg) / 10) / 10) / 10) / 10) / 10) / 10))), (3, (0, ((1 : Nat) : Int))), (0, (2, ((193 : Nat) : Int))), (1, (0, ((m' : Nat) : Int))), (2, (0, (dg)))]) (st' := [(0, ((m' : Nat) : Int)), (0, ((582 : Nat) : Int)), (2, ((194 : Nat) : Int))]) (h' := h) (o264_39 hB) rfl ?_
                                                    refine w_iadd (z := (((582 + m') : Nat) : Int)) (pc' := 76) (o264_40 hB) rfl (w32_e (by omega) (by omega)) ?_
                                                    refine w_iald (A := 194) (i := (582 + m')) (n := 1984) (z := (oz)) (pc' := 77) (o264_41 hB) rfl (by decide +kernel) (by omega) hoz ?_
                                                    refine w_st (tg := 0) (j := 4) (len := 2) (pc' := 79) (lv' := [(4, (0, (oz))), (3, (0, ((1 : Nat) : Int))), (0, (2, ((193 : Nat) : Int))), (1, (0, ((m' : Nat) : Int))), (2, (0, (dg)))]) (o264_42 hB) rfl rfl ml264 (by decide) rfl ?_
                                                    refine w_pl (pc' := 80) (lv' := [(4, (0, (oz))), (3, (0, ((1 : Nat) : Int))), (0, (2, ((193 : Nat) : Int))), (1, (0, ((m' : Nat) : Int))), (2, (0, (dg)))]) (st' := [(2, ((193 : Nat) : Int))]) (h' := h) (o264_43 hB) rfl ?_
                                                    refine w_getf (A := 193) (t := 2) (z := ((194 : Nat) : Int)) (pc' := 83) (o264_44 hB) rfl (by decide +kernel) (hR (193, 0, 194) (by decide)) ?_
                                                    refine w_pl (pc' := 86) (lv' := [(4, (0, (oz))), (3, (0, ((1 : Nat) : Int))), (0, (2, ((193 : Nat) : Int))), (1, (0, ((m' : Nat) : Int))), (2, (0, (dg)))]) (st' := [(0, ((582 : Nat) : Int)), (2, ((194 : Nat) : Int))]) (h' := h) (o264_45 hB) rfl ?_
                                                    refine w_pl (pc' := 87) (lv' := [(4, (0, (oz))), (3, (0, ((1 : Nat) : Int))), (0, (2, ((193 : Nat) : Int))), (1, (0, ((m' : Nat) : Int))), (2, (0, (dg)))]) (st' := [(0, ((m' : Nat) : Int)), (0, ((582 : Nat) : Int)), (2, ((194 : Nat) : Int))]) (h' := h) (o264_46 hB) rfl ?_
                                                    refine w_iadd (z := (((582 + m') : Nat) : Int)) (pc' := 88) (o264_47 hB) rfl (w32_e (by omega) (by omega)) ?_
                                                    refine w_pl (pc' := 89) (lv' := [(4, (0, (oz))), (3, (0, ((1 : Nat) : Int))), (0, (2, ((193 : Nat) : Int))), (1, (0, ((m' : Nat) : Int))), (2, (0, (dg)))]) (st' := [(0, (dg)), (0, (((582 + m') : Nat) : Int)), (2, ((194 : Nat) : Int))]) (h' := h) (o264_48 hB) rfl ?_
                                                    refine w_iast (A := 194) (i := (582 + m')) (n := 1984) (pc' := 90) (o264_49 hB) rfl (by decide +kernel) (by omega) ?_
                                                    refine w_pl (pc' := 92) (lv' := [(4, (0, (oz))), (3, (0, ((1 : Nat) : Int))), (0, (2, ((193 : Nat) : Int))), (1, (0, ((m' : Nat) : Int))), (2, (0, (dg)))]) (st' := [(0, (oz))]) (h' := (hup h 194 ((582 + m')) (dg))) (o264_50 hB) rfl ?_
                                                    exact w_iret (o264_51 hB) mr264 (by unfold in32; omega) (a1 (by omega))
                                                  · have f411 : ¬ (((1 : Nat) : Int) ≠ (0)) := e
                                                    exfalso; omega
                                                · have f412 : ¬ ((((((((dg) / 10) / 10) / 10) / 10) / 10) / 10) ≤ (0)) := e
                                                  exfalso; omega
        · show HW g l _ 264 _ _ 15 [(0, (2, ((193 : Nat) : Int))), (1, (0, ((m' : Nat) : Int))), (2, (0, (dg)))] [(0, ((0 : Nat) : Int))] h
          refine w_ifc (pt := 22) (pf := 18) (o264_7 hB) (by decide) rfl (fun e => ?_) (fun e => ?_)
          · have f413 : (((0 : Nat) : Int) = (0)) := e
            refine w_pl (pc' := 23) (lv' := [(0, (2, ((193 : Nat) : Int))), (1, (0, ((m' : Nat) : Int))), (2, (0, (dg)))]) (st' := [(0, ((0 : Nat) : Int))]) (h' := h) (o264_10 hB) rfl ?_
            refine w_st (tg := 0) (j := 3) (len := 1) (pc' := 24) (lv' := [(3, (0, ((0 : Nat) : Int))), (0, (2, ((193 : Nat) : Int))), (1, (0, ((m' : Nat) : Int))), (2, (0, (dg)))]) (o264_11 hB) rfl rfl ml264 (by decide) rfl ?_
            refine w_pl (pc' := 25) (lv' := [(3, (0, ((0 : Nat) : Int))), (0, (2, ((193 : Nat) : Int))), (1, (0, ((m' : Nat) : Int))), (2, (0, (dg)))]) (st' := [(0, (dg))]) (h' := h) (o264_12 hB) rfl ?_
            refine w_st (tg := 0) (j := 4) (len := 2) (pc' := 27) (lv' := [(4, (0, (dg))), (3, (0, ((0 : Nat) : Int))), (0, (2, ((193 : Nat) : Int))), (1, (0, ((m' : Nat) : Int))), (2, (0, (dg)))]) (o264_13 hB) rfl rfl ml264 (by decide) rfl ?_
            refine w_pl (pc' := 29) (lv' := [(4, (0, (dg))), (3, (0, ((0 : Nat) : Int))), (0, (2, ((193 : Nat) : Int))), (1, (0, ((m' : Nat) : Int))), (2, (0, (dg)))]) (st' := [(0, (dg))]) (h' := h) (o264_14 hB) rfl ?_
            refine w_ifc (pt := 61) (pf := 32) (o264_15 hB) (by decide) rfl (fun e => ?_) (fun e => ?_)
            · have f414 : ((dg) ≤ (0)) := e
              refine w_pl (pc' := 62) (lv' := [(4, (0, (dg))), (3, (0, ((0 : Nat) : Int))), (0, (2, ((193 : Nat) : Int))), (1, (0, ((m' : Nat) : Int))), (2, (0, (dg)))]) (st' := [(0, ((0 : Nat) : Int))]) (h' := h) (o264_32 hB) rfl ?_
              refine w_ifc (pt := 67) (pf := 65) (o264_33 hB) (by decide) rfl (fun e => ?_) (fun e => ?_)
              · have f415 : (((0 : Nat) : Int) ≠ (0)) := e
                exfalso; omega
              · have f416 : ¬ (((0 : Nat) : Int) ≠ (0)) := e
                refine w_pl (pc' := 66) (lv' := [(4, (0, (dg))), (3, (0, ((0 : Nat) : Int))), (0, (2, ((193 : Nat) : Int))), (1, (0, ((m' : Nat) : Int))), (2, (0, (dg)))]) (st' := [(0, (-1))]) (h' := h) (o264_34 hB) rfl ?_
                exact w_iret (o264_35 hB) mr264 (by unfold in32; omega) (a0 (by omega))
            · have f417 : ¬ ((dg) ≤ (0)) := e
              refine w_pl (pc' := 33) (lv' := [(4, (0, (dg))), (3, (0, ((0 : Nat) : Int))), (0, (2, ((193 : Nat) : Int))), (1, (0, ((m' : Nat) : Int))), (2, (0, (dg)))]) (st' := [(0, ((0 : Nat) : Int))]) (h' := h) (o264_16 hB) rfl ?_
              refine w_ifc (pt := 61) (pf := 36) (o264_17 hB) (by decide) rfl (fun e => ?_) (fun e => ?_)
              · have f418 : (((0 : Nat) : Int) = (0)) := e
                refine w_pl (pc' := 62) (lv' := [(4, (0, (dg))), (3, (0, ((0 : Nat) : Int))), (0, (2, ((193 : Nat) : Int))), (1, (0, ((m' : Nat) : Int))), (2, (0, (dg)))]) (st' := [(0, ((0 : Nat) : Int))]) (h' := h) (o264_32 hB) rfl ?_
                refine w_ifc (pt := 67) (pf := 65) (o264_33 hB) (by decide) rfl (fun e => ?_) (fun e => ?_)
                · have f419 : (((0 : Nat) : Int) ≠ (0)) := e
                  exfalso; omega
                · have f420 : ¬ (((0 : Nat) : Int) ≠ (0)) := e
                  refine w_pl (pc' := 66) (lv' := [(4, (0, (dg))), (3, (0, ((0 : Nat) : Int))), (0, (2, ((193 : Nat) : Int))), (1, (0, ((m' : Nat) : Int))), (2, (0, (dg)))]) (st' := [(0, (-1))]) (h' := h) (o264_34 hB) rfl ?_
                  exact w_iret (o264_35 hB) mr264 (by unfold in32; omega) (a0 (by omega))
              · have f421 : ¬ (((0 : Nat) : Int) = (0)) := e
                exfalso; omega
          · have f422 : ¬ (((0 : Nat) : Int) = (0)) := e
            exfalso; omega
    · show HW g l _ 264 _ _ 4 [(0, (2, ((193 : Nat) : Int))), (1, (0, ((m' : Nat) : Int))), (2, (0, (dg)))] [(0, ((0 : Nat) : Int))] h
      refine w_ifc (pt := 22) (pf := 7) (o264_2 hB) (by decide) rfl (fun e => ?_) (fun e => ?_)
      · have f423 : (((0 : Nat) : Int) = (0)) := e
        refine w_pl (pc' := 23) (lv' := [(0, (2, ((193 : Nat) : Int))), (1, (0, ((m' : Nat) : Int))), (2, (0, (dg)))]) (st' := [(0, ((0 : Nat) : Int))]) (h' := h) (o264_10 hB) rfl ?_
        refine w_st (tg := 0) (j := 3) (len := 1) (pc' := 24) (lv' := [(3, (0, ((0 : Nat) : Int))), (0, (2, ((193 : Nat) : Int))), (1, (0, ((m' : Nat) : Int))), (2, (0, (dg)))]) (o264_11 hB) rfl rfl ml264 (by decide) rfl ?_
        refine w_pl (pc' := 25) (lv' := [(3, (0, ((0 : Nat) : Int))), (0, (2, ((193 : Nat) : Int))), (1, (0, ((m' : Nat) : Int))), (2, (0, (dg)))]) (st' := [(0, (dg))]) (h' := h) (o264_12 hB) rfl ?_
        refine w_st (tg := 0) (j := 4) (len := 2) (pc' := 27) (lv' := [(4, (0, (dg))), (3, (0, ((0 : Nat) : Int))), (0, (2, ((193 : Nat) : Int))), (1, (0, ((m' : Nat) : Int))), (2, (0, (dg)))]) (o264_13 hB) rfl rfl ml264 (by decide) rfl ?_
        refine w_pl (pc' := 29) (lv' := [(4, (0, (dg))), (3, (0, ((0 : Nat) : Int))), (0, (2, ((193 : Nat) : Int))), (1, (0, ((m' : Nat) : Int))), (2, (0, (dg)))]) (st' := [(0, (dg))]) (h' := h) (o264_14 hB) rfl ?_
        refine w_ifc (pt := 61) (pf := 32) (o264_15 hB) (by decide) rfl (fun e => ?_) (fun e => ?_)
        · have f424 : ((dg) ≤ (0)) := e
          refine w_pl (pc' := 62) (lv' := [(4, (0, (dg))), (3, (0, ((0 : Nat) : Int))), (0, (2, ((193 : Nat) : Int))), (1, (0, ((m' : Nat) : Int))), (2, (0, (dg)))]) (st' := [(0, ((0 : Nat) : Int))]) (h' := h) (o264_32 hB) rfl ?_
          refine w_ifc (pt := 67) (pf := 65) (o264_33 hB) (by decide) rfl (fun e => ?_) (fun e => ?_)
          · have f425 : (((0 : Nat) : Int) ≠ (0)) := e
            exfalso; omega
          · have f426 : ¬ (((0 : Nat) : Int) ≠ (0)) := e
            refine w_pl (pc' := 66) (lv' := [(4, (0, (dg))), (3, (0, ((0 : Nat) : Int))), (0, (2, ((193 : Nat) : Int))), (1, (0, ((m' : Nat) : Int))), (2, (0, (dg)))]) (st' := [(0, (-1))]) (h' := h) (o264_34 hB) rfl ?_
            exact w_iret (o264_35 hB) mr264 (by unfold in32; omega) (a0 (by omega))
        · have f427 : ¬ ((dg) ≤ (0)) := e
          refine w_pl (pc' := 33) (lv' := [(4, (0, (dg))), (3, (0, ((0 : Nat) : Int))), (0, (2, ((193 : Nat) : Int))), (1, (0, ((m' : Nat) : Int))), (2, (0, (dg)))]) (st' := [(0, ((0 : Nat) : Int))]) (h' := h) (o264_16 hB) rfl ?_
          refine w_ifc (pt := 61) (pf := 36) (o264_17 hB) (by decide) rfl (fun e => ?_) (fun e => ?_)
          · have f428 : (((0 : Nat) : Int) = (0)) := e
            refine w_pl (pc' := 62) (lv' := [(4, (0, (dg))), (3, (0, ((0 : Nat) : Int))), (0, (2, ((193 : Nat) : Int))), (1, (0, ((m' : Nat) : Int))), (2, (0, (dg)))]) (st' := [(0, ((0 : Nat) : Int))]) (h' := h) (o264_32 hB) rfl ?_
            refine w_ifc (pt := 67) (pf := 65) (o264_33 hB) (by decide) rfl (fun e => ?_) (fun e => ?_)
            · have f429 : (((0 : Nat) : Int) ≠ (0)) := e
              exfalso; omega
            · have f430 : ¬ (((0 : Nat) : Int) ≠ (0)) := e
              refine w_pl (pc' := 66) (lv' := [(4, (0, (dg))), (3, (0, ((0 : Nat) : Int))), (0, (2, ((193 : Nat) : Int))), (1, (0, ((m' : Nat) : Int))), (2, (0, (dg)))]) (st' := [(0, (-1))]) (h' := h) (o264_34 hB) rfl ?_
              exact w_iret (o264_35 hB) mr264 (by unfold in32; omega) (a0 (by omega))
          · have f431 : ¬ (((0 : Nat) : Int) = (0)) := e
            exfalso; omega
      · have f432 : ¬ (((0 : Nat) : Int) = (0)) := e
        exfalso; omega
def s_machineM (vs : List bV) (h : bH) (r : Option bV) (h' : bH) : Prop := TH h ∧ ∀ (mk dg : Int) (oz : Int) , vs = [(2, ((193 : Nat) : Int)), (0, mk), (0, dg)] → h 194 (582 + mk.toNat) = oz → ((¬ ((0 ≤ mk ∧ mk ≤ 5) ∧ (0 ≤ dg ∧ dg ≤ 333333) ∧ dg % 10 ≤ 3 ∧ dg / 10 % 10 ≤ 3 ∧ dg / 10 / 10 % 10 ≤ 3 ∧ dg / 10 / 10 / 10 % 10 ≤ 3 ∧ dg / 10 / 10 / 10 / 10 % 10 ≤ 3 ∧ dg / 10 / 10 / 10 / 10 / 10 % 10 ≤ 3)) ∧ r = some (0, (-1)) ∧ h = h') ∨ (((0 ≤ mk ∧ mk ≤ 5) ∧ (0 ≤ dg ∧ dg ≤ 333333) ∧ dg % 10 ≤ 3 ∧ dg / 10 % 10 ≤ 3 ∧ dg / 10 / 10 % 10 ≤ 3 ∧ dg / 10 / 10 / 10 % 10 ≤ 3 ∧ dg / 10 / 10 / 10 / 10 % 10 ≤ 3 ∧ dg / 10 / 10 / 10 / 10 / 10 % 10 ≤ 3) ∧ r = some (0, oz) ∧ h' = (hup h 194 ((582 + (mk.toNat))) (dg)))
def w_machineM : List (Nat × Nat × Nat) := [(194, 582, 588)]
def q_machineM : aCt := cH 264 2 w_machineM 2 193
theorem sk_machineM (hB : BytesOK) (g : bG) (l : Launch) : SK g l gT q_machineM s_machineM := by
  intro d hd ρ h Q hcore hQ
  have hcore : core (PofW gT (some w_machineM) false) (gsc g) h ρ h (List.replicate 2 r32, [], [], 212) := hcore
  have ht := hTH hcore
  have y0 := r32_0 hcore 0 (by decide)
  have y1 := r32_0 hcore 1 (by decide)
  have y00 := y0
  unfold in32 at y00
  have y01 := y1
  unfold in32 at y01
  obtain ⟨d', rfl⟩ : ∃ d', d = d' + 1 + 1 := ⟨d - 2, by have : 2 ≤ d := hd; omega⟩
  rw [show evS ρ (ctA q_machineM) = [(2, ((193 : Nat) : Int)), (0, ρ 0), (0, ρ 1)] from evA2]
  refine m_machineM (mk := ρ 0) (dg := ρ 1) hB ht y0 y1 rfl (fun hn => ?_) (fun hn => ?_)
  · refine hQ _ _ (hpost hcore (ht) (fun _ _ _ => rfl) (by unfold in32; omega)) ⟨ht, fun mk dg v_oz hv e_oz => ?_⟩
    have hv := (evA2 (ρ := ρ)).symm.trans hv
    obtain ⟨rfl, rfl⟩ := vsA2 hv
    subst e_oz
    exact Or.inl ⟨hn, rfl, rfl⟩
  · skip
    obtain ⟨m', e_m9⟩ : ∃ q : Nat, (ρ 0).toNat = q := ⟨_, rfl⟩
    rw [e_m9]
    have a15 : h 194 (582 + (ρ 0).toNat) = h 194 (582 + m') := by rw [e_m9]
    have e15 := ty_194_s582 ht (j := 582 + (ρ 0).toNat) (r := (ρ 0).toNat) (by omega) (by omega)
    refine hQ _ _ (hpost hcore ((ht).ups2 (a := 194) (s := 582) (st := 1) (n := 6) (lo := (0)) (hi := 333333) (r := m') (by decide +kernel) (by omega) (by omega) (by omega)) (fr_up (fun _ _ _ => rfl) (wr_in (lo := 582) (hi := 588) (by decide) (by omega) (by omega))) (by have := ty_194_s582 ht (j := 582 + (ρ 0).toNat) (r := (ρ 0).toNat) (by omega) (by omega); unfold in32; omega)) ⟨ht, fun mk dg v_oz hv e_oz => ?_⟩
    have hv := (evA2 (ρ := ρ)).symm.trans hv
    obtain ⟨rfl, rfl⟩ := vsA2 hv
    subst e_oz
    exact Or.inr (⟨hn, by first | rfl | (rw [e_m9]; done), by rw [e_m9]⟩)
def cxB : Bool := (List.range 48).all fun i => cB 194 (588 + i) 0 1
theorem cxB_ok : cxB = true := by decide +kernel
theorem ty_cxc {j : Nat} (h1 : 588 ≤ j) (h2 : j < 636) : cB 194 j 0 1 = true := by
  have := List.all_eq_true.mp cxB_ok (j - 588) (List.mem_range.mpr (by omega))
  rw [show 588 + (j - 588) = j by omega] at this
  exact this
theorem ty_cx {h : bH} (ht : TH h) {j : Nat} (h1 : 588 ≤ j) (h2 : j < 636) : 0 ≤ h 194 j ∧ h 194 j ≤ 1 := ht.c (ty_cxc h1 h2)
theorem up_cx {h : bH} (ht : TH h) {j : Nat} {v : Int} (h1 : 588 ≤ j) (h2 : j < 636) (hv : 0 ≤ v ∧ v ≤ 1) : TH (hup h 194 j v) := ht.upc (ty_cxc h1 h2) hv
theorem m_hasCrossed (hB : BytesOK) {g : bG} {l : Launch} {d : Nat} {Q : bQ} {h : bH} {o m : Nat} {bb : Int} (ht : TH h) (lo : o < 8) (hbb : h 33 o = bb) (h1 : andI (shrI bb ((m : Nat) : Int)) 1 ≠ 0 → Q (some (0, 1)) h) (h0 : ¬ (andI (shrI bb ((m : Nat) : Int)) 1 ≠ 0) → Q (some (0, 0)) h) : MH g l d 76 212 212 [(2, ((30 : Nat) : Int)), (0, ((o : Nat) : Int)), (0, ((m : Nat) : Int))] h Q := by
  have hR := ht.r
  refine mh_go hB mg76 ml76 (Nat.le_of_ble_eq_true rfl) ?_
  show HW g l d 76 _ _ 0 [(0, (2, ((30 : Nat) : Int))), (1, (0, ((o : Nat) : Int))), (2, (0, ((m : Nat) : Int)))] [] h
  refine w_pl (pc' := 1) (lv' := [(0, (2, ((30 : Nat) : Int))), (1, (0, ((o : Nat) : Int))), (2, (0, ((m : Nat) : Int)))]) (st' := [(2, ((30 : Nat) : Int))]) (h' := h) (o76_0 hB) rfl ?_
  refine w_getf (A := 30) (t := 2) (z := ((33 : Nat) : Int)) (pc' := 4) (o76_1 hB) rfl (by decide +kernel) (hR (30, 2, 33) (by decide)) ?_
  refine w_pl (pc' := 5) (lv' := [(0, (2, ((30 : Nat) : Int))), (1, (0, ((o : Nat) : Int))), (2, (0, ((m : Nat) : Int)))]) (st' := [(0, ((o : Nat) : Int)), (2, ((33 : Nat) : Int))]) (h' := h) (o76_2 hB) rfl ?_
  refine w_iald (A := 33) (i := o) (n := 8) (z := (bb)) (pc' := 6) (o76_3 hB) rfl (by decide +kernel) (by omega) hbb ?_
  refine w_pl (pc' := 7) (lv' := [(0, (2, ((30 : Nat) : Int))), (1, (0, ((o : Nat) : Int))), (2, (0, ((m : Nat) : Int)))]) (st' := [(0, ((m : Nat) : Int)), (0, (bb))]) (h' := h) (o76_4 hB) rfl ?_
  refine w_ishr (z := (shrI (bb) ((m : Nat) : Int))) (pc' := 8) (o76_5 hB) rfl rfl ?_
  refine w_pl (pc' := 9) (lv' := [(0, (2, ((30 : Nat) : Int))), (1, (0, ((o : Nat) : Int))), (2, (0, ((m : Nat) : Int)))]) (st' := [(0, ((1 : Nat) : Int)), (0, (shrI (bb) ((m : Nat) : Int)))]) (h' := h) (o76_6 hB) rfl ?_
  refine w_iand (z := (andI (shrI (bb) ((m : Nat) : Int)) 1)) (pc' := 10) (o76_7 hB) rfl rfl ?_
  refine w_ifc (pt := 17) (pf := 13) (o76_8 hB) (by decide) rfl (fun e => ?_) (fun e => ?_)
  · have f433 : ((andI (shrI (bb) ((m : Nat) : Int)) 1) = (0)) := e
    refine w_pl (pc' := 18) (lv' := [(0, (2, ((30 : Nat) : Int))), (1, (0, ((o : Nat) : Int))), (2, (0, ((m : Nat) : Int)))]) (st' := [(0, ((0 : Nat) : Int))]) (h' := h) (o76_11 hB) rfl ?_
    exact w_zret (o76_12 hB) mr76 (by decide) (h0 (by omega))
  · have f434 : ¬ ((andI (shrI (bb) ((m : Nat) : Int)) 1) = (0)) := e
    refine w_pl (pc' := 14) (lv' := [(0, (2, ((30 : Nat) : Int))), (1, (0, ((o : Nat) : Int))), (2, (0, ((m : Nat) : Int)))]) (st' := [(0, ((1 : Nat) : Int))]) (h' := h) (o76_9 hB) rfl ?_
    refine w_goto (pt := 18) (o76_10 hB) (by decide) ?_
    exact w_zret (o76_12 hB) mr76 (by decide) (h1 (by omega))
theorem m_setCrossed (hB : BytesOK) {g : bG} {l : Launch} {d : Nat} {Q : bQ} {h : bH} {o mk i : Int} (ht : TH h) (z_o : in32 o) (z_mk : in32 mk) (z_i : in32 i) {bi : Int} (hbi : h 33 (o.toNat) = bi)  (a0 : ¬ ((0 ≤ o ∧ o ≤ 7) ∧ 0 ≤ mk ∧ mk ≤ 5) → Q (some (0, (-1))) h) (a1 : ((0 ≤ o ∧ o ≤ 7) ∧ 0 ≤ mk ∧ mk ≤ 5) ∧ i ≠ 0 ∧ andI (shrI bi mk) 1 ≠ 0 → Q (some (0, 1)) (hup h 33 ((o.toNat)) (orI (bi) (shlI 1 (((mk.toNat) : Nat) : Int))))) (a2 : ((0 ≤ o ∧ o ≤ 7) ∧ 0 ≤ mk ∧ mk ≤ 5) ∧ i ≠ 0 ∧ andI (shrI bi mk) 1 = 0 → Q (some (0, 0)) (hup h 33 ((o.toNat)) (orI (bi) (shlI 1 (((mk.toNat) : Nat) : Int))))) (a3 : ((0 ≤ o ∧ o ≤ 7) ∧ 0 ≤ mk ∧ mk ≤ 5) ∧ i = 0 ∧ andI (shrI bi mk) 1 ≠ 0 → Q (some (0, 1)) (hup h 33 ((o.toNat)) (andI (bi) (xorI (shlI 1 (((mk.toNat) : Nat) : Int)) (-1))))) (a4 : ((0 ≤ o ∧ o ≤ 7) ∧ 0 ≤ mk ∧ mk ≤ 5) ∧ i = 0 ∧ andI (shrI bi mk) 1 = 0 → Q (some (0, 0)) (hup h 33 ((o.toNat)) (andI (bi) (xorI (shlI 1 (((mk.toNat) : Nat) : Int)) (-1))))) : MH g l (d + 1) 77 212 212 [(2, ((30 : Nat) : Int)), (0, (o)), (0, (mk)), (0, (i))] h Q := by
  have hR := ht.r
  have z0_o := z_o
  have z0_mk := z_mk
  have z0_i := z_i
  unfold in32 at z0_o
  unfold in32 at z0_mk
  unfold in32 at z0_i
  rcases (by omega : ¬ (0 ≤ o ∧ o ≤ 7) ∨ ((0 ≤ o ∧ o ≤ 7) ∧ ¬ (0 ≤ mk ∧ mk ≤ 5)) ∨ ((0 ≤ o ∧ o ≤ 7) ∧ (0 ≤ mk ∧ mk ≤ 5))) with gg | gg | gg
  · skip
    refine mh_go hB mg77 ml77 (Nat.le_of_ble_eq_true rfl) ?_
    show HW g l (d + 1) 77 _ _ 0 [(0, (2, ((30 : Nat) : Int))), (1, (0, (o))), (2, (0, (mk))), (3, (0, (i)))] [] h
    refine w_pl (pc' := 1) (lv' := [(0, (2, ((30 : Nat) : Int))), (1, (0, (o))), (2, (0, (mk))), (3, (0, (i)))]) (st' := [(0, (o))]) (h' := h) (o77_0 hB) rfl ?_
    refine w_callS (as := [(0, (o))]) (rest := []) (n := 1) (pc' := 4) hB (o77_1 hB) rfl (by decide +kernel) rfl rfl (Nat.le_of_ble_eq_true rfl) (m_isOwnerB hB (fun f469 => ?_) (fun f470 => ?_))
    · exfalso; omega
    · show HW g l _ 77 _ _ 4 [(0, (2, ((30 : Nat) : Int))), (1, (0, (o))), (2, (0, (mk))), (3, (0, (i)))] [(0, ((0 : Nat) : Int))] h
      refine w_ifc (pt := 14) (pf := 7) (o77_2 hB) (by decide) rfl (fun e => ?_) (fun e => ?_)
      · have f471 : (((0 : Nat) : Int) = (0)) := e
        refine w_pl (pc' := 15) (lv' := [(0, (2, ((30 : Nat) : Int))), (1, (0, (o))), (2, (0, (mk))), (3, (0, (i)))]) (st' := [(0, (-1))]) (h' := h) (o77_6 hB) rfl ?_
        exact w_iret (o77_7 hB) mr77 (by unfold in32; omega) (a0 (by omega))
      · have f472 : ¬ (((0 : Nat) : Int) = (0)) := e
        exfalso; omega
  · skip
    refine mh_go hB mg77 ml77 (Nat.le_of_ble_eq_true rfl) ?_
    show HW g l (d + 1) 77 _ _ 0 [(0, (2, ((30 : Nat) : Int))), (1, (0, (o))), (2, (0, (mk))), (3, (0, (i)))] [] h
    refine w_pl (pc' := 1) (lv' := [(0, (2, ((30 : Nat) : Int))), (1, (0, (o))), (2, (0, (mk))), (3, (0, (i)))]) (st' := [(0, (o))]) (h' := h) (o77_0 hB) rfl ?_
    refine w_callS (as := [(0, (o))]) (rest := []) (n := 1) (pc' := 4) hB (o77_1 hB) rfl (by decide +kernel) rfl rfl (Nat.le_of_ble_eq_true rfl) (m_isOwnerB hB (fun f473 => ?_) (fun f474 => ?_))
    · show HW g l _ 77 _ _ 4 [(0, (2, ((30 : Nat) : Int))), (1, (0, (o))), (2, (0, (mk))), (3, (0, (i)))] [(0, ((1 : Nat) : Int))] h
      refine w_ifc (pt := 14) (pf := 7) (o77_2 hB) (by decide) rfl (fun e => ?_) (fun e => ?_)
      · have f475 : (((1 : Nat) : Int) = (0)) := e
        exfalso; omega
      · have f476 : ¬ (((1 : Nat) : Int) = (0)) := e
        refine w_pl (pc' := 8) (lv' := [(0, (2, ((30 : Nat) : Int))), (1, (0, (o))), (2, (0, (mk))), (3, (0, (i)))]) (st' := [(0, (mk))]) (h' := h) (o77_3 hB) rfl ?_
        refine w_callS (as := [(0, (mk))]) (rest := []) (n := 1) (pc' := 11) hB (o77_4 hB) rfl (by decide +kernel) rfl rfl (Nat.le_of_ble_eq_true rfl) (m_isMakerB hB (fun f477 => ?_) (fun f478 => ?_))
        · exfalso; omega
        · show HW g l _ 77 _ _ 11 [(0, (2, ((30 : Nat) : Int))), (1, (0, (o))), (2, (0, (mk))), (3, (0, (i)))] [(0, ((0 : Nat) : Int))] h
          refine w_ifc (pt := 16) (pf := 14) (o77_5 hB) (by decide) rfl (fun e => ?_) (fun e => ?_)
          · have f479 : (((0 : Nat) : Int) ≠ (0)) := e
            exfalso; omega
          · have f480 : ¬ (((0 : Nat) : Int) ≠ (0)) := e
            refine w_pl (pc' := 15) (lv' := [(0, (2, ((30 : Nat) : Int))), (1, (0, (o))), (2, (0, (mk))), (3, (0, (i)))]) (st' := [(0, (-1))]) (h' := h) (o77_6 hB) rfl ?_
            exact w_iret (o77_7 hB) mr77 (by unfold in32; omega) (a0 (by omega))
    · exfalso; omega
  · obtain ⟨o', e_o⟩ : ∃ q : Nat, o = q := ⟨o.toNat, by omega⟩
    subst e_o
    obtain ⟨m', e_m⟩ : ∃ q : Nat, mk = q := ⟨mk.toNat, by omega⟩
    subst e_m
    simp only [Int.toNat_natCast] at hbi a1 a2 a3 a4
    refine mh_go hB mg77 ml77 (Nat.le_of_ble_eq_true rfl) ?_
    show HW g l (d + 1) 77 _ _ 0 [(0, (2, ((30 : Nat) : Int))), (1, (0, ((o' : Nat) : Int))), (2, (0, ((m' : Nat) : Int))), (3, (0, (i)))] [] h
    refine w_pl (pc' := 1) (lv' := [(0, (2, ((30 : Nat) : Int))), (1, (0, ((o' : Nat) : Int))), (2, (0, ((m' : Nat) : Int))), (3, (0, (i)))]) (st' := [(0, ((o' : Nat) : Int))]) (h' := h) (o77_0 hB) rfl ?_
    refine w_callS (as := [(0, ((o' : Nat) : Int))]) (rest := []) (n := 1) (pc' := 4) hB (o77_1 hB) rfl (by decide +kernel) rfl rfl (Nat.le_of_ble_eq_true rfl) (m_isOwnerB hB (fun f481 => ?_) (fun f482 => ?_))
    · show HW g l _ 77 _ _ 4 [(0, (2, ((30 : Nat) : Int))), (1, (0, ((o' : Nat) : Int))), (2, (0, ((m' : Nat) : Int))), (3, (0, (i)))] [(0, ((1 : Nat) : Int))] h
      refine w_ifc (pt := 14) (pf := 7) (o77_2 hB) (by decide) rfl (fun e => ?_) (fun e => ?_)
      · have f483 : (((1 : Nat) : Int) = (0)) := e
        exfalso; omega
      · have f484 : ¬ (((1 : Nat) : Int) = (0)) := e
        refine w_pl (pc' := 8) (lv' := [(0, (2, ((30 : Nat) : Int))), (1, (0, ((o' : Nat) : Int))), (2, (0, ((m' : Nat) : Int))), (3, (0, (i)))]) (st' := [(0, ((m' : Nat) : Int))]) (h' := h) (o77_3 hB) rfl ?_
        refine w_callS (as := [(0, ((m' : Nat) : Int))]) (rest := []) (n := 1) (pc' := 11) hB (o77_4 hB) rfl (by decide +kernel) rfl rfl (Nat.le_of_ble_eq_true rfl) (m_isMakerB hB (fun f485 => ?_) (fun f486 => ?_))
        · show HW g l _ 77 _ _ 11 [(0, (2, ((30 : Nat) : Int))), (1, (0, ((o' : Nat) : Int))), (2, (0, ((m' : Nat) : Int))), (3, (0, (i)))] [(0, ((1 : Nat) : Int))] h
          refine w_ifc (pt := 16) (pf := 14) (o77_5 hB) (by decide) rfl (fun e => ?_) (fun e => ?_)
          · have f487 : (((1 : Nat) : Int) ≠ (0)) := e
            refine w_pl (pc' := 17) (lv' := [(0, (2, ((30 : Nat) : Int))), (1, (0, ((o' : Nat) : Int))), (2, (0, ((m' : Nat) : Int))), (3, (0, (i)))]) (st' := [(2, ((30 : Nat) : Int))]) (h' := h) (o77_8 hB) rfl ?_
            refine w_pl (pc' := 18) (lv' := [(0, (2, ((30 : Nat) : Int))), (1, (0, ((o' : Nat) : Int))), (2, (0, ((m' : Nat) : Int))), (3, (0, (i)))]) (st' := [(0, ((o' : Nat) : Int)), (2, ((30 : Nat) : Int))]) (h' := h) (o77_9 hB) rfl ?_
            refine w_pl (pc' := 19) (lv' := [(0, (2, ((30 : Nat) : Int))), (1, (0, ((o' : Nat) : Int))), (2, (0, ((m' : Nat) : Int))), (3, (0, (i)))]) (st' := [(0, ((m' : Nat) : Int)), (0, ((o' : Nat) : Int)), (2, ((30 : Nat) : Int))]) (h' := h) (o77_10 hB) rfl ?_
            refine w_callV (A := 30) (as := [(0, ((o' : Nat) : Int)), (0, ((m' : Nat) : Int))]) (rest := []) (n := 2) (pc' := 22) 6 hB (o77_11 hB) rfl (by decide +kernel) rfl rfl (Nat.le_of_ble_eq_true rfl) (m_hasCrossed hB ht (by omega) hbi (fun f488 => ?_) (fun f489 => ?_))
            · show HW g l _ 77 _ _ 22 [(0, (2, ((30 : Nat) : Int))), (1, (0, ((o' : Nat) : Int))), (2, (0, ((m' : Nat) : Int))), (3, (0, (i)))] [(0, ((1 : Nat) : Int))] h
              refine w_ifc (pt := 29) (pf := 25) (o77_12 hB) (by decide) rfl (fun e => ?_) (fun e => ?_)
              · have f490 : (((1 : Nat) : Int) = (0)) := e
                exfalso; omega
              · have f491 : ¬ (((1 : Nat) : Int) = (0)) := e
                refine w_pl (pc' := 26) (lv' := [(0, (2, ((30 : Nat) : Int))), (1, (0, ((o' : Nat) : Int))), (2, (0, ((m' : Nat) : Int))), (3, (0, (i)))]) (st' := [(0, ((1 : Nat) : Int))]) (h' := h) (o77_13 hB) rfl ?_
                refine w_goto (pt := 30) (o77_14 hB) (by decide) ?_
                refine w_st (tg := 0) (j := 4) (len := 2) (pc' := 32) (lv' := [(4, (0, ((1 : Nat) : Int))), (0, (2, ((30 : Nat) : Int))), (1, (0, ((o' : Nat) : Int))), (2, (0, ((m' : Nat) : Int))), (3, (0, (i)))]) (o77_16 hB) rfl rfl ml77 (by decide) rfl ?_
                refine w_pl (pc' := 33) (lv' := [(4, (0, ((1 : Nat) : Int))), (0, (2, ((30 : Nat) : Int))), (1, (0, ((o' : Nat) : Int))), (2, (0, ((m' : Nat) : Int))), (3, (0, (i)))]) (st' := [(2, ((30 : Nat) : Int))]) (h' := h) (o77_17 hB) rfl ?_
                refine w_getf (A := 30) (t := 2) (z := ((33 : Nat) : Int)) (pc' := 36) (o77_18 hB) rfl (by decide +kernel) (hR (30, 2, 33) (by decide)) ?_
                refine w_pl (pc' := 37) (lv' := [(4, (0, ((1 : Nat) : Int))), (0, (2, ((30 : Nat) : Int))), (1, (0, ((o' : Nat) : Int))), (2, (0, ((m' : Nat) : Int))), (3, (0, (i)))]) (st' := [(0, ((o' : Nat) : Int)), (2, ((33 : Nat) : Int))]) (h' := h) (o77_19 hB) rfl ?_
                refine w_pl (pc' := 38) (lv' := [(4, (0, ((1 : Nat) : Int))), (0, (2, ((30 : Nat) : Int))), (1, (0, ((o' : Nat) : Int))), (2, (0, ((m' : Nat) : Int))), (3, (0, (i)))]) (st' := [(2, ((30 : Nat) : Int)), (0, ((o' : Nat) : Int)), (2, ((33 : Nat) : Int))]) (h' := h) (o77_20 hB) rfl ?_
                refine w_getf (A := 30) (t := 2) (z := ((33 : Nat) : Int)) (pc' := 41) (o77_21 hB) rfl (by decide +kernel) (hR (30, 2, 33) (by decide)) ?_
                refine w_pl (pc' := 42) (lv' := [(4, (0, ((1 : Nat) : Int))), (0, (2, ((30 : Nat) : Int))), (1, (0, ((o' : Nat) : Int))), (2, (0, ((m' : Nat) : Int))), (3, (0, (i)))]) (st' := [(0, ((o' : Nat) : Int)), (2, ((33 : Nat) : Int)), (0, ((o' : Nat) : Int)), (2, ((33 : Nat) : Int))]) (h' := h) (o77_22 hB) rfl ?_
                refine w_iald (A := 33) (i := o') (n := 8) (z := (bi)) (pc' := 43) (o77_23 hB) rfl (by decide +kernel) (by omega) hbi ?_
                refine w_pl (pc' := 44) (lv' := [(4, (0, ((1 : Nat) : Int))), (0, (2, ((30 : Nat) : Int))), (1, (0, ((o' : Nat) : Int))), (2, (0, ((m' : Nat) : Int))), (3, (0, (i)))]) (st' := [(0, ((m' : Nat) : Int)), (0, (bi)), (0, ((o' : Nat) : Int)), (2, ((33 : Nat) : Int))]) (h' := h) (o77_24 hB) rfl ?_
                refine w_pl (pc' := 45) (lv' := [(4, (0, ((1 : Nat) : Int))), (0, (2, ((30 : Nat) : Int))), (1, (0, ((o' : Nat) : Int))), (2, (0, ((m' : Nat) : Int))), (3, (0, (i)))]) (st' := [(0, (i)), (0, ((m' : Nat) : Int)), (0, (bi)), (0, ((o' : Nat) : Int)), (2, ((33 : Nat) : Int))]) (h' := h) (o77_25 hB) rfl ?_
                refine w_callS (as := [(0, (bi)), (0, ((m' : Nat) : Int)), (0, (i))]) (rest := [(0, ((o' : Nat) : Int)), (2, ((33 : Nat) : Int))]) (n := 3) (pc' := 48) hB (o77_26 hB) rfl (by decide +kernel) rfl rfl (Nat.le_of_ble_eq_true rfl) (m_withBit hB (fun f492 => ?_) (fun f493 => ?_))
                · show HW g l _ 77 _ _ 48 [(4, (0, ((1 : Nat) : Int))), (0, (2, ((30 : Nat) : Int))), (1, (0, ((o' : Nat) : Int))), (2, (0, ((m' : Nat) : Int))), (3, (0, (i)))] [(0, (orI (bi) (shlI 1 ((m' : Nat) : Int)))), (0, ((o' : Nat) : Int)), (2, ((33 : Nat) : Int))] h
                  refine w_iast (A := 33) (i := o') (n := 8) (pc' := 49) (o77_27 hB) rfl (by decide +kernel) (by omega) ?_
                  refine w_pl (pc' := 51) (lv' := [(4, (0, ((1 : Nat) : Int))), (0, (2, ((30 : Nat) : Int))), (1, (0, ((o' : Nat) : Int))), (2, (0, ((m' : Nat) : Int))), (3, (0, (i)))]) (st' := [(0, ((1 : Nat) : Int))]) (h' := (hup h 33 (o') (orI (bi) (shlI 1 ((m' : Nat) : Int))))) (o77_28 hB) rfl ?_
                  exact w_iret (o77_29 hB) mr77 (by unfold in32; omega) (a1 (by omega))
                · show HW g l _ 77 _ _ 48 [(4, (0, ((1 : Nat) : Int))), (0, (2, ((30 : Nat) : Int))), (1, (0, ((o' : Nat) : Int))), (2, (0, ((m' : Nat) : Int))), (3, (0, (i)))] [(0, (andI (bi) (xorI (shlI 1 ((m' : Nat) : Int)) (-1)))), (0, ((o' : Nat) : Int)), (2, ((33 : Nat) : Int))] h
                  refine w_iast (A := 33) (i := o') (n := 8) (pc' := 49) (o77_27 hB) rfl (by decide +kernel) (by omega) ?_
                  refine w_pl (pc' := 51) (lv' := [(4, (0, ((1 : Nat) : Int))), (0, (2, ((30 : Nat) : Int))), (1, (0, ((o' : Nat) : Int))), (2, (0, ((m' : Nat) : Int))), (3, (0, (i)))]) (st' := [(0, ((1 : Nat) : Int))]) (h' := (hup h 33 (o') (andI (bi) (xorI (shlI 1 ((m' : Nat) : Int)) (-1))))) (o77_28 hB) rfl ?_
                  exact w_iret (o77_29 hB) mr77 (by unfold in32; omega) (a3 (by omega))
            · show HW g l _ 77 _ _ 22 [(0, (2, ((30 : Nat) : Int))), (1, (0, ((o' : Nat) : Int))), (2, (0, ((m' : Nat) : Int))), (3, (0, (i)))] [(0, ((0 : Nat) : Int))] h
              refine w_ifc (pt := 29) (pf := 25) (o77_12 hB) (by decide) rfl (fun e => ?_) (fun e => ?_)
              · have f494 : (((0 : Nat) : Int) = (0)) := e
                refine w_pl (pc' := 30) (lv' := [(0, (2, ((30 : Nat) : Int))), (1, (0, ((o' : Nat) : Int))), (2, (0, ((m' : Nat) : Int))), (3, (0, (i)))]) (st' := [(0, ((0 : Nat) : Int))]) (h' := h) (o77_15 hB) rfl ?_
                refine w_st (tg := 0) (j := 4) (len := 2) (pc' := 32) (lv' := [(4, (0, ((0 : Nat) : Int))), (0, (2, ((30 : Nat) : Int))), (1, (0, ((o' : Nat) : Int))), (2, (0, ((m' : Nat) : Int))), (3, (0, (i)))]) (o77_16 hB) rfl rfl ml77 (by decide) rfl ?_
                refine w_pl (pc' := 33) (lv' := [(4, (0, ((0 : Nat) : Int))), (0, (2, ((30 : Nat) : Int))), (1, (0, ((o' : Nat) : Int))), (2, (0, ((m' : Nat) : Int))), (3, (0, (i)))]) (st' := [(2, ((30 : Nat) : Int))]) (h' := h) (o77_17 hB) rfl ?_
                refine w_getf (A := 30) (t := 2) (z := ((33 : Nat) : Int)) (pc' := 36) (o77_18 hB) rfl (by decide +kernel) (hR (30, 2, 33) (by decide)) ?_
                refine w_pl (pc' := 37) (lv' := [(4, (0, ((0 : Nat) : Int))), (0, (2, ((30 : Nat) : Int))), (1, (0, ((o' : Nat) : Int))), (2, (0, ((m' : Nat) : Int))), (3, (0, (i)))]) (st' := [(0, ((o' : Nat) : Int)), (2, ((33 : Nat) : Int))]) (h' := h) (o77_19 hB) rfl ?_
                refine w_pl (pc' := 38) (lv' := [(4, (0, ((0 : Nat) : Int))), (0, (2, ((30 : Nat) : Int))), (1, (0, ((o' : Nat) : Int))), (2, (0, ((m' : Nat) : Int))), (3, (0, (i)))]) (st' := [(2, ((30 : Nat) : Int)), (0, ((o' : Nat) : Int)), (2, ((33 : Nat) : Int))]) (h' := h) (o77_20 hB) rfl ?_
                refine w_getf (A := 30) (t := 2) (z := ((33 : Nat) : Int)) (pc' := 41) (o77_21 hB) rfl (by decide +kernel) (hR (30, 2, 33) (by decide)) ?_
                refine w_pl (pc' := 42) (lv' := [(4, (0, ((0 : Nat) : Int))), (0, (2, ((30 : Nat) : Int))), (1, (0, ((o' : Nat) : Int))), (2, (0, ((m' : Nat) : Int))), (3, (0, (i)))]) (st' := [(0, ((o' : Nat) : Int)), (2, ((33 : Nat) : Int)), (0, ((o' : Nat) : Int)), (2, ((33 : Nat) : Int))]) (h' := h) (o77_22 hB) rfl ?_
                refine w_iald (A := 33) (i := o') (n := 8) (z := (bi)) (pc' := 43) (o77_23 hB) rfl (by decide +kernel) (by omega) hbi ?_
                refine w_pl (pc' := 44) (lv' := [(4, (0, ((0 : Nat) : Int))), (0, (2, ((30 : Nat) : Int))), (1, (0, ((o' : Nat) : Int))), (2, (0, ((m' : Nat) : Int))), (3, (0, (i)))]) (st' := [(0, ((m' : Nat) : Int)), (0, (bi)), (0, ((o' : Nat) : Int)), (2, ((33 : Nat) : Int))]) (h' := h) (o77_24 hB) rfl ?_
                refine w_pl (pc' := 45) (lv' := [(4, (0, ((0 : Nat) : Int))), (0, (2, ((30 : Nat) : Int))), (1, (0, ((o' : Nat) : Int))), (2, (0, ((m' : Nat) : Int))), (3, (0, (i)))]) (st' := [(0, (i)), (0, ((m' : Nat) : Int)), (0, (bi)), (0, ((o' : Nat) : Int)), (2, ((33 : Nat) : Int))]) (h' := h) (o77_25 hB) rfl ?_
                refine w_callS (as := [(0, (bi)), (0, ((m' : Nat) : Int)), (0, (i))]) (rest := [(0, ((o' : Nat) : Int)), (2, ((33 : Nat) : Int))]) (n := 3) (pc' := 48) hB (o77_26 hB) rfl (by decide +kernel) rfl rfl (Nat.le_of_ble_eq_true rfl) (m_withBit hB (fun f495 => ?_) (fun f496 => ?_))
                · show HW g l _ 77 _ _ 48 [(4, (0, ((0 : Nat) : Int))), (0, (2, ((30 : Nat) : Int))), (1, (0, ((o' : Nat) : Int))), (2, (0, ((m' : Nat) : Int))), (3, (0, (i)))] [(0, (orI (bi) (shlI 1 ((m' : Nat) : Int)))), (0, ((o' : Nat) : Int)), (2, ((33 : Nat) : Int))] h
                  refine w_iast (A := 33) (i := o') (n := 8) (pc' := 49) (o77_27 hB) rfl (by decide +kernel) (by omega) ?_
                  refine w_pl (pc' := 51) (lv' := [(4, (0, ((0 : Nat) : Int))), (0, (2, ((30 : Nat) : Int))), (1, (0, ((o' : Nat) : Int))), (2, (0, ((m' : Nat) : Int))), (3, (0, (i)))]) (st' := [(0, ((0 : Nat) : Int))]) (h' := (hup h 33 (o') (orI (bi) (shlI 1 ((m' : Nat) : Int))))) (o77_28 hB) rfl ?_
                  exact w_iret (o77_29 hB) mr77 (by unfold in32; omega) (a2 (by omega))
                · show HW g l _ 77 _ _ 48 [(4, (0, ((0 : Nat) : Int))), (0, (2, ((30 : Nat) : Int))), (1, (0, ((o' : Nat) : Int))), (2, (0, ((m' : Nat) : Int))), (3, (0, (i)))] [(0, (andI (bi) (xorI (shlI 1 ((m' : Nat) : Int)) (-1)))), (0, ((o' : Nat) : Int)), (2, ((33 : Nat) : Int))] h
                  refine w_iast (A := 33) (i := o') (n := 8) (pc' := 49) (o77_27 hB) rfl (by decide +kernel) (by omega) ?_
                  refine w_pl (pc' := 51) (lv' := [(4, (0, ((0 : Nat) : Int))), (0, (2, ((30 : Nat) : Int))), (1, (0, ((o' : Nat) : Int))), (2, (0, ((m' : Nat) : Int))), (3, (0, (i)))]) (st' := [(0, ((0 : Nat) : Int))]) (h' := (hup h 33 (o') (andI (bi) (xorI (shlI 1 ((m' : Nat) : Int)) (-1))))) (o77_28 hB) rfl ?_
                  exact w_iret (o77_29 hB) mr77 (by unfold in32; omega) (a4 (by omega))
              · have f497 : ¬ (((0 : Nat) : Int) = (0)) := e
                exfalso; omega
          · have f498 : ¬ (((1 : Nat) : Int) ≠ (0)) := e
            exfalso; omega
        · show HW g l _ 77 _ _ 11 [(0, (2, ((30 : Nat) : Int))), (1, (0, ((o' : Nat) : Int))), (2, (0, ((m' : Nat) : Int))), (3, (0, (i)))] [(0, ((0 : Nat) : Int))] h
          refine w_ifc (pt := 16) (pf := 14) (o77_5 hB) (by decide) rfl (fun e => ?_) (fun e => ?_)
          · have f499 : (((0 : Nat) : Int) ≠ (0)) := e
            exfalso; omega
          · have f500 : ¬ (((0 : Nat) : Int) ≠ (0)) := e
            refine w_pl (pc' := 15) (lv' := [(0, (2, ((30 : Nat) : Int))), (1, (0, ((o' : Nat) : Int))), (2, (0, ((m' : Nat) : Int))), (3, (0, (i)))]) (st' := [(0, (-1))]) (h' := h) (o77_6 hB) rfl ?_
            exact w_iret (o77_7 hB) mr77 (by unfold in32; omega) (a0 (by omega))
    · show HW g l _ 77 _ _ 4 [(0, (2, ((30 : Nat) : Int))), (1, (0, ((o' : Nat) : Int))), (2, (0, ((m' : Nat) : Int))), (3, (0, (i)))] [(0, ((0 : Nat) : Int))] h
      refine w_ifc (pt := 14) (pf := 7) (o77_2 hB) (by decide) rfl (fun e => ?_) (fun e => ?_)
      · have f501 : (((0 : Nat) : Int) = (0)) := e
        refine w_pl (pc' := 15) (lv' := [(0, (2, ((30 : Nat) : Int))), (1, (0, ((o' : Nat) : Int))), (2, (0, ((m' : Nat) : Int))), (3, (0, (i)))]) (st' := [(0, (-1))]) (h' := h) (o77_6 hB) rfl ?_
        exact w_iret (o77_7 hB) mr77 (by unfold in32; omega) (a0 (by omega))
      · have f502 : ¬ (((0 : Nat) : Int) = (0)) := e
        exfalso; omega
theorem m_crossedB (hB : BytesOK) {g : bG} {l : Launch} {d : Nat} {Q : bQ} {h : bH} {o mk i : Int} (ht : TH h) (z_o : in32 o) (z_mk : in32 mk) (z_i : in32 i) {bi : Int} (hbi : h 33 (o.toNat) = bi)  (a0 : ¬ ((0 ≤ o ∧ o ≤ 7) ∧ 0 ≤ mk ∧ mk ≤ 5) → Q (some (0, (-1))) h) (a1 : ((0 ≤ o ∧ o ≤ 7) ∧ 0 ≤ mk ∧ mk ≤ 5) ∧ i ≠ 0 ∧ andI (shrI bi mk) 1 ≠ 0 → Q (some (0, 1)) (hup h 33 ((o.toNat)) (orI (bi) (shlI 1 (((mk.toNat) : Nat) : Int))))) (a2 : ((0 ≤ o ∧ o ≤ 7) ∧ 0 ≤ mk ∧ mk ≤ 5) ∧ i ≠ 0 ∧ andI (shrI bi mk) 1 = 0 → Q (some (0, 0)) (hup h 33 ((o.toNat)) (orI (bi) (shlI 1 (((mk.toNat) : Nat) : Int))))) (a3 : ((0 ≤ o ∧ o ≤ 7) ∧ 0 ≤ mk ∧ mk ≤ 5) ∧ i = 0 ∧ andI (shrI bi mk) 1 ≠ 0 → Q (some (0, 1)) (hup h 33 ((o.toNat)) (andI (bi) (xorI (shlI 1 (((mk.toNat) : Nat) : Int)) (-1))))) (a4 : ((0 ≤ o ∧ o ≤ 7) ∧ 0 ≤ mk ∧ mk ≤ 5) ∧ i = 0 ∧ andI (shrI bi mk) 1 = 0 → Q (some (0, 0)) (hup h 33 ((o.toNat)) (andI (bi) (xorI (shlI 1 (((mk.toNat) : Nat) : Int)) (-1))))) : MH g l (d + 1 + 1) 156 212 212 [(2, ((0 : Nat) : Int)), (0, (o)), (0, (mk)), (0, (i))] h Q := by
  have hR := ht.r
  have z0_o := z_o
  have z0_mk := z_mk
  have z0_i := z_i
  unfold in32 at z0_o
  unfold in32 at z0_mk
  unfold in32 at z0_i
  refine mh_go hB mg156 ml156 (Nat.le_of_ble_eq_true rfl) ?_
  show HW g l (d + 1 + 1) 156 _ _ 0 [(0, (2, ((0 : Nat) : Int))), (1, (0, (o))), (2, (0, (mk))), (3, (0, (i)))] [] h
  refine w_pl (pc' := 1) (lv' := [(0, (2, ((0 : Nat) : Int))), (1, (0, (o))), (2, (0, (mk))), (3, (0, (i)))]) (st' := [(2, ((0 : Nat) : Int))]) (h' := h) (o156_0 hB) rfl ?_
  refine w_getf (A := 0) (t := 2) (z := ((1 : Nat) : Int)) (pc' := 4) (o156_1 hB) rfl (by decide +kernel) (hR (0, 0, 1) (by decide)) ?_
  refine w_getf (A := 1) (t := 2) (z := ((30 : Nat) : Int)) (pc' := 7) (o156_2 hB) rfl (by decide +kernel) (hR (1, 3, 30) (by decide)) ?_
  refine w_pl (pc' := 8) (lv' := [(0, (2, ((0 : Nat) : Int))), (1, (0, (o))), (2, (0, (mk))), (3, (0, (i)))]) (st' := [(0, (o)), (2, ((30 : Nat) : Int))]) (h' := h) (o156_3 hB) rfl ?_
  refine w_pl (pc' := 9) (lv' := [(0, (2, ((0 : Nat) : Int))), (1, (0, (o))), (2, (0, (mk))), (3, (0, (i)))]) (st' := [(0, (mk)), (0, (o)), (2, ((30 : Nat) : Int))]) (h' := h) (o156_4 hB) rfl ?_
  refine w_pl (pc' := 10) (lv' := [(0, (2, ((0 : Nat) : Int))), (1, (0, (o))), (2, (0, (mk))), (3, (0, (i)))]) (st' := [(0, (i)), (0, (mk)), (0, (o)), (2, ((30 : Nat) : Int))]) (h' := h) (o156_5 hB) rfl ?_
  refine w_callV (A := 30) (as := [(0, (o)), (0, (mk)), (0, (i))]) (rest := []) (n := 3) (pc' := 13) 6 hB (o156_6 hB) rfl (by decide +kernel) rfl rfl (Nat.le_of_ble_eq_true rfl) (m_setCrossed hB ht z_o z_mk z_i hbi (fun f508 => ?_) (fun f509 => ?_) (fun f510 => ?_) (fun f511 => ?_) (fun f512 => ?_))
  · show HW g l _ 156 _ _ 13 [(0, (2, ((0 : Nat) : Int))), (1, (0, (o))), (2, (0, (mk))), (3, (0, (i)))] [(0, (-1))] h
    exact w_iret (o156_7 hB) mr156 (by unfold in32; omega) (a0 (by omega))
  · show HW g l _ 156 _ _ 13 [(0, (2, ((0 : Nat) : Int))), (1, (0, (o))), (2, (0, (mk))), (3, (0, (i)))] [(0, ((1 : Nat) : Int))] (hup h 33 (o.toNat) (orI (bi) (shlI 1 ((mk.toNat : Nat) : Int))))
    exact w_iret (o156_7 hB) mr156 (by unfold in32; omega) (a1 (by omega))
  · show HW g l _ 156 _ _ 13 [(0, (2, ((0 : Nat) : Int))), (1, (0, (o))), (2, (0, (mk))), (3, (0, (i)))] [(0, ((0 : Nat) : Int))] (hup h 33 (o.toNat) (orI (bi) (shlI 1 ((mk.toNat : Nat) : Int))))
    exact w_iret (o156_7 hB) mr156 (by unfold in32; omega) (a2 (by omega))
  · show HW g l _ 156 _ _ 13 [(0, (2, ((0 : Nat) : Int))), (1, (0, (o))), (2, (0, (mk))), (3, (0, (i)))] [(0, ((1 : Nat) : Int))] (hup h 33 (o.toNat) (andI (bi) (xorI (shlI 1 ((mk.toNat : Nat) : Int)) (-1))))
    exact w_iret (o156_7 hB) mr156 (by unfold in32; omega) (a3 (by omega))
  · show HW g l _ 156 _ _ 13 [(0, (2, ((0 : Nat) : Int))), (1, (0, (o))), (2, (0, (mk))), (3, (0, (i)))] [(0, ((0 : Nat) : Int))] (hup h 33 (o.toNat) (andI (bi) (xorI (shlI 1 ((mk.toNat : Nat) : Int)) (-1))))
    exact w_iret (o156_7 hB) mr156 (by unfold in32; omega) (a4 (by omega))
def s_crossedB (vs : List bV) (h : bH) (r : Option bV) (h' : bH) : Prop := TH h ∧ ∀ (o mk i : Int) (bi : Int) , vs = [(2, ((0 : Nat) : Int)), (0, o), (0, mk), (0, i)] → h 33 (o.toNat) = bi → ((¬ ((0 ≤ o ∧ o ≤ 7) ∧ 0 ≤ mk ∧ mk ≤ 5)) ∧ r = some (0, (-1)) ∧ h = h') ∨ ((((0 ≤ o ∧ o ≤ 7) ∧ 0 ≤ mk ∧ mk ≤ 5) ∧ i ≠ 0 ∧ andI (shrI bi mk) 1 ≠ 0) ∧ r = some (0, 1) ∧ h' = (hup h 33 ((o.toNat)) (orI (bi) (shlI 1 (((mk.toNat) : Nat) : Int))))) ∨ ((((0 ≤ o ∧ o ≤ 7) ∧ 0 ≤ mk ∧ mk ≤ 5) ∧ i ≠ 0 ∧ andI (shrI bi mk) 1 = 0) ∧ r = some (0, 0) ∧ h' = (hup h 33 ((o.toNat)) (orI (bi) (shlI 1 (((mk.toNat) : Nat) : Int))))) ∨ ((((0 ≤ o ∧ o ≤ 7) ∧ 0 ≤ mk ∧ mk ≤ 5) ∧ i = 0 ∧ andI (shrI bi mk) 1 ≠ 0) ∧ r = some (0, 1) ∧ h' = (hup h 33 ((o.toNat)) (andI (bi) (xorI (shlI 1 (((mk.toNat) : Nat) : Int)) (-1))))) ∨ ((((0 ≤ o ∧ o ≤ 7) ∧ 0 ≤ mk ∧ mk ≤ 5) ∧ i = 0 ∧ andI (shrI bi mk) 1 = 0) ∧ r = some (0, 0) ∧ h' = (hup h 33 ((o.toNat)) (andI (bi) (xorI (shlI 1 (((mk.toNat) : Nat) : Int)) (-1)))))
def w_crossedB : List (Nat × Nat × Nat) := [(33, 0, 8)]
def q_crossedB : aCt := cH 156 2 w_crossedB 3 0
theorem sk_crossedB (hB : BytesOK) (g : bG) (l : Launch) : SK g l gT q_crossedB s_crossedB := by
  intro d hd ρ h Q hcore hQ
  have hcore : core (PofW gT (some w_crossedB) false) (gsc g) h ρ h (List.replicate 3 r32, [], [], 212) := hcore
  have ht := hTH hcore
  have y0 := r32_0 hcore 0 (by decide)
  have y1 := r32_0 hcore 1 (by decide)
  have y2 := r32_0 hcore 2 (by decide)
  have y00 := y0
  unfold in32 at y00
  have y01 := y1
  unfold in32 at y01
  have y02 := y2
  unfold in32 at y02
  obtain ⟨d', rfl⟩ : ∃ d', d = d' + 1 + 1 := ⟨d - 2, by have : 2 ≤ d := hd; omega⟩
  rw [show evS ρ (ctA q_crossedB) = [(2, ((0 : Nat) : Int)), (0, ρ 0), (0, ρ 1), (0, ρ 2)] from evA3]
  refine m_crossedB (o := ρ 0) (mk := ρ 1) (i := ρ 2) hB ht y0 y1 y2 rfl (fun hn => ?_) (fun hn => ?_) (fun hn => ?_) (fun hn => ?_) (fun hn => ?_)
  · refine hQ _ _ (hpost hcore (ht) (fun _ _ _ => rfl) (by unfold in32; omega)) ⟨ht, fun o mk i v_bi hv e_bi => ?_⟩
    have hv := (evA3 (ρ := ρ)).symm.trans hv
    obtain ⟨rfl, rfl, rfl⟩ := vsA3 hv
    subst e_bi
    exact Or.inl ⟨hn, rfl, rfl⟩
  · skip
    obtain ⟨o', e_o9⟩ : ∃ q : Nat, (ρ 0).toNat = q := ⟨_, rfl⟩
    rw [e_o9]
    obtain ⟨m', e_m9⟩ : ∃ q : Nat, (ρ 1).toNat = q := ⟨_, rfl⟩
    rw [e_m9]
    refine hQ _ _ (hpost hcore ((ht).ups2 (a := 33) (s := 0) (st := 1) (n := 8) (lo := (-2147483648)) (hi := 2147483647) (r := o') (by decide +kernel) (by omega) (by omega) (by first | exact orI_in _ _ | exact andI_in _ _)) (fr_up (fun _ _ _ => rfl) (wr_in (lo := 0) (hi := 8) (by decide) (by omega) (by omega))) (by unfold in32; omega)) ⟨ht, fun o mk i v_bi hv e_bi => ?_⟩
    have hv := (evA3 (ρ := ρ)).symm.trans hv
    obtain ⟨rfl, rfl, rfl⟩ := vsA3 hv
    subst e_bi
    exact Or.inr (Or.inl ⟨hn, by first | rfl | (rw [e_o9]; done) | (rw [e_o9, e_m9]; done), by rw [e_o9, e_m9]⟩)
  · skip
    obtain ⟨o', e_o9⟩ : ∃ q : Nat, (ρ 0).toNat = q := ⟨_, rfl⟩
    rw [e_o9]
    obtain ⟨m', e_m9⟩ : ∃ q : Nat, (ρ 1).toNat = q := ⟨_, rfl⟩
    rw [e_m9]
    refine hQ _ _ (hpost hcore ((ht).ups2 (a := 33) (s := 0) (st := 1) (n := 8) (lo := (-2147483648)) (hi := 2147483647) (r := o') (by decide +kernel) (by omega) (by omega) (by first | exact orI_in _ _ | exact andI_in _ _)) (fr_up (fun _ _ _ => rfl) (wr_in (lo := 0) (hi := 8) (by decide) (by omega) (by omega))) (by unfold in32; omega)) ⟨ht, fun o mk i v_bi hv e_bi => ?_⟩
    have hv := (evA3 (ρ := ρ)).symm.trans hv
    obtain ⟨rfl, rfl, rfl⟩ := vsA3 hv
    subst e_bi
    exact Or.inr (Or.inr (Or.inl ⟨hn, by first | rfl | (rw [e_o9]; done) | (rw [e_o9, e_m9]; done), by rw [e_o9, e_m9]⟩))
  · skip
    obtain ⟨o', e_o9⟩ : ∃ q : Nat, (ρ 0).toNat = q := ⟨_, rfl⟩
    rw [e_o9]
    obtain ⟨m', e_m9⟩ : ∃ q : Nat, (ρ 1).toNat = q := ⟨_, rfl⟩
    rw [e_m9]
    refine hQ _ _ (hpost hcore ((ht).ups2 (a := 33) (s := 0) (st := 1) (n := 8) (lo := (-2147483648)) (hi := 2147483647) (r := o') (by decide +kernel) (by omega) (by omega) (by first | exact orI_in _ _ | exact andI_in _ _)) (fr_up (fun _ _ _ => rfl) (wr_in (lo := 0) (hi := 8) (by decide) (by omega) (by omega))) (by unfold in32; omega)) ⟨ht, fun o mk i v_bi hv e_bi => ?_⟩
    have hv := (evA3 (ρ := ρ)).symm.trans hv
    obtain ⟨rfl, rfl, rfl⟩ := vsA3 hv
    subst e_bi
    exact Or.inr (Or.inr (Or.inr (Or.inl ⟨hn, by first | rfl | (rw [e_o9]; done) | (rw [e_o9, e_m9]; done), by rw [e_o9, e_m9]⟩)))
  · skip
    obtain ⟨o', e_o9⟩ : ∃ q : Nat, (ρ 0).toNat = q := ⟨_, rfl⟩
    rw [e_o9]
    obtain ⟨m', e_m9⟩ : ∃ q : Nat, (ρ 1).toNat = q := ⟨_, rfl⟩
    rw [e_m9]
    refine hQ _ _ (hpost hcore ((ht).ups2 (a := 33) (s := 0) (st := 1) (n := 8) (lo := (-2147483648)) (hi := 2147483647) (r := o') (by decide +kernel) (by omega) (by omega) (by first | exact orI_in _ _ | exact andI_in _ _)) (fr_up (fun _ _ _ => rfl) (wr_in (lo := 0) (hi := 8) (by decide) (by omega) (by omega))) (by unfold in32; omega)) ⟨ht, fun o mk i v_bi hv e_bi => ?_⟩
    have hv := (evA3 (ρ := ρ)).symm.trans hv
    obtain ⟨rfl, rfl, rfl⟩ := vsA3 hv
    subst e_bi
    exact Or.inr (Or.inr (Or.inr (Or.inr (⟨hn, by first | rfl | (rw [e_o9]; done) | (rw [e_o9, e_m9]; done), by rw [e_o9, e_m9]⟩))))
theorem m_crossedM (hB : BytesOK) {g : bG} {l : Launch} {d : Nat} {Q : bQ} {h : bH} {o mk i : Int} (ht : TH h) (z_o : in32 o) (z_mk : in32 mk) (z_i : in32 i) {yv : Int} (hyv : h 194 (588 + 6 * o.toNat + mk.toNat) = yv)  (a0 : ¬ ((0 ≤ o ∧ o ≤ 7) ∧ 0 ≤ mk ∧ mk ≤ 5) → Q (some (0, (-1))) h) (a1 : ((0 ≤ o ∧ o ≤ 7) ∧ 0 ≤ mk ∧ mk ≤ 5) ∧ i ≠ 0 → Q (some (0, yv)) (hup h 194 (((588 + (6 * (o.toNat))) + (mk.toNat))) ((1 : Nat) : Int))) (a2 : ((0 ≤ o ∧ o ≤ 7) ∧ 0 ≤ mk ∧ mk ≤ 5) ∧ i = 0 → Q (some (0, yv)) (hup h 194 (((588 + (6 * (o.toNat))) + (mk.toNat))) ((0 : Nat) : Int))) : MH g l (d + 1 + 1) 265 212 212 [(2, ((193 : Nat) : Int)), (0, (o)), (0, (mk)), (0, (i))] h Q := by
  have hR := ht.r
  have z0_o := z_o
  have z0_mk := z_mk
  have z0_i := z_i
  unfold in32 at z0_o
  unfold in32 at z0_mk
  unfold in32 at z0_i
  rcases (by omega : ¬ (0 ≤ o ∧ o ≤ 7) ∨ ((0 ≤ o ∧ o ≤ 7) ∧ ¬ (0 ≤ mk ∧ mk ≤ 5)) ∨ ((0 ≤ o ∧ o ≤ 7) ∧ (0 ≤ mk ∧ mk ≤ 5))) with gg | gg | gg
  · skip
    refine mh_go hB mg265 ml265 (Nat.le_of_ble_eq_true rfl) ?_
    show HW g l (d + 1 + 1) 265 _ _ 0 [(0, (2, ((193 : Nat) : Int))), (1, (0, (o))), (2, (0, (mk))), (3, (0, (i)))] [] h
    refine w_pl (pc' := 1) (lv' := [(0, (2, ((193 : Nat) : Int))), (1, (0, (o))), (2, (0, (mk))), (3, (0, (i)))]) (st' := [(0, (o))]) (h' := h) (o265_0 hB) rfl ?_
    refine w_callS (as := [(0, (o))]) (rest := []) (n := 1) (pc' := 4) hB (o265_1 hB) rfl (by decide +kernel) rfl rfl (Nat.le_of_ble_eq_true rfl) (m_isOwnerM hB (fun f539 => ?_) (fun f540 => ?_))
    · exfalso; omega
    · show HW g l _ 265 _ _ 4 [(0, (2, ((193 : Nat) : Int))), (1, (0, (o))), (2, (0, (mk))), (3, (0, (i)))] [(0, ((0 : Nat) : Int))] h
      refine w_ifc (pt := 14) (pf := 7) (o265_2 hB) (by decide) rfl (fun e => ?_) (fun e => ?_)
      · have f541 : (((0 : Nat) : Int) = (0)) := e
        refine w_pl (pc' := 15) (lv' := [(0, (2, ((193 : Nat) : Int))), (1, (0, (o))), (2, (0, (mk))), (3, (0, (i)))]) (st' := [(0, (-1))]) (h' := h) (o265_6 hB) rfl ?_
        exact w_iret (o265_7 hB) mr265 (by unfold in32; omega) (a0 (by omega))
      · have f542 : ¬ (((0 : Nat) : Int) = (0)) := e
        exfalso; omega
  · skip
    refine mh_go hB mg265 ml265 (Nat.le_of_ble_eq_true rfl) ?_
    show HW g l (d + 1 + 1) 265 _ _ 0 [(0, (2, ((193 : Nat) : Int))), (1, (0, (o))), (2, (0, (mk))), (3, (0, (i)))] [] h
    refine w_pl (pc' := 1) (lv' := [(0, (2, ((193 : Nat) : Int))), (1, (0, (o))), (2, (0, (mk))), (3, (0, (i)))]) (st' := [(0, (o))]) (h' := h) (o265_0 hB) rfl ?_
    refine w_callS (as := [(0, (o))]) (rest := []) (n := 1) (pc' := 4) hB (o265_1 hB) rfl (by decide +kernel) rfl rfl (Nat.le_of_ble_eq_true rfl) (m_isOwnerM hB (fun f543 => ?_) (fun f544 => ?_))
    · show HW g l _ 265 _ _ 4 [(0, (2, ((193 : Nat) : Int))), (1, (0, (o))), (2, (0, (mk))), (3, (0, (i)))] [(0, ((1 : Nat) : Int))] h
      refine w_ifc (pt := 14) (pf := 7) (o265_2 hB) (by decide) rfl (fun e => ?_) (fun e => ?_)
      · have f545 : (((1 : Nat) : Int) = (0)) := e
        exfalso; omega
      · have f546 : ¬ (((1 : Nat) : Int) = (0)) := e
        refine w_pl (pc' := 8) (lv' := [(0, (2, ((193 : Nat) : Int))), (1, (0, (o))), (2, (0, (mk))), (3, (0, (i)))]) (st' := [(0, (mk))]) (h' := h) (o265_3 hB) rfl ?_
        refine w_callS (as := [(0, (mk))]) (rest := []) (n := 1) (pc' := 11) hB (o265_4 hB) rfl (by decide +kernel) rfl rfl (Nat.le_of_ble_eq_true rfl) (m_isMakerM hB (fun f547 => ?_) (fun f548 => ?_))
        · exfalso; omega
        · show HW g l _ 265 _ _ 11 [(0, (2, ((193 : Nat) : Int))), (1, (0, (o))), (2, (0, (mk))), (3, (0, (i)))] [(0, ((0 : Nat) : Int))] h
          refine w_ifc (pt := 16) (pf := 14) (o265_5 hB) (by decide) rfl (fun e => ?_) (fun e => ?_)
          · have f549 : (((0 : Nat) : Int) ≠ (0)) := e
            exfalso; omega
          · have f550 : ¬ (((0 : Nat) : Int) ≠ (0)) := e
            refine w_pl (pc' := 15) (lv' := [(0, (2, ((193 : Nat) : Int))), (1, (0, (o))), (2, (0, (mk))), (3, (0, (i)))]) (st' := [(0, (-1))]) (h' := h) (o265_6 hB) rfl ?_
            exact w_iret (o265_7 hB) mr265 (by unfold in32; omega) (a0 (by omega))
    · exfalso; omega
  · obtain ⟨o', e_o⟩ : ∃ q : Nat, o = q := ⟨o.toNat, by omega⟩
    subst e_o
    obtain ⟨m', e_m⟩ : ∃ q : Nat, mk = q := ⟨mk.toNat, by omega⟩
    subst e_m
    simp only [Int.toNat_natCast] at hyv a1 a2
    have r_yv := ty_cx ht (j := 588 + 6 * o' + m') (by omega) (by omega)
    rw [hyv] at r_yv
    refine mh_go hB mg265 ml265 (Nat.le_of_ble_eq_true rfl) ?_
    show HW g l (d + 1 + 1) 265 _ _ 0 [(0, (2, ((193 : Nat) : Int))), (1, (0, ((o' : Nat) : Int))), (2, (0, ((m' : Nat) : Int))), (3, (0, (i)))] [] h
    refine w_pl (pc' := 1) (lv' := [(0, (2, ((193 : Nat) : Int))), (1, (0, ((o' : Nat) : Int))), (2, (0, ((m' : Nat) : Int))), (3, (0, (i)))]) (st' := [(0, ((o' : Nat) : Int))]) (h' := h) (o265_0 hB) rfl ?_
    refine w_callS (as := [(0, ((o' : Nat) : Int))]) (rest := []) (n := 1) (pc' := 4) hB (o265_1 hB) rfl (by decide +kernel) rfl rfl (Nat.le_of_ble_eq_true rfl) (m_isOwnerM hB (fun f551 => ?_) (fun f552 => ?_))
    · show HW g l _ 265 _ _ 4 [(0, (2, ((193 : Nat) : Int))), (1, (0, ((o' : Nat) : Int))), (2, (0, ((m' : Nat) : Int))), (3, (0, (i)))] [(0, ((1 : Nat) : Int))] h
      refine w_ifc (pt := 14) (pf := 7) (o265_2 hB) (by decide) rfl (fun e => ?_) (fun e => ?_)
      · have f553 : (((1 : Nat) : Int) = (0)) := e
        exfalso; omega
      · have f554 : ¬ (((1 : Nat) : Int) = (0)) := e
        refine w_pl (pc' := 8) (lv' := [(0, (2, ((193 : Nat) : Int))), (1, (0, ((o' : Nat) : Int))), (2, (0, ((m' : Nat) : Int))), (3, (0, (i)))]) (st' := [(0, ((m' : Nat) : Int))]) (h' := h) (o265_3 hB) rfl ?_
        refine w_callS (as := [(0, ((m' : Nat) : Int))]) (rest := []) (n := 1) (pc' := 11) hB (o265_4 hB) rfl (by decide +kernel) rfl rfl (Nat.le_of_ble_eq_true rfl) (m_isMakerM hB (fun f555 => ?_) (fun f556 => ?_))
        · show HW g l _ 265 _ _ 11 [(0, (2, ((193 : Nat) : Int))), (1, (0, ((o' : Nat) : Int))), (2, (0, ((m' : Nat) : Int))), (3, (0, (i)))] [(0, ((1 : Nat) : Int))] h
          refine w_ifc (pt := 16) (pf := 14) (o265_5 hB) (by decide) rfl (fun e => ?_) (fun e => ?_)
          · have f557 : (((1 : Nat) : Int) ≠ (0)) := e
            refine w_pl (pc' := 17) (lv' := [(0, (2, ((193 : Nat) : Int))), (1, (0, ((o' : Nat) : Int))), (2, (0, ((m' : Nat) : Int))), (3, (0, (i)))]) (st' := [(2, ((193 : Nat) : Int))]) (h' := h) (o265_8 hB) rfl ?_
            refine w_getf (A := 193) (t := 2) (z := ((194 : Nat) : Int)) (pc' := 20) (o265_9 hB) rfl (by decide +kernel) (hR (193, 0, 194) (by decide)) ?_
            refine w_pl (pc' := 23) (lv' := [(0, (2, ((193 : Nat) : Int))), (1, (0, ((o' : Nat) : Int))), (2, (0, ((m' : Nat) : Int))), (3, (0, (i)))]) (st' := [(0, ((588 : Nat) : Int)), (2, ((194 : Nat) : Int))]) (h' := h) (o265_10 hB) rfl ?_
            refine w_pl (pc' := 25) (lv' := [(0, (2, ((193 : Nat) : Int))), (1, (0, ((o' : Nat) : Int))), (2, (0, ((m' : Nat) : Int))), (3, (0, (i)))]) (st' := [(0, ((6 : Nat) : Int)), (0, ((588 : Nat) : Int)), (2, ((194 : Nat) : Int))]) (h' := h) (o265_11 hB) rfl ?_
            refine w_pl (pc' := 26) (lv' := [(0, (2, ((193 : Nat) : Int))), (1, (0, ((o' : Nat) : Int))), (2, (0, ((m' : Nat) : Int))), (3, (0, (i)))]) (st' := [(0, ((o' : Nat) : Int)), (0, ((6 : Nat) : Int)), (0, ((588 : Nat) : Int)), (2, ((194 : Nat) : Int))]) (h' := h) (o265_12 hB) rfl ?_
            refine w_imul (z := (((6 * o') : Nat) : Int)) (pc' := 27) (o265_13 hB) rfl (w32_e (by omega) (by omega)) ?_
            refine w_iadd (z := (((588 + (6 * o')) : Nat) : Int)) (pc' := 28) (o265_14 hB) rfl (w32_e (by omega) (by omega)) ?_
            refine w_pl (pc' := 29) (lv' := [(0, (2, ((193 : Nat) : Int))), (1, (0, ((o' : Nat) : Int))), (2, (0, ((m' : Nat) : Int))), (3, (0, (i)))]) (st' := [(0, ((m' : Nat) : Int)), (0, (((588 + (6 * o')) : Nat) : Int)), (2, ((194 : Nat) : Int))]) (h' := h) (o265_15 hB) rfl ?_
            refine w_iadd (z := ((((588 + (6 * o')) + m') : Nat) : Int)) (pc' := 30) (o265_16 hB) rfl (w32_e (by omega) (by omega)) ?_
            refine w_iald (A := 194) (i := ((588 + (6 * o')) + m')) (n := 1984) (z := (yv)) (pc' := 31) (o265_17 hB) rfl (by decide +kernel) (by omega) hyv ?_
            refine w_st (tg := 0) (j := 4) (len := 2) (pc' := 33) (lv' := [(4, (0, (yv))), (0, (2, ((193 : Nat) : Int))), (1, (0, ((o' : Nat) : Int))), (2, (0, ((m' : Nat) : Int))), (3, (0, (i)))]) (o265_18 hB) rfl rfl ml265 (by decide) rfl ?_
            refine w_pl (pc' := 34) (lv' := [(4, (0, (yv))), (0, (2, ((193 : Nat) : Int))), (1, (0, ((o' : Nat) : Int))), (2, (0, ((m' : Nat) : Int))), (3, (0, (i)))]) (st' := [(2, ((193 : Nat) : Int))]) (h' := h) (o265_19 hB) rfl ?_
            refine w_getf (A := 193) (t := 2) (z := ((194 : Nat) : Int)) (pc' := 37) (o265_20 hB) rfl (by decide +kernel) (hR (193, 0, 194) (by decide)) ?_
            refine w_pl (pc' := 40) (lv' := [(4, (0, (yv))), (0, (2, ((193 : Nat) : Int))), (1, (0, ((o' : Nat) : Int))), (2, (0, ((m' : Nat) : Int))), (3, (0, (i)))]) (st' := [(0, ((588 : Nat) : Int)), (2, ((194 : Nat) : Int))]) (h' := h) (o265_21 hB) rfl ?_
            refine w_pl (pc' := 42) (lv' := [(4, (0, (yv))), (0, (2, ((193 : Nat) : Int))), (1, (0, ((o' : Nat) : Int))), (2, (0, ((m' : Nat) : Int))), (3, (0, (i)))]) (st' := [(0, ((6 : Nat) : Int)), (0, ((588 : Nat) : Int)), (2, ((194 : Nat) : Int))]) (h' := h) (o265_22 hB) rfl ?_
            refine w_pl (pc' := 43) (lv' := [(4, (0, (yv))), (0, (2, ((193 : Nat) : Int))), (1, (0, ((o' : Nat) : Int))), (2, (0, ((m' : Nat) : Int))), (3, (0, (i)))]) (st' := [(0, ((o' : Nat) : Int)), (0, ((6 : Nat) : Int)), (0, ((588 : Nat) : Int)), (2, ((194 : Nat) : Int))]) (h' := h) (o265_23 hB) rfl ?_
            refine w_imul (z := (((6 * o') : Nat) : Int)) (pc' := 44) (o265_24 hB) rfl (w32_e (by omega) (by omega)) ?_
            refine w_iadd (z := (((588 + (6 * o')) : Nat) : Int)) (pc' := 45) (o265_25 hB) rfl (w32_e (by omega) (by omega)) ?_
            refine w_pl (pc' := 46) (lv' := [(4, (0, (yv))), (0, (2, ((193 : Nat) : Int))), (1, (0, ((o' : Nat) : Int))), (2, (0, ((m' : Nat) : Int))), (3, (0, (i)))]) (st' := [(0, ((m' : Nat) : Int)), (0, (((588 + (6 * o')) : Nat) : Int)), (2, ((194 : Nat) : Int))]) (h' := h) (o265_26 hB) rfl ?_
            refine w_iadd (z := ((((588 + (6 * o')) + m') : Nat) : Int)) (pc' := 47) (o265_27 hB) rfl (w32_e (by omega) (by omega)) ?_
            refine w_pl (pc' := 48) (lv' := [(4, (0, (yv))), (0, (2, ((193 : Nat) : Int))), (1, (0, ((o' : Nat) : Int))), (2, (0, ((m' : Nat) : Int))), (3, (0, (i)))]) (st' := [(0, (i)), (0, ((((588 + (6 * o')) + m') : Nat) : Int)), (2, ((194 : Nat) : Int))]) (h' := h) (o265_28 hB) rfl ?_
            refine w_ifc (pt := 55) (pf := 51) (o265_29 hB) (by decide) rfl (fun e => ?_) (fun e => ?_)
            · have f558 : ((i) = (0)) := e
              refine w_pl (pc' := 56) (lv' := [(4, (0, (yv))), (0, (2, ((193 : Nat) : Int))), (1, (0, ((o' : Nat) : Int))), (2, (0, ((m' : Nat) : Int))), (3, (0, (i)))]) (st' := [(0, ((0 : Nat) : Int)), (0, ((((588 + (6 * o')) + m') : Nat) : Int)), (2, ((194 : Nat) : Int))]) (h' := h) (o265_32 hB) rfl ?_
              refine w_iast (A := 194) (i := ((588 + (6 * o')) + m')) (n := 1984) (pc' := 57) (o265_33 hB) rfl (by decide +kernel) (by omega) ?_
              refine w_pl (pc' := 59) (lv' := [(4, (0, (yv))), (0, (2, ((193 : Nat) : Int))), (1, (0, ((o' : Nat) : Int))), (2, (0, ((m' : Nat) : Int))), (3, (0, (i)))]) (st' := [(0, (yv))]) (h' := (hup h 194 (((588 + (6 * o')) + m')) ((0 : Nat) : Int))) (o265_34 hB) rfl ?_
              exact w_iret (o265_35 hB) mr265 (by unfold in32; omega) (a2 (by omega))
            · have f559 : ¬ ((i) = (0)) := e
              refine w_pl (pc' := 52) (lv' := [(4, (0, (yv))), (0, (2, ((193 : Nat) : Int))), (1, (0, ((o' : Nat) : Int))), (2, (0, ((m' : Nat) : Int))), (3, (0, (i)))]) (st' := [(0, ((1 : Nat) : Int)), (0, ((((588 + (6 * o')) + m') : Nat) : Int)), (2, ((194 : Nat) : Int))]) (h' := h) (o265_30 hB) rfl ?_
              refine w_goto (pt := 56) (o265_31 hB) (by decide) ?_
              refine w_iast (A := 194) (i := ((588 + (6 * o')) + m')) (n := 1984) (pc' := 57) (o265_33 hB) rfl (by decide +kernel) (by omega) ?_
              refine w_pl (pc' := 59) (lv' := [(4, (0, (yv))), (0, (2, ((193 : Nat) : Int))), (1, (0, ((o' : Nat) : Int))), (2, (0, ((m' : Nat) : Int))), (3, (0, (i)))]) (st' := [(0, (yv))]) (h' := (hup h 194 (((588 + (6 * o')) + m')) ((1 : Nat) : Int))) (o265_34 hB) rfl ?_
              exact w_iret (o265_35 hB) mr265 (by unfold in32; omega) (a1 (by omega))
          · have f560 : ¬ (((1 : Nat) : Int) ≠ (0)) := e
            exfalso; omega
        · show HW g l _ 265 _ _ 11 [(0, (2, ((193 : Nat) : Int))), (1, (0, ((o' : Nat) : Int))), (2, (0, ((m' : Nat) : Int))), (3, (0, (i)))] [(0, ((0 : Nat) : Int))] h
          refine w_ifc (pt := 16) (pf := 14) (o265_5 hB) (by decide) rfl (fun e => ?_) (fun e => ?_)
          · have f561 : (((0 : Nat) : Int) ≠ (0)) := e
            exfalso; omega
          · have f562 : ¬ (((0 : Nat) : Int) ≠ (0)) := e
            refine w_pl (pc' := 15) (lv' := [(0, (2, ((193 : Nat) : Int))), (1, (0, ((o' : Nat) : Int))), (2, (0, ((m' : Nat) : Int))), (3, (0, (i)))]) (st' := [(0, (-1))]) (h' := h) (o265_6 hB) rfl ?_
            exact w_iret (o265_7 hB) mr265 (by unfold in32; omega) (a0 (by omega))
    · show HW g l _ 265 _ _ 4 [(0, (2, ((193 : Nat) : Int))), (1, (0, ((o' : Nat) : Int))), (2, (0, ((m' : Nat) : Int))), (3, (0, (i)))] [(0, ((0 : Nat) : Int))] h
      refine w_ifc (pt := 14) (pf := 7) (o265_2 hB) (by decide) rfl (fun e => ?_) (fun e => ?_)
      · have f563 : (((0 : Nat) : Int) = (0)) := e
        refine w_pl (pc' := 15) (lv' := [(0, (2, ((193 : Nat) : Int))), (1, (0, ((o' : Nat) : Int))), (2, (0, ((m' : Nat) : Int))), (3, (0, (i)))]) (st' := [(0, (-1))]) (h' := h) (o265_6 hB) rfl ?_
        exact w_iret (o265_7 hB) mr265 (by unfold in32; omega) (a0 (by omega))
      · have f564 : ¬ (((0 : Nat) : Int) = (0)) := e
        exfalso; omega
def s_crossedM (vs : List bV) (h : bH) (r : Option bV) (h' : bH) : Prop := TH h ∧ ∀ (o mk i : Int) (yv : Int) , vs = [(2, ((193 : Nat) : Int)), (0, o), (0, mk), (0, i)] → h 194 (588 + 6 * o.toNat + mk.toNat) = yv → ((¬ ((0 ≤ o ∧ o ≤ 7) ∧ 0 ≤ mk ∧ mk ≤ 5)) ∧ r = some (0, (-1)) ∧ h = h') ∨ ((((0 ≤ o ∧ o ≤ 7) ∧ 0 ≤ mk ∧ mk ≤ 5) ∧ i ≠ 0) ∧ r = some (0, yv) ∧ h' = (hup h 194 (((588 + (6 * (o.toNat))) + (mk.toNat))) ((1 : Nat) : Int))) ∨ ((((0 ≤ o ∧ o ≤ 7) ∧ 0 ≤ mk ∧ mk ≤ 5) ∧ i = 0) ∧ r = some (0, yv) ∧ h' = (hup h 194 (((588 + (6 * (o.toNat))) + (mk.toNat))) ((0 : Nat) : Int)))
def w_crossedM : List (Nat × Nat × Nat) := [(194, 588, 636)]
def q_crossedM : aCt := cH 265 2 w_crossedM 3 193
theorem sk_crossedM (hB : BytesOK) (g : bG) (l : Launch) : SK g l gT q_crossedM s_crossedM := by
  intro d hd ρ h Q hcore hQ
  have hcore : core (PofW gT (some w_crossedM) false) (gsc g) h ρ h (List.replicate 3 r32, [], [], 212) := hcore
  have ht := hTH hcore
  have y0 := r32_0 hcore 0 (by decide)
  have y1 := r32_0 hcore 1 (by decide)
  have y2 := r32_0 hcore 2 (by decide)
  have y00 := y0
  unfold in32 at y00
  have y01 := y1
  unfold in32 at y01
  have y02 := y2
  unfold in32 at y02
  obtain ⟨d', rfl⟩ : ∃ d', d = d' + 1 + 1 := ⟨d - 2, by have : 2 ≤ d := hd; omega⟩
  rw [show evS ρ (ctA q_crossedM) = [(2, ((193 : Nat) : Int)), (0, ρ 0), (0, ρ 1), (0, ρ 2)] from evA3]
  refine m_crossedM (o := ρ 0) (mk := ρ 1) (i := ρ 2) hB ht y0 y1 y2 rfl (fun hn => ?_) (fun hn => ?_) (fun hn => ?_)
  · refine hQ _ _ (hpost hcore (ht) (fun _ _ _ => rfl) (by unfold in32; omega)) ⟨ht, fun o mk i v_yv hv e_yv => ?_⟩
    have hv := (evA3 (ρ := ρ)).symm.trans hv
    obtain ⟨rfl, rfl, rfl⟩ := vsA3 hv
    subst e_yv
    exact Or.inl ⟨hn, rfl, rfl⟩
  · skip
    obtain ⟨o', e_o9⟩ : ∃ q : Nat, (ρ 0).toNat = q := ⟨_, rfl⟩
    rw [e_o9]
    obtain ⟨m', e_m9⟩ : ∃ q : Nat, (ρ 1).toNat = q := ⟨_, rfl⟩
    rw [e_m9]
    have a15 : h 194 (588 + 6 * (ρ 0).toNat + (ρ 1).toNat) = h 194 (588 + 6 * o' + m') := by rw [e_o9, e_m9]
    have e15 := ty_cx ht (j := 588 + 6 * o' + m') (by omega) (by omega)
    refine hQ _ _ (hpost hcore ((up_cx (ht) (by omega) (by omega) (by omega))) (fr_up (fun _ _ _ => rfl) (wr_in (lo := 588) (hi := 636) (by decide) (by omega) (by omega))) (by have := ty_cx ht (j := 588 + 6 * (ρ 0).toNat + (ρ 1).toNat) (by omega) (by omega); unfold in32; omega)) ⟨ht, fun o mk i v_yv hv e_yv => ?_⟩
    have hv := (evA3 (ρ := ρ)).symm.trans hv
    obtain ⟨rfl, rfl, rfl⟩ := vsA3 hv
    subst e_yv
    exact Or.inr (Or.inl ⟨hn, by first | rfl | (rw [e_o9]; done) | (rw [e_o9, e_m9]; done), by rw [e_o9, e_m9]⟩)
  · skip
    obtain ⟨o', e_o9⟩ : ∃ q : Nat, (ρ 0).toNat = q := ⟨_, rfl⟩
    rw [e_o9]
    obtain ⟨m', e_m9⟩ : ∃ q : Nat, (ρ 1).toNat = q := ⟨_, rfl⟩
    rw [e_m9]
    have a15 : h 194 (588 + 6 * (ρ 0).toNat + (ρ 1).toNat) = h 194 (588 + 6 * o' + m') := by rw [e_o9, e_m9]
    have e15 := ty_cx ht (j := 588 + 6 * o' + m') (by omega) (by omega)
    refine hQ _ _ (hpost hcore ((up_cx (ht) (by omega) (by omega) (by omega))) (fr_up (fun _ _ _ => rfl) (wr_in (lo := 588) (hi := 636) (by decide) (by omega) (by omega))) (by have := ty_cx ht (j := 588 + 6 * (ρ 0).toNat + (ρ 1).toNat) (by omega) (by omega); unfold in32; omega)) ⟨ht, fun o mk i v_yv hv e_yv => ?_⟩
    have hv := (evA3 (ρ := ρ)).symm.trans hv
    obtain ⟨rfl, rfl, rfl⟩ := vsA3 hv
    subst e_yv
    exact Or.inr (Or.inr (⟨hn, by first | rfl | (rw [e_o9]; done) | (rw [e_o9, e_m9]; done), by rw [e_o9, e_m9]⟩))
