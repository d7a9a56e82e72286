/-! RANGES OF PLACES, AS THEY ARE ASKED FOR -/
theorem ty_2_c0 {h : bH} (ht : TH h) : (0) ≤ h 2 0 ∧ h 2 0 ≤ 239 := ht.c (by decide +kernel)
theorem ty_194_c0 {h : bH} (ht : TH h) : (0) ≤ h 194 0 ∧ h 194 0 ≤ 239 := ht.c (by decide +kernel)
theorem ty_194_s206 {h : bH} (ht : TH h) {j r : Nat} (e : j = 206 + 3 * r) (hr : r < 24) : (0) ≤ h 194 j ∧ h 194 j ≤ 239 := by
  subst e
  exact ht.s2 (s := 206) (st := 3) (n := 24) (by decide +kernel) hr
theorem ty_12_s0 {h : bH} (ht : TH h) {j r : Nat} (e : j = 0 + 1 * r) (hr : r < 24) : (0) ≤ h 12 j ∧ h 12 j ≤ 7 := by
  subst e
  exact ht.s2 (s := 0) (st := 1) (n := 24) (by decide +kernel) hr
theorem ty_13_s0 {h : bH} (ht : TH h) {j r : Nat} (e : j = 0 + 1 * r) (hr : r < 24) : (0) ≤ h 13 j ∧ h 13 j ≤ 239 := by
  subst e
  exact ht.s2 (s := 0) (st := 1) (n := 24) (by decide +kernel) hr
theorem ty_194_s204 {h : bH} (ht : TH h) {j r : Nat} (e : j = 204 + 3 * r) (hr : r < 24) : (0) ≤ h 194 j ∧ h 194 j ≤ 239 := by
  subst e
  exact ht.s2 (s := 204) (st := 3) (n := 24) (by decide +kernel) hr
theorem ty_194_s205 {h : bH} (ht : TH h) {j r : Nat} (e : j = 205 + 3 * r) (hr : r < 24) : (0) ≤ h 194 j ∧ h 194 j ≤ 239 := by
  subst e
  exact ht.s2 (s := 205) (st := 3) (n := 24) (by decide +kernel) hr
theorem ty_2_c16 {h : bH} (ht : TH h) : (-2147483648) ≤ h 2 16 ∧ h 2 16 ≤ 2147483647 := ht.c (by decide +kernel)
theorem ty_0_c2 {h : bH} (ht : TH h) : (0) ≤ h 0 2 ∧ h 0 2 ≤ 1 := ht.c (by decide +kernel)
/-! BITS OF AN INT -/
def bitB (x : Int) (i : Nat) : Bool := (Int32.ofInt x).toBitVec.getLsbD i
theorem obv (y : Int32) : (Int32.ofInt y.toInt).toBitVec = y.toBitVec := BitVec.ofInt_toInt
theorem bitB_or (x y : Int) (i : Nat) : bitB (orI x y) i = (bitB x i || bitB y i) := by
  unfold bitB orI
  rw [obv]
  show ((Int32.ofInt x).toBitVec ||| (Int32.ofInt y).toBitVec).getLsbD i = _
  rw [BitVec.getLsbD_or]
theorem bitB_and (x y : Int) (i : Nat) : bitB (andI x y) i = (bitB x i && bitB y i) := by
  unfold bitB andI
  rw [obv]
  show ((Int32.ofInt x).toBitVec &&& (Int32.ofInt y).toBitVec).getLsbD i = _
  rw [BitVec.getLsbD_and]
theorem bitB_xor (x y : Int) (i : Nat) : bitB (xorI x y) i = (bitB x i ^^ bitB y i) := by
  unfold bitB xorI
  rw [obv]
  show ((Int32.ofInt x).toBitVec ^^^ (Int32.ofInt y).toBitVec).getLsbD i = _
  rw [BitVec.getLsbD_xor]
theorem shl1_t : ∀ i : Fin 32, ∀ j : Fin 32, bitB (shlI 1 ((i.val : Nat) : Int)) j.val = decide (j.val = i.val) := by decide +kernel
theorem m1_t : ∀ j : Fin 32, bitB (-1) j.val = true := by decide +kernel
theorem bit_set {x : Int} {i j : Nat} (hi : i < 32) (hj : j < 32) : bitB (orI x (shlI 1 (i : Int))) j = (bitB x j || decide (j = i)) := by
  rw [bitB_or, shl1_t ⟨i, hi⟩ ⟨j, hj⟩]
theorem bit_clr {x : Int} {i j : Nat} (hi : i < 32) (hj : j < 32) : bitB (andI x (xorI (shlI 1 (i : Int)) (-1))) j = (bitB x j && !decide (j = i)) := by
  rw [bitB_and, bitB_xor, shl1_t ⟨i, hi⟩ ⟨j, hj⟩, m1_t ⟨j, hj⟩]
  simp
theorem sm32 : ∀ i : Fin 32, ((Int32.ofInt ((i.val : Nat) : Int) &&& 31).toBitVec.smod 32).toNat = i.val := by decide +kernel
theorem bit_sh {x : Int} {i : Nat} (hi : i < 32) : bitB (shrI x (i : Int)) 0 = bitB x i := by
  unfold bitB shrI
  rw [obv]
  show (BitVec.sshiftRight (Int32.ofInt x).toBitVec ((Int32.ofInt (i : Int) &&& 31).toBitVec.smod 32).toNat).getLsbD 0 = _
  rw [sm32 ⟨i, hi⟩, BitVec.getLsbD_sshiftRight]
  simp [hi]
theorem one_bv : (Int32.ofInt 1).toBitVec = BitVec.twoPow 32 0 := by decide
theorem and_one (x : Int) : andI x 1 = if bitB x 0 = true then 1 else 0 := by
  unfold andI bitB
  show ((Int32.ofInt x).toBitVec &&& (Int32.ofInt 1).toBitVec).toInt = _
  rw [one_bv, BitVec.and_twoPow]
  cases (Int32.ofInt x).toBitVec.getLsbD 0 <;> decide
/-- a bit, read -/
theorem bit_rd {x : Int} {i : Nat} (hi : i < 32) : andI (shrI x (i : Int)) 1 = if bitB x i = true then 1 else 0 := by
  rw [and_one, bit_sh hi]
theorem orI_in (x y : Int) : in32 (orI x y) := i32_in _
theorem andI_in (x y : Int) : in32 (andI x y) := i32_in _
theorem bitB_0 (i : Nat) : bitB 0 i = false := by
  unfold bitB
  rw [show (Int32.ofInt 0).toBitVec = 0#32 from by decide]
  exact BitVec.getLsbD_zero

theorem m_in (hB : BytesOK) {g : bG} {l : Launch} {d : Nat} {Q : bQ} {h : bH} {x lo hi : Int} (h1 : lo ≤ x ∧ x ≤ hi → Q (some (0, 1)) h) (h0 : ¬ (lo ≤ x ∧ x ≤ hi) → Q (some (0, 0)) h) : MH g l d 184 212 212 [(0, x), (0, lo), (0, hi)] h Q := by
  refine mh_go hB mg184 ml184 (Nat.le_of_ble_eq_true rfl) ?_
  show HW g l d 184 _ _ 0 [(0, (0, (x))), (1, (0, (lo))), (2, (0, (hi)))] [] h
  refine w_pl (pc' := 1) (lv' := [(0, (0, (x))), (1, (0, (lo))), (2, (0, (hi)))]) (st' := [(0, (x))]) (h' := h) (o184_0 hB) rfl ?_
  refine w_pl (pc' := 2) (lv' := [(0, (0, (x))), (1, (0, (lo))), (2, (0, (hi)))]) (st' := [(0, (lo)), (0, (x))]) (h' := h) (o184_1 hB) rfl ?_
  refine w_icmp (pt := 14) (pf := 5) (o184_2 hB) (by decide) rfl (fun e => ?_) (fun e => ?_)
  · have f1 : ((x) < (lo)) := e
    refine w_pl (pc' := 15) (lv' := [(0, (0, (x))), (1, (0, (lo))), (2, (0, (hi)))]) (st' := [(0, ((0 : Nat) : Int))]) (h' := h) (o184_8 hB) rfl ?_
    exact w_zret (o184_9 hB) mr184 (by decide) (h0 (by omega))
  · have f2 : ¬ ((x) < (lo)) := e
    refine w_pl (pc' := 6) (lv' := [(0, (0, (x))), (1, (0, (lo))), (2, (0, (hi)))]) (st' := [(0, (x))]) (h' := h) (o184_3 hB) rfl ?_
    refine w_pl (pc' := 7) (lv' := [(0, (0, (x))), (1, (0, (lo))), (2, (0, (hi)))]) (st' := [(0, (hi)), (0, (x))]) (h' := h) (o184_4 hB) rfl ?_
    refine w_icmp (pt := 14) (pf := 10) (o184_5 hB) (by decide) rfl (fun e => ?_) (fun e => ?_)
    · have f3 : ((hi) < (x)) := e
      refine w_pl (pc' := 15) (lv' := [(0, (0, (x))), (1, (0, (lo))), (2, (0, (hi)))]) (st' := [(0, ((0 : Nat) : Int))]) (h' := h) (o184_8 hB) rfl ?_
      exact w_zret (o184_9 hB) mr184 (by decide) (h0 (by omega))
    · have f4 : ¬ ((hi) < (x)) := e
      refine w_pl (pc' := 11) (lv' := [(0, (0, (x))), (1, (0, (lo))), (2, (0, (hi)))]) (st' := [(0, ((1 : Nat) : Int))]) (h' := h) (o184_6 hB) rfl ?_
      refine w_goto (pt := 15) (o184_7 hB) (by decide) ?_
      exact w_zret (o184_9 hB) mr184 (by decide) (h1 (by omega))
theorem m_isMonthM (hB : BytesOK) {g : bG} {l : Launch} {d : Nat} {Q : bQ} {h : bH} {x : Int} (h1 : 0 ≤ x ∧ x ≤ 239 → Q (some (0, 1)) h) (h0 : ¬ (0 ≤ x ∧ x ≤ 239) → Q (some (0, 0)) h) : MH g l (d + 1) 185 212 212 [(0, x)] h Q := by
  refine mh_go hB mg185 ml185 (Nat.le_of_ble_eq_true rfl) ?_
  show HW g l (d + 1) 185 _ _ 0 [(0, (0, (x)))] [] h
  refine w_pl (pc' := 1) (lv' := [(0, (0, (x)))]) (st' := [(0, (x))]) (h' := h) (o185_0 hB) rfl ?_
  refine w_pl (pc' := 2) (lv' := [(0, (0, (x)))]) (st' := [(0, ((0 : Nat) : Int)), (0, (x))]) (h' := h) (o185_1 hB) rfl ?_
  refine w_pl (pc' := 5) (lv' := [(0, (0, (x)))]) (st' := [(0, ((239 : Nat) : Int)), (0, ((0 : Nat) : Int)), (0, (x))]) (h' := h) (o185_2 hB) rfl ?_
  refine w_callS (as := [(0, (x)), (0, ((0 : Nat) : Int)), (0, ((239 : Nat) : Int))]) (rest := []) (n := 3) (pc' := 8) hB (o185_3 hB) rfl (by decide +kernel) rfl rfl (Nat.le_of_ble_eq_true rfl) (m_in hB (fun f5 => ?_) (fun f6 => ?_))
  · show HW g l _ 185 _ _ 8 [(0, (0, (x)))] [(0, ((1 : Nat) : Int))] h
    exact w_zret (o185_4 hB) mr185 (by decide) (h1 (by omega))
  · show HW g l _ 185 _ _ 8 [(0, (0, (x)))] [(0, ((0 : Nat) : Int))] h
    exact w_zret (o185_4 hB) mr185 (by decide) (h0 (by omega))
theorem m_isMonthB (hB : BytesOK) {g : bG} {l : Launch} {d : Nat} {Q : bQ} {h : bH} {x : Int} (h1 : 0 ≤ x ∧ x ≤ 239 → Q (some (0, 1)) h) (h0 : ¬ (0 ≤ x ∧ x ≤ 239) → Q (some (0, 0)) h) : MH g l d 171 212 212 [(0, x)] h Q := by
  refine mh_go hB mg171 ml171 (Nat.le_of_ble_eq_true rfl) ?_
  show HW g l d 171 _ _ 0 [(0, (0, (x)))] [] h
  refine w_pl (pc' := 1) (lv' := [(0, (0, (x)))]) (st' := [(0, (x))]) (h' := h) (o171_0 hB) rfl ?_
  refine w_ifc (pt := 15) (pf := 4) (o171_1 hB) (by decide) rfl (fun e => ?_) (fun e => ?_)
  · have f7 : ((x) < (0)) := e
    refine w_pl (pc' := 16) (lv' := [(0, (0, (x)))]) (st' := [(0, ((0 : Nat) : Int))]) (h' := h) (o171_7 hB) rfl ?_
    exact w_zret (o171_8 hB) mr171 (by decide) (h0 (by omega))
  · have f8 : ¬ ((x) < (0)) := e
    refine w_pl (pc' := 5) (lv' := [(0, (0, (x)))]) (st' := [(0, (x))]) (h' := h) (o171_2 hB) rfl ?_
    refine w_pl (pc' := 8) (lv' := [(0, (0, (x)))]) (st' := [(0, ((240 : Nat) : Int)), (0, (x))]) (h' := h) (o171_3 hB) rfl ?_
    refine w_icmp (pt := 15) (pf := 11) (o171_4 hB) (by decide) rfl (fun e => ?_) (fun e => ?_)
    · have f9 : (((240 : Nat) : Int) ≤ (x)) := e
      refine w_pl (pc' := 16) (lv' := [(0, (0, (x)))]) (st' := [(0, ((0 : Nat) : Int))]) (h' := h) (o171_7 hB) rfl ?_
      exact w_zret (o171_8 hB) mr171 (by decide) (h0 (by omega))
    · have f10 : ¬ (((240 : Nat) : Int) ≤ (x)) := e
      refine w_pl (pc' := 12) (lv' := [(0, (0, (x)))]) (st' := [(0, ((1 : Nat) : Int))]) (h' := h) (o171_5 hB) rfl ?_
      refine w_goto (pt := 16) (o171_6 hB) (by decide) ?_
      exact w_zret (o171_8 hB) mr171 (by decide) (h1 (by omega))
theorem m_isWhereM (hB : BytesOK) {g : bG} {l : Launch} {d : Nat} {Q : bQ} {h : bH} {x : Int} (z_x : in32 x) (h1 : 0 ≤ x ∧ x / 10000 < 6 ∧ x / 1000 % 10 < 4 ∧ x % 1000 < 240 → Q (some (0, 1)) h) (h0 : ¬ (0 ≤ x ∧ x / 10000 < 6 ∧ x / 1000 % 10 < 4 ∧ x % 1000 < 240) → Q (some (0, 0)) h) : MH g l (d + 1 + 1) 229 212 212 [(0, x)] h Q := by
  have z0_x := z_x
  unfold in32 at z0_x
  refine mh_go hB mg229 ml229 (Nat.le_of_ble_eq_true rfl) ?_
  show HW g l (d + 1 + 1) 229 _ _ 0 [(0, (0, (x)))] [] h
  refine w_pl (pc' := 1) (lv' := [(0, (0, (x)))]) (st' := [(0, (x))]) (h' := h) (o229_0 hB) rfl ?_
  refine w_pl (pc' := 2) (lv' := [(0, (0, (x)))]) (st' := [(0, ((0 : Nat) : Int)), (0, (x))]) (h' := h) (o229_1 hB) rfl ?_
  refine w_pl (pc' := 4) (lv' := [(0, (0, (x)))]) (st' := [(0, ((53239 : Nat) : Int)), (0, ((0 : Nat) : Int)), (0, (x))]) (h' := h) (o229_2 hB) rfl ?_
  refine w_callS (as := [(0, (x)), (0, ((0 : Nat) : Int)), (0, ((53239 : Nat) : Int))]) (rest := []) (n := 3) (pc' := 7) hB (o229_3 hB) rfl (by decide +kernel) rfl rfl (Nat.le_of_ble_eq_true rfl) (m_in hB (fun f11 => ?_) (fun f12 => ?_))
  · show HW g l _ 229 _ _ 7 [(0, (0, (x)))] [(0, ((1 : Nat) : Int))] h
    refine w_ifc (pt := 37) (pf := 10) (o229_4 hB) (by decide) rfl (fun e => ?_) (fun e => ?_)
    · have f13 : (((1 : Nat) : Int) = (0)) := e
      exfalso; omega
    · have f14 : ¬ (((1 : Nat) : Int) = (0)) := e
      refine w_pl (pc' := 11) (lv' := [(0, (0, (x)))]) (st' := [(0, (x))]) (h' := h) (o229_5 hB) rfl ?_
      refine w_pl (pc' := 14) (lv' := [(0, (0, (x)))]) (st' := [(0, ((1000 : Nat) : Int)), (0, (x))]) (h' := h) (o229_6 hB) rfl ?_
      refine w_idiv (z := ((x) / 1000)) (pc' := 15) (o229_7 hB) rfl (divI_p (by omega) (by omega) (by decide)) ?_
      refine w_pl (pc' := 17) (lv' := [(0, (0, (x)))]) (st' := [(0, ((10 : Nat) : Int)), (0, ((x) / 1000))]) (h' := h) (o229_8 hB) rfl ?_
      refine w_irem (z := (((x) / 1000) % 10)) (pc' := 18) (o229_9 hB) rfl (remI_p (by omega) (by decide)) ?_
      refine w_pl (pc' := 19) (lv' := [(0, (0, (x)))]) (st' := [(0, ((4 : Nat) : Int)), (0, (((x) / 1000) % 10))]) (h' := h) (o229_10 hB) rfl ?_
      refine w_icmp (pt := 37) (pf := 22) (o229_11 hB) (by decide) rfl (fun e => ?_) (fun e => ?_)
      · have f15 : (((4 : Nat) : Int) ≤ (((x) / 1000) % 10)) := e
        refine w_pl (pc' := 38) (lv' := [(0, (0, (x)))]) (st' := [(0, ((0 : Nat) : Int))]) (h' := h) (o229_19 hB) rfl ?_
        exact w_zret (o229_20 hB) mr229 (by decide) (h0 (by omega))
      · have f16 : ¬ (((4 : Nat) : Int) ≤ (((x) / 1000) % 10)) := e
        refine w_pl (pc' := 23) (lv' := [(0, (0, (x)))]) (st' := [(0, (x))]) (h' := h) (o229_12 hB) rfl ?_
        refine w_pl (pc' := 26) (lv' := [(0, (0, (x)))]) (st' := [(0, ((1000 : Nat) : Int)), (0, (x))]) (h' := h) (o229_13 hB) rfl ?_
        refine w_irem (z := ((x) % 1000)) (pc' := 27) (o229_14 hB) rfl (remI_p (by omega) (by decide)) ?_
        refine w_callS (as := [(0, ((x) % 1000))]) (rest := []) (n := 1) (pc' := 30) hB (o229_15 hB) rfl (by decide +kernel) rfl rfl (Nat.le_of_ble_eq_true rfl) (m_isMonthM hB (fun f17 => ?_) (fun f18 => ?_))
        · show HW g l _ 229 _ _ 30 [(0, (0, (x)))] [(0, ((1 : Nat) : Int))] h
          refine w_ifc (pt := 37) (pf := 33) (o229_16 hB) (by decide) rfl (fun e => ?_) (fun e => ?_)
          · have f19 : (((1 : Nat) : Int) = (0)) := e
            exfalso; omega
          · have f20 : ¬ (((1 : Nat) : Int) = (0)) := e
            refine w_pl (pc' := 34) (lv' := [(0, (0, (x)))]) (st' := [(0, ((1 : Nat) : Int))]) (h' := h) (o229_17 hB) rfl ?_
            refine w_goto (pt := 38) (o229_18 hB) (by decide) ?_
            exact w_zret (o229_20 hB) mr229 (by decide) (h1 (by omega))
        · show HW g l _ 229 _ _ 30 [(0, (0, (x)))] [(0, ((0 : Nat) : Int))] h
          refine w_ifc (pt := 37) (pf := 33) (o229_16 hB) (by decide) rfl (fun e => ?_) (fun e => ?_)
          · have f21 : (((0 : Nat) : Int) = (0)) := e
            refine w_pl (pc' := 38) (lv' := [(0, (0, (x)))]) (st' := [(0, ((0 : Nat) : Int))]) (h' := h) (o229_19 hB) rfl ?_
            exact w_zret (o229_20 hB) mr229 (by decide) (h0 (by omega))
          · have f22 : ¬ (((0 : Nat) : Int) = (0)) := e
            exfalso; omega
  · show HW g l _ 229 _ _ 7 [(0, (0, (x)))] [(0, ((0 : Nat) : Int))] h
    refine w_ifc (pt := 37) (pf := 10) (o229_4 hB) (by decide) rfl (fun e => ?_) (fun e => ?_)
    · have f23 : (((0 : Nat) : Int) = (0)) := e
      refine w_pl (pc' := 38) (lv' := [(0, (0, (x)))]) (st' := [(0, ((0 : Nat) : Int))]) (h' := h) (o229_19 hB) rfl ?_
      exact w_zret (o229_20 hB) mr229 (by decide) (h0 (by omega))
    · have f24 : ¬ (((0 : Nat) : Int) = (0)) := e
      exfalso; omega
theorem m_isWhereB (hB : BytesOK) {g : bG} {l : Launch} {d : Nat} {Q : bQ} {h : bH} {x : Int} (z_x : in32 x) (h1 : 0 ≤ x ∧ x / 10000 < 6 ∧ x / 1000 % 10 < 4 ∧ x % 1000 < 240 → Q (some (0, 1)) h) (h0 : ¬ (0 ≤ x ∧ x / 10000 < 6 ∧ x / 1000 % 10 < 4 ∧ x % 1000 < 240) → Q (some (0, 0)) h) : MH g l d 177 212 212 [(0, x)] h Q := by
  have z0_x := z_x
  unfold in32 at z0_x
  refine mh_go hB mg177 ml177 (Nat.le_of_ble_eq_true rfl) ?_
  show HW g l d 177 _ _ 0 [(0, (0, (x)))] [] h
  refine w_pl (pc' := 1) (lv' := [(0, (0, (x)))]) (st' := [(0, (x))]) (h' := h) (o177_0 hB) rfl ?_
  refine w_ifc (pt := 41) (pf := 4) (o177_1 hB) (by decide) rfl (fun e => ?_) (fun e => ?_)
  · have f25 : ((x) < (0)) := e
    refine w_pl (pc' := 42) (lv' := [(0, (0, (x)))]) (st' := [(0, ((0 : Nat) : Int))]) (h' := h) (o177_21 hB) rfl ?_
    exact w_zret (o177_22 hB) mr177 (by decide) (h0 (by omega))
  · have f26 : ¬ ((x) < (0)) := e
    refine w_pl (pc' := 5) (lv' := [(0, (0, (x)))]) (st' := [(0, (x))]) (h' := h) (o177_2 hB) rfl ?_
    refine w_pl (pc' := 8) (lv' := [(0, (0, (x)))]) (st' := [(0, ((10000 : Nat) : Int)), (0, (x))]) (h' := h) (o177_3 hB) rfl ?_
    refine w_idiv (z := ((x) / 10000)) (pc' := 9) (o177_4 hB) rfl (divI_p (by omega) (by omega) (by decide)) ?_
    refine w_pl (pc' := 11) (lv' := [(0, (0, (x)))]) (st' := [(0, ((6 : Nat) : Int)), (0, ((x) / 10000))]) (h' := h) (o177_5 hB) rfl ?_
    refine w_icmp (pt := 41) (pf := 14) (o177_6 hB) (by decide) rfl (fun e => ?_) (fun e => ?_)
    · have f27 : (((6 : Nat) : Int) ≤ ((x) / 10000)) := e
      refine w_pl (pc' := 42) (lv' := [(0, (0, (x)))]) (st' := [(0, ((0 : Nat) : Int))]) (h' := h) (o177_21 hB) rfl ?_
      exact w_zret (o177_22 hB) mr177 (by decide) (h0 (by omega))
    · have f28 : ¬ (((6 : Nat) : Int) ≤ ((x) / 10000)) := e
      refine w_pl (pc' := 15) (lv' := [(0, (0, (x)))]) (st' := [(0, (x))]) (h' := h) (o177_7 hB) rfl ?_
      refine w_pl (pc' := 18) (lv' := [(0, (0, (x)))]) (st' := [(0, ((1000 : Nat) : Int)), (0, (x))]) (h' := h) (o177_8 hB) rfl ?_
      refine w_idiv (z := ((x) / 1000)) (pc' := 19) (o177_9 hB) rfl (divI_p (by omega) (by omega) (by decide)) ?_
      refine w_pl (pc' := 21) (lv' := [(0, (0, (x)))]) (st' := [(0, ((10 : Nat) : Int)), (0, ((x) / 1000))]) (h' := h) (o177_10 hB) rfl ?_
      refine w_irem (z := (((x) / 1000) % 10)) (pc' := 22) (o177_11 hB) rfl (remI_p (by omega) (by decide)) ?_
      refine w_pl (pc' := 23) (lv' := [(0, (0, (x)))]) (st' := [(0, ((4 : Nat) : Int)), (0, (((x) / 1000) % 10))]) (h' := h) (o177_12 hB) rfl ?_
      refine w_icmp (pt := 41) (pf := 26) (o177_13 hB) (by decide) rfl (fun e => ?_) (fun e => ?_)
      · have f29 : (((4 : Nat) : Int) ≤ (((x) / 1000) % 10)) := e
        refine w_pl (pc' := 42) (lv' := [(0, (0, (x)))]) (st' := [(0, ((0 : Nat) : Int))]) (h' := h) (o177_21 hB) rfl ?_
        exact w_zret (o177_22 hB) mr177 (by decide) (h0 (by omega))
      · have f30 : ¬ (((4 : Nat) : Int) ≤ (((x) / 1000) % 10)) := e
        refine w_pl (pc' := 27) (lv' := [(0, (0, (x)))]) (st' := [(0, (x))]) (h' := h) (o177_14 hB) rfl ?_
        refine w_pl (pc' := 30) (lv' := [(0, (0, (x)))]) (st' := [(0, ((1000 : Nat) : Int)), (0, (x))]) (h' := h) (o177_15 hB) rfl ?_
        refine w_irem (z := ((x) % 1000)) (pc' := 31) (o177_16 hB) rfl (remI_p (by omega) (by decide)) ?_
        refine w_pl (pc' := 34) (lv' := [(0, (0, (x)))]) (st' := [(0, ((240 : Nat) : Int)), (0, ((x) % 1000))]) (h' := h) (o177_17 hB) rfl ?_
        refine w_icmp (pt := 41) (pf := 37) (o177_18 hB) (by decide) rfl (fun e => ?_) (fun e => ?_)
        · have f31 : (((240 : Nat) : Int) ≤ ((x) % 1000)) := e
          refine w_pl (pc' := 42) (lv' := [(0, (0, (x)))]) (st' := [(0, ((0 : Nat) : Int))]) (h' := h) (o177_21 hB) rfl ?_
          exact w_zret (o177_22 hB) mr177 (by decide) (h0 (by omega))
        · have f32 : ¬ (((240 : Nat) : Int) ≤ ((x) % 1000)) := e
          refine w_pl (pc' := 38) (lv' := [(0, (0, (x)))]) (st' := [(0, ((1 : Nat) : Int))]) (h' := h) (o177_19 hB) rfl ?_
          refine w_goto (pt := 42) (o177_20 hB) (by decide) ?_
          exact w_zret (o177_22 hB) mr177 (by decide) (h1 (by omega))
theorem m_monthsB (hB : BytesOK) {g : bG} {l : Launch} {d : Nat} {Q : bQ} {h : bH} {n : Int} (ht : TH h) (z_n : in32 n) {w : Int} (hw : h 2 0 = w)  (a0 : ¬ (1 ≤ n ∧ n ≤ 60) → Q (some (0, (-1))) h) (a1 : (1 ≤ n ∧ n ≤ 60) ∧ 239 < w + n → Q (some (0, (-4))) h) (a2 : (1 ≤ n ∧ n ≤ 60) ∧ w + n ≤ 239 → Q (some (0, (w + n))) (hup h 2 (0) ((w) + (n)))) : MH g l d 123 212 212 [(2, ((0 : Nat) : Int)), (0, (n))] h Q := by
  have hR := ht.r
  have z0_n := z_n
  unfold in32 at z0_n
  have r_w := ty_2_c0 ht
  rw [hw] at r_w
  refine mh_go hB mg123 ml123 (Nat.le_of_ble_eq_true rfl) ?_
  show HW g l d 123 _ _ 0 [(0, (2, ((0 : Nat) : Int))), (1, (0, (n)))] [] h
  refine w_pl (pc' := 1) (lv' := [(0, (2, ((0 : Nat) : Int))), (1, (0, (n)))]) (st' := [(0, (n))]) (h' := h) (o123_0 hB) rfl ?_
  refine w_pl (pc' := 2) (lv' := [(0, (2, ((0 : Nat) : Int))), (1, (0, (n)))]) (st' := [(0, ((1 : Nat) : Int)), (0, (n))]) (h' := h) (o123_1 hB) rfl ?_
  refine w_icmp (pt := 11) (pf := 5) (o123_2 hB) (by decide) rfl (fun e => ?_) (fun e => ?_)
  · have f39 : ((n) < ((1 : Nat) : Int)) := e
    refine w_pl (pc' := 12) (lv' := [(0, (2, ((0 : Nat) : Int))), (1, (0, (n)))]) (st' := [(0, (-1))]) (h' := h) (o123_6 hB) rfl ?_
    exact w_iret (o123_7 hB) mr123 (by unfold in32; omega) (a0 (by omega))
  · have f40 : ¬ ((n) < ((1 : Nat) : Int)) := e
    refine w_pl (pc' := 6) (lv' := [(0, (2, ((0 : Nat) : Int))), (1, (0, (n)))]) (st' := [(0, (n))]) (h' := h) (o123_3 hB) rfl ?_
    refine w_pl (pc' := 8) (lv' := [(0, (2, ((0 : Nat) : Int))), (1, (0, (n)))]) (st' := [(0, ((60 : Nat) : Int)), (0, (n))]) (h' := h) (o123_4 hB) rfl ?_
    refine w_icmp (pt := 13) (pf := 11) (o123_5 hB) (by decide) rfl (fun e => ?_) (fun e => ?_)
    · have f41 : ((n) ≤ ((60 : Nat) : Int)) := e
      refine w_pl (pc' := 14) (lv' := [(0, (2, ((0 : Nat) : Int))), (1, (0, (n)))]) (st' := [(2, ((0 : Nat) : Int))]) (h' := h) (o123_8 hB) rfl ?_
      refine w_getf (A := 0) (t := 2) (z := ((1 : Nat) : Int)) (pc' := 17) (o123_9 hB) rfl (by decide +kernel) (hR (0, 0, 1) (by decide)) ?_
      refine w_getf (A := 1) (t := 2) (z := ((2 : Nat) : Int)) (pc' := 20) (o123_10 hB) rfl (by decide +kernel) (hR (1, 0, 2) (by decide)) ?_
      refine w_getf (A := 2) (t := 0) (z := (w)) (pc' := 23) (o123_11 hB) rfl (by decide +kernel) hw ?_
      refine w_pl (pc' := 24) (lv' := [(0, (2, ((0 : Nat) : Int))), (1, (0, (n)))]) (st' := [(0, (n)), (0, (w))]) (h' := h) (o123_12 hB) rfl ?_
      refine w_iadd (z := ((w) + (n))) (pc' := 25) (o123_13 hB) rfl (w32_e (by omega) (by omega)) ?_
      refine w_pl (pc' := 28) (lv' := [(0, (2, ((0 : Nat) : Int))), (1, (0, (n)))]) (st' := [(0, ((240 : Nat) : Int)), (0, ((w) + (n)))]) (h' := h) (o123_14 hB) rfl ?_
      refine w_icmp (pt := 34) (pf := 31) (o123_15 hB) (by decide) rfl (fun e => ?_) (fun e => ?_)
      · have f42 : (((w) + (n)) < ((240 : Nat) : Int)) := e
        refine w_pl (pc' := 35) (lv' := [(0, (2, ((0 : Nat) : Int))), (1, (0, (n)))]) (st' := [(2, ((0 : Nat) : Int))]) (h' := h) (o123_18 hB) rfl ?_
        refine w_getf (A := 0) (t := 2) (z := ((1 : Nat) : Int)) (pc' := 38) (o123_19 hB) rfl (by decide +kernel) (hR (0, 0, 1) (by decide)) ?_
        refine w_getf (A := 1) (t := 2) (z := ((2 : Nat) : Int)) (pc' := 41) (o123_20 hB) rfl (by decide +kernel) (hR (1, 0, 2) (by decide)) ?_
        refine w_pl (pc' := 42) (lv' := [(0, (2, ((0 : Nat) : Int))), (1, (0, (n)))]) (st' := [(2, ((2 : Nat) : Int)), (2, ((2 : Nat) : Int))]) (h' := h) (o123_21 hB) rfl ?_
        refine w_getf (A := 2) (t := 0) (z := (w)) (pc' := 45) (o123_22 hB) rfl (by decide +kernel) hw ?_
        refine w_pl (pc' := 46) (lv' := [(0, (2, ((0 : Nat) : Int))), (1, (0, (n)))]) (st' := [(0, (n)), (0, (w)), (2, ((2 : Nat) : Int))]) (h' := h) (o123_23 hB) rfl ?_
        refine w_iadd (z := ((w) + (n))) (pc' := 47) (o123_24 hB) rfl (w32_e (by omega) (by omega)) ?_
        refine w_putf (A := 2) (t := 0) (pc' := 50) (o123_25 hB) rfl (by decide +kernel) ?_
        refine w_pl (pc' := 51) (lv' := [(0, (2, ((0 : Nat) : Int))), (1, (0, (n)))]) (st' := [(2, ((0 : Nat) : Int))]) (h' := (hup h 2 (0) ((w) + (n)))) (o123_26 hB) rfl ?_
        refine w_getf (A := 0) (t := 2) (z := ((1 : Nat) : Int)) (pc' := 54) (o123_27 hB) rfl (by decide +kernel) ((hup_ne (by decide)).trans (hR (0, 0, 1) (by decide))) ?_
        refine w_getf (A := 1) (t := 2) (z := ((2 : Nat) : Int)) (pc' := 57) (o123_28 hB) rfl (by decide +kernel) ((hup_ne (by decide)).trans (hR (1, 0, 2) (by decide))) ?_
        refine w_getf (A := 2) (t := 0) (z := (((w) + (n)))) (pc' := 60) (o123_29 hB) rfl (by decide +kernel) (hup_eq) ?_
        exact w_iret (o123_30 hB) mr123 (by unfold in32; omega) (qe (a2 (by omega)) (by omega))
      · have f43 : ¬ (((w) + (n)) < ((240 : Nat) : Int)) := e
        refine w_pl (pc' := 33) (lv' := [(0, (2, ((0 : Nat) : Int))), (1, (0, (n)))]) (st' := [(0, (-4))]) (h' := h) (o123_16 hB) rfl ?_
        exact w_iret (o123_17 hB) mr123 (by unfold in32; omega) (a1 (by omega))
    · have f44 : ¬ ((n) ≤ ((60 : Nat) : Int)) := e
      refine w_pl (pc' := 12) (lv' := [(0, (2, ((0 : Nat) : Int))), (1, (0, (n)))]) (st' := [(0, (-1))]) (h' := h) (o123_6 hB) rfl ?_
      exact w_iret (o123_7 hB) mr123 (by unfold in32; omega) (a0 (by omega))
def s_monthsB (vs : List bV) (h : bH) (r : Option bV) (h' : bH) : Prop := TH h ∧ ∀ (n : Int) (w : Int) , vs = [(2, ((0 : Nat) : Int)), (0, n)] → h 2 0 = w → ((¬ (1 ≤ n ∧ n ≤ 60)) ∧ r = some (0, (-1)) ∧ h = h') ∨ (((1 ≤ n ∧ n ≤ 60) ∧ 239 < w + n) ∧ r = some (0, (-4)) ∧ h = h') ∨ (((1 ≤ n ∧ n ≤ 60) ∧ w + n ≤ 239) ∧ r = some (0, (w + n)) ∧ h' = (hup h 2 (0) ((w) + (n))))
def w_monthsB : List (Nat × Nat × Nat) := [(2, 0, 1)]
def q_monthsB : aCt := cH 123 0 w_monthsB 1 0
theorem sk_monthsB (hB : BytesOK) (g : bG) (l : Launch) : SK g l gT q_monthsB s_monthsB := by
  intro d hd ρ h Q hcore hQ
  have hcore : core (PofW gT (some w_monthsB) false) (gsc g) h ρ h (List.replicate 1 r32, [], [], 212) := hcore
  have ht := hTH hcore
  have y0 := r32_0 hcore 0 (by decide)
  have y00 := y0
  unfold in32 at y00
  have r_w := ty_2_c0 ht
  rw [show evS ρ (ctA q_monthsB) = [(2, ((0 : Nat) : Int)), (0, ρ 0)] from evA1]
  refine m_monthsB (n := ρ 0) hB ht y0 rfl (fun hn => ?_) (fun hn => ?_) (fun hn => ?_)
  · refine hQ _ _ (hpost hcore (ht) (fun _ _ _ => rfl) (by unfold in32; omega)) ⟨ht, fun n v_w hv e_w => ?_⟩
    have hv := (evA1 (ρ := ρ)).symm.trans hv
    obtain rfl := vsA1 hv
    subst e_w
    exact Or.inl ⟨hn, rfl, rfl⟩
  · refine hQ _ _ (hpost hcore (ht) (fun _ _ _ => rfl) (by unfold in32; omega)) ⟨ht, fun n v_w hv e_w => ?_⟩
    have hv := (evA1 (ρ := ρ)).symm.trans hv
    obtain rfl := vsA1 hv
    subst e_w
    exact Or.inr (Or.inl ⟨hn, rfl, rfl⟩)
  · refine hQ _ _ (hpost hcore ((ht).upc (a := 2) (j := 0) (lo := (0)) (hi := 239) (by decide +kernel) (by omega)) (fr_up (fun _ _ _ => rfl) (wr_in (lo := 0) (hi := 1) (by decide) (by omega) (by omega))) (by unfold in32; omega)) ⟨ht, fun n v_w hv e_w => ?_⟩
    have hv := (evA1 (ρ := ρ)).symm.trans hv
    obtain rfl := vsA1 hv
    subst e_w
    exact Or.inr (Or.inr (⟨hn, rfl, rfl⟩))
theorem m_monthsM (hB : BytesOK) {g : bG} {l : Launch} {d : Nat} {Q : bQ} {h : bH} {n : Int} (ht : TH h) (z_n : in32 n) {w : Int} (hw : h 194 0 = w)  (a0 : ¬ (1 ≤ n ∧ n ≤ 60) → Q (some (0, (-1))) h) (a1 : (1 ≤ n ∧ n ≤ 60) ∧ 239 < w + n → Q (some (0, (-4))) h) (a2 : (1 ≤ n ∧ n ≤ 60) ∧ w + n ≤ 239 → Q (some (0, (w + n))) (hup h 194 (0) ((w) + (n)))) : MH g l (d + 1) 189 212 212 [(2, ((193 : Nat) : Int)), (0, (n))] h Q := by
  have hR := ht.r
  have z0_n := z_n
  unfold in32 at z0_n
  have r_w := ty_194_c0 ht
  rw [hw] at r_w
  refine mh_go hB mg189 ml189 (Nat.le_of_ble_eq_true rfl) ?_
  show HW g l (d + 1) 189 _ _ 0 [(0, (2, ((193 : Nat) : Int))), (1, (0, (n)))] [] h
  refine w_pl (pc' := 1) (lv' := [(0, (2, ((193 : Nat) : Int))), (1, (0, (n)))]) (st' := [(0, (n))]) (h' := h) (o189_0 hB) rfl ?_
  refine w_pl (pc' := 2) (lv' := [(0, (2, ((193 : Nat) : Int))), (1, (0, (n)))]) (st' := [(0, ((1 : Nat) : Int)), (0, (n))]) (h' := h) (o189_1 hB) rfl ?_
  refine w_pl (pc' := 4) (lv' := [(0, (2, ((193 : Nat) : Int))), (1, (0, (n)))]) (st' := [(0, ((60 : Nat) : Int)), (0, ((1 : Nat) : Int)), (0, (n))]) (h' := h) (o189_2 hB) rfl ?_
  refine w_callS (as := [(0, (n)), (0, ((1 : Nat) : Int)), (0, ((60 : Nat) : Int))]) (rest := []) (n := 3) (pc' := 7) hB (o189_3 hB) rfl (by decide +kernel) rfl rfl (Nat.le_of_ble_eq_true rfl) (m_in hB (fun f53 => ?_) (fun f54 => ?_))
  · show HW g l _ 189 _ _ 7 [(0, (2, ((193 : Nat) : Int))), (1, (0, (n)))] [(0, ((1 : Nat) : Int))] h
    refine w_ifc (pt := 12) (pf := 10) (o189_4 hB) (by decide) rfl (fun e => ?_) (fun e => ?_)
    · have f55 : (((1 : Nat) : Int) ≠ (0)) := e
      refine w_pl (pc' := 13) (lv' := [(0, (2, ((193 : Nat) : Int))), (1, (0, (n)))]) (st' := [(2, ((193 : Nat) : Int))]) (h' := h) (o189_7 hB) rfl ?_
      refine w_getf (A := 193) (t := 2) (z := ((194 : Nat) : Int)) (pc' := 16) (o189_8 hB) rfl (by decide +kernel) (hR (193, 0, 194) (by decide)) ?_
      refine w_pl (pc' := 17) (lv' := [(0, (2, ((193 : Nat) : Int))), (1, (0, (n)))]) (st' := [(0, ((0 : Nat) : Int)), (2, ((194 : Nat) : Int))]) (h' := h) (o189_9 hB) rfl ?_
      refine w_iald (A := 194) (i := 0) (n := 1984) (z := (w)) (pc' := 18) (o189_10 hB) rfl (by decide +kernel) (by omega) hw ?_
      refine w_pl (pc' := 19) (lv' := [(0, (2, ((193 : Nat) : Int))), (1, (0, (n)))]) (st' := [(0, (n)), (0, (w))]) (h' := h) (o189_11 hB) rfl ?_
      refine w_iadd (z := ((w) + (n))) (pc' := 20) (o189_12 hB) rfl (w32_e (by omega) (by omega)) ?_
      refine w_pl (pc' := 23) (lv' := [(0, (2, ((193 : Nat) : Int))), (1, (0, (n)))]) (st' := [(0, ((239 : Nat) : Int)), (0, ((w) + (n)))]) (h' := h) (o189_13 hB) rfl ?_
      refine w_icmp (pt := 29) (pf := 26) (o189_14 hB) (by decide) rfl (fun e => ?_) (fun e => ?_)
      · have f56 : (((w) + (n)) ≤ ((239 : Nat) : Int)) := e
        refine w_pl (pc' := 30) (lv' := [(0, (2, ((193 : Nat) : Int))), (1, (0, (n)))]) (st' := [(2, ((193 : Nat) : Int))]) (h' := h) (o189_17 hB) rfl ?_
        refine w_getf (A := 193) (t := 2) (z := ((194 : Nat) : Int)) (pc' := 33) (o189_18 hB) rfl (by decide +kernel) (hR (193, 0, 194) (by decide)) ?_
        refine w_pl (pc' := 34) (lv' := [(0, (2, ((193 : Nat) : Int))), (1, (0, (n)))]) (st' := [(0, ((0 : Nat) : Int)), (2, ((194 : Nat) : Int))]) (h' := h) (o189_19 hB) rfl ?_
        refine w_pl (pc' := 35) (lv' := [(0, (2, ((193 : Nat) : Int))), (1, (0, (n)))]) (st' := [(0, ((0 : Nat) : Int)), (2, ((194 : Nat) : Int)), (0, ((0 : Nat) : Int)), (2, ((194 : Nat) : Int))]) (h' := h) (o189_20 hB) rfl ?_
        refine w_iald (A := 194) (i := 0) (n := 1984) (z := (w)) (pc' := 36) (o189_21 hB) rfl (by decide +kernel) (by omega) hw ?_
        refine w_pl (pc' := 37) (lv' := [(0, (2, ((193 : Nat) : Int))), (1, (0, (n)))]) (st' := [(0, (n)), (0, (w)), (0, ((0 : Nat) : Int)), (2, ((194 : Nat) : Int))]) (h' := h) (o189_22 hB) rfl ?_
        refine w_iadd (z := ((w) + (n))) (pc' := 38) (o189_23 hB) rfl (w32_e (by omega) (by omega)) ?_
        refine w_iast (A := 194) (i := 0) (n := 1984) (pc' := 39) (o189_24 hB) rfl (by decide +kernel) (by omega) ?_
        refine w_pl (pc' := 40) (lv' := [(0, (2, ((193 : Nat) : Int))), (1, (0, (n)))]) (st' := [(2, ((193 : Nat) : Int))]) (h' := (hup h 194 (0) ((w) + (n)))) (o189_25 hB) rfl ?_
        refine w_getf (A := 193) (t := 2) (z := ((194 : Nat) : Int)) (pc' := 43) (o189_26 hB) rfl (by decide +kernel) ((hup_ne (by decide)).trans (hR (193, 0, 194) (by decide))) ?_
        refine w_pl (pc' := 44) (lv' := [(0, (2, ((193 : Nat) : Int))), (1, (0, (n)))]) (st' := [(0, ((0 : Nat) : Int)), (2, ((194 : Nat) : Int))]) (h' := (hup h 194 (0) ((w) + (n)))) (o189_27 hB) rfl ?_
        refine w_iald (A := 194) (i := 0) (n := 1984) (z := (((w) + (n)))) (pc' := 45) (o189_28 hB) rfl (by decide +kernel) (by omega) (hup_eq) ?_
        exact w_iret (o189_29 hB) mr189 (by unfold in32; omega) (qe (a2 (by omega)) (by omega))
      · have f57 : ¬ (((w) + (n)) ≤ ((239 : Nat) : Int)) := e
        refine w_pl (pc' := 28) (lv' := [(0, (2, ((193 : Nat) : Int))), (1, (0, (n)))]) (st' := [(0, (-4))]) (h' := h) (o189_15 hB) rfl ?_
        exact w_iret (o189_16 hB) mr189 (by unfold in32; omega) (a1 (by omega))
    · have f58 : ¬ (((1 : Nat) : Int) ≠ (0)) := e
      exfalso; omega
  · show HW g l _ 189 _ _ 7 [(0, (2, ((193 : Nat) : Int))), (1, (0, (n)))] [(0, ((0 : Nat) : Int))] h
    refine w_ifc (pt := 12) (pf := 10) (o189_4 hB) (by decide) rfl (fun e => ?_) (fun e => ?_)
    · have f59 : (((0 : Nat) : Int) ≠ (0)) := e
      exfalso; omega
    · have f60 : ¬ (((0 : Nat) : Int) ≠ (0)) := e
      refine w_pl (pc' := 11) (lv' := [(0, (2, ((193 : Nat) : Int))), (1, (0, (n)))]) (st' := [(0, (-1))]) (h' := h) (o189_5 hB) rfl ?_
      exact w_iret (o189_6 hB) mr189 (by unfold in32; omega) (a0 (by omega))
def s_monthsM (vs : List bV) (h : bH) (r : Option bV) (h' : bH) : Prop := TH h ∧ ∀ (n : Int) (w : Int) , vs = [(2, ((193 : Nat) : Int)), (0, n)] → h 194 0 = w → ((¬ (1 ≤ n ∧ n ≤ 60)) ∧ r = some (0, (-1)) ∧ h = h') ∨ (((1 ≤ n ∧ n ≤ 60) ∧ 239 < w + n) ∧ r = some (0, (-4)) ∧ h = h') ∨ (((1 ≤ n ∧ n ≤ 60) ∧ w + n ≤ 239) ∧ r = some (0, (w + n)) ∧ h' = (hup h 194 (0) ((w) + (n))))
def w_monthsM : List (Nat × Nat × Nat) := [(194, 0, 1)]
def q_monthsM : aCt := cH 189 1 w_monthsM 1 193
theorem sk_monthsM (hB : BytesOK) (g : bG) (l : Launch) : SK g l gT q_monthsM s_monthsM := by
  intro d hd ρ h Q hcore hQ
  have hcore : core (PofW gT (some w_monthsM) false) (gsc g) h ρ h (List.replicate 1 r32, [], [], 212) := hcore
  have ht := hTH hcore
  have y0 := r32_0 hcore 0 (by decide)
  have y00 := y0
  unfold in32 at y00
  have r_w := ty_194_c0 ht
  obtain ⟨d', rfl⟩ : ∃ d', d = d' + 1 := ⟨d - 1, by have : 1 ≤ d := hd; omega⟩
  rw [show evS ρ (ctA q_monthsM) = [(2, ((193 : Nat) : Int)), (0, ρ 0)] from evA1]
  refine m_monthsM (n := ρ 0) hB ht y0 rfl (fun hn => ?_) (fun hn => ?_) (fun hn => ?_)
  · refine hQ _ _ (hpost hcore (ht) (fun _ _ _ => rfl) (by unfold in32; omega)) ⟨ht, fun n v_w hv e_w => ?_⟩
    have hv := (evA1 (ρ := ρ)).symm.trans hv
    obtain rfl := vsA1 hv
    subst e_w
    exact Or.inl ⟨hn, rfl, rfl⟩
  · refine hQ _ _ (hpost hcore (ht) (fun _ _ _ => rfl) (by unfold in32; omega)) ⟨ht, fun n v_w hv e_w => ?_⟩
    have hv := (evA1 (ρ := ρ)).symm.trans hv
    obtain rfl := vsA1 hv
    subst e_w
    exact Or.inr (Or.inl ⟨hn, rfl, rfl⟩)
  · refine hQ _ _ (hpost hcore ((ht).upc (a := 194) (j := 0) (lo := (0)) (hi := 239) (by decide +kernel) (by omega)) (fr_up (fun _ _ _ => rfl) (wr_in (lo := 0) (hi := 1) (by decide) (by omega) (by omega))) (by unfold in32; omega)) ⟨ht, fun n v_w hv e_w => ?_⟩
    have hv := (evA1 (ρ := ρ)).symm.trans hv
    obtain rfl := vsA1 hv
    subst e_w
    exact Or.inr (Or.inr (⟨hn, rfl, rfl⟩))
/-- who is in, by the class's rows from the last down; by the reference's from the first up, with the month of the last that counted -/
def inA (h : bH) (o m : Int) : Nat → Int
  | 0 => 0
  | j + 1 => if h 12 j = o ∧ h 13 j ≤ m then (if andI (shrI (h 2 16) ((j : Nat) : Int)) 1 = 0 then 0 else 1) else inA h o m j
theorem inA_r {h : bH} {o m : Int} : ∀ j, 0 ≤ inA h o m j ∧ inA h o m j ≤ 1
  | 0 => by simp [inA]
  | j + 1 => by
    have := inA_r (h := h) (o := o) (m := m) j
    simp only [inA]
    split
    · split <;> omega
    · exact this
def inM (h : bH) (o m : Int) : Nat → Int × Int
  | 0 => (0, -1)
  | j + 1 => if h 194 (204 + 3 * j) = o ∧ h 194 (204 + 3 * j + 2) ≤ m ∧ (inM h o m j).2 ≤ h 194 (204 + 3 * j + 2) then (if h 194 (204 + 3 * j + 1) = 1 then 1 else 0, h 194 (204 + 3 * j + 2)) else inM h o m j
theorem inM_r {h : bH} {o m : Int} (ht : TH h) : ∀ j, j ≤ 24 → (0 ≤ (inM h o m j).1 ∧ (inM h o m j).1 ≤ 1) ∧ -1 ≤ (inM h o m j).2 ∧ (inM h o m j).2 ≤ 239
  | 0, _ => by simp [inM]
  | j + 1, hj => by
    have := inM_r ht (o := o) (m := m) j (by omega)
    have r := ty_194_s206 ht (j := 204 + 3 * j + 2) (r := j) (by omega) (by omega)
    simp only [inM]
    split
    · refine ⟨?_, ?_⟩
      · dsimp only
        split <;> omega
      · dsimp only
        omega
    · exact this
theorem inM_congr {h h' : bH} {o m : Int} : ∀ c, (∀ j, 204 ≤ j → j < 204 + 3 * c → h' 194 j = h 194 j) → inM h' o m c = inM h o m c
  | 0, _ => rfl
  | c + 1, hc => by
    have ih := inM_congr (o := o) (m := m) c (fun j h1 h2 => hc j h1 (by omega))
    simp only [inM]
    rw [ih, hc (204 + 3 * c) (by omega) (by omega), hc (204 + 3 * c + 1) (by omega) (by omega), hc (204 + 3 * c + 2) (by omega) (by omega)]
/-- a set of those for whom f is not 0 -/
def memS (f : Nat → Int) : Nat → Int
  | 0 => 0
  | b + 1 => if f b = 0 then memS f b else orI (memS f b) (shlI 1 ((b : Nat) : Int))
theorem memS_in {f : Nat → Int} : ∀ b, in32 (memS f b)
  | 0 => by unfold memS in32; omega
  | b + 1 => by
    simp only [memS]
    split
    · exact memS_in b
    · exact orI_in _ _
theorem memS_congr {f f' : Nat → Int} : ∀ b, (∀ j, j < b → f j = f' j) → memS f b = memS f' b
  | 0, _ => rfl
  | b + 1, hb => by
    simp only [memS]
    rw [memS_congr b (fun j hj => hb j (by omega)), hb b (by omega)]
theorem orI_z {x : Int} (h : in32 x) : orI x 0 = x := by
  unfold orI
  rw [show Int32.ofInt 0 = 0 from rfl, Int32.or_zero, i32_ti h]
theorem m_isOwnerM (hB : BytesOK) {g : bG} {l : Launch} {d : Nat} {Q : bQ} {h : bH} {x : Int} (h1 : 0 ≤ x ∧ x ≤ 7 → Q (some (0, 1)) h) (h0 : ¬ (0 ≤ x ∧ x ≤ 7) → Q (some (0, 0)) h) : MH g l (d + 1) 186 212 212 [(0, x)] h Q := by
  refine mh_go hB mg186 ml186 (Nat.le_of_ble_eq_true rfl) ?_
  show HW g l (d + 1) 186 _ _ 0 [(0, (0, (x)))] [] h
  refine w_pl (pc' := 1) (lv' := [(0, (0, (x)))]) (st' := [(0, (x))]) (h' := h) (o186_0 hB) rfl ?_
  refine w_pl (pc' := 2) (lv' := [(0, (0, (x)))]) (st' := [(0, ((0 : Nat) : Int)), (0, (x))]) (h' := h) (o186_1 hB) rfl ?_
  refine w_pl (pc' := 4) (lv' := [(0, (0, (x)))]) (st' := [(0, ((7 : Nat) : Int)), (0, ((0 : Nat) : Int)), (0, (x))]) (h' := h) (o186_2 hB) rfl ?_
  refine w_callS (as := [(0, (x)), (0, ((0 : Nat) : Int)), (0, ((7 : Nat) : Int))]) (rest := []) (n := 3) (pc' := 7) hB (o186_3 hB) rfl (by decide +kernel) rfl rfl (Nat.le_of_ble_eq_true rfl) (m_in hB (fun f61 => ?_) (fun f62 => ?_))
  · show HW g l _ 186 _ _ 7 [(0, (0, (x)))] [(0, ((1 : Nat) : Int))] h
    exact w_zret (o186_4 hB) mr186 (by decide) (h1 (by omega))
  · show HW g l _ 186 _ _ 7 [(0, (0, (x)))] [(0, ((0 : Nat) : Int))] h
    exact w_zret (o186_4 hB) mr186 (by decide) (h0 (by omega))
theorem m_isOwnerB (hB : BytesOK) {g : bG} {l : Launch} {d : Nat} {Q : bQ} {h : bH} {x : Int} (h1 : 0 ≤ x ∧ x ≤ 7 → Q (some (0, 1)) h) (h0 : ¬ (0 ≤ x ∧ x ≤ 7) → Q (some (0, 0)) h) : MH g l d 172 212 212 [(0, x)] h Q := by
  refine mh_go hB mg172 ml172 (Nat.le_of_ble_eq_true rfl) ?_
  show HW g l d 172 _ _ 0 [(0, (0, (x)))] [] h
  refine w_pl (pc' := 1) (lv' := [(0, (0, (x)))]) (st' := [(0, (x))]) (h' := h) (o172_0 hB) rfl ?_
  refine w_ifc (pt := 14) (pf := 4) (o172_1 hB) (by decide) rfl (fun e => ?_) (fun e => ?_)
  · have f63 : ((x) < (0)) := e
    refine w_pl (pc' := 15) (lv' := [(0, (0, (x)))]) (st' := [(0, ((0 : Nat) : Int))]) (h' := h) (o172_7 hB) rfl ?_
    exact w_zret (o172_8 hB) mr172 (by decide) (h0 (by omega))
  · have f64 : ¬ ((x) < (0)) := e
    refine w_pl (pc' := 5) (lv' := [(0, (0, (x)))]) (st' := [(0, (x))]) (h' := h) (o172_2 hB) rfl ?_
    refine w_pl (pc' := 7) (lv' := [(0, (0, (x)))]) (st' := [(0, ((8 : Nat) : Int)), (0, (x))]) (h' := h) (o172_3 hB) rfl ?_
    refine w_icmp (pt := 14) (pf := 10) (o172_4 hB) (by decide) rfl (fun e => ?_) (fun e => ?_)
    · have f65 : (((8 : Nat) : Int) ≤ (x)) := e
      refine w_pl (pc' := 15) (lv' := [(0, (0, (x)))]) (st' := [(0, ((0 : Nat) : Int))]) (h' := h) (o172_7 hB) rfl ?_
      exact w_zret (o172_8 hB) mr172 (by decide) (h0 (by omega))
    · have f66 : ¬ (((8 : Nat) : Int) ≤ (x)) := e
      refine w_pl (pc' := 11) (lv' := [(0, (0, (x)))]) (st' := [(0, ((1 : Nat) : Int))]) (h' := h) (o172_5 hB) rfl ?_
      refine w_goto (pt := 15) (o172_6 hB) (by decide) ?_
      exact w_zret (o172_8 hB) mr172 (by decide) (h1 (by omega))
theorem m_isInA (hB : BytesOK) {g : bG} {l : Launch} {d : Nat} {Q : bQ} {h : bH} {o m : Int} {c : Nat} (ht : TH h) (hc : h 2 15 = (c : Int)) (lc : c ≤ 24) (hq : Q (some (0, inA h o m c)) h) : MH g l d 51 212 212 [(2, ((2 : Nat) : Int)), (0, o), (0, m)] h Q := by
  have hR := ht.r
  have loop : ∀ (n : Nat), n ≤ c → (Q (some (0, inA h o m n)) h) → HW g l d 51 212 Q 7 [(3, (0, (((n : Nat) : Int) + (-1)))), (0, (2, ((2 : Nat) : Int))), (1, (0, (o))), (2, (0, (m)))] [] h := by
    intro n
    induction n with
    | zero =>
      intro hn hq
      refine w_pl (pc' := 8) (lv' := [(3, (0, (((0 : Nat) : Int) + (-1)))), (0, (2, ((2 : Nat) : Int))), (1, (0, (o))), (2, (0, (m)))]) (st' := [(0, (((0 : Nat) : Int) + (-1)))]) (h' := h) (o51_5 hB) rfl ?_
      refine w_ifc (pt := 54) (pf := 11) (o51_6 hB) (by decide) rfl (fun e => ?_) (fun e => ?_)
      · have f67 : ((((0 : Nat) : Int) + (-1)) < (0)) := e
        refine w_pl (pc' := 55) (lv' := [(3, (0, (((0 : Nat) : Int) + (-1)))), (0, (2, ((2 : Nat) : Int))), (1, (0, (o))), (2, (0, (m)))]) (st' := [(0, ((0 : Nat) : Int))]) (h' := h) (o51_32 hB) rfl ?_
        exact w_zret (o51_33 hB) mr51 (by decide) (qe hq rfl)
      · have f68 : ¬ ((((0 : Nat) : Int) + (-1)) < (0)) := e
        exfalso; omega
    | succ n ih =>
      intro hn hq
      rw [show (((n + 1 : Nat) : Int) + (-1)) = ((n : Nat) : Int) from by omega]
      refine w_pl (pc' := 8) (lv' := [(3, (0, ((n : Nat) : Int))), (0, (2, ((2 : Nat) : Int))), (1, (0, (o))), (2, (0, (m)))]) (st' := [(0, ((n : Nat) : Int))]) (h' := h) (o51_5 hB) rfl ?_
      refine w_ifc (pt := 54) (pf := 11) (o51_6 hB) (by decide) rfl (fun e => ?_) (fun e => ?_)
      · have f69 : (((n : Nat) : Int) < (0)) := e
        exfalso; omega
      · have f70 : ¬ (((n : Nat) : Int) < (0)) := e
        refine w_pl (pc' := 12) (lv' := [(3, (0, ((n : Nat) : Int))), (0, (2, ((2 : Nat) : Int))), (1, (0, (o))), (2, (0, (m)))]) (st' := [(2, ((2 : Nat) : Int))]) (h' := h) (o51_7 hB) rfl ?_
        refine w_getf (A := 2) (t := 2) (z := ((12 : Nat) : Int)) (pc' := 15) (o51_8 hB) rfl (by decide +kernel) (hR (2, 17, 12) (by decide)) ?_
        refine w_pl (pc' := 16) (lv' := [(3, (0, ((n : Nat) : Int))), (0, (2, ((2 : Nat) : Int))), (1, (0, (o))), (2, (0, (m)))]) (st' := [(0, ((n : Nat) : Int)), (2, ((12 : Nat) : Int))]) (h' := h) (o51_9 hB) rfl ?_
        have f71 := ty_12_s0 ht (j := n) (r := n) (by omega) (by omega)
        refine w_iald (A := 12) (i := n) (n := 24) (z := (h 12 n)) (pc' := 17) (o51_10 hB) rfl (by decide +kernel) (by omega) rfl ?_
        refine w_pl (pc' := 18) (lv' := [(3, (0, ((n : Nat) : Int))), (0, (2, ((2 : Nat) : Int))), (1, (0, (o))), (2, (0, (m)))]) (st' := [(0, (o)), (0, (h 12 n))]) (h' := h) (o51_11 hB) rfl ?_
        refine w_icmp (pt := 48) (pf := 21) (o51_12 hB) (by decide) rfl (fun e => ?_) (fun e => ?_)
        · have f72 : ((h 12 n) ≠ (o)) := e
          refine w_iinc (x := ((n : Nat) : Int)) (z := (((n : Nat) : Int) + (-1))) (pc' := 51) (lv' := [(3, (0, (((n : Nat) : Int) + (-1)))), (0, (2, ((2 : Nat) : Int))), (1, (0, (o))), (2, (0, (m)))]) (o51_30 hB) rfl rfl ml51 (by decide) (w32_e (by omega) (by omega)) rfl ?_
          refine w_goto (pt := 7) (o51_31 hB) (by decide) ?_
          refine w_sub (lv' := [(3, (0, (((n : Nat) : Int) + (-1)))), (0, (2, ((2 : Nat) : Int))), (1, (0, (o))), (2, (0, (m)))]) (List.forall_mem_cons.mpr ⟨(List.Mem.head _), (List.forall_mem_cons.mpr ⟨(List.Mem.tail _ (List.Mem.head _)), (List.forall_mem_cons.mpr ⟨(List.Mem.tail _ (List.Mem.tail _ (List.Mem.head _))), (List.forall_mem_cons.mpr ⟨(List.Mem.tail _ (List.Mem.tail _ (List.Mem.tail _ (List.Mem.head _)))), (fun _ hx => by cases hx)⟩)⟩)⟩)⟩) ?_
          have e1 : inA h o m (n + 1) = inA h o m n := by
            simp only [inA]
            rw [if_neg (by omega)]
          rw [e1] at hq
          exact ih (by omega) hq
        · have f73 : ¬ ((h 12 n) ≠ (o)) := e
          refine w_pl (pc' := 22) (lv' := [(3, (0, ((n : Nat) : Int))), (0, (2, ((2 : Nat) : Int))), (1, (0, (o))), (2, (0, (m)))]) (st' := [(2, ((2 : Nat) : Int))]) (h' := h) (o51_13 hB) rfl ?_
          refine w_getf (A := 2) (t := 2) (z := ((13 : Nat) : Int)) (pc' := 25) (o51_14 hB) rfl (by decide +kernel) (hR (2, 18, 13) (by decide)) ?_
          refine w_pl (pc' := 26) (lv' := [(3, (0, ((n : Nat) : Int))), (0, (2, ((2 : Nat) : Int))), (1, (0, (o))), (2, (0, (m)))]) (st' := [(0, ((n : Nat) : Int)), (2, ((13 : Nat) : Int))]) (h' := h) (o51_15 hB) rfl ?_
          have f74 := ty_13_s0 ht (j := n) (r := n) (by omega) (by omega)
          refine w_iald (A := 13) (i := n) (n := 24) (z := (h 13 n)) (pc' := 27) (o51_16 hB) rfl (by decide +kernel) (by omega) rfl ?_
          refine w_pl (pc' := 28) (lv' := [(3, (0, ((n : Nat) : Int))), (0, (2, ((2 : Nat) : Int))), (1, (0, (o))), (2, (0, (m)))]) (st' := [(0, (m)), (0, (h 13 n))]) (h' := h) (o51_17 hB) rfl ?_
          refine w_icmp (pt := 48) (pf := 31) (o51_18 hB) (by decide) rfl (fun e => ?_) (fun e => ?_)
          · have f75 : ((m) < (h 13 n)) := e
            refine w_iinc (x := ((n : Nat) : Int)) (z := (((n : Nat) : Int) + (-1))) (pc' := 51) (lv' := [(3, (0, (((n : Nat) : Int) + (-1)))), (0, (2, ((2 : Nat) : Int))), (1, (0, (o))), (2, (0, (m)))]) (o51_30 hB) rfl rfl ml51 (by decide) (w32_e (by omega) (by omega)) rfl ?_
            refine w_goto (pt := 7) (o51_31 hB) (by decide) ?_
            refine w_sub (lv' := [(3, (0, (((n : Nat) : Int) + (-1)))), (0, (2, ((2 : Nat) : Int))), (1, (0, (o))), (2, (0, (m)))]) (List.forall_mem_cons.mpr ⟨(List.Mem.head _), (List.forall_mem_cons.mpr ⟨(List.Mem.tail _ (List.Mem.head _)), (List.forall_mem_cons.mpr ⟨(List.Mem.tail _ (List.Mem.tail _ (List.Mem.head _))), (List.forall_mem_cons.mpr ⟨(List.Mem.tail _ (List.Mem.tail _ (List.Mem.tail _ (List.Mem.head _)))), (fun _ hx => by cases hx)⟩)⟩)⟩)⟩) ?_
            have e1 : inA h o m (n + 1) = inA h o m n := by
              simp only [inA]
              rw [if_neg (by omega)]
            rw [e1] at hq
            exact ih (by omega) hq
          · have f76 : ¬ ((m) < (h 13 n)) := e
            refine w_pl (pc' := 32) (lv' := [(3, (0, ((n : Nat) : Int))), (0, (2, ((2 : Nat) : Int))), (1, (0, (o))), (2, (0, (m)))]) (st' := [(2, ((2 : Nat) : Int))]) (h' := h) (o51_19 hB) rfl ?_
            refine w_getf (A := 2) (t := 0) (z := (h 2 16)) (pc' := 35) (o51_20 hB) rfl (by decide +kernel) rfl ?_
            refine w_pl (pc' := 36) (lv' := [(3, (0, ((n : Nat) : Int))), (0, (2, ((2 : Nat) : Int))), (1, (0, (o))), (2, (0, (m)))]) (st' := [(0, ((n : Nat) : Int)), (0, (h 2 16))]) (h' := h) (o51_21 hB) rfl ?_
            refine w_ishr (z := (shrI (h 2 16) ((n : Nat) : Int))) (pc' := 37) (o51_22 hB) rfl rfl ?_
            refine w_pl (pc' := 38) (lv' := [(3, (0, ((n : Nat) : Int))), (0, (2, ((2 : Nat) : Int))), (1, (0, (o))), (2, (0, (m)))]) (st' := [(0, ((1 : Nat) : Int)), (0, (shrI (h 2 16) ((n : Nat) : Int)))]) (h' := h) (o51_23 hB) rfl ?_
            refine w_iand (z := (andI (shrI (h 2 16) ((n : Nat) : Int)) ((1 : Nat) : Int))) (pc' := 39) (o51_24 hB) rfl rfl ?_
            refine w_ifc (pt := 46) (pf := 42) (o51_25 hB) (by decide) rfl (fun e => ?_) (fun e => ?_)
            · have f77 : ((andI (shrI (h 2 16) ((n : Nat) : Int)) ((1 : Nat) : Int)) = (0)) := e
              refine w_pl (pc' := 47) (lv' := [(3, (0, ((n : Nat) : Int))), (0, (2, ((2 : Nat) : Int))), (1, (0, (o))), (2, (0, (m)))]) (st' := [(0, ((0 : Nat) : Int))]) (h' := h) (o51_28 hB) rfl ?_
              have e1 : inA h o m (n + 1) = 0 := by
                simp only [inA]
                rw [if_pos ⟨by omega, by omega⟩, if_pos (by omega)]
              exact w_zret (o51_29 hB) mr51 (by decide) (qe hq e1)
            · have f78 : ¬ ((andI (shrI (h 2 16) ((n : Nat) : Int)) ((1 : Nat) : Int)) = (0)) := e
              refine w_pl (pc' := 43) (lv' := [(3, (0, ((n : Nat) : Int))), (0, (2, ((2 : Nat) : Int))), (1, (0, (o))), (2, (0, (m)))]) (st' := [(0, ((1 : Nat) : Int))]) (h' := h) (o51_26 hB) rfl ?_
              refine w_goto (pt := 47) (o51_27 hB) (by decide) ?_
              have e1 : inA h o m (n + 1) = 1 := by
                simp only [inA]
                rw [if_pos ⟨by omega, by omega⟩, if_neg (by omega)]
              exact w_zret (o51_29 hB) mr51 (by decide) (qe hq e1)
  refine mh_go hB mg51 ml51 (Nat.le_of_ble_eq_true rfl) ?_
  show HW g l d 51 _ _ 0 [(0, (2, ((2 : Nat) : Int))), (1, (0, (o))), (2, (0, (m)))] [] h
  refine w_pl (pc' := 1) (lv' := [(0, (2, ((2 : Nat) : Int))), (1, (0, (o))), (2, (0, (m)))]) (st' := [(2, ((2 : Nat) : Int))]) (h' := h) (o51_0 hB) rfl ?_
  refine w_getf (A := 2) (t := 0) (z := ((c : Nat) : Int)) (pc' := 4) (o51_1 hB) rfl (by decide +kernel) hc ?_
  refine w_pl (pc' := 5) (lv' := [(0, (2, ((2 : Nat) : Int))), (1, (0, (o))), (2, (0, (m)))]) (st' := [(0, ((1 : Nat) : Int)), (0, ((c : Nat) : Int))]) (h' := h) (o51_2 hB) rfl ?_
  refine w_isub (z := (((c : Nat) : Int) - ((1 : Nat) : Int))) (pc' := 6) (o51_3 hB) rfl (w32_e (by omega) (by omega)) ?_
  refine w_st (tg := 0) (j := 3) (len := 1) (pc' := 7) (lv' := [(3, (0, (((c : Nat) : Int) - ((1 : Nat) : Int)))), (0, (2, ((2 : Nat) : Int))), (1, (0, (o))), (2, (0, (m)))]) (o51_4 hB) rfl rfl ml51 (by decide) rfl ?_
  refine w_sub (lv' := [(3, (0, (((c : Nat) : Int) - ((1 : Nat) : Int)))), (0, (2, ((2 : Nat) : Int))), (1, (0, (o))), (2, (0, (m)))]) (List.forall_mem_cons.mpr ⟨(List.Mem.head _), (List.forall_mem_cons.mpr ⟨(List.Mem.tail _ (List.Mem.head _)), (List.forall_mem_cons.mpr ⟨(List.Mem.tail _ (List.Mem.tail _ (List.Mem.head _))), (List.forall_mem_cons.mpr ⟨(List.Mem.tail _ (List.Mem.tail _ (List.Mem.tail _ (List.Mem.head _)))), (fun _ hx => by cases hx)⟩)⟩)⟩)⟩) ?_
  rw [show ((((c : Nat) : Int) - ((1 : Nat) : Int)) : Int) = ((c : Nat) : Int) + (-1) from by omega]
  exact loop c (Nat.le_refl _) hq
theorem m_isInM (hB : BytesOK) {g : bG} {l : Launch} {d : Nat} {Q : bQ} {h : bH} {o m : Int} {c : Nat} (ht : TH h) (hc : h 194 10 = (c : Int)) (lc : c ≤ 24) (hq : Q (some (0, (inM h o m c).1)) h) : MH g l d 196 212 212 [(2, ((193 : Nat) : Int)), (0, o), (0, m)] h Q := by
  have hR := ht.r
  have loop : ∀ (n b : Nat), b + n = c → HW g l d 196 212 Q 8 [(5, (0, ((b : Nat) : Int))), (4, (0, ((inM h o m b).2))), (3, (0, ((inM h o m b).1))), (0, (2, ((193 : Nat) : Int))), (1, (0, (o))), (2, (0, (m)))] [] h := by
    intro n
    induction n with
    | zero =>
      intro b hb
      have rb := inM_r ht (o := o) (m := m) b (by omega)
      refine w_pl (pc' := 10) (lv' := [(5, (0, ((b : Nat) : Int))), (4, (0, ((inM h o m b).2))), (3, (0, ((inM h o m b).1))), (0, (2, ((193 : Nat) : Int))), (1, (0, (o))), (2, (0, (m)))]) (st' := [(0, ((b : Nat) : Int))]) (h' := h) (o196_6 hB) rfl ?_
      refine w_pl (pc' := 11) (lv' := [(5, (0, ((b : Nat) : Int))), (4, (0, ((inM h o m b).2))), (3, (0, ((inM h o m b).1))), (0, (2, ((193 : Nat) : Int))), (1, (0, (o))), (2, (0, (m)))]) (st' := [(2, ((193 : Nat) : Int)), (0, ((b : Nat) : Int))]) (h' := h) (o196_7 hB) rfl ?_
      refine w_getf (A := 193) (t := 2) (z := ((194 : Nat) : Int)) (pc' := 14) (o196_8 hB) rfl (by decide +kernel) (hR (193, 0, 194) (by decide)) ?_
      refine w_pl (pc' := 16) (lv' := [(5, (0, ((b : Nat) : Int))), (4, (0, ((inM h o m b).2))), (3, (0, ((inM h o m b).1))), (0, (2, ((193 : Nat) : Int))), (1, (0, (o))), (2, (0, (m)))]) (st' := [(0, ((10 : Nat) : Int)), (2, ((194 : Nat) : Int)), (0, ((b : Nat) : Int))]) (h' := h) (o196_9 hB) rfl ?_
      refine w_iald (A := 194) (i := 10) (n := 1984) (z := ((c : Nat) : Int)) (pc' := 17) (o196_10 hB) rfl (by decide +kernel) (by omega) hc ?_
      refine w_icmp (pt := 104) (pf := 20) (o196_11 hB) (by decide) rfl (fun e => ?_) (fun e => ?_)
      · have f79 : (((c : Nat) : Int) ≤ ((b : Nat) : Int)) := e
        refine w_pl (pc' := 105) (lv' := [(5, (0, ((b : Nat) : Int))), (4, (0, ((inM h o m b).2))), (3, (0, ((inM h o m b).1))), (0, (2, ((193 : Nat) : Int))), (1, (0, (o))), (2, (0, (m)))]) (st' := [(0, ((inM h o m b).1))]) (h' := h) (o196_61 hB) rfl ?_
        have e0 : b = c := by omega
        subst e0
        exact w_zret (o196_62 hB) mr196 (by omega) hq
      · have f80 : ¬ (((c : Nat) : Int) ≤ ((b : Nat) : Int)) := e
        exfalso; omega
    | succ n ih =>
      intro b hb
      have rb := inM_r ht (o := o) (m := m) b (by omega)
      refine w_pl (pc' := 10) (lv' := [(5, (0, ((b : Nat) : Int))), (4, (0, ((inM h o m b).2))), (3, (0, ((inM h o m b).1))), (0, (2, ((193 : Nat) : Int))), (1, (0, (o))), (2, (0, (m)))]) (st' := [(0, ((b : Nat) : Int))]) (h' := h) (o196_6 hB) rfl ?_
      refine w_pl (pc' := 11) (lv' := [(5, (0, ((b : Nat) : Int))), (4, (0, ((inM h o m b).2))), (3, (0, ((inM h o m b).1))), (0, (2, ((193 : Nat) : Int))), (1, (0, (o))), (2, (0, (m)))]) (st' := [(2, ((193 : Nat) : Int)), (0, ((b : Nat) : Int))]) (h' := h) (o196_7 hB) rfl ?_
      refine w_getf (A := 193) (t := 2) (z := ((194 : Nat) : Int)) (pc' := 14) (o196_8 hB) rfl (by decide +kernel) (hR (193, 0, 194) (by decide)) ?_
      refine w_pl (pc' := 16) (lv' := [(5, (0, ((b : Nat) : Int))), (4, (0, ((inM h o m b).2))), (3, (0, ((inM h o m b).1))), (0, (2, ((193 : Nat) : Int))), (1, (0, (o))), (2, (0, (m)))]) (st' := [(0, ((10 : Nat) : Int)), (2, ((194 : Nat) : Int)), (0, ((b : Nat) : Int))]) (h' := h) (o196_9 hB) rfl ?_
      refine w_iald (A := 194) (i := 10) (n := 1984) (z := ((c : Nat) : Int)) (pc' := 17) (o196_10 hB) rfl (by decide +kernel) (by omega) hc ?_
      refine w_icmp (pt := 104) (pf := 20) (o196_11 hB) (by decide) rfl (fun e => ?_) (fun e => ?_)
      · have f81 : (((c : Nat) : Int) ≤ ((b : Nat) : Int)) := e
        exfalso; omega
      · have f82 : ¬ (((c : Nat) : Int) ≤ ((b : Nat) : Int)) := e
        refine w_pl (pc' := 23) (lv' := [(5, (0, ((b : Nat) : Int))), (4, (0, ((inM h o m b).2))), (3, (0, ((inM h o m b).1))), (0, (2, ((193 : Nat) : Int))), (1, (0, (o))), (2, (0, (m)))]) (st' := [(0, ((204 : Nat) : Int))]) (h' := h) (o196_12 hB) rfl ?_
        refine w_pl (pc' := 24) (lv' := [(5, (0, ((b : Nat) : Int))), (4, (0, ((inM h o m b).2))), (3, (0, ((inM h o m b).1))), (0, (2, ((193 : Nat) : Int))), (1, (0, (o))), (2, (0, (m)))]) (st' := [(0, ((3 : Nat) : Int)), (0, ((204 : Nat) : Int))]) (h' := h) (o196_13 hB) rfl ?_
        refine w_pl (pc' := 26) (lv' := [(5, (0, ((b : Nat) : Int))), (4, (0, ((inM h o m b).2))), (3, (0, ((inM h o m b).1))), (0, (2, ((193 : Nat) : Int))), (1, (0, (o))), (2, (0, (m)))]) (st' := [(0, ((b : Nat) : Int)), (0, ((3 : Nat) : Int)), (0, ((204 : Nat) : Int))]) (h' := h) (o196_14 hB) rfl ?_
        refine w_imul (z := (((3 * b) : Nat) : Int)) (pc' := 27) (o196_15 hB) rfl (w32_e (by omega) (by omega)) ?_
        refine w_iadd (z := (((204 + (3 * b)) : Nat) : Int)) (pc' := 28) (o196_16 hB) rfl (w32_e (by omega) (by omega)) ?_
        refine w_st (tg := 0) (j := 6) (len := 2) (pc' := 30) (lv' := [(6, (0, (((204 + (3 * b)) : Nat) : Int))), (5, (0, ((b : Nat) : Int))), (4, (0, ((inM h o m b).2))), (3, (0, ((inM h o m b).1))), (0, (2, ((193 : Nat) : Int))), (1, (0, (o))), (2, (0, (m)))]) (o196_17 hB) rfl rfl ml196 (by decide) rfl ?_
        refine w_pl (pc' := 31) (lv' := [(6, (0, (((204 + (3 * b)) : Nat) : Int))), (5, (0, ((b : Nat) : Int))), (4, (0, ((inM h o m b).2))), (3, (0, ((inM h o m b).1))), (0, (2, ((193 : Nat) : Int))), (1, (0, (o))), (2, (0, (m)))]) (st' := [(2, ((193 : Nat) : Int))]) (h' := h) (o196_18 hB) rfl ?_
        refine w_getf (A := 193) (t := 2) (z := ((194 : Nat) : Int)) (pc' := 34) (o196_19 hB) rfl (by decide +kernel) (hR (193, 0, 194) (by decide)) ?_
        refine w_pl (pc' := 36) (lv' := [(6, (0, (((204 + (3 * b)) : Nat) : Int))), (5, (0, ((b : Nat) : Int))), (4, (0, ((inM h o m b).2))), (3, (0, ((inM h o m b).1))), (0, (2, ((193 : Nat) : Int))), (1, (0, (o))), (2, (0, (m)))]) (st' := [(0, (((204 + (3 * b)) : Nat) : Int)), (2, ((194 : Nat) : Int))]) (h' := h) (o196_20 hB) rfl ?_
        have f83 := ty_194_s204 ht (j := (204 + (3 * b))) (r := b) (by omega) (by omega)
        refine w_iald (A := 194) (i := (204 + (3 * b))) (n := 1984) (z := (h 194 (204 + (3 * b)))) (pc' := 37) (o196_21 hB) rfl (by decide +kernel) (by omega) rfl ?_
        refine w_pl (pc' := 38) (lv' := [(6, (0, (((204 + (3 * b)) : Nat) : Int))), (5, (0, ((b : Nat) : Int))), (4, (0, ((inM h o m b).2))), (3, (0, ((inM h o m b).1))), (0, (2, ((193 : Nat) : Int))), (1, (0, (o))), (2, (0, (m)))]) (st' := [(0, (o)), (0, (h 194 (204 + (3 * b))))]) (h' := h) (o196_22 hB) rfl ?_
        refine w_icmp (pt := 98) (pf := 41) (o196_23 hB) (by decide) rfl (fun e => ?_) (fun e => ?_)
        · have f84 : ((h 194 (204 + (3 * b))) ≠ (o)) := e
          refine w_iinc (x := ((b : Nat) : Int)) (z := (((b + 1) : Nat) : Int)) (pc' := 101) (lv' := [(5, (0, (((b + 1) : Nat) : Int))), (6, (0, (((204 + (3 * b)) : Nat) : Int))), (4, (0, ((inM h o m b).2))), (3, (0, ((inM h o m b).1))), (0, (2, ((193 : Nat) : Int))), (1, (0, (o))), (2, (0, (m)))]) (o196_59 hB) rfl rfl ml196 (by decide) (w32_e (by omega) (by omega)) rfl ?_
          refine w_goto (pt := 8) (o196_60 hB) (by decide) ?_
          refine w_sub (lv' := [(5, (0, (((b + 1) : Nat) : Int))), (4, (0, ((inM h o m b).2))), (3, (0, ((inM h o m b).1))), (0, (2, ((193 : Nat) : Int))), (1, (0, (o))), (2, (0, (m)))]) (List.forall_mem_cons.mpr ⟨(List.Mem.head _), (List.forall_mem_cons.mpr ⟨(List.Mem.tail _ (List.Mem.tail _ (List.Mem.head _))), (List.forall_mem_cons.mpr ⟨(List.Mem.tail _ (List.Mem.tail _ (List.Mem.tail _ (List.Mem.head _)))), (List.forall_mem_cons.mpr ⟨(List.Mem.tail _ (List.Mem.tail _ (List.Mem.tail _ (List.Mem.tail _ (List.Mem.head _))))), (List.forall_mem_cons.mpr ⟨(List.Mem.tail _ (List.Mem.tail _ (List.Mem.tail _ (List.Mem.tail _ (List.Mem.tail _ (List.Mem.head _)))))), (List.forall_mem_cons.mpr ⟨(List.Mem.tail _ (List.Mem.tail _ (List.Mem.tail _ (List.Mem.tail _ (List.Mem.tail _ (List.Mem.tail _ (List.Mem.head _))))))), (fun _ hx => by cases hx)⟩)⟩)⟩)⟩)⟩)⟩) ?_
          have e1 : inM h o m (b + 1) = (((inM h o m b).1), ((inM h o m b).2)) := by
            simp only [inM]
            rw [if_neg (by omega)]
          rw [show (((inM h o m b).1) : Int) = (inM h o m (b + 1)).1 from by rw [e1], show (((inM h o m b).2) : Int) = (inM h o m (b + 1)).2 from by rw [e1]]
          exact ih (b + 1) (by omega)
        · have f85 : ¬ ((h 194 (204 + (3 * b))) ≠ (o)) := e
          refine w_pl (pc' := 42) (lv' := [(6, (0, (((204 + (3 * b)) : Nat) : Int))), (5, (0, ((b : Nat) : Int))), (4, (0, ((inM h o m b).2))), (3, (0, ((inM h o m b).1))), (0, (2, ((193 : Nat) : Int))), (1, (0, (o))), (2, (0, (m)))]) (st' := [(2, ((193 : Nat) : Int))]) (h' := h) (o196_24 hB) rfl ?_
          refine w_getf (A := 193) (t := 2) (z := ((194 : Nat) : Int)) (pc' := 45) (o196_25 hB) rfl (by decide +kernel) (hR (193, 0, 194) (by decide)) ?_
          refine w_pl (pc' := 47) (lv' := [(6, (0, (((204 + (3 * b)) : Nat) : Int))), (5, (0, ((b : Nat) : Int))), (4, (0, ((inM h o m b).2))), (3, (0, ((inM h o m b).1))), (0, (2, ((193 : Nat) : Int))), (1, (0, (o))), (2, (0, (m)))]) (st' := [(0, (((204 + (3 * b)) : Nat) : Int)), (2, ((194 : Nat) : Int))]) (h' := h) (o196_26 hB) rfl ?_
          refine w_pl (pc' := 48) (lv' := [(6, (0, (((204 + (3 * b)) : Nat) : Int))), (5, (0, ((b : Nat) : Int))), (4, (0, ((inM h o m b).2))), (3, (0, ((inM h o m b).1))), (0, (2, ((193 : Nat) : Int))), (1, (0, (o))), (2, (0, (m)))]) (st' := [(0, ((2 : Nat) : Int)), (0, (((204 + (3 * b)) : Nat) : Int)), (2, ((194 : Nat) : Int))]) (h' := h) (o196_27 hB) rfl ?_
          refine w_iadd (z := ((((204 + (3 * b)) + 2) : Nat) : Int)) (pc' := 49) (o196_28 hB) rfl (w32_e (by omega) (by omega)) ?_
          have f86 := ty_194_s206 ht (j := ((204 + (3 * b)) + 2)) (r := b) (by omega) (by omega)
          refine w_iald (A := 194) (i := ((204 + (3 * b)) + 2)) (n := 1984) (z := (h 194 ((204 + (3 * b)) + 2))) (pc' := 50) (o196_29 hB) rfl (by decide +kernel) (by omega) rfl ?_
          refine w_pl (pc' := 51) (lv' := [(6, (0, (((204 + (3 * b)) : Nat) : Int))), (5, (0, ((b : Nat) : Int))), (4, (0, ((inM h o m b).2))), (3, (0, ((inM h o m b).1))), (0, (2, ((193 : Nat) : Int))), (1, (0, (o))), (2, (0, (m)))]) (st' := [(0, (m)), (0, (h 194 ((204 + (3 * b)) + 2)))]) (h' := h) (o196_30 hB) rfl ?_
          refine w_icmp (pt := 98) (pf := 54) (o196_31 hB) (by decide) rfl (fun e => ?_) (fun e => ?_)
          · have f87 : ((m) < (h 194 ((204 + (3 * b)) + 2))) := e
            refine w_iinc (x := ((b : Nat) : Int)) (z := (((b + 1) : Nat) : Int)) (pc' := 101) (lv' := [(5, (0, (((b + 1) : Nat) : Int))), (6, (0, (((204 + (3 * b)) : Nat) : Int))), (4, (0, ((inM h o m b).2))), (3, (0, ((inM h o m b).1))), (0, (2, ((193 : Nat) : Int))), (1, (0, (o))), (2, (0, (m)))]) (o196_59 hB) rfl rfl ml196 (by decide) (w32_e (by omega) (by omega)) rfl ?_
            refine w_goto (pt := 8) (o196_60 hB) (by decide) ?_
            refine w_sub (lv' := [(5, (0, (((b + 1) : Nat) : Int))), (4, (0, ((inM h o m b).2))), (3, (0, ((inM h o m b).1))), (0, (2, ((193 : Nat) : Int))), (1, (0, (o))), (2, (0, (m)))]) (List.forall_mem_cons.mpr ⟨(List.Mem.head _), (List.forall_mem_cons.mpr ⟨(List.Mem.tail _ (List.Mem.tail _ (List.Mem.head _))), (List.forall_mem_cons.mpr ⟨(List.Mem.tail _ (List.Mem.tail _ (List.Mem.tail _ (List.Mem.head _)))), (List.forall_mem_cons.mpr ⟨(List.Mem.tail _ (List.Mem.tail _ (List.Mem.tail _ (List.Mem.tail _ (List.Mem.head _))))), (List.forall_mem_cons.mpr ⟨(List.Mem.tail _ (List.Mem.tail _ (List.Mem.tail _ (List.Mem.tail _ (List.Mem.tail _ (List.Mem.head _)))))), (List.forall_mem_cons.mpr ⟨(List.Mem.tail _ (List.Mem.tail _ (List.Mem.tail _ (List.Mem.tail _ (List.Mem.tail _ (List.Mem.tail _ (List.Mem.head _))))))), (fun _ hx => by cases hx)⟩)⟩)⟩)⟩)⟩)⟩) ?_
            have e1 : inM h o m (b + 1) = (((inM h o m b).1), ((inM h o m b).2)) := by
              simp only [inM]
              rw [if_neg (by omega)]
            rw [show (((inM h o m b).1) : Int) = (inM h o m (b + 1)).1 from by rw [e1], show (((inM h o m b).2) : Int) = (inM h o m (b + 1)).2 from by rw [e1]]
            exact ih (b + 1) (by omega)
          · have f88 : ¬ ((m) < (h 194 ((204 + (3 * b)) + 2))) := e
            refine w_pl (pc' := 55) (lv' := [(6, (0, (((204 + (3 * b)) : Nat) : Int))), (5, (0, ((b : Nat) : Int))), (4, (0, ((inM h o m b).2))), (3, (0, ((inM h o m b).1))), (0, (2, ((193 : Nat) : Int))), (1, (0, (o))), (2, (0, (m)))]) (st' := [(2, ((193 : Nat) : Int))]) (h' := h) (o196_32 hB) rfl ?_
            refine w_getf (A := 193) (t := 2) (z := ((194 : Nat) : Int)) (pc' := 58) (o196_33 hB) rfl (by decide +kernel) (hR (193, 0, 194) (by decide)) ?_
            refine w_pl (pc' := 60) (lv' := [(6, (0, (((204 + (3 * b)) : Nat) : Int))), (5, (0, ((b : Nat) : Int))), (4, (0, ((inM h o m b).2))), (3, (0, ((inM h o m b).1))), (0, (2, ((193 : Nat) : Int))), (1, (0, (o))), (2, (0, (m)))]) (st' := [(0, (((204 + (3 * b)) : Nat) : Int)), (2, ((194 : Nat) : Int))]) (h' := h) (o196_34 hB) rfl ?_
            refine w_pl (pc' := 61) (lv' := [(6, (0, (((204 + (3 * b)) : Nat) : Int))), (5, (0, ((b : Nat) : Int))), (4, (0, ((inM h o m b).2))), (3, (0, ((inM h o m b).1))), (0, (2, ((193 : Nat) : Int))), (1, (0, (o))), (2, (0, (m)))]) (st' := [(0, ((2 : Nat) : Int)), (0, (((204 + (3 * b)) : Nat) : Int)), (2, ((194 : Nat) : Int))]) (h' := h) (o196_35 hB) rfl ?_
            refine w_iadd (z := ((((204 + (3 * b)) + 2) : Nat) : Int)) (pc' := 62) (o196_36 hB) rfl (w32_e (by omega) (by omega)) ?_
            have f89 := ty_194_s206 ht (j := ((204 + (3 * b)) + 2)) (r := b) (by omega) (by omega)
            refine w_iald (A := 194) (i := ((204 + (3 * b)) + 2)) (n := 1984) (z := (h 194 ((204 + (3 * b)) + 2))) (pc' := 63) (o196_37 hB) rfl (by decide +kernel) (by omega) rfl ?_
            refine w_pl (pc' := 65) (lv' := [(6, (0, (((204 + (3 * b)) : Nat) : Int))), (5, (0, ((b : Nat) : Int))), (4, (0, ((inM h o m b).2))), (3, (0, ((inM h o m b).1))), (0, (2, ((193 : Nat) : Int))), (1, (0, (o))), (2, (0, (m)))]) (st' := [(0, ((inM h o m b).2)), (0, (h 194 ((204 + (3 * b)) + 2)))]) (h' := h) (o196_38 hB) rfl ?_
            refine w_icmp (pt := 98) (pf := 68) (o196_39 hB) (by decide) rfl (fun e => ?_) (fun e => ?_)
            · have f90 : ((h 194 ((204 + (3 * b)) + 2)) < ((inM h o m b).2)) := e
              refine w_iinc (x := ((b : Nat) : Int)) (z := (((b + 1) : Nat) : Int)) (pc' := 101) (lv' := [(5, (0, (((b + 1) : Nat) : Int))), (6, (0, (((204 + (3 * b)) : Nat) : Int))), (4, (0, ((inM h o m b).2))), (3, (0, ((inM h o m b).1))), (0, (2, ((193 : Nat) : Int))), (1, (0, (o))), (2, (0, (m)))]) (o196_59 hB) rfl rfl ml196 (by decide) (w32_e (by omega) (by omega)) rfl ?_
              refine w_goto (pt := 8) (o196_60 hB) (by decide) ?_
              refine w_sub (lv' := [(5, (0, (((b + 1) : Nat) : Int))), (4, (0, ((inM h o m b).2))), (3, (0, ((inM h o m b).1))), (0, (2, ((193 : Nat) : Int))), (1, (0, (o))), (2, (0, (m)))]) (List.forall_mem_cons.mpr ⟨(List.Mem.head _), (List.forall_mem_cons.mpr ⟨(List.Mem.tail _ (List.Mem.tail _ (List.Mem.head _))), (List.forall_mem_cons.mpr ⟨(List.Mem.tail _ (List.Mem.tail _ (List.Mem.tail _ (List.Mem.head _)))), (List.forall_mem_cons.mpr ⟨(List.Mem.tail _ (List.Mem.tail _ (List.Mem.tail _ (List.Mem.tail _ (List.Mem.head _))))), (List.forall_mem_cons.mpr ⟨(List.Mem.tail _ (List.Mem.tail _ (List.Mem.tail _ (List.Mem.tail _ (List.Mem.tail _ (List.Mem.head _)))))), (List.forall_mem_cons.mpr ⟨(List.Mem.tail _ (List.Mem.tail _ (List.Mem.tail _ (List.Mem.tail _ (List.Mem.tail _ (List.Mem.tail _ (List.Mem.head _))))))), (fun _ hx => by cases hx)⟩)⟩)⟩)⟩)⟩)⟩) ?_
              have e1 : inM h o m (b + 1) = (((inM h o m b).1), ((inM h o m b).2)) := by
                simp only [inM]
                rw [if_neg (by omega)]
              rw [show (((inM h o m b).1) : Int) = (inM h o m (b + 1)).1 from by rw [e1], show (((inM h o m b).2) : Int) = (inM h o m (b + 1)).2 from by rw [e1]]
              exact ih (b + 1) (by omega)
            · have f91 : ¬ ((h 194 ((204 + (3 * b)) + 2)) < ((inM h o m b).2)) := e
              refine w_pl (pc' := 69) (lv' := [(6, (0, (((204 + (3 * b)) : Nat) : Int))), (5, (0, ((b : Nat) : Int))), (4, (0, ((inM h o m b).2))), (3, (0, ((inM h o m b).1))), (0, (2, ((193 : Nat) : Int))), (1, (0, (o))), (2, (0, (m)))]) (st' := [(2, ((193 : Nat) : Int))]) (h' := h) (o196_40 hB) rfl ?_
              refine w_getf (A := 193) (t := 2) (z := ((194 : Nat) : Int)) (pc' := 72) (o196_41 hB) rfl (by decide +kernel) (hR (193, 0, 194) (by decide)) ?_
              refine w_pl (pc' := 74) (lv' := [(6, (0, (((204 + (3 * b)) : Nat) : Int))), (5, (0, ((b : Nat) : Int))), (4, (0, ((inM h o m b).2))), (3, (0, ((inM h o m b).1))), (0, (2, ((193 : Nat) : Int))), (1, (0, (o))), (2, (0, (m)))]) (st' := [(0, (((204 + (3 * b)) : Nat) : Int)), (2, ((194 : Nat) : Int))]) (h' := h) (o196_42 hB) rfl ?_
              refine w_pl (pc' := 75) (lv' := [(6, (0, (((204 + (3 * b)) : Nat) : Int))), (5, (0, ((b : Nat) : Int))), (4, (0, ((inM h o m b).2))), (3, (0, ((inM h o m b).1))), (0, (2, ((193 : Nat) : Int))), (1, (0, (o))), (2, (0, (m)))]) (st' := [(0, ((1 : Nat) : Int)), (0, (((204 + (3 * b)) : Nat) : Int)), (2, ((194 : Nat) : Int))]) (h' := h) (o196_43 hB) rfl ?_
              refine w_iadd (z := ((((204 + (3 * b)) + 1) : Nat) : Int)) (pc' := 76) (o196_44 hB) rfl (w32_e (by omega) (by omega)) ?_
              have f92 := ty_194_s205 ht (j := ((204 + (3 * b)) + 1)) (r := b) (by omega) (by omega)
              refine w_iald (A := 194) (i := ((204 + (3 * b)) + 1)) (n := 1984) (z := (h 194 ((204 + (3 * b)) + 1))) (pc' := 77) (o196_45 hB) rfl (by decide +kernel) (by omega) rfl ?_
              refine w_pl (pc' := 78) (lv' := [(6, (0, (((204 + (3 * b)) : Nat) : Int))), (5, (0, ((b : Nat) : Int))), (4, (0, ((inM h o m b).2))), (3, (0, ((inM h o m b).1))), (0, (2, ((193 : Nat) : Int))), (1, (0, (o))), (2, (0, (m)))]) (st' := [(0, ((1 : Nat) : Int)), (0, (h 194 ((204 + (3 * b)) + 1)))]) (h' := h) (o196_46 hB) rfl ?_
              refine w_icmp (pt := 85) (pf := 81) (o196_47 hB) (by decide) rfl (fun e => ?_) (fun e => ?_)
              · have f93 : ((h 194 ((204 + (3 * b)) + 1)) ≠ ((1 : Nat) : Int)) := e
                refine w_pl (pc' := 86) (lv' := [(6, (0, (((204 + (3 * b)) : Nat) : Int))), (5, (0, ((b : Nat) : Int))), (4, (0, ((inM h o m b).2))), (3, (0, ((inM h o m b).1))), (0, (2, ((193 : Nat) : Int))), (1, (0, (o))), (2, (0, (m)))]) (st' := [(0, ((0 : Nat) : Int))]) (h' := h) (o196_50 hB) rfl ?_
                refine w_st (tg := 0) (j := 3) (len := 1) (pc' := 87) (lv' := [(3, (0, ((0 : Nat) : Int))), (6, (0, (((204 + (3 * b)) : Nat) : Int))), (5, (0, ((b : Nat) : Int))), (4, (0, ((inM h o m b).2))), (0, (2, ((193 : Nat) : Int))), (1, (0, (o))), (2, (0, (m)))]) (o196_51 hB) rfl rfl ml196 (by decide) rfl ?_
                refine w_pl (pc' := 88) (lv' := [(3, (0, ((0 : Nat) : Int))), (6, (0, (((204 + (3 * b)) : Nat) : Int))), (5, (0, ((b : Nat) : Int))), (4, (0, ((inM h o m b).2))), (0, (2, ((193 : Nat) : Int))), (1, (0, (o))), (2, (0, (m)))]) (st' := [(2, ((193 : Nat) : Int))]) (h' := h) (o196_52 hB) rfl ?_
                refine w_getf (A := 193) (t := 2) (z := ((194 : Nat) : Int)) (pc' := 91) (o196_53 hB) rfl (by decide +kernel) (hR (193, 0, 194) (by decide)) ?_
                refine w_pl (pc' := 93) (lv' := [(3, (0, ((0 : Nat) : Int))), (6, (0, (((204 + (3 * b)) : Nat) : Int))), (5, (0, ((b : Nat) : Int))), (4, (0, ((inM h o m b).2))), (0, (2, ((193 : Nat) : Int))), (1, (0, (o))), (2, (0, (m)))]) (st' := [(0, (((204 + (3 * b)) : Nat) : Int)), (2, ((194 : Nat) : Int))]) (h' := h) (o196_54 hB) rfl ?_
                refine w_pl (pc' := 94) (lv' := [(3, (0, ((0 : Nat) : Int))), (6, (0, (((204 + (3 * b)) : Nat) : Int))), (5, (0, ((b : Nat) : Int))), (4, (0, ((inM h o m b).2))), (0, (2, ((193 : Nat) : Int))), (1, (0, (o))), (2, (0, (m)))]) (st' := [(0, ((2 : Nat) : Int)), (0, (((204 + (3 * b)) : Nat) : Int)), (2, ((194 : Nat) : Int))]) (h' := h) (o196_55 hB) rfl ?_
                refine w_iadd (z := ((((204 + (3 * b)) + 2) : Nat) : Int)) (pc' := 95) (o196_56 hB) rfl (w32_e (by omega) (by omega)) ?_
                have f94 := ty_194_s206 ht (j := ((204 + (3 * b)) + 2)) (r := b) (by omega) (by omega)
                refine w_iald (A := 194) (i := ((204 + (3 * b)) + 2)) (n := 1984) (z := (h 194 ((204 + (3 * b)) + 2))) (pc' := 96) (o196_57 hB) rfl (by decide +kernel) (by omega) rfl ?_
                refine w_st (tg := 0) (j := 4) (len := 2) (pc' := 98) (lv' := [(4, (0, (h 194 ((204 + (3 * b)) + 2)))), (3, (0, ((0 : Nat) : Int))), (6, (0, (((204 + (3 * b)) : Nat) : Int))), (5, (0, ((b : Nat) : Int))), (0, (2, ((193 : Nat) : Int))), (1, (0, (o))), (2, (0, (m)))]) (o196_58 hB) rfl rfl ml196 (by decide) rfl ?_
                refine w_iinc (x := ((b : Nat) : Int)) (z := (((b + 1) : Nat) : Int)) (pc' := 101) (lv' := [(5, (0, (((b + 1) : Nat) : Int))), (4, (0, (h 194 ((204 + (3 * b)) + 2)))), (3, (0, ((0 : Nat) : Int))), (6, (0, (((204 + (3 * b)) : Nat) : Int))), (0, (2, ((193 : Nat) : Int))), (1, (0, (o))), (2, (0, (m)))]) (o196_59 hB) rfl rfl ml196 (by decide) (w32_e (by omega) (by omega)) rfl ?_
                refine w_goto (pt := 8) (o196_60 hB) (by decide) ?_
                refine w_sub (lv' := [(5, (0, (((b + 1) : Nat) : Int))), (4, (0, (h 194 ((204 + (3 * b)) + 2)))), (3, (0, ((0 : Nat) : Int))), (0, (2, ((193 : Nat) : Int))), (1, (0, (o))), (2, (0, (m)))]) (List.forall_mem_cons.mpr ⟨(List.Mem.head _), (List.forall_mem_cons.mpr ⟨(List.Mem.tail _ (List.Mem.head _)), (List.forall_mem_cons.mpr ⟨(List.Mem.tail _ (List.Mem.tail _ (List.Mem.head _))), (List.forall_mem_cons.mpr ⟨(List.Mem.tail _ (List.Mem.tail _ (List.Mem.tail _ (List.Mem.tail _ (List.Mem.head _))))), (List.forall_mem_cons.mpr ⟨(List.Mem.tail _ (List.Mem.tail _ (List.Mem.tail _ (List.Mem.tail _ (List.Mem.tail _ (List.Mem.head _)))))), (List.forall_mem_cons.mpr ⟨(List.Mem.tail _ (List.Mem.tail _ (List.Mem.tail _ (List.Mem.tail _ (List.Mem.tail _ (List.Mem.tail _ (List.Mem.head _))))))), (fun _ hx => by cases hx)⟩)⟩)⟩)⟩)⟩)⟩) ?_
                have e1 : inM h o m (b + 1) = (((0 : Nat) : Int), (h 194 ((204 + (3 * b)) + 2))) := by
                  simp only [inM]
                  rw [if_pos ⟨by omega, by omega, by omega⟩, if_neg (by omega)]
                  rfl
                rw [show (((0 : Nat) : Int) : Int) = (inM h o m (b + 1)).1 from by rw [e1], show ((h 194 ((204 + (3 * b)) + 2)) : Int) = (inM h o m (b + 1)).2 from by rw [e1]]
                exact ih (b + 1) (by omega)
              · have f95 : ¬ ((h 194 ((204 + (3 * b)) + 1)) ≠ ((1 : Nat) : Int)) := e
                refine w_pl (pc' := 82) (lv' := [(6, (0, (((204 + (3 * b)) : Nat) : Int))), (5, (0, ((b : Nat) : Int))), (4, (0, ((inM h o m b).2))), (3, (0, ((inM h o m b).1))), (0, (2, ((193 : Nat) : Int))), (1, (0, (o))), (2, (0, (m)))]) (st' := [(0, ((1 : Nat) : Int))]) (h' := h) (o196_48 hB) rfl ?_
                refine w_goto (pt := 86) (o196_49 hB) (by decide) ?_
                refine w_st (tg := 0) (j := 3) (len := 1) (pc' := 87) (lv' := [(3, (0, ((1 : Nat) : Int))), (6, (0, (((204 + (3 * b)) : Nat) : Int))), (5, (0, ((b : Nat) : Int))), (4, (0, ((inM h o m b).2))), (0, (2, ((193 : Nat) : Int))), (1, (0, (o))), (2, (0, (m)))]) (o196_51 hB) rfl rfl ml196 (by decide) rfl ?_
                refine w_pl (pc' := 88) (lv' := [(3, (0, ((1 : Nat) : Int))), (6, (0, (((204 + (3 * b)) : Nat) : Int))), (5, (0, ((b : Nat) : Int))), (4, (0, ((inM h o m b).2))), (0, (2, ((193 : Nat) : Int))), (1, (0, (o))), (2, (0, (m)))]) (st' := [(2, ((193 : Nat) : Int))]) (h' := h) (o196_52 hB) rfl ?_
                refine w_getf (A := 193) (t := 2) (z := ((194 : Nat) : Int)) (pc' := 91) (o196_53 hB) rfl (by decide +kernel) (hR (193, 0, 194) (by decide)) ?_
                refine w_pl (pc' := 93) (lv' := [(3, (0, ((1 : Nat) : Int))), (6, (0, (((204 + (3 * b)) : Nat) : Int))), (5, (0, ((b : Nat) : Int))), (4, (0, ((inM h o m b).2))), (0, (2, ((193 : Nat) : Int))), (1, (0, (o))), (2, (0, (m)))]) (st' := [(0, (((204 + (3 * b)) : Nat) : Int)), (2, ((194 : Nat) : Int))]) (h' := h) (o196_54 hB) rfl ?_
                refine w_pl (pc' := 94) (lv' := [(3, (0, ((1 : Nat) : Int))), (6, (0, (((204 + (3 * b)) : Nat) : Int))), (5, (0, ((b : Nat) : Int))), (4, (0, ((inM h o m b).2))), (0, (2, ((193 : Nat) : Int))), (1, (0, (o))), (2, (0, (m)))]) (st' := [(0, ((2 : Nat) : Int)), (0, (((204 + (3 * b)) : Nat) : Int)), (2, ((194 : Nat) : Int))]) (h' := h) (o196_55 hB) rfl ?_
                refine w_iadd (z := ((((204 + (3 * b)) + 2) : Nat) : Int)) (pc' := 95) (o196_56 hB) rfl (w32_e (by omega) (by omega)) ?_
                have f96 := ty_194_s206 ht (j := ((204 + (3 * b)) + 2)) (r := b) (by omega) (by omega)
                refine w_iald (A := 194) (i := ((204 + (3 * b)) + 2)) (n := 1984) (z := (h 194 ((204 + (3 * b)) + 2))) (pc' := 96) (o196_57 hB) rfl (by decide +kernel) (by omega) rfl ?_
                refine w_st (tg := 0) (j := 4) (len := 2) (pc' := 98) (lv' := [(4, (0, (h 194 ((204 + (3 * b)) + 2)))), (3, (0, ((1 : Nat) : Int))), (6, (0, (((204 + (3 * b)) : Nat) : Int))), (5, (0, ((b : Nat) : Int))), (0, (2, ((193 : Nat) : Int))), (1, (0, (o))), (2, (0, (m)))]) (o196_58 hB) rfl rfl ml196 (by decide) rfl ?_
                refine w_iinc (x := ((b : Nat) : Int)) (z := (((b + 1) : Nat) : Int)) (pc' := 101) (lv' := [(5, (0, (((b + 1) : Nat) : Int))), (4, (0, (h 194 ((204 + (3 * b)) + 2)))), (3, (0, ((1 : Nat) : Int))), (6, (0, (((204 + (3 * b)) : Nat) : Int))), (0, (2, ((193 : Nat) : Int))), (1, (0, (o))), (2, (0, (m)))]) (o196_59 hB) rfl rfl ml196 (by decide) (w32_e (by omega) (by omega)) rfl ?_
                refine w_goto (pt := 8) (o196_60 hB) (by decide) ?_
                refine w_sub (lv' := [(5, (0, (((b + 1) : Nat) : Int))), (4, (0, (h 194 ((204 + (3 * b)) + 2)))), (3, (0, ((1 : Nat) : Int))), (0, (2, ((193 : Nat) : Int))), (1, (0, (o))), (2, (0, (m)))]) (List.forall_mem_cons.mpr ⟨(List.Mem.head _), (List.forall_mem_cons.mpr ⟨(List.Mem.tail _ (List.Mem.head _)), (List.forall_mem_cons.mpr ⟨(List.Mem.tail _ (List.Mem.tail _ (List.Mem.head _))), (List.forall_mem_cons.mpr ⟨(List.Mem.tail _ (List.Mem.tail _ (List.Mem.tail _ (List.Mem.tail _ (List.Mem.head _))))), (List.forall_mem_cons.mpr ⟨(List.Mem.tail _ (List.Mem.tail _ (List.Mem.tail _ (List.Mem.tail _ (List.Mem.tail _ (List.Mem.head _)))))), (List.forall_mem_cons.mpr ⟨(List.Mem.tail _ (List.Mem.tail _ (List.Mem.tail _ (List.Mem.tail _ (List.Mem.tail _ (List.Mem.tail _ (List.Mem.head _))))))), (fun _ hx => by cases hx)⟩)⟩)⟩)⟩)⟩)⟩) ?_
                have e1 : inM h o m (b + 1) = (((1 : Nat) : Int), (h 194 ((204 + (3 * b)) + 2))) := by
                  simp only [inM]
                  rw [if_pos ⟨by omega, by omega, by omega⟩, if_pos (by omega)]
                  rfl
                rw [show (((1 : Nat) : Int) : Int) = (inM h o m (b + 1)).1 from by rw [e1], show ((h 194 ((204 + (3 * b)) + 2)) : Int) = (inM h o m (b + 1)).2 from by rw [e1]]
                exact ih (b + 1) (by omega)
  refine mh_go hB mg196 ml196 (Nat.le_of_ble_eq_true rfl) ?_
  show HW g l d 196 _ _ 0 [(0, (2, ((193 : Nat) : Int))), (1, (0, (o))), (2, (0, (m)))] [] h
  refine w_pl (pc' := 1) (lv' := [(0, (2, ((193 : Nat) : Int))), (1, (0, (o))), (2, (0, (m)))]) (st' := [(0, ((0 : Nat) : Int))]) (h' := h) (o196_0 hB) rfl ?_
  refine w_st (tg := 0) (j := 3) (len := 1) (pc' := 2) (lv' := [(3, (0, ((0 : Nat) : Int))), (0, (2, ((193 : Nat) : Int))), (1, (0, (o))), (2, (0, (m)))]) (o196_1 hB) rfl rfl ml196 (by decide) rfl ?_
  refine w_pl (pc' := 3) (lv' := [(3, (0, ((0 : Nat) : Int))), (0, (2, ((193 : Nat) : Int))), (1, (0, (o))), (2, (0, (m)))]) (st' := [(0, (-1))]) (h' := h) (o196_2 hB) rfl ?_
  refine w_st (tg := 0) (j := 4) (len := 2) (pc' := 5) (lv' := [(4, (0, (-1))), (3, (0, ((0 : Nat) : Int))), (0, (2, ((193 : Nat) : Int))), (1, (0, (o))), (2, (0, (m)))]) (o196_3 hB) rfl rfl ml196 (by decide) rfl ?_
  refine w_pl (pc' := 6) (lv' := [(4, (0, (-1))), (3, (0, ((0 : Nat) : Int))), (0, (2, ((193 : Nat) : Int))), (1, (0, (o))), (2, (0, (m)))]) (st' := [(0, ((0 : Nat) : Int))]) (h' := h) (o196_4 hB) rfl ?_
  refine w_st (tg := 0) (j := 5) (len := 2) (pc' := 8) (lv' := [(5, (0, ((0 : Nat) : Int))), (4, (0, (-1))), (3, (0, ((0 : Nat) : Int))), (0, (2, ((193 : Nat) : Int))), (1, (0, (o))), (2, (0, (m)))]) (o196_5 hB) rfl rfl ml196 (by decide) rfl ?_
  refine w_sub (lv' := [(5, (0, ((0 : Nat) : Int))), (4, (0, (-1))), (3, (0, ((0 : Nat) : Int))), (0, (2, ((193 : Nat) : Int))), (1, (0, (o))), (2, (0, (m)))]) (List.forall_mem_cons.mpr ⟨(List.Mem.head _), (List.forall_mem_cons.mpr ⟨(List.Mem.tail _ (List.Mem.head _)), (List.forall_mem_cons.mpr ⟨(List.Mem.tail _ (List.Mem.tail _ (List.Mem.head _))), (List.forall_mem_cons.mpr ⟨(List.Mem.tail _ (List.Mem.tail _ (List.Mem.tail _ (List.Mem.head _)))), (List.forall_mem_cons.mpr ⟨(List.Mem.tail _ (List.Mem.tail _ (List.Mem.tail _ (List.Mem.tail _ (List.Mem.head _))))), (List.forall_mem_cons.mpr ⟨(List.Mem.tail _ (List.Mem.tail _ (List.Mem.tail _ (List.Mem.tail _ (List.Mem.tail _ (List.Mem.head _)))))), (fun _ hx => by cases hx)⟩)⟩)⟩)⟩)⟩)⟩) ?_
  exact loop c 0 (by omega)
theorem m_withBit (hB : BytesOK) {g : bG} {l : Launch} {d : Nat} {Q : bQ} {h : bH} {x i s : Int} (h1 : s ≠ 0 → Q (some (0, orI x (shlI 1 i))) h) (h0 : s = 0 → Q (some (0, andI x (xorI (shlI 1 i) (-1)))) h) : MH g l d 49 212 212 [(0, x), (0, i), (0, s)] h Q := by
  refine mh_go hB mg49 ml49 (Nat.le_of_ble_eq_true rfl) ?_
  show HW g l d 49 _ _ 0 [(0, (0, (x))), (1, (0, (i))), (2, (0, (s)))] [] h
  refine w_pl (pc' := 1) (lv' := [(0, (0, (x))), (1, (0, (i))), (2, (0, (s)))]) (st' := [(0, (s))]) (h' := h) (o49_0 hB) rfl ?_
  refine w_ifc (pt := 12) (pf := 4) (o49_1 hB) (by decide) rfl (fun e => ?_) (fun e => ?_)
  · have f97 : ((s) = (0)) := e
    refine w_pl (pc' := 13) (lv' := [(0, (0, (x))), (1, (0, (i))), (2, (0, (s)))]) (st' := [(0, (x))]) (h' := h) (o49_8 hB) rfl ?_
    refine w_pl (pc' := 14) (lv' := [(0, (0, (x))), (1, (0, (i))), (2, (0, (s)))]) (st' := [(0, ((1 : Nat) : Int)), (0, (x))]) (h' := h) (o49_9 hB) rfl ?_
    refine w_pl (pc' := 15) (lv' := [(0, (0, (x))), (1, (0, (i))), (2, (0, (s)))]) (st' := [(0, (i)), (0, ((1 : Nat) : Int)), (0, (x))]) (h' := h) (o49_10 hB) rfl ?_
    refine w_ishl (z := (shlI ((1 : Nat) : Int) (i))) (pc' := 16) (o49_11 hB) rfl rfl ?_
    refine w_pl (pc' := 17) (lv' := [(0, (0, (x))), (1, (0, (i))), (2, (0, (s)))]) (st' := [(0, (-1)), (0, (shlI ((1 : Nat) : Int) (i))), (0, (x))]) (h' := h) (o49_12 hB) rfl ?_
    refine w_ixor (z := (xorI (shlI ((1 : Nat) : Int) (i)) (-1))) (pc' := 18) (o49_13 hB) rfl rfl ?_
    refine w_iand (z := (andI (x) (xorI (shlI ((1 : Nat) : Int) (i)) (-1)))) (pc' := 19) (o49_14 hB) rfl rfl ?_
    exact w_iret (o49_15 hB) mr49 (andI_in _ _) (h0 (by omega))
  · have f98 : ¬ ((s) = (0)) := e
    refine w_pl (pc' := 5) (lv' := [(0, (0, (x))), (1, (0, (i))), (2, (0, (s)))]) (st' := [(0, (x))]) (h' := h) (o49_2 hB) rfl ?_
    refine w_pl (pc' := 6) (lv' := [(0, (0, (x))), (1, (0, (i))), (2, (0, (s)))]) (st' := [(0, ((1 : Nat) : Int)), (0, (x))]) (h' := h) (o49_3 hB) rfl ?_
    refine w_pl (pc' := 7) (lv' := [(0, (0, (x))), (1, (0, (i))), (2, (0, (s)))]) (st' := [(0, (i)), (0, ((1 : Nat) : Int)), (0, (x))]) (h' := h) (o49_4 hB) rfl ?_
    refine w_ishl (z := (shlI ((1 : Nat) : Int) (i))) (pc' := 8) (o49_5 hB) rfl rfl ?_
    refine w_ior (z := (orI (x) (shlI ((1 : Nat) : Int) (i)))) (pc' := 9) (o49_6 hB) rfl rfl ?_
    refine w_goto (pt := 19) (o49_7 hB) (by decide) ?_
    exact w_iret (o49_15 hB) mr49 (orI_in _ _) (h1 (by omega))
theorem m_addJoin (hB : BytesOK) {g : bG} {l : Launch} {d : Nat} {Q : bQ} {h : bH} {o i : Int} (ht : TH h) (z_o : in32 o) (z_i : in32 i) {c : Nat} (hc : h 2 15 = (c : Int)) (lc : c ≤ 24) {w : Int} (hw : h 2 0 = w) {bi : Int} (hbi : h 2 16 = bi)  (a0 : ¬ (0 ≤ o ∧ o ≤ 7) → Q (some (0, (-1))) h) (a1 : (0 ≤ o ∧ o ≤ 7) ∧ c = 24 → Q (some (0, (-2))) h) (a2 : (0 ≤ o ∧ o ≤ 7) ∧ c < 24 ∧ i ≠ 0 → Q (some (0, (inA h o w c))) (hup (hup (hup (hup h 12 (c) (o)) 13 (c) (w)) 2 (16) (orI (bi) (shlI 1 ((c : Nat) : Int)))) 2 (15) (((c + 1) : Nat) : Int))) (a3 : (0 ≤ o ∧ o ≤ 7) ∧ c < 24 ∧ i = 0 → Q (some (0, (inA h o w c))) (hup (hup (hup (hup h 12 (c) (o)) 13 (c) (w)) 2 (16) (andI (bi) (xorI (shlI 1 ((c : Nat) : Int)) (-1)))) 2 (15) (((c + 1) : Nat) : Int))) : MH g l (d + 1) 48 212 212 [(2, ((2 : Nat) : Int)), (0, (o)), (0, (i))] h Q := by
  have hR := ht.r
  have z0_o := z_o
  have z0_i := z_i
  unfold in32 at z0_o
  unfold in32 at z0_i
  have r_w := ty_2_c0 ht
  rw [hw] at r_w
  have r_bi := ty_2_c16 ht
  rw [hbi] at r_bi
  refine mh_go hB mg48 ml48 (Nat.le_of_ble_eq_true rfl) ?_
  show HW g l (d + 1) 48 _ _ 0 [(0, (2, ((2 : Nat) : Int))), (1, (0, (o))), (2, (0, (i)))] [] h
  refine w_pl (pc' := 1) (lv' := [(0, (2, ((2 : Nat) : Int))), (1, (0, (o))), (2, (0, (i)))]) (st' := [(0, (o))]) (h' := h) (o48_0 hB) rfl ?_
  refine w_callS (as := [(0, (o))]) (rest := []) (n := 1) (pc' := 4) hB (o48_1 hB) rfl (by decide +kernel) rfl rfl (Nat.le_of_ble_eq_true rfl) (m_isOwnerB hB (fun f114 => ?_) (fun f115 => ?_))
  · show HW g l _ 48 _ _ 4 [(0, (2, ((2 : Nat) : Int))), (1, (0, (o))), (2, (0, (i)))] [(0, ((1 : Nat) : Int))] h
    refine w_ifc (pt := 9) (pf := 7) (o48_2 hB) (by decide) rfl (fun e => ?_) (fun e => ?_)
    · have f116 : (((1 : Nat) : Int) ≠ (0)) := e
      refine w_pl (pc' := 10) (lv' := [(0, (2, ((2 : Nat) : Int))), (1, (0, (o))), (2, (0, (i)))]) (st' := [(2, ((2 : Nat) : Int))]) (h' := h) (o48_5 hB) rfl ?_
      refine w_getf (A := 2) (t := 0) (z := ((c : Nat) : Int)) (pc' := 13) (o48_6 hB) rfl (by decide +kernel) hc ?_
      refine w_pl (pc' := 15) (lv' := [(0, (2, ((2 : Nat) : Int))), (1, (0, (o))), (2, (0, (i)))]) (st' := [(0, ((24 : Nat) : Int)), (0, ((c : Nat) : Int))]) (h' := h) (o48_7 hB) rfl ?_
      refine w_icmp (pt := 21) (pf := 18) (o48_8 hB) (by decide) rfl (fun e => ?_) (fun e => ?_)
      · have f117 : (((c : Nat) : Int) < ((24 : Nat) : Int)) := e
        refine w_pl (pc' := 22) (lv' := [(0, (2, ((2 : Nat) : Int))), (1, (0, (o))), (2, (0, (i)))]) (st' := [(2, ((2 : Nat) : Int))]) (h' := h) (o48_11 hB) rfl ?_
        refine w_pl (pc' := 23) (lv' := [(0, (2, ((2 : Nat) : Int))), (1, (0, (o))), (2, (0, (i)))]) (st' := [(0, (o)), (2, ((2 : Nat) : Int))]) (h' := h) (o48_12 hB) rfl ?_
        refine w_pl (pc' := 24) (lv' := [(0, (2, ((2 : Nat) : Int))), (1, (0, (o))), (2, (0, (i)))]) (st' := [(2, ((2 : Nat) : Int)), (0, (o)), (2, ((2 : Nat) : Int))]) (h' := h) (o48_13 hB) rfl ?_
        refine w_getf (A := 2) (t := 0) (z := (w)) (pc' := 27) (o48_14 hB) rfl (by decide +kernel) hw ?_
        refine w_callV (A := 2) (as := [(0, (o)), (0, (w))]) (rest := []) (n := 2) (pc' := 30) 3 hB (o48_15 hB) rfl (by decide +kernel) rfl rfl (Nat.le_of_ble_eq_true rfl) (m_isInA hB ht hc lc ?_)
        show HW g l _ 48 _ _ 30 [(0, (2, ((2 : Nat) : Int))), (1, (0, (o))), (2, (0, (i)))] [(0, (inA h (o) (w) c))] h
        refine w_ifc (pt := 37) (pf := 33) (o48_16 hB) (by decide) rfl (fun e => ?_) (fun e => ?_)
        · have f119 : ((inA h (o) (w) c) = (0)) := e
          refine w_pl (pc' := 38) (lv' := [(0, (2, ((2 : Nat) : Int))), (1, (0, (o))), (2, (0, (i)))]) (st' := [(0, ((0 : Nat) : Int))]) (h' := h) (o48_19 hB) rfl ?_
          refine w_st (tg := 0) (j := 3) (len := 1) (pc' := 39) (lv' := [(3, (0, ((0 : Nat) : Int))), (0, (2, ((2 : Nat) : Int))), (1, (0, (o))), (2, (0, (i)))]) (o48_20 hB) rfl rfl ml48 (by decide) rfl ?_
          refine w_pl (pc' := 40) (lv' := [(3, (0, ((0 : Nat) : Int))), (0, (2, ((2 : Nat) : Int))), (1, (0, (o))), (2, (0, (i)))]) (st' := [(2, ((2 : Nat) : Int))]) (h' := h) (o48_21 hB) rfl ?_
          refine w_getf (A := 2) (t := 2) (z := ((12 : Nat) : Int)) (pc' := 43) (o48_22 hB) rfl (by decide +kernel) (hR (2, 17, 12) (by decide)) ?_
          refine w_pl (pc' := 44) (lv' := [(3, (0, ((0 : Nat) : Int))), (0, (2, ((2 : Nat) : Int))), (1, (0, (o))), (2, (0, (i)))]) (st' := [(2, ((2 : Nat) : Int)), (2, ((12 : Nat) : Int))]) (h' := h) (o48_23 hB) rfl ?_
          refine w_getf (A := 2) (t := 0) (z := ((c : Nat) : Int)) (pc' := 47) (o48_24 hB) rfl (by decide +kernel) hc ?_
          refine w_pl (pc' := 48) (lv' := [(3, (0, ((0 : Nat) : Int))), (0, (2, ((2 : Nat) : Int))), (1, (0, (o))), (2, (0, (i)))]) (st' := [(0, (o)), (0, ((c : Nat) : Int)), (2, ((12 : Nat) : Int))]) (h' := h) (o48_25 hB) rfl ?_
          refine w_iast (A := 12) (i := c) (n := 24) (pc' := 49) (o48_26 hB) rfl (by decide +kernel) (by omega) ?_
          refine w_pl (pc' := 50) (lv' := [(3, (0, ((0 : Nat) : Int))), (0, (2, ((2 : Nat) : Int))), (1, (0, (o))), (2, (0, (i)))]) (st' := [(2, ((2 : Nat) : Int))]) (h' := (hup h 12 (c) (o))) (o48_27 hB) rfl ?_
          refine w_getf (A := 2) (t := 2) (z := ((13 : Nat) : Int)) (pc' := 53) (o48_28 hB) rfl (by decide +kernel) ((hup_ne (by decide)).trans (hR (2, 18, 13) (by decide))) ?_
          refine w_pl (pc' := 54) (lv' := [(3, (0, ((0 : Nat) : Int))), (0, (2, ((2 : Nat) : Int))), (1, (0, (o))), (2, (0, (i)))]) (st' := [(2, ((2 : Nat) : Int)), (2, ((13 : Nat) : Int))]) (h' := (hup h 12 (c) (o))) (o48_29 hB) rfl ?_
          refine w_getf (A := 2) (t := 0) (z := ((c : Nat) : Int)) (pc' := 57) (o48_30 hB) rfl (by decide +kernel) ((hup_ne (by decide)).trans hc) ?_
          refine w_pl (pc' := 58) (lv' := [(3, (0, ((0 : Nat) : Int))), (0, (2, ((2 : Nat) : Int))), (1, (0, (o))), (2, (0, (i)))]) (st' := [(2, ((2 : Nat) : Int)), (0, ((c : Nat) : Int)), (2, ((13 : Nat) : Int))]) (h' := (hup h 12 (c) (o))) (o48_31 hB) rfl ?_
          refine w_getf (A := 2) (t := 0) (z := (w)) (pc' := 61) (o48_32 hB) rfl (by decide +kernel) ((hup_ne (by decide)).trans hw) ?_
          refine w_iast (A := 13) (i := c) (n := 24) (pc' := 62) (o48_33 hB) rfl (by decide +kernel) (by omega) ?_
          refine w_pl (pc' := 63) (lv' := [(3, (0, ((0 : Nat) : Int))), (0, (2, ((2 : Nat) : Int))), (1, (0, (o))), (2, (0, (i)))]) (st' := [(2, ((2 : Nat) : Int))]) (h' := (hup (hup h 12 (c) (o)) 13 (c) (w))) (o48_34 hB) rfl ?_
          refine w_pl (pc' := 64) (lv' := [(3, (0, ((0 : Nat) : Int))), (0, (2, ((2 : Nat) : Int))), (1, (0, (o))), (2, (0, (i)))]) (st' := [(2, ((2 : Nat) : Int)), (2, ((2 : Nat) : Int))]) (h' := (hup (hup h 12 (c) (o)) 13 (c) (w))) (o48_35 hB) rfl ?_
          refine w_getf (A := 2) (t := 0) (z := (bi)) (pc' := 67) (o48_36 hB) rfl (by decide +kernel) ((hup_ne (by decide)).trans ((hup_ne (by decide)).trans hbi)) ?_
          refine w_pl (pc' := 68) (lv' := [(3, (0, ((0 : Nat) : Int))), (0, (2, ((2 : Nat) : Int))), (1, (0, (o))), (2, (0, (i)))]) (st' := [(2, ((2 : Nat) : Int)), (0, (bi)), (2, ((2 : Nat) : Int))]) (h' := (hup (hup h 12 (c) (o)) 13 (c) (w))) (o48_37 hB) rfl ?_
          refine w_getf (A := 2) (t := 0) (z := ((c : Nat) : Int)) (pc' := 71) (o48_38 hB) rfl (by decide +kernel) ((hup_ne (by decide)).trans ((hup_ne (by decide)).trans hc)) ?_
          refine w_pl (pc' := 72) (lv' := [(3, (0, ((0 : Nat) : Int))), (0, (2, ((2 : Nat) : Int))), (1, (0, (o))), (2, (0, (i)))]) (st' := [(0, (i)), (0, ((c : Nat) : Int)), (0, (bi)), (2, ((2 : Nat) : Int))]) (h' := (hup (hup h 12 (c) (o)) 13 (c) (w))) (o48_39 hB) rfl ?_
          refine w_callS (as := [(0, (bi)), (0, ((c : Nat) : Int)), (0, (i))]) (rest := [(2, ((2 : Nat) : Int))]) (n := 3) (pc' := 75) hB (o48_40 hB) rfl (by decide +kernel) rfl rfl (Nat.le_of_ble_eq_true rfl) (m_withBit hB (fun f120 => ?_) (fun f121 => ?_))
          · show HW g l _ 48 _ _ 75 [(3, (0, ((0 : Nat) : Int))), (0, (2, ((2 : Nat) : Int))), (1, (0, (o))), (2, (0, (i)))] [(0, (orI (bi) (shlI 1 ((c : Nat) : Int)))), (2, ((2 : Nat) : Int))] (hup (hup h 12 (c) (o)) 13 (c) (w))
            refine w_putf (A := 2) (t := 0) (pc' := 78) (o48_41 hB) rfl (by decide +kernel) ?_
            refine w_pl (pc' := 79) (lv' := [(3, (0, ((0 : Nat) : Int))), (0, (2, ((2 : Nat) : Int))), (1, (0, (o))), (2, (0, (i)))]) (st' := [(2, ((2 : Nat) : Int))]) (h' := (hup (hup (hup h 12 (c) (o)) 13 (c) (w)) 2 (16) (orI (bi) (shlI 1 ((c : Nat) : Int))))) (o48_42 hB) rfl ?_
            refine w_pl (pc' := 80) (lv' := [(3, (0, ((0 : Nat) : Int))), (0, (2, ((2 : Nat) : Int))), (1, (0, (o))), (2, (0, (i)))]) (st' := [(2, ((2 : Nat) : Int)), (2, ((2 : Nat) : Int))]) (h' := (hup (hup (hup h 12 (c) (o)) 13 (c) (w)) 2 (16) (orI (bi) (shlI 1 ((c : Nat) : Int))))) (o48_43 hB) rfl ?_
            refine w_getf (A := 2) (t := 0) (z := ((c : Nat) : Int)) (pc' := 83) (o48_44 hB) rfl (by decide +kernel) ((hup_nj (by omega)).trans ((hup_ne (by decide)).trans ((hup_ne (by decide)).trans hc))) ?_
            refine w_pl (pc' := 84) (lv' := [(3, (0, ((0 : Nat) : Int))), (0, (2, ((2 : Nat) : Int))), (1, (0, (o))), (2, (0, (i)))]) (st' := [(0, ((1 : Nat) : Int)), (0, ((c : Nat) : Int)), (2, ((2 : Nat) : Int))]) (h' := (hup (hup (hup h 12 (c) (o)) 13 (c) (w)) 2 (16) (orI (bi) (shlI 1 ((c : Nat) : Int))))) (o48_45 hB) rfl ?_
            refine w_iadd (z := (((c + 1) : Nat) : Int)) (pc' := 85) (o48_46 hB) rfl (w32_e (by omega) (by omega)) ?_
            refine w_putf (A := 2) (t := 0) (pc' := 88) (o48_47 hB) rfl (by decide +kernel) ?_
            refine w_pl (pc' := 89) (lv' := [(3, (0, ((0 : Nat) : Int))), (0, (2, ((2 : Nat) : Int))), (1, (0, (o))), (2, (0, (i)))]) (st' := [(0, ((0 : Nat) : Int))]) (h' := (hup (hup (hup (hup h 12 (c) (o)) 13 (c) (w)) 2 (16) (orI (bi) (shlI 1 ((c : Nat) : Int)))) 2 (15) (((c + 1) : Nat) : Int))) (o48_48 hB) rfl ?_
            exact w_iret (o48_49 hB) mr48 (by unfold in32; omega) (qe (a2 (by omega)) (by have := inA_r (h := h) (o := o) (m := w) c; omega))
          · show HW g l _ 48 _ _ 75 [(3, (0, ((0 : Nat) : Int))), (0, (2, ((2 : Nat) : Int))), (1, (0, (o))), (2, (0, (i)))] [(0, (andI (bi) (xorI (shlI 1 ((c : Nat) : Int)) (-1)))), (2, ((2 : Nat) : Int))] (hup (hup h 12 (c) (o)) 13 (c) (w))
            refine w_putf (A := 2) (t := 0) (pc' := 78) (o48_41 hB) rfl (by decide +kernel) ?_
            refine w_pl (pc' := 79) (lv' := [(3, (0, ((0 : Nat) : Int))), (0, (2, ((2 : Nat) : Int))), (1, (0, (o))), (2, (0, (i)))]) (st' := [(2, ((2 : Nat) : Int))]) (h' := (hup (hup (hup h 12 (c) (o)) 13 (c) (w)) 2 (16) (andI (bi) (xorI (shlI 1 ((c : Nat) : Int)) (-1))))) (o48_42 hB) rfl ?_
            refine w_pl (pc' := 80) (lv' := [(3, (0, ((0 : Nat) : Int))), (0, (2, ((2 : Nat) : Int))), (1, (0, (o))), (2, (0, (i)))]) (st' := [(2, ((2 : Nat) : Int)), (2, ((2 : Nat) : Int))]) (h' := (hup (hup (hup h 12 (c) (o)) 13 (c) (w)) 2 (16) (andI (bi) (xorI (shlI 1 ((c : Nat) : Int)) (-1))))) (o48_43 hB) rfl ?_
            refine w_getf (A := 2) (t := 0) (z := ((c : Nat) : Int)) (pc' := 83) (o48_44 hB) rfl (by decide +kernel) ((hup_nj (by omega)).trans ((hup_ne (by decide)).trans ((hup_ne (by decide)).trans hc))) ?_
            refine w_pl (pc' := 84) (lv' := [(3, (0, ((0 : Nat) : Int))), (0, (2, ((2 : Nat) : Int))), (1, (0, (o))), (2, (0, (i)))]) (st' := [(0, ((1 : Nat) : Int)), (0, ((c : Nat) : Int)), (2, ((2 : Nat) : Int))]) (h' := (hup (hup (hup h 12 (c) (o)) 13 (c) (w)) 2 (16) (andI (bi) (xorI (shlI 1 ((c : Nat) : Int)) (-1))))) (o48_45 hB) rfl ?_
            refine w_iadd (z := (((c + 1) : Nat) : Int)) (pc' := 85) (o48_46 hB) rfl (w32_e (by omega) (by omega)) ?_
            refine w_putf (A := 2) (t := 0) (pc' := 88) (o48_47 hB) rfl (by decide +kernel) ?_
            refine w_pl (pc' := 89) (lv' := [(3, (0, ((0 : Nat) : Int))), (0, (2, ((2 : Nat) : Int))), (1, (0, (o))), (2, (0, (i)))]) (st' := [(0, ((0 : Nat) : Int))]) (h' := (hup (hup (hup (hup h 12 (c) (o)) 13 (c) (w)) 2 (16) (andI (bi) (xorI (shlI 1 ((c : Nat) : Int)) (-1)))) 2 (15) (((c + 1) : Nat) : Int))) (o48_48 hB) rfl ?_
            exact w_iret (o48_49 hB) mr48 (by unfold in32; omega) (qe (a3 (by omega)) (by have := inA_r (h := h) (o := o) (m := w) c; omega))
        · have f122 : ¬ ((inA h (o) (w) c) = (0)) := e
          refine w_pl (pc' := 34) (lv' := [(0, (2, ((2 : Nat) : Int))), (1, (0, (o))), (2, (0, (i)))]) (st' := [(0, ((1 : Nat) : Int))]) (h' := h) (o48_17 hB) rfl ?_
          refine w_goto (pt := 38) (o48_18 hB) (by decide) ?_
          refine w_st (tg := 0) (j := 3) (len := 1) (pc' := 39) (lv' := [(3, (0, ((1 : Nat) : Int))), (0, (2, ((2 : Nat) : Int))), (1, (0, (o))), (2, (0, (i)))]) (o48_20 hB) rfl rfl ml48 (by decide) rfl ?_
          refine w_pl (pc' := 40) (lv' := [(3, (0, ((1 : Nat) : Int))), (0, (2, ((2 : Nat) : Int))), (1, (0, (o))), (2, (0, (i)))]) (st' := [(2, ((2 : Nat) : Int))]) (h' := h) (o48_21 hB) rfl ?_
          refine w_getf (A := 2) (t := 2) (z := ((12 : Nat) : Int)) (pc' := 43) (o48_22 hB) rfl (by decide +kernel) (hR (2, 17, 12) (by decide)) ?_
          refine w_pl (pc' := 44) (lv' := [(3, (0, ((1 : Nat) : Int))), (0, (2, ((2 : Nat) : Int))), (1, (0, (o))), (2, (0, (i)))]) (st' := [(2, ((2 : Nat) : Int)), (2, ((12 : Nat) : Int))]) (h' := h) (o48_23 hB) rfl ?_
          refine w_getf (A := 2) (t := 0) (z := ((c : Nat) : Int)) (pc' := 47) (o48_24 hB) rfl (by decide +kernel) hc ?_
          refine w_pl (pc' := 48) (lv' := [(3, (0, ((1 : Nat) : Int))), (0, (2, ((2 : Nat) : Int))), (1, (0, (o))), (2, (0, (i)))]) (st' := [(0, (o)), (0, ((c : Nat) : Int)), (2, ((12 : Nat) : Int))]) (h' := h) (o48_25 hB) rfl ?_
          refine w_iast (A := 12) (i := c) (n := 24) (pc' := 49) (o48_26 hB) rfl (by decide +kernel) (by omega) ?_
          refine w_pl (pc' := 50) (lv' := [(3, (0, ((1 : Nat) : Int))), (0, (2, ((2 : Nat) : Int))), (1, (0, (o))), (2, (0, (i)))]) (st' := [(2, ((2 : Nat) : Int))]) (h' := (hup h 12 (c) (o))) (o48_27 hB) rfl ?_
          refine w_getf (A := 2) (t := 2) (z := ((13 : Nat) : Int)) (pc' := 53) (o48_28 hB) rfl (by decide +kernel) ((hup_ne (by decide)).trans (hR (2, 18, 13) (by decide))) ?_
          refine w_pl (pc' := 54) (lv' := [(3, (0, ((1 : Nat) : Int))), (0, (2, ((2 : Nat) : Int))), (1, (0, (o))), (2, (0, (i)))]) (st' := [(2, ((2 : Nat) : Int)), (2, ((13 : Nat) : Int))]) (h' := (hup h 12 (c) (o))) (o48_29 hB) rfl ?_
          refine w_getf (A := 2) (t := 0) (z := ((c : Nat) : Int)) (pc' := 57) (o48_30 hB) rfl (by decide +kernel) ((hup_ne (by decide)).trans hc) ?_
          refine w_pl (pc' := 58) (lv' := [(3, (0, ((1 : Nat) : Int))), (0, (2, ((2 : Nat) : Int))), (1, (0, (o))), (2, (0, (i)))]) (st' := [(2, ((2 : Nat) : Int)), (0, ((c : Nat) : Int)), (2, ((13 : Nat) : Int))]) (h' := (hup h 12 (c) (o))) (o48_31 hB) rfl ?_
          refine w_getf (A := 2) (t := 0) (z := (w)) (pc' := 61) (o48_32 hB) rfl (by decide +kernel) ((hup_ne (by decide)).trans hw) ?_
          refine w_iast (A := 13) (i := c) (n := 24) (pc' := 62) (o48_33 hB) rfl (by decide +kernel) (by omega) ?_
          refine w_pl (pc' := 63) (lv' := [(3, (0, ((1 : Nat) : Int))), (0, (2, ((2 : Nat) : Int))), (1, (0, (o))), (2, (0, (i)))]) (st' := [(2, ((2 : Nat) : Int))]) (h' := (hup (hup h 12 (c) (o)) 13 (c) (w))) (o48_34 hB) rfl ?_
          refine w_pl (pc' := 64) (lv' := [(3, (0, ((1 : Nat) : Int))), (0, (2, ((2 : Nat) : Int))), (1, (0, (o))), (2, (0, (i)))]) (st' := [(2, ((2 : Nat) : Int)), (2, ((2 : Nat) : Int))]) (h' := (hup (hup h 12 (c) (o)) 13 (c) (w))) (o48_35 hB) rfl ?_
          refine w_getf (A := 2) (t := 0) (z := (bi)) (pc' := 67) (o48_36 hB) rfl (by decide +kernel) ((hup_ne (by decide)).trans ((hup_ne (by decide)).trans hbi)) ?_
          refine w_pl (pc' := 68) (lv' := [(3, (0, ((1 : Nat) : Int))), (0, (2, ((2 : Nat) : Int))), (1, (0, (o))), (2, (0, (i)))]) (st' := [(2, ((2 : Nat) : Int)), (0, (bi)), (2, ((2 : Nat) : Int))]) (h' := (hup (hup h 12 (c) (o)) 13 (c) (w))) (o48_37 hB) rfl ?_
          refine w_getf (A := 2) (t := 0) (z := ((c : Nat) : Int)) (pc' := 71) (o48_38 hB) rfl (by decide +kernel) ((hup_ne (by decide)).trans ((hup_ne (by decide)).trans hc)) ?_
          refine w_pl (pc' := 72) (lv' := [(3, (0, ((1 : Nat) : Int))), (0, (2, ((2 : Nat) : Int))), (1, (0, (o))), (2, (0, (i)))]) (st' := [(0, (i)), (0, ((c : Nat) : Int)), (0, (bi)), (2, ((2 : Nat) : Int))]) (h' := (hup (hup h 12 (c) (o)) 13 (c) (w))) (o48_39 hB) rfl ?_
          refine w_callS (as := [(0, (bi)), (0, ((c : Nat) : Int)), (0, (i))]) (rest := [(2, ((2 : Nat) : Int))]) (n := 3) (pc' := 75) hB (o48_40 hB) rfl (by decide +kernel) rfl rfl (Nat.le_of_ble_eq_true rfl) (m_withBit hB (fun f123 => ?_) (fun f124 => ?_))
          · show HW g l _ 48 _ _ 75 [(3, (0, ((1 : Nat) : Int))), (0, (2, ((2 : Nat) : Int))), (1, (0, (o))), (2, (0, (i)))] [(0, (orI (bi) (shlI 1 ((c : Nat) : Int)))), (2, ((2 : Nat) : Int))] (hup (hup h 12 (c) (o)) 13 (c) (w))
            refine w_putf (A := 2) (t := 0) (pc' := 78) (o48_41 hB) rfl (by decide +kernel) ?_
            refine w_pl (pc' := 79) (lv' := [(3, (0, ((1 : Nat) : Int))), (0, (2, ((2 : Nat) : Int))), (1, (0, (o))), (2, (0, (i)))]) (st' := [(2, ((2 : Nat) : Int))]) (h' := (hup (hup (hup h 12 (c) (o)) 13 (c) (w)) 2 (16) (orI (bi) (shlI 1 ((c : Nat) : Int))))) (o48_42 hB) rfl ?_
            refine w_pl (pc' := 80) (lv' := [(3, (0, ((1 : Nat) : Int))), (0, (2, ((2 : Nat) : Int))), (1, (0, (o))), (2, (0, (i)))]) (st' := [(2, ((2 : Nat) : Int)), (2, ((2 : Nat) : Int))]) (h' := (hup (hup (hup h 12 (c) (o)) 13 (c) (w)) 2 (16) (orI (bi) (shlI 1 ((c : Nat) : Int))))) (o48_43 hB) rfl ?_
            refine w_getf (A := 2) (t := 0) (z := ((c : Nat) : Int)) (pc' := 83) (o48_44 hB) rfl (by decide +kernel) ((hup_nj (by omega)).trans ((hup_ne (by decide)).trans ((hup_ne (by decide)).trans hc))) ?_
            refine w_pl (pc' := 84) (lv' := [(3, (0, ((1 : Nat) : Int))), (0, (2, ((2 : Nat) : Int))), (1, (0, (o))), (2, (0, (i)))]) (st' := [(0, ((1 : Nat) : Int)), (0, ((c : Nat) : Int)), (2, ((2 : Nat) : Int))]) (h' := (hup (hup (hup h 12 (c) (o)) 13 (c) (w)) 2 (16) (orI (bi) (shlI 1 ((c : Nat) : Int))))) (o48_45 hB) rfl ?_
            refine w_iadd (z := (((c + 1) : Nat) : Int)) (pc' := 85) (o48_46 hB) rfl (w32_e (by omega) (by omega)) ?_
            refine w_putf (A := 2) (t := 0) (pc' := 88) (o48_47 hB) rfl (by decide +kernel) ?_
            refine w_pl (pc' := 89) (lv' := [(3, (0, ((1 : Nat) : Int))), (0, (2, ((2 : Nat) : Int))), (1, (0, (o))), (2, (0, (i)))]) (st' := [(0, ((1 : Nat) : Int))]) (h' := (hup (hup (hup (hup h 12 (c) (o)) 13 (c) (w)) 2 (16) (orI (bi) (shlI 1 ((c : Nat) : Int)))) 2 (15) (((c + 1) : Nat) : Int))) (o48_48 hB) rfl ?_
            exact w_iret (o48_49 hB) mr48 (by unfold in32; omega) (qe (a2 (by omega)) (by have := inA_r (h := h) (o := o) (m := w) c; omega))
          · show HW g l _ 48 _ _ 75 [(3, (0, ((1 : Nat) : Int))), (0, (2, ((2 : Nat) : Int))), (1, (0, (o))), (2, (0, (i)))] [(0, (andI (bi) (xorI (shlI 1 ((c : Nat) : Int)) (-1)))), (2, ((2 : Nat) : Int))] (hup (hup h 12 (c) (o)) 13 (c) (w))
            refine w_putf (A := 2) (t := 0) (pc' := 78) (o48_41 hB) rfl (by decide +kernel) ?_
            refine w_pl (pc' := 79) (lv' := [(3, (0, ((1 : Nat) : Int))), (0, (2, ((2 : Nat) : Int))), (1, (0, (o))), (2, (0, (i)))]) (st' := [(2, ((2 : Nat) : Int))]) (h' := (hup (hup (hup h 12 (c) (o)) 13 (c) (w)) 2 (16) (andI (bi) (xorI (shlI 1 ((c : Nat) : Int)) (-1))))) (o48_42 hB) rfl ?_
            refine w_pl (pc' := 80) (lv' := [(3, (0, ((1 : Nat) : Int))), (0, (2, ((2 : Nat) : Int))), (1, (0, (o))), (2, (0, (i)))]) (st' := [(2, ((2 : Nat) : Int)), (2, ((2 : Nat) : Int))]) (h' := (hup (hup (hup h 12 (c) (o)) 13 (c) (w)) 2 (16) (andI (bi) (xorI (shlI 1 ((c : Nat) : Int)) (-1))))) (o48_43 hB) rfl ?_
            refine w_getf (A := 2) (t := 0) (z := ((c : Nat) : Int)) (pc' := 83) (o48_44 hB) rfl (by decide +kernel) ((hup_nj (by omega)).trans ((hup_ne (by decide)).trans ((hup_ne (by decide)).trans hc))) ?_
            refine w_pl (pc' := 84) (lv' := [(3, (0, ((1 : Nat) : Int))), (0, (2, ((2 : Nat) : Int))), (1, (0, (o))), (2, (0, (i)))]) (st' := [(0, ((1 : Nat) : Int)), (0, ((c : Nat) : Int)), (2, ((2 : Nat) : Int))]) (h' := (hup (hup (hup h 12 (c) (o)) 13 (c) (w)) 2 (16) (andI (bi) (xorI (shlI 1 ((c : Nat) : Int)) (-1))))) (o48_45 hB) rfl ?_
            refine w_iadd (z := (((c + 1) : Nat) : Int)) (pc' := 85) (o48_46 hB) rfl (w32_e (by omega) (by omega)) ?_
            refine w_putf (A := 2) (t := 0) (pc' := 88) (o48_47 hB) rfl (by decide +kernel) ?_
            refine w_pl (pc' := 89) (lv' := [(3, (0, ((1 : Nat) : Int))), (0, (2, ((2 : Nat) : Int))), (1, (0, (o))), (2, (0, (i)))]) (st' := [(0, ((1 : Nat) : Int))]) (h' := (hup (hup (hup (hup h 12 (c) (o)) 13 (c) (w)) 2 (16) (andI (bi) (xorI (shlI 1 ((c : Nat) : Int)) (-1)))) 2 (15) (((c + 1) : Nat) : Int))) (o48_48 hB) rfl ?_
            exact w_iret (o48_49 hB) mr48 (by unfold in32; omega) (qe (a3 (by omega)) (by have := inA_r (h := h) (o := o) (m := w) c; omega))
      · have f125 : ¬ (((c : Nat) : Int) < ((24 : Nat) : Int)) := e
        refine w_pl (pc' := 20) (lv' := [(0, (2, ((2 : Nat) : Int))), (1, (0, (o))), (2, (0, (i)))]) (st' := [(0, (-2))]) (h' := h) (o48_9 hB) rfl ?_
        exact w_iret (o48_10 hB) mr48 (by unfold in32; omega) (a1 (by omega))
    · have f126 : ¬ (((1 : Nat) : Int) ≠ (0)) := e
      exfalso; omega
  · show HW g l _ 48 _ _ 4 [(0, (2, ((2 : Nat) : Int))), (1, (0, (o))), (2, (0, (i)))] [(0, ((0 : Nat) : Int))] h
    refine w_ifc (pt := 9) (pf := 7) (o48_2 hB) (by decide) rfl (fun e => ?_) (fun e => ?_)
    · have f127 : (((0 : Nat) : Int) ≠ (0)) := e
      exfalso; omega
    · have f128 : ¬ (((0 : Nat) : Int) ≠ (0)) := e
      refine w_pl (pc' := 8) (lv' := [(0, (2, ((2 : Nat) : Int))), (1, (0, (o))), (2, (0, (i)))]) (st' := [(0, (-1))]) (h' := h) (o48_3 hB) rfl ?_
      exact w_iret (o48_4 hB) mr48 (by unfold in32; omega) (a0 (by omega))
theorem m_joinB (hB : BytesOK) {g : bG} {l : Launch} {d : Nat} {Q : bQ} {h : bH} {o i : Int} (ht : TH h) (z_o : in32 o) (z_i : in32 i) {c : Nat} (hc : h 2 15 = (c : Int)) (lc : c ≤ 24) {w : Int} (hw : h 2 0 = w) {bi : Int} (hbi : h 2 16 = bi)  (a0 : ¬ (0 ≤ o ∧ o ≤ 7) → Q (some (0, (-1))) h) (a1 : (0 ≤ o ∧ o ≤ 7) ∧ c = 24 → Q (some (0, (-2))) h) (a2 : (0 ≤ o ∧ o ≤ 7) ∧ c < 24 ∧ i ≠ 0 → Q (some (0, (inA h o w c))) (hup (hup (hup (hup h 12 (c) (o)) 13 (c) (w)) 2 (16) (orI (bi) (shlI 1 ((c : Nat) : Int)))) 2 (15) (((c + 1) : Nat) : Int))) (a3 : (0 ≤ o ∧ o ≤ 7) ∧ c < 24 ∧ i = 0 → Q (some (0, (inA h o w c))) (hup (hup (hup (hup h 12 (c) (o)) 13 (c) (w)) 2 (16) (andI (bi) (xorI (shlI 1 ((c : Nat) : Int)) (-1)))) 2 (15) (((c + 1) : Nat) : Int))) : MH g l (d + 1 + 1) 127 212 212 [(2, ((0 : Nat) : Int)), (0, (o)), (0, (i))] h Q := by
  have hR := ht.r
  have z0_o := z_o
  have z0_i := z_i
  unfold in32 at z0_o
  unfold in32 at z0_i
  have r_w := ty_2_c0 ht
  rw [hw] at r_w
  have r_bi := ty_2_c16 ht
  rw [hbi] at r_bi
  refine mh_go hB mg127 ml127 (Nat.le_of_ble_eq_true rfl) ?_
  show HW g l (d + 1 + 1) 127 _ _ 0 [(0, (2, ((0 : Nat) : Int))), (1, (0, (o))), (2, (0, (i)))] [] h
  refine w_pl (pc' := 1) (lv' := [(0, (2, ((0 : Nat) : Int))), (1, (0, (o))), (2, (0, (i)))]) (st' := [(2, ((0 : Nat) : Int))]) (h' := h) (o127_0 hB) rfl ?_
  refine w_getf (A := 0) (t := 2) (z := ((1 : Nat) : Int)) (pc' := 4) (o127_1 hB) rfl (by decide +kernel) (hR (0, 0, 1) (by decide)) ?_
  refine w_getf (A := 1) (t := 2) (z := ((2 : Nat) : Int)) (pc' := 7) (o127_2 hB) rfl (by decide +kernel) (hR (1, 0, 2) (by decide)) ?_
  refine w_pl (pc' := 8) (lv' := [(0, (2, ((0 : Nat) : Int))), (1, (0, (o))), (2, (0, (i)))]) (st' := [(0, (o)), (2, ((2 : Nat) : Int))]) (h' := h) (o127_3 hB) rfl ?_
  refine w_pl (pc' := 9) (lv' := [(0, (2, ((0 : Nat) : Int))), (1, (0, (o))), (2, (0, (i)))]) (st' := [(0, (i)), (0, (o)), (2, ((2 : Nat) : Int))]) (h' := h) (o127_4 hB) rfl ?_
  refine w_callV (A := 2) (as := [(0, (o)), (0, (i))]) (rest := []) (n := 2) (pc' := 12) 3 hB (o127_5 hB) rfl (by decide +kernel) rfl rfl (Nat.le_of_ble_eq_true rfl) (m_addJoin hB ht z_o z_i hc lc hw hbi (fun f133 => ?_) (fun f134 => ?_) (fun f135 => ?_) (fun f136 => ?_))
  · show HW g l _ 127 _ _ 12 [(0, (2, ((0 : Nat) : Int))), (1, (0, (o))), (2, (0, (i)))] [(0, (-1))] h
    exact w_iret (o127_6 hB) mr127 (by unfold in32; omega) (a0 (by omega))
  · show HW g l _ 127 _ _ 12 [(0, (2, ((0 : Nat) : Int))), (1, (0, (o))), (2, (0, (i)))] [(0, (-2))] h
    exact w_iret (o127_6 hB) mr127 (by unfold in32; omega) (a1 (by omega))
  · show HW g l _ 127 _ _ 12 [(0, (2, ((0 : Nat) : Int))), (1, (0, (o))), (2, (0, (i)))] [(0, (inA h o w c))] (hup (hup (hup (hup h 12 (c) (o)) 13 (c) (w)) 2 (16) (orI (bi) (shlI 1 ((c : Nat) : Int)))) 2 (15) (((c + 1) : Nat) : Int))
    exact w_iret (o127_6 hB) mr127 (by have := inA_r (h := h) (o := o) (m := w) c; unfold in32; omega) (qe (a2 (by omega)) (by have := inA_r (h := h) (o := o) (m := w) c; omega))
  · show HW g l _ 127 _ _ 12 [(0, (2, ((0 : Nat) : Int))), (1, (0, (o))), (2, (0, (i)))] [(0, (inA h o w c))] (hup (hup (hup (hup h 12 (c) (o)) 13 (c) (w)) 2 (16) (andI (bi) (xorI (shlI 1 ((c : Nat) : Int)) (-1)))) 2 (15) (((c + 1) : Nat) : Int))
    exact w_iret (o127_6 hB) mr127 (by have := inA_r (h := h) (o := o) (m := w) c; unfold in32; omega) (qe (a3 (by omega)) (by have := inA_r (h := h) (o := o) (m := w) c; omega))
def s_joinB (vs : List bV) (h : bH) (r : Option bV) (h' : bH) : Prop := TH h ∧ ∀ (o i : Int) (c : Nat) (w : Int) (bi : Int) , vs = [(2, ((0 : Nat) : Int)), (0, o), (0, i)] → h 2 15 = (c : Int) → h 2 0 = w → h 2 16 = bi → ((¬ (0 ≤ o ∧ o ≤ 7)) ∧ r = some (0, (-1)) ∧ h = h') ∨ (((0 ≤ o ∧ o ≤ 7) ∧ c = 24) ∧ r = some (0, (-2)) ∧ h = h') ∨ (((0 ≤ o ∧ o ≤ 7) ∧ c < 24 ∧ i ≠ 0) ∧ r = some (0, (inA h o w c)) ∧ h' = (hup (hup (hup (hup h 12 (c) (o)) 13 (c) (w)) 2 (16) (orI (bi) (shlI 1 ((c : Nat) : Int)))) 2 (15) (((c + 1) : Nat) : Int))) ∨ (((0 ≤ o ∧ o ≤ 7) ∧ c < 24 ∧ i = 0) ∧ r = some (0, (inA h o w c)) ∧ h' = (hup (hup (hup (hup h 12 (c) (o)) 13 (c) (w)) 2 (16) (andI (bi) (xorI (shlI 1 ((c : Nat) : Int)) (-1)))) 2 (15) (((c + 1) : Nat) : Int)))
def w_joinB : List (Nat × Nat × Nat) := [(2, 15, 16), (2, 16, 17), (12, 0, 24), (13, 0, 24)]
def q_joinB : aCt := cH 127 2 w_joinB 2 0
theorem sk_joinB (hB : BytesOK) (g : bG) (l : Launch) : SK g l gT q_joinB s_joinB := by
  intro d hd ρ h Q hcore hQ
  have hcore : core (PofW gT (some w_joinB) false) (gsc g) h ρ h (List.replicate 2 r32, [], [], 212) := hcore
  have ht := hTH hcore
  have y0 := r32_0 hcore 0 (by decide)
  have y1 := r32_0 hcore 1 (by decide)
  have y00 := y0
  unfold in32 at y00
  have y01 := y1
  unfold in32 at y01
  obtain ⟨c, hc, lc⟩ := nat_to ht (a := 2) (j := 15) (n := 24) (by decide +kernel)
  have r_w := ty_2_c0 ht
  have r_bi := ty_2_c16 ht
  obtain ⟨d', rfl⟩ : ∃ d', d = d' + 1 + 1 := ⟨d - 2, by have : 2 ≤ d := hd; omega⟩
  rw [show evS ρ (ctA q_joinB) = [(2, ((0 : Nat) : Int)), (0, ρ 0), (0, ρ 1)] from evA2]
  refine m_joinB (o := ρ 0) (i := ρ 1) hB ht y0 y1 hc lc rfl rfl (fun hn => ?_) (fun hn => ?_) (fun hn => ?_) (fun hn => ?_)
  · refine hQ _ _ (hpost hcore (ht) (fun _ _ _ => rfl) (by unfold in32; omega)) ⟨ht, fun o i c_c v_w v_bi hv e_c e_w e_bi => ?_⟩
    have hv := (evA2 (ρ := ρ)).symm.trans hv
    obtain ⟨rfl, rfl⟩ := vsA2 hv
    obtain rfl : c_c = c := by have := e_c.symm.trans hc; omega
    subst e_w
    subst e_bi
    exact Or.inl ⟨hn, rfl, rfl⟩
  · refine hQ _ _ (hpost hcore (ht) (fun _ _ _ => rfl) (by unfold in32; omega)) ⟨ht, fun o i c_c v_w v_bi hv e_c e_w e_bi => ?_⟩
    have hv := (evA2 (ρ := ρ)).symm.trans hv
    obtain ⟨rfl, rfl⟩ := vsA2 hv
    obtain rfl : c_c = c := by have := e_c.symm.trans hc; omega
    subst e_w
    subst e_bi
    exact Or.inr (Or.inl ⟨hn, rfl, rfl⟩)
  · refine hQ _ _ (hpost hcore (((((ht).ups2 (a := 12) (s := 0) (st := 1) (n := 24) (lo := (0)) (hi := 7) (r := c) (by decide +kernel) (by omega) (by omega) (by omega)).ups2 (a := 13) (s := 0) (st := 1) (n := 24) (lo := (0)) (hi := 239) (r := c) (by decide +kernel) (by omega) (by omega) (by omega)).upc (a := 2) (j := 16) (lo := (-2147483648)) (hi := 2147483647) (by decide +kernel) (by first | exact orI_in _ _ | exact andI_in _ _)).upc (a := 2) (j := 15) (lo := (0)) (hi := 24) (by decide +kernel) (by omega)) (fr_up (fr_up (fr_up (fr_up (fun _ _ _ => rfl) (wr_in (lo := 0) (hi := 24) (by decide) (by omega) (by omega))) (wr_in (lo := 0) (hi := 24) (by decide) (by omega) (by omega))) (wr_in (lo := 16) (hi := 17) (by decide) (by omega) (by omega))) (wr_in (lo := 15) (hi := 16) (by decide) (by omega) (by omega))) (by have := inA_r (h := h) (o := ρ 0) (m := h 2 0) c; unfold in32; omega)) ⟨ht, fun o i c_c v_w v_bi hv e_c e_w e_bi => ?_⟩
    have hv := (evA2 (ρ := ρ)).symm.trans hv
    obtain ⟨rfl, rfl⟩ := vsA2 hv
    obtain rfl : c_c = c := by have := e_c.symm.trans hc; omega
    subst e_w
    subst e_bi
    exact Or.inr (Or.inr (Or.inl ⟨hn, rfl, rfl⟩))
  · refine hQ _ _ (hpost hcore (((((ht).ups2 (a := 12) (s := 0) (st := 1) (n := 24) (lo := (0)) (hi := 7) (r := c) (by decide +kernel) (by omega) (by omega) (by omega)).ups2 (a := 13) (s := 0) (st := 1) (n := 24) (lo := (0)) (hi := 239) (r := c) (by decide +kernel) (by omega) (by omega) (by omega)).upc (a := 2) (j := 16) (lo := (-2147483648)) (hi := 2147483647) (by decide +kernel) (by first | exact orI_in _ _ | exact andI_in _ _)).upc (a := 2) (j := 15) (lo := (0)) (hi := 24) (by decide +kernel) (by omega)) (fr_up (fr_up (fr_up (fr_up (fun _ _ _ => rfl) (wr_in (lo := 0) (hi := 24) (by decide) (by omega) (by omega))) (wr_in (lo := 0) (hi := 24) (by decide) (by omega) (by omega))) (wr_in (lo := 16) (hi := 17) (by decide) (by omega) (by omega))) (wr_in (lo := 15) (hi := 16) (by decide) (by omega) (by omega))) (by have := inA_r (h := h) (o := ρ 0) (m := h 2 0) c; unfold in32; omega)) ⟨ht, fun o i c_c v_w v_bi hv e_c e_w e_bi => ?_⟩
    have hv := (evA2 (ρ := ρ)).symm.trans hv
    obtain ⟨rfl, rfl⟩ := vsA2 hv
    obtain rfl : c_c = c := by have := e_c.symm.trans hc; omega
    subst e_w
    subst e_bi
    exact Or.inr (Or.inr (Or.inr (⟨hn, rfl, rfl⟩)))
theorem m_joinM (hB : BytesOK) {g : bG} {l : Launch} {d : Nat} {Q : bQ} {h : bH} {o i : Int} (ht : TH h) (z_o : in32 o) (z_i : in32 i) {c : Nat} (hc : h 194 10 = (c : Int)) (lc : c ≤ 24) {w : Int} (hw : h 194 0 = w)  (a0 : ¬ (0 ≤ o ∧ o ≤ 7) → Q (some (0, (-1))) h) (a1 : (0 ≤ o ∧ o ≤ 7) ∧ c = 24 → Q (some (0, (-2))) h) (a2 : (0 ≤ o ∧ o ≤ 7) ∧ c < 24 ∧ i ≠ 0 → Q (some (0, ((inM h o w c).1))) (hup (hup (hup (hup h 194 ((204 + (3 * c))) (o)) 194 (((204 + (3 * c)) + 1)) ((1 : Nat) : Int)) 194 (((204 + (3 * c)) + 2)) (w)) 194 (10) (((c + 1) : Nat) : Int))) (a3 : (0 ≤ o ∧ o ≤ 7) ∧ c < 24 ∧ i = 0 → Q (some (0, ((inM h o w c).1))) (hup (hup (hup (hup h 194 ((204 + (3 * c))) (o)) 194 (((204 + (3 * c)) + 1)) ((0 : Nat) : Int)) 194 (((204 + (3 * c)) + 2)) (w)) 194 (10) (((c + 1) : Nat) : Int))) : MH g l (d + 1 + 1) 197 212 212 [(2, ((193 : Nat) : Int)), (0, (o)), (0, (i))] h Q := by
  have hR := ht.r
  have z0_o := z_o
  have z0_i := z_i
  unfold in32 at z0_o
  unfold in32 at z0_i
  have r_w := ty_194_c0 ht
  rw [hw] at r_w
  refine mh_go hB mg197 ml197 (Nat.le_of_ble_eq_true rfl) ?_
  show HW g l (d + 1 + 1) 197 _ _ 0 [(0, (2, ((193 : Nat) : Int))), (1, (0, (o))), (2, (0, (i)))] [] h
  refine w_pl (pc' := 1) (lv' := [(0, (2, ((193 : Nat) : Int))), (1, (0, (o))), (2, (0, (i)))]) (st' := [(0, (o))]) (h' := h) (o197_0 hB) rfl ?_
  refine w_callS (as := [(0, (o))]) (rest := []) (n := 1) (pc' := 4) hB (o197_1 hB) rfl (by decide +kernel) rfl rfl (Nat.le_of_ble_eq_true rfl) (m_isOwnerM hB (fun f152 => ?_) (fun f153 => ?_))
  · show HW g l _ 197 _ _ 4 [(0, (2, ((193 : Nat) : Int))), (1, (0, (o))), (2, (0, (i)))] [(0, ((1 : Nat) : Int))] h
    refine w_ifc (pt := 9) (pf := 7) (o197_2 hB) (by decide) rfl (fun e => ?_) (fun e => ?_)
    · have f154 : (((1 : Nat) : Int) ≠ (0)) := e
      refine w_pl (pc' := 10) (lv' := [(0, (2, ((193 : Nat) : Int))), (1, (0, (o))), (2, (0, (i)))]) (st' := [(2, ((193 : Nat) : Int))]) (h' := h) (o197_5 hB) rfl ?_
      refine w_getf (A := 193) (t := 2) (z := ((194 : Nat) : Int)) (pc' := 13) (o197_6 hB) rfl (by decide +kernel) (hR (193, 0, 194) (by decide)) ?_
      refine w_pl (pc' := 15) (lv' := [(0, (2, ((193 : Nat) : Int))), (1, (0, (o))), (2, (0, (i)))]) (st' := [(0, ((10 : Nat) : Int)), (2, ((194 : Nat) : Int))]) (h' := h) (o197_7 hB) rfl ?_
      refine w_iald (A := 194) (i := 10) (n := 1984) (z := ((c : Nat) : Int)) (pc' := 16) (o197_8 hB) rfl (by decide +kernel) (by omega) hc ?_
      refine w_pl (pc' := 18) (lv' := [(0, (2, ((193 : Nat) : Int))), (1, (0, (o))), (2, (0, (i)))]) (st' := [(0, ((24 : Nat) : Int)), (0, ((c : Nat) : Int))]) (h' := h) (o197_9 hB) rfl ?_
      refine w_icmp (pt := 24) (pf := 21) (o197_10 hB) (by decide) rfl (fun e => ?_) (fun e => ?_)
      · have f155 : (((c : Nat) : Int) ≠ ((24 : Nat) : Int)) := e
        refine w_pl (pc' := 25) (lv' := [(0, (2, ((193 : Nat) : Int))), (1, (0, (o))), (2, (0, (i)))]) (st' := [(2, ((193 : Nat) : Int))]) (h' := h) (o197_13 hB) rfl ?_
        refine w_pl (pc' := 26) (lv' := [(0, (2, ((193 : Nat) : Int))), (1, (0, (o))), (2, (0, (i)))]) (st' := [(0, (o)), (2, ((193 : Nat) : Int))]) (h' := h) (o197_14 hB) rfl ?_
        refine w_pl (pc' := 27) (lv' := [(0, (2, ((193 : Nat) : Int))), (1, (0, (o))), (2, (0, (i)))]) (st' := [(2, ((193 : Nat) : Int)), (0, (o)), (2, ((193 : Nat) : Int))]) (h' := h) (o197_15 hB) rfl ?_
        refine w_getf (A := 193) (t := 2) (z := ((194 : Nat) : Int)) (pc' := 30) (o197_16 hB) rfl (by decide +kernel) (hR (193, 0, 194) (by decide)) ?_
        refine w_pl (pc' := 31) (lv' := [(0, (2, ((193 : Nat) : Int))), (1, (0, (o))), (2, (0, (i)))]) (st' := [(0, ((0 : Nat) : Int)), (2, ((194 : Nat) : Int)), (0, (o)), (2, ((193 : Nat) : Int))]) (h' := h) (o197_17 hB) rfl ?_
        refine w_iald (A := 194) (i := 0) (n := 1984) (z := (w)) (pc' := 32) (o197_18 hB) rfl (by decide +kernel) (by omega) hw ?_
        refine w_callV (A := 193) (as := [(0, (o)), (0, (w))]) (rest := []) (n := 2) (pc' := 35) 11 hB (o197_19 hB) rfl (by decide +kernel) rfl rfl (Nat.le_of_ble_eq_true rfl) (m_isInM hB ht hc lc ?_)
        show HW g l _ 197 _ _ 35 [(0, (2, ((193 : Nat) : Int))), (1, (0, (o))), (2, (0, (i)))] [(0, ((inM h (o) (w) c).1))] h
        refine w_ifc (pt := 42) (pf := 38) (o197_20 hB) (by decide) rfl (fun e => ?_) (fun e => ?_)
        · have f157 : (((inM h (o) (w) c).1) = (0)) := e
          refine w_pl (pc' := 43) (lv' := [(0, (2, ((193 : Nat) : Int))), (1, (0, (o))), (2, (0, (i)))]) (st' := [(0, ((0 : Nat) : Int))]) (h' := h) (o197_23 hB) rfl ?_
          refine w_st (tg := 0) (j := 3) (len := 1) (pc' := 44) (lv' := [(3, (0, ((0 : Nat) : Int))), (0, (2, ((193 : Nat) : Int))), (1, (0, (o))), (2, (0, (i)))]) (o197_24 hB) rfl rfl ml197 (by decide) rfl ?_
          refine w_pl (pc' := 47) (lv' := [(3, (0, ((0 : Nat) : Int))), (0, (2, ((193 : Nat) : Int))), (1, (0, (o))), (2, (0, (i)))]) (st' := [(0, ((204 : Nat) : Int))]) (h' := h) (o197_25 hB) rfl ?_
          refine w_pl (pc' := 48) (lv' := [(3, (0, ((0 : Nat) : Int))), (0, (2, ((193 : Nat) : Int))), (1, (0, (o))), (2, (0, (i)))]) (st' := [(0, ((3 : Nat) : Int)), (0, ((204 : Nat) : Int))]) (h' := h) (o197_26 hB) rfl ?_
          refine w_pl (pc' := 49) (lv' := [(3, (0, ((0 : Nat) : Int))), (0, (2, ((193 : Nat) : Int))), (1, (0, (o))), (2, (0, (i)))]) (st' := [(2, ((193 : Nat) : Int)), (0, ((3 : Nat) : Int)), (0, ((204 : Nat) : Int))]) (h' := h) (o197_27 hB) rfl ?_
          refine w_getf (A := 193) (t := 2) (z := ((194 : Nat) : Int)) (pc' := 52) (o197_28 hB) rfl (by decide +kernel) (hR (193, 0, 194) (by decide)) ?_
          refine w_pl (pc' := 54) (lv' := [(3, (0, ((0 : Nat) : Int))), (0, (2, ((193 : Nat) : Int))), (1, (0, (o))), (2, (0, (i)))]) (st' := [(0, ((10 : Nat) : Int)), (2, ((194 : Nat) : Int)), (0, ((3 : Nat) : Int)), (0, ((204 : Nat) : Int))]) (h' := h) (o197_29 hB) rfl ?_
          refine w_iald (A := 194) (i := 10) (n := 1984) (z := ((c : Nat) : Int)) (pc' := 55) (o197_30 hB) rfl (by decide +kernel) (by omega) hc ?_
          refine w_imul (z := (((3 * c) : Nat) : Int)) (pc' := 56) (o197_31 hB) rfl (w32_e (by omega) (by omega)) ?_
          refine w_iadd (z := (((204 + (3 * c)) : Nat) : Int)) (pc' := 57) (o197_32 hB) rfl (w32_e (by omega) (by omega)) ?_
          refine w_st (tg := 0) (j := 4) (len := 2) (pc' := 59) (lv' := [(4, (0, (((204 + (3 * c)) : Nat) : Int))), (3, (0, ((0 : Nat) : Int))), (0, (2, ((193 : Nat) : Int))), (1, (0, (o))), (2, (0, (i)))]) (o197_33 hB) rfl rfl ml197 (by decide) rfl ?_
          refine w_pl (pc' := 60) (lv' := [(4, (0, (((204 + (3 * c)) : Nat) : Int))), (3, (0, ((0 : Nat) : Int))), (0, (2, ((193 : Nat) : Int))), (1, (0, (o))), (2, (0, (i)))]) (st' := [(2, ((193 : Nat) : Int))]) (h' := h) (o197_34 hB) rfl ?_
          refine w_getf (A := 193) (t := 2) (z := ((194 : Nat) : Int)) (pc' := 63) (o197_35 hB) rfl (by decide +kernel) (hR (193, 0, 194) (by decide)) ?_
          refine w_pl (pc' := 65) (lv' := [(4, (0, (((204 + (3 * c)) : Nat) : Int))), (3, (0, ((0 : Nat) : Int))), (0, (2, ((193 : Nat) : Int))), (1, (0, (o))), (2, (0, (i)))]) (st' := [(0, (((204 + (3 * c)) : Nat) : Int)), (2, ((194 : Nat) : Int))]) (h' := h) (o197_36 hB) rfl ?_
          refine w_pl (pc' := 66) (lv' := [(4, (0, (((204 + (3 * c)) : Nat) : Int))), (3, (0, ((0 : Nat) : Int))), (0, (2, ((193 : Nat) : Int))), (1, (0, (o))), (2, (0, (i)))]) (st' := [(0, (o)), (0, (((204 + (3 * c)) : Nat) : Int)), (2, ((194 : Nat) : Int))]) (h' := h) (o197_37 hB) rfl ?_
          refine w_iast (A := 194) (i := (204 + (3 * c))) (n := 1984) (pc' := 67) (o197_38 hB) rfl (by decide +kernel) (by omega) ?_
          refine w_pl (pc' := 68) (lv' := [(4, (0, (((204 + (3 * c)) : Nat) : Int))), (3, (0, ((0 : Nat) : Int))), (0, (2, ((193 : Nat) : Int))), (1, (0, (o))), (2, (0, (i)))]) (st' := [(2, ((193 : Nat) : Int))]) (h' := (hup h 194 ((204 + (3 * c))) (o))) (o197_39 hB) rfl ?_
          refine w_getf (A := 193) (t := 2) (z := ((194 : Nat) : Int)) (pc' := 71) (o197_40 hB) rfl (by decide +kernel) ((hup_ne (by decide)).trans (hR (193, 0, 194) (by decide))) ?_
          refine w_pl (pc' := 73) (lv' := [(4, (0, (((204 + (3 * c)) : Nat) : Int))), (3, (0, ((0 : Nat) : Int))), (0, (2, ((193 : Nat) : Int))), (1, (0, (o))), (2, (0, (i)))]) (st' := [(0, (((204 + (3 * c)) : Nat) : Int)), (2, ((194 : Nat) : Int))]) (h' := (hup h 194 ((204 + (3 * c))) (o))) (o197_41 hB) rfl ?_
          refine w_pl (pc' := 74) (lv' := [(4, (0, (((204 + (3 * c)) : Nat) : Int))), (3, (0, ((0 : Nat) : Int))), (0, (2, ((193 : Nat) : Int))), (1, (0, (o))), (2, (0, (i)))]) (st' := [(0, ((1 : Nat) : Int)), (0, (((204 + (3 * c)) : Nat) : Int)), (2, ((194 : Nat) : Int))]) (h' := (hup h 194 ((204 + (3 * c))) (o))) (o197_42 hB) rfl ?_
          refine w_iadd (z := ((((204 + (3 * c)) + 1) : Nat) : Int)) (pc' := 75) (o197_43 hB) rfl (w32_e (by omega) (by omega)) ?_
          refine w_pl (pc' := 76) (lv' := [(4, (0, (((204 + (3 * c)) : Nat) : Int))), (3, (0, ((0 : Nat) : Int))), (0, (2, ((193 : Nat) : Int))), (1, (0, (o))), (2, (0, (i)))]) (st' := [(0, (i)), (0, ((((204 + (3 * c)) + 1) : Nat) : Int)), (2, ((194 : Nat) : Int))]) (h' := (hup h 194 ((204 + (3 * c))) (o))) (o197_44 hB) rfl ?_
          refine w_ifc (pt := 83) (pf := 79) (o197_45 hB) (by decide) rfl (fun e => ?_) (fun e => ?_)
          · have f158 : ((i) = (0)) := e
            refine w_pl (pc' := 84) (lv' := [(4, (0, (((204 + (3 * c)) : Nat) : Int))), (3, (0, ((0 : Nat) : Int))), (0, (2, ((193 : Nat) : Int))), (1, (0, (o))), (2, (0, (i)))]) (st' := [(0, ((0 : Nat) : Int)), (0, ((((204 + (3 * c)) + 1) : Nat) : Int)), (2, ((194 : Nat) : Int))]) (h' := (hup h 194 ((204 + (3 * c))) (o))) (o197_48 hB) rfl ?_
            refine w_iast (A := 194) (i := ((204 + (3 * c)) + 1)) (n := 1984) (pc' := 85) (o197_49 hB) rfl (by decide +kernel) (by omega) ?_
            refine w_pl (pc' := 86) (lv' := [(4, (0, (((204 + (3 * c)) : Nat) : Int))), (3, (0, ((0 : Nat) : Int))), (0, (2, ((193 : Nat) : Int))), (1, (0, (o))), (2, (0, (i)))]) (st' := [(2, ((193 : Nat) : Int))]) (h' := (hup (hup h 194 ((204 + (3 * c))) (o)) 194 (((204 + (3 * c)) + 1)) ((0 : Nat) : Int))) (o197_50 hB) rfl ?_
            refine w_getf (A := 193) (t := 2) (z := ((194 : Nat) : Int)) (pc' := 89) (o197_51 hB) rfl (by decide +kernel) ((hup_ne (by decide)).trans ((hup_ne (by decide)).trans (hR (193, 0, 194) (by decide)))) ?_
            refine w_pl (pc' := 91) (lv' := [(4, (0, (((204 + (3 * c)) : Nat) : Int))), (3, (0, ((0 : Nat) : Int))), (0, (2, ((193 : Nat) : Int))), (1, (0, (o))), (2, (0, (i)))]) (st' := [(0, (((204 + (3 * c)) : Nat) : Int)), (2, ((194 : Nat) : Int))]) (h' := (hup (hup h 194 ((204 + (3 * c))) (o)) 194 (((204 + (3 * c)) + 1)) ((0 : Nat) : Int))) (o197_52 hB) rfl ?_
            refine w_pl (pc' := 92) (lv' := [(4, (0, (((204 + (3 * c)) : Nat) : Int))), (3, (0, ((0 : Nat) : Int))), (0, (2, ((193 : Nat) : Int))), (1, (0, (o))), (2, (0, (i)))]) (st' := [(0, ((2 : Nat) : Int)), (0, (((204 + (3 * c)) : Nat) : Int)), (2, ((194 : Nat) : Int))]) (h' := (hup (hup h 194 ((204 + (3 * c))) (o)) 194 (((204 + (3 * c)) + 1)) ((0 : Nat) : Int))) (o197_53 hB) rfl ?_
            refine w_iadd (z := ((((204 + (3 * c)) + 2) : Nat) : Int)) (pc' := 93) (o197_54 hB) rfl (w32_e (by omega) (by omega)) ?_
            refine w_pl (pc' := 94) (lv' := [(4, (0, (((204 + (3 * c)) : Nat) : Int))), (3, (0, ((0 : Nat) : Int))), (0, (2, ((193 : Nat) : Int))), (1, (0, (o))), (2, (0, (i)))]) (st' := [(2, ((193 : Nat) : Int)), (0, ((((204 + (3 * c)) + 2) : Nat) : Int)), (2, ((194 : Nat) : Int))]) (h' := (hup (hup h 194 ((204 + (3 * c))) (o)) 194 (((204 + (3 * c)) + 1)) ((0 : Nat) : Int))) (o197_55 hB) rfl ?_
            refine w_getf (A := 193) (t := 2) (z := ((194 : Nat) : Int)) (pc' := 97) (o197_56 hB) rfl (by decide +kernel) ((hup_ne (by decide)).trans ((hup_ne (by decide)).trans (hR (193, 0, 194) (by decide)))) ?_
            refine w_pl (pc' := 98) (lv' := [(4, (0, (((204 + (3 * c)) : Nat) : Int))), (3, (0, ((0 : Nat) : Int))), (0, (2, ((193 : Nat) : Int))), (1, (0, (o))), (2, (0, (i)))]) (st' := [(0, ((0 : Nat) : Int)), (2, ((194 : Nat) : Int)), (0, ((((204 + (3 * c)) + 2) : Nat) : Int)), (2, ((194 : Nat) : Int))]) (h' := (hup (hup h 194 ((204 + (3 * c))) (o)) 194 (((204 + (3 * c)) + 1)) ((0 : Nat) : Int))) (o197_57 hB) rfl ?_
            refine w_iald (A := 194) (i := 0) (n := 1984) (z := (w)) (pc' := 99) (o197_58 hB) rfl (by decide +kernel) (by omega) ((hup_nj (by omega)).trans ((hup_nj (by omega)).trans hw)) ?_
            refine w_iast (A := 194) (i := ((204 + (3 * c)) + 2)) (n := 1984) (pc' := 100) (o197_59 hB) rfl (by decide +kernel) (by omega) ?_
            refine w_pl (pc' := 101) (lv' := [(4, (0, (((204 + (3 * c)) : Nat) : Int))), (3, (0, ((0 : Nat) : Int))), (0, (2, ((193 : Nat) : Int))), (1, (0, (o))), (2, (0, (i)))]) (st' := [(2, ((193 : Nat) : Int))]) (h' := (hup (hup (hup h 194 ((204 + (3 * c))) (o)) 194 (((204 + (3 * c)) + 1)) ((0 : Nat) : Int)) 194 (((204 + (3 * c)) + 2)) (w))) (o197_60 hB) rfl ?_
            refine w_getf (A := 193) (t := 2) (z := ((194 : Nat) : Int)) (pc' := 104) (o197_61 hB) rfl (by decide +kernel) ((hup_ne (by decide)).trans ((hup_ne (by decide)).trans ((hup_ne (by decide)).trans (hR (193, 0, 194) (by decide))))) ?_
            refine w_pl (pc' := 106) (lv' := [(4, (0, (((204 + (3 * c)) : Nat) : Int))), (3, (0, ((0 : Nat) : Int))), (0, (2, ((193 : Nat) : Int))), (1, (0, (o))), (2, (0, (i)))]) (st' := [(0, ((10 : Nat) : Int)), (2, ((194 : Nat) : Int))]) (h' := (hup (hup (hup h 194 ((204 + (3 * c))) (o)) 194 (((204 + (3 * c)) + 1)) ((0 : Nat) : Int)) 194 (((204 + (3 * c)) + 2)) (w))) (o197_62 hB) rfl ?_
            refine w_pl (pc' := 107) (lv' := [(4, (0, (((204 + (3 * c)) : Nat) : Int))), (3, (0, ((0 : Nat) : Int))), (0, (2, ((193 : Nat) : Int))), (1, (0, (o))), (2, (0, (i)))]) (st' := [(0, ((10 : Nat) : Int)), (2, ((194 : Nat) : Int)), (0, ((10 : Nat) : Int)), (2, ((194 : Nat) : Int))]) (h' := (hup (hup (hup h 194 ((204 + (3 * c))) (o)) 194 (((204 + (3 * c)) + 1)) ((0 : Nat) : Int)) 194 (((204 + (3 * c)) + 2)) (w))) (o197_63 hB) rfl ?_
            refine w_iald (A := 194) (i := 10) (n := 1984) (z := ((c : Nat) : Int)) (pc' := 108) (o197_64 hB) rfl (by decide +kernel) (by omega) ((hup_nj (by omega)).trans ((hup_nj (by omega)).trans ((hup_nj (by omega)).trans hc))) ?_
            refine w_pl (pc' := 109) (lv' := [(4, (0, (((204 + (3 * c)) : Nat) : Int))), (3, (0, ((0 : Nat) : Int))), (0, (2, ((193 : Nat) : Int))), (1, (0, (o))), (2, (0, (i)))]) (st' := [(0, ((1 : Nat) : Int)), (0, ((c : Nat) : Int)), (0, ((10 : Nat) : Int)), (2, ((194 : Nat) : Int))]) (h' := (hup (hup (hup h 194 ((204 + (3 * c))) (o)) 194 (((204 + (3 * c)) + 1)) ((0 : Nat) : Int)) 194 (((204 + (3 * c)) + 2)) (w))) (o197_65 hB) rfl ?_
            refine w_iadd (z := (((c + 1) : Nat) : Int)) (pc' := 110) (o197_66 hB) rfl (w32_e (by omega) (by omega)) ?_
            refine w_iast (A := 194) (i := 10) (n := 1984) (pc' := 111) (o197_67 hB) rfl (by decide +kernel) (by omega) ?_
            refine w_pl (pc' := 112) (lv' := [(4, (0, (((204 + (3 * c)) : Nat) : Int))), (3, (0, ((0 : Nat) : Int))), (0, (2, ((193 : Nat) : Int))), (1, (0, (o))), (2, (0, (i)))]) (st' := [(0, ((0 : Nat) : Int))]) (h' := (hup (hup (hup (hup h 194 ((204 + (3 * c))) (o)) 194 (((204 + (3 * c)) + 1)) ((0 : Nat) : Int)) 194 (((204 + (3 * c)) + 2)) (w)) 194 (10) (((c + 1) : Nat) : Int))) (o197_68 hB) rfl ?_
            exact w_iret (o197_69 hB) mr197 (by unfold in32; omega) (qe (a3 (by omega)) (by have := inM_r ht (o := o) (m := w) c lc; omega))
          · have f159 : ¬ ((i) = (0)) := e
            refine w_pl (pc' := 80) (lv' := [(4, (0, (((204 + (3 * c)) : Nat) : Int))), (3, (0, ((0 : Nat) : Int))), (0, (2, ((193 : Nat) : Int))), (1, (0, (o))), (2, (0, (i)))]) (st' := [(0, ((1 : Nat) : Int)), (0, ((((204 + (3 * c)) + 1) : Nat) : Int)), (2, ((194 : Nat) : Int))]) (h' := (hup h 194 ((204 + (3 * c))) (o))) (o197_46 hB) rfl ?_
            refine w_goto (pt := 84) (o197_47 hB) (by decide) ?_
            refine w_iast (A := 194) (i := ((204 + (3 * c)) + 1)) (n := 1984) (pc' := 85) (o197_49 hB) rfl (by decide +kernel) (by omega) ?_
            refine w_pl (pc' := 86) (lv' := [(4, (0, (((204 + (3 * c)) : Nat) : Int))), (3, (0, ((0 : Nat) : Int))), (0, (2, ((193 : Nat) : Int))), (1, (0, (o))), (2, (0, (i)))]) (st' := [(2, ((193 : Nat) : Int))]) (h' := (hup (hup h 194 ((204 + (3 * c))) (o)) 194 (((204 + (3 * c)) + 1)) ((1 : Nat) : Int))) (o197_50 hB) rfl ?_
            refine w_getf (A := 193) (t := 2) (z := ((194 : Nat) : Int)) (pc' := 89) (o197_51 hB) rfl (by decide +kernel) ((hup_ne (by decide)).trans ((hup_ne (by decide)).trans (hR (193, 0, 194) (by decide)))) ?_
            refine w_pl (pc' := 91) (lv' := [(4, (0, (((204 + (3 * c)) : Nat) : Int))), (3, (0, ((0 : Nat) : Int))), (0, (2, ((193 : Nat) : Int))), (1, (0, (o))), (2, (0, (i)))]) (st' := [(0, (((204 + (3 * c)) : Nat) : Int)), (2, ((194 : Nat) : Int))]) (h' := (hup (hup h 194 ((204 + (3 * c))) (o)) 194 (((204 + (3 * c)) + 1)) ((1 : Nat) : Int))) (o197_52 hB) rfl ?_
            refine w_pl (pc' := 92) (lv' := [(4, (0, (((204 + (3 * c)) : Nat) : Int))), (3, (0, ((0 : Nat) : Int))), (0, (2, ((193 : Nat) : Int))), (1, (0, (o))), (2, (0, (i)))]) (st' := [(0, ((2 : Nat) : Int)), (0, (((204 + (3 * c)) : Nat) : Int)), (2, ((194 : Nat) : Int))]) (h' := (hup (hup h 194 ((204 + (3 * c))) (o)) 194 (((204 + (3 * c)) + 1)) ((1 : Nat) : Int))) (o197_53 hB) rfl ?_
            refine w_iadd (z := ((((204 + (3 * c)) + 2) : Nat) : Int)) (pc' := 93) (o197_54 hB) rfl (w32_e (by omega) (by omega)) ?_
            refine w_pl (pc' := 94) (lv' := [(4, (0, (((204 + (3 * c)) : Nat) : Int))), (3, (0, ((0 : Nat) : Int))), (0, (2, ((193 : Nat) : Int))), (1, (0, (o))), (2, (0, (i)))]) (st' := [(2, ((193 : Nat) : Int)), (0, ((((204 + (3 * c)) + 2) : Nat) : Int)), (2, ((194 : Nat) : Int))]) (h' := (hup (hup h 194 ((204 + (3 * c))) (o)) 194 (((204 + (3 * c)) + 1)) ((1 : Nat) : Int))) (o197_55 hB) rfl ?_
            refine w_getf (A := 193) (t := 2) (z := ((194 : Nat) : Int)) (pc' := 97) (o197_56 hB) rfl (by decide +kernel) ((hup_ne (by decide)).trans ((hup_ne (by decide)).trans (hR (193, 0, 194) (by decide)))) ?_
            refine w_pl (pc' := 98) (lv' := [(4, (0, (((204 + (3 * c)) : Nat) : Int))), (3, (0, ((0 : Nat) : Int))), (0, (2, ((193 : Nat) : Int))), (1, (0, (o))), (2, (0, (i)))]) (st' := [(0, ((0 : Nat) : Int)), (2, ((194 : Nat) : Int)), (0, ((((204 + (3 * c)) + 2) : Nat) : Int)), (2, ((194 : Nat) : Int))]) (h' := (hup (hup h 194 ((204 + (3 * c))) (o)) 194 (((204 + (3 * c)) + 1)) ((1 : Nat) : Int))) (o197_57 hB) rfl ?_
            refine w_iald (A := 194) (i := 0) (n := 1984) (z := (w)) (pc' := 99) (o197_58 hB) rfl (by decide +kernel) (by omega) ((hup_nj (by omega)).trans ((hup_nj (by omega)).trans hw)) ?_
            refine w_iast (A := 194) (i := ((204 + (3 * c)) + 2)) (n := 1984) (pc' := 100) (o197_59 hB) rfl (by decide +kernel) (by omega) ?_
            refine w_pl (pc' := 101) (lv' := [(4, (0, (((204 + (3 * c)) : Nat) : Int))), (3, (0, ((0 : Nat) : Int))), (0, (2, ((193 : Nat) : Int))), (1, (0, (o))), (2, (0, (i)))]) (st' := [(2, ((193 : Nat) : Int))]) (h' := (hup (hup (hup h 194 ((204 + (3 * c))) (o)) 194 (((204 + (3 * c)) + 1)) ((1 : Nat) : Int)) 194 (((204 + (3 * c)) + 2)) (w))) (o197_60 hB) rfl ?_
            refine w_getf (A := 193) (t := 2) (z := ((194 : Nat) : Int)) (pc' := 104) (o197_61 hB) rfl (by decide +kernel) ((hup_ne (by decide)).trans ((hup_ne (by decide)).trans ((hup_ne (by decide)).trans (hR (193, 0, 194) (by decide))))) ?_
            refine w_pl (pc' := 106) (lv' := [(4, (0, (((204 + (3 * c)) : Nat) : Int))), (3, (0, ((0 : Nat) : Int))), (0, (2, ((193 : Nat) : Int))), (1, (0, (o))), (2, (0, (i)))]) (st' := [(0, ((10 : Nat) : Int)), (2, ((194 : Nat) : Int))]) (h' := (hup (hup (hup h 194 ((204 + (3 * c))) (o)) 194 (((204 + (3 * c)) + 1)) ((1 : Nat) : Int)) 194 (((204 + (3 * c)) + 2)) (w))) (o197_62 hB) rfl ?_
            refine w_pl (pc' := 107) (lv' := [(4, (0, (((204 + (3 * c)) : Nat) : Int))), (3, (0, ((0 : Nat) : Int))), (0, (2, ((193 : Nat) : Int))), (1, (0, (o))), (2, (0, (i)))]) (st' := [(0, ((10 : Nat) : Int)), (2, ((194 : Nat) : Int)), (0, ((10 : Nat) : Int)), (2, ((194 : Nat) : Int))]) (h' := (hup (hup (hup h 194 ((204 + (3 * c))) (o)) 194 (((204 + (3 * c)) + 1)) ((1 : Nat) : Int)) 194 (((204 + (3 * c)) + 2)) (w))) (o197_63 hB) rfl ?_
            refine w_iald (A := 194) (i := 10) (n := 1984) (z := ((c : Nat) : Int)) (pc' := 108) (o197_64 hB) rfl (by decide +kernel) (by omega) ((hup_nj (by omega)).trans ((hup_nj (by omega)).trans ((hup_nj (by omega)).trans hc))) ?_
            refine w_pl (pc' := 109) (lv' := [(4, (0, (((204 + (3 * c)) : Nat) : Int))), (3, (0, ((0 : Nat) : Int))), (0, (2, ((193 : Nat) : Int))), (1, (0, (o))), (2, (0, (i)))]) (st' := [(0, ((1 : Nat) : Int)), (0, ((c : Nat) : Int)), (0, ((10 : Nat) : Int)), (2, ((194 : Nat) : Int))]) (h' := (hup (hup (hup h 194 ((204 + (3 * c))) (o)) 194 (((204 + (3 * c)) + 1)) ((1 : Nat) : Int)) 194 (((204 + (3 * c)) + 2)) (w))) (o197_65 hB) rfl ?_
            refine w_iadd (z := (((c + 1) : Nat) : Int)) (pc' := 110) (o197_66 hB) rfl (w32_e (by omega) (by omega)) ?_
            refine w_iast (A := 194) (i := 10) (n := 1984) (pc' := 111) (o197_67 hB) rfl (by decide +kernel) (by omega) ?_
            refine w_pl (pc' := 112) (lv' := [(4, (0, (((204 + (3 * c)) : Nat) : Int))), (3, (0, ((0 : Nat) : Int))), (0, (2, ((193 : Nat) : Int))), (1, (0, (o))), (2, (0, (i)))]) (st' := [(0, ((0 : Nat) : Int))]) (h' := (hup (hup (hup (hup h 194 ((204 + (3 * c))) (o)) 194 (((204 + (3 * c)) + 1)) ((1 : Nat) : Int)) 194 (((204 + (3 * c)) + 2)) (w)) 194 (10) (((c + 1) : Nat) : Int))) (o197_68 hB) rfl ?_
            exact w_iret (o197_69 hB) mr197 (by unfold in32; omega) (qe (a2 (by omega)) (by have := inM_r ht (o := o) (m := w) c lc; omega))
        · have f160 : ¬ (((inM h (o) (w) c).1) = (0)) := e
          refine w_pl (pc' := 39) (lv' := [(0, (2, ((193 : Nat) : Int))), (1, (0, (o))), (2, (0, (i)))]) (st' := [(0, ((1 : Nat) : Int))]) (h' := h) (o197_21 hB) rfl ?_
          refine w_goto (pt := 43) (o197_22 hB) (by decide) ?_
          refine w_st (tg := 0) (j := 3) (len := 1) (pc' := 44) (lv' := [(3, (0, ((1 : Nat) : Int))), (0, (2, ((193 : Nat) : Int))), (1, (0, (o))), (2, (0, (i)))]) (o197_24 hB) rfl rfl ml197 (by decide) rfl ?_
          refine w_pl (pc' := 47) (lv' := [(3, (0, ((1 : Nat) : Int))), (0, (2, ((193 : Nat) : Int))), (1, (0, (o))), (2, (0, (i)))]) (st' := [(0, ((204 : Nat) : Int))]) (h' := h) (o197_25 hB) rfl ?_
          refine w_pl (pc' := 48) (lv' := [(3, (0, ((1 : Nat) : Int))), (0, (2, ((193 : Nat) : Int))), (1, (0, (o))), (2, (0, (i)))]) (st' := [(0, ((3 : Nat) : Int)), (0, ((204 : Nat) : Int))]) (h' := h) (o197_26 hB) rfl ?_
          refine w_pl (pc' := 49) (lv' := [(3, (0, ((1 : Nat) : Int))), (0, (2, ((193 : Nat) : Int))), (1, (0, (o))), (2, (0, (i)))]) (st' := [(2, ((193 : Nat) : Int)), (0, ((3 : Nat) : Int)), (0, ((204 : Nat) : Int))]) (h' := h) (o197_27 hB) rfl ?_
          refine w_getf (A := 193) (t := 2) (z := ((194 : Nat) : Int)) (pc' := 52) (o197_28 hB) rfl (by decide +kernel) (hR (193, 0, 194) (by decide)) ?_
          refine w_pl (pc' := 54) (lv' := [(3, (0, ((1 : Nat) : Int))), (0, (2, ((193 : Nat) : Int))), (1, (0, (o))), (2, (0, (i)))]) (st' := [(0, ((10 : Nat) : Int)), (2, ((194 : Nat) : Int)), (0, ((3 : Nat) : Int)), (0, ((204 : Nat) : Int))]) (h' := h) (o197_29 hB) rfl ?_
          refine w_iald (A := 194) (i := 10) (n := 1984) (z := ((c : Nat) : Int)) (pc' := 55) (o197_30 hB) rfl (by decide +kernel) (by omega) hc ?_
          refine w_imul (z := (((3 * c) : Nat) : Int)) (pc' := 56) (o197_31 hB) rfl (w32_e (by omega) (by omega)) ?_
          refine w_iadd (z := (((204 + (3 * c)) : Nat) : Int)) (pc' := 57) (o197_32 hB) rfl (w32_e (by omega) (by omega)) ?_
          refine w_st (tg := 0) (j := 4) (len := 2) (pc' := 59) (lv' := [(4, (0, (((204 + (3 * c)) : Nat) : Int))), (3, (0, ((1 : Nat) : Int))), (0, (2, ((193 : Nat) : Int))), (1, (0, (o))), (2, (0, (i)))]) (o197_33 hB) rfl rfl ml197 (by decide) rfl ?_
          refine w_pl (pc' := 60) (lv' := [(4, (0, (((204 + (3 * c)) : Nat) : Int))), (3, (0, ((1 : Nat) : Int))), (0, (2, ((193 : Nat) : Int))), (1, (0, (o))), (2, (0, (i)))]) (st' := [(2, ((193 : Nat) : Int))]) (h' := h) (o197_34 hB) rfl ?_
          refine w_getf (A := 193) (t := 2) (z := ((194 : Nat) : Int)) (pc' := 63) (o197_35 hB) rfl (by decide +kernel) (hR (193, 0, 194) (by decide)) ?_
          refine w_pl (pc' := 65) (lv' := [(4, (0, (((204 + (3 * c)) : Nat) : Int))), (3, (0, ((1 : Nat) : Int))), (0, (2, ((193 : Nat) : Int))), (1, (0, (o))), (2, (0, (i)))]) (st' := [(0, (((204 + (3 * c)) : Nat) : Int)), (2, ((194 : Nat) : Int))]) (h' := h) (o197_36 hB) rfl ?_
          refine w_pl (pc' := 66) (lv' := [(4, (0, (((204 + (3 * c)) : Nat) : Int))), (3, (0, ((1 : Nat) : Int))), (0, (2, ((193 : Nat) : Int))), (1, (0, (o))), (2, (0, (i)))]) (st' := [(0, (o)), (0, (((204 + (3 * c)) : Nat) : Int)), (2, ((194 : Nat) : Int))]) (h' := h) (o197_37 hB) rfl ?_
          refine w_iast (A := 194) (i := (204 + (3 * c))) (n := 1984) (pc' := 67) (o197_38 hB) rfl (by decide +kernel) (by omega) ?_
          refine w_pl (pc' := 68) (lv' := [(4, (0, (((204 + (3 * c)) : Nat) : Int))), (3, (0, ((1 : Nat) : Int))), (0, (2, ((193 : Nat) : Int))), (1, (0, (o))), (2, (0, (i)))]) (st' := [(2, ((193 : Nat) : Int))]) (h' := (hup h 194 ((204 + (3 * c))) (o))) (o197_39 hB) rfl ?_
          refine w_getf (A := 193) (t := 2) (z := ((194 : Nat) : Int)) (pc' := 71) (o197_40 hB) rfl (by decide +kernel) ((hup_ne (by decide)).trans (hR (193, 0, 194) (by decide))) ?_
          refine w_pl (pc' := 73) (lv' := [(4, (0, (((204 + (3 * c)) : Nat) : Int))), (3, (0, ((1 : Nat) : Int))), (0, (2, ((193 : Nat) : Int))), (1, (0, (o))), (2, (0, (i)))]) (st' := [(0, (((204 + (3 * c)) : Nat) : Int)), (2, ((194 : Nat) : Int))]) (h' := (hup h 194 ((204 + (3 * c))) (o))) (o197_41 hB) rfl ?_
          refine w_pl (pc' := 74) (lv' := [(4, (0, (((204 + (3 * c)) : Nat) : Int))), (3, (0, ((1 : Nat) : Int))), (0, (2, ((193 : Nat) : Int))), (1, (0, (o))), (2, (0, (i)))]) (st' := [(0, ((1 : Nat) : Int)), (0, (((204 + (3 * c)) : Nat) : Int)), (2, ((194 : Nat) : Int))]) (h' := (hup h 194 ((204 + (3 * c))) (o))) (o197_42 hB) rfl ?_
          refine w_iadd (z := ((((204 + (3 * c)) + 1) : Nat) : Int)) (pc' := 75) (o197_43 hB) rfl (w32_e (by omega) (by omega)) ?_
          refine w_pl (pc' := 76) (lv' := [(4, (0, (((204 + (3 * c)) : Nat) : Int))), (3, (0, ((1 : Nat) : Int))), (0, (2, ((193 : Nat) : Int))), (1, (0, (o))), (2, (0, (i)))]) (st' := [(0, (i)), (0, ((((204 + (3 * c)) + 1) : Nat) : Int)), (2, ((194 : Nat) : Int))]) (h' := (hup h 194 ((204 + (3 * c))) (o))) (o197_44 hB) rfl ?_
          refine w_ifc (pt := 83) (pf := 79) (o197_45 hB) (by decide) rfl (fun e => ?_) (fun e => ?_)
          · have f161 : ((i) = (0)) := e
            refine w_pl (pc' := 84) (lv' := [(4, (0, (((204 + (3 * c)) : Nat) : Int))), (3, (0, ((1 : Nat) : Int))), (0, (2, ((193 : Nat) : Int))), (1, (0, (o))), (2, (0, (i)))]) (st' := [(0, ((0 : Nat) : Int)), (0, ((((204 + (3 * c)) + 1) : Nat) : Int)), (2, ((194 : Nat) : Int))]) (h' := (hup h 194 ((204 + (3 * c))) (o))) (o197_48 hB) rfl ?_
            refine w_iast (A := 194) (i := ((204 + (3 * c)) + 1)) (n := 1984) (pc' := 85) (o197_49 hB) rfl (by decide +kernel) (by omega) ?_
            refine w_pl (pc' := 86) (lv' := [(4, (0, (((204 + (3 * c)) : Nat) : Int))), (3, (0, ((1 : Nat) : Int))), (0, (2, ((193 : Nat) : Int))), (1, (0, (o))), (2, (0, (i)))]) (st' := [(2, ((193 : Nat) : Int))]) (h' := (hup (hup h 194 ((204 + (3 * c))) (o)) 194 (((204 + (3 * c)) + 1)) ((0 : Nat) : Int))) (o197_50 hB) rfl ?_
            refine w_getf (A := 193) (t := 2) (z := ((194 : Nat) : Int)) (pc' := 89) (o197_51 hB) rfl (by decide +kernel) ((hup_ne (by decide)).trans ((hup_ne (by decide)).trans (hR (193, 0, 194) (by decide)))) ?_
            refine w_pl (pc' := 91) (lv' := [(4, (0, (((204 + (3 * c)) : Nat) : Int))), (3, (0, ((1 : Nat) : Int))), (0, (2, ((193 : Nat) : Int))), (1, (0, (o))), (2, (0, (i)))]) (st' := [(0, (((204 + (3 * c)) : Nat) : Int)), (2, ((194 : Nat) : Int))]) (h' := (hup (hup h 194 ((204 + (3 * c))) (o)) 194 (((204 + (3 * c)) + 1)) ((0 : Nat) : Int))) (o197_52 hB) rfl ?_
            refine w_pl (pc' := 92) (lv' := [(4, (0, (((204 + (3 * c)) : Nat) : Int))), (3, (0, ((1 : Nat) : Int))), (0, (2, ((193 : Nat) : Int))), (1, (0, (o))), (2, (0, (i)))]) (st' := [(0, ((2 : Nat) : Int)), (0, (((204 + (3 * c)) : Nat) : Int)), (2, ((194 : Nat) : Int))]) (h' := (hup (hup h 194 ((204 + (3 * c))) (o)) 194 (((204 + (3 * c)) + 1)) ((0 : Nat) : Int))) (o197_53 hB) rfl ?_
            refine w_iadd (z := ((((204 + (3 * c)) + 2) : Nat) : Int)) (pc' := 93) (o197_54 hB) rfl (w32_e (by omega) (by omega)) ?_
            refine w_pl (pc' := 94) (lv' := [(4, (0, (((204 + (3 * c)) : Nat) : Int))), (3, (0, ((1 : Nat) : Int))), (0, (2, ((193 : Nat) : Int))), (1, (0, (o))), (2, (0, (i)))]) (st' := [(2, ((193 : Nat) : Int)), (0, ((((204 + (3 * c)) + 2) : Nat) : Int)), (2, ((194 : Nat) : Int))]) (h' := (hup (hup h 194 ((204 + (3 * c))) (o)) 194 (((204 + (3 * c)) + 1)) ((0 : Nat) : Int))) (o197_55 hB) rfl ?_
            refine w_getf (A := 193) (t := 2) (z := ((194 : Nat) : Int)) (pc' := 97) (o197_56 hB) rfl (by decide +kernel) ((hup_ne (by decide)).trans ((hup_ne (by decide)).trans (hR (193, 0, 194) (by decide)))) ?_
            refine w_pl (pc' := 98) (lv' := [(4, (0, (((204 + (3 * c)) : Nat) : Int))), (3, (0, ((1 : Nat) : Int))), (0, (2, ((193 : Nat) : Int))), (1, (0, (o))), (2, (0, (i)))]) (st' := [(0, ((0 : Nat) : Int)), (2, ((194 : Nat) : Int)), (0, ((((204 + (3 * c)) + 2) : Nat) : Int)), (2, ((194 : Nat) : Int))]) (h' := (hup (hup h 194 ((204 + (3 * c))) (o)) 194 (((204 + (3 * c)) + 1)) ((0 : Nat) : Int))) (o197_57 hB) rfl ?_
            refine w_iald (A := 194) (i := 0) (n := 1984) (z := (w)) (pc' := 99) (o197_58 hB) rfl (by decide +kernel) (by omega) ((hup_nj (by omega)).trans ((hup_nj (by omega)).trans hw)) ?_
            refine w_iast (A := 194) (i := ((204 + (3 * c)) + 2)) (n := 1984) (pc' := 100) (o197_59 hB) rfl (by decide +kernel) (by omega) ?_
            refine w_pl (pc' := 101) (lv' := [(4, (0, (((204 + (3 * c)) : Nat) : Int))), (3, (0, ((1 : Nat) : Int))), (0, (2, ((193 : Nat) : Int))), (1, (0, (o))), (2, (0, (i)))]) (st' := [(2, ((193 : Nat) : Int))]) (h' := (hup (hup (hup h 194 ((204 + (3 * c))) (o)) 194 (((204 + (3 * c)) + 1)) ((0 : Nat) : Int)) 194 (((204 + (3 * c)) + 2)) (w))) (o197_60 hB) rfl ?_
            refine w_getf (A := 193) (t := 2) (z := ((194 : Nat) : Int)) (pc' := 104) (o197_61 hB) rfl (by decide +kernel) ((hup_ne (by decide)).trans ((hup_ne (by decide)).trans ((hup_ne (by decide)).trans (hR (193, 0, 194) (by decide))))) ?_
            refine w_pl (pc' := 106) (lv' := [(4, (0, (((204 + (3 * c)) : Nat) : Int))), (3, (0, ((1 : Nat) : Int))), (0, (2, ((193 : Nat) : Int))), (1, (0, (o))), (2, (0, (i)))]) (st' := [(0, ((10 : Nat) : Int)), (2, ((194 : Nat) : Int))]) (h' := (hup (hup (hup h 194 ((204 + (3 * c))) (o)) 194 (((204 + (3 * c)) + 1)) ((0 : Nat) : Int)) 194 (((204 + (3 * c)) + 2)) (w))) (o197_62 hB) rfl ?_
            refine w_pl (pc' := 107) (lv' := [(4, (0, (((204 + (3 * c)) : Nat) : Int))), (3, (0, ((1 : Nat) : Int))), (0, (2, ((193 : Nat) : Int))), (1, (0, (o))), (2, (0, (i)))]) (st' := [(0, ((10 : Nat) : Int)), (2, ((194 : Nat) : Int)), (0, ((10 : Nat) : Int)), (2, ((194 : Nat) : Int))]) (h' := (hup (hup (hup h 194 ((204 + (3 * c))) (o)) 194 (((204 + (3 * c)) + 1)) ((0 : Nat) : Int)) 194 (((204 + (3 * c)) + 2)) (w))) (o197_63 hB) rfl ?_
            refine w_iald (A := 194) (i := 10) (n := 1984) (z := ((c : Nat) : Int)) (pc' := 108) (o197_64 hB) rfl (by decide +kernel) (by omega) ((hup_nj (by omega)).trans ((hup_nj (by omega)).trans ((hup_nj (by omega)).trans hc))) ?_
            refine w_pl (pc' := 109) (lv' := [(4, (0, (((204 + (3 * c)) : Nat) : Int))), (3, (0, ((1 : Nat) : Int))), (0, (2, ((193 : Nat) : Int))), (1, (0, (o))), (2, (0, (i)))]) (st' := [(0, ((1 : Nat) : Int)), (0, ((c : Nat) : Int)), (0, ((10 : Nat) : Int)), (2, ((194 : Nat) : Int))]) (h' := (hup (hup (hup h 194 ((204 + (3 * c))) (o)) 194 (((204 + (3 * c)) + 1)) ((0 : Nat) : Int)) 194 (((204 + (3 * c)) + 2)) (w))) (o197_65 hB) rfl ?_
            refine w_iadd (z := (((c + 1) : Nat) : Int)) (pc' := 110) (o197_66 hB) rfl (w32_e (by omega) (by omega)) ?_
            refine w_iast (A := 194) (i := 10) (n := 1984) (pc' := 111) (o197_67 hB) rfl (by decide +kernel) (by omega) ?_
            refine w_pl (pc' := 112) (lv' := [(4, (0, (((204 + (3 * c)) : Nat) : Int))), (3, (0, ((1 : Nat) : Int))), (0, (2, ((193 : Nat) : Int))), (1, (0, (o))), (2, (0, (i)))]) (st' := [(0, ((1 : Nat) : Int))]) (h' := (hup (hup (hup (hup h 194 ((204 + (3 * c))) (o)) 194 (((204 + (3 * c)) + 1)) ((0 : Nat) : Int)) 194 (((204 + (3 * c)) + 2)) (w)) 194 (10) (((c + 1) : Nat) : Int))) (o197_68 hB) rfl ?_
            exact w_iret (o197_69 hB) mr197 (by unfold in32; omega) (qe (a3 (by omega)) (by have := inM_r ht (o := o) (m := w) c lc; omega))
          · have f162 : ¬ ((i) = (0)) := e
            refine w_pl (pc' := 80) (lv' := [(4, (0, (((204 + (3 * c)) : Nat) : Int))), (3, (0, ((1 : Nat) : Int))), (0, (2, ((193 : Nat) : Int))), (1, (0, (o))), (2, (0, (i)))]) (st' := [(0, ((1 : Nat) : Int)), (0, ((((204 + (3 * c)) + 1) : Nat) : Int)), (2, ((194 : Nat) : Int))]) (h' := (hup h 194 ((204 + (3 * c))) (o))) (o197_46 hB) rfl ?_
            refine w_goto (pt := 84) (o197_47 hB) (by decide) ?_
            refine w_iast (A := 194) (i := ((204 + (3 * c)) + 1)) (n := 1984) (pc' := 85) (o197_49 hB) rfl (by decide +kernel) (by omega) ?_
            refine w_pl (pc' := 86) (lv' := [(4, (0, (((204 + (3 * c)) : Nat) : Int))), (3, (0, ((1 : Nat) : Int))), (0, (2, ((193 : Nat) : Int))), (1, (0, (o))), (2, (0, (i)))]) (st' := [(2, ((193 : Nat) : Int))]) (h' := (hup (hup h 194 ((204 + (3 * c))) (o)) 194 (((204 + (3 * c)) + 1)) ((1 : Nat) : Int))) (o197_50 hB) rfl ?_
            refine w_getf (A := 193) (t := 2) (z := ((194 : Nat) : Int)) (pc' := 89) (o197_51 hB) rfl (by decide +kernel) ((hup_ne (by decide)).trans ((hup_ne (by decide)).trans (hR (193, 0, 194) (by decide)))) ?_
            refine w_pl (pc' := 91) (lv' := [(4, (0, (((204 + (3 * c)) : Nat) : Int))), (3, (0, ((1 : Nat) : Int))), (0, (2, ((193 : Nat) : Int))), (1, (0, (o))), (2, (0, (i)))]) (st' := [(0, (((204 + (3 * c)) : Nat) : Int)), (2, ((194 : Nat) : Int))]) (h' := (hup (hup h 194 ((204 + (3 * c))) (o)) 194 (((204 + (3 * c)) + 1)) ((1 : Nat) : Int))) (o197_52 hB) rfl ?_
            refine w_pl (pc' := 92) (lv' := [(4, (0, (((204 + (3 * c)) : Nat) : Int))), (3, (0, ((1 : Nat) : Int))), (0, (2, ((193 : Nat) : Int))), (1, (0, (o))), (2, (0, (i)))]) (st' := [(0, ((2 : Nat) : Int)), (0, (((204 + (3 * c)) : Nat) : Int)), (2, ((194 : Nat) : Int))]) (h' := (hup (hup h 194 ((204 + (3 * c))) (o)) 194 (((204 + (3 * c)) + 1)) ((1 : Nat) : Int))) (o197_53 hB) rfl ?_
            refine w_iadd (z := ((((204 + (3 * c)) + 2) : Nat) : Int)) (pc' := 93) (o197_54 hB) rfl (w32_e (by omega) (by omega)) ?_
            refine w_pl (pc' := 94) (lv' := [(4, (0, (((204 + (3 * c)) : Nat) : Int))), (3, (0, ((1 : Nat) : Int))), (0, (2, ((193 : Nat) : Int))), (1, (0, (o))), (2, (0, (i)))]) (st' := [(2, ((193 : Nat) : Int)), (0, ((((204 + (3 * c)) + 2) : Nat) : Int)), (2, ((194 : Nat) : Int))]) (h' := (hup (hup h 194 ((204 + (3 * c))) (o)) 194 (((204 + (3 * c)) + 1)) ((1 : Nat) : Int))) (o197_55 hB) rfl ?_
            refine w_getf (A := 193) (t := 2) (z := ((194 : Nat) : Int)) (pc' := 97) (o197_56 hB) rfl (by decide +kernel) ((hup_ne (by decide)).trans ((hup_ne (by decide)).trans (hR (193, 0, 194) (by decide)))) ?_
            refine w_pl (pc' := 98) (lv' := [(4, (0, (((204 + (3 * c)) : Nat) : Int))), (3, (0, ((1 : Nat) : Int))), (0, (2, ((193 : Nat) : Int))), (1, (0, (o))), (2, (0, (i)))]) (st' := [(0, ((0 : Nat) : Int)), (2, ((194 : Nat) : Int)), (0, ((((204 + (3 * c)) + 2) : Nat) : Int)), (2, ((194 : Nat) : Int))]) (h' := (hup (hup h 194 ((204 + (3 * c))) (o)) 194 (((204 + (3 * c)) + 1)) ((1 : Nat) : Int))) (o197_57 hB) rfl ?_
            refine w_iald (A := 194) (i := 0) (n := 1984) (z := (w)) (pc' := 99) (o197_58 hB) rfl (by decide +kernel) (by omega) ((hup_nj (by omega)).trans ((hup_nj (by omega)).trans hw)) ?_
            refine w_iast (A := 194) (i := ((204 + (3 * c)) + 2)) (n := 1984) (pc' := 100) (o197_59 hB) rfl (by decide +kernel) (by omega) ?_
            refine w_pl (pc' := 101) (lv' := [(4, (0, (((204 + (3 * c)) : Nat) : Int))), (3, (0, ((1 : Nat) : Int))), (0, (2, ((193 : Nat) : Int))), (1, (0, (o))), (2, (0, (i)))]) (st' := [(2, ((193 : Nat) : Int))]) (h' := (hup (hup (hup h 194 ((204 + (3 * c))) (o)) 194 (((204 + (3 * c)) + 1)) ((1 : Nat) : Int)) 194 (((204 + (3 * c)) + 2)) (w))) (o197_60 hB) rfl ?_
            refine w_getf (A := 193) (t := 2) (z := ((194 : Nat) : Int)) (pc' := 104) (o197_61 hB) rfl (by decide +kernel) ((hup_ne (by decide)).trans ((hup_ne (by decide)).trans ((hup_ne (by decide)).trans (hR (193, 0, 194) (by decide))))) ?_
            refine w_pl (pc' := 106) (lv' := [(4, (0, (((204 + (3 * c)) : Nat) : Int))), (3, (0, ((1 : Nat) : Int))), (0, (2, ((193 : Nat) : Int))), (1, (0, (o))), (2, (0, (i)))]) (st' := [(0, ((10 : Nat) : Int)), (2, ((194 : Nat) : Int))]) (h' := (hup (hup (hup h 194 ((204 + (3 * c))) (o)) 194 (((204 + (3 * c)) + 1)) ((1 : Nat) : Int)) 194 (((204 + (3 * c)) + 2)) (w))) (o197_62 hB) rfl ?_
            refine w_pl (pc' := 107) (lv' := [(4, (0, (((204 + (3 * c)) : Nat) : Int))), (3, (0, ((1 : Nat) : Int))), (0, (2, ((193 : Nat) : Int))), (1, (0, (o))), (2, (0, (i)))]) (st' := [(0, ((10 : Nat) : Int)), (2, ((194 : Nat) : Int)), (0, ((10 : Nat) : Int)), (2, ((194 : Nat) : Int))]) (h' := (hup (hup (hup h 194 ((204 + (3 * c))) (o)) 194 (((204 + (3 * c)) + 1)) ((1 : Nat) : Int)) 194 (((204 + (3 * c)) + 2)) (w))) (o197_63 hB) rfl ?_
            refine w_iald (A := 194) (i := 10) (n := 1984) (z := ((c : Nat) : Int)) (pc' := 108) (o197_64 hB) rfl (by decide +kernel) (by omega) ((hup_nj (by omega)).trans ((hup_nj (by omega)).trans ((hup_nj (by omega)).trans hc))) ?_
            refine w_pl (pc' := 109) (lv' := [(4, (0, (((204 + (3 * c)) : Nat) : Int))), (3, (0, ((1 : Nat) : Int))), (0, (2, ((193 : Nat) : Int))), (1, (0, (o))), (2, (0, (i)))]) (st' := [(0, ((1 : Nat) : Int)), (0, ((c : Nat) : Int)), (0, ((10 : Nat) : Int)), (2, ((194 : Nat) : Int))]) (h' := (hup (hup (hup h 194 ((204 + (3 * c))) (o)) 194 (((204 + (3 * c)) + 1)) ((1 : Nat) : Int)) 194 (((204 + (3 * c)) + 2)) (w))) (o197_65 hB) rfl ?_
            refine w_iadd (z := (((c + 1) : Nat) : Int)) (pc' := 110) (o197_66 hB) rfl (w32_e (by omega) (by omega)) ?_
            refine w_iast (A := 194) (i := 10) (n := 1984) (pc' := 111) (o197_67 hB) rfl (by decide +kernel) (by omega) ?_
            refine w_pl (pc' := 112) (lv' := [(4, (0, (((204 + (3 * c)) : Nat) : Int))), (3, (0, ((1 : Nat) : Int))), (0, (2, ((193 : Nat) : Int))), (1, (0, (o))), (2, (0, (i)))]) (st' := [(0, ((1 : Nat) : Int))]) (h' := (hup (hup (hup (hup h 194 ((204 + (3 * c))) (o)) 194 (((204 + (3 * c)) + 1)) ((1 : Nat) : Int)) 194 (((204 + (3 * c)) + 2)) (w)) 194 (10) (((c + 1) : Nat) : Int))) (o197_68 hB) rfl ?_
            exact w_iret (o197_69 hB) mr197 (by unfold in32; omega) (qe (a2 (by omega)) (by have := inM_r ht (o := o) (m := w) c lc; omega))
      · have f163 : ¬ (((c : Nat) : Int) ≠ ((24 : Nat) : Int)) := e
        refine w_pl (pc' := 23) (lv' := [(0, (2, ((193 : Nat) : Int))), (1, (0, (o))), (2, (0, (i)))]) (st' := [(0, (-2))]) (h' := h) (o197_11 hB) rfl ?_
        exact w_iret (o197_12 hB) mr197 (by unfold in32; omega) (a1 (by omega))
    · have f164 : ¬ (((1 : Nat) : Int) ≠ (0)) := e
      exfalso; omega
  · show HW g l _ 197 _ _ 4 [(0, (2, ((193 : Nat) : Int))), (1, (0, (o))), (2, (0, (i)))] [(0, ((0 : Nat) : Int))] h
    refine w_ifc (pt := 9) (pf := 7) (o197_2 hB) (by decide) rfl (fun e => ?_) (fun e => ?_)
    · have f165 : (((0 : Nat) : Int) ≠ (0)) := e
      exfalso; omega
    · have f166 : ¬ (((0 : Nat) : Int) ≠ (0)) := e
      refine w_pl (pc' := 8) (lv' := [(0, (2, ((193 : Nat) : Int))), (1, (0, (o))), (2, (0, (i)))]) (st' := [(0, (-1))]) (h' := h) (o197_3 hB) rfl ?_
      exact w_iret (o197_4 hB) mr197 (by unfold in32; omega) (a0 (by omega))
def s_joinM (vs : List bV) (h : bH) (r : Option bV) (h' : bH) : Prop := TH h ∧ ∀ (o i : Int) (c : Nat) (w : Int) , vs = [(2, ((193 : Nat) : Int)), (0, o), (0, i)] → h 194 10 = (c : Int) → h 194 0 = w → ((¬ (0 ≤ o ∧ o ≤ 7)) ∧ r = some (0, (-1)) ∧ h = h') ∨ (((0 ≤ o ∧ o ≤ 7) ∧ c = 24) ∧ r = some (0, (-2)) ∧ h = h') ∨ (((0 ≤ o ∧ o ≤ 7) ∧ c < 24 ∧ i ≠ 0) ∧ r = some (0, ((inM h o w c).1)) ∧ h' = (hup (hup (hup (hup h 194 ((204 + (3 * c))) (o)) 194 (((204 + (3 * c)) + 1)) ((1 : Nat) : Int)) 194 (((204 + (3 * c)) + 2)) (w)) 194 (10) (((c + 1) : Nat) : Int))) ∨ (((0 ≤ o ∧ o ≤ 7) ∧ c < 24 ∧ i = 0) ∧ r = some (0, ((inM h o w c).1)) ∧ h' = (hup (hup (hup (hup h 194 ((204 + (3 * c))) (o)) 194 (((204 + (3 * c)) + 1)) ((0 : Nat) : Int)) 194 (((204 + (3 * c)) + 2)) (w)) 194 (10) (((c + 1) : Nat) : Int)))
def w_joinM : List (Nat × Nat × Nat) := [(194, 10, 11), (194, 204, 276)]
def q_joinM : aCt := cH 197 2 w_joinM 2 193
theorem sk_joinM (hB : BytesOK) (g : bG) (l : Launch) : SK g l gT q_joinM s_joinM := by
  intro d hd ρ h Q hcore hQ
  have hcore : core (PofW gT (some w_joinM) false) (gsc g) h ρ h (List.replicate 2 r32, [], [], 212) := hcore
  have ht := hTH hcore
  have y0 := r32_0 hcore 0 (by decide)
  have y1 := r32_0 hcore 1 (by decide)
  have y00 := y0
  unfold in32 at y00
  have y01 := y1
  unfold in32 at y01
  obtain ⟨c, hc, lc⟩ := nat_to ht (a := 194) (j := 10) (n := 24) (by decide +kernel)
  have r_w := ty_194_c0 ht
  obtain ⟨d', rfl⟩ : ∃ d', d = d' + 1 + 1 := ⟨d - 2, by have : 2 ≤ d := hd; omega⟩
  rw [show evS ρ (ctA q_joinM) = [(2, ((193 : Nat) : Int)), (0, ρ 0), (0, ρ 1)] from evA2]
  refine m_joinM (o := ρ 0) (i := ρ 1) hB ht y0 y1 hc lc rfl (fun hn => ?_) (fun hn => ?_) (fun hn => ?_) (fun hn => ?_)
  · refine hQ _ _ (hpost hcore (ht) (fun _ _ _ => rfl) (by unfold in32; omega)) ⟨ht, fun o i c_c v_w hv e_c e_w => ?_⟩
    have hv := (evA2 (ρ := ρ)).symm.trans hv
    obtain ⟨rfl, rfl⟩ := vsA2 hv
    obtain rfl : c_c = c := by have := e_c.symm.trans hc; omega
    subst e_w
    exact Or.inl ⟨hn, rfl, rfl⟩
  · refine hQ _ _ (hpost hcore (ht) (fun _ _ _ => rfl) (by unfold in32; omega)) ⟨ht, fun o i c_c v_w hv e_c e_w => ?_⟩
    have hv := (evA2 (ρ := ρ)).symm.trans hv
    obtain ⟨rfl, rfl⟩ := vsA2 hv
    obtain rfl : c_c = c := by have := e_c.symm.trans hc; omega
    subst e_w
    exact Or.inr (Or.inl ⟨hn, rfl, rfl⟩)
  · refine hQ _ _ (hpost hcore (((((ht).ups2 (a := 194) (s := 204) (st := 3) (n := 24) (lo := (0)) (hi := 239) (r := c) (by decide +kernel) (by omega) (by omega) (by omega)).ups2 (a := 194) (s := 205) (st := 3) (n := 24) (lo := (0)) (hi := 239) (r := c) (by decide +kernel) (by omega) (by omega) (by omega)).ups2 (a := 194) (s := 206) (st := 3) (n := 24) (lo := (0)) (hi := 239) (r := c) (by decide +kernel) (by omega) (by omega) (by omega)).upc (a := 194) (j := 10) (lo := (0)) (hi := 24) (by decide +kernel) (by omega)) (fr_up (fr_up (fr_up (fr_up (fun _ _ _ => rfl) (wr_in (lo := 204) (hi := 276) (by decide) (by omega) (by omega))) (wr_in (lo := 204) (hi := 276) (by decide) (by omega) (by omega))) (wr_in (lo := 204) (hi := 276) (by decide) (by omega) (by omega))) (wr_in (lo := 10) (hi := 11) (by decide) (by omega) (by omega))) (by have := inM_r ht (o := ρ 0) (m := h 194 0) c lc; unfold in32; omega)) ⟨ht, fun o i c_c v_w hv e_c e_w => ?_⟩
    have hv := (evA2 (ρ := ρ)).symm.trans hv
    obtain ⟨rfl, rfl⟩ := vsA2 hv
    obtain rfl : c_c = c := by have := e_c.symm.trans hc; omega
    subst e_w
    exact Or.inr (Or.inr (Or.inl ⟨hn, rfl, rfl⟩))
  · refine hQ _ _ (hpost hcore (((((ht).ups2 (a := 194) (s := 204) (st := 3) (n := 24) (lo := (0)) (hi := 239) (r := c) (by decide +kernel) (by omega) (by omega) (by omega)).ups2 (a := 194) (s := 205) (st := 3) (n := 24) (lo := (0)) (hi := 239) (r := c) (by decide +kernel) (by omega) (by omega) (by omega)).ups2 (a := 194) (s := 206) (st := 3) (n := 24) (lo := (0)) (hi := 239) (r := c) (by decide +kernel) (by omega) (by omega) (by omega)).upc (a := 194) (j := 10) (lo := (0)) (hi := 24) (by decide +kernel) (by omega)) (fr_up (fr_up (fr_up (fr_up (fun _ _ _ => rfl) (wr_in (lo := 204) (hi := 276) (by decide) (by omega) (by omega))) (wr_in (lo := 204) (hi := 276) (by decide) (by omega) (by omega))) (wr_in (lo := 204) (hi := 276) (by decide) (by omega) (by omega))) (wr_in (lo := 10) (hi := 11) (by decide) (by omega) (by omega))) (by have := inM_r ht (o := ρ 0) (m := h 194 0) c lc; unfold in32; omega)) ⟨ht, fun o i c_c v_w hv e_c e_w => ?_⟩
    have hv := (evA2 (ρ := ρ)).symm.trans hv
    obtain ⟨rfl, rfl⟩ := vsA2 hv
    obtain rfl : c_c = c := by have := e_c.symm.trans hc; omega
    subst e_w
    exact Or.inr (Or.inr (Or.inr (⟨hn, rfl, rfl⟩)))
theorem m_insiders (hB : BytesOK) {g : bG} {l : Launch} {d : Nat} {Q : bQ} {h : bH} {m : Int} {c : Nat} (ht : TH h) (hc : h 2 15 = (c : Int)) (lc : c ≤ 24) (hq : Q (some (0, memS (fun j => inA h ((j : Nat) : Int) m c) 8)) h) : MH g l (d + 1) 52 212 212 [(2, ((2 : Nat) : Int)), (0, m)] h Q := by
  have hR := ht.r
  have loop : ∀ (n b : Nat), b + n = 8 → HW g l (d + 1) 52 212 Q 4 [(3, (0, ((b : Nat) : Int))), (2, (0, (memS (fun j => inA h ((j : Nat) : Int) m c) b))), (0, (2, ((2 : Nat) : Int))), (1, (0, (m)))] [] h := by
    intro n
    induction n with
    | zero =>
      intro b hb
      refine w_pl (pc' := 5) (lv' := [(3, (0, ((b : Nat) : Int))), (2, (0, (memS (fun j => inA h ((j : Nat) : Int) m c) b))), (0, (2, ((2 : Nat) : Int))), (1, (0, (m)))]) (st' := [(0, ((b : Nat) : Int))]) (h' := h) (o52_4 hB) rfl ?_
      refine w_pl (pc' := 7) (lv' := [(3, (0, ((b : Nat) : Int))), (2, (0, (memS (fun j => inA h ((j : Nat) : Int) m c) b))), (0, (2, ((2 : Nat) : Int))), (1, (0, (m)))]) (st' := [(0, ((8 : Nat) : Int)), (0, ((b : Nat) : Int))]) (h' := h) (o52_5 hB) rfl ?_
      refine w_icmp (pt := 31) (pf := 10) (o52_6 hB) (by decide) rfl (fun e => ?_) (fun e => ?_)
      · have f167 : (((8 : Nat) : Int) ≤ ((b : Nat) : Int)) := e
        refine w_pl (pc' := 32) (lv' := [(3, (0, ((b : Nat) : Int))), (2, (0, (memS (fun j => inA h ((j : Nat) : Int) m c) b))), (0, (2, ((2 : Nat) : Int))), (1, (0, (m)))]) (st' := [(0, (memS (fun j => inA h ((j : Nat) : Int) m c) b))]) (h' := h) (o52_20 hB) rfl ?_
        have e0 : b = 8 := by omega
        subst e0
        exact w_iret (o52_21 hB) mr52 (memS_in _) hq
      · have f168 : ¬ (((8 : Nat) : Int) ≤ ((b : Nat) : Int)) := e
        exfalso; omega
    | succ n ih =>
      intro b hb
      refine w_pl (pc' := 5) (lv' := [(3, (0, ((b : Nat) : Int))), (2, (0, (memS (fun j => inA h ((j : Nat) : Int) m c) b))), (0, (2, ((2 : Nat) : Int))), (1, (0, (m)))]) (st' := [(0, ((b : Nat) : Int))]) (h' := h) (o52_4 hB) rfl ?_
      refine w_pl (pc' := 7) (lv' := [(3, (0, ((b : Nat) : Int))), (2, (0, (memS (fun j => inA h ((j : Nat) : Int) m c) b))), (0, (2, ((2 : Nat) : Int))), (1, (0, (m)))]) (st' := [(0, ((8 : Nat) : Int)), (0, ((b : Nat) : Int))]) (h' := h) (o52_5 hB) rfl ?_
      refine w_icmp (pt := 31) (pf := 10) (o52_6 hB) (by decide) rfl (fun e => ?_) (fun e => ?_)
      · have f169 : (((8 : Nat) : Int) ≤ ((b : Nat) : Int)) := e
        exfalso; omega
      · have f170 : ¬ (((8 : Nat) : Int) ≤ ((b : Nat) : Int)) := e
        refine w_pl (pc' := 11) (lv' := [(3, (0, ((b : Nat) : Int))), (2, (0, (memS (fun j => inA h ((j : Nat) : Int) m c) b))), (0, (2, ((2 : Nat) : Int))), (1, (0, (m)))]) (st' := [(2, ((2 : Nat) : Int))]) (h' := h) (o52_7 hB) rfl ?_
        refine w_pl (pc' := 12) (lv' := [(3, (0, ((b : Nat) : Int))), (2, (0, (memS (fun j => inA h ((j : Nat) : Int) m c) b))), (0, (2, ((2 : Nat) : Int))), (1, (0, (m)))]) (st' := [(0, ((b : Nat) : Int)), (2, ((2 : Nat) : Int))]) (h' := h) (o52_8 hB) rfl ?_
        refine w_pl (pc' := 13) (lv' := [(3, (0, ((b : Nat) : Int))), (2, (0, (memS (fun j => inA h ((j : Nat) : Int) m c) b))), (0, (2, ((2 : Nat) : Int))), (1, (0, (m)))]) (st' := [(0, (m)), (0, ((b : Nat) : Int)), (2, ((2 : Nat) : Int))]) (h' := h) (o52_9 hB) rfl ?_
        refine w_callV (A := 2) (as := [(0, ((b : Nat) : Int)), (0, (m))]) (rest := []) (n := 2) (pc' := 16) 3 hB (o52_10 hB) rfl (by decide +kernel) rfl rfl (Nat.le_of_ble_eq_true rfl) (m_isInA hB ht hc lc ?_)
        show HW g l _ 52 _ _ 16 [(3, (0, ((b : Nat) : Int))), (2, (0, (memS (fun j => inA h ((j : Nat) : Int) m c) b))), (0, (2, ((2 : Nat) : Int))), (1, (0, (m)))] [(0, (inA h ((b : Nat) : Int) m c))] h
        refine w_ifc (pt := 25) (pf := 19) (o52_11 hB) (by decide) rfl (fun e => ?_) (fun e => ?_)
        · have f172 : ((inA h ((b : Nat) : Int) m c) = (0)) := e
          refine w_iinc (x := ((b : Nat) : Int)) (z := (((b + 1) : Nat) : Int)) (pc' := 28) (lv' := [(3, (0, (((b + 1) : Nat) : Int))), (2, (0, (memS (fun j => inA h ((j : Nat) : Int) m c) b))), (0, (2, ((2 : Nat) : Int))), (1, (0, (m)))]) (o52_18 hB) rfl rfl ml52 (by decide) (w32_e (by omega) (by omega)) rfl ?_
          refine w_goto (pt := 4) (o52_19 hB) (by decide) ?_
          refine w_sub (lv' := [(3, (0, (((b + 1) : Nat) : Int))), (2, (0, (memS (fun j => inA h ((j : Nat) : Int) m c) b))), (0, (2, ((2 : Nat) : Int))), (1, (0, (m)))]) (List.forall_mem_cons.mpr ⟨(List.Mem.head _), (List.forall_mem_cons.mpr ⟨(List.Mem.tail _ (List.Mem.head _)), (List.forall_mem_cons.mpr ⟨(List.Mem.tail _ (List.Mem.tail _ (List.Mem.head _))), (List.forall_mem_cons.mpr ⟨(List.Mem.tail _ (List.Mem.tail _ (List.Mem.tail _ (List.Mem.head _)))), (fun _ hx => by cases hx)⟩)⟩)⟩)⟩) ?_
          have e1 : (memS (fun j => inA h ((j : Nat) : Int) m c) b) = memS (fun j => inA h ((j : Nat) : Int) m c) (b + 1) := by
            simp only [memS]
            rw [if_pos (by omega)]
          rw [e1]
          exact ih (b + 1) (by omega)
        · have f173 : ¬ ((inA h ((b : Nat) : Int) m c) = (0)) := e
          refine w_pl (pc' := 20) (lv' := [(3, (0, ((b : Nat) : Int))), (2, (0, (memS (fun j => inA h ((j : Nat) : Int) m c) b))), (0, (2, ((2 : Nat) : Int))), (1, (0, (m)))]) (st' := [(0, (memS (fun j => inA h ((j : Nat) : Int) m c) b))]) (h' := h) (o52_12 hB) rfl ?_
          refine w_pl (pc' := 21) (lv' := [(3, (0, ((b : Nat) : Int))), (2, (0, (memS (fun j => inA h ((j : Nat) : Int) m c) b))), (0, (2, ((2 : Nat) : Int))), (1, (0, (m)))]) (st' := [(0, ((1 : Nat) : Int)), (0, (memS (fun j => inA h ((j : Nat) : Int) m c) b))]) (h' := h) (o52_13 hB) rfl ?_
          refine w_pl (pc' := 22) (lv' := [(3, (0, ((b : Nat) : Int))), (2, (0, (memS (fun j => inA h ((j : Nat) : Int) m c) b))), (0, (2, ((2 : Nat) : Int))), (1, (0, (m)))]) (st' := [(0, ((b : Nat) : Int)), (0, ((1 : Nat) : Int)), (0, (memS (fun j => inA h ((j : Nat) : Int) m c) b))]) (h' := h) (o52_14 hB) rfl ?_
          refine w_ishl (z := (shlI ((1 : Nat) : Int) ((b : Nat) : Int))) (pc' := 23) (o52_15 hB) rfl rfl ?_
          refine w_ior (z := (orI (memS (fun j => inA h ((j : Nat) : Int) m c) b) (shlI ((1 : Nat) : Int) ((b : Nat) : Int)))) (pc' := 24) (o52_16 hB) rfl rfl ?_
          refine w_st (tg := 0) (j := 2) (len := 1) (pc' := 25) (lv' := [(2, (0, (orI (memS (fun j => inA h ((j : Nat) : Int) m c) b) (shlI ((1 : Nat) : Int) ((b : Nat) : Int))))), (3, (0, ((b : Nat) : Int))), (0, (2, ((2 : Nat) : Int))), (1, (0, (m)))]) (o52_17 hB) rfl rfl ml52 (by decide) rfl ?_
          refine w_iinc (x := ((b : Nat) : Int)) (z := (((b + 1) : Nat) : Int)) (pc' := 28) (lv' := [(3, (0, (((b + 1) : Nat) : Int))), (2, (0, (orI (memS (fun j => inA h ((j : Nat) : Int) m c) b) (shlI ((1 : Nat) : Int) ((b : Nat) : Int))))), (0, (2, ((2 : Nat) : Int))), (1, (0, (m)))]) (o52_18 hB) rfl rfl ml52 (by decide) (w32_e (by omega) (by omega)) rfl ?_
          refine w_goto (pt := 4) (o52_19 hB) (by decide) ?_
          refine w_sub (lv' := [(3, (0, (((b + 1) : Nat) : Int))), (2, (0, (orI (memS (fun j => inA h ((j : Nat) : Int) m c) b) (shlI ((1 : Nat) : Int) ((b : Nat) : Int))))), (0, (2, ((2 : Nat) : Int))), (1, (0, (m)))]) (List.forall_mem_cons.mpr ⟨(List.Mem.head _), (List.forall_mem_cons.mpr ⟨(List.Mem.tail _ (List.Mem.head _)), (List.forall_mem_cons.mpr ⟨(List.Mem.tail _ (List.Mem.tail _ (List.Mem.head _))), (List.forall_mem_cons.mpr ⟨(List.Mem.tail _ (List.Mem.tail _ (List.Mem.tail _ (List.Mem.head _)))), (fun _ hx => by cases hx)⟩)⟩)⟩)⟩) ?_
          have e1 : (orI (memS (fun j => inA h ((j : Nat) : Int) m c) b) (shlI ((1 : Nat) : Int) ((b : Nat) : Int))) = memS (fun j => inA h ((j : Nat) : Int) m c) (b + 1) := by
            simp only [memS]
            rw [if_neg (by omega)]
            rfl
          rw [e1]
          exact ih (b + 1) (by omega)
  refine mh_go hB mg52 ml52 (Nat.le_of_ble_eq_true rfl) ?_
  show HW g l (d + 1) 52 _ _ 0 [(0, (2, ((2 : Nat) : Int))), (1, (0, (m)))] [] h
  refine w_pl (pc' := 1) (lv' := [(0, (2, ((2 : Nat) : Int))), (1, (0, (m)))]) (st' := [(0, ((0 : Nat) : Int))]) (h' := h) (o52_0 hB) rfl ?_
  refine w_st (tg := 0) (j := 2) (len := 1) (pc' := 2) (lv' := [(2, (0, ((0 : Nat) : Int))), (0, (2, ((2 : Nat) : Int))), (1, (0, (m)))]) (o52_1 hB) rfl rfl ml52 (by decide) rfl ?_
  refine w_pl (pc' := 3) (lv' := [(2, (0, ((0 : Nat) : Int))), (0, (2, ((2 : Nat) : Int))), (1, (0, (m)))]) (st' := [(0, ((0 : Nat) : Int))]) (h' := h) (o52_2 hB) rfl ?_
  refine w_st (tg := 0) (j := 3) (len := 1) (pc' := 4) (lv' := [(3, (0, ((0 : Nat) : Int))), (2, (0, ((0 : Nat) : Int))), (0, (2, ((2 : Nat) : Int))), (1, (0, (m)))]) (o52_3 hB) rfl rfl ml52 (by decide) rfl ?_
  refine w_sub (lv' := [(3, (0, ((0 : Nat) : Int))), (2, (0, ((0 : Nat) : Int))), (0, (2, ((2 : Nat) : Int))), (1, (0, (m)))]) (List.forall_mem_cons.mpr ⟨(List.Mem.head _), (List.forall_mem_cons.mpr ⟨(List.Mem.tail _ (List.Mem.head _)), (List.forall_mem_cons.mpr ⟨(List.Mem.tail _ (List.Mem.tail _ (List.Mem.head _))), (List.forall_mem_cons.mpr ⟨(List.Mem.tail _ (List.Mem.tail _ (List.Mem.tail _ (List.Mem.head _)))), (fun _ hx => by cases hx)⟩)⟩)⟩)⟩) ?_
  exact loop 8 0 (by omega)
theorem m_membersB (hB : BytesOK) {g : bG} {l : Launch} {d : Nat} {Q : bQ} {h : bH} {m : Int} (ht : TH h) (z_m : in32 m) {c : Nat} (hc : h 2 15 = (c : Int)) (lc : c ≤ 24)  (a0 : ¬ (0 ≤ m ∧ m ≤ 239) → Q (some (0, (-1))) h) (a1 : 0 ≤ m ∧ m ≤ 239 → Q (some (0, (memS (fun j => inA h ((j : Nat) : Int) m c) 8))) h) : MH g l (d + 1 + 1) 128 212 212 [(2, ((0 : Nat) : Int)), (0, (m))] h Q := by
  have hR := ht.r
  have z0_m := z_m
  unfold in32 at z0_m
  refine mh_go hB mg128 ml128 (Nat.le_of_ble_eq_true rfl) ?_
  show HW g l (d + 1 + 1) 128 _ _ 0 [(0, (2, ((0 : Nat) : Int))), (1, (0, (m)))] [] h
  refine w_pl (pc' := 1) (lv' := [(0, (2, ((0 : Nat) : Int))), (1, (0, (m)))]) (st' := [(0, (m))]) (h' := h) (o128_0 hB) rfl ?_
  refine w_callS (as := [(0, (m))]) (rest := []) (n := 1) (pc' := 4) hB (o128_1 hB) rfl (by decide +kernel) rfl rfl (Nat.le_of_ble_eq_true rfl) (m_isMonthB hB (fun f181 => ?_) (fun f182 => ?_))
  · show HW g l _ 128 _ _ 4 [(0, (2, ((0 : Nat) : Int))), (1, (0, (m)))] [(0, ((1 : Nat) : Int))] h
    refine w_ifc (pt := 9) (pf := 7) (o128_2 hB) (by decide) rfl (fun e => ?_) (fun e => ?_)
    · have f183 : (((1 : Nat) : Int) ≠ (0)) := e
      refine w_pl (pc' := 10) (lv' := [(0, (2, ((0 : Nat) : Int))), (1, (0, (m)))]) (st' := [(2, ((0 : Nat) : Int))]) (h' := h) (o128_5 hB) rfl ?_
      refine w_getf (A := 0) (t := 2) (z := ((1 : Nat) : Int)) (pc' := 13) (o128_6 hB) rfl (by decide +kernel) (hR (0, 0, 1) (by decide)) ?_
      refine w_getf (A := 1) (t := 2) (z := ((2 : Nat) : Int)) (pc' := 16) (o128_7 hB) rfl (by decide +kernel) (hR (1, 0, 2) (by decide)) ?_
      refine w_pl (pc' := 17) (lv' := [(0, (2, ((0 : Nat) : Int))), (1, (0, (m)))]) (st' := [(0, (m)), (2, ((2 : Nat) : Int))]) (h' := h) (o128_8 hB) rfl ?_
      refine w_callV (A := 2) (as := [(0, (m))]) (rest := []) (n := 1) (pc' := 20) 3 hB (o128_9 hB) rfl (by decide +kernel) rfl rfl (Nat.le_of_ble_eq_true rfl) (m_insiders hB ht hc lc ?_)
      show HW g l _ 128 _ _ 20 [(0, (2, ((0 : Nat) : Int))), (1, (0, (m)))] [(0, (memS (fun j => inA h ((j : Nat) : Int) m c) 8))] h
      exact w_iret (o128_10 hB) mr128 (memS_in _) (a1 (by omega))
    · have f185 : ¬ (((1 : Nat) : Int) ≠ (0)) := e
      exfalso; omega
  · show HW g l _ 128 _ _ 4 [(0, (2, ((0 : Nat) : Int))), (1, (0, (m)))] [(0, ((0 : Nat) : Int))] h
    refine w_ifc (pt := 9) (pf := 7) (o128_2 hB) (by decide) rfl (fun e => ?_) (fun e => ?_)
    · have f186 : (((0 : Nat) : Int) ≠ (0)) := e
      exfalso; omega
    · have f187 : ¬ (((0 : Nat) : Int) ≠ (0)) := e
      refine w_pl (pc' := 8) (lv' := [(0, (2, ((0 : Nat) : Int))), (1, (0, (m)))]) (st' := [(0, (-1))]) (h' := h) (o128_3 hB) rfl ?_
      exact w_iret (o128_4 hB) mr128 (by unfold in32; omega) (a0 (by omega))
def s_membersB (vs : List bV) (h : bH) (r : Option bV) (h' : bH) : Prop := TH h ∧ ∀ (m : Int) (c : Nat) , vs = [(2, ((0 : Nat) : Int)), (0, m)] → h 2 15 = (c : Int) → ((¬ (0 ≤ m ∧ m ≤ 239)) ∧ r = some (0, (-1)) ∧ h = h') ∨ ((0 ≤ m ∧ m ≤ 239) ∧ r = some (0, (memS (fun j => inA h ((j : Nat) : Int) m c) 8)) ∧ h = h')
def w_membersB : List (Nat × Nat × Nat) := []
def q_membersB : aCt := cH 128 2 w_membersB 1 0
theorem sk_membersB (hB : BytesOK) (g : bG) (l : Launch) : SK g l gT q_membersB s_membersB := by
  intro d hd ρ h Q hcore hQ
  have hcore : core (PofW gT (some w_membersB) false) (gsc g) h ρ h (List.replicate 1 r32, [], [], 212) := hcore
  have ht := hTH hcore
  have y0 := r32_0 hcore 0 (by decide)
  have y00 := y0
  unfold in32 at y00
  obtain ⟨c, hc, lc⟩ := nat_to ht (a := 2) (j := 15) (n := 24) (by decide +kernel)
  obtain ⟨d', rfl⟩ : ∃ d', d = d' + 1 + 1 := ⟨d - 2, by have : 2 ≤ d := hd; omega⟩
  rw [show evS ρ (ctA q_membersB) = [(2, ((0 : Nat) : Int)), (0, ρ 0)] from evA1]
  refine m_membersB (m := ρ 0) hB ht y0 hc lc (fun hn => ?_) (fun hn => ?_)
  · refine hQ _ _ (hpost hcore (ht) (fun _ _ _ => rfl) (by unfold in32; omega)) ⟨ht, fun m c_c hv e_c => ?_⟩
    have hv := (evA1 (ρ := ρ)).symm.trans hv
    obtain rfl := vsA1 hv
    obtain rfl : c_c = c := by have := e_c.symm.trans hc; omega
    exact Or.inl ⟨hn, rfl, rfl⟩
  · refine hQ _ _ (hpost hcore (ht) (fun _ _ _ => rfl) (memS_in _)) ⟨ht, fun m c_c hv e_c => ?_⟩
    have hv := (evA1 (ρ := ρ)).symm.trans hv
    obtain rfl := vsA1 hv
    obtain rfl : c_c = c := by have := e_c.symm.trans hc; omega
    exact Or.inr (⟨hn, rfl, rfl⟩)
theorem m_membersM (hB : BytesOK) {g : bG} {l : Launch} {d : Nat} {Q : bQ} {h : bH} {m : Int} (ht : TH h) (z_m : in32 m) {c : Nat} (hc : h 194 10 = (c : Int)) (lc : c ≤ 24)  (a0 : ¬ (0 ≤ m ∧ m ≤ 239) → Q (some (0, (-1))) h) (a1 : 0 ≤ m ∧ m ≤ 239 → Q (some (0, (memS (fun j => (inM h ((j : Nat) : Int) m c).1) 8))) h) : MH g l (d + 1 + 1) 198 212 212 [(2, ((193 : Nat) : Int)), (0, (m))] h Q := by
  have hR := ht.r
  have z0_m := z_m
  unfold in32 at z0_m
  have loop : (0 ≤ m ∧ m ≤ 239) → ∀ (n b : Nat), b + n = 8 → HW g l (d + 1 + 1) 198 212 Q 13 [(3, (0, ((b : Nat) : Int))), (2, (0, (memS (fun j => (inM h ((j : Nat) : Int) m c).1) b))), (0, (2, ((193 : Nat) : Int))), (1, (0, (m)))] [] h := by
    intro hm n
    induction n with
    | zero =>
      intro b hb
      refine w_pl (pc' := 14) (lv' := [(3, (0, ((b : Nat) : Int))), (2, (0, (memS (fun j => (inM h ((j : Nat) : Int) m c).1) b))), (0, (2, ((193 : Nat) : Int))), (1, (0, (m)))]) (st' := [(0, ((b : Nat) : Int))]) (h' := h) (o198_9 hB) rfl ?_
      refine w_pl (pc' := 16) (lv' := [(3, (0, ((b : Nat) : Int))), (2, (0, (memS (fun j => (inM h ((j : Nat) : Int) m c).1) b))), (0, (2, ((193 : Nat) : Int))), (1, (0, (m)))]) (st' := [(0, ((8 : Nat) : Int)), (0, ((b : Nat) : Int))]) (h' := h) (o198_10 hB) rfl ?_
      refine w_icmp (pt := 44) (pf := 19) (o198_11 hB) (by decide) rfl (fun e => ?_) (fun e => ?_)
      · have f188 : (((8 : Nat) : Int) ≤ ((b : Nat) : Int)) := e
        refine w_pl (pc' := 45) (lv' := [(3, (0, ((b : Nat) : Int))), (2, (0, (memS (fun j => (inM h ((j : Nat) : Int) m c).1) b))), (0, (2, ((193 : Nat) : Int))), (1, (0, (m)))]) (st' := [(0, (memS (fun j => (inM h ((j : Nat) : Int) m c).1) b))]) (h' := h) (o198_27 hB) rfl ?_
        have e0 : b = 8 := by omega
        subst e0
        exact w_iret (o198_28 hB) mr198 (memS_in _) (a1 hm)
      · have f189 : ¬ (((8 : Nat) : Int) ≤ ((b : Nat) : Int)) := e
        exfalso; omega
    | succ n ih =>
      intro b hb
      refine w_pl (pc' := 14) (lv' := [(3, (0, ((b : Nat) : Int))), (2, (0, (memS (fun j => (inM h ((j : Nat) : Int) m c).1) b))), (0, (2, ((193 : Nat) : Int))), (1, (0, (m)))]) (st' := [(0, ((b : Nat) : Int))]) (h' := h) (o198_9 hB) rfl ?_
      refine w_pl (pc' := 16) (lv' := [(3, (0, ((b : Nat) : Int))), (2, (0, (memS (fun j => (inM h ((j : Nat) : Int) m c).1) b))), (0, (2, ((193 : Nat) : Int))), (1, (0, (m)))]) (st' := [(0, ((8 : Nat) : Int)), (0, ((b : Nat) : Int))]) (h' := h) (o198_10 hB) rfl ?_
      refine w_icmp (pt := 44) (pf := 19) (o198_11 hB) (by decide) rfl (fun e => ?_) (fun e => ?_)
      · have f190 : (((8 : Nat) : Int) ≤ ((b : Nat) : Int)) := e
        exfalso; omega
      · have f191 : ¬ (((8 : Nat) : Int) ≤ ((b : Nat) : Int)) := e
        refine w_pl (pc' := 20) (lv' := [(3, (0, ((b : Nat) : Int))), (2, (0, (memS (fun j => (inM h ((j : Nat) : Int) m c).1) b))), (0, (2, ((193 : Nat) : Int))), (1, (0, (m)))]) (st' := [(0, (memS (fun j => (inM h ((j : Nat) : Int) m c).1) b))]) (h' := h) (o198_12 hB) rfl ?_
        refine w_pl (pc' := 21) (lv' := [(3, (0, ((b : Nat) : Int))), (2, (0, (memS (fun j => (inM h ((j : Nat) : Int) m c).1) b))), (0, (2, ((193 : Nat) : Int))), (1, (0, (m)))]) (st' := [(2, ((193 : Nat) : Int)), (0, (memS (fun j => (inM h ((j : Nat) : Int) m c).1) b))]) (h' := h) (o198_13 hB) rfl ?_
        refine w_pl (pc' := 22) (lv' := [(3, (0, ((b : Nat) : Int))), (2, (0, (memS (fun j => (inM h ((j : Nat) : Int) m c).1) b))), (0, (2, ((193 : Nat) : Int))), (1, (0, (m)))]) (st' := [(0, ((b : Nat) : Int)), (2, ((193 : Nat) : Int)), (0, (memS (fun j => (inM h ((j : Nat) : Int) m c).1) b))]) (h' := h) (o198_14 hB) rfl ?_
        refine w_pl (pc' := 23) (lv' := [(3, (0, ((b : Nat) : Int))), (2, (0, (memS (fun j => (inM h ((j : Nat) : Int) m c).1) b))), (0, (2, ((193 : Nat) : Int))), (1, (0, (m)))]) (st' := [(0, (m)), (0, ((b : Nat) : Int)), (2, ((193 : Nat) : Int)), (0, (memS (fun j => (inM h ((j : Nat) : Int) m c).1) b))]) (h' := h) (o198_15 hB) rfl ?_
        refine w_callV (A := 193) (as := [(0, ((b : Nat) : Int)), (0, (m))]) (rest := [(0, (memS (fun j => (inM h ((j : Nat) : Int) m c).1) b))]) (n := 2) (pc' := 26) 11 hB (o198_16 hB) rfl (by decide +kernel) rfl rfl (Nat.le_of_ble_eq_true rfl) (m_isInM hB ht hc lc ?_)
        show HW g l _ 198 _ _ 26 [(3, (0, ((b : Nat) : Int))), (2, (0, (memS (fun j => (inM h ((j : Nat) : Int) m c).1) b))), (0, (2, ((193 : Nat) : Int))), (1, (0, (m)))] [(0, ((inM h ((b : Nat) : Int) m c).1)), (0, (memS (fun j => (inM h ((j : Nat) : Int) m c).1) b))] h
        refine w_ifc (pt := 35) (pf := 29) (o198_17 hB) (by decide) rfl (fun e => ?_) (fun e => ?_)
        · have f193 : (((inM h ((b : Nat) : Int) m c).1) = (0)) := e
          refine w_pl (pc' := 36) (lv' := [(3, (0, ((b : Nat) : Int))), (2, (0, (memS (fun j => (inM h ((j : Nat) : Int) m c).1) b))), (0, (2, ((193 : Nat) : Int))), (1, (0, (m)))]) (st' := [(0, ((0 : Nat) : Int)), (0, (memS (fun j => (inM h ((j : Nat) : Int) m c).1) b))]) (h' := h) (o198_22 hB) rfl ?_
          refine w_ior (z := (orI (memS (fun j => (inM h ((j : Nat) : Int) m c).1) b) ((0 : Nat) : Int))) (pc' := 37) (o198_23 hB) rfl rfl ?_
          refine w_st (tg := 0) (j := 2) (len := 1) (pc' := 38) (lv' := [(2, (0, (orI (memS (fun j => (inM h ((j : Nat) : Int) m c).1) b) ((0 : Nat) : Int)))), (3, (0, ((b : Nat) : Int))), (0, (2, ((193 : Nat) : Int))), (1, (0, (m)))]) (o198_24 hB) rfl rfl ml198 (by decide) rfl ?_
          refine w_iinc (x := ((b : Nat) : Int)) (z := (((b + 1) : Nat) : Int)) (pc' := 41) (lv' := [(3, (0, (((b + 1) : Nat) : Int))), (2, (0, (orI (memS (fun j => (inM h ((j : Nat) : Int) m c).1) b) ((0 : Nat) : Int)))), (0, (2, ((193 : Nat) : Int))), (1, (0, (m)))]) (o198_25 hB) rfl rfl ml198 (by decide) (w32_e (by omega) (by omega)) rfl ?_
          refine w_goto (pt := 13) (o198_26 hB) (by decide) ?_
          refine w_sub (lv' := [(3, (0, (((b + 1) : Nat) : Int))), (2, (0, (orI (memS (fun j => (inM h ((j : Nat) : Int) m c).1) b) ((0 : Nat) : Int)))), (0, (2, ((193 : Nat) : Int))), (1, (0, (m)))]) (List.forall_mem_cons.mpr ⟨(List.Mem.head _), (List.forall_mem_cons.mpr ⟨(List.Mem.tail _ (List.Mem.head _)), (List.forall_mem_cons.mpr ⟨(List.Mem.tail _ (List.Mem.tail _ (List.Mem.head _))), (List.forall_mem_cons.mpr ⟨(List.Mem.tail _ (List.Mem.tail _ (List.Mem.tail _ (List.Mem.head _)))), (fun _ hx => by cases hx)⟩)⟩)⟩)⟩) ?_
          have e1 : (orI (memS (fun j => (inM h ((j : Nat) : Int) m c).1) b) ((0 : Nat) : Int)) = memS (fun j => (inM h ((j : Nat) : Int) m c).1) (b + 1) := by
            simp only [memS]
            rw [if_pos (by omega)]
            exact orI_z (memS_in _)
          rw [e1]
          exact ih (b + 1) (by omega)
        · have f194 : ¬ (((inM h ((b : Nat) : Int) m c).1) = (0)) := e
          refine w_pl (pc' := 30) (lv' := [(3, (0, ((b : Nat) : Int))), (2, (0, (memS (fun j => (inM h ((j : Nat) : Int) m c).1) b))), (0, (2, ((193 : Nat) : Int))), (1, (0, (m)))]) (st' := [(0, ((1 : Nat) : Int)), (0, (memS (fun j => (inM h ((j : Nat) : Int) m c).1) b))]) (h' := h) (o198_18 hB) rfl ?_
          refine w_pl (pc' := 31) (lv' := [(3, (0, ((b : Nat) : Int))), (2, (0, (memS (fun j => (inM h ((j : Nat) : Int) m c).1) b))), (0, (2, ((193 : Nat) : Int))), (1, (0, (m)))]) (st' := [(0, ((b : Nat) : Int)), (0, ((1 : Nat) : Int)), (0, (memS (fun j => (inM h ((j : Nat) : Int) m c).1) b))]) (h' := h) (o198_19 hB) rfl ?_
          refine w_ishl (z := (shlI ((1 : Nat) : Int) ((b : Nat) : Int))) (pc' := 32) (o198_20 hB) rfl rfl ?_
          refine w_goto (pt := 36) (o198_21 hB) (by decide) ?_
          refine w_ior (z := (orI (memS (fun j => (inM h ((j : Nat) : Int) m c).1) b) (shlI ((1 : Nat) : Int) ((b : Nat) : Int)))) (pc' := 37) (o198_23 hB) rfl rfl ?_
          refine w_st (tg := 0) (j := 2) (len := 1) (pc' := 38) (lv' := [(2, (0, (orI (memS (fun j => (inM h ((j : Nat) : Int) m c).1) b) (shlI ((1 : Nat) : Int) ((b : Nat) : Int))))), (3, (0, ((b : Nat) : Int))), (0, (2, ((193 : Nat) : Int))), (1, (0, (m)))]) (o198_24 hB) rfl rfl ml198 (by decide) rfl ?_
          refine w_iinc (x := ((b : Nat) : Int)) (z := (((b + 1) : Nat) : Int)) (pc' := 41) (lv' := [(3, (0, (((b + 1) : Nat) : Int))), (2, (0, (orI (memS (fun j => (inM h ((j : Nat) : Int) m c).1) b) (shlI ((1 : Nat) : Int) ((b : Nat) : Int))))), (0, (2, ((193 : Nat) : Int))), (1, (0, (m)))]) (o198_25 hB) rfl rfl ml198 (by decide) (w32_e (by omega) (by omega)) rfl ?_
          refine w_goto (pt := 13) (o198_26 hB) (by decide) ?_
          refine w_sub (lv' := [(3, (0, (((b + 1) : Nat) : Int))), (2, (0, (orI (memS (fun j => (inM h ((j : Nat) : Int) m c).1) b) (shlI ((1 : Nat) : Int) ((b : Nat) : Int))))), (0, (2, ((193 : Nat) : Int))), (1, (0, (m)))]) (List.forall_mem_cons.mpr ⟨(List.Mem.head _), (List.forall_mem_cons.mpr ⟨(List.Mem.tail _ (List.Mem.head _)), (List.forall_mem_cons.mpr ⟨(List.Mem.tail _ (List.Mem.tail _ (List.Mem.head _))), (List.forall_mem_cons.mpr ⟨(List.Mem.tail _ (List.Mem.tail _ (List.Mem.tail _ (List.Mem.head _)))), (fun _ hx => by cases hx)⟩)⟩)⟩)⟩) ?_
          have e1 : (orI (memS (fun j => (inM h ((j : Nat) : Int) m c).1) b) (shlI ((1 : Nat) : Int) ((b : Nat) : Int))) = memS (fun j => (inM h ((j : Nat) : Int) m c).1) (b + 1) := by
            simp only [memS]
            rw [if_neg (by omega)]
            rfl
          rw [e1]
          exact ih (b + 1) (by omega)
  refine mh_go hB mg198 ml198 (Nat.le_of_ble_eq_true rfl) ?_
  show HW g l (d + 1 + 1) 198 _ _ 0 [(0, (2, ((193 : Nat) : Int))), (1, (0, (m)))] [] h
  refine w_pl (pc' := 1) (lv' := [(0, (2, ((193 : Nat) : Int))), (1, (0, (m)))]) (st' := [(0, (m))]) (h' := h) (o198_0 hB) rfl ?_
  refine w_callS (as := [(0, (m))]) (rest := []) (n := 1) (pc' := 4) hB (o198_1 hB) rfl (by decide +kernel) rfl rfl (Nat.le_of_ble_eq_true rfl) (m_isMonthM hB (fun f195 => ?_) (fun f196 => ?_))
  · show HW g l _ 198 _ _ 4 [(0, (2, ((193 : Nat) : Int))), (1, (0, (m)))] [(0, ((1 : Nat) : Int))] h
    refine w_ifc (pt := 9) (pf := 7) (o198_2 hB) (by decide) rfl (fun e => ?_) (fun e => ?_)
    · have f197 : (((1 : Nat) : Int) ≠ (0)) := e
      refine w_pl (pc' := 10) (lv' := [(0, (2, ((193 : Nat) : Int))), (1, (0, (m)))]) (st' := [(0, ((0 : Nat) : Int))]) (h' := h) (o198_5 hB) rfl ?_
      refine w_st (tg := 0) (j := 2) (len := 1) (pc' := 11) (lv' := [(2, (0, ((0 : Nat) : Int))), (0, (2, ((193 : Nat) : Int))), (1, (0, (m)))]) (o198_6 hB) rfl rfl ml198 (by decide) rfl ?_
      refine w_pl (pc' := 12) (lv' := [(2, (0, ((0 : Nat) : Int))), (0, (2, ((193 : Nat) : Int))), (1, (0, (m)))]) (st' := [(0, ((0 : Nat) : Int))]) (h' := h) (o198_7 hB) rfl ?_
      refine w_st (tg := 0) (j := 3) (len := 1) (pc' := 13) (lv' := [(3, (0, ((0 : Nat) : Int))), (2, (0, ((0 : Nat) : Int))), (0, (2, ((193 : Nat) : Int))), (1, (0, (m)))]) (o198_8 hB) rfl rfl ml198 (by decide) rfl ?_
      refine w_sub (lv' := [(3, (0, ((0 : Nat) : Int))), (2, (0, ((0 : Nat) : Int))), (0, (2, ((193 : Nat) : Int))), (1, (0, (m)))]) (List.forall_mem_cons.mpr ⟨(List.Mem.head _), (List.forall_mem_cons.mpr ⟨(List.Mem.tail _ (List.Mem.head _)), (List.forall_mem_cons.mpr ⟨(List.Mem.tail _ (List.Mem.tail _ (List.Mem.head _))), (List.forall_mem_cons.mpr ⟨(List.Mem.tail _ (List.Mem.tail _ (List.Mem.tail _ (List.Mem.head _)))), (fun _ hx => by cases hx)⟩)⟩)⟩)⟩) ?_
      exact loop (by omega) 8 0 (by omega)
    · have f198 : ¬ (((1 : Nat) : Int) ≠ (0)) := e
      exfalso; omega
  · show HW g l _ 198 _ _ 4 [(0, (2, ((193 : Nat) : Int))), (1, (0, (m)))] [(0, ((0 : Nat) : Int))] h
    refine w_ifc (pt := 9) (pf := 7) (o198_2 hB) (by decide) rfl (fun e => ?_) (fun e => ?_)
    · have f199 : (((0 : Nat) : Int) ≠ (0)) := e
      exfalso; omega
    · have f200 : ¬ (((0 : Nat) : Int) ≠ (0)) := e
      refine w_pl (pc' := 8) (lv' := [(0, (2, ((193 : Nat) : Int))), (1, (0, (m)))]) (st' := [(0, (-1))]) (h' := h) (o198_3 hB) rfl ?_
      exact w_iret (o198_4 hB) mr198 (by unfold in32; omega) (a0 (by omega))
def s_membersM (vs : List bV) (h : bH) (r : Option bV) (h' : bH) : Prop := TH h ∧ ∀ (m : Int) (c : Nat) , vs = [(2, ((193 : Nat) : Int)), (0, m)] → h 194 10 = (c : Int) → ((¬ (0 ≤ m ∧ m ≤ 239)) ∧ r = some (0, (-1)) ∧ h = h') ∨ ((0 ≤ m ∧ m ≤ 239) ∧ r = some (0, (memS (fun j => (inM h ((j : Nat) : Int) m c).1) 8)) ∧ h = h')
def w_membersM : List (Nat × Nat × Nat) := []
def q_membersM : aCt := cH 198 2 w_membersM 1 193
theorem sk_membersM (hB : BytesOK) (g : bG) (l : Launch) : SK g l gT q_membersM s_membersM := by
  intro d hd ρ h Q hcore hQ
  have hcore : core (PofW gT (some w_membersM) false) (gsc g) h ρ h (List.replicate 1 r32, [], [], 212) := hcore
  have ht := hTH hcore
  have y0 := r32_0 hcore 0 (by decide)
  have y00 := y0
  unfold in32 at y00
  obtain ⟨c, hc, lc⟩ := nat_to ht (a := 194) (j := 10) (n := 24) (by decide +kernel)
  obtain ⟨d', rfl⟩ : ∃ d', d = d' + 1 + 1 := ⟨d - 2, by have : 2 ≤ d := hd; omega⟩
  rw [show evS ρ (ctA q_membersM) = [(2, ((193 : Nat) : Int)), (0, ρ 0)] from evA1]
  refine m_membersM (m := ρ 0) hB ht y0 hc lc (fun hn => ?_) (fun hn => ?_)
  · refine hQ _ _ (hpost hcore (ht) (fun _ _ _ => rfl) (by unfold in32; omega)) ⟨ht, fun m c_c hv e_c => ?_⟩
    have hv := (evA1 (ρ := ρ)).symm.trans hv
    obtain rfl := vsA1 hv
    obtain rfl : c_c = c := by have := e_c.symm.trans hc; omega
    exact Or.inl ⟨hn, rfl, rfl⟩
  · refine hQ _ _ (hpost hcore (ht) (fun _ _ _ => rfl) (memS_in _)) ⟨ht, fun m c_c hv e_c => ?_⟩
    have hv := (evA1 (ρ := ρ)).symm.trans hv
    obtain rfl := vsA1 hv
    obtain rfl : c_c = c := by have := e_c.symm.trans hc; omega
    exact Or.inr (⟨hn, rfl, rfl⟩)
