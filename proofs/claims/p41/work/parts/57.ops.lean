/-! RANGES OF PLACES, AS THEY ARE ASKED FOR -/
theorem ty_182_s0 {h : bH} (ht : TH h) {j r : Nat} (e : j = 0 + 1 * r) (hr : r < 4) : (-1) ≤ h 182 j ∧ h 182 j ≤ 3 := by
  subst e
  exact ht.s2 (s := 0) (st := 1) (n := 4) (by decide +kernel) hr
theorem ty_183_s0 {h : bH} (ht : TH h) {j r : Nat} (e : j = 0 + 1 * r) (hr : r < 4) : (0) ≤ h 183 j ∧ h 183 j ≤ 40 := by
  subst e
  exact ht.s2 (s := 0) (st := 1) (n := 4) (by decide +kernel) hr
theorem ty_205_s0 {h : bH} (ht : TH h) {j r : Nat} (e : j = 0 + 1 * r) (hr : r < 4) : (-1) ≤ h 205 j ∧ h 205 j ≤ 7 := by
  subst e
  exact ht.s2 (s := 0) (st := 1) (n := 4) (by decide +kernel) hr
theorem ty_209_s0 {h : bH} (ht : TH h) {j r : Nat} (e : j = 0 + 1 * r) (hr : r < 4) : (0) ≤ h 209 j ∧ h 209 j ≤ 4 := by
  subst e
  exact ht.s2 (s := 0) (st := 1) (n := 4) (by decide +kernel) hr
theorem ty_210_s0 {h : bH} (ht : TH h) {j r : Nat} (e : j = 0 + 1 * r) (hr : r < 4) : (0) ≤ h 210 j ∧ h 210 j ≤ 23 := by
  subst e
  exact ht.s2 (s := 0) (st := 1) (n := 4) (by decide +kernel) hr
theorem ty_206_s0 {h : bH} (ht : TH h) {j r : Nat} (e : j = 0 + 1 * r) (hr : r < 8) : (0) ≤ h 206 j ∧ h 206 j ≤ 3 := by
  subst e
  exact ht.s2 (s := 0) (st := 1) (n := 8) (by decide +kernel) hr
theorem ty_207_s0 {h : bH} (ht : TH h) {j r : Nat} (e : j = 0 + 1 * r) (hr : r < 8) : (0) ≤ h 207 j ∧ h 207 j ≤ 40 := by
  subst e
  exact ht.s2 (s := 0) (st := 1) (n := 8) (by decide +kernel) hr
theorem ty_0_c2 {h : bH} (ht : TH h) : (0) ≤ h 0 2 ∧ h 0 2 ≤ 1 := ht.c (by decide +kernel)
/-! ROWS OF THE SHEETS: an array told by a number, fills, a negative dividend -/
def hz (h : bH) (A s n : Nat) : bH := fun a j => if a = A ∧ s ≤ j ∧ j < s + n then 0 else h a j
theorem hz_0 {h : bH} {A s : Nat} : hz h A s 0 = h := funext fun a => funext fun j => if_neg (fun e => by omega)
theorem hz_s {h : bH} {A s n : Nat} : hz (hup h A s 0) A (s + 1) n = hz h A s (n + 1) := funext fun a => funext fun j => by
  unfold hz hup
  by_cases e : a = A ∧ s + 1 ≤ j ∧ j < s + 1 + n
  · rw [if_pos e, if_pos ⟨e.1, by omega, by omega⟩]
  · rw [if_neg e]
    by_cases e2 : a = A ∧ j = s
    · rw [if_pos e2, if_pos ⟨e2.1, by omega, by omega⟩]
    · rw [if_neg e2, if_neg (fun w => by
        by_cases e3 : j = s
        · exact e2 ⟨w.1, e3⟩
        · exact e ⟨w.1, by omega, by omega⟩)]
theorem hz_ne {h : bH} {A s n b i : Nat} (hc : ¬ (b = A ∧ s ≤ i ∧ i < s + n)) : hz h A s n b i = h b i := if_neg hc
theorem hz_in {h : bH} {A s n i : Nat} (h1 : s ≤ i) (h2 : i < s + n) : hz h A s n A i = 0 := if_pos ⟨rfl, h1, h2⟩
theorem TH.hz {h : bH} (ht : TH h) {a s n : Nat} (hv : ∀ j, s ≤ j → j < s + n → j < (sh a).2 → (tyP (PofW gT none false) a j).1 ≤ 0 ∧ 0 ≤ (tyP (PofW gT none false) a j).2) : TH (hz h a s n) := fun a' j ha hj => by
  by_cases e : a' = a ∧ s ≤ j ∧ j < s + n
  · obtain ⟨rfl, e1, e2⟩ := e
    rw [hz_in e1 e2]
    exact hv j e1 e2 hj
  · rw [hz_ne e]
    exact ht a' j ha hj
theorem fr_hz {w : aW} {h h1 : bH} {A s n : Nat} (hq : ∀ a j, wrF w a j = false → h1 a j = h a j) (hi : ∀ j, s ≤ j → j < s + n → wrF w A j = true) : ∀ a j, wrF w a j = false → hz h1 A s n a j = h a j := fun a j e => by
  rw [hz_ne (fun q => by rw [q.1, hi j q.2.1 q.2.2] at e; cases e)]
  exact hq a j e
theorem h184 {h : bH} (hR : TR h) {s : Nat} (hs : s < 4) : h 184 s = ((185 + s : Nat) : Int) := by
  match s, hs with
  | 0, _ => exact hR (184, 0, 185) (by decide)
  | 1, _ => exact hR (184, 1, 186) (by decide)
  | 2, _ => exact hR (184, 2, 187) (by decide)
  | 3, _ => exact hR (184, 3, 188) (by decide)
theorem ar185 {s : Nat} (hs : s < 4) : arB 1 (185 + s) 40 = true := by
  match s, hs with
  | 0, _ => decide +kernel
  | 1, _ => decide +kernel
  | 2, _ => decide +kernel
  | 3, _ => decide +kernel
theorem ty185 {s : Nat} (hs : s < 4) {j : Nat} (hj : j < 40) : tyP (PofW gT none false) (185 + s) j = (-2147483648, 2147483647) := by
  have e : ∀ s : Fin 4, gT.2 (185 + s.val) = some (-2147483648, 2147483647) := by decide +kernel
  show (match gT.2 (185 + s) with
    | some r => r
    | none => gT.1 (185 + s) j) = _
  rw [e ⟨s, hs⟩]
theorem sh185 {s : Nat} (hs : s < 4) : 185 + s < 212 ∧ (sh (185 + s)).2 = 40 := by
  match s, hs with
  | 0, _ => decide +kernel
  | 1, _ => decide +kernel
  | 2, _ => decide +kernel
  | 3, _ => decide +kernel
theorem t185 {h : bH} (ht : TH h) {s i : Nat} (hs : s < 4) (hi : i < 40) : -2147483648 ≤ h (185 + s) i ∧ h (185 + s) i ≤ 2147483647 := by
  have := ht (185 + s) i (sh185 hs).1 (by rw [(sh185 hs).2]; exact hi)
  rw [ty185 hs hi] at this
  exact this
theorem up185 {h : bH} (ht : TH h) {s i : Nat} (hs : s < 4) (hi : i < 40) {v : Int} (hv : -2147483648 ≤ v ∧ v ≤ 2147483647) : TH (hup h (185 + s) i v) := ht.up (by rw [ty185 hs hi]; exact hv)
theorem TR_up {h : bH} (hR : TR h) {a j : Nat} {v : Int} (hn : (rfL.all fun q => !(q.1 == a && q.2.1 == j)) = true) : TR (hup h a j v) := fun q hq => by
  have := List.all_eq_true.mp hn q hq
  rw [Bool.not_eq_true', Bool.and_eq_false_iff] at this
  show (if q.1 = a ∧ q.2.1 = j then v else h q.1 q.2.1) = _
  rw [if_neg (fun e => by rcases this with w | w <;> simp [e.1, e.2] at w)]
  exact hR q hq
theorem rf185 : ∀ s : Fin 4, ∀ q ∈ rfL, q.1 ≠ 185 + s.val := by decide +kernel
theorem TR_185 {h : bH} (hR : TR h) {s j : Nat} {v : Int} (hs : s < 4) : TR (hup h (185 + s) j v) := fun q hq => by
  rw [hup_ne (rf185 ⟨s, hs⟩ q hq)]
  exact hR q hq
theorem TR_a {h : bH} (hR : TR h) {a j : Nat} {v : Int} (hn : (rfL.all fun q => !(q.1 == a)) = true) : TR (hup h a j v) := fun q hq => by
  have := List.all_eq_true.mp hn q hq
  rw [Bool.not_eq_true', beq_eq_false_iff_ne] at this
  rw [hup_ne this]
  exact hR q hq
theorem hz_w185 {w : List (Nat × Nat × Nat)} {s j : Nat} (hw : (185, 0, 40) ∈ w ∧ (186, 0, 40) ∈ w ∧ (187, 0, 40) ∈ w ∧ (188, 0, 40) ∈ w) (hs : s < 4) (hj : j < 40) : wrF (some w) (185 + s) j = true := by
  match s, hs with
  | 0, _ => exact wr_in hw.1 (Nat.zero_le _) hj
  | 1, _ => exact wr_in hw.2.1 (Nat.zero_le _) hj
  | 2, _ => exact wr_in hw.2.2.1 (Nat.zero_le _) hj
  | 3, _ => exact wr_in hw.2.2.2 (Nat.zero_le _) hj
theorem divI_n {x y : Int} (hx : x < 0) (h2 : -2147483648 ≤ x) (hy : 0 < y) : divI x y = some (-((-x) / y)) := by
  unfold divI
  rw [if_neg (by omega)]
  have e : x.tdiv y = -((-x) / y) := by
    rw [show x = -(-x) by omega, Int.neg_tdiv, Int.tdiv_eq_ediv_of_nonneg (by omega)]
    simp
  rw [e]
  have h3 := Int.ediv_nonneg (a := -x) (b := y) (by omega) (by omega)
  have h4 : (-x) / y ≤ -x := Int.ediv_le_self y (by omega)
  rw [w32_e ⟨by omega, by omega⟩ rfl]
theorem remI_n {x y : Int} (hx : x < 0) (hy : 0 < y) : remI x y = some (-((-x) % y)) := by
  unfold remI
  rw [if_neg (by omega)]
  rw [show x = -(-x) by omega, Int.neg_tmod, Int.tmod_eq_emod_of_nonneg (by omega)]
  simp
theorem w64_e {x z : Int} (h : -9223372036854775808 ≤ z ∧ z ≤ 9223372036854775807) (e : x = z) : w64 x = z := by
  rw [e]
  exact w64_id h
theorem divL_p {x y : Int} (hx : 0 ≤ x) (h2 : x ≤ 9223372036854775807) (hy : 0 < y) : divL x y = some (x / y) := by
  unfold divL
  rw [if_neg (by omega), Int.tdiv_eq_ediv_of_nonneg hx]
  have h3 := Int.ediv_nonneg hx (Int.le_of_lt hy)
  have h4 : x / y ≤ x := Int.ediv_le_self y hx
  rw [w64_e ⟨by omega, by omega⟩ rfl]
theorem remL_p {x y : Int} (hx : 0 ≤ x) (hy : 0 < y) : remL x y = some (x % y) := by
  unfold remL
  rw [if_neg (by omega), Int.tmod_eq_emod_of_nonneg hx]
theorem sB_x {a s n : Nat} {lo hi : Int} (hb : sB a s n lo hi = true) {j : Nat} (h1 : s ≤ j) (h2 : j < s + n) : tyP (PofW gT none false) a j = (lo, hi) := by
  have := List.all_eq_true.mp hb (j - s) (List.mem_range.mpr (by omega))
  rw [show s + (j - s) = j by omega] at this
  unfold cB at this
  simp only [Bool.and_eq_true, decide_eq_true_eq] at this
  exact this.2.2
theorem sB_x2 {h : bH} (ht : TH h) {a n : Nat} (hb : sB a 0 n (-2147483648) 2147483647 = true) {j : Nat} (h2 : j < n) : -2147483648 ≤ h a j ∧ h a j ≤ 2147483647 := ht.s hb (Nat.zero_le _) (by omega)
theorem up208 {h : bH} (ht : TH h) {j : Nat} (hj : j < 320) {v : Int} (hv : -2147483648 ≤ v ∧ v ≤ 2147483647) : TH (hup h 208 j v) := ht.up (by
  rw [sB_x (a := 208) (s := 0) (n := 320) (lo := -2147483648) (hi := 2147483647) (by decide +kernel) (Nat.zero_le j) (by omega)]
  exact hv)

theorem m_in (hB : BytesOK) {g : bG} {l : Launch} {d : Nat} {Q : bQ} {h : bH} {x lo hi : Int} (h1 : lo ≤ x ∧ x ≤ hi → Q (some (0, 1)) h) (h0 : ¬ (lo ≤ x ∧ x ≤ hi) → Q (some (0, 0)) h) : MH g l d 184 212 212 [(0, x), (0, lo), (0, hi)] h Q := by
  refine mh_go hB mg184 ml184 (Nat.le_of_ble_eq_true rfl) ?_
  show HW g l d 184 _ _ 0 [(0, (0, (x))), (1, (0, (lo))), (2, (0, (hi)))] [] h
  refine w_pl (pc' := 1) (lv' := [(0, (0, (x))), (1, (0, (lo))), (2, (0, (hi)))]) (st' := [(0, (x))]) (h' := h) (o184_0 hB) rfl ?_
  refine w_pl (pc' := 2) (lv' := [(0, (0, (x))), (1, (0, (lo))), (2, (0, (hi)))]) (st' := [(0, (lo)), (0, (x))]) (h' := h) (o184_1 hB) rfl ?_
  refine w_icmp (pt := 14) (pf := 5) (o184_2 hB) (by decide) rfl (fun e => ?_) (fun e => ?_)
  · have f1 : ((x) < (lo)) := e
    refine w_pl (pc' := 15) (lv' := [(0, (0, (x))), (1, (0, (lo))), (2, (0, (hi)))]) (st' := [(0, ((0 : Nat) : Int))]) (h' := h) (o184_8 hB) rfl ?_
    exact w_zret (o184_9 hB) mr184 (by decide) (h0 (by omega))
  · have f2 : ¬ ((x) < (lo)) := e
    refine w_pl (pc' := 6) (lv' := [(0, (0, (x))), (1, (0, (lo))), (2, (0, (hi)))]) (st' := [(0, (x))]) (h' := h) (o184_3 hB) rfl ?_
    refine w_pl (pc' := 7) (lv' := [(0, (0, (x))), (1, (0, (lo))), (2, (0, (hi)))]) (st' := [(0, (hi)), (0, (x))]) (h' := h) (o184_4 hB) rfl ?_
    refine w_icmp (pt := 14) (pf := 10) (o184_5 hB) (by decide) rfl (fun e => ?_) (fun e => ?_)
    · have f3 : ((hi) < (x)) := e
      refine w_pl (pc' := 15) (lv' := [(0, (0, (x))), (1, (0, (lo))), (2, (0, (hi)))]) (st' := [(0, ((0 : Nat) : Int))]) (h' := h) (o184_8 hB) rfl ?_
      exact w_zret (o184_9 hB) mr184 (by decide) (h0 (by omega))
    · have f4 : ¬ ((hi) < (x)) := e
      refine w_pl (pc' := 11) (lv' := [(0, (0, (x))), (1, (0, (lo))), (2, (0, (hi)))]) (st' := [(0, ((1 : Nat) : Int))]) (h' := h) (o184_6 hB) rfl ?_
      refine w_goto (pt := 15) (o184_7 hB) (by decide) ?_
      exact w_zret (o184_9 hB) mr184 (by decide) (h1 (by omega))
theorem m_isMonthM (hB : BytesOK) {g : bG} {l : Launch} {d : Nat} {Q : bQ} {h : bH} {x : Int} (h1 : 0 ≤ x ∧ x ≤ 239 → Q (some (0, 1)) h) (h0 : ¬ (0 ≤ x ∧ x ≤ 239) → Q (some (0, 0)) h) : MH g l (d + 1) 185 212 212 [(0, x)] h Q := by
  refine mh_go hB mg185 ml185 (Nat.le_of_ble_eq_true rfl) ?_
  show HW g l (d + 1) 185 _ _ 0 [(0, (0, (x)))] [] h
  refine w_pl (pc' := 1) (lv' := [(0, (0, (x)))]) (st' := [(0, (x))]) (h' := h) (o185_0 hB) rfl ?_
  refine w_pl (pc' := 2) (lv' := [(0, (0, (x)))]) (st' := [(0, ((0 : Nat) : Int)), (0, (x))]) (h' := h) (o185_1 hB) rfl ?_
  refine w_pl (pc' := 5) (lv' := [(0, (0, (x)))]) (st' := [(0, ((239 : Nat) : Int)), (0, ((0 : Nat) : Int)), (0, (x))]) (h' := h) (o185_2 hB) rfl ?_
  refine w_callS (as := [(0, (x)), (0, ((0 : Nat) : Int)), (0, ((239 : Nat) : Int))]) (rest := []) (n := 3) (pc' := 8) hB (o185_3 hB) rfl (by decide +kernel) rfl rfl (Nat.le_of_ble_eq_true rfl) (m_in hB (fun f5 => ?_) (fun f6 => ?_))
  · show HW g l _ 185 _ _ 8 [(0, (0, (x)))] [(0, ((1 : Nat) : Int))] h
    exact w_zret (o185_4 hB) mr185 (by decide) (h1 (by omega))
  · show HW g l _ 185 _ _ 8 [(0, (0, (x)))] [(0, ((0 : Nat) : Int))] h
    exact w_zret (o185_4 hB) mr185 (by decide) (h0 (by omega))
theorem m_isMonthB (hB : BytesOK) {g : bG} {l : Launch} {d : Nat} {Q : bQ} {h : bH} {x : Int} (h1 : 0 ≤ x ∧ x ≤ 239 → Q (some (0, 1)) h) (h0 : ¬ (0 ≤ x ∧ x ≤ 239) → Q (some (0, 0)) h) : MH g l d 171 212 212 [(0, x)] h Q := by
  refine mh_go hB mg171 ml171 (Nat.le_of_ble_eq_true rfl) ?_
  show HW g l d 171 _ _ 0 [(0, (0, (x)))] [] h
  refine w_pl (pc' := 1) (lv' := [(0, (0, (x)))]) (st' := [(0, (x))]) (h' := h) (o171_0 hB) rfl ?_
  refine w_ifc (pt := 15) (pf := 4) (o171_1 hB) (by decide) rfl (fun e => ?_) (fun e => ?_)
  · have f7 : ((x) < (0)) := e
    refine w_pl (pc' := 16) (lv' := [(0, (0, (x)))]) (st' := [(0, ((0 : Nat) : Int))]) (h' := h) (o171_7 hB) rfl ?_
    exact w_zret (o171_8 hB) mr171 (by decide) (h0 (by omega))
  · have f8 : ¬ ((x) < (0)) := e
    refine w_pl (pc' := 5) (lv' := [(0, (0, (x)))]) (st' := [(0, (x))]) (h' := h) (o171_2 hB) rfl ?_
    refine w_pl (pc' := 8) (lv' := [(0, (0, (x)))]) (st' := [(0, ((240 : Nat) : Int)), (0, (x))]) (h' := h) (o171_3 hB) rfl ?_
    refine w_icmp (pt := 15) (pf := 11) (o171_4 hB) (by decide) rfl (fun e => ?_) (fun e => ?_)
    · have f9 : (((240 : Nat) : Int) ≤ (x)) := e
      refine w_pl (pc' := 16) (lv' := [(0, (0, (x)))]) (st' := [(0, ((0 : Nat) : Int))]) (h' := h) (o171_7 hB) rfl ?_
      exact w_zret (o171_8 hB) mr171 (by decide) (h0 (by omega))
    · have f10 : ¬ (((240 : Nat) : Int) ≤ (x)) := e
      refine w_pl (pc' := 12) (lv' := [(0, (0, (x)))]) (st' := [(0, ((1 : Nat) : Int))]) (h' := h) (o171_5 hB) rfl ?_
      refine w_goto (pt := 16) (o171_6 hB) (by decide) ?_
      exact w_zret (o171_8 hB) mr171 (by decide) (h1 (by omega))
theorem m_isWhereM (hB : BytesOK) {g : bG} {l : Launch} {d : Nat} {Q : bQ} {h : bH} {x : Int} (z_x : in32 x) (h1 : 0 ≤ x ∧ x / 10000 < 6 ∧ x / 1000 % 10 < 4 ∧ x % 1000 < 240 → Q (some (0, 1)) h) (h0 : ¬ (0 ≤ x ∧ x / 10000 < 6 ∧ x / 1000 % 10 < 4 ∧ x % 1000 < 240) → Q (some (0, 0)) h) : MH g l (d + 1 + 1) 229 212 212 [(0, x)] h Q := by
  have z0_x := z_x
  unfold in32 at z0_x
  refine mh_go hB mg229 ml229 (Nat.le_of_ble_eq_true rfl) ?_
  show HW g l (d + 1 + 1) 229 _ _ 0 [(0, (0, (x)))] [] h
  refine w_pl (pc' := 1) (lv' := [(0, (0, (x)))]) (st' := [(0, (x))]) (h' := h) (o229_0 hB) rfl ?_
  refine w_pl (pc' := 2) (lv' := [(0, (0, (x)))]) (st' := [(0, ((0 : Nat) : Int)), (0, (x))]) (h' := h) (o229_1 hB) rfl ?_
  refine w_pl (pc' := 4) (lv' := [(0, (0, (x)))]) (st' := [(0, ((53239 : Nat) : Int)), (0, ((0 : Nat) : Int)), (0, (x))]) (h' := h) (o229_2 hB) rfl ?_
  refine w_callS (as := [(0, (x)), (0, ((0 : Nat) : Int)), (0, ((53239 : Nat) : Int))]) (rest := []) (n := 3) (pc' := 7) hB (o229_3 hB) rfl (by decide +kernel) rfl rfl (Nat.le_of_ble_eq_true rfl) (m_in hB (fun f11 => ?_) (fun f12 => ?_))
  · show HW g l _ 229 _ _ 7 [(0, (0, (x)))] [(0, ((1 : Nat) : Int))] h
    refine w_ifc (pt := 37) (pf := 10) (o229_4 hB) (by decide) rfl (fun e => ?_) (fun e => ?_)
    · have f13 : (((1 : Nat) : Int) = (0)) := e
      exfalso; omega
    · have f14 : ¬ (((1 : Nat) : Int) = (0)) := e
      refine w_pl (pc' := 11) (lv' := [(0, (0, (x)))]) (st' := [(0, (x))]) (h' := h) (o229_5 hB) rfl ?_
      refine w_pl (pc' := 14) (lv' := [(0, (0, (x)))]) (st' := [(0, ((1000 : Nat) : Int)), (0, (x))]) (h' := h) (o229_6 hB) rfl ?_
      refine w_idiv (z := ((x) / 1000)) (pc' := 15) (o229_7 hB) rfl (divI_p (by omega) (by omega) (by decide)) ?_
      refine w_pl (pc' := 17) (lv' := [(0, (0, (x)))]) (st' := [(0, ((10 : Nat) : Int)), (0, ((x) / 1000))]) (h' := h) (o229_8 hB) rfl ?_
      refine w_irem (z := (((x) / 1000) % 10)) (pc' := 18) (o229_9 hB) rfl (remI_p (by omega) (by decide)) ?_
      refine w_pl (pc' := 19) (lv' := [(0, (0, (x)))]) (st' := [(0, ((4 : Nat) : Int)), (0, (((x) / 1000) % 10))]) (h' := h) (o229_10 hB) rfl ?_
      refine w_icmp (pt := 37) (pf := 22) (o229_11 hB) (by decide) rfl (fun e => ?_) (fun e => ?_)
      · have f15 : (((4 : Nat) : Int) ≤ (((x) / 1000) % 10)) := e
        refine w_pl (pc' := 38) (lv' := [(0, (0, (x)))]) (st' := [(0, ((0 : Nat) : Int))]) (h' := h) (o229_19 hB) rfl ?_
        exact w_zret (o229_20 hB) mr229 (by decide) (h0 (by omega))
      · have f16 : ¬ (((4 : Nat) : Int) ≤ (((x) / 1000) % 10)) := e
        refine w_pl (pc' := 23) (lv' := [(0, (0, (x)))]) (st' := [(0, (x))]) (h' := h) (o229_12 hB) rfl ?_
        refine w_pl (pc' := 26) (lv' := [(0, (0, (x)))]) (st' := [(0, ((1000 : Nat) : Int)), (0, (x))]) (h' := h) (o229_13 hB) rfl ?_
        refine w_irem (z := ((x) % 1000)) (pc' := 27) (o229_14 hB) rfl (remI_p (by omega) (by decide)) ?_
        refine w_callS (as := [(0, ((x) % 1000))]) (rest := []) (n := 1) (pc' := 30) hB (o229_15 hB) rfl (by decide +kernel) rfl rfl (Nat.le_of_ble_eq_true rfl) (m_isMonthM hB (fun f17 => ?_) (fun f18 => ?_))
        · show HW g l _ 229 _ _ 30 [(0, (0, (x)))] [(0, ((1 : Nat) : Int))] h
          refine w_ifc (pt := 37) (pf := 33) (o229_16 hB) (by decide) rfl (fun e => ?_) (fun e => ?_)
          · have f19 : (((1 : Nat) : Int) = (0)) := e
            exfalso; omega
          · have f20 : ¬ (((1 : Nat) : Int) = (0)) := e
            refine w_pl (pc' := 34) (lv' := [(0, (0, (x)))]) (st' := [(0, ((1 : Nat) : Int))]) (h' := h) (o229_17 hB) rfl ?_
            refine w_goto (pt := 38) (o229_18 hB) (by decide) ?_
            exact w_zret (o229_20 hB) mr229 (by decide) (h1 (by omega))
        · show HW g l _ 229 _ _ 30 [(0, (0, (x)))] [(0, ((0 : Nat) : Int))] h
          refine w_ifc (pt := 37) (pf := 33) (o229_16 hB) (by decide) rfl (fun e => ?_) (fun e => ?_)
          · have f21 : (((0 : Nat) : Int) = (0)) := e
            refine w_pl (pc' := 38) (lv' := [(0, (0, (x)))]) (st' := [(0, ((0 : Nat) : Int))]) (h' := h) (o229_19 hB) rfl ?_
            exact w_zret (o229_20 hB) mr229 (by decide) (h0 (by omega))
          · have f22 : ¬ (((0 : Nat) : Int) = (0)) := e
            exfalso; omega
  · show HW g l _ 229 _ _ 7 [(0, (0, (x)))] [(0, ((0 : Nat) : Int))] h
    refine w_ifc (pt := 37) (pf := 10) (o229_4 hB) (by decide) rfl (fun e => ?_) (fun e => ?_)
    · have f23 : (((0 : Nat) : Int) = (0)) := e
      refine w_pl (pc' := 38) (lv' := [(0, (0, (x)))]) (st' := [(0, ((0 : Nat) : Int))]) (h' := h) (o229_19 hB) rfl ?_
      exact w_zret (o229_20 hB) mr229 (by decide) (h0 (by omega))
    · have f24 : ¬ (((0 : Nat) : Int) = (0)) := e
      exfalso; omega
theorem m_isWhereB (hB : BytesOK) {g : bG} {l : Launch} {d : Nat} {Q : bQ} {h : bH} {x : Int} (z_x : in32 x) (h1 : 0 ≤ x ∧ x / 10000 < 6 ∧ x / 1000 % 10 < 4 ∧ x % 1000 < 240 → Q (some (0, 1)) h) (h0 : ¬ (0 ≤ x ∧ x / 10000 < 6 ∧ x / 1000 % 10 < 4 ∧ x % 1000 < 240) → Q (some (0, 0)) h) : MH g l d 177 212 212 [(0, x)] h Q := by
  have z0_x := z_x
  unfold in32 at z0_x
  refine mh_go hB mg177 ml177 (Nat.le_of_ble_eq_true rfl) ?_
  show HW g l d 177 _ _ 0 [(0, (0, (x)))] [] h
  refine w_pl (pc' := 1) (lv' := [(0, (0, (x)))]) (st' := [(0, (x))]) (h' := h) (o177_0 hB) rfl ?_
  refine w_ifc (pt := 41) (pf := 4) (o177_1 hB) (by decide) rfl (fun e => ?_) (fun e => ?_)
  · have f25 : ((x) < (0)) := e
    refine w_pl (pc' := 42) (lv' := [(0, (0, (x)))]) (st' := [(0, ((0 : Nat) : Int))]) (h' := h) (o177_21 hB) rfl ?_
    exact w_zret (o177_22 hB) mr177 (by decide) (h0 (by omega))
  · have f26 : ¬ ((x) < (0)) := e
    refine w_pl (pc' := 5) (lv' := [(0, (0, (x)))]) (st' := [(0, (x))]) (h' := h) (o177_2 hB) rfl ?_
    refine w_pl (pc' := 8) (lv' := [(0, (0, (x)))]) (st' := [(0, ((10000 : Nat) : Int)), (0, (x))]) (h' := h) (o177_3 hB) rfl ?_
    refine w_idiv (z := ((x) / 10000)) (pc' := 9) (o177_4 hB) rfl (divI_p (by omega) (by omega) (by decide)) ?_
    refine w_pl (pc' := 11) (lv' := [(0, (0, (x)))]) (st' := [(0, ((6 : Nat) : Int)), (0, ((x) / 10000))]) (h' := h) (o177_5 hB) rfl ?_
    refine w_icmp (pt := 41) (pf := 14) (o177_6 hB) (by decide) rfl (fun e => ?_) (fun e => ?_)
    · have f27 : (((6 : Nat) : Int) ≤ ((x) / 10000)) := e
      refine w_pl (pc' := 42) (lv' := [(0, (0, (x)))]) (st' := [(0, ((0 : Nat) : Int))]) (h' := h) (o177_21 hB) rfl ?_
      exact w_zret (o177_22 hB) mr177 (by decide) (h0 (by omega))
    · have f28 : ¬ (((6 : Nat) : Int) ≤ ((x) / 10000)) := e
      refine w_pl (pc' := 15) (lv' := [(0, (0, (x)))]) (st' := [(0, (x))]) (h' := h) (o177_7 hB) rfl ?_
      refine w_pl (pc' := 18) (lv' := [(0, (0, (x)))]) (st' := [(0, ((1000 : Nat) : Int)), (0, (x))]) (h' := h) (o177_8 hB) rfl ?_
      refine w_idiv (z := ((x) / 1000)) (pc' := 19) (o177_9 hB) rfl (divI_p (by omega) (by omega) (by decide)) ?_
      refine w_pl (pc' := 21) (lv' := [(0, (0, (x)))]) (st' := [(0, ((10 : Nat) : Int)), (0, ((x) / 1000))]) (h' := h) (o177_10 hB) rfl ?_
      refine w_irem (z := (((x) / 1000) % 10)) (pc' := 22) (o177_11 hB) rfl (remI_p (by omega) (by decide)) ?_
      refine w_pl (pc' := 23) (lv' := [(0, (0, (x)))]) (st' := [(0, ((4 : Nat) : Int)), (0, (((x) / 1000) % 10))]) (h' := h) (o177_12 hB) rfl ?_
      refine w_icmp (pt := 41) (pf := 26) (o177_13 hB) (by decide) rfl (fun e => ?_) (fun e => ?_)
      · have f29 : (((4 : Nat) : Int) ≤ (((x) / 1000) % 10)) := e
        refine w_pl (pc' := 42) (lv' := [(0, (0, (x)))]) (st' := [(0, ((0 : Nat) : Int))]) (h' := h) (o177_21 hB) rfl ?_
        exact w_zret (o177_22 hB) mr177 (by decide) (h0 (by omega))
      · have f30 : ¬ (((4 : Nat) : Int) ≤ (((x) / 1000) % 10)) := e
        refine w_pl (pc' := 27) (lv' := [(0, (0, (x)))]) (st' := [(0, (x))]) (h' := h) (o177_14 hB) rfl ?_
        refine w_pl (pc' := 30) (lv' := [(0, (0, (x)))]) (st' := [(0, ((1000 : Nat) : Int)), (0, (x))]) (h' := h) (o177_15 hB) rfl ?_
        refine w_irem (z := ((x) % 1000)) (pc' := 31) (o177_16 hB) rfl (remI_p (by omega) (by decide)) ?_
        refine w_pl (pc' := 34) (lv' := [(0, (0, (x)))]) (st' := [(0, ((240 : Nat) : Int)), (0, ((x) % 1000))]) (h' := h) (o177_17 hB) rfl ?_
        refine w_icmp (pt := 41) (pf := 37) (o177_18 hB) (by decide) rfl (fun e => ?_) (fun e => ?_)
        · have f31 : (((240 : Nat) : Int) ≤ ((x) % 1000)) := e
          refine w_pl (pc' := 42) (lv' := [(0, (0, (x)))]) (st' := [(0, ((0 : Nat) : Int))]) (h' := h) (o177_21 hB) rfl ?_
          exact w_zret (o177_22 hB) mr177 (by decide) (h0 (by omega))
        · have f32 : ¬ (((240 : Nat) : Int) ≤ ((x) % 1000)) := e
          refine w_pl (pc' := 38) (lv' := [(0, (0, (x)))]) (st' := [(0, ((1 : Nat) : Int))]) (h' := h) (o177_19 hB) rfl ?_
          refine w_goto (pt := 42) (o177_20 hB) (by decide) ?_
          exact w_zret (o177_22 hB) mr177 (by decide) (h1 (by omega))
theorem m_isFourM (hB : BytesOK) {g : bG} {l : Launch} {d : Nat} {Q : bQ} {h : bH} {x : Int} (h1 : 0 ≤ x ∧ x ≤ 3 → Q (some (0, 1)) h) (h0 : ¬ (0 ≤ x ∧ x ≤ 3) → Q (some (0, 0)) h) : MH g l (d + 1) 271 212 212 [(0, x)] h Q := by
  refine mh_go hB mg271 ml271 (Nat.le_of_ble_eq_true rfl) ?_
  show HW g l (d + 1) 271 _ _ 0 [(0, (0, (x)))] [] h
  refine w_pl (pc' := 1) (lv' := [(0, (0, (x)))]) (st' := [(0, (x))]) (h' := h) (o271_0 hB) rfl ?_
  refine w_pl (pc' := 2) (lv' := [(0, (0, (x)))]) (st' := [(0, ((0 : Nat) : Int)), (0, (x))]) (h' := h) (o271_1 hB) rfl ?_
  refine w_pl (pc' := 3) (lv' := [(0, (0, (x)))]) (st' := [(0, ((3 : Nat) : Int)), (0, ((0 : Nat) : Int)), (0, (x))]) (h' := h) (o271_2 hB) rfl ?_
  refine w_callS (as := [(0, (x)), (0, ((0 : Nat) : Int)), (0, ((3 : Nat) : Int))]) (rest := []) (n := 3) (pc' := 6) hB (o271_3 hB) rfl (by decide +kernel) rfl rfl (Nat.le_of_ble_eq_true rfl) (m_in hB (fun f33 => ?_) (fun f34 => ?_))
  · show HW g l _ 271 _ _ 6 [(0, (0, (x)))] [(0, ((1 : Nat) : Int))] h
    exact w_zret (o271_4 hB) mr271 (by decide) (h1 (by omega))
  · show HW g l _ 271 _ _ 6 [(0, (0, (x)))] [(0, ((0 : Nat) : Int))] h
    exact w_zret (o271_4 hB) mr271 (by decide) (h0 (by omega))
theorem m_isSheetB (hB : BytesOK) {g : bG} {l : Launch} {d : Nat} {Q : bQ} {h : bH} {x : Int} (h1 : 0 ≤ x ∧ x ≤ 3 → Q (some (0, 1)) h) (h0 : ¬ (0 ≤ x ∧ x ≤ 3) → Q (some (0, 0)) h) : MH g l d 175 212 212 [(0, x)] h Q := by
  refine mh_go hB mg175 ml175 (Nat.le_of_ble_eq_true rfl) ?_
  show HW g l d 175 _ _ 0 [(0, (0, (x)))] [] h
  refine w_pl (pc' := 1) (lv' := [(0, (0, (x)))]) (st' := [(0, (x))]) (h' := h) (o175_0 hB) rfl ?_
  refine w_ifc (pt := 13) (pf := 4) (o175_1 hB) (by decide) rfl (fun e => ?_) (fun e => ?_)
  · have f35 : ((x) < (0)) := e
    refine w_pl (pc' := 14) (lv' := [(0, (0, (x)))]) (st' := [(0, ((0 : Nat) : Int))]) (h' := h) (o175_7 hB) rfl ?_
    exact w_zret (o175_8 hB) mr175 (by decide) (h0 (by omega))
  · have f36 : ¬ ((x) < (0)) := e
    refine w_pl (pc' := 5) (lv' := [(0, (0, (x)))]) (st' := [(0, (x))]) (h' := h) (o175_2 hB) rfl ?_
    refine w_pl (pc' := 6) (lv' := [(0, (0, (x)))]) (st' := [(0, ((4 : Nat) : Int)), (0, (x))]) (h' := h) (o175_3 hB) rfl ?_
    refine w_icmp (pt := 13) (pf := 9) (o175_4 hB) (by decide) rfl (fun e => ?_) (fun e => ?_)
    · have f37 : (((4 : Nat) : Int) ≤ (x)) := e
      refine w_pl (pc' := 14) (lv' := [(0, (0, (x)))]) (st' := [(0, ((0 : Nat) : Int))]) (h' := h) (o175_7 hB) rfl ?_
      exact w_zret (o175_8 hB) mr175 (by decide) (h0 (by omega))
    · have f38 : ¬ (((4 : Nat) : Int) ≤ (x)) := e
      refine w_pl (pc' := 10) (lv' := [(0, (0, (x)))]) (st' := [(0, ((1 : Nat) : Int))]) (h' := h) (o175_5 hB) rfl ?_
      refine w_goto (pt := 14) (o175_6 hB) (by decide) ?_
      exact w_zret (o175_8 hB) mr175 (by decide) (h1 (by omega))
theorem l_shB (hB : BytesOK) {g : bG} {l : Launch} {d : Nat} {Q : bQ} {s' : Nat} (hs : s' < 4) {t n0 : Int} : ∀ (n b : Nat) (h : bH), b + n = 40 → TR h → Q (some (0, 1)) (hz h (185 + s') (b) n) → HW g l d 68 212 Q 65 [(4, (0, ((b : Nat) : Int))), (0, (2, ((181 : Nat) : Int))), (1, (0, ((s' : Nat) : Int))), (2, (0, (t))), (3, (0, (n0)))] [] h := by
  intro n
  induction n with
  | zero =>
    intro b h hb hR hq
    rw [hz_0] at hq
    refine w_pl (pc' := 67) (lv' := [(4, (0, ((b : Nat) : Int))), (0, (2, ((181 : Nat) : Int))), (1, (0, ((s' : Nat) : Int))), (2, (0, (t))), (3, (0, (n0)))]) (st' := [(0, ((b : Nat) : Int))]) (h' := h) (o68_38 hB) rfl ?_
    refine w_pl (pc' := 69) (lv' := [(4, (0, ((b : Nat) : Int))), (0, (2, ((181 : Nat) : Int))), (1, (0, ((s' : Nat) : Int))), (2, (0, (t))), (3, (0, (n0)))]) (st' := [(0, ((40 : Nat) : Int)), (0, ((b : Nat) : Int))]) (h' := h) (o68_39 hB) rfl ?_
    refine w_icmp (pt := 88) (pf := 72) (o68_40 hB) (by decide) rfl (fun e => ?_) (fun e => ?_)
    · have f39 : (((40 : Nat) : Int) ≤ ((b : Nat) : Int)) := e
      refine w_pl (pc' := 89) (lv' := [(4, (0, ((b : Nat) : Int))), (0, (2, ((181 : Nat) : Int))), (1, (0, ((s' : Nat) : Int))), (2, (0, (t))), (3, (0, (n0)))]) (st' := [(0, ((1 : Nat) : Int))]) (h' := h) (o68_50 hB) rfl ?_
      exact w_iret (o68_51 hB) mr68 (by unfold in32; omega) hq
    · have f40 : ¬ (((40 : Nat) : Int) ≤ ((b : Nat) : Int)) := e
      exfalso; omega
  | succ n ih =>
    intro b h hb hR hq
    refine w_pl (pc' := 67) (lv' := [(4, (0, ((b : Nat) : Int))), (0, (2, ((181 : Nat) : Int))), (1, (0, ((s' : Nat) : Int))), (2, (0, (t))), (3, (0, (n0)))]) (st' := [(0, ((b : Nat) : Int))]) (h' := h) (o68_38 hB) rfl ?_
    refine w_pl (pc' := 69) (lv' := [(4, (0, ((b : Nat) : Int))), (0, (2, ((181 : Nat) : Int))), (1, (0, ((s' : Nat) : Int))), (2, (0, (t))), (3, (0, (n0)))]) (st' := [(0, ((40 : Nat) : Int)), (0, ((b : Nat) : Int))]) (h' := h) (o68_39 hB) rfl ?_
    refine w_icmp (pt := 88) (pf := 72) (o68_40 hB) (by decide) rfl (fun e => ?_) (fun e => ?_)
    · have f41 : (((40 : Nat) : Int) ≤ ((b : Nat) : Int)) := e
      exfalso; omega
    · have f42 : ¬ (((40 : Nat) : Int) ≤ ((b : Nat) : Int)) := e
      refine w_pl (pc' := 73) (lv' := [(4, (0, ((b : Nat) : Int))), (0, (2, ((181 : Nat) : Int))), (1, (0, ((s' : Nat) : Int))), (2, (0, (t))), (3, (0, (n0)))]) (st' := [(2, ((181 : Nat) : Int))]) (h' := h) (o68_41 hB) rfl ?_
      refine w_getf (A := 181) (t := 2) (z := ((184 : Nat) : Int)) (pc' := 76) (o68_42 hB) rfl (by decide +kernel) (hR (181, 2, 184) (by decide)) ?_
      refine w_pl (pc' := 77) (lv' := [(4, (0, ((b : Nat) : Int))), (0, (2, ((181 : Nat) : Int))), (1, (0, ((s' : Nat) : Int))), (2, (0, (t))), (3, (0, (n0)))]) (st' := [(0, ((s' : Nat) : Int)), (2, ((184 : Nat) : Int))]) (h' := h) (o68_43 hB) rfl ?_
      refine w_aald (kd := 3) (A := 184) (i := s') (n := 4) (B := (185 + s')) (pc' := 78) (o68_44 hB) rfl rfl (by decide +kernel) (by omega) (h184 hR (by omega)) ?_
      refine w_pl (pc' := 80) (lv' := [(4, (0, ((b : Nat) : Int))), (0, (2, ((181 : Nat) : Int))), (1, (0, ((s' : Nat) : Int))), (2, (0, (t))), (3, (0, (n0)))]) (st' := [(0, ((b : Nat) : Int)), (2, (((185 + s') : Nat) : Int))]) (h' := h) (o68_45 hB) rfl ?_
      refine w_pl (pc' := 81) (lv' := [(4, (0, ((b : Nat) : Int))), (0, (2, ((181 : Nat) : Int))), (1, (0, ((s' : Nat) : Int))), (2, (0, (t))), (3, (0, (n0)))]) (st' := [(1, ((0 : Nat) : Int)), (0, ((b : Nat) : Int)), (2, (((185 + s') : Nat) : Int))]) (h' := h) (o68_46 hB) rfl ?_
      refine w_last (A := (185 + s')) (i := b) (n := 40) (pc' := 82) (o68_47 hB) rfl (ar185 (by omega)) (by omega) ?_
      refine w_iinc (x := ((b : Nat) : Int)) (z := (((b + 1) : Nat) : Int)) (pc' := 85) (lv' := [(4, (0, (((b + 1) : Nat) : Int))), (0, (2, ((181 : Nat) : Int))), (1, (0, ((s' : Nat) : Int))), (2, (0, (t))), (3, (0, (n0)))]) (o68_48 hB) rfl rfl ml68 (by decide) (w32_e (by omega) (by omega)) rfl ?_
      refine w_goto (pt := 65) (o68_49 hB) (by decide) ?_
      refine w_sub (lv' := [(4, (0, (((b + 1) : Nat) : Int))), (0, (2, ((181 : Nat) : Int))), (1, (0, ((s' : Nat) : Int))), (2, (0, (t))), (3, (0, (n0)))]) (List.forall_mem_cons.mpr ⟨(List.Mem.head _), (List.forall_mem_cons.mpr ⟨(List.Mem.tail _ (List.Mem.head _)), (List.forall_mem_cons.mpr ⟨(List.Mem.tail _ (List.Mem.tail _ (List.Mem.head _))), (List.forall_mem_cons.mpr ⟨(List.Mem.tail _ (List.Mem.tail _ (List.Mem.tail _ (List.Mem.head _)))), (List.forall_mem_cons.mpr ⟨(List.Mem.tail _ (List.Mem.tail _ (List.Mem.tail _ (List.Mem.tail _ (List.Mem.head _))))), (fun _ hx => by cases hx)⟩)⟩)⟩)⟩)⟩) ?_
      refine ih (b + 1) _ (by omega) (TR_185 hR hs) ?_
      rw [show ((0 : Nat) : Int) = 0 from rfl, hz_s]
      exact hq
theorem m_shBecome (hB : BytesOK) {g : bG} {l : Launch} {d : Nat} {Q : bQ} {h : bH} {s t n : Int} (ht : TH h) (z_s : in32 s) (z_t : in32 t) (z_n : in32 n)  (a0 : ¬ ((0 ≤ s ∧ s ≤ 3) ∧ -1 ≤ t ∧ t ≤ 3 ∧ (0 ≤ t → n ≤ 40)) → Q (some (0, (-1))) h) (a1 : ((0 ≤ s ∧ s ≤ 3) ∧ -1 ≤ t ∧ t ≤ 3 ∧ (0 ≤ t → n ≤ 40)) ∧ 0 ≤ t ∧ n < 0 → Q (some (0, (-14))) h) (a2 : ((0 ≤ s ∧ s ≤ 3) ∧ -1 ≤ t ∧ t ≤ 3 ∧ (0 ≤ t → n ≤ 40)) ∧ t < 0 → Q (some (0, 1)) (hz (hup (hup h 182 ((s.toNat)) t) 183 ((s.toNat)) 0) (185 + (s.toNat)) (0) 40)) (a3 : ((0 ≤ s ∧ s ≤ 3) ∧ -1 ≤ t ∧ t ≤ 3 ∧ (0 ≤ t → n ≤ 40)) ∧ 0 ≤ t ∧ 0 ≤ n → Q (some (0, 1)) (hz (hup (hup h 182 ((s.toNat)) t) 183 ((s.toNat)) n) (185 + (s.toNat)) (0) 40)) : MH g l (d + 1) 68 212 212 [(2, ((181 : Nat) : Int)), (0, (s)), (0, (t)), (0, (n))] h Q := by
  have hR := ht.r
  have z0_s := z_s
  have z0_t := z_t
  have z0_n := z_n
  unfold in32 at z0_s
  unfold in32 at z0_t
  unfold in32 at z0_n
  rcases (by omega : ¬ (0 ≤ s ∧ s ≤ 3) ∨ (0 ≤ s ∧ s ≤ 3)) with gg | gg
  · skip
    refine mh_go hB mg68 ml68 (Nat.le_of_ble_eq_true rfl) ?_
    show HW g l (d + 1) 68 _ _ 0 [(0, (2, ((181 : Nat) : Int))), (1, (0, (s))), (2, (0, (t))), (3, (0, (n)))] [] h
    refine w_pl (pc' := 1) (lv' := [(0, (2, ((181 : Nat) : Int))), (1, (0, (s))), (2, (0, (t))), (3, (0, (n)))]) (st' := [(0, (s))]) (h' := h) (o68_0 hB) rfl ?_
    refine w_callS (as := [(0, (s))]) (rest := []) (n := 1) (pc' := 4) hB (o68_1 hB) rfl (by decide +kernel) rfl rfl (Nat.le_of_ble_eq_true rfl) (m_isSheetB hB (fun f71 => ?_) (fun f72 => ?_))
    · exfalso; omega
    · show HW g l _ 68 _ _ 4 [(0, (2, ((181 : Nat) : Int))), (1, (0, (s))), (2, (0, (t))), (3, (0, (n)))] [(0, ((0 : Nat) : Int))] h
      refine w_ifc (pt := 27) (pf := 7) (o68_2 hB) (by decide) rfl (fun e => ?_) (fun e => ?_)
      · have f73 : (((0 : Nat) : Int) = (0)) := e
        refine w_pl (pc' := 28) (lv' := [(0, (2, ((181 : Nat) : Int))), (1, (0, (s))), (2, (0, (t))), (3, (0, (n)))]) (st' := [(0, (-1))]) (h' := h) (o68_14 hB) rfl ?_
        exact w_iret (o68_15 hB) mr68 (by unfold in32; omega) (a0 (by omega))
      · have f74 : ¬ (((0 : Nat) : Int) = (0)) := e
        exfalso; omega
  · obtain ⟨s', e_s⟩ : ∃ q : Nat, s = q := ⟨s.toNat, by omega⟩
    subst e_s
    simp only [Int.toNat_natCast] at a2 a3
    refine mh_go hB mg68 ml68 (Nat.le_of_ble_eq_true rfl) ?_
    show HW g l (d + 1) 68 _ _ 0 [(0, (2, ((181 : Nat) : Int))), (1, (0, ((s' : Nat) : Int))), (2, (0, (t))), (3, (0, (n)))] [] h
    refine w_pl (pc' := 1) (lv' := [(0, (2, ((181 : Nat) : Int))), (1, (0, ((s' : Nat) : Int))), (2, (0, (t))), (3, (0, (n)))]) (st' := [(0, ((s' : Nat) : Int))]) (h' := h) (o68_0 hB) rfl ?_
    refine w_callS (as := [(0, ((s' : Nat) : Int))]) (rest := []) (n := 1) (pc' := 4) hB (o68_1 hB) rfl (by decide +kernel) rfl rfl (Nat.le_of_ble_eq_true rfl) (m_isSheetB hB (fun f75 => ?_) (fun f76 => ?_))
    · show HW g l _ 68 _ _ 4 [(0, (2, ((181 : Nat) : Int))), (1, (0, ((s' : Nat) : Int))), (2, (0, (t))), (3, (0, (n)))] [(0, ((1 : Nat) : Int))] h
      refine w_ifc (pt := 27) (pf := 7) (o68_2 hB) (by decide) rfl (fun e => ?_) (fun e => ?_)
      · have f77 : (((1 : Nat) : Int) = (0)) := e
        exfalso; omega
      · have f78 : ¬ (((1 : Nat) : Int) = (0)) := e
        refine w_pl (pc' := 8) (lv' := [(0, (2, ((181 : Nat) : Int))), (1, (0, ((s' : Nat) : Int))), (2, (0, (t))), (3, (0, (n)))]) (st' := [(0, (t))]) (h' := h) (o68_3 hB) rfl ?_
        refine w_pl (pc' := 9) (lv' := [(0, (2, ((181 : Nat) : Int))), (1, (0, ((s' : Nat) : Int))), (2, (0, (t))), (3, (0, (n)))]) (st' := [(0, (-1)), (0, (t))]) (h' := h) (o68_4 hB) rfl ?_
        refine w_icmp (pt := 27) (pf := 12) (o68_5 hB) (by decide) rfl (fun e => ?_) (fun e => ?_)
        · have f79 : ((t) < (-1)) := e
          refine w_pl (pc' := 28) (lv' := [(0, (2, ((181 : Nat) : Int))), (1, (0, ((s' : Nat) : Int))), (2, (0, (t))), (3, (0, (n)))]) (st' := [(0, (-1))]) (h' := h) (o68_14 hB) rfl ?_
          exact w_iret (o68_15 hB) mr68 (by unfold in32; omega) (a0 (by omega))
        · have f80 : ¬ ((t) < (-1)) := e
          refine w_pl (pc' := 13) (lv' := [(0, (2, ((181 : Nat) : Int))), (1, (0, ((s' : Nat) : Int))), (2, (0, (t))), (3, (0, (n)))]) (st' := [(0, (t))]) (h' := h) (o68_6 hB) rfl ?_
          refine w_pl (pc' := 14) (lv' := [(0, (2, ((181 : Nat) : Int))), (1, (0, ((s' : Nat) : Int))), (2, (0, (t))), (3, (0, (n)))]) (st' := [(0, ((3 : Nat) : Int)), (0, (t))]) (h' := h) (o68_7 hB) rfl ?_
          refine w_icmp (pt := 27) (pf := 17) (o68_8 hB) (by decide) rfl (fun e => ?_) (fun e => ?_)
          · have f81 : (((3 : Nat) : Int) < (t)) := e
            refine w_pl (pc' := 28) (lv' := [(0, (2, ((181 : Nat) : Int))), (1, (0, ((s' : Nat) : Int))), (2, (0, (t))), (3, (0, (n)))]) (st' := [(0, (-1))]) (h' := h) (o68_14 hB) rfl ?_
            exact w_iret (o68_15 hB) mr68 (by unfold in32; omega) (a0 (by omega))
          · have f82 : ¬ (((3 : Nat) : Int) < (t)) := e
            refine w_pl (pc' := 18) (lv' := [(0, (2, ((181 : Nat) : Int))), (1, (0, ((s' : Nat) : Int))), (2, (0, (t))), (3, (0, (n)))]) (st' := [(0, (t))]) (h' := h) (o68_9 hB) rfl ?_
            refine w_ifc (pt := 29) (pf := 21) (o68_10 hB) (by decide) rfl (fun e => ?_) (fun e => ?_)
            · have f83 : ((t) < (0)) := e
              refine w_pl (pc' := 30) (lv' := [(0, (2, ((181 : Nat) : Int))), (1, (0, ((s' : Nat) : Int))), (2, (0, (t))), (3, (0, (n)))]) (st' := [(0, (t))]) (h' := h) (o68_16 hB) rfl ?_
              refine w_ifc (pt := 40) (pf := 33) (o68_17 hB) (by decide) rfl (fun e => ?_) (fun e => ?_)
              · have f84 : ((t) < (0)) := e
                refine w_pl (pc' := 41) (lv' := [(0, (2, ((181 : Nat) : Int))), (1, (0, ((s' : Nat) : Int))), (2, (0, (t))), (3, (0, (n)))]) (st' := [(2, ((181 : Nat) : Int))]) (h' := h) (o68_22 hB) rfl ?_
                refine w_getf (A := 181) (t := 2) (z := ((182 : Nat) : Int)) (pc' := 44) (o68_23 hB) rfl (by decide +kernel) (hR (181, 0, 182) (by decide)) ?_
                refine w_pl (pc' := 45) (lv' := [(0, (2, ((181 : Nat) : Int))), (1, (0, ((s' : Nat) : Int))), (2, (0, (t))), (3, (0, (n)))]) (st' := [(0, ((s' : Nat) : Int)), (2, ((182 : Nat) : Int))]) (h' := h) (o68_24 hB) rfl ?_
                refine w_pl (pc' := 46) (lv' := [(0, (2, ((181 : Nat) : Int))), (1, (0, ((s' : Nat) : Int))), (2, (0, (t))), (3, (0, (n)))]) (st' := [(0, (t)), (0, ((s' : Nat) : Int)), (2, ((182 : Nat) : Int))]) (h' := h) (o68_25 hB) rfl ?_
                refine w_iast (A := 182) (i := s') (n := 4) (pc' := 47) (o68_26 hB) rfl (by decide +kernel) (by omega) ?_
                refine w_pl (pc' := 48) (lv' := [(0, (2, ((181 : Nat) : Int))), (1, (0, ((s' : Nat) : Int))), (2, (0, (t))), (3, (0, (n)))]) (st' := [(2, ((181 : Nat) : Int))]) (h' := (hup h 182 (s') (t))) (o68_27 hB) rfl ?_
                refine w_getf (A := 181) (t := 2) (z := ((183 : Nat) : Int)) (pc' := 51) (o68_28 hB) rfl (by decide +kernel) ((hup_ne (by decide)).trans (hR (181, 1, 183) (by decide))) ?_
                refine w_pl (pc' := 52) (lv' := [(0, (2, ((181 : Nat) : Int))), (1, (0, ((s' : Nat) : Int))), (2, (0, (t))), (3, (0, (n)))]) (st' := [(0, ((s' : Nat) : Int)), (2, ((183 : Nat) : Int))]) (h' := (hup h 182 (s') (t))) (o68_29 hB) rfl ?_
                refine w_pl (pc' := 53) (lv' := [(0, (2, ((181 : Nat) : Int))), (1, (0, ((s' : Nat) : Int))), (2, (0, (t))), (3, (0, (n)))]) (st' := [(0, (t)), (0, ((s' : Nat) : Int)), (2, ((183 : Nat) : Int))]) (h' := (hup h 182 (s') (t))) (o68_30 hB) rfl ?_
                refine w_ifc (pt := 60) (pf := 56) (o68_31 hB) (by decide) rfl (fun e => ?_) (fun e => ?_)
                · have f85 : ((0) ≤ (t)) := e
                  refine w_pl (pc' := 61) (lv' := [(0, (2, ((181 : Nat) : Int))), (1, (0, ((s' : Nat) : Int))), (2, (0, (t))), (3, (0, (n)))]) (st' := [(0, (n)), (0, ((s' : Nat) : Int)), (2, ((183 : Nat) : Int))]) (h' := (hup h 182 (s') (t))) (o68_34 hB) rfl ?_
                  refine w_iast (A := 183) (i := s') (n := 4) (pc' := 62) (o68_35 hB) rfl (by decide +kernel) (by omega) ?_
                  refine w_pl (pc' := 63) (lv' := [(0, (2, ((181 : Nat) : Int))), (1, (0, ((s' : Nat) : Int))), (2, (0, (t))), (3, (0, (n)))]) (st' := [(0, ((0 : Nat) : Int))]) (h' := (hup (hup h 182 (s') (t)) 183 (s') (n))) (o68_36 hB) rfl ?_
                  refine w_st (tg := 0) (j := 4) (len := 2) (pc' := 65) (lv' := [(4, (0, ((0 : Nat) : Int))), (0, (2, ((181 : Nat) : Int))), (1, (0, ((s' : Nat) : Int))), (2, (0, (t))), (3, (0, (n)))]) (o68_37 hB) rfl rfl ml68 (by decide) rfl ?_
                  refine w_sub (lv' := [(4, (0, ((0 : Nat) : Int))), (0, (2, ((181 : Nat) : Int))), (1, (0, ((s' : Nat) : Int))), (2, (0, (t))), (3, (0, (n)))]) (List.forall_mem_cons.mpr ⟨(List.Mem.head _), (List.forall_mem_cons.mpr ⟨(List.Mem.tail _ (List.Mem.head _)), (List.forall_mem_cons.mpr ⟨(List.Mem.tail _ (List.Mem.tail _ (List.Mem.head _))), (List.forall_mem_cons.mpr ⟨(List.Mem.tail _ (List.Mem.tail _ (List.Mem.tail _ (List.Mem.head _)))), (List.forall_mem_cons.mpr ⟨(List.Mem.tail _ (List.Mem.tail _ (List.Mem.tail _ (List.Mem.tail _ (List.Mem.head _))))), (fun _ hx => by cases hx)⟩)⟩)⟩)⟩)⟩) ?_
                  exact l_shB hB (by omega) 40 0 _ rfl (TR_a (TR_a hR (by decide +kernel)) (by decide +kernel)) (a3 (by omega))
                · have f86 : ¬ ((0) ≤ (t)) := e
                  refine w_pl (pc' := 57) (lv' := [(0, (2, ((181 : Nat) : Int))), (1, (0, ((s' : Nat) : Int))), (2, (0, (t))), (3, (0, (n)))]) (st' := [(0, ((0 : Nat) : Int)), (0, ((s' : Nat) : Int)), (2, ((183 : Nat) : Int))]) (h' := (hup h 182 (s') (t))) (o68_32 hB) rfl ?_
                  refine w_goto (pt := 61) (o68_33 hB) (by decide) ?_
                  refine w_iast (A := 183) (i := s') (n := 4) (pc' := 62) (o68_35 hB) rfl (by decide +kernel) (by omega) ?_
                  refine w_pl (pc' := 63) (lv' := [(0, (2, ((181 : Nat) : Int))), (1, (0, ((s' : Nat) : Int))), (2, (0, (t))), (3, (0, (n)))]) (st' := [(0, ((0 : Nat) : Int))]) (h' := (hup (hup h 182 (s') (t)) 183 (s') ((0 : Nat) : Int))) (o68_36 hB) rfl ?_
                  refine w_st (tg := 0) (j := 4) (len := 2) (pc' := 65) (lv' := [(4, (0, ((0 : Nat) : Int))), (0, (2, ((181 : Nat) : Int))), (1, (0, ((s' : Nat) : Int))), (2, (0, (t))), (3, (0, (n)))]) (o68_37 hB) rfl rfl ml68 (by decide) rfl ?_
                  refine w_sub (lv' := [(4, (0, ((0 : Nat) : Int))), (0, (2, ((181 : Nat) : Int))), (1, (0, ((s' : Nat) : Int))), (2, (0, (t))), (3, (0, (n)))]) (List.forall_mem_cons.mpr ⟨(List.Mem.head _), (List.forall_mem_cons.mpr ⟨(List.Mem.tail _ (List.Mem.head _)), (List.forall_mem_cons.mpr ⟨(List.Mem.tail _ (List.Mem.tail _ (List.Mem.head _))), (List.forall_mem_cons.mpr ⟨(List.Mem.tail _ (List.Mem.tail _ (List.Mem.tail _ (List.Mem.head _)))), (List.forall_mem_cons.mpr ⟨(List.Mem.tail _ (List.Mem.tail _ (List.Mem.tail _ (List.Mem.tail _ (List.Mem.head _))))), (fun _ hx => by cases hx)⟩)⟩)⟩)⟩)⟩) ?_
                  exact l_shB hB (by omega) 40 0 _ rfl (TR_a (TR_a hR (by decide +kernel)) (by decide +kernel)) (a2 (by omega))
              · have f87 : ¬ ((t) < (0)) := e
                exfalso; omega
            · have f88 : ¬ ((t) < (0)) := e
              refine w_pl (pc' := 22) (lv' := [(0, (2, ((181 : Nat) : Int))), (1, (0, ((s' : Nat) : Int))), (2, (0, (t))), (3, (0, (n)))]) (st' := [(0, (n))]) (h' := h) (o68_11 hB) rfl ?_
              refine w_pl (pc' := 24) (lv' := [(0, (2, ((181 : Nat) : Int))), (1, (0, ((s' : Nat) : Int))), (2, (0, (t))), (3, (0, (n)))]) (st' := [(0, ((40 : Nat) : Int)), (0, (n))]) (h' := h) (o68_12 hB) rfl ?_
              refine w_icmp (pt := 29) (pf := 27) (o68_13 hB) (by decide) rfl (fun e => ?_) (fun e => ?_)
              · have f89 : ((n) ≤ ((40 : Nat) : Int)) := e
                refine w_pl (pc' := 30) (lv' := [(0, (2, ((181 : Nat) : Int))), (1, (0, ((s' : Nat) : Int))), (2, (0, (t))), (3, (0, (n)))]) (st' := [(0, (t))]) (h' := h) (o68_16 hB) rfl ?_
                refine w_ifc (pt := 40) (pf := 33) (o68_17 hB) (by decide) rfl (fun e => ?_) (fun e => ?_)
                · have f90 : ((t) < (0)) := e
                  exfalso; omega
                · have f91 : ¬ ((t) < (0)) := e
                  refine w_pl (pc' := 34) (lv' := [(0, (2, ((181 : Nat) : Int))), (1, (0, ((s' : Nat) : Int))), (2, (0, (t))), (3, (0, (n)))]) (st' := [(0, (n))]) (h' := h) (o68_18 hB) rfl ?_
                  refine w_ifc (pt := 40) (pf := 37) (o68_19 hB) (by decide) rfl (fun e => ?_) (fun e => ?_)
                  · have f92 : ((0) ≤ (n)) := e
                    refine w_pl (pc' := 41) (lv' := [(0, (2, ((181 : Nat) : Int))), (1, (0, ((s' : Nat) : Int))), (2, (0, (t))), (3, (0, (n)))]) (st' := [(2, ((181 : Nat) : Int))]) (h' := h) (o68_22 hB) rfl ?_
                    refine w_getf (A := 181) (t := 2) (z := ((182 : Nat) : Int)) (pc' := 44) (o68_23 hB) rfl (by decide +kernel) (hR (181, 0, 182) (by decide)) ?_
                    refine w_pl (pc' := 45) (lv' := [(0, (2, ((181 : Nat) : Int))), (1, (0, ((s' : Nat) : Int))), (2, (0, (t))), (3, (0, (n)))]) (st' := [(0, ((s' : Nat) : Int)), (2, ((182 : Nat) : Int))]) (h' := h) (o68_24 hB) rfl ?_
                    refine w_pl (pc' := 46) (lv' := [(0, (2, ((181 : Nat) : Int))), (1, (0, ((s' : Nat) : Int))), (2, (0, (t))), (3, (0, (n)))]) (st' := [(0, (t)), (0, ((s' : Nat) : Int)), (2, ((182 : Nat) : Int))]) (h' := h) (o68_25 hB) rfl ?_
                    refine w_iast (A := 182) (i := s') (n := 4) (pc' := 47) (o68_26 hB) rfl (by decide +kernel) (by omega) ?_
                    refine w_pl (pc' := 48) (lv' := [(0, (2, ((181 : Nat) : Int))), (1, (0, ((s' : Nat) : Int))), (2, (0, (t))), (3, (0, (n)))]) (st' := [(2, ((181 : Nat) : Int))]) (h' := (hup h 182 (s') (t))) (o68_27 hB) rfl ?_
                    refine w_getf (A := 181) (t := 2) (z := ((183 : Nat) : Int)) (pc' := 51) (o68_28 hB) rfl (by decide +kernel) ((hup_ne (by decide)).trans (hR (181, 1, 183) (by decide))) ?_
                    refine w_pl (pc' := 52) (lv' := [(0, (2, ((181 : Nat) : Int))), (1, (0, ((s' : Nat) : Int))), (2, (0, (t))), (3, (0, (n)))]) (st' := [(0, ((s' : Nat) : Int)), (2, ((183 : Nat) : Int))]) (h' := (hup h 182 (s') (t))) (o68_29 hB) rfl ?_
                    refine w_pl (pc' := 53) (lv' := [(0, (2, ((181 : Nat) : Int))), (1, (0, ((s' : Nat) : Int))), (2, (0, (t))), (3, (0, (n)))]) (st' := [(0, (t)), (0, ((s' : Nat) : Int)), (2, ((183 : Nat) : Int))]) (h' := (hup h 182 (s') (t))) (o68_30 hB) rfl ?_
                    refine w_ifc (pt := 60) (pf := 56) (o68_31 hB) (by decide) rfl (fun e => ?_) (fun e => ?_)
                    · have f93 : ((0) ≤ (t)) := e
                      refine w_pl (pc' := 61) (lv' := [(0, (2, ((181 : Nat) : Int))), (1, (0, ((s' : Nat) : Int))), (2, (0, (t))), (3, (0, (n)))]) (st' := [(0, (n)), (0, ((s' : Nat) : Int)), (2, ((183 : Nat) : Int))]) (h' := (hup h 182 (s') (t))) (o68_34 hB) rfl ?_
                      refine w_iast (A := 183) (i := s') (n := 4) (pc' := 62) (o68_35 hB) rfl (by decide +kernel) (by omega) ?_
                      refine w_pl (pc' := 63) (lv' := [(0, (2, ((181 : Nat) : Int))), (1, (0, ((s' : Nat) : Int))), (2, (0, (t))), (3, (0, (n)))]) (st' := [(0, ((0 : Nat) : Int))]) (h' := (hup (hup h 182 (s') (t)) 183 (s') (n))) (o68_36 hB) rfl ?_
                      refine w_st (tg := 0) (j := 4) (len := 2) (pc' := 65) (lv' := [(4, (0, ((0 : Nat) : Int))), (0, (2, ((181 : Nat) : Int))), (1, (0, ((s' : Nat) : Int))), (2, (0, (t))), (3, (0, (n)))]) (o68_37 hB) rfl rfl ml68 (by decide) rfl ?_
                      refine w_sub (lv' := [(4, (0, ((0 : Nat) : Int))), (0, (2, ((181 : Nat) : Int))), (1, (0, ((s' : Nat) : Int))), (2, (0, (t))), (3, (0, (n)))]) (List.forall_mem_cons.mpr ⟨(List.Mem.head _), (List.forall_mem_cons.mpr ⟨(List.Mem.tail _ (List.Mem.head _)), (List.forall_mem_cons.mpr ⟨(List.Mem.tail _ (List.Mem.tail _ (List.Mem.head _))), (List.forall_mem_cons.mpr ⟨(List.Mem.tail _ (List.Mem.tail _ (List.Mem.tail _ (List.Mem.head _)))), (List.forall_mem_cons.mpr ⟨(List.Mem.tail _ (List.Mem.tail _ (List.Mem.tail _ (List.Mem.tail _ (List.Mem.head _))))), (fun _ hx => by cases hx)⟩)⟩)⟩)⟩)⟩) ?_
                      exact l_shB hB (by omega) 40 0 _ rfl (TR_a (TR_a hR (by decide +kernel)) (by decide +kernel)) (a3 (by omega))
                    · have f94 : ¬ ((0) ≤ (t)) := e
                      refine w_pl (pc' := 57) (lv' := [(0, (2, ((181 : Nat) : Int))), (1, (0, ((s' : Nat) : Int))), (2, (0, (t))), (3, (0, (n)))]) (st' := [(0, ((0 : Nat) : Int)), (0, ((s' : Nat) : Int)), (2, ((183 : Nat) : Int))]) (h' := (hup h 182 (s') (t))) (o68_32 hB) rfl ?_
                      refine w_goto (pt := 61) (o68_33 hB) (by decide) ?_
                      refine w_iast (A := 183) (i := s') (n := 4) (pc' := 62) (o68_35 hB) rfl (by decide +kernel) (by omega) ?_
                      refine w_pl (pc' := 63) (lv' := [(0, (2, ((181 : Nat) : Int))), (1, (0, ((s' : Nat) : Int))), (2, (0, (t))), (3, (0, (n)))]) (st' := [(0, ((0 : Nat) : Int))]) (h' := (hup (hup h 182 (s') (t)) 183 (s') ((0 : Nat) : Int))) (o68_36 hB) rfl ?_
                      refine w_st (tg := 0) (j := 4) (len := 2) (pc' := 65) (lv' := [(4, (0, ((0 : Nat) : Int))), (0, (2, ((181 : Nat) : Int))), (1, (0, ((s' : Nat) : Int))), (2, (0, (t))), (3, (0, (n)))]) (o68_37 hB) rfl rfl ml68 (by decide) rfl ?_
                      refine w_sub (lv' := [(4, (0, ((0 : Nat) : Int))), (0, (2, ((181 : Nat) : Int))), (1, (0, ((s' : Nat) : Int))), (2, (0, (t))), (3, (0, (n)))]) (List.forall_mem_cons.mpr ⟨(List.Mem.head _), (List.forall_mem_cons.mpr ⟨(List.Mem.tail _ (List.Mem.head _)), (List.forall_mem_cons.mpr ⟨(List.Mem.tail _ (List.Mem.tail _ (List.Mem.head _))), (List.forall_mem_cons.mpr ⟨(List.Mem.tail _ (List.Mem.tail _ (List.Mem.tail _ (List.Mem.head _)))), (List.forall_mem_cons.mpr ⟨(List.Mem.tail _ (List.Mem.tail _ (List.Mem.tail _ (List.Mem.tail _ (List.Mem.head _))))), (fun _ hx => by cases hx)⟩)⟩)⟩)⟩)⟩) ?_
                      exact l_shB hB (by omega) 40 0 _ rfl (TR_a (TR_a hR (by decide +kernel)) (by decide +kernel)) (a2 (by omega))
                  · have f95 : ¬ ((0) ≤ (n)) := e
                    refine w_pl (pc' := 39) (lv' := [(0, (2, ((181 : Nat) : Int))), (1, (0, ((s' : Nat) : Int))), (2, (0, (t))), (3, (0, (n)))]) (st' := [(0, (-14))]) (h' := h) (o68_20 hB) rfl ?_
                    exact w_iret (o68_21 hB) mr68 (by unfold in32; omega) (a1 (by omega))
              · have f96 : ¬ ((n) ≤ ((40 : Nat) : Int)) := e
                refine w_pl (pc' := 28) (lv' := [(0, (2, ((181 : Nat) : Int))), (1, (0, ((s' : Nat) : Int))), (2, (0, (t))), (3, (0, (n)))]) (st' := [(0, (-1))]) (h' := h) (o68_14 hB) rfl ?_
                exact w_iret (o68_15 hB) mr68 (by unfold in32; omega) (a0 (by omega))
    · show HW g l _ 68 _ _ 4 [(0, (2, ((181 : Nat) : Int))), (1, (0, ((s' : Nat) : Int))), (2, (0, (t))), (3, (0, (n)))] [(0, ((0 : Nat) : Int))] h
      refine w_ifc (pt := 27) (pf := 7) (o68_2 hB) (by decide) rfl (fun e => ?_) (fun e => ?_)
      · have f97 : (((0 : Nat) : Int) = (0)) := e
        refine w_pl (pc' := 28) (lv' := [(0, (2, ((181 : Nat) : Int))), (1, (0, ((s' : Nat) : Int))), (2, (0, (t))), (3, (0, (n)))]) (st' := [(0, (-1))]) (h' := h) (o68_14 hB) rfl ?_
        exact w_iret (o68_15 hB) mr68 (by unfold in32; omega) (a0 (by omega))
      · have f98 : ¬ (((0 : Nat) : Int) = (0)) := e
        exfalso; omega
theorem m_sheetB (hB : BytesOK) {g : bG} {l : Launch} {d : Nat} {Q : bQ} {h : bH} {s t n : Int} (ht : TH h) (z_s : in32 s) (z_t : in32 t) (z_n : in32 n)  (a0 : ¬ ((0 ≤ s ∧ s ≤ 3) ∧ -1 ≤ t ∧ t ≤ 3 ∧ (0 ≤ t → n ≤ 40)) → Q (some (0, (-1))) h) (a1 : ((0 ≤ s ∧ s ≤ 3) ∧ -1 ≤ t ∧ t ≤ 3 ∧ (0 ≤ t → n ≤ 40)) ∧ 0 ≤ t ∧ n < 0 → Q (some (0, (-14))) h) (a2 : ((0 ≤ s ∧ s ≤ 3) ∧ -1 ≤ t ∧ t ≤ 3 ∧ (0 ≤ t → n ≤ 40)) ∧ t < 0 → Q (some (0, 1)) (hz (hup (hup h 182 ((s.toNat)) t) 183 ((s.toNat)) 0) (185 + (s.toNat)) (0) 40)) (a3 : ((0 ≤ s ∧ s ≤ 3) ∧ -1 ≤ t ∧ t ≤ 3 ∧ (0 ≤ t → n ≤ 40)) ∧ 0 ≤ t ∧ 0 ≤ n → Q (some (0, 1)) (hz (hup (hup h 182 ((s.toNat)) t) 183 ((s.toNat)) n) (185 + (s.toNat)) (0) 40)) : MH g l (d + 1 + 1) 160 212 212 [(2, ((0 : Nat) : Int)), (0, (s)), (0, (t)), (0, (n))] h Q := by
  have hR := ht.r
  have z0_s := z_s
  have z0_t := z_t
  have z0_n := z_n
  unfold in32 at z0_s
  unfold in32 at z0_t
  unfold in32 at z0_n
  refine mh_go hB mg160 ml160 (Nat.le_of_ble_eq_true rfl) ?_
  show HW g l (d + 1 + 1) 160 _ _ 0 [(0, (2, ((0 : Nat) : Int))), (1, (0, (s))), (2, (0, (t))), (3, (0, (n)))] [] h
  refine w_pl (pc' := 1) (lv' := [(0, (2, ((0 : Nat) : Int))), (1, (0, (s))), (2, (0, (t))), (3, (0, (n)))]) (st' := [(2, ((0 : Nat) : Int))]) (h' := h) (o160_0 hB) rfl ?_
  refine w_getf (A := 0) (t := 2) (z := ((181 : Nat) : Int)) (pc' := 4) (o160_1 hB) rfl (by decide +kernel) (hR (0, 5, 181) (by decide)) ?_
  refine w_pl (pc' := 5) (lv' := [(0, (2, ((0 : Nat) : Int))), (1, (0, (s))), (2, (0, (t))), (3, (0, (n)))]) (st' := [(0, (s)), (2, ((181 : Nat) : Int))]) (h' := h) (o160_2 hB) rfl ?_
  refine w_pl (pc' := 6) (lv' := [(0, (2, ((0 : Nat) : Int))), (1, (0, (s))), (2, (0, (t))), (3, (0, (n)))]) (st' := [(0, (t)), (0, (s)), (2, ((181 : Nat) : Int))]) (h' := h) (o160_3 hB) rfl ?_
  refine w_pl (pc' := 7) (lv' := [(0, (2, ((0 : Nat) : Int))), (1, (0, (s))), (2, (0, (t))), (3, (0, (n)))]) (st' := [(0, (n)), (0, (t)), (0, (s)), (2, ((181 : Nat) : Int))]) (h' := h) (o160_4 hB) rfl ?_
  refine w_callV (A := 181) (as := [(0, (s)), (0, (t)), (0, (n))]) (rest := []) (n := 3) (pc' := 10) 5 hB (o160_5 hB) rfl (by decide +kernel) rfl rfl (Nat.le_of_ble_eq_true rfl) (m_shBecome hB ht z_s z_t z_n (fun f103 => ?_) (fun f104 => ?_) (fun f105 => ?_) (fun f106 => ?_))
  · show HW g l _ 160 _ _ 10 [(0, (2, ((0 : Nat) : Int))), (1, (0, (s))), (2, (0, (t))), (3, (0, (n)))] [(0, (-1))] h
    exact w_iret (o160_6 hB) mr160 (by unfold in32; omega) (a0 (by omega))
  · show HW g l _ 160 _ _ 10 [(0, (2, ((0 : Nat) : Int))), (1, (0, (s))), (2, (0, (t))), (3, (0, (n)))] [(0, (-14))] h
    exact w_iret (o160_6 hB) mr160 (by unfold in32; omega) (a1 (by omega))
  · show HW g l _ 160 _ _ 10 [(0, (2, ((0 : Nat) : Int))), (1, (0, (s))), (2, (0, (t))), (3, (0, (n)))] [(0, (1))] (hz (hup (hup h 182 (s.toNat) t) 183 (s.toNat) 0) (185 + s.toNat) (0) 40)
    exact w_iret (o160_6 hB) mr160 (by unfold in32; omega) (a2 (by omega))
  · show HW g l _ 160 _ _ 10 [(0, (2, ((0 : Nat) : Int))), (1, (0, (s))), (2, (0, (t))), (3, (0, (n)))] [(0, (1))] (hz (hup (hup h 182 (s.toNat) t) 183 (s.toNat) n) (185 + s.toNat) (0) 40)
    exact w_iret (o160_6 hB) mr160 (by unfold in32; omega) (a3 (by omega))
def s_sheetB (vs : List bV) (h : bH) (r : Option bV) (h' : bH) : Prop := TH h ∧ ∀ (s t n : Int) , vs = [(2, ((0 : Nat) : Int)), (0, s), (0, t), (0, n)] → ((¬ ((0 ≤ s ∧ s ≤ 3) ∧ -1 ≤ t ∧ t ≤ 3 ∧ (0 ≤ t → n ≤ 40))) ∧ r = some (0, (-1)) ∧ h = h') ∨ ((((0 ≤ s ∧ s ≤ 3) ∧ -1 ≤ t ∧ t ≤ 3 ∧ (0 ≤ t → n ≤ 40)) ∧ 0 ≤ t ∧ n < 0) ∧ r = some (0, (-14)) ∧ h = h') ∨ ((((0 ≤ s ∧ s ≤ 3) ∧ -1 ≤ t ∧ t ≤ 3 ∧ (0 ≤ t → n ≤ 40)) ∧ t < 0) ∧ r = some (0, 1) ∧ h' = (hz (hup (hup h 182 ((s.toNat)) t) 183 ((s.toNat)) 0) (185 + (s.toNat)) (0) 40)) ∨ ((((0 ≤ s ∧ s ≤ 3) ∧ -1 ≤ t ∧ t ≤ 3 ∧ (0 ≤ t → n ≤ 40)) ∧ 0 ≤ t ∧ 0 ≤ n) ∧ r = some (0, 1) ∧ h' = (hz (hup (hup h 182 ((s.toNat)) t) 183 ((s.toNat)) n) (185 + (s.toNat)) (0) 40))
def w_sheetB : List (Nat × Nat × Nat) := [(182, 0, 4), (183, 0, 4), (185, 0, 40), (186, 0, 40), (187, 0, 40), (188, 0, 40)]
def q_sheetB : aCt := cH 160 2 w_sheetB 3 0
theorem sk_sheetB (hB : BytesOK) (g : bG) (l : Launch) : SK g l gT q_sheetB s_sheetB := by
  intro d hd ρ h Q hcore hQ
  have hcore : core (PofW gT (some w_sheetB) false) (gsc g) h ρ h (List.replicate 3 r32, [], [], 212) := hcore
  have ht := hTH hcore
  have y0 := r32_0 hcore 0 (by decide)
  have y1 := r32_0 hcore 1 (by decide)
  have y2 := r32_0 hcore 2 (by decide)
  have y00 := y0
  unfold in32 at y00
  have y01 := y1
  unfold in32 at y01
  have y02 := y2
  unfold in32 at y02
  obtain ⟨d', rfl⟩ : ∃ d', d = d' + 1 + 1 := ⟨d - 2, by have : 2 ≤ d := hd; omega⟩
  rw [show evS ρ (ctA q_sheetB) = [(2, ((0 : Nat) : Int)), (0, ρ 0), (0, ρ 1), (0, ρ 2)] from evA3]
  refine m_sheetB (s := ρ 0) (t := ρ 1) (n := ρ 2) hB ht y0 y1 y2 (fun hn => ?_) (fun hn => ?_) (fun hn => ?_) (fun hn => ?_)
  · refine hQ _ _ (hpost hcore (ht) (fun _ _ _ => rfl) (by unfold in32; omega)) ⟨ht, fun s t n hv => ?_⟩
    have hv := (evA3 (ρ := ρ)).symm.trans hv
    obtain ⟨rfl, rfl, rfl⟩ := vsA3 hv
    exact Or.inl ⟨hn, rfl, rfl⟩
  · refine hQ _ _ (hpost hcore (ht) (fun _ _ _ => rfl) (by unfold in32; omega)) ⟨ht, fun s t n hv => ?_⟩
    have hv := (evA3 (ρ := ρ)).symm.trans hv
    obtain ⟨rfl, rfl, rfl⟩ := vsA3 hv
    exact Or.inr (Or.inl ⟨hn, rfl, rfl⟩)
  · skip
    obtain ⟨s', e_s9⟩ : ∃ q : Nat, (ρ 0).toNat = q := ⟨_, rfl⟩
    rw [e_s9]
    refine hQ _ _ (hpost hcore ((((ht).ups2 (a := 182) (s := 0) (st := 1) (n := 4) (lo := (-1)) (hi := 3) (r := s') (by decide +kernel) (by omega) (by omega) (by omega)).ups2 (a := 183) (s := 0) (st := 1) (n := 4) (lo := (0)) (hi := 40) (r := s') (by decide +kernel) (by omega) (by omega) (by omega)).hz (a := 185 + s') (s := 0) (n := 40) (fun j j1 j2 _ => by rw [ty185 (by omega) (by omega)]; exact ⟨by decide, by decide⟩)) (fr_hz (fr_up (fr_up (fun _ _ _ => rfl) (wr_in (lo := 0) (hi := 4) (by decide) (by omega) (by omega))) (wr_in (lo := 0) (hi := 4) (by decide) (by omega) (by omega))) (fun j j1 j2 => (hz_w185 (by decide) (by omega) (by omega)))) (by unfold in32; omega)) ⟨ht, fun s t n hv => ?_⟩
    have hv := (evA3 (ρ := ρ)).symm.trans hv
    obtain ⟨rfl, rfl, rfl⟩ := vsA3 hv
    exact Or.inr (Or.inr (Or.inl ⟨hn, by first | rfl | rw [e_s9], by rw [e_s9]⟩))
  · skip
    obtain ⟨s', e_s9⟩ : ∃ q : Nat, (ρ 0).toNat = q := ⟨_, rfl⟩
    rw [e_s9]
    refine hQ _ _ (hpost hcore ((((ht).ups2 (a := 182) (s := 0) (st := 1) (n := 4) (lo := (-1)) (hi := 3) (r := s') (by decide +kernel) (by omega) (by omega) (by omega)).ups2 (a := 183) (s := 0) (st := 1) (n := 4) (lo := (0)) (hi := 40) (r := s') (by decide +kernel) (by omega) (by omega) (by omega)).hz (a := 185 + s') (s := 0) (n := 40) (fun j j1 j2 _ => by rw [ty185 (by omega) (by omega)]; exact ⟨by decide, by decide⟩)) (fr_hz (fr_up (fr_up (fun _ _ _ => rfl) (wr_in (lo := 0) (hi := 4) (by decide) (by omega) (by omega))) (wr_in (lo := 0) (hi := 4) (by decide) (by omega) (by omega))) (fun j j1 j2 => (hz_w185 (by decide) (by omega) (by omega)))) (by unfold in32; omega)) ⟨ht, fun s t n hv => ?_⟩
    have hv := (evA3 (ρ := ρ)).symm.trans hv
    obtain ⟨rfl, rfl, rfl⟩ := vsA3 hv
    exact Or.inr (Or.inr (Or.inr (⟨hn, by first | rfl | rw [e_s9], by rw [e_s9]⟩)))
/-- whether a row of this number is in use, by the first k sheets and shelves -/
def usF (h : bH) (c : Int) : Nat → Int
  | 0 => 0
  | k + 1 => if h 205 k = c ∨ (h 209 k = 4 ∧ h 210 k = c) then 1 else usF h c k
theorem usF_1 {h : bH} {c : Int} : ∀ k, usF h c k = 1 → ∃ i, i < k ∧ (h 205 i = c ∨ h 210 i = c)
  | 0, e => by simp [usF] at e
  | k + 1, e => by
    simp only [usF] at e
    split at e
    · rename_i w
      exact ⟨k, by omega, w.imp id (fun q => q.2)⟩
    · obtain ⟨i, hi, w⟩ := usF_1 k e
      exact ⟨i, by omega, w⟩
theorem usF_0 {h : bH} {c : Int} : ∀ k, usF h c k = 0 → ∀ i, i < k → h 205 i ≠ c
  | 0, _ => fun i hi => absurd hi (Nat.not_lt_zero i)
  | k + 1, e => fun i hi => by
    simp only [usF] at e
    split at e
    · cases e
    · rename_i w
      by_cases q : i = k
      · subst q; exact fun z => w (Or.inl z)
      · exact usF_0 k e i (by omega)
theorem usF_r {h : bH} {c : Int} : ∀ k, usF h c k = 0 ∨ usF h c k = 1
  | 0 => Or.inl rfl
  | k + 1 => by
    simp only [usF]
    split
    · exact Or.inr rfl
    · exact usF_r k
theorem or01 : orI 0 0 = 0 ∧ orI 0 1 = 1 ∧ orI 1 0 = 1 ∧ orI 1 1 = 1 := by decide +kernel
theorem l_free (hB : BytesOK) {g : bG} {l : Launch} {d : Nat} {Q : bQ} {h : bH} (ht : TH h) {c : Nat} (lc : c < 8) (he : HW g l d 272 212 Q 61 [(2, (0, (usF h ((c : Nat) : Int) 4))), (1, (0, ((c : Nat) : Int))), (0, (2, ((193 : Nat) : Int)))] [] h) : ∀ (n b : Nat), b + n = 4 → HW g l d 272 212 Q 12 [(3, (0, ((b : Nat) : Int))), (2, (0, (usF h ((c : Nat) : Int) b))), (1, (0, ((c : Nat) : Int))), (0, (2, ((193 : Nat) : Int)))] [] h := by
  have hR := ht.r
  intro n
  induction n with
  | zero =>
    intro b hb
    obtain rfl : b = 4 := by omega
    refine w_pl (pc' := 13) (lv' := [(3, (0, ((4 : Nat) : Int))), (2, (0, (usF h ((c : Nat) : Int) 4))), (1, (0, ((c : Nat) : Int))), (0, (2, ((193 : Nat) : Int)))]) (st' := [(0, ((4 : Nat) : Int))]) (h' := h) (o272_10 hB) rfl ?_
    refine w_pl (pc' := 14) (lv' := [(3, (0, ((4 : Nat) : Int))), (2, (0, (usF h ((c : Nat) : Int) 4))), (1, (0, ((c : Nat) : Int))), (0, (2, ((193 : Nat) : Int)))]) (st' := [(0, ((4 : Nat) : Int)), (0, ((4 : Nat) : Int))]) (h' := h) (o272_11 hB) rfl ?_
    refine w_icmp (pt := 61) (pf := 17) (o272_12 hB) (by decide) rfl (fun e => ?_) (fun e => ?_)
    · have f107 : (((4 : Nat) : Int) ≤ ((4 : Nat) : Int)) := e
      refine w_sub (lv' := [(2, (0, (usF h ((c : Nat) : Int) 4))), (1, (0, ((c : Nat) : Int))), (0, (2, ((193 : Nat) : Int)))]) (List.forall_mem_cons.mpr ⟨(List.Mem.tail _ (List.Mem.head _)), (List.forall_mem_cons.mpr ⟨(List.Mem.tail _ (List.Mem.tail _ (List.Mem.head _))), (List.forall_mem_cons.mpr ⟨(List.Mem.tail _ (List.Mem.tail _ (List.Mem.tail _ (List.Mem.head _)))), (fun _ hx => by cases hx)⟩)⟩)⟩) ?_
      exact he
    · have f108 : ¬ (((4 : Nat) : Int) ≤ ((4 : Nat) : Int)) := e
      exfalso; omega
  | succ n ih =>
    intro b hb
    have u := usF_r (h := h) (c := ((c : Nat) : Int)) b
    refine w_pl (pc' := 13) (lv' := [(3, (0, ((b : Nat) : Int))), (2, (0, (usF h ((c : Nat) : Int) b))), (1, (0, ((c : Nat) : Int))), (0, (2, ((193 : Nat) : Int)))]) (st' := [(0, ((b : Nat) : Int))]) (h' := h) (o272_10 hB) rfl ?_
    refine w_pl (pc' := 14) (lv' := [(3, (0, ((b : Nat) : Int))), (2, (0, (usF h ((c : Nat) : Int) b))), (1, (0, ((c : Nat) : Int))), (0, (2, ((193 : Nat) : Int)))]) (st' := [(0, ((4 : Nat) : Int)), (0, ((b : Nat) : Int))]) (h' := h) (o272_11 hB) rfl ?_
    refine w_icmp (pt := 61) (pf := 17) (o272_12 hB) (by decide) rfl (fun e => ?_) (fun e => ?_)
    · have f109 : (((4 : Nat) : Int) ≤ ((b : Nat) : Int)) := e
      exfalso; omega
    · have f110 : ¬ (((4 : Nat) : Int) ≤ ((b : Nat) : Int)) := e
      refine w_pl (pc' := 18) (lv' := [(3, (0, ((b : Nat) : Int))), (2, (0, (usF h ((c : Nat) : Int) b))), (1, (0, ((c : Nat) : Int))), (0, (2, ((193 : Nat) : Int)))]) (st' := [(0, (usF h ((c : Nat) : Int) b))]) (h' := h) (o272_13 hB) rfl ?_
      refine w_pl (pc' := 19) (lv' := [(3, (0, ((b : Nat) : Int))), (2, (0, (usF h ((c : Nat) : Int) b))), (1, (0, ((c : Nat) : Int))), (0, (2, ((193 : Nat) : Int)))]) (st' := [(2, ((193 : Nat) : Int)), (0, (usF h ((c : Nat) : Int) b))]) (h' := h) (o272_14 hB) rfl ?_
      refine w_getf (A := 193) (t := 2) (z := ((205 : Nat) : Int)) (pc' := 22) (o272_15 hB) rfl (by decide +kernel) (hR (193, 35, 205) (by decide)) ?_
      refine w_pl (pc' := 23) (lv' := [(3, (0, ((b : Nat) : Int))), (2, (0, (usF h ((c : Nat) : Int) b))), (1, (0, ((c : Nat) : Int))), (0, (2, ((193 : Nat) : Int)))]) (st' := [(0, ((b : Nat) : Int)), (2, ((205 : Nat) : Int)), (0, (usF h ((c : Nat) : Int) b))]) (h' := h) (o272_16 hB) rfl ?_
      have f111 := ty_205_s0 ht (j := b) (r := b) (by omega) (by omega)
      refine w_iald (A := 205) (i := b) (n := 4) (z := (h 205 b)) (pc' := 24) (o272_17 hB) rfl (by decide +kernel) (by omega) rfl ?_
      refine w_pl (pc' := 25) (lv' := [(3, (0, ((b : Nat) : Int))), (2, (0, (usF h ((c : Nat) : Int) b))), (1, (0, ((c : Nat) : Int))), (0, (2, ((193 : Nat) : Int)))]) (st' := [(0, ((c : Nat) : Int)), (0, (h 205 b)), (0, (usF h ((c : Nat) : Int) b))]) (h' := h) (o272_18 hB) rfl ?_
      refine w_icmp (pt := 48) (pf := 28) (o272_19 hB) (by decide) rfl (fun e => ?_) (fun e => ?_)
      · have f112 : ((h 205 b) = ((c : Nat) : Int)) := e
        refine w_pl (pc' := 49) (lv' := [(3, (0, ((b : Nat) : Int))), (2, (0, (usF h ((c : Nat) : Int) b))), (1, (0, ((c : Nat) : Int))), (0, (2, ((193 : Nat) : Int)))]) (st' := [(0, ((1 : Nat) : Int)), (0, (usF h ((c : Nat) : Int) b))]) (h' := h) (o272_32 hB) rfl ?_
        refine w_goto (pt := 53) (o272_33 hB) (by decide) ?_
        refine w_ior (z := (orI (usF h ((c : Nat) : Int) b) 1)) (pc' := 54) (o272_35 hB) rfl rfl ?_
        refine w_st (tg := 0) (j := 2) (len := 1) (pc' := 55) (lv' := [(2, (0, (orI (usF h ((c : Nat) : Int) b) 1))), (3, (0, ((b : Nat) : Int))), (1, (0, ((c : Nat) : Int))), (0, (2, ((193 : Nat) : Int)))]) (o272_36 hB) rfl rfl ml272 (by decide) rfl ?_
        refine w_iinc (x := ((b : Nat) : Int)) (z := (((b + 1) : Nat) : Int)) (pc' := 58) (lv' := [(3, (0, (((b + 1) : Nat) : Int))), (2, (0, (orI (usF h ((c : Nat) : Int) b) 1))), (1, (0, ((c : Nat) : Int))), (0, (2, ((193 : Nat) : Int)))]) (o272_37 hB) rfl rfl ml272 (by decide) (w32_e (by omega) (by omega)) rfl ?_
        refine w_goto (pt := 12) (o272_38 hB) (by decide) ?_
        refine w_sub (lv' := [(3, (0, (((b + 1) : Nat) : Int))), (2, (0, (orI (usF h ((c : Nat) : Int) b) 1))), (1, (0, ((c : Nat) : Int))), (0, (2, ((193 : Nat) : Int)))]) (List.forall_mem_cons.mpr ⟨(List.Mem.head _), (List.forall_mem_cons.mpr ⟨(List.Mem.tail _ (List.Mem.head _)), (List.forall_mem_cons.mpr ⟨(List.Mem.tail _ (List.Mem.tail _ (List.Mem.head _))), (List.forall_mem_cons.mpr ⟨(List.Mem.tail _ (List.Mem.tail _ (List.Mem.tail _ (List.Mem.head _)))), (fun _ hx => by cases hx)⟩)⟩)⟩)⟩) ?_
        have e1 : (orI (usF h ((c : Nat) : Int) b) 1) = usF h ((c : Nat) : Int) (b + 1) := by
          simp only [usF]
          rw [if_pos (by omega)]
          rcases u with u | u <;> rw [u]
          · exact or01.2.1
          · exact or01.2.2.2
        rw [e1]
        exact ih (b + 1) (by omega)
      · have f113 : ¬ ((h 205 b) = ((c : Nat) : Int)) := e
        refine w_pl (pc' := 29) (lv' := [(3, (0, ((b : Nat) : Int))), (2, (0, (usF h ((c : Nat) : Int) b))), (1, (0, ((c : Nat) : Int))), (0, (2, ((193 : Nat) : Int)))]) (st' := [(2, ((193 : Nat) : Int)), (0, (usF h ((c : Nat) : Int) b))]) (h' := h) (o272_20 hB) rfl ?_
        refine w_getf (A := 193) (t := 2) (z := ((209 : Nat) : Int)) (pc' := 32) (o272_21 hB) rfl (by decide +kernel) (hR (193, 39, 209) (by decide)) ?_
        refine w_pl (pc' := 33) (lv' := [(3, (0, ((b : Nat) : Int))), (2, (0, (usF h ((c : Nat) : Int) b))), (1, (0, ((c : Nat) : Int))), (0, (2, ((193 : Nat) : Int)))]) (st' := [(0, ((b : Nat) : Int)), (2, ((209 : Nat) : Int)), (0, (usF h ((c : Nat) : Int) b))]) (h' := h) (o272_22 hB) rfl ?_
        have f114 := ty_209_s0 ht (j := b) (r := b) (by omega) (by omega)
        refine w_iald (A := 209) (i := b) (n := 4) (z := (h 209 b)) (pc' := 34) (o272_23 hB) rfl (by decide +kernel) (by omega) rfl ?_
        refine w_pl (pc' := 35) (lv' := [(3, (0, ((b : Nat) : Int))), (2, (0, (usF h ((c : Nat) : Int) b))), (1, (0, ((c : Nat) : Int))), (0, (2, ((193 : Nat) : Int)))]) (st' := [(0, ((4 : Nat) : Int)), (0, (h 209 b)), (0, (usF h ((c : Nat) : Int) b))]) (h' := h) (o272_24 hB) rfl ?_
        refine w_icmp (pt := 52) (pf := 38) (o272_25 hB) (by decide) rfl (fun e => ?_) (fun e => ?_)
        · have f115 : ((h 209 b) ≠ ((4 : Nat) : Int)) := e
          refine w_pl (pc' := 53) (lv' := [(3, (0, ((b : Nat) : Int))), (2, (0, (usF h ((c : Nat) : Int) b))), (1, (0, ((c : Nat) : Int))), (0, (2, ((193 : Nat) : Int)))]) (st' := [(0, ((0 : Nat) : Int)), (0, (usF h ((c : Nat) : Int) b))]) (h' := h) (o272_34 hB) rfl ?_
          refine w_ior (z := (orI (usF h ((c : Nat) : Int) b) 0)) (pc' := 54) (o272_35 hB) rfl rfl ?_
          refine w_st (tg := 0) (j := 2) (len := 1) (pc' := 55) (lv' := [(2, (0, (orI (usF h ((c : Nat) : Int) b) 0))), (3, (0, ((b : Nat) : Int))), (1, (0, ((c : Nat) : Int))), (0, (2, ((193 : Nat) : Int)))]) (o272_36 hB) rfl rfl ml272 (by decide) rfl ?_
          refine w_iinc (x := ((b : Nat) : Int)) (z := (((b + 1) : Nat) : Int)) (pc' := 58) (lv' := [(3, (0, (((b + 1) : Nat) : Int))), (2, (0, (orI (usF h ((c : Nat) : Int) b) 0))), (1, (0, ((c : Nat) : Int))), (0, (2, ((193 : Nat) : Int)))]) (o272_37 hB) rfl rfl ml272 (by decide) (w32_e (by omega) (by omega)) rfl ?_
          refine w_goto (pt := 12) (o272_38 hB) (by decide) ?_
          refine w_sub (lv' := [(3, (0, (((b + 1) : Nat) : Int))), (2, (0, (orI (usF h ((c : Nat) : Int) b) 0))), (1, (0, ((c : Nat) : Int))), (0, (2, ((193 : Nat) : Int)))]) (List.forall_mem_cons.mpr ⟨(List.Mem.head _), (List.forall_mem_cons.mpr ⟨(List.Mem.tail _ (List.Mem.head _)), (List.forall_mem_cons.mpr ⟨(List.Mem.tail _ (List.Mem.tail _ (List.Mem.head _))), (List.forall_mem_cons.mpr ⟨(List.Mem.tail _ (List.Mem.tail _ (List.Mem.tail _ (List.Mem.head _)))), (fun _ hx => by cases hx)⟩)⟩)⟩)⟩) ?_
          have e1 : (orI (usF h ((c : Nat) : Int) b) 0) = usF h ((c : Nat) : Int) (b + 1) := by
            simp only [usF]
            rw [if_neg (by omega)]
            rcases u with u | u <;> rw [u]
            · exact or01.1
            · exact or01.2.2.1
          rw [e1]
          exact ih (b + 1) (by omega)
        · have f116 : ¬ ((h 209 b) ≠ ((4 : Nat) : Int)) := e
          refine w_pl (pc' := 39) (lv' := [(3, (0, ((b : Nat) : Int))), (2, (0, (usF h ((c : Nat) : Int) b))), (1, (0, ((c : Nat) : Int))), (0, (2, ((193 : Nat) : Int)))]) (st' := [(2, ((193 : Nat) : Int)), (0, (usF h ((c : Nat) : Int) b))]) (h' := h) (o272_26 hB) rfl ?_
          refine w_getf (A := 193) (t := 2) (z := ((210 : Nat) : Int)) (pc' := 42) (o272_27 hB) rfl (by decide +kernel) (hR (193, 40, 210) (by decide)) ?_
          refine w_pl (pc' := 43) (lv' := [(3, (0, ((b : Nat) : Int))), (2, (0, (usF h ((c : Nat) : Int) b))), (1, (0, ((c : Nat) : Int))), (0, (2, ((193 : Nat) : Int)))]) (st' := [(0, ((b : Nat) : Int)), (2, ((210 : Nat) : Int)), (0, (usF h ((c : Nat) : Int) b))]) (h' := h) (o272_28 hB) rfl ?_
          have f117 := ty_210_s0 ht (j := b) (r := b) (by omega) (by omega)
          refine w_iald (A := 210) (i := b) (n := 4) (z := (h 210 b)) (pc' := 44) (o272_29 hB) rfl (by decide +kernel) (by omega) rfl ?_
          refine w_pl (pc' := 45) (lv' := [(3, (0, ((b : Nat) : Int))), (2, (0, (usF h ((c : Nat) : Int) b))), (1, (0, ((c : Nat) : Int))), (0, (2, ((193 : Nat) : Int)))]) (st' := [(0, ((c : Nat) : Int)), (0, (h 210 b)), (0, (usF h ((c : Nat) : Int) b))]) (h' := h) (o272_30 hB) rfl ?_
          refine w_icmp (pt := 52) (pf := 48) (o272_31 hB) (by decide) rfl (fun e => ?_) (fun e => ?_)
          · have f118 : ((h 210 b) ≠ ((c : Nat) : Int)) := e
            refine w_pl (pc' := 53) (lv' := [(3, (0, ((b : Nat) : Int))), (2, (0, (usF h ((c : Nat) : Int) b))), (1, (0, ((c : Nat) : Int))), (0, (2, ((193 : Nat) : Int)))]) (st' := [(0, ((0 : Nat) : Int)), (0, (usF h ((c : Nat) : Int) b))]) (h' := h) (o272_34 hB) rfl ?_
            refine w_ior (z := (orI (usF h ((c : Nat) : Int) b) 0)) (pc' := 54) (o272_35 hB) rfl rfl ?_
            refine w_st (tg := 0) (j := 2) (len := 1) (pc' := 55) (lv' := [(2, (0, (orI (usF h ((c : Nat) : Int) b) 0))), (3, (0, ((b : Nat) : Int))), (1, (0, ((c : Nat) : Int))), (0, (2, ((193 : Nat) : Int)))]) (o272_36 hB) rfl rfl ml272 (by decide) rfl ?_
            refine w_iinc (x := ((b : Nat) : Int)) (z := (((b + 1) : Nat) : Int)) (pc' := 58) (lv' := [(3, (0, (((b + 1) : Nat) : Int))), (2, (0, (orI (usF h ((c : Nat) : Int) b) 0))), (1, (0, ((c : Nat) : Int))), (0, (2, ((193 : Nat) : Int)))]) (o272_37 hB) rfl rfl ml272 (by decide) (w32_e (by omega) (by omega)) rfl ?_
            refine w_goto (pt := 12) (o272_38 hB) (by decide) ?_
            refine w_sub (lv' := [(3, (0, (((b + 1) : Nat) : Int))), (2, (0, (orI (usF h ((c : Nat) : Int) b) 0))), (1, (0, ((c : Nat) : Int))), (0, (2, ((193 : Nat) : Int)))]) (List.forall_mem_cons.mpr ⟨(List.Mem.head _), (List.forall_mem_cons.mpr ⟨(List.Mem.tail _ (List.Mem.head _)), (List.forall_mem_cons.mpr ⟨(List.Mem.tail _ (List.Mem.tail _ (List.Mem.head _))), (List.forall_mem_cons.mpr ⟨(List.Mem.tail _ (List.Mem.tail _ (List.Mem.tail _ (List.Mem.head _)))), (fun _ hx => by cases hx)⟩)⟩)⟩)⟩) ?_
            have e1 : (orI (usF h ((c : Nat) : Int) b) 0) = usF h ((c : Nat) : Int) (b + 1) := by
              simp only [usF]
              rw [if_neg (by omega)]
              rcases u with u | u <;> rw [u]
              · exact or01.1
              · exact or01.2.2.1
            rw [e1]
            exact ih (b + 1) (by omega)
          · have f119 : ¬ ((h 210 b) ≠ ((c : Nat) : Int)) := e
            refine w_pl (pc' := 49) (lv' := [(3, (0, ((b : Nat) : Int))), (2, (0, (usF h ((c : Nat) : Int) b))), (1, (0, ((c : Nat) : Int))), (0, (2, ((193 : Nat) : Int)))]) (st' := [(0, ((1 : Nat) : Int)), (0, (usF h ((c : Nat) : Int) b))]) (h' := h) (o272_32 hB) rfl ?_
            refine w_goto (pt := 53) (o272_33 hB) (by decide) ?_
            refine w_ior (z := (orI (usF h ((c : Nat) : Int) b) 1)) (pc' := 54) (o272_35 hB) rfl rfl ?_
            refine w_st (tg := 0) (j := 2) (len := 1) (pc' := 55) (lv' := [(2, (0, (orI (usF h ((c : Nat) : Int) b) 1))), (3, (0, ((b : Nat) : Int))), (1, (0, ((c : Nat) : Int))), (0, (2, ((193 : Nat) : Int)))]) (o272_36 hB) rfl rfl ml272 (by decide) rfl ?_
            refine w_iinc (x := ((b : Nat) : Int)) (z := (((b + 1) : Nat) : Int)) (pc' := 58) (lv' := [(3, (0, (((b + 1) : Nat) : Int))), (2, (0, (orI (usF h ((c : Nat) : Int) b) 1))), (1, (0, ((c : Nat) : Int))), (0, (2, ((193 : Nat) : Int)))]) (o272_37 hB) rfl rfl ml272 (by decide) (w32_e (by omega) (by omega)) rfl ?_
            refine w_goto (pt := 12) (o272_38 hB) (by decide) ?_
            refine w_sub (lv' := [(3, (0, (((b + 1) : Nat) : Int))), (2, (0, (orI (usF h ((c : Nat) : Int) b) 1))), (1, (0, ((c : Nat) : Int))), (0, (2, ((193 : Nat) : Int)))]) (List.forall_mem_cons.mpr ⟨(List.Mem.head _), (List.forall_mem_cons.mpr ⟨(List.Mem.tail _ (List.Mem.head _)), (List.forall_mem_cons.mpr ⟨(List.Mem.tail _ (List.Mem.tail _ (List.Mem.head _))), (List.forall_mem_cons.mpr ⟨(List.Mem.tail _ (List.Mem.tail _ (List.Mem.tail _ (List.Mem.head _)))), (fun _ hx => by cases hx)⟩)⟩)⟩)⟩) ?_
            have e1 : (orI (usF h ((c : Nat) : Int) b) 1) = usF h ((c : Nat) : Int) (b + 1) := by
              simp only [usF]
              rw [if_pos (by omega)]
              rcases u with u | u <;> rw [u]
              · exact or01.2.1
              · exact or01.2.2.2
            rw [e1]
            exact ih (b + 1) (by omega)
theorem m_freeRow (hB : BytesOK) {g : bG} {l : Launch} {d : Nat} {Q : bQ} {h : bH} (ht : TH h) {s : Nat} (hs : s < 4) (hm : h 205 s = -1) (hq : ∀ r : Nat, r < 8 → (∀ k, k < 4 → h 205 k ≠ (r : Int)) → Q (some (0, (r : Int))) h) : MH g l d 272 212 212 [(2, ((193 : Nat) : Int))] h Q := by
  have hR := ht.r
  have fin : ∀ c : Nat, c < 8 → (∀ k, k < 4 → h 205 k ≠ (c : Int)) → HW g l d 272 212 Q 4 [(2, (0, ((0 : Nat) : Int))), (1, (0, ((c : Nat) : Int))), (0, (2, ((193 : Nat) : Int)))] [] h := by
    intro c lc hk
    refine w_pl (pc' := 5) (lv' := [(2, (0, ((0 : Nat) : Int))), (1, (0, ((c : Nat) : Int))), (0, (2, ((193 : Nat) : Int)))]) (st' := [(0, ((0 : Nat) : Int))]) (h' := h) (o272_4 hB) rfl ?_
    refine w_ifc (pt := 76) (pf := 8) (o272_5 hB) (by decide) rfl (fun e => ?_) (fun e => ?_)
    · have f120 : (((0 : Nat) : Int) = (0)) := e
      refine w_pl (pc' := 77) (lv' := [(2, (0, ((0 : Nat) : Int))), (1, (0, ((c : Nat) : Int))), (0, (2, ((193 : Nat) : Int)))]) (st' := [(0, ((c : Nat) : Int))]) (h' := h) (o272_48 hB) rfl ?_
      exact w_iret (o272_49 hB) mr272 (by unfold in32; omega) (hq c lc hk)
    · have f121 : ¬ (((0 : Nat) : Int) = (0)) := e
      exfalso; omega
  have key : ∀ (n c : Nat), c + n = 8 → (∀ v : Nat, v < c → ∃ i, i < 8 ∧ h (frPl i).1 (frPl i).2 = (v : Int)) → HW g l d 272 212 Q 4 [(2, (0, ((1 : Nat) : Int))), (1, (0, ((c : Nat) : Int))), (0, (2, ((193 : Nat) : Int)))] [] h := by
    intro n
    induction n with
    | zero =>
      intro c hcn hP
      obtain rfl : c = 8 := by omega
      refine absurd (pig (fun i => h (frPl i).1 (frPl i).2) s (by omega) ?_ hP) id
      show h (frPl s).1 (frPl s).2 = -1
      have e : frPl s = (205, s) := by
        unfold frPl
        rw [if_pos hs, Nat.mod_eq_of_lt hs]
      rw [e]
      exact hm
    | succ n ih =>
      intro c hcn hP
      have he : HW g l d 272 212 Q 61 [(2, (0, (usF h ((c : Nat) : Int) 4))), (1, (0, ((c : Nat) : Int))), (0, (2, ((193 : Nat) : Int)))] [] h := by
        have u := usF_r (h := h) (c := ((c : Nat) : Int)) 4
        refine w_pl (pc' := 62) (lv' := [(2, (0, (usF h ((c : Nat) : Int) 4))), (1, (0, ((c : Nat) : Int))), (0, (2, ((193 : Nat) : Int)))]) (st' := [(0, ((c : Nat) : Int))]) (h' := h) (o272_39 hB) rfl ?_
        refine w_pl (pc' := 63) (lv' := [(2, (0, (usF h ((c : Nat) : Int) 4))), (1, (0, ((c : Nat) : Int))), (0, (2, ((193 : Nat) : Int)))]) (st' := [(0, (usF h ((c : Nat) : Int) 4)), (0, ((c : Nat) : Int))]) (h' := h) (o272_40 hB) rfl ?_
        refine w_ifc (pt := 70) (pf := 66) (o272_41 hB) (by decide) rfl (fun e => ?_) (fun e => ?_)
        · have f122 : ((usF h ((c : Nat) : Int) 4) = (0)) := e
          refine w_pl (pc' := 71) (lv' := [(2, (0, (usF h ((c : Nat) : Int) 4))), (1, (0, ((c : Nat) : Int))), (0, (2, ((193 : Nat) : Int)))]) (st' := [(0, ((0 : Nat) : Int)), (0, ((c : Nat) : Int))]) (h' := h) (o272_44 hB) rfl ?_
          refine w_iadd (z := (((c + 0) : Nat) : Int)) (pc' := 72) (o272_45 hB) rfl (w32_e (by omega) (by omega)) ?_
          refine w_st (tg := 0) (j := 1) (len := 1) (pc' := 73) (lv' := [(1, (0, (((c + 0) : Nat) : Int))), (2, (0, (usF h ((c : Nat) : Int) 4))), (0, (2, ((193 : Nat) : Int)))]) (o272_46 hB) rfl rfl ml272 (by decide) rfl ?_
          refine w_goto (pt := 4) (o272_47 hB) (by decide) ?_
          refine w_sub (lv' := [(2, (0, (usF h ((c : Nat) : Int) 4))), (1, (0, (((c + 0) : Nat) : Int))), (0, (2, ((193 : Nat) : Int)))]) (List.forall_mem_cons.mpr ⟨(List.Mem.tail _ (List.Mem.head _)), (List.forall_mem_cons.mpr ⟨(List.Mem.head _), (List.forall_mem_cons.mpr ⟨(List.Mem.tail _ (List.Mem.tail _ (List.Mem.head _))), (fun _ hx => by cases hx)⟩)⟩)⟩) ?_
          have u0 : usF h ((c : Nat) : Int) 4 = 0 := by omega
          rw [u0]
          exact fin _ (by omega) (usF_0 4 u0)
        · have f123 : ¬ ((usF h ((c : Nat) : Int) 4) = (0)) := e
          refine w_pl (pc' := 67) (lv' := [(2, (0, (usF h ((c : Nat) : Int) 4))), (1, (0, ((c : Nat) : Int))), (0, (2, ((193 : Nat) : Int)))]) (st' := [(0, ((1 : Nat) : Int)), (0, ((c : Nat) : Int))]) (h' := h) (o272_42 hB) rfl ?_
          refine w_goto (pt := 71) (o272_43 hB) (by decide) ?_
          refine w_iadd (z := (((c + 1) : Nat) : Int)) (pc' := 72) (o272_45 hB) rfl (w32_e (by omega) (by omega)) ?_
          refine w_st (tg := 0) (j := 1) (len := 1) (pc' := 73) (lv' := [(1, (0, (((c + 1) : Nat) : Int))), (2, (0, (usF h ((c : Nat) : Int) 4))), (0, (2, ((193 : Nat) : Int)))]) (o272_46 hB) rfl rfl ml272 (by decide) rfl ?_
          refine w_goto (pt := 4) (o272_47 hB) (by decide) ?_
          refine w_sub (lv' := [(2, (0, (usF h ((c : Nat) : Int) 4))), (1, (0, (((c + 1) : Nat) : Int))), (0, (2, ((193 : Nat) : Int)))]) (List.forall_mem_cons.mpr ⟨(List.Mem.tail _ (List.Mem.head _)), (List.forall_mem_cons.mpr ⟨(List.Mem.head _), (List.forall_mem_cons.mpr ⟨(List.Mem.tail _ (List.Mem.tail _ (List.Mem.head _))), (fun _ hx => by cases hx)⟩)⟩)⟩) ?_
          have u1 : usF h ((c : Nat) : Int) 4 = 1 := by omega
          rw [u1]
          obtain ⟨i, hi, w⟩ := usF_1 4 u1
          refine ih (c + 1) (by omega) (fun v hv => ?_)
          by_cases e : v = c
          · subst e
            rcases w with w | w
            · exact ⟨i, by omega, by rw [show frPl i = (205, i) by unfold frPl; rw [if_pos hi, Nat.mod_eq_of_lt hi]]; exact w⟩
            · exact ⟨i + 4, by omega, by rw [show frPl (i + 4) = (210, i) by unfold frPl; rw [if_neg (by omega), show (i + 4) % 4 = i by omega]]; exact w⟩
          · exact hP v (by omega)
      refine w_pl (pc' := 5) (lv' := [(2, (0, ((1 : Nat) : Int))), (1, (0, ((c : Nat) : Int))), (0, (2, ((193 : Nat) : Int)))]) (st' := [(0, ((1 : Nat) : Int))]) (h' := h) (o272_4 hB) rfl ?_
      refine w_ifc (pt := 76) (pf := 8) (o272_5 hB) (by decide) rfl (fun e => ?_) (fun e => ?_)
      · have f124 : (((1 : Nat) : Int) = (0)) := e
        exfalso; omega
      · have f125 : ¬ (((1 : Nat) : Int) = (0)) := e
        refine w_pl (pc' := 9) (lv' := [(2, (0, ((1 : Nat) : Int))), (1, (0, ((c : Nat) : Int))), (0, (2, ((193 : Nat) : Int)))]) (st' := [(0, ((0 : Nat) : Int))]) (h' := h) (o272_6 hB) rfl ?_
        refine w_st (tg := 0) (j := 2) (len := 1) (pc' := 10) (lv' := [(2, (0, ((0 : Nat) : Int))), (1, (0, ((c : Nat) : Int))), (0, (2, ((193 : Nat) : Int)))]) (o272_7 hB) rfl rfl ml272 (by decide) rfl ?_
        refine w_pl (pc' := 11) (lv' := [(2, (0, ((0 : Nat) : Int))), (1, (0, ((c : Nat) : Int))), (0, (2, ((193 : Nat) : Int)))]) (st' := [(0, ((0 : Nat) : Int))]) (h' := h) (o272_8 hB) rfl ?_
        refine w_st (tg := 0) (j := 3) (len := 1) (pc' := 12) (lv' := [(3, (0, ((0 : Nat) : Int))), (2, (0, ((0 : Nat) : Int))), (1, (0, ((c : Nat) : Int))), (0, (2, ((193 : Nat) : Int)))]) (o272_9 hB) rfl rfl ml272 (by decide) rfl ?_
        refine w_sub (lv' := [(3, (0, ((0 : Nat) : Int))), (2, (0, ((0 : Nat) : Int))), (1, (0, ((c : Nat) : Int))), (0, (2, ((193 : Nat) : Int)))]) (List.forall_mem_cons.mpr ⟨(List.Mem.head _), (List.forall_mem_cons.mpr ⟨(List.Mem.tail _ (List.Mem.head _)), (List.forall_mem_cons.mpr ⟨(List.Mem.tail _ (List.Mem.tail _ (List.Mem.head _))), (List.forall_mem_cons.mpr ⟨(List.Mem.tail _ (List.Mem.tail _ (List.Mem.tail _ (List.Mem.head _)))), (fun _ hx => by cases hx)⟩)⟩)⟩)⟩) ?_
        exact l_free hB ht (by omega) he 4 0 rfl
  refine mh_go hB mg272 ml272 (Nat.le_of_ble_eq_true rfl) ?_
  show HW g l d 272 _ _ 0 [(0, (2, ((193 : Nat) : Int)))] [] h
  refine w_pl (pc' := 1) (lv' := [(0, (2, ((193 : Nat) : Int)))]) (st' := [(0, ((0 : Nat) : Int))]) (h' := h) (o272_0 hB) rfl ?_
  refine w_st (tg := 0) (j := 1) (len := 1) (pc' := 2) (lv' := [(1, (0, ((0 : Nat) : Int))), (0, (2, ((193 : Nat) : Int)))]) (o272_1 hB) rfl rfl ml272 (by decide) rfl ?_
  refine w_pl (pc' := 3) (lv' := [(1, (0, ((0 : Nat) : Int))), (0, (2, ((193 : Nat) : Int)))]) (st' := [(0, ((1 : Nat) : Int))]) (h' := h) (o272_2 hB) rfl ?_
  refine w_st (tg := 0) (j := 2) (len := 1) (pc' := 4) (lv' := [(2, (0, ((1 : Nat) : Int))), (1, (0, ((0 : Nat) : Int))), (0, (2, ((193 : Nat) : Int)))]) (o272_3 hB) rfl rfl ml272 (by decide) rfl ?_
  refine w_sub (lv' := [(2, (0, ((1 : Nat) : Int))), (1, (0, ((0 : Nat) : Int))), (0, (2, ((193 : Nat) : Int)))]) (List.forall_mem_cons.mpr ⟨(List.Mem.head _), (List.forall_mem_cons.mpr ⟨(List.Mem.tail _ (List.Mem.head _)), (List.forall_mem_cons.mpr ⟨(List.Mem.tail _ (List.Mem.tail _ (List.Mem.head _))), (fun _ hx => by cases hx)⟩)⟩)⟩) ?_
  exact key 8 0 rfl (fun v hv => absurd hv (Nat.not_lt_zero v))
theorem l_shM (hB : BytesOK) {g : bG} {l : Launch} {d : Nat} {Q : bQ} {s' rr : Nat} (hr : rr < 8) {t n0 : Int} : ∀ (n b : Nat) (h : bH), b + n = 40 → TR h → Q (some (0, 1)) (hz h 208 ((40 * rr) + b) n) → HW g l d 273 212 Q 85 [(5, (0, ((b : Nat) : Int))), (4, (0, ((rr : Nat) : Int))), (0, (2, ((193 : Nat) : Int))), (1, (0, ((s' : Nat) : Int))), (2, (0, (t))), (3, (0, (n0)))] [] h := by
  intro n
  induction n with
  | zero =>
    intro b h hb hR hq
    rw [hz_0] at hq
    refine w_pl (pc' := 87) (lv' := [(5, (0, ((b : Nat) : Int))), (4, (0, ((rr : Nat) : Int))), (0, (2, ((193 : Nat) : Int))), (1, (0, ((s' : Nat) : Int))), (2, (0, (t))), (3, (0, (n0)))]) (st' := [(0, ((b : Nat) : Int))]) (h' := h) (o273_50 hB) rfl ?_
    refine w_pl (pc' := 89) (lv' := [(5, (0, ((b : Nat) : Int))), (4, (0, ((rr : Nat) : Int))), (0, (2, ((193 : Nat) : Int))), (1, (0, ((s' : Nat) : Int))), (2, (0, (t))), (3, (0, (n0)))]) (st' := [(0, ((40 : Nat) : Int)), (0, ((b : Nat) : Int))]) (h' := h) (o273_51 hB) rfl ?_
    refine w_icmp (pt := 112) (pf := 92) (o273_52 hB) (by decide) rfl (fun e => ?_) (fun e => ?_)
    · have f126 : (((40 : Nat) : Int) ≤ ((b : Nat) : Int)) := e
      refine w_pl (pc' := 113) (lv' := [(5, (0, ((b : Nat) : Int))), (4, (0, ((rr : Nat) : Int))), (0, (2, ((193 : Nat) : Int))), (1, (0, ((s' : Nat) : Int))), (2, (0, (t))), (3, (0, (n0)))]) (st' := [(0, ((1 : Nat) : Int))]) (h' := h) (o273_64 hB) rfl ?_
      exact w_iret (o273_65 hB) mr273 (by unfold in32; omega) hq
    · have f127 : ¬ (((40 : Nat) : Int) ≤ ((b : Nat) : Int)) := e
      exfalso; omega
  | succ n ih =>
    intro b h hb hR hq
    refine w_pl (pc' := 87) (lv' := [(5, (0, ((b : Nat) : Int))), (4, (0, ((rr : Nat) : Int))), (0, (2, ((193 : Nat) : Int))), (1, (0, ((s' : Nat) : Int))), (2, (0, (t))), (3, (0, (n0)))]) (st' := [(0, ((b : Nat) : Int))]) (h' := h) (o273_50 hB) rfl ?_
    refine w_pl (pc' := 89) (lv' := [(5, (0, ((b : Nat) : Int))), (4, (0, ((rr : Nat) : Int))), (0, (2, ((193 : Nat) : Int))), (1, (0, ((s' : Nat) : Int))), (2, (0, (t))), (3, (0, (n0)))]) (st' := [(0, ((40 : Nat) : Int)), (0, ((b : Nat) : Int))]) (h' := h) (o273_51 hB) rfl ?_
    refine w_icmp (pt := 112) (pf := 92) (o273_52 hB) (by decide) rfl (fun e => ?_) (fun e => ?_)
    · have f128 : (((40 : Nat) : Int) ≤ ((b : Nat) : Int)) := e
      exfalso; omega
    · have f129 : ¬ (((40 : Nat) : Int) ≤ ((b : Nat) : Int)) := e
      refine w_pl (pc' := 93) (lv' := [(5, (0, ((b : Nat) : Int))), (4, (0, ((rr : Nat) : Int))), (0, (2, ((193 : Nat) : Int))), (1, (0, ((s' : Nat) : Int))), (2, (0, (t))), (3, (0, (n0)))]) (st' := [(2, ((193 : Nat) : Int))]) (h' := h) (o273_53 hB) rfl ?_
      refine w_getf (A := 193) (t := 2) (z := ((208 : Nat) : Int)) (pc' := 96) (o273_54 hB) rfl (by decide +kernel) (hR (193, 38, 208) (by decide)) ?_
      refine w_pl (pc' := 98) (lv' := [(5, (0, ((b : Nat) : Int))), (4, (0, ((rr : Nat) : Int))), (0, (2, ((193 : Nat) : Int))), (1, (0, ((s' : Nat) : Int))), (2, (0, (t))), (3, (0, (n0)))]) (st' := [(0, ((40 : Nat) : Int)), (2, ((208 : Nat) : Int))]) (h' := h) (o273_55 hB) rfl ?_
      refine w_pl (pc' := 100) (lv' := [(5, (0, ((b : Nat) : Int))), (4, (0, ((rr : Nat) : Int))), (0, (2, ((193 : Nat) : Int))), (1, (0, ((s' : Nat) : Int))), (2, (0, (t))), (3, (0, (n0)))]) (st' := [(0, ((rr : Nat) : Int)), (0, ((40 : Nat) : Int)), (2, ((208 : Nat) : Int))]) (h' := h) (o273_56 hB) rfl ?_
      refine w_imul (z := (((40 * rr) : Nat) : Int)) (pc' := 101) (o273_57 hB) rfl (w32_e (by omega) (by omega)) ?_
      refine w_pl (pc' := 103) (lv' := [(5, (0, ((b : Nat) : Int))), (4, (0, ((rr : Nat) : Int))), (0, (2, ((193 : Nat) : Int))), (1, (0, ((s' : Nat) : Int))), (2, (0, (t))), (3, (0, (n0)))]) (st' := [(0, ((b : Nat) : Int)), (0, (((40 * rr) : Nat) : Int)), (2, ((208 : Nat) : Int))]) (h' := h) (o273_58 hB) rfl ?_
      refine w_iadd (z := ((((40 * rr) + b) : Nat) : Int)) (pc' := 104) (o273_59 hB) rfl (w32_e (by omega) (by omega)) ?_
      refine w_pl (pc' := 105) (lv' := [(5, (0, ((b : Nat) : Int))), (4, (0, ((rr : Nat) : Int))), (0, (2, ((193 : Nat) : Int))), (1, (0, ((s' : Nat) : Int))), (2, (0, (t))), (3, (0, (n0)))]) (st' := [(0, ((0 : Nat) : Int)), (0, ((((40 * rr) + b) : Nat) : Int)), (2, ((208 : Nat) : Int))]) (h' := h) (o273_60 hB) rfl ?_
      refine w_iast (A := 208) (i := ((40 * rr) + b)) (n := 320) (pc' := 106) (o273_61 hB) rfl (by decide +kernel) (by omega) ?_
      refine w_iinc (x := ((b : Nat) : Int)) (z := (((b + 1) : Nat) : Int)) (pc' := 109) (lv' := [(5, (0, (((b + 1) : Nat) : Int))), (4, (0, ((rr : Nat) : Int))), (0, (2, ((193 : Nat) : Int))), (1, (0, ((s' : Nat) : Int))), (2, (0, (t))), (3, (0, (n0)))]) (o273_62 hB) rfl rfl ml273 (by decide) (w32_e (by omega) (by omega)) rfl ?_
      refine w_goto (pt := 85) (o273_63 hB) (by decide) ?_
      refine w_sub (lv' := [(5, (0, (((b + 1) : Nat) : Int))), (4, (0, ((rr : Nat) : Int))), (0, (2, ((193 : Nat) : Int))), (1, (0, ((s' : Nat) : Int))), (2, (0, (t))), (3, (0, (n0)))]) (List.forall_mem_cons.mpr ⟨(List.Mem.head _), (List.forall_mem_cons.mpr ⟨(List.Mem.tail _ (List.Mem.head _)), (List.forall_mem_cons.mpr ⟨(List.Mem.tail _ (List.Mem.tail _ (List.Mem.head _))), (List.forall_mem_cons.mpr ⟨(List.Mem.tail _ (List.Mem.tail _ (List.Mem.tail _ (List.Mem.head _)))), (List.forall_mem_cons.mpr ⟨(List.Mem.tail _ (List.Mem.tail _ (List.Mem.tail _ (List.Mem.tail _ (List.Mem.head _))))), (List.forall_mem_cons.mpr ⟨(List.Mem.tail _ (List.Mem.tail _ (List.Mem.tail _ (List.Mem.tail _ (List.Mem.tail _ (List.Mem.head _)))))), (fun _ hx => by cases hx)⟩)⟩)⟩)⟩)⟩)⟩) ?_
      refine ih (b + 1) _ (by omega) (TR_a hR (by decide +kernel)) ?_
      rw [show ((40 * rr) + (b + 1)) = ((40 * rr) + b) + 1 from by omega]
      rw [show ((0 : Nat) : Int) = 0 from rfl, hz_s]
      exact hq
theorem m_sheetM (hB : BytesOK) {g : bG} {l : Launch} {d : Nat} {Q : bQ} {h : bH} {s t n : Int} (ht : TH h) (z_s : in32 s) (z_t : in32 t) (z_n : in32 n)  (a0 : ¬ ((0 ≤ s ∧ s ≤ 3) ∧ -1 ≤ t ∧ t ≤ 3 ∧ (0 ≤ t → n ≤ 40)) → Q (some (0, (-1))) h) (a1 : ((0 ≤ s ∧ s ≤ 3) ∧ -1 ≤ t ∧ t ≤ 3 ∧ (0 ≤ t → n ≤ 40)) ∧ 0 ≤ t ∧ n < 0 → Q (some (0, (-14))) h) (a2 : ((0 ≤ s ∧ s ≤ 3) ∧ -1 ≤ t ∧ t ≤ 3 ∧ (0 ≤ t → n ≤ 40)) ∧ t < 0 → Q (some (0, 1)) (hup h 205 ((s.toNat)) (-1))) (a3 : ∀ rr : Nat, (rr < 8 ∧ ∀ k, k < 4 → k ≠ s.toNat → h 205 k ≠ (rr : Int)) → ((0 ≤ s ∧ s ≤ 3) ∧ -1 ≤ t ∧ t ≤ 3 ∧ (0 ≤ t → n ≤ 40)) ∧ 0 ≤ t ∧ 0 ≤ n → Q (some (0, 1)) (hz (hup (hup (hup (hup h 205 ((s.toNat)) (-1)) 205 ((s.toNat)) ((rr : Nat) : Int)) 206 (rr) t) 207 (rr) n) (208) ((40 * rr) + 0) 40)) : MH g l (d + 1 + 1) 273 212 212 [(2, ((193 : Nat) : Int)), (0, (s)), (0, (t)), (0, (n))] h Q := by
  have hR := ht.r
  have z0_s := z_s
  have z0_t := z_t
  have z0_n := z_n
  unfold in32 at z0_s
  unfold in32 at z0_t
  unfold in32 at z0_n
  rcases (by omega : ¬ (0 ≤ s ∧ s ≤ 3) ∨ (0 ≤ s ∧ s ≤ 3)) with gg | gg
  · skip
    refine mh_go hB mg273 ml273 (Nat.le_of_ble_eq_true rfl) ?_
    show HW g l (d + 1 + 1) 273 _ _ 0 [(0, (2, ((193 : Nat) : Int))), (1, (0, (s))), (2, (0, (t))), (3, (0, (n)))] [] h
    refine w_pl (pc' := 1) (lv' := [(0, (2, ((193 : Nat) : Int))), (1, (0, (s))), (2, (0, (t))), (3, (0, (n)))]) (st' := [(0, (s))]) (h' := h) (o273_0 hB) rfl ?_
    refine w_callS (as := [(0, (s))]) (rest := []) (n := 1) (pc' := 4) hB (o273_1 hB) rfl (by decide +kernel) rfl rfl (Nat.le_of_ble_eq_true rfl) (m_isFourM hB (fun f162 => ?_) (fun f163 => ?_))
    · exfalso; omega
    · show HW g l _ 273 _ _ 4 [(0, (2, ((193 : Nat) : Int))), (1, (0, (s))), (2, (0, (t))), (3, (0, (n)))] [(0, ((0 : Nat) : Int))] h
      refine w_ifc (pt := 26) (pf := 7) (o273_2 hB) (by decide) rfl (fun e => ?_) (fun e => ?_)
      · have f164 : (((0 : Nat) : Int) = (0)) := e
        refine w_pl (pc' := 27) (lv' := [(0, (2, ((193 : Nat) : Int))), (1, (0, (s))), (2, (0, (t))), (3, (0, (n)))]) (st' := [(0, (-1))]) (h' := h) (o273_13 hB) rfl ?_
        exact w_iret (o273_14 hB) mr273 (by unfold in32; omega) (a0 (by omega))
      · have f165 : ¬ (((0 : Nat) : Int) = (0)) := e
        exfalso; omega
  · obtain ⟨s', e_s⟩ : ∃ q : Nat, s = q := ⟨s.toNat, by omega⟩
    subst e_s
    simp only [Int.toNat_natCast] at a2 a3
    refine mh_go hB mg273 ml273 (Nat.le_of_ble_eq_true rfl) ?_
    show HW g l (d + 1 + 1) 273 _ _ 0 [(0, (2, ((193 : Nat) : Int))), (1, (0, ((s' : Nat) : Int))), (2, (0, (t))), (3, (0, (n)))] [] h
    refine w_pl (pc' := 1) (lv' := [(0, (2, ((193 : Nat) : Int))), (1, (0, ((s' : Nat) : Int))), (2, (0, (t))), (3, (0, (n)))]) (st' := [(0, ((s' : Nat) : Int))]) (h' := h) (o273_0 hB) rfl ?_
    refine w_callS (as := [(0, ((s' : Nat) : Int))]) (rest := []) (n := 1) (pc' := 4) hB (o273_1 hB) rfl (by decide +kernel) rfl rfl (Nat.le_of_ble_eq_true rfl) (m_isFourM hB (fun f166 => ?_) (fun f167 => ?_))
    · show HW g l _ 273 _ _ 4 [(0, (2, ((193 : Nat) : Int))), (1, (0, ((s' : Nat) : Int))), (2, (0, (t))), (3, (0, (n)))] [(0, ((1 : Nat) : Int))] h
      refine w_ifc (pt := 26) (pf := 7) (o273_2 hB) (by decide) rfl (fun e => ?_) (fun e => ?_)
      · have f168 : (((1 : Nat) : Int) = (0)) := e
        exfalso; omega
      · have f169 : ¬ (((1 : Nat) : Int) = (0)) := e
        refine w_pl (pc' := 8) (lv' := [(0, (2, ((193 : Nat) : Int))), (1, (0, ((s' : Nat) : Int))), (2, (0, (t))), (3, (0, (n)))]) (st' := [(0, (t))]) (h' := h) (o273_3 hB) rfl ?_
        refine w_pl (pc' := 9) (lv' := [(0, (2, ((193 : Nat) : Int))), (1, (0, ((s' : Nat) : Int))), (2, (0, (t))), (3, (0, (n)))]) (st' := [(0, (-1)), (0, (t))]) (h' := h) (o273_4 hB) rfl ?_
        refine w_pl (pc' := 10) (lv' := [(0, (2, ((193 : Nat) : Int))), (1, (0, ((s' : Nat) : Int))), (2, (0, (t))), (3, (0, (n)))]) (st' := [(0, ((3 : Nat) : Int)), (0, (-1)), (0, (t))]) (h' := h) (o273_5 hB) rfl ?_
        refine w_callS (as := [(0, (t)), (0, (-1)), (0, ((3 : Nat) : Int))]) (rest := []) (n := 3) (pc' := 13) hB (o273_6 hB) rfl (by decide +kernel) rfl rfl (Nat.le_of_ble_eq_true rfl) (m_in hB (fun f170 => ?_) (fun f171 => ?_))
        · show HW g l _ 273 _ _ 13 [(0, (2, ((193 : Nat) : Int))), (1, (0, ((s' : Nat) : Int))), (2, (0, (t))), (3, (0, (n)))] [(0, ((1 : Nat) : Int))] h
          refine w_ifc (pt := 26) (pf := 16) (o273_7 hB) (by decide) rfl (fun e => ?_) (fun e => ?_)
          · have f172 : (((1 : Nat) : Int) = (0)) := e
            exfalso; omega
          · have f173 : ¬ (((1 : Nat) : Int) = (0)) := e
            refine w_pl (pc' := 17) (lv' := [(0, (2, ((193 : Nat) : Int))), (1, (0, ((s' : Nat) : Int))), (2, (0, (t))), (3, (0, (n)))]) (st' := [(0, (t))]) (h' := h) (o273_8 hB) rfl ?_
            refine w_ifc (pt := 28) (pf := 20) (o273_9 hB) (by decide) rfl (fun e => ?_) (fun e => ?_)
            · have f174 : ((t) < (0)) := e
              refine w_pl (pc' := 29) (lv' := [(0, (2, ((193 : Nat) : Int))), (1, (0, ((s' : Nat) : Int))), (2, (0, (t))), (3, (0, (n)))]) (st' := [(0, (t))]) (h' := h) (o273_15 hB) rfl ?_
              refine w_ifc (pt := 39) (pf := 32) (o273_16 hB) (by decide) rfl (fun e => ?_) (fun e => ?_)
              · have f175 : ((t) < (0)) := e
                refine w_pl (pc' := 40) (lv' := [(0, (2, ((193 : Nat) : Int))), (1, (0, ((s' : Nat) : Int))), (2, (0, (t))), (3, (0, (n)))]) (st' := [(2, ((193 : Nat) : Int))]) (h' := h) (o273_21 hB) rfl ?_
                refine w_getf (A := 193) (t := 2) (z := ((205 : Nat) : Int)) (pc' := 43) (o273_22 hB) rfl (by decide +kernel) (hR (193, 35, 205) (by decide)) ?_
                refine w_pl (pc' := 44) (lv' := [(0, (2, ((193 : Nat) : Int))), (1, (0, ((s' : Nat) : Int))), (2, (0, (t))), (3, (0, (n)))]) (st' := [(0, ((s' : Nat) : Int)), (2, ((205 : Nat) : Int))]) (h' := h) (o273_23 hB) rfl ?_
                refine w_pl (pc' := 45) (lv' := [(0, (2, ((193 : Nat) : Int))), (1, (0, ((s' : Nat) : Int))), (2, (0, (t))), (3, (0, (n)))]) (st' := [(0, (-1)), (0, ((s' : Nat) : Int)), (2, ((205 : Nat) : Int))]) (h' := h) (o273_24 hB) rfl ?_
                refine w_iast (A := 205) (i := s') (n := 4) (pc' := 46) (o273_25 hB) rfl (by decide +kernel) (by omega) ?_
                refine w_pl (pc' := 47) (lv' := [(0, (2, ((193 : Nat) : Int))), (1, (0, ((s' : Nat) : Int))), (2, (0, (t))), (3, (0, (n)))]) (st' := [(0, (t))]) (h' := (hup h 205 (s') (-1))) (o273_26 hB) rfl ?_
                refine w_ifc (pt := 52) (pf := 50) (o273_27 hB) (by decide) rfl (fun e => ?_) (fun e => ?_)
                · have f176 : ((0) ≤ (t)) := e
                  refine w_pl (pc' := 53) (lv' := [(0, (2, ((193 : Nat) : Int))), (1, (0, ((s' : Nat) : Int))), (2, (0, (t))), (3, (0, (n)))]) (st' := [(2, ((193 : Nat) : Int))]) (h' := (hup h 205 (s') (-1))) (o273_30 hB) rfl ?_
                  refine w_callV (A := 193) (as := []) (rest := []) (n := 0) (pc' := 56) 11 hB (o273_31 hB) rfl (by decide +kernel) rfl rfl (Nat.le_of_ble_eq_true rfl) (m_freeRow hB (s := s') ((ht).ups2 (a := 205) (s := 0) (st := 1) (n := 4) (lo := (-1)) (hi := 7) (r := s') (by decide +kernel) (by omega) (by omega) (by omega)) (by omega) hup_eq (fun rr hr hf => ?_))
                  show HW g l _ 273 _ _ 56 [(0, (2, ((193 : Nat) : Int))), (1, (0, ((s' : Nat) : Int))), (2, (0, (t))), (3, (0, (n)))] [(0, ((rr : Nat) : Int))] (hup h 205 (s') (-1))
                  refine w_st (tg := 0) (j := 4) (len := 2) (pc' := 58) (lv' := [(4, (0, ((rr : Nat) : Int))), (0, (2, ((193 : Nat) : Int))), (1, (0, ((s' : Nat) : Int))), (2, (0, (t))), (3, (0, (n)))]) (o273_32 hB) rfl rfl ml273 (by decide) rfl ?_
                  refine w_pl (pc' := 59) (lv' := [(4, (0, ((rr : Nat) : Int))), (0, (2, ((193 : Nat) : Int))), (1, (0, ((s' : Nat) : Int))), (2, (0, (t))), (3, (0, (n)))]) (st' := [(2, ((193 : Nat) : Int))]) (h' := (hup h 205 (s') (-1))) (o273_33 hB) rfl ?_
                  refine w_getf (A := 193) (t := 2) (z := ((205 : Nat) : Int)) (pc' := 62) (o273_34 hB) rfl (by decide +kernel) ((hup_ne (by decide)).trans (hR (193, 35, 205) (by decide))) ?_
                  refine w_pl (pc' := 63) (lv' := [(4, (0, ((rr : Nat) : Int))), (0, (2, ((193 : Nat) : Int))), (1, (0, ((s' : Nat) : Int))), (2, (0, (t))), (3, (0, (n)))]) (st' := [(0, ((s' : Nat) : Int)), (2, ((205 : Nat) : Int))]) (h' := (hup h 205 (s') (-1))) (o273_35 hB) rfl ?_
                  refine w_pl (pc' := 65) (lv' := [(4, (0, ((rr : Nat) : Int))), (0, (2, ((193 : Nat) : Int))), (1, (0, ((s' : Nat) : Int))), (2, (0, (t))), (3, (0, (n)))]) (st' := [(0, ((rr : Nat) : Int)), (0, ((s' : Nat) : Int)), (2, ((205 : Nat) : Int))]) (h' := (hup h 205 (s') (-1))) (o273_36 hB) rfl ?_
                  refine w_iast (A := 205) (i := s') (n := 4) (pc' := 66) (o273_37 hB) rfl (by decide +kernel) (by omega) ?_
                  refine w_pl (pc' := 67) (lv' := [(4, (0, ((rr : Nat) : Int))), (0, (2, ((193 : Nat) : Int))), (1, (0, ((s' : Nat) : Int))), (2, (0, (t))), (3, (0, (n)))]) (st' := [(2, ((193 : Nat) : Int))]) (h' := (hup (hup h 205 (s') (-1)) 205 (s') ((rr : Nat) : Int))) (o273_38 hB) rfl ?_
                  refine w_getf (A := 193) (t := 2) (z := ((206 : Nat) : Int)) (pc' := 70) (o273_39 hB) rfl (by decide +kernel) ((hup_ne (by decide)).trans ((hup_ne (by decide)).trans (hR (193, 36, 206) (by decide)))) ?_
                  refine w_pl (pc' := 72) (lv' := [(4, (0, ((rr : Nat) : Int))), (0, (2, ((193 : Nat) : Int))), (1, (0, ((s' : Nat) : Int))), (2, (0, (t))), (3, (0, (n)))]) (st' := [(0, ((rr : Nat) : Int)), (2, ((206 : Nat) : Int))]) (h' := (hup (hup h 205 (s') (-1)) 205 (s') ((rr : Nat) : Int))) (o273_40 hB) rfl ?_
                  refine w_pl (pc' := 73) (lv' := [(4, (0, ((rr : Nat) : Int))), (0, (2, ((193 : Nat) : Int))), (1, (0, ((s' : Nat) : Int))), (2, (0, (t))), (3, (0, (n)))]) (st' := [(0, (t)), (0, ((rr : Nat) : Int)), (2, ((206 : Nat) : Int))]) (h' := (hup (hup h 205 (s') (-1)) 205 (s') ((rr : Nat) : Int))) (o273_41 hB) rfl ?_
                  refine w_iast (A := 206) (i := rr) (n := 8) (pc' := 74) (o273_42 hB) rfl (by decide +kernel) (by omega) ?_
                  refine w_pl (pc' := 75) (lv' := [(4, (0, ((rr : Nat) : Int))), (0, (2, ((193 : Nat) : Int))), (1, (0, ((s' : Nat) : Int))), (2, (0, (t))), (3, (0, (n)))]) (st' := [(2, ((193 : Nat) : Int))]) (h' := (hup (hup (hup h 205 (s') (-1)) 205 (s') ((rr : Nat) : Int)) 206 (rr) (t))) (o273_43 hB) rfl ?_
                  refine w_getf (A := 193) (t := 2) (z := ((207 : Nat) : Int)) (pc' := 78) (o273_44 hB) rfl (by decide +kernel) ((hup_ne (by decide)).trans ((hup_ne (by decide)).trans ((hup_ne (by decide)).trans (hR (193, 37, 207) (by decide))))) ?_
                  refine w_pl (pc' := 80) (lv' := [(4, (0, ((rr : Nat) : Int))), (0, (2, ((193 : Nat) : Int))), (1, (0, ((s' : Nat) : Int))), (2, (0, (t))), (3, (0, (n)))]) (st' := [(0, ((rr : Nat) : Int)), (2, ((207 : Nat) : Int))]) (h' := (hup (hup (hup h 205 (s') (-1)) 205 (s') ((rr : Nat) : Int)) 206 (rr) (t))) (o273_45 hB) rfl ?_
                  refine w_pl (pc' := 81) (lv' := [(4, (0, ((rr : Nat) : Int))), (0, (2, ((193 : Nat) : Int))), (1, (0, ((s' : Nat) : Int))), (2, (0, (t))), (3, (0, (n)))]) (st' := [(0, (n)), (0, ((rr : Nat) : Int)), (2, ((207 : Nat) : Int))]) (h' := (hup (hup (hup h 205 (s') (-1)) 205 (s') ((rr : Nat) : Int)) 206 (rr) (t))) (o273_46 hB) rfl ?_
                  refine w_iast (A := 207) (i := rr) (n := 8) (pc' := 82) (o273_47 hB) rfl (by decide +kernel) (by omega) ?_
                  refine w_pl (pc' := 83) (lv' := [(4, (0, ((rr : Nat) : Int))), (0, (2, ((193 : Nat) : Int))), (1, (0, ((s' : Nat) : Int))), (2, (0, (t))), (3, (0, (n)))]) (st' := [(0, ((0 : Nat) : Int))]) (h' := (hup (hup (hup (hup h 205 (s') (-1)) 205 (s') ((rr : Nat) : Int)) 206 (rr) (t)) 207 (rr) (n))) (o273_48 hB) rfl ?_
                  refine w_st (tg := 0) (j := 5) (len := 2) (pc' := 85) (lv' := [(5, (0, ((0 : Nat) : Int))), (4, (0, ((rr : Nat) : Int))), (0, (2, ((193 : Nat) : Int))), (1, (0, ((s' : Nat) : Int))), (2, (0, (t))), (3, (0, (n)))]) (o273_49 hB) rfl rfl ml273 (by decide) rfl ?_
                  refine w_sub (lv' := [(5, (0, ((0 : Nat) : Int))), (4, (0, ((rr : Nat) : Int))), (0, (2, ((193 : Nat) : Int))), (1, (0, ((s' : Nat) : Int))), (2, (0, (t))), (3, (0, (n)))]) (List.forall_mem_cons.mpr ⟨(List.Mem.head _), (List.forall_mem_cons.mpr ⟨(List.Mem.tail _ (List.Mem.head _)), (List.forall_mem_cons.mpr ⟨(List.Mem.tail _ (List.Mem.tail _ (List.Mem.head _))), (List.forall_mem_cons.mpr ⟨(List.Mem.tail _ (List.Mem.tail _ (List.Mem.tail _ (List.Mem.head _)))), (List.forall_mem_cons.mpr ⟨(List.Mem.tail _ (List.Mem.tail _ (List.Mem.tail _ (List.Mem.tail _ (List.Mem.head _))))), (List.forall_mem_cons.mpr ⟨(List.Mem.tail _ (List.Mem.tail _ (List.Mem.tail _ (List.Mem.tail _ (List.Mem.tail _ (List.Mem.head _)))))), (fun _ hx => by cases hx)⟩)⟩)⟩)⟩)⟩)⟩) ?_
                  exact l_shM hB hr 40 0 _ rfl (TR_a (TR_a (TR_a (TR_a hR (by decide +kernel)) (by decide +kernel)) (by decide +kernel)) (by decide +kernel)) (a3 rr ⟨hr, fun k h1 h2 => by rw [← hup_nj (h := h) (a := 205) (j := s') (x := (-1)) h2]; exact hf k h1⟩ (by omega))
                · have f178 : ¬ ((0) ≤ (t)) := e
                  refine w_pl (pc' := 51) (lv' := [(0, (2, ((193 : Nat) : Int))), (1, (0, ((s' : Nat) : Int))), (2, (0, (t))), (3, (0, (n)))]) (st' := [(0, ((1 : Nat) : Int))]) (h' := (hup h 205 (s') (-1))) (o273_28 hB) rfl ?_
                  exact w_iret (o273_29 hB) mr273 (by unfold in32; omega) (a2 (by omega))
              · have f179 : ¬ ((t) < (0)) := e
                exfalso; omega
            · have f180 : ¬ ((t) < (0)) := e
              refine w_pl (pc' := 21) (lv' := [(0, (2, ((193 : Nat) : Int))), (1, (0, ((s' : Nat) : Int))), (2, (0, (t))), (3, (0, (n)))]) (st' := [(0, (n))]) (h' := h) (o273_10 hB) rfl ?_
              refine w_pl (pc' := 23) (lv' := [(0, (2, ((193 : Nat) : Int))), (1, (0, ((s' : Nat) : Int))), (2, (0, (t))), (3, (0, (n)))]) (st' := [(0, ((40 : Nat) : Int)), (0, (n))]) (h' := h) (o273_11 hB) rfl ?_
              refine w_icmp (pt := 28) (pf := 26) (o273_12 hB) (by decide) rfl (fun e => ?_) (fun e => ?_)
              · have f181 : ((n) ≤ ((40 : Nat) : Int)) := e
                refine w_pl (pc' := 29) (lv' := [(0, (2, ((193 : Nat) : Int))), (1, (0, ((s' : Nat) : Int))), (2, (0, (t))), (3, (0, (n)))]) (st' := [(0, (t))]) (h' := h) (o273_15 hB) rfl ?_
                refine w_ifc (pt := 39) (pf := 32) (o273_16 hB) (by decide) rfl (fun e => ?_) (fun e => ?_)
                · have f182 : ((t) < (0)) := e
                  exfalso; omega
                · have f183 : ¬ ((t) < (0)) := e
                  refine w_pl (pc' := 33) (lv' := [(0, (2, ((193 : Nat) : Int))), (1, (0, ((s' : Nat) : Int))), (2, (0, (t))), (3, (0, (n)))]) (st' := [(0, (n))]) (h' := h) (o273_17 hB) rfl ?_
                  refine w_ifc (pt := 39) (pf := 36) (o273_18 hB) (by decide) rfl (fun e => ?_) (fun e => ?_)
                  · have f184 : ((0) ≤ (n)) := e
                    refine w_pl (pc' := 40) (lv' := [(0, (2, ((193 : Nat) : Int))), (1, (0, ((s' : Nat) : Int))), (2, (0, (t))), (3, (0, (n)))]) (st' := [(2, ((193 : Nat) : Int))]) (h' := h) (o273_21 hB) rfl ?_
                    refine w_getf (A := 193) (t := 2) (z := ((205 : Nat) : Int)) (pc' := 43) (o273_22 hB) rfl (by decide +kernel) (hR (193, 35, 205) (by decide)) ?_
                    refine w_pl (pc' := 44) (lv' := [(0, (2, ((193 : Nat) : Int))), (1, (0, ((s' : Nat) : Int))), (2, (0, (t))), (3, (0, (n)))]) (st' := [(0, ((s' : Nat) : Int)), (2, ((205 : Nat) : Int))]) (h' := h) (o273_23 hB) rfl ?_
                    refine w_pl (pc' := 45) (lv' := [(0, (2, ((193 : Nat) : Int))), (1, (0, ((s' : Nat) : Int))), (2, (0, (t))), (3, (0, (n)))]) (st' := [(0, (-1)), (0, ((s' : Nat) : Int)), (2, ((205 : Nat) : Int))]) (h' := h) (o273_24 hB) rfl ?_
                    refine w_iast (A := 205) (i := s') (n := 4) (pc' := 46) (o273_25 hB) rfl (by decide +kernel) (by omega) ?_
                    refine w_pl (pc' := 47) (lv' := [(0, (2, ((193 : Nat) : Int))), (1, (0, ((s' : Nat) : Int))), (2, (0, (t))), (3, (0, (n)))]) (st' := [(0, (t))]) (h' := (hup h 205 (s') (-1))) (o273_26 hB) rfl ?_
                    refine w_ifc (pt := 52) (pf := 50) (o273_27 hB) (by decide) rfl (fun e => ?_) (fun e => ?_)
                    · have f185 : ((0) ≤ (t)) := e
                      refine w_pl (pc' := 53) (lv' := [(0, (2, ((193 : Nat) : Int))), (1, (0, ((s' : Nat) : Int))), (2, (0, (t))), (3, (0, (n)))]) (st' := [(2, ((193 : Nat) : Int))]) (h' := (hup h 205 (s') (-1))) (o273_30 hB) rfl ?_
                      refine w_callV (A := 193) (as := []) (rest := []) (n := 0) (pc' := 56) 11 hB (o273_31 hB) rfl (by decide +kernel) rfl rfl (Nat.le_of_ble_eq_true rfl) (m_freeRow hB (s := s') ((ht).ups2 (a := 205) (s := 0) (st := 1) (n := 4) (lo := (-1)) (hi := 7) (r := s') (by decide +kernel) (by omega) (by omega) (by omega)) (by omega) hup_eq (fun rr hr hf => ?_))
                      show HW g l _ 273 _ _ 56 [(0, (2, ((193 : Nat) : Int))), (1, (0, ((s' : Nat) : Int))), (2, (0, (t))), (3, (0, (n)))] [(0, ((rr : Nat) : Int))] (hup h 205 (s') (-1))
                      refine w_st (tg := 0) (j := 4) (len := 2) (pc' := 58) (lv' := [(4, (0, ((rr : Nat) : Int))), (0, (2, ((193 : Nat) : Int))), (1, (0, ((s' : Nat) : Int))), (2, (0, (t))), (3, (0, (n)))]) (o273_32 hB) rfl rfl ml273 (by decide) rfl ?_
                      refine w_pl (pc' := 59) (lv' := [(4, (0, ((rr : Nat) : Int))), (0, (2, ((193 : Nat) : Int))), (1, (0, ((s' : Nat) : Int))), (2, (0, (t))), (3, (0, (n)))]) (st' := [(2, ((193 : Nat) : Int))]) (h' := (hup h 205 (s') (-1))) (o273_33 hB) rfl ?_
                      refine w_getf (A := 193) (t := 2) (z := ((205 : Nat) : Int)) (pc' := 62) (o273_34 hB) rfl (by decide +kernel) ((hup_ne (by decide)).trans (hR (193, 35, 205) (by decide))) ?_
                      refine w_pl (pc' := 63) (lv' := [(4, (0, ((rr : Nat) : Int))), (0, (2, ((193 : Nat) : Int))), (1, (0, ((s' : Nat) : Int))), (2, (0, (t))), (3, (0, (n)))]) (st' := [(0, ((s' : Nat) : Int)), (2, ((205 : Nat) : Int))]) (h' := (hup h 205 (s') (-1))) (o273_35 hB) rfl ?_
                      refine w_pl (pc' := 65) (lv' := [(4, (0, ((rr : Nat) : Int))), (0, (2, ((193 : Nat) : Int))), (1, (0, ((s' : Nat) : Int))), (2, (0, (t))), (3, (0, (n)))]) (st' := [(0, ((rr : Nat) : Int)), (0, ((s' : Nat) : Int)), (2, ((205 : Nat) : Int))]) (h' := (hup h 205 (s') (-1))) (o273_36 hB) rfl ?_
                      refine w_iast (A := 205) (i := s') (n := 4) (pc' := 66) (o273_37 hB) rfl (by decide +kernel) (by omega) ?_
                      refine w_pl (pc' := 67) (lv' := [(4, (0, ((rr : Nat) : Int))), (0, (2, ((193 : Nat) : Int))), (1, (0, ((s' : Nat) : Int))), (2, (0, (t))), (3, (0, (n)))]) (st' := [(2, ((193 : Nat) : Int))]) (h' := (hup (hup h 205 (s') (-1)) 205 (s') ((rr : Nat) : Int))) (o273_38 hB) rfl ?_
                      refine w_getf (A := 193) (t := 2) (z := ((206 : Nat) : Int)) (pc' := 70) (o273_39 hB) rfl (by decide +kernel) ((hup_ne (by decide)).trans ((hup_ne (by decide)).trans (hR (193, 36, 206) (by decide)))) ?_
                      refine w_pl (pc' := 72) (lv' := [(4, (0, ((rr : Nat) : Int))), (0, (2, ((193 : Nat) : Int))), (1, (0, ((s' : Nat) : Int))), (2, (0, (t))), (3, (0, (n)))]) (st' := [(0, ((rr : Nat) : Int)), (2, ((206 : Nat) : Int))]) (h' := (hup (hup h 205 (s') (-1)) 205 (s') ((rr : Nat) : Int))) (o273_40 hB) rfl ?_
                      refine w_pl (pc' := 73) (lv' := [(4, (0, ((rr : Nat) : Int))), (0, (2, ((193 : Nat) : Int))), (1, (0, ((s' : Nat) : Int))), (2, (0, (t))), (3, (0, (n)))]) (st' := [(0, (t)), (0, ((rr : Nat) : Int)), (2, ((206 : Nat) : Int))]) (h' := (hup (hup h 205 (s') (-1)) 205 (s') ((rr : Nat) : Int))) (o273_41 hB) rfl ?_
                      refine w_iast (A := 206) (i := rr) (n := 8) (pc' := 74) (o273_42 hB) rfl (by decide +kernel) (by omega) ?_
                      refine w_pl (pc' := 75) (lv' := [(4, (0, ((rr : Nat) : Int))), (0, (2, ((193 : Nat) : Int))), (1, (0, ((s' : Nat) : Int))), (2, (0, (t))), (3, (0, (n)))]) (st' := [(2, ((193 : Nat) : Int))]) (h' := (hup (hup (hup h 205 (s') (-1)) 205 (s') ((rr : Nat) : Int)) 206 (rr) (t))) (o273_43 hB) rfl ?_
                      refine w_getf (A := 193) (t := 2) (z := ((207 : Nat) : Int)) (pc' := 78) (o273_44 hB) rfl (by decide +kernel) ((hup_ne (by decide)).trans ((hup_ne (by decide)).trans ((hup_ne (by decide)).trans (hR (193, 37, 207) (by decide))))) ?_
                      refine w_pl (pc' := 80) (lv' := [(4, (0, ((rr : Nat) : Int))), (0, (2, ((193 : Nat) : Int))), (1, (0, ((s' : Nat) : Int))), (2, (0, (t))), (3, (0, (n)))]) (st' := [(0, ((rr : Nat) : Int)), (2, ((207 : Nat) : Int))]) (h' := (hup (hup (hup h 205 (s') (-1)) 205 (s') ((rr : Nat) : Int)) 206 (rr) (t))) (o273_45 hB) rfl ?_
                      refine w_pl (pc' := 81) (lv' := [(4, (0, ((rr : Nat) : Int))), (0, (2, ((193 : Nat) : Int))), (1, (0, ((s' : Nat) : Int))), (2, (0, (t))), (3, (0, (n)))]) (st' := [(0, (n)), (0, ((rr : Nat) : Int)), (2, ((207 : Nat) : Int))]) (h' := (hup (hup (hup h 205 (s') (-1)) 205 (s') ((rr : Nat) : Int)) 206 (rr) (t))) (o273_46 hB) rfl ?_
                      refine w_iast (A := 207) (i := rr) (n := 8) (pc' := 82) (o273_47 hB) rfl (by decide +kernel) (by omega) ?_
                      refine w_pl (pc' := 83) (lv' := [(4, (0, ((rr : Nat) : Int))), (0, (2, ((193 : Nat) : Int))), (1, (0, ((s' : Nat) : Int))), (2, (0, (t))), (3, (0, (n)))]) (st' := [(0, ((0 : Nat) : Int))]) (h' := (hup (hup (hup (hup h 205 (s') (-1)) 205 (s') ((rr : Nat) : Int)) 206 (rr) (t)) 207 (rr) (n))) (o273_48 hB) rfl ?_
                      refine w_st (tg := 0) (j := 5) (len := 2) (pc' := 85) (lv' := [(5, (0, ((0 : Nat) : Int))), (4, (0, ((rr : Nat) : Int))), (0, (2, ((193 : Nat) : Int))), (1, (0, ((s' : Nat) : Int))), (2, (0, (t))), (3, (0, (n)))]) (o273_49 hB) rfl rfl ml273 (by decide) rfl ?_
                      refine w_sub (lv' := [(5, (0, ((0 : Nat) : Int))), (4, (0, ((rr : Nat) : Int))), (0, (2, ((193 : Nat) : Int))), (1, (0, ((s' : Nat) : Int))), (2, (0, (t))), (3, (0, (n)))]) (List.forall_mem_cons.mpr ⟨(List.Mem.head _), (List.forall_mem_cons.mpr ⟨(List.Mem.tail _ (List.Mem.head _)), (List.forall_mem_cons.mpr ⟨(List.Mem.tail _ (List.Mem.tail _ (List.Mem.head _))), (List.forall_mem_cons.mpr ⟨(List.Mem.tail _ (List.Mem.tail _ (List.Mem.tail _ (List.Mem.head _)))), (List.forall_mem_cons.mpr ⟨(List.Mem.tail _ (List.Mem.tail _ (List.Mem.tail _ (List.Mem.tail _ (List.Mem.head _))))), (List.forall_mem_cons.mpr ⟨(List.Mem.tail _ (List.Mem.tail _ (List.Mem.tail _ (List.Mem.tail _ (List.Mem.tail _ (List.Mem.head _)))))), (fun _ hx => by cases hx)⟩)⟩)⟩)⟩)⟩)⟩) ?_
                      exact l_shM hB hr 40 0 _ rfl (TR_a (TR_a (TR_a (TR_a hR (by decide +kernel)) (by decide +kernel)) (by decide +kernel)) (by decide +kernel)) (a3 rr ⟨hr, fun k h1 h2 => by rw [← hup_nj (h := h) (a := 205) (j := s') (x := (-1)) h2]; exact hf k h1⟩ (by omega))
                    · have f187 : ¬ ((0) ≤ (t)) := e
                      refine w_pl (pc' := 51) (lv' := [(0, (2, ((193 : Nat) : Int))), (1, (0, ((s' : Nat) : Int))), (2, (0, (t))), (3, (0, (n)))]) (st' := [(0, ((1 : Nat) : Int))]) (h' := (hup h 205 (s') (-1))) (o273_28 hB) rfl ?_
                      exact w_iret (o273_29 hB) mr273 (by unfold in32; omega) (a2 (by omega))
                  · have f188 : ¬ ((0) ≤ (n)) := e
                    refine w_pl (pc' := 38) (lv' := [(0, (2, ((193 : Nat) : Int))), (1, (0, ((s' : Nat) : Int))), (2, (0, (t))), (3, (0, (n)))]) (st' := [(0, (-14))]) (h' := h) (o273_19 hB) rfl ?_
                    exact w_iret (o273_20 hB) mr273 (by unfold in32; omega) (a1 (by omega))
              · have f189 : ¬ ((n) ≤ ((40 : Nat) : Int)) := e
                refine w_pl (pc' := 27) (lv' := [(0, (2, ((193 : Nat) : Int))), (1, (0, ((s' : Nat) : Int))), (2, (0, (t))), (3, (0, (n)))]) (st' := [(0, (-1))]) (h' := h) (o273_13 hB) rfl ?_
                exact w_iret (o273_14 hB) mr273 (by unfold in32; omega) (a0 (by omega))
        · show HW g l _ 273 _ _ 13 [(0, (2, ((193 : Nat) : Int))), (1, (0, ((s' : Nat) : Int))), (2, (0, (t))), (3, (0, (n)))] [(0, ((0 : Nat) : Int))] h
          refine w_ifc (pt := 26) (pf := 16) (o273_7 hB) (by decide) rfl (fun e => ?_) (fun e => ?_)
          · have f190 : (((0 : Nat) : Int) = (0)) := e
            refine w_pl (pc' := 27) (lv' := [(0, (2, ((193 : Nat) : Int))), (1, (0, ((s' : Nat) : Int))), (2, (0, (t))), (3, (0, (n)))]) (st' := [(0, (-1))]) (h' := h) (o273_13 hB) rfl ?_
            exact w_iret (o273_14 hB) mr273 (by unfold in32; omega) (a0 (by omega))
          · have f191 : ¬ (((0 : Nat) : Int) = (0)) := e
            exfalso; omega
    · show HW g l _ 273 _ _ 4 [(0, (2, ((193 : Nat) : Int))), (1, (0, ((s' : Nat) : Int))), (2, (0, (t))), (3, (0, (n)))] [(0, ((0 : Nat) : Int))] h
      refine w_ifc (pt := 26) (pf := 7) (o273_2 hB) (by decide) rfl (fun e => ?_) (fun e => ?_)
      · have f192 : (((0 : Nat) : Int) = (0)) := e
        refine w_pl (pc' := 27) (lv' := [(0, (2, ((193 : Nat) : Int))), (1, (0, ((s' : Nat) : Int))), (2, (0, (t))), (3, (0, (n)))]) (st' := [(0, (-1))]) (h' := h) (o273_13 hB) rfl ?_
        exact w_iret (o273_14 hB) mr273 (by unfold in32; omega) (a0 (by omega))
      · have f193 : ¬ (((0 : Nat) : Int) = (0)) := e
        exfalso; omega
def s_sheetM (vs : List bV) (h : bH) (r : Option bV) (h' : bH) : Prop := TH h ∧ ∀ (s t n : Int) , vs = [(2, ((193 : Nat) : Int)), (0, s), (0, t), (0, n)] → ((¬ ((0 ≤ s ∧ s ≤ 3) ∧ -1 ≤ t ∧ t ≤ 3 ∧ (0 ≤ t → n ≤ 40))) ∧ r = some (0, (-1)) ∧ h = h') ∨ ((((0 ≤ s ∧ s ≤ 3) ∧ -1 ≤ t ∧ t ≤ 3 ∧ (0 ≤ t → n ≤ 40)) ∧ 0 ≤ t ∧ n < 0) ∧ r = some (0, (-14)) ∧ h = h') ∨ ((((0 ≤ s ∧ s ≤ 3) ∧ -1 ≤ t ∧ t ≤ 3 ∧ (0 ≤ t → n ≤ 40)) ∧ t < 0) ∧ r = some (0, 1) ∧ h' = (hup h 205 ((s.toNat)) (-1))) ∨ (∃ rr : Nat, (rr < 8 ∧ ∀ k, k < 4 → k ≠ s.toNat → h 205 k ≠ (rr : Int)) ∧ (((0 ≤ s ∧ s ≤ 3) ∧ -1 ≤ t ∧ t ≤ 3 ∧ (0 ≤ t → n ≤ 40)) ∧ 0 ≤ t ∧ 0 ≤ n) ∧ r = some (0, 1) ∧ h' = (hz (hup (hup (hup (hup h 205 ((s.toNat)) (-1)) 205 ((s.toNat)) ((rr : Nat) : Int)) 206 (rr) t) 207 (rr) n) (208) ((40 * rr) + 0) 40))
def w_sheetM : List (Nat × Nat × Nat) := [(205, 0, 4), (206, 0, 8), (207, 0, 8), (208, 0, 320)]
def q_sheetM : aCt := cH 273 2 w_sheetM 3 193
theorem sk_sheetM (hB : BytesOK) (g : bG) (l : Launch) : SK g l gT q_sheetM s_sheetM := by
  intro d hd ρ h Q hcore hQ
  have hcore : core (PofW gT (some w_sheetM) false) (gsc g) h ρ h (List.replicate 3 r32, [], [], 212) := hcore
  have ht := hTH hcore
  have y0 := r32_0 hcore 0 (by decide)
  have y1 := r32_0 hcore 1 (by decide)
  have y2 := r32_0 hcore 2 (by decide)
  have y00 := y0
  unfold in32 at y00
  have y01 := y1
  unfold in32 at y01
  have y02 := y2
  unfold in32 at y02
  obtain ⟨d', rfl⟩ : ∃ d', d = d' + 1 + 1 := ⟨d - 2, by have : 2 ≤ d := hd; omega⟩
  rw [show evS ρ (ctA q_sheetM) = [(2, ((193 : Nat) : Int)), (0, ρ 0), (0, ρ 1), (0, ρ 2)] from evA3]
  refine m_sheetM (s := ρ 0) (t := ρ 1) (n := ρ 2) hB ht y0 y1 y2 (fun hn => ?_) (fun hn => ?_) (fun hn => ?_) (fun rr hP hn => ?_)
  · refine hQ _ _ (hpost hcore (ht) (fun _ _ _ => rfl) (by unfold in32; omega)) ⟨ht, fun s t n hv => ?_⟩
    have hv := (evA3 (ρ := ρ)).symm.trans hv
    obtain ⟨rfl, rfl, rfl⟩ := vsA3 hv
    exact Or.inl ⟨hn, rfl, rfl⟩
  · refine hQ _ _ (hpost hcore (ht) (fun _ _ _ => rfl) (by unfold in32; omega)) ⟨ht, fun s t n hv => ?_⟩
    have hv := (evA3 (ρ := ρ)).symm.trans hv
    obtain ⟨rfl, rfl, rfl⟩ := vsA3 hv
    exact Or.inr (Or.inl ⟨hn, rfl, rfl⟩)
  · skip
    obtain ⟨s', e_s9⟩ : ∃ q : Nat, (ρ 0).toNat = q := ⟨_, rfl⟩
    rw [e_s9]
    refine hQ _ _ (hpost hcore ((ht).ups2 (a := 205) (s := 0) (st := 1) (n := 4) (lo := (-1)) (hi := 7) (r := s') (by decide +kernel) (by omega) (by omega) (by omega)) (fr_up (fun _ _ _ => rfl) (wr_in (lo := 0) (hi := 4) (by decide) (by omega) (by omega))) (by unfold in32; omega)) ⟨ht, fun s t n hv => ?_⟩
    have hv := (evA3 (ρ := ρ)).symm.trans hv
    obtain ⟨rfl, rfl, rfl⟩ := vsA3 hv
    exact Or.inr (Or.inr (Or.inl ⟨hn, by first | rfl | rw [e_s9], by rw [e_s9]⟩))
  · skip
    obtain ⟨s', e_s9⟩ : ∃ q : Nat, (ρ 0).toNat = q := ⟨_, rfl⟩
    rw [e_s9]
    refine hQ _ _ (hpost hcore ((((((ht).ups2 (a := 205) (s := 0) (st := 1) (n := 4) (lo := (-1)) (hi := 7) (r := s') (by decide +kernel) (by omega) (by omega) (by omega)).ups2 (a := 205) (s := 0) (st := 1) (n := 4) (lo := (-1)) (hi := 7) (r := s') (by decide +kernel) (by omega) (by omega) (by omega)).ups2 (a := 206) (s := 0) (st := 1) (n := 8) (lo := (0)) (hi := 3) (r := rr) (by decide +kernel) (by omega) (by omega) (by omega)).ups2 (a := 207) (s := 0) (st := 1) (n := 8) (lo := (0)) (hi := 40) (r := rr) (by decide +kernel) (by omega) (by omega) (by omega)).hz (a := 208) (s := (40 * rr) + 0) (n := 40) (fun j j1 j2 j3 => by have e := sB_x (a := 208) (s := 0) (n := 320) (lo := -2147483648) (hi := 2147483647) (by decide +kernel) (Nat.zero_le j) (by omega); rw [e]; exact ⟨by decide, by decide⟩)) (fr_hz (fr_up (fr_up (fr_up (fr_up (fun _ _ _ => rfl) (wr_in (lo := 0) (hi := 4) (by decide) (by omega) (by omega))) (wr_in (lo := 0) (hi := 4) (by decide) (by omega) (by omega))) (wr_in (lo := 0) (hi := 8) (by decide) (by omega) (by omega))) (wr_in (lo := 0) (hi := 8) (by decide) (by omega) (by omega))) (fun j j1 j2 => (wr_in (lo := 0) (hi := 320) (by decide) (by omega) (by omega)))) (by unfold in32; omega)) ⟨ht, fun s t n hv => ?_⟩
    have hv := (evA3 (ρ := ρ)).symm.trans hv
    obtain ⟨rfl, rfl, rfl⟩ := vsA3 hv
    exact Or.inr (Or.inr (Or.inr (⟨rr, hP, hn, by first | rfl | rw [e_s9], by rw [e_s9]⟩)))
theorem bmod_r (v : Int) : -128 ≤ Int.bmod v 256 ∧ Int.bmod v 256 ≤ 127 := by
  have h1 := Int.le_bmod (x := v) (m := 256) (by decide)
  have h2 := Int.bmod_lt (x := v) (m := 256) (by decide)
  omega
theorem bmod_s (v : Int) : -32768 ≤ Int.bmod v 65536 ∧ Int.bmod v 65536 ≤ 32767 := by
  have h1 := Int.le_bmod (x := v) (m := 65536) (by decide)
  have h2 := Int.bmod_lt (x := v) (m := 65536) (by decide)
  omega
theorem m_narrowed (hB : BytesOK) {g : bG} {l : Launch} {d : Nat} {Q : bQ} {h : bH} {t v : Int} (z_v : in32 v) (n0 : t = 0 → Q (some (1, Int.bmod v 256)) h) (n1 : t = 1 → Q (some (1, Int.bmod v 65536)) h) (n2 : t ≠ 0 ∧ t ≠ 1 → Q (some (1, v)) h) : MH g l d 70 212 212 [(0, t), (0, v)] h Q := by
  unfold in32 at z_v
  have b1 := bmod_r v
  have b2 := bmod_s v
  refine mh_go hB mg70 ml70 (Nat.le_of_ble_eq_true rfl) ?_
  show HW g l d 70 _ _ 0 [(0, (0, (t))), (1, (0, (v)))] [] h
  refine w_pl (pc' := 1) (lv' := [(0, (0, (t))), (1, (0, (v)))]) (st' := [(0, (t))]) (h' := h) (o70_0 hB) rfl ?_
  refine w_ifc (pt := 10) (pf := 4) (o70_1 hB) (by decide) rfl (fun e => ?_) (fun e => ?_)
  · have f194 : ((t) ≠ (0)) := e
    refine w_pl (pc' := 11) (lv' := [(0, (0, (t))), (1, (0, (v)))]) (st' := [(0, (t))]) (h' := h) (o70_6 hB) rfl ?_
    refine w_pl (pc' := 12) (lv' := [(0, (0, (t))), (1, (0, (v)))]) (st' := [(0, ((1 : Nat) : Int)), (0, (t))]) (h' := h) (o70_7 hB) rfl ?_
    refine w_icmp (pt := 21) (pf := 15) (o70_8 hB) (by decide) rfl (fun e => ?_) (fun e => ?_)
    · have f195 : ((t) ≠ ((1 : Nat) : Int)) := e
      refine w_pl (pc' := 22) (lv' := [(0, (0, (t))), (1, (0, (v)))]) (st' := [(0, (v))]) (h' := h) (o70_13 hB) rfl ?_
      refine w_pl (pc' := 23) (lv' := [(0, (0, (t))), (1, (0, (v)))]) (st' := [(1, (v))]) (h' := h) (o70_14 hB) rfl ?_
      exact w_lret (o70_15 hB) mr70 (by unfold in64; omega) (n2 (by omega))
    · have f196 : ¬ ((t) ≠ ((1 : Nat) : Int)) := e
      refine w_pl (pc' := 16) (lv' := [(0, (0, (t))), (1, (0, (v)))]) (st' := [(0, (v))]) (h' := h) (o70_9 hB) rfl ?_
      refine w_i2s (z := (Int.bmod (v) 65536)) (pc' := 17) (o70_10 hB) rfl rfl ?_
      refine w_pl (pc' := 18) (lv' := [(0, (0, (t))), (1, (0, (v)))]) (st' := [(1, (Int.bmod (v) 65536))]) (h' := h) (o70_11 hB) rfl ?_
      refine w_goto (pt := 23) (o70_12 hB) (by decide) ?_
      exact w_lret (o70_15 hB) mr70 (by unfold in64; omega) (n1 (by omega))
  · have f197 : ¬ ((t) ≠ (0)) := e
    refine w_pl (pc' := 5) (lv' := [(0, (0, (t))), (1, (0, (v)))]) (st' := [(0, (v))]) (h' := h) (o70_2 hB) rfl ?_
    refine w_i2b (z := (Int.bmod (v) 256)) (pc' := 6) (o70_3 hB) rfl rfl ?_
    refine w_pl (pc' := 7) (lv' := [(0, (0, (t))), (1, (0, (v)))]) (st' := [(1, (Int.bmod (v) 256))]) (h' := h) (o70_4 hB) rfl ?_
    refine w_goto (pt := 23) (o70_5 hB) (by decide) ?_
    exact w_lret (o70_15 hB) mr70 (by unfold in64; omega) (n0 (by omega))
theorem m_change (hB : BytesOK) {g : bG} {l : Launch} {d : Nat} {Q : bQ} {h : bH} {s i v : Int} (ht : TH h) (z_s : in32 s) (z_i : in32 i) (z_v : in32 v) {tt : Int} (htt : h 182 (s.toNat) = tt) {sz : Int} (hsz : h 183 (s.toNat) = sz)  (a0 : ¬ (0 ≤ s ∧ s ≤ 3) → Q (some (0, (-1))) h) (a1 : (0 ≤ s ∧ s ≤ 3) ∧ tt < 0 → Q (some (0, (-11))) h) (a2 : (0 ≤ s ∧ s ≤ 3) ∧ 0 ≤ tt ∧ ¬ (0 ≤ i ∧ i < sz) → Q (some (0, (-12))) h) (a3 : ((0 ≤ s ∧ s ≤ 3) ∧ 0 ≤ tt ∧ 0 ≤ i ∧ i < sz) ∧ tt = 0 → Q (some (0, 1)) (hup h (185 + (s.toNat)) ((i.toNat)) (Int.bmod (v) 256))) (a4 : ((0 ≤ s ∧ s ≤ 3) ∧ 0 ≤ tt ∧ 0 ≤ i ∧ i < sz) ∧ tt = 1 → Q (some (0, 1)) (hup h (185 + (s.toNat)) ((i.toNat)) (Int.bmod (v) 65536))) (a5 : ((0 ≤ s ∧ s ≤ 3) ∧ 0 ≤ tt ∧ 0 ≤ i ∧ i < sz) ∧ tt ≠ 0 ∧ tt ≠ 1 → Q (some (0, 1)) (hup h (185 + (s.toNat)) ((i.toNat)) (v))) : MH g l (d + 1) 69 212 212 [(2, ((181 : Nat) : Int)), (0, (s)), (0, (i)), (0, (v))] h Q := by
  have hR := ht.r
  have z0_s := z_s
  have z0_i := z_i
  have z0_v := z_v
  unfold in32 at z0_s
  unfold in32 at z0_i
  unfold in32 at z0_v
  have b1 := bmod_r v
  have b2 := bmod_s v
  rcases (by omega : ¬ (0 ≤ s ∧ s ≤ 3) ∨ ((0 ≤ s ∧ s ≤ 3) ∧ (i < 0 ∨ 0 ≤ i))) with gg | ⟨gg, gi | gi⟩
  · skip
    refine mh_go hB mg69 ml69 (Nat.le_of_ble_eq_true rfl) ?_
    show HW g l (d + 1) 69 _ _ 0 [(0, (2, ((181 : Nat) : Int))), (1, (0, (s))), (2, (0, (i))), (3, (0, (v)))] [] h
    refine w_pl (pc' := 1) (lv' := [(0, (2, ((181 : Nat) : Int))), (1, (0, (s))), (2, (0, (i))), (3, (0, (v)))]) (st' := [(0, (s))]) (h' := h) (o69_0 hB) rfl ?_
    refine w_callS (as := [(0, (s))]) (rest := []) (n := 1) (pc' := 4) hB (o69_1 hB) rfl (by decide +kernel) rfl rfl (Nat.le_of_ble_eq_true rfl) (m_isSheetB hB (fun f227 => ?_) (fun f228 => ?_))
    · exfalso; omega
    · show HW g l _ 69 _ _ 4 [(0, (2, ((181 : Nat) : Int))), (1, (0, (s))), (2, (0, (i))), (3, (0, (v)))] [(0, ((0 : Nat) : Int))] h
      refine w_ifc (pt := 9) (pf := 7) (o69_2 hB) (by decide) rfl (fun e => ?_) (fun e => ?_)
      · have f229 : (((0 : Nat) : Int) ≠ (0)) := e
        exfalso; omega
      · have f230 : ¬ (((0 : Nat) : Int) ≠ (0)) := e
        refine w_pl (pc' := 8) (lv' := [(0, (2, ((181 : Nat) : Int))), (1, (0, (s))), (2, (0, (i))), (3, (0, (v)))]) (st' := [(0, (-1))]) (h' := h) (o69_3 hB) rfl ?_
        exact w_iret (o69_4 hB) mr69 (by unfold in32; omega) (a0 (by omega))
  · obtain ⟨s', e_s⟩ : ∃ q : Nat, s = q := ⟨s.toNat, by omega⟩
    subst e_s
    simp only [Int.toNat_natCast] at htt hsz
    have r_tt := ty_182_s0 ht (j := s') (r := s') (by omega) (by omega)
    rw [htt] at r_tt
    have r_sz := ty_183_s0 ht (j := s') (r := s') (by omega) (by omega)
    rw [hsz] at r_sz
    refine mh_go hB mg69 ml69 (Nat.le_of_ble_eq_true rfl) ?_
    show HW g l (d + 1) 69 _ _ 0 [(0, (2, ((181 : Nat) : Int))), (1, (0, ((s' : Nat) : Int))), (2, (0, (i))), (3, (0, (v)))] [] h
    refine w_pl (pc' := 1) (lv' := [(0, (2, ((181 : Nat) : Int))), (1, (0, ((s' : Nat) : Int))), (2, (0, (i))), (3, (0, (v)))]) (st' := [(0, ((s' : Nat) : Int))]) (h' := h) (o69_0 hB) rfl ?_
    refine w_callS (as := [(0, ((s' : Nat) : Int))]) (rest := []) (n := 1) (pc' := 4) hB (o69_1 hB) rfl (by decide +kernel) rfl rfl (Nat.le_of_ble_eq_true rfl) (m_isSheetB hB (fun f231 => ?_) (fun f232 => ?_))
    · show HW g l _ 69 _ _ 4 [(0, (2, ((181 : Nat) : Int))), (1, (0, ((s' : Nat) : Int))), (2, (0, (i))), (3, (0, (v)))] [(0, ((1 : Nat) : Int))] h
      refine w_ifc (pt := 9) (pf := 7) (o69_2 hB) (by decide) rfl (fun e => ?_) (fun e => ?_)
      · have f233 : (((1 : Nat) : Int) ≠ (0)) := e
        refine w_pl (pc' := 10) (lv' := [(0, (2, ((181 : Nat) : Int))), (1, (0, ((s' : Nat) : Int))), (2, (0, (i))), (3, (0, (v)))]) (st' := [(2, ((181 : Nat) : Int))]) (h' := h) (o69_5 hB) rfl ?_
        refine w_getf (A := 181) (t := 2) (z := ((182 : Nat) : Int)) (pc' := 13) (o69_6 hB) rfl (by decide +kernel) (hR (181, 0, 182) (by decide)) ?_
        refine w_pl (pc' := 14) (lv' := [(0, (2, ((181 : Nat) : Int))), (1, (0, ((s' : Nat) : Int))), (2, (0, (i))), (3, (0, (v)))]) (st' := [(0, ((s' : Nat) : Int)), (2, ((182 : Nat) : Int))]) (h' := h) (o69_7 hB) rfl ?_
        refine w_iald (A := 182) (i := s') (n := 4) (z := (tt)) (pc' := 15) (o69_8 hB) rfl (by decide +kernel) (by omega) htt ?_
        refine w_ifc (pt := 21) (pf := 18) (o69_9 hB) (by decide) rfl (fun e => ?_) (fun e => ?_)
        · have f234 : ((0) ≤ (tt)) := e
          refine w_pl (pc' := 22) (lv' := [(0, (2, ((181 : Nat) : Int))), (1, (0, ((s' : Nat) : Int))), (2, (0, (i))), (3, (0, (v)))]) (st' := [(0, (i))]) (h' := h) (o69_12 hB) rfl ?_
          refine w_ifc (pt := 35) (pf := 25) (o69_13 hB) (by decide) rfl (fun e => ?_) (fun e => ?_)
          · have f235 : ((i) < (0)) := e
            refine w_pl (pc' := 37) (lv' := [(0, (2, ((181 : Nat) : Int))), (1, (0, ((s' : Nat) : Int))), (2, (0, (i))), (3, (0, (v)))]) (st' := [(0, (-12))]) (h' := h) (o69_20 hB) rfl ?_
            exact w_iret (o69_21 hB) mr69 (by unfold in32; omega) (a2 (by omega))
          · have f236 : ¬ ((i) < (0)) := e
            exfalso; omega
        · have f237 : ¬ ((0) ≤ (tt)) := e
          refine w_pl (pc' := 20) (lv' := [(0, (2, ((181 : Nat) : Int))), (1, (0, ((s' : Nat) : Int))), (2, (0, (i))), (3, (0, (v)))]) (st' := [(0, (-11))]) (h' := h) (o69_10 hB) rfl ?_
          exact w_iret (o69_11 hB) mr69 (by unfold in32; omega) (a1 (by omega))
      · have f238 : ¬ (((1 : Nat) : Int) ≠ (0)) := e
        exfalso; omega
    · show HW g l _ 69 _ _ 4 [(0, (2, ((181 : Nat) : Int))), (1, (0, ((s' : Nat) : Int))), (2, (0, (i))), (3, (0, (v)))] [(0, ((0 : Nat) : Int))] h
      refine w_ifc (pt := 9) (pf := 7) (o69_2 hB) (by decide) rfl (fun e => ?_) (fun e => ?_)
      · have f239 : (((0 : Nat) : Int) ≠ (0)) := e
        exfalso; omega
      · have f240 : ¬ (((0 : Nat) : Int) ≠ (0)) := e
        refine w_pl (pc' := 8) (lv' := [(0, (2, ((181 : Nat) : Int))), (1, (0, ((s' : Nat) : Int))), (2, (0, (i))), (3, (0, (v)))]) (st' := [(0, (-1))]) (h' := h) (o69_3 hB) rfl ?_
        exact w_iret (o69_4 hB) mr69 (by unfold in32; omega) (a0 (by omega))
  · obtain ⟨s', e_s⟩ : ∃ q : Nat, s = q := ⟨s.toNat, by omega⟩
    subst e_s
    simp only [Int.toNat_natCast] at htt hsz
    have r_tt := ty_182_s0 ht (j := s') (r := s') (by omega) (by omega)
    rw [htt] at r_tt
    have r_sz := ty_183_s0 ht (j := s') (r := s') (by omega) (by omega)
    rw [hsz] at r_sz
    obtain ⟨i', e_i⟩ : ∃ q : Nat, i = q := ⟨i.toNat, by omega⟩
    subst e_i
    simp only [Int.toNat_natCast] at a3 a4 a5
    refine mh_go hB mg69 ml69 (Nat.le_of_ble_eq_true rfl) ?_
    show HW g l (d + 1) 69 _ _ 0 [(0, (2, ((181 : Nat) : Int))), (1, (0, ((s' : Nat) : Int))), (2, (0, ((i' : Nat) : Int))), (3, (0, (v)))] [] h
    refine w_pl (pc' := 1) (lv' := [(0, (2, ((181 : Nat) : Int))), (1, (0, ((s' : Nat) : Int))), (2, (0, ((i' : Nat) : Int))), (3, (0, (v)))]) (st' := [(0, ((s' : Nat) : Int))]) (h' := h) (o69_0 hB) rfl ?_
    refine w_callS (as := [(0, ((s' : Nat) : Int))]) (rest := []) (n := 1) (pc' := 4) hB (o69_1 hB) rfl (by decide +kernel) rfl rfl (Nat.le_of_ble_eq_true rfl) (m_isSheetB hB (fun f241 => ?_) (fun f242 => ?_))
    · show HW g l _ 69 _ _ 4 [(0, (2, ((181 : Nat) : Int))), (1, (0, ((s' : Nat) : Int))), (2, (0, ((i' : Nat) : Int))), (3, (0, (v)))] [(0, ((1 : Nat) : Int))] h
      refine w_ifc (pt := 9) (pf := 7) (o69_2 hB) (by decide) rfl (fun e => ?_) (fun e => ?_)
      · have f243 : (((1 : Nat) : Int) ≠ (0)) := e
        refine w_pl (pc' := 10) (lv' := [(0, (2, ((181 : Nat) : Int))), (1, (0, ((s' : Nat) : Int))), (2, (0, ((i' : Nat) : Int))), (3, (0, (v)))]) (st' := [(2, ((181 : Nat) : Int))]) (h' := h) (o69_5 hB) rfl ?_
        refine w_getf (A := 181) (t := 2) (z := ((182 : Nat) : Int)) (pc' := 13) (o69_6 hB) rfl (by decide +kernel) (hR (181, 0, 182) (by decide)) ?_
        refine w_pl (pc' := 14) (lv' := [(0, (2, ((181 : Nat) : Int))), (1, (0, ((s' : Nat) : Int))), (2, (0, ((i' : Nat) : Int))), (3, (0, (v)))]) (st' := [(0, ((s' : Nat) : Int)), (2, ((182 : Nat) : Int))]) (h' := h) (o69_7 hB) rfl ?_
        refine w_iald (A := 182) (i := s') (n := 4) (z := (tt)) (pc' := 15) (o69_8 hB) rfl (by decide +kernel) (by omega) htt ?_
        refine w_ifc (pt := 21) (pf := 18) (o69_9 hB) (by decide) rfl (fun e => ?_) (fun e => ?_)
        · have f244 : ((0) ≤ (tt)) := e
          refine w_pl (pc' := 22) (lv' := [(0, (2, ((181 : Nat) : Int))), (1, (0, ((s' : Nat) : Int))), (2, (0, ((i' : Nat) : Int))), (3, (0, (v)))]) (st' := [(0, ((i' : Nat) : Int))]) (h' := h) (o69_12 hB) rfl ?_
          refine w_ifc (pt := 35) (pf := 25) (o69_13 hB) (by decide) rfl (fun e => ?_) (fun e => ?_)
          · have f245 : (((i' : Nat) : Int) < (0)) := e
            refine w_pl (pc' := 37) (lv' := [(0, (2, ((181 : Nat) : Int))), (1, (0, ((s' : Nat) : Int))), (2, (0, ((i' : Nat) : Int))), (3, (0, (v)))]) (st' := [(0, (-12))]) (h' := h) (o69_20 hB) rfl ?_
            exact w_iret (o69_21 hB) mr69 (by unfold in32; omega) (a2 (by omega))
          · have f246 : ¬ (((i' : Nat) : Int) < (0)) := e
            refine w_pl (pc' := 26) (lv' := [(0, (2, ((181 : Nat) : Int))), (1, (0, ((s' : Nat) : Int))), (2, (0, ((i' : Nat) : Int))), (3, (0, (v)))]) (st' := [(0, ((i' : Nat) : Int))]) (h' := h) (o69_14 hB) rfl ?_
            refine w_pl (pc' := 27) (lv' := [(0, (2, ((181 : Nat) : Int))), (1, (0, ((s' : Nat) : Int))), (2, (0, ((i' : Nat) : Int))), (3, (0, (v)))]) (st' := [(2, ((181 : Nat) : Int)), (0, ((i' : Nat) : Int))]) (h' := h) (o69_15 hB) rfl ?_
            refine w_getf (A := 181) (t := 2) (z := ((183 : Nat) : Int)) (pc' := 30) (o69_16 hB) rfl (by decide +kernel) (hR (181, 1, 183) (by decide)) ?_
            refine w_pl (pc' := 31) (lv' := [(0, (2, ((181 : Nat) : Int))), (1, (0, ((s' : Nat) : Int))), (2, (0, ((i' : Nat) : Int))), (3, (0, (v)))]) (st' := [(0, ((s' : Nat) : Int)), (2, ((183 : Nat) : Int)), (0, ((i' : Nat) : Int))]) (h' := h) (o69_17 hB) rfl ?_
            refine w_iald (A := 183) (i := s') (n := 4) (z := (sz)) (pc' := 32) (o69_18 hB) rfl (by decide +kernel) (by omega) hsz ?_
            refine w_icmp (pt := 38) (pf := 35) (o69_19 hB) (by decide) rfl (fun e => ?_) (fun e => ?_)
            · have f247 : (((i' : Nat) : Int) < (sz)) := e
              refine w_pl (pc' := 39) (lv' := [(0, (2, ((181 : Nat) : Int))), (1, (0, ((s' : Nat) : Int))), (2, (0, ((i' : Nat) : Int))), (3, (0, (v)))]) (st' := [(2, ((181 : Nat) : Int))]) (h' := h) (o69_22 hB) rfl ?_
              refine w_getf (A := 181) (t := 2) (z := ((184 : Nat) : Int)) (pc' := 42) (o69_23 hB) rfl (by decide +kernel) (hR (181, 2, 184) (by decide)) ?_
              refine w_pl (pc' := 43) (lv' := [(0, (2, ((181 : Nat) : Int))), (1, (0, ((s' : Nat) : Int))), (2, (0, ((i' : Nat) : Int))), (3, (0, (v)))]) (st' := [(0, ((s' : Nat) : Int)), (2, ((184 : Nat) : Int))]) (h' := h) (o69_24 hB) rfl ?_
              refine w_aald (kd := 3) (A := 184) (i := s') (n := 4) (B := (185 + s')) (pc' := 44) (o69_25 hB) rfl rfl (by decide +kernel) (by omega) (h184 hR (by omega)) ?_
              refine w_pl (pc' := 45) (lv' := [(0, (2, ((181 : Nat) : Int))), (1, (0, ((s' : Nat) : Int))), (2, (0, ((i' : Nat) : Int))), (3, (0, (v)))]) (st' := [(0, ((i' : Nat) : Int)), (2, (((185 + s') : Nat) : Int))]) (h' := h) (o69_26 hB) rfl ?_
              refine w_pl (pc' := 46) (lv' := [(0, (2, ((181 : Nat) : Int))), (1, (0, ((s' : Nat) : Int))), (2, (0, ((i' : Nat) : Int))), (3, (0, (v)))]) (st' := [(2, ((181 : Nat) : Int)), (0, ((i' : Nat) : Int)), (2, (((185 + s') : Nat) : Int))]) (h' := h) (o69_27 hB) rfl ?_
              refine w_getf (A := 181) (t := 2) (z := ((182 : Nat) : Int)) (pc' := 49) (o69_28 hB) rfl (by decide +kernel) (hR (181, 0, 182) (by decide)) ?_
              refine w_pl (pc' := 50) (lv' := [(0, (2, ((181 : Nat) : Int))), (1, (0, ((s' : Nat) : Int))), (2, (0, ((i' : Nat) : Int))), (3, (0, (v)))]) (st' := [(0, ((s' : Nat) : Int)), (2, ((182 : Nat) : Int)), (0, ((i' : Nat) : Int)), (2, (((185 + s') : Nat) : Int))]) (h' := h) (o69_29 hB) rfl ?_
              refine w_iald (A := 182) (i := s') (n := 4) (z := (tt)) (pc' := 51) (o69_30 hB) rfl (by decide +kernel) (by omega) htt ?_
              refine w_pl (pc' := 52) (lv' := [(0, (2, ((181 : Nat) : Int))), (1, (0, ((s' : Nat) : Int))), (2, (0, ((i' : Nat) : Int))), (3, (0, (v)))]) (st' := [(0, (v)), (0, (tt)), (0, ((i' : Nat) : Int)), (2, (((185 + s') : Nat) : Int))]) (h' := h) (o69_31 hB) rfl ?_
              refine w_callS (as := [(0, (tt)), (0, (v))]) (rest := [(0, ((i' : Nat) : Int)), (2, (((185 + s') : Nat) : Int))]) (n := 2) (pc' := 55) hB (o69_32 hB) rfl (by decide +kernel) rfl rfl (Nat.le_of_ble_eq_true rfl) (m_narrowed hB z_v (fun f248 => ?_) (fun f249 => ?_) (fun f250 => ?_))
              · show HW g l _ 69 _ _ 55 [(0, (2, ((181 : Nat) : Int))), (1, (0, ((s' : Nat) : Int))), (2, (0, ((i' : Nat) : Int))), (3, (0, (v)))] [(1, (Int.bmod (v) 256)), (0, ((i' : Nat) : Int)), (2, (((185 + s') : Nat) : Int))] h
                refine w_last (A := (185 + s')) (i := i') (n := 40) (pc' := 56) (o69_33 hB) rfl (ar185 (by omega)) (by omega) ?_
                refine w_pl (pc' := 57) (lv' := [(0, (2, ((181 : Nat) : Int))), (1, (0, ((s' : Nat) : Int))), (2, (0, ((i' : Nat) : Int))), (3, (0, (v)))]) (st' := [(0, ((1 : Nat) : Int))]) (h' := (hup h (185 + s') (i') (Int.bmod (v) 256))) (o69_34 hB) rfl ?_
                exact w_iret (o69_35 hB) mr69 (by unfold in32; omega) (a3 (by omega))
              · show HW g l _ 69 _ _ 55 [(0, (2, ((181 : Nat) : Int))), (1, (0, ((s' : Nat) : Int))), (2, (0, ((i' : Nat) : Int))), (3, (0, (v)))] [(1, (Int.bmod (v) 65536)), (0, ((i' : Nat) : Int)), (2, (((185 + s') : Nat) : Int))] h
                refine w_last (A := (185 + s')) (i := i') (n := 40) (pc' := 56) (o69_33 hB) rfl (ar185 (by omega)) (by omega) ?_
                refine w_pl (pc' := 57) (lv' := [(0, (2, ((181 : Nat) : Int))), (1, (0, ((s' : Nat) : Int))), (2, (0, ((i' : Nat) : Int))), (3, (0, (v)))]) (st' := [(0, ((1 : Nat) : Int))]) (h' := (hup h (185 + s') (i') (Int.bmod (v) 65536))) (o69_34 hB) rfl ?_
                exact w_iret (o69_35 hB) mr69 (by unfold in32; omega) (a4 (by omega))
              · show HW g l _ 69 _ _ 55 [(0, (2, ((181 : Nat) : Int))), (1, (0, ((s' : Nat) : Int))), (2, (0, ((i' : Nat) : Int))), (3, (0, (v)))] [(1, (v)), (0, ((i' : Nat) : Int)), (2, (((185 + s') : Nat) : Int))] h
                refine w_last (A := (185 + s')) (i := i') (n := 40) (pc' := 56) (o69_33 hB) rfl (ar185 (by omega)) (by omega) ?_
                refine w_pl (pc' := 57) (lv' := [(0, (2, ((181 : Nat) : Int))), (1, (0, ((s' : Nat) : Int))), (2, (0, ((i' : Nat) : Int))), (3, (0, (v)))]) (st' := [(0, ((1 : Nat) : Int))]) (h' := (hup h (185 + s') (i') (v))) (o69_34 hB) rfl ?_
                exact w_iret (o69_35 hB) mr69 (by unfold in32; omega) (a5 (by omega))
            · have f251 : ¬ (((i' : Nat) : Int) < (sz)) := e
              refine w_pl (pc' := 37) (lv' := [(0, (2, ((181 : Nat) : Int))), (1, (0, ((s' : Nat) : Int))), (2, (0, ((i' : Nat) : Int))), (3, (0, (v)))]) (st' := [(0, (-12))]) (h' := h) (o69_20 hB) rfl ?_
              exact w_iret (o69_21 hB) mr69 (by unfold in32; omega) (a2 (by omega))
        · have f252 : ¬ ((0) ≤ (tt)) := e
          refine w_pl (pc' := 20) (lv' := [(0, (2, ((181 : Nat) : Int))), (1, (0, ((s' : Nat) : Int))), (2, (0, ((i' : Nat) : Int))), (3, (0, (v)))]) (st' := [(0, (-11))]) (h' := h) (o69_10 hB) rfl ?_
          exact w_iret (o69_11 hB) mr69 (by unfold in32; omega) (a1 (by omega))
      · have f253 : ¬ (((1 : Nat) : Int) ≠ (0)) := e
        exfalso; omega
    · show HW g l _ 69 _ _ 4 [(0, (2, ((181 : Nat) : Int))), (1, (0, ((s' : Nat) : Int))), (2, (0, ((i' : Nat) : Int))), (3, (0, (v)))] [(0, ((0 : Nat) : Int))] h
      refine w_ifc (pt := 9) (pf := 7) (o69_2 hB) (by decide) rfl (fun e => ?_) (fun e => ?_)
      · have f254 : (((0 : Nat) : Int) ≠ (0)) := e
        exfalso; omega
      · have f255 : ¬ (((0 : Nat) : Int) ≠ (0)) := e
        refine w_pl (pc' := 8) (lv' := [(0, (2, ((181 : Nat) : Int))), (1, (0, ((s' : Nat) : Int))), (2, (0, ((i' : Nat) : Int))), (3, (0, (v)))]) (st' := [(0, (-1))]) (h' := h) (o69_3 hB) rfl ?_
        exact w_iret (o69_4 hB) mr69 (by unfold in32; omega) (a0 (by omega))
theorem m_putB (hB : BytesOK) {g : bG} {l : Launch} {d : Nat} {Q : bQ} {h : bH} {s i v : Int} (ht : TH h) (z_s : in32 s) (z_i : in32 i) (z_v : in32 v) {tt : Int} (htt : h 182 (s.toNat) = tt) {sz : Int} (hsz : h 183 (s.toNat) = sz)  (a0 : ¬ (0 ≤ s ∧ s ≤ 3) → Q (some (0, (-1))) h) (a1 : (0 ≤ s ∧ s ≤ 3) ∧ tt < 0 → Q (some (0, (-11))) h) (a2 : (0 ≤ s ∧ s ≤ 3) ∧ 0 ≤ tt ∧ ¬ (0 ≤ i ∧ i < sz) → Q (some (0, (-12))) h) (a3 : ((0 ≤ s ∧ s ≤ 3) ∧ 0 ≤ tt ∧ 0 ≤ i ∧ i < sz) ∧ tt = 0 → Q (some (0, 1)) (hup h (185 + (s.toNat)) ((i.toNat)) (Int.bmod (v) 256))) (a4 : ((0 ≤ s ∧ s ≤ 3) ∧ 0 ≤ tt ∧ 0 ≤ i ∧ i < sz) ∧ tt = 1 → Q (some (0, 1)) (hup h (185 + (s.toNat)) ((i.toNat)) (Int.bmod (v) 65536))) (a5 : ((0 ≤ s ∧ s ≤ 3) ∧ 0 ≤ tt ∧ 0 ≤ i ∧ i < sz) ∧ tt ≠ 0 ∧ tt ≠ 1 → Q (some (0, 1)) (hup h (185 + (s.toNat)) ((i.toNat)) (v))) : MH g l (d + 1 + 1) 161 212 212 [(2, ((0 : Nat) : Int)), (0, (s)), (0, (i)), (0, (v))] h Q := by
  have hR := ht.r
  have z0_s := z_s
  have z0_i := z_i
  have z0_v := z_v
  unfold in32 at z0_s
  unfold in32 at z0_i
  unfold in32 at z0_v
  refine mh_go hB mg161 ml161 (Nat.le_of_ble_eq_true rfl) ?_
  show HW g l (d + 1 + 1) 161 _ _ 0 [(0, (2, ((0 : Nat) : Int))), (1, (0, (s))), (2, (0, (i))), (3, (0, (v)))] [] h
  refine w_pl (pc' := 1) (lv' := [(0, (2, ((0 : Nat) : Int))), (1, (0, (s))), (2, (0, (i))), (3, (0, (v)))]) (st' := [(2, ((0 : Nat) : Int))]) (h' := h) (o161_0 hB) rfl ?_
  refine w_getf (A := 0) (t := 2) (z := ((181 : Nat) : Int)) (pc' := 4) (o161_1 hB) rfl (by decide +kernel) (hR (0, 5, 181) (by decide)) ?_
  refine w_pl (pc' := 5) (lv' := [(0, (2, ((0 : Nat) : Int))), (1, (0, (s))), (2, (0, (i))), (3, (0, (v)))]) (st' := [(0, (s)), (2, ((181 : Nat) : Int))]) (h' := h) (o161_2 hB) rfl ?_
  refine w_pl (pc' := 6) (lv' := [(0, (2, ((0 : Nat) : Int))), (1, (0, (s))), (2, (0, (i))), (3, (0, (v)))]) (st' := [(0, (i)), (0, (s)), (2, ((181 : Nat) : Int))]) (h' := h) (o161_3 hB) rfl ?_
  refine w_pl (pc' := 7) (lv' := [(0, (2, ((0 : Nat) : Int))), (1, (0, (s))), (2, (0, (i))), (3, (0, (v)))]) (st' := [(0, (v)), (0, (i)), (0, (s)), (2, ((181 : Nat) : Int))]) (h' := h) (o161_4 hB) rfl ?_
  refine w_callV (A := 181) (as := [(0, (s)), (0, (i)), (0, (v))]) (rest := []) (n := 3) (pc' := 10) 5 hB (o161_5 hB) rfl (by decide +kernel) rfl rfl (Nat.le_of_ble_eq_true rfl) (m_change hB ht z_s z_i z_v htt hsz (fun f262 => ?_) (fun f263 => ?_) (fun f264 => ?_) (fun f265 => ?_) (fun f266 => ?_) (fun f267 => ?_))
  · show HW g l _ 161 _ _ 10 [(0, (2, ((0 : Nat) : Int))), (1, (0, (s))), (2, (0, (i))), (3, (0, (v)))] [(0, (-1))] h
    exact w_iret (o161_6 hB) mr161 (by unfold in32; omega) (a0 (by omega))
  · show HW g l _ 161 _ _ 10 [(0, (2, ((0 : Nat) : Int))), (1, (0, (s))), (2, (0, (i))), (3, (0, (v)))] [(0, (-11))] h
    exact w_iret (o161_6 hB) mr161 (by unfold in32; omega) (a1 (by omega))
  · show HW g l _ 161 _ _ 10 [(0, (2, ((0 : Nat) : Int))), (1, (0, (s))), (2, (0, (i))), (3, (0, (v)))] [(0, (-12))] h
    exact w_iret (o161_6 hB) mr161 (by unfold in32; omega) (a2 (by omega))
  · show HW g l _ 161 _ _ 10 [(0, (2, ((0 : Nat) : Int))), (1, (0, (s))), (2, (0, (i))), (3, (0, (v)))] [(0, (1))] (hup h (185 + s.toNat) (i.toNat) (Int.bmod (v) 256))
    exact w_iret (o161_6 hB) mr161 (by unfold in32; omega) (a3 (by omega))
  · show HW g l _ 161 _ _ 10 [(0, (2, ((0 : Nat) : Int))), (1, (0, (s))), (2, (0, (i))), (3, (0, (v)))] [(0, (1))] (hup h (185 + s.toNat) (i.toNat) (Int.bmod (v) 65536))
    exact w_iret (o161_6 hB) mr161 (by unfold in32; omega) (a4 (by omega))
  · show HW g l _ 161 _ _ 10 [(0, (2, ((0 : Nat) : Int))), (1, (0, (s))), (2, (0, (i))), (3, (0, (v)))] [(0, (1))] (hup h (185 + s.toNat) (i.toNat) (v))
    exact w_iret (o161_6 hB) mr161 (by unfold in32; omega) (a5 (by omega))
def s_putB (vs : List bV) (h : bH) (r : Option bV) (h' : bH) : Prop := TH h ∧ ∀ (s i v : Int) (tt : Int) (sz : Int) , vs = [(2, ((0 : Nat) : Int)), (0, s), (0, i), (0, v)] → h 182 (s.toNat) = tt → h 183 (s.toNat) = sz → ((¬ (0 ≤ s ∧ s ≤ 3)) ∧ r = some (0, (-1)) ∧ h = h') ∨ (((0 ≤ s ∧ s ≤ 3) ∧ tt < 0) ∧ r = some (0, (-11)) ∧ h = h') ∨ (((0 ≤ s ∧ s ≤ 3) ∧ 0 ≤ tt ∧ ¬ (0 ≤ i ∧ i < sz)) ∧ r = some (0, (-12)) ∧ h = h') ∨ ((((0 ≤ s ∧ s ≤ 3) ∧ 0 ≤ tt ∧ 0 ≤ i ∧ i < sz) ∧ tt = 0) ∧ r = some (0, 1) ∧ h' = (hup h (185 + (s.toNat)) ((i.toNat)) (Int.bmod (v) 256))) ∨ ((((0 ≤ s ∧ s ≤ 3) ∧ 0 ≤ tt ∧ 0 ≤ i ∧ i < sz) ∧ tt = 1) ∧ r = some (0, 1) ∧ h' = (hup h (185 + (s.toNat)) ((i.toNat)) (Int.bmod (v) 65536))) ∨ ((((0 ≤ s ∧ s ≤ 3) ∧ 0 ≤ tt ∧ 0 ≤ i ∧ i < sz) ∧ tt ≠ 0 ∧ tt ≠ 1) ∧ r = some (0, 1) ∧ h' = (hup h (185 + (s.toNat)) ((i.toNat)) (v)))
def w_putB : List (Nat × Nat × Nat) := [(185, 0, 40), (186, 0, 40), (187, 0, 40), (188, 0, 40)]
def q_putB : aCt := cH 161 2 w_putB 3 0
theorem sk_putB (hB : BytesOK) (g : bG) (l : Launch) : SK g l gT q_putB s_putB := by
  intro d hd ρ h Q hcore hQ
  have hcore : core (PofW gT (some w_putB) false) (gsc g) h ρ h (List.replicate 3 r32, [], [], 212) := hcore
  have ht := hTH hcore
  have y0 := r32_0 hcore 0 (by decide)
  have y1 := r32_0 hcore 1 (by decide)
  have y2 := r32_0 hcore 2 (by decide)
  have y00 := y0
  unfold in32 at y00
  have y01 := y1
  unfold in32 at y01
  have y02 := y2
  unfold in32 at y02
  obtain ⟨d', rfl⟩ : ∃ d', d = d' + 1 + 1 := ⟨d - 2, by have : 2 ≤ d := hd; omega⟩
  rw [show evS ρ (ctA q_putB) = [(2, ((0 : Nat) : Int)), (0, ρ 0), (0, ρ 1), (0, ρ 2)] from evA3]
  refine m_putB (s := ρ 0) (i := ρ 1) (v := ρ 2) hB ht y0 y1 y2 rfl rfl (fun hn => ?_) (fun hn => ?_) (fun hn => ?_) (fun hn => ?_) (fun hn => ?_) (fun hn => ?_)
  · refine hQ _ _ (hpost hcore (ht) (fun _ _ _ => rfl) (by unfold in32; omega)) ⟨ht, fun s i v v_tt v_sz hv e_tt e_sz => ?_⟩
    have hv := (evA3 (ρ := ρ)).symm.trans hv
    obtain ⟨rfl, rfl, rfl⟩ := vsA3 hv
    subst e_tt
    subst e_sz
    exact Or.inl ⟨hn, rfl, rfl⟩
  · refine hQ _ _ (hpost hcore (ht) (fun _ _ _ => rfl) (by unfold in32; omega)) ⟨ht, fun s i v v_tt v_sz hv e_tt e_sz => ?_⟩
    have hv := (evA3 (ρ := ρ)).symm.trans hv
    obtain ⟨rfl, rfl, rfl⟩ := vsA3 hv
    subst e_tt
    subst e_sz
    exact Or.inr (Or.inl ⟨hn, rfl, rfl⟩)
  · refine hQ _ _ (hpost hcore (ht) (fun _ _ _ => rfl) (by unfold in32; omega)) ⟨ht, fun s i v v_tt v_sz hv e_tt e_sz => ?_⟩
    have hv := (evA3 (ρ := ρ)).symm.trans hv
    obtain ⟨rfl, rfl, rfl⟩ := vsA3 hv
    subst e_tt
    subst e_sz
    exact Or.inr (Or.inr (Or.inl ⟨hn, rfl, rfl⟩))
  · skip
    obtain ⟨s', e_s9⟩ : ∃ q : Nat, (ρ 0).toNat = q := ⟨_, rfl⟩
    rw [e_s9]
    obtain ⟨i', e_i9⟩ : ∃ q : Nat, (ρ 1).toNat = q := ⟨_, rfl⟩
    rw [e_i9]
    have e183 := ty_183_s0 ht (j := (ρ 0).toNat) (r := (ρ 0).toNat) (by omega) (by omega)
    refine hQ _ _ (hpost hcore ((up185 (ht) (s := s') (by omega) (by omega) (by have b1 := bmod_r (ρ 2); have b2 := bmod_s (ρ 2); omega))) (fr_up (fun _ _ _ => rfl) (hz_w185 (by decide) (by omega) (by omega))) (by unfold in32; omega)) ⟨ht, fun s i v v_tt v_sz hv e_tt e_sz => ?_⟩
    have hv := (evA3 (ρ := ρ)).symm.trans hv
    obtain ⟨rfl, rfl, rfl⟩ := vsA3 hv
    subst e_tt
    subst e_sz
    exact Or.inr (Or.inr (Or.inr (Or.inl ⟨hn, by first | rfl | rw [e_s9] | rw [e_s9, e_i9], by rw [e_s9, e_i9]⟩)))
  · skip
    obtain ⟨s', e_s9⟩ : ∃ q : Nat, (ρ 0).toNat = q := ⟨_, rfl⟩
    rw [e_s9]
    obtain ⟨i', e_i9⟩ : ∃ q : Nat, (ρ 1).toNat = q := ⟨_, rfl⟩
    rw [e_i9]
    have e183 := ty_183_s0 ht (j := (ρ 0).toNat) (r := (ρ 0).toNat) (by omega) (by omega)
    refine hQ _ _ (hpost hcore ((up185 (ht) (s := s') (by omega) (by omega) (by have b1 := bmod_r (ρ 2); have b2 := bmod_s (ρ 2); omega))) (fr_up (fun _ _ _ => rfl) (hz_w185 (by decide) (by omega) (by omega))) (by unfold in32; omega)) ⟨ht, fun s i v v_tt v_sz hv e_tt e_sz => ?_⟩
    have hv := (evA3 (ρ := ρ)).symm.trans hv
    obtain ⟨rfl, rfl, rfl⟩ := vsA3 hv
    subst e_tt
    subst e_sz
    exact Or.inr (Or.inr (Or.inr (Or.inr (Or.inl ⟨hn, by first | rfl | rw [e_s9] | rw [e_s9, e_i9], by rw [e_s9, e_i9]⟩))))
  · skip
    obtain ⟨s', e_s9⟩ : ∃ q : Nat, (ρ 0).toNat = q := ⟨_, rfl⟩
    rw [e_s9]
    obtain ⟨i', e_i9⟩ : ∃ q : Nat, (ρ 1).toNat = q := ⟨_, rfl⟩
    rw [e_i9]
    have e183 := ty_183_s0 ht (j := (ρ 0).toNat) (r := (ρ 0).toNat) (by omega) (by omega)
    refine hQ _ _ (hpost hcore ((up185 (ht) (s := s') (by omega) (by omega) (by have b1 := bmod_r (ρ 2); have b2 := bmod_s (ρ 2); omega))) (fr_up (fun _ _ _ => rfl) (hz_w185 (by decide) (by omega) (by omega))) (by unfold in32; omega)) ⟨ht, fun s i v v_tt v_sz hv e_tt e_sz => ?_⟩
    have hv := (evA3 (ρ := ρ)).symm.trans hv
    obtain ⟨rfl, rfl, rfl⟩ := vsA3 hv
    subst e_tt
    subst e_sz
    exact Or.inr (Or.inr (Or.inr (Or.inr (Or.inr (⟨hn, by first | rfl | rw [e_s9] | rw [e_s9, e_i9], by rw [e_s9, e_i9]⟩)))))
theorem m_putM (hB : BytesOK) {g : bG} {l : Launch} {d : Nat} {Q : bQ} {h : bH} {s i v : Int} (ht : TH h) (z_s : in32 s) (z_i : in32 i) (z_v : in32 v) {rw : Int} (hrw : h 205 (s.toNat) = rw) {rs : Int} (hrs : h 206 (rw.toNat) = rs) {rz : Int} (hrz : h 207 (rw.toNat) = rz)  (a0 : ¬ (0 ≤ s ∧ s ≤ 3) → Q (some (0, (-1))) h) (a1 : (0 ≤ s ∧ s ≤ 3) ∧ rw < 0 → Q (some (0, (-11))) h) (a2 : (0 ≤ s ∧ s ≤ 3) ∧ 0 ≤ rw ∧ ¬ (0 ≤ i ∧ i < rz) → Q (some (0, (-12))) h) (a3 : ((0 ≤ s ∧ s ≤ 3) ∧ 0 ≤ rw ∧ 0 ≤ rs ∧ 0 ≤ i ∧ i < rz) ∧ rs = 0 → Q (some (0, 1)) (hup h 208 (((40 * (rw.toNat)) + (i.toNat))) (Int.bmod (v) 256))) (a4 : ((0 ≤ s ∧ s ≤ 3) ∧ 0 ≤ rw ∧ 0 ≤ rs ∧ 0 ≤ i ∧ i < rz) ∧ rs = 1 → Q (some (0, 1)) (hup h 208 (((40 * (rw.toNat)) + (i.toNat))) (Int.bmod (v) 65536))) (a5 : ((0 ≤ s ∧ s ≤ 3) ∧ 0 ≤ rw ∧ 0 ≤ rs ∧ 0 ≤ i ∧ i < rz) ∧ rs ≠ 0 ∧ rs ≠ 1 → Q (some (0, 1)) (hup h 208 (((40 * (rw.toNat)) + (i.toNat))) (v))) : MH g l (d + 1 + 1) 274 212 212 [(2, ((193 : Nat) : Int)), (0, (s)), (0, (i)), (0, (v))] h Q := by
  have hR := ht.r
  have z0_s := z_s
  have z0_i := z_i
  have z0_v := z_v
  unfold in32 at z0_s
  unfold in32 at z0_i
  unfold in32 at z0_v
  have b1 := bmod_r v
  have b2 := bmod_s v
  rcases (by omega : ¬ (0 ≤ s ∧ s ≤ 3) ∨ ((0 ≤ s ∧ s ≤ 3) ∧ (rw < 0 ∨ (0 ≤ rw ∧ (i < 0 ∨ 0 ≤ i))))) with gg | ⟨gg, gr | ⟨gr, gi | gi⟩⟩
  · skip
    refine mh_go hB mg274 ml274 (Nat.le_of_ble_eq_true rfl) ?_
    show HW g l (d + 1 + 1) 274 _ _ 0 [(0, (2, ((193 : Nat) : Int))), (1, (0, (s))), (2, (0, (i))), (3, (0, (v)))] [] h
    refine w_pl (pc' := 1) (lv' := [(0, (2, ((193 : Nat) : Int))), (1, (0, (s))), (2, (0, (i))), (3, (0, (v)))]) (st' := [(0, (s))]) (h' := h) (o274_0 hB) rfl ?_
    refine w_callS (as := [(0, (s))]) (rest := []) (n := 1) (pc' := 4) hB (o274_1 hB) rfl (by decide +kernel) rfl rfl (Nat.le_of_ble_eq_true rfl) (m_isFourM hB (fun f310 => ?_) (fun f311 => ?_))
    · exfalso; omega
    · show HW g l _ 274 _ _ 4 [(0, (2, ((193 : Nat) : Int))), (1, (0, (s))), (2, (0, (i))), (3, (0, (v)))] [(0, ((0 : Nat) : Int))] h
      refine w_ifc (pt := 9) (pf := 7) (o274_2 hB) (by decide) rfl (fun e => ?_) (fun e => ?_)
      · have f312 : (((0 : Nat) : Int) ≠ (0)) := e
        exfalso; omega
      · have f313 : ¬ (((0 : Nat) : Int) ≠ (0)) := e
        refine w_pl (pc' := 8) (lv' := [(0, (2, ((193 : Nat) : Int))), (1, (0, (s))), (2, (0, (i))), (3, (0, (v)))]) (st' := [(0, (-1))]) (h' := h) (o274_3 hB) rfl ?_
        exact w_iret (o274_4 hB) mr274 (by unfold in32; omega) (a0 (by omega))
  · obtain ⟨s', e_s⟩ : ∃ q : Nat, s = q := ⟨s.toNat, by omega⟩
    subst e_s
    simp only [Int.toNat_natCast] at hrw
    have r_rw := ty_205_s0 ht (j := s') (r := s') (by omega) (by omega)
    rw [hrw] at r_rw
    refine mh_go hB mg274 ml274 (Nat.le_of_ble_eq_true rfl) ?_
    show HW g l (d + 1 + 1) 274 _ _ 0 [(0, (2, ((193 : Nat) : Int))), (1, (0, ((s' : Nat) : Int))), (2, (0, (i))), (3, (0, (v)))] [] h
    refine w_pl (pc' := 1) (lv' := [(0, (2, ((193 : Nat) : Int))), (1, (0, ((s' : Nat) : Int))), (2, (0, (i))), (3, (0, (v)))]) (st' := [(0, ((s' : Nat) : Int))]) (h' := h) (o274_0 hB) rfl ?_
    refine w_callS (as := [(0, ((s' : Nat) : Int))]) (rest := []) (n := 1) (pc' := 4) hB (o274_1 hB) rfl (by decide +kernel) rfl rfl (Nat.le_of_ble_eq_true rfl) (m_isFourM hB (fun f314 => ?_) (fun f315 => ?_))
    · show HW g l _ 274 _ _ 4 [(0, (2, ((193 : Nat) : Int))), (1, (0, ((s' : Nat) : Int))), (2, (0, (i))), (3, (0, (v)))] [(0, ((1 : Nat) : Int))] h
      refine w_ifc (pt := 9) (pf := 7) (o274_2 hB) (by decide) rfl (fun e => ?_) (fun e => ?_)
      · have f316 : (((1 : Nat) : Int) ≠ (0)) := e
        refine w_pl (pc' := 10) (lv' := [(0, (2, ((193 : Nat) : Int))), (1, (0, ((s' : Nat) : Int))), (2, (0, (i))), (3, (0, (v)))]) (st' := [(2, ((193 : Nat) : Int))]) (h' := h) (o274_5 hB) rfl ?_
        refine w_getf (A := 193) (t := 2) (z := ((205 : Nat) : Int)) (pc' := 13) (o274_6 hB) rfl (by decide +kernel) (hR (193, 35, 205) (by decide)) ?_
        refine w_pl (pc' := 14) (lv' := [(0, (2, ((193 : Nat) : Int))), (1, (0, ((s' : Nat) : Int))), (2, (0, (i))), (3, (0, (v)))]) (st' := [(0, ((s' : Nat) : Int)), (2, ((205 : Nat) : Int))]) (h' := h) (o274_7 hB) rfl ?_
        refine w_iald (A := 205) (i := s') (n := 4) (z := (rw)) (pc' := 15) (o274_8 hB) rfl (by decide +kernel) (by omega) hrw ?_
        refine w_st (tg := 0) (j := 4) (len := 2) (pc' := 17) (lv' := [(4, (0, (rw))), (0, (2, ((193 : Nat) : Int))), (1, (0, ((s' : Nat) : Int))), (2, (0, (i))), (3, (0, (v)))]) (o274_9 hB) rfl rfl ml274 (by decide) rfl ?_
        refine w_pl (pc' := 19) (lv' := [(4, (0, (rw))), (0, (2, ((193 : Nat) : Int))), (1, (0, ((s' : Nat) : Int))), (2, (0, (i))), (3, (0, (v)))]) (st' := [(0, (rw))]) (h' := h) (o274_10 hB) rfl ?_
        refine w_ifc (pt := 25) (pf := 22) (o274_11 hB) (by decide) rfl (fun e => ?_) (fun e => ?_)
        · have f317 : ((0) ≤ (rw)) := e
          exfalso; omega
        · have f318 : ¬ ((0) ≤ (rw)) := e
          refine w_pl (pc' := 24) (lv' := [(4, (0, (rw))), (0, (2, ((193 : Nat) : Int))), (1, (0, ((s' : Nat) : Int))), (2, (0, (i))), (3, (0, (v)))]) (st' := [(0, (-11))]) (h' := h) (o274_12 hB) rfl ?_
          exact w_iret (o274_13 hB) mr274 (by unfold in32; omega) (a1 (by omega))
      · have f319 : ¬ (((1 : Nat) : Int) ≠ (0)) := e
        exfalso; omega
    · show HW g l _ 274 _ _ 4 [(0, (2, ((193 : Nat) : Int))), (1, (0, ((s' : Nat) : Int))), (2, (0, (i))), (3, (0, (v)))] [(0, ((0 : Nat) : Int))] h
      refine w_ifc (pt := 9) (pf := 7) (o274_2 hB) (by decide) rfl (fun e => ?_) (fun e => ?_)
      · have f320 : (((0 : Nat) : Int) ≠ (0)) := e
        exfalso; omega
      · have f321 : ¬ (((0 : Nat) : Int) ≠ (0)) := e
        refine w_pl (pc' := 8) (lv' := [(0, (2, ((193 : Nat) : Int))), (1, (0, ((s' : Nat) : Int))), (2, (0, (i))), (3, (0, (v)))]) (st' := [(0, (-1))]) (h' := h) (o274_3 hB) rfl ?_
        exact w_iret (o274_4 hB) mr274 (by unfold in32; omega) (a0 (by omega))
  · obtain ⟨s', e_s⟩ : ∃ q : Nat, s = q := ⟨s.toNat, by omega⟩
    subst e_s
    simp only [Int.toNat_natCast] at hrw
    have r_rw := ty_205_s0 ht (j := s') (r := s') (by omega) (by omega)
    rw [hrw] at r_rw
    obtain ⟨r', e_r⟩ : ∃ q : Nat, rw = q := ⟨rw.toNat, by omega⟩
    subst e_r
    simp only [Int.toNat_natCast] at hrs hrz
    have r_rs := ty_206_s0 ht (j := r') (r := r') (by omega) (by omega)
    rw [hrs] at r_rs
    have r_rz := ty_207_s0 ht (j := r') (r := r') (by omega) (by omega)
    rw [hrz] at r_rz
    simp only [Int.toNat_natCast] at a3 a4 a5
    refine mh_go hB mg274 ml274 (Nat.le_of_ble_eq_true rfl) ?_
    show HW g l (d + 1 + 1) 274 _ _ 0 [(0, (2, ((193 : Nat) : Int))), (1, (0, ((s' : Nat) : Int))), (2, (0, (i))), (3, (0, (v)))] [] h
    refine w_pl (pc' := 1) (lv' := [(0, (2, ((193 : Nat) : Int))), (1, (0, ((s' : Nat) : Int))), (2, (0, (i))), (3, (0, (v)))]) (st' := [(0, ((s' : Nat) : Int))]) (h' := h) (o274_0 hB) rfl ?_
    refine w_callS (as := [(0, ((s' : Nat) : Int))]) (rest := []) (n := 1) (pc' := 4) hB (o274_1 hB) rfl (by decide +kernel) rfl rfl (Nat.le_of_ble_eq_true rfl) (m_isFourM hB (fun f322 => ?_) (fun f323 => ?_))
    · show HW g l _ 274 _ _ 4 [(0, (2, ((193 : Nat) : Int))), (1, (0, ((s' : Nat) : Int))), (2, (0, (i))), (3, (0, (v)))] [(0, ((1 : Nat) : Int))] h
      refine w_ifc (pt := 9) (pf := 7) (o274_2 hB) (by decide) rfl (fun e => ?_) (fun e => ?_)
      · have f324 : (((1 : Nat) : Int) ≠ (0)) := e
        refine w_pl (pc' := 10) (lv' := [(0, (2, ((193 : Nat) : Int))), (1, (0, ((s' : Nat) : Int))), (2, (0, (i))), (3, (0, (v)))]) (st' := [(2, ((193 : Nat) : Int))]) (h' := h) (o274_5 hB) rfl ?_
        refine w_getf (A := 193) (t := 2) (z := ((205 : Nat) : Int)) (pc' := 13) (o274_6 hB) rfl (by decide +kernel) (hR (193, 35, 205) (by decide)) ?_
        refine w_pl (pc' := 14) (lv' := [(0, (2, ((193 : Nat) : Int))), (1, (0, ((s' : Nat) : Int))), (2, (0, (i))), (3, (0, (v)))]) (st' := [(0, ((s' : Nat) : Int)), (2, ((205 : Nat) : Int))]) (h' := h) (o274_7 hB) rfl ?_
        refine w_iald (A := 205) (i := s') (n := 4) (z := ((r' : Nat) : Int)) (pc' := 15) (o274_8 hB) rfl (by decide +kernel) (by omega) hrw ?_
        refine w_st (tg := 0) (j := 4) (len := 2) (pc' := 17) (lv' := [(4, (0, ((r' : Nat) : Int))), (0, (2, ((193 : Nat) : Int))), (1, (0, ((s' : Nat) : Int))), (2, (0, (i))), (3, (0, (v)))]) (o274_9 hB) rfl rfl ml274 (by decide) rfl ?_
        refine w_pl (pc' := 19) (lv' := [(4, (0, ((r' : Nat) : Int))), (0, (2, ((193 : Nat) : Int))), (1, (0, ((s' : Nat) : Int))), (2, (0, (i))), (3, (0, (v)))]) (st' := [(0, ((r' : Nat) : Int))]) (h' := h) (o274_10 hB) rfl ?_
        refine w_ifc (pt := 25) (pf := 22) (o274_11 hB) (by decide) rfl (fun e => ?_) (fun e => ?_)
        · have f325 : ((0) ≤ ((r' : Nat) : Int)) := e
          refine w_pl (pc' := 26) (lv' := [(4, (0, ((r' : Nat) : Int))), (0, (2, ((193 : Nat) : Int))), (1, (0, ((s' : Nat) : Int))), (2, (0, (i))), (3, (0, (v)))]) (st' := [(0, (i))]) (h' := h) (o274_14 hB) rfl ?_
          refine w_pl (pc' := 27) (lv' := [(4, (0, ((r' : Nat) : Int))), (0, (2, ((193 : Nat) : Int))), (1, (0, ((s' : Nat) : Int))), (2, (0, (i))), (3, (0, (v)))]) (st' := [(0, ((0 : Nat) : Int)), (0, (i))]) (h' := h) (o274_15 hB) rfl ?_
          refine w_pl (pc' := 28) (lv' := [(4, (0, ((r' : Nat) : Int))), (0, (2, ((193 : Nat) : Int))), (1, (0, ((s' : Nat) : Int))), (2, (0, (i))), (3, (0, (v)))]) (st' := [(2, ((193 : Nat) : Int)), (0, ((0 : Nat) : Int)), (0, (i))]) (h' := h) (o274_16 hB) rfl ?_
          refine w_getf (A := 193) (t := 2) (z := ((207 : Nat) : Int)) (pc' := 31) (o274_17 hB) rfl (by decide +kernel) (hR (193, 37, 207) (by decide)) ?_
          refine w_pl (pc' := 33) (lv' := [(4, (0, ((r' : Nat) : Int))), (0, (2, ((193 : Nat) : Int))), (1, (0, ((s' : Nat) : Int))), (2, (0, (i))), (3, (0, (v)))]) (st' := [(0, ((r' : Nat) : Int)), (2, ((207 : Nat) : Int)), (0, ((0 : Nat) : Int)), (0, (i))]) (h' := h) (o274_18 hB) rfl ?_
          refine w_iald (A := 207) (i := r') (n := 8) (z := (rz)) (pc' := 34) (o274_19 hB) rfl (by decide +kernel) (by omega) hrz ?_
          refine w_pl (pc' := 35) (lv' := [(4, (0, ((r' : Nat) : Int))), (0, (2, ((193 : Nat) : Int))), (1, (0, ((s' : Nat) : Int))), (2, (0, (i))), (3, (0, (v)))]) (st' := [(0, ((1 : Nat) : Int)), (0, (rz)), (0, ((0 : Nat) : Int)), (0, (i))]) (h' := h) (o274_20 hB) rfl ?_
          refine w_isub (z := ((rz) - ((1 : Nat) : Int))) (pc' := 36) (o274_21 hB) rfl (w32_e (by omega) (by omega)) ?_
          refine w_callS (as := [(0, (i)), (0, ((0 : Nat) : Int)), (0, ((rz) - ((1 : Nat) : Int)))]) (rest := []) (n := 3) (pc' := 39) hB (o274_22 hB) rfl (by decide +kernel) rfl rfl (Nat.le_of_ble_eq_true rfl) (m_in hB (fun f326 => ?_) (fun f327 => ?_))
          · exfalso; omega
          · show HW g l _ 274 _ _ 39 [(4, (0, ((r' : Nat) : Int))), (0, (2, ((193 : Nat) : Int))), (1, (0, ((s' : Nat) : Int))), (2, (0, (i))), (3, (0, (v)))] [(0, ((0 : Nat) : Int))] h
            refine w_ifc (pt := 45) (pf := 42) (o274_23 hB) (by decide) rfl (fun e => ?_) (fun e => ?_)
            · have f328 : (((0 : Nat) : Int) ≠ (0)) := e
              exfalso; omega
            · have f329 : ¬ (((0 : Nat) : Int) ≠ (0)) := e
              refine w_pl (pc' := 44) (lv' := [(4, (0, ((r' : Nat) : Int))), (0, (2, ((193 : Nat) : Int))), (1, (0, ((s' : Nat) : Int))), (2, (0, (i))), (3, (0, (v)))]) (st' := [(0, (-12))]) (h' := h) (o274_24 hB) rfl ?_
              exact w_iret (o274_25 hB) mr274 (by unfold in32; omega) (a2 (by omega))
        · have f330 : ¬ ((0) ≤ ((r' : Nat) : Int)) := e
          refine w_pl (pc' := 24) (lv' := [(4, (0, ((r' : Nat) : Int))), (0, (2, ((193 : Nat) : Int))), (1, (0, ((s' : Nat) : Int))), (2, (0, (i))), (3, (0, (v)))]) (st' := [(0, (-11))]) (h' := h) (o274_12 hB) rfl ?_
          exact w_iret (o274_13 hB) mr274 (by unfold in32; omega) (a1 (by omega))
      · have f331 : ¬ (((1 : Nat) : Int) ≠ (0)) := e
        exfalso; omega
    · show HW g l _ 274 _ _ 4 [(0, (2, ((193 : Nat) : Int))), (1, (0, ((s' : Nat) : Int))), (2, (0, (i))), (3, (0, (v)))] [(0, ((0 : Nat) : Int))] h
      refine w_ifc (pt := 9) (pf := 7) (o274_2 hB) (by decide) rfl (fun e => ?_) (fun e => ?_)
      · have f332 : (((0 : Nat) : Int) ≠ (0)) := e
        exfalso; omega
      · have f333 : ¬ (((0 : Nat) : Int) ≠ (0)) := e
        refine w_pl (pc' := 8) (lv' := [(0, (2, ((193 : Nat) : Int))), (1, (0, ((s' : Nat) : Int))), (2, (0, (i))), (3, (0, (v)))]) (st' := [(0, (-1))]) (h' := h) (o274_3 hB) rfl ?_
        exact w_iret (o274_4 hB) mr274 (by unfold in32; omega) (a0 (by omega))
  · obtain ⟨s', e_s⟩ : ∃ q : Nat, s = q := ⟨s.toNat, by omega⟩
    subst e_s
    simp only [Int.toNat_natCast] at hrw
    have r_rw := ty_205_s0 ht (j := s') (r := s') (by omega) (by omega)
    rw [hrw] at r_rw
    obtain ⟨r', e_r⟩ : ∃ q : Nat, rw = q := ⟨rw.toNat, by omega⟩
    subst e_r
    simp only [Int.toNat_natCast] at hrs hrz
    have r_rs := ty_206_s0 ht (j := r') (r := r') (by omega) (by omega)
    rw [hrs] at r_rs
    have r_rz := ty_207_s0 ht (j := r') (r := r') (by omega) (by omega)
    rw [hrz] at r_rz
    obtain ⟨i', e_i⟩ : ∃ q : Nat, i = q := ⟨i.toNat, by omega⟩
    subst e_i
    simp only [Int.toNat_natCast] at a3 a4 a5
    refine mh_go hB mg274 ml274 (Nat.le_of_ble_eq_true rfl) ?_
    show HW g l (d + 1 + 1) 274 _ _ 0 [(0, (2, ((193 : Nat) : Int))), (1, (0, ((s' : Nat) : Int))), (2, (0, ((i' : Nat) : Int))), (3, (0, (v)))] [] h
    refine w_pl (pc' := 1) (lv' := [(0, (2, ((193 : Nat) : Int))), (1, (0, ((s' : Nat) : Int))), (2, (0, ((i' : Nat) : Int))), (3, (0, (v)))]) (st' := [(0, ((s' : Nat) : Int))]) (h' := h) (o274_0 hB) rfl ?_
    refine w_callS (as := [(0, ((s' : Nat) : Int))]) (rest := []) (n := 1) (pc' := 4) hB (o274_1 hB) rfl (by decide +kernel) rfl rfl (Nat.le_of_ble_eq_true rfl) (m_isFourM hB (fun f334 => ?_) (fun f335 => ?_))
    · show HW g l _ 274 _ _ 4 [(0, (2, ((193 : Nat) : Int))), (1, (0, ((s' : Nat) : Int))), (2, (0, ((i' : Nat) : Int))), (3, (0, (v)))] [(0, ((1 : Nat) : Int))] h
      refine w_ifc (pt := 9) (pf := 7) (o274_2 hB) (by decide) rfl (fun e => ?_) (fun e => ?_)
      · have f336 : (((1 : Nat) : Int) ≠ (0)) := e
        refine w_pl (pc' := 10) (lv' := [(0, (2, ((193 : Nat) : Int))), (1, (0, ((s' : Nat) : Int))), (2, (0, ((i' : Nat) : Int))), (3, (0, (v)))]) (st' := [(2, ((193 : Nat) : Int))]) (h' := h) (o274_5 hB) rfl ?_
        refine w_getf (A := 193) (t := 2) (z := ((205 : Nat) : Int)) (pc' := 13) (o274_6 hB) rfl (by decide +kernel) (hR (193, 35, 205) (by decide)) ?_
        refine w_pl (pc' := 14) (lv' := [(0, (2, ((193 : Nat) : Int))), (1, (0, ((s' : Nat) : Int))), (2, (0, ((i' : Nat) : Int))), (3, (0, (v)))]) (st' := [(0, ((s' : Nat) : Int)), (2, ((205 : Nat) : Int))]) (h' := h) (o274_7 hB) rfl ?_
        refine w_iald (A := 205) (i := s') (n := 4) (z := ((r' : Nat) : Int)) (pc' := 15) (o274_8 hB) rfl (by decide +kernel) (by omega) hrw ?_
        refine w_st (tg := 0) (j := 4) (len := 2) (pc' := 17) (lv' := [(4, (0, ((r' : Nat) : Int))), (0, (2, ((193 : Nat) : Int))), (1, (0, ((s' : Nat) : Int))), (2, (0, ((i' : Nat) : Int))), (3, (0, (v)))]) (o274_9 hB) rfl rfl ml274 (by decide) rfl ?_
        refine w_pl (pc' := 19) (lv' := [(4, (0, ((r' : Nat) : Int))), (0, (2, ((193 : Nat) : Int))), (1, (0, ((s' : Nat) : Int))), (2, (0, ((i' : Nat) : Int))), (3, (0, (v)))]) (st' := [(0, ((r' : Nat) : Int))]) (h' := h) (o274_10 hB) rfl ?_
        refine w_ifc (pt := 25) (pf := 22) (o274_11 hB) (by decide) rfl (fun e => ?_) (fun e => ?_)
        · have f337 : ((0) ≤ ((r' : Nat) : Int)) := e
          refine w_pl (pc' := 26) (lv' := [(4, (0, ((r' : Nat) : Int))), (0, (2, ((193 : Nat) : Int))), (1, (0, ((s' : Nat) : Int))), (2, (0, ((i' : Nat) : Int))), (3, (0, (v)))]) (st' := [(0, ((i' : Nat) : Int))]) (h' := h) (o274_14 hB) rfl ?_
          refine w_pl (pc' := 27) (lv' := [(4, (0, ((r' : Nat) : Int))), (0, (2, ((193 : Nat) : Int))), (1, (0, ((s' : Nat) : Int))), (2, (0, ((i' : Nat) : Int))), (3, (0, (v)))]) (st' := [(0, ((0 : Nat) : Int)), (0, ((i' : Nat) : Int))]) (h' := h) (o274_15 hB) rfl ?_
          refine w_pl (pc' := 28) (lv' := [(4, (0, ((r' : Nat) : Int))), (0, (2, ((193 : Nat) : Int))), (1, (0, ((s' : Nat) : Int))), (2, (0, ((i' : Nat) : Int))), (3, (0, (v)))]) (st' := [(2, ((193 : Nat) : Int)), (0, ((0 : Nat) : Int)), (0, ((i' : Nat) : Int))]) (h' := h) (o274_16 hB) rfl ?_
          refine w_getf (A := 193) (t := 2) (z := ((207 : Nat) : Int)) (pc' := 31) (o274_17 hB) rfl (by decide +kernel) (hR (193, 37, 207) (by decide)) ?_
          refine w_pl (pc' := 33) (lv' := [(4, (0, ((r' : Nat) : Int))), (0, (2, ((193 : Nat) : Int))), (1, (0, ((s' : Nat) : Int))), (2, (0, ((i' : Nat) : Int))), (3, (0, (v)))]) (st' := [(0, ((r' : Nat) : Int)), (2, ((207 : Nat) : Int)), (0, ((0 : Nat) : Int)), (0, ((i' : Nat) : Int))]) (h' := h) (o274_18 hB) rfl ?_
          refine w_iald (A := 207) (i := r') (n := 8) (z := (rz)) (pc' := 34) (o274_19 hB) rfl (by decide +kernel) (by omega) hrz ?_
          refine w_pl (pc' := 35) (lv' := [(4, (0, ((r' : Nat) : Int))), (0, (2, ((193 : Nat) : Int))), (1, (0, ((s' : Nat) : Int))), (2, (0, ((i' : Nat) : Int))), (3, (0, (v)))]) (st' := [(0, ((1 : Nat) : Int)), (0, (rz)), (0, ((0 : Nat) : Int)), (0, ((i' : Nat) : Int))]) (h' := h) (o274_20 hB) rfl ?_
          refine w_isub (z := ((rz) - ((1 : Nat) : Int))) (pc' := 36) (o274_21 hB) rfl (w32_e (by omega) (by omega)) ?_
          refine w_callS (as := [(0, ((i' : Nat) : Int)), (0, ((0 : Nat) : Int)), (0, ((rz) - ((1 : Nat) : Int)))]) (rest := []) (n := 3) (pc' := 39) hB (o274_22 hB) rfl (by decide +kernel) rfl rfl (Nat.le_of_ble_eq_true rfl) (m_in hB (fun f338 => ?_) (fun f339 => ?_))
          · show HW g l _ 274 _ _ 39 [(4, (0, ((r' : Nat) : Int))), (0, (2, ((193 : Nat) : Int))), (1, (0, ((s' : Nat) : Int))), (2, (0, ((i' : Nat) : Int))), (3, (0, (v)))] [(0, ((1 : Nat) : Int))] h
            refine w_ifc (pt := 45) (pf := 42) (o274_23 hB) (by decide) rfl (fun e => ?_) (fun e => ?_)
            · have f340 : (((1 : Nat) : Int) ≠ (0)) := e
              refine w_pl (pc' := 46) (lv' := [(4, (0, ((r' : Nat) : Int))), (0, (2, ((193 : Nat) : Int))), (1, (0, ((s' : Nat) : Int))), (2, (0, ((i' : Nat) : Int))), (3, (0, (v)))]) (st' := [(2, ((193 : Nat) : Int))]) (h' := h) (o274_26 hB) rfl ?_
              refine w_getf (A := 193) (t := 2) (z := ((208 : Nat) : Int)) (pc' := 49) (o274_27 hB) rfl (by decide +kernel) (hR (193, 38, 208) (by decide)) ?_
              refine w_pl (pc' := 51) (lv' := [(4, (0, ((r' : Nat) : Int))), (0, (2, ((193 : Nat) : Int))), (1, (0, ((s' : Nat) : Int))), (2, (0, ((i' : Nat) : Int))), (3, (0, (v)))]) (st' := [(0, ((40 : Nat) : Int)), (2, ((208 : Nat) : Int))]) (h' := h) (o274_28 hB) rfl ?_
              refine w_pl (pc' := 53) (lv' := [(4, (0, ((r' : Nat) : Int))), (0, (2, ((193 : Nat) : Int))), (1, (0, ((s' : Nat) : Int))), (2, (0, ((i' : Nat) : Int))), (3, (0, (v)))]) (st' := [(0, ((r' : Nat) : Int)), (0, ((40 : Nat) : Int)), (2, ((208 : Nat) : Int))]) (h' := h) (o274_29 hB) rfl ?_
              refine w_imul (z := (((40 * r') : Nat) : Int)) (pc' := 54) (o274_30 hB) rfl (w32_e (by omega) (by omega)) ?_
              refine w_pl (pc' := 55) (lv' := [(4, (0, ((r' : Nat) : Int))), (0, (2, ((193 : Nat) : Int))), (1, (0, ((s' : Nat) : Int))), (2, (0, ((i' : Nat) : Int))), (3, (0, (v)))]) (st' := [(0, ((i' : Nat) : Int)), (0, (((40 * r') : Nat) : Int)), (2, ((208 : Nat) : Int))]) (h' := h) (o274_31 hB) rfl ?_
              refine w_iadd (z := ((((40 * r') + i') : Nat) : Int)) (pc' := 56) (o274_32 hB) rfl (w32_e (by omega) (by omega)) ?_
              refine w_pl (pc' := 57) (lv' := [(4, (0, ((r' : Nat) : Int))), (0, (2, ((193 : Nat) : Int))), (1, (0, ((s' : Nat) : Int))), (2, (0, ((i' : Nat) : Int))), (3, (0, (v)))]) (st' := [(2, ((193 : Nat) : Int)), (0, ((((40 * r') + i') : Nat) : Int)), (2, ((208 : Nat) : Int))]) (h' := h) (o274_33 hB) rfl ?_
              refine w_getf (A := 193) (t := 2) (z := ((206 : Nat) : Int)) (pc' := 60) (o274_34 hB) rfl (by decide +kernel) (hR (193, 36, 206) (by decide)) ?_
              refine w_pl (pc' := 62) (lv' := [(4, (0, ((r' : Nat) : Int))), (0, (2, ((193 : Nat) : Int))), (1, (0, ((s' : Nat) : Int))), (2, (0, ((i' : Nat) : Int))), (3, (0, (v)))]) (st' := [(0, ((r' : Nat) : Int)), (2, ((206 : Nat) : Int)), (0, ((((40 * r') + i') : Nat) : Int)), (2, ((208 : Nat) : Int))]) (h' := h) (o274_35 hB) rfl ?_
              refine w_iald (A := 206) (i := r') (n := 8) (z := (rs)) (pc' := 63) (o274_36 hB) rfl (by decide +kernel) (by omega) hrs ?_
              refine w_ifc (pt := 71) (pf := 66) (o274_37 hB) (by decide) rfl (fun e => ?_) (fun e => ?_)
              · have f341 : ((rs) ≠ (0)) := e
                refine w_pl (pc' := 72) (lv' := [(4, (0, ((r' : Nat) : Int))), (0, (2, ((193 : Nat) : Int))), (1, (0, ((s' : Nat) : Int))), (2, (0, ((i' : Nat) : Int))), (3, (0, (v)))]) (st' := [(2, ((193 : Nat) : Int)), (0, ((((40 * r') + i') : Nat) : Int)), (2, ((208 : Nat) : Int))]) (h' := h) (o274_41 hB) rfl ?_
                refine w_getf (A := 193) (t := 2) (z := ((206 : Nat) : Int)) (pc' := 75) (o274_42 hB) rfl (by decide +kernel) (hR (193, 36, 206) (by decide)) ?_
                refine w_pl (pc' := 77) (lv' := [(4, (0, ((r' : Nat) : Int))), (0, (2, ((193 : Nat) : Int))), (1, (0, ((s' : Nat) : Int))), (2, (0, ((i' : Nat) : Int))), (3, (0, (v)))]) (st' := [(0, ((r' : Nat) : Int)), (2, ((206 : Nat) : Int)), (0, ((((40 * r') + i') : Nat) : Int)), (2, ((208 : Nat) : Int))]) (h' := h) (o274_43 hB) rfl ?_
                refine w_iald (A := 206) (i := r') (n := 8) (z := (rs)) (pc' := 78) (o274_44 hB) rfl (by decide +kernel) (by omega) hrs ?_
                refine w_pl (pc' := 79) (lv' := [(4, (0, ((r' : Nat) : Int))), (0, (2, ((193 : Nat) : Int))), (1, (0, ((s' : Nat) : Int))), (2, (0, ((i' : Nat) : Int))), (3, (0, (v)))]) (st' := [(0, ((1 : Nat) : Int)), (0, (rs)), (0, ((((40 * r') + i') : Nat) : Int)), (2, ((208 : Nat) : Int))]) (h' := h) (o274_45 hB) rfl ?_
                refine w_icmp (pt := 87) (pf := 82) (o274_46 hB) (by decide) rfl (fun e => ?_) (fun e => ?_)
                · have f342 : ((rs) ≠ ((1 : Nat) : Int)) := e
                  refine w_pl (pc' := 88) (lv' := [(4, (0, ((r' : Nat) : Int))), (0, (2, ((193 : Nat) : Int))), (1, (0, ((s' : Nat) : Int))), (2, (0, ((i' : Nat) : Int))), (3, (0, (v)))]) (st' := [(0, (v)), (0, ((((40 * r') + i') : Nat) : Int)), (2, ((208 : Nat) : Int))]) (h' := h) (o274_50 hB) rfl ?_
                  refine w_iast (A := 208) (i := ((40 * r') + i')) (n := 320) (pc' := 89) (o274_51 hB) rfl (by decide +kernel) (by omega) ?_
                  refine w_pl (pc' := 90) (lv' := [(4, (0, ((r' : Nat) : Int))), (0, (2, ((193 : Nat) : Int))), (1, (0, ((s' : Nat) : Int))), (2, (0, ((i' : Nat) : Int))), (3, (0, (v)))]) (st' := [(0, ((1 : Nat) : Int))]) (h' := (hup h 208 (((40 * r') + i')) (v))) (o274_52 hB) rfl ?_
                  exact w_iret (o274_53 hB) mr274 (by unfold in32; omega) (a5 (by omega))
                · have f343 : ¬ ((rs) ≠ ((1 : Nat) : Int)) := e
                  refine w_pl (pc' := 83) (lv' := [(4, (0, ((r' : Nat) : Int))), (0, (2, ((193 : Nat) : Int))), (1, (0, ((s' : Nat) : Int))), (2, (0, ((i' : Nat) : Int))), (3, (0, (v)))]) (st' := [(0, (v)), (0, ((((40 * r') + i') : Nat) : Int)), (2, ((208 : Nat) : Int))]) (h' := h) (o274_47 hB) rfl ?_
                  refine w_i2s (z := (Int.bmod (v) 65536)) (pc' := 84) (o274_48 hB) rfl rfl ?_
                  refine w_goto (pt := 88) (o274_49 hB) (by decide) ?_
                  refine w_iast (A := 208) (i := ((40 * r') + i')) (n := 320) (pc' := 89) (o274_51 hB) rfl (by decide +kernel) (by omega) ?_
                  refine w_pl (pc' := 90) (lv' := [(4, (0, ((r' : Nat) : Int))), (0, (2, ((193 : Nat) : Int))), (1, (0, ((s' : Nat) : Int))), (2, (0, ((i' : Nat) : Int))), (3, (0, (v)))]) (st' := [(0, ((1 : Nat) : Int))]) (h' := (hup h 208 (((40 * r') + i')) (Int.bmod (v) 65536))) (o274_52 hB) rfl ?_
                  exact w_iret (o274_53 hB) mr274 (by unfold in32; omega) (a4 (by omega))
              · have f344 : ¬ ((rs) ≠ (0)) := e
                refine w_pl (pc' := 67) (lv' := [(4, (0, ((r' : Nat) : Int))), (0, (2, ((193 : Nat) : Int))), (1, (0, ((s' : Nat) : Int))), (2, (0, ((i' : Nat) : Int))), (3, (0, (v)))]) (st' := [(0, (v)), (0, ((((40 * r') + i') : Nat) : Int)), (2, ((208 : Nat) : Int))]) (h' := h) (o274_38 hB) rfl ?_
                refine w_i2b (z := (Int.bmod (v) 256)) (pc' := 68) (o274_39 hB) rfl rfl ?_
                refine w_goto (pt := 88) (o274_40 hB) (by decide) ?_
                refine w_iast (A := 208) (i := ((40 * r') + i')) (n := 320) (pc' := 89) (o274_51 hB) rfl (by decide +kernel) (by omega) ?_
                refine w_pl (pc' := 90) (lv' := [(4, (0, ((r' : Nat) : Int))), (0, (2, ((193 : Nat) : Int))), (1, (0, ((s' : Nat) : Int))), (2, (0, ((i' : Nat) : Int))), (3, (0, (v)))]) (st' := [(0, ((1 : Nat) : Int))]) (h' := (hup h 208 (((40 * r') + i')) (Int.bmod (v) 256))) (o274_52 hB) rfl ?_
                exact w_iret (o274_53 hB) mr274 (by unfold in32; omega) (a3 (by omega))
            · have f345 : ¬ (((1 : Nat) : Int) ≠ (0)) := e
              exfalso; omega
          · show HW g l _ 274 _ _ 39 [(4, (0, ((r' : Nat) : Int))), (0, (2, ((193 : Nat) : Int))), (1, (0, ((s' : Nat) : Int))), (2, (0, ((i' : Nat) : Int))), (3, (0, (v)))] [(0, ((0 : Nat) : Int))] h
            refine w_ifc (pt := 45) (pf := 42) (o274_23 hB) (by decide) rfl (fun e => ?_) (fun e => ?_)
            · have f346 : (((0 : Nat) : Int) ≠ (0)) := e
              exfalso; omega
            · have f347 : ¬ (((0 : Nat) : Int) ≠ (0)) := e
              refine w_pl (pc' := 44) (lv' := [(4, (0, ((r' : Nat) : Int))), (0, (2, ((193 : Nat) : Int))), (1, (0, ((s' : Nat) : Int))), (2, (0, ((i' : Nat) : Int))), (3, (0, (v)))]) (st' := [(0, (-12))]) (h' := h) (o274_24 hB) rfl ?_
              exact w_iret (o274_25 hB) mr274 (by unfold in32; omega) (a2 (by omega))
        · have f348 : ¬ ((0) ≤ ((r' : Nat) : Int)) := e
          refine w_pl (pc' := 24) (lv' := [(4, (0, ((r' : Nat) : Int))), (0, (2, ((193 : Nat) : Int))), (1, (0, ((s' : Nat) : Int))), (2, (0, ((i' : Nat) : Int))), (3, (0, (v)))]) (st' := [(0, (-11))]) (h' := h) (o274_12 hB) rfl ?_
          exact w_iret (o274_13 hB) mr274 (by unfold in32; omega) (a1 (by omega))
      · have f349 : ¬ (((1 : Nat) : Int) ≠ (0)) := e
        exfalso; omega
    · show HW g l _ 274 _ _ 4 [(0, (2, ((193 : Nat) : Int))), (1, (0, ((s' : Nat) : Int))), (2, (0, ((i' : Nat) : Int))), (3, (0, (v)))] [(0, ((0 : Nat) : Int))] h
      refine w_ifc (pt := 9) (pf := 7) (o274_2 hB) (by decide) rfl (fun e => ?_) (fun e => ?_)
      · have f350 : (((0 : Nat) : Int) ≠ (0)) := e
        exfalso; omega
      · have f351 : ¬ (((0 : Nat) : Int) ≠ (0)) := e
        refine w_pl (pc' := 8) (lv' := [(0, (2, ((193 : Nat) : Int))), (1, (0, ((s' : Nat) : Int))), (2, (0, ((i' : Nat) : Int))), (3, (0, (v)))]) (st' := [(0, (-1))]) (h' := h) (o274_3 hB) rfl ?_
        exact w_iret (o274_4 hB) mr274 (by unfold in32; omega) (a0 (by omega))
def s_putM (vs : List bV) (h : bH) (r : Option bV) (h' : bH) : Prop := TH h ∧ ∀ (s i v : Int) (rw : Int) (rs : Int) (rz : Int) , vs = [(2, ((193 : Nat) : Int)), (0, s), (0, i), (0, v)] → h 205 (s.toNat) = rw → h 206 (rw.toNat) = rs → h 207 (rw.toNat) = rz → ((¬ (0 ≤ s ∧ s ≤ 3)) ∧ r = some (0, (-1)) ∧ h = h') ∨ (((0 ≤ s ∧ s ≤ 3) ∧ rw < 0) ∧ r = some (0, (-11)) ∧ h = h') ∨ (((0 ≤ s ∧ s ≤ 3) ∧ 0 ≤ rw ∧ ¬ (0 ≤ i ∧ i < rz)) ∧ r = some (0, (-12)) ∧ h = h') ∨ ((((0 ≤ s ∧ s ≤ 3) ∧ 0 ≤ rw ∧ 0 ≤ rs ∧ 0 ≤ i ∧ i < rz) ∧ rs = 0) ∧ r = some (0, 1) ∧ h' = (hup h 208 (((40 * (rw.toNat)) + (i.toNat))) (Int.bmod (v) 256))) ∨ ((((0 ≤ s ∧ s ≤ 3) ∧ 0 ≤ rw ∧ 0 ≤ rs ∧ 0 ≤ i ∧ i < rz) ∧ rs = 1) ∧ r = some (0, 1) ∧ h' = (hup h 208 (((40 * (rw.toNat)) + (i.toNat))) (Int.bmod (v) 65536))) ∨ ((((0 ≤ s ∧ s ≤ 3) ∧ 0 ≤ rw ∧ 0 ≤ rs ∧ 0 ≤ i ∧ i < rz) ∧ rs ≠ 0 ∧ rs ≠ 1) ∧ r = some (0, 1) ∧ h' = (hup h 208 (((40 * (rw.toNat)) + (i.toNat))) (v)))
def w_putM : List (Nat × Nat × Nat) := [(208, 0, 320)]
def q_putM : aCt := cH 274 2 w_putM 3 193
theorem sk_putM (hB : BytesOK) (g : bG) (l : Launch) : SK g l gT q_putM s_putM := by
  intro d hd ρ h Q hcore hQ
  have hcore : core (PofW gT (some w_putM) false) (gsc g) h ρ h (List.replicate 3 r32, [], [], 212) := hcore
  have ht := hTH hcore
  have y0 := r32_0 hcore 0 (by decide)
  have y1 := r32_0 hcore 1 (by decide)
  have y2 := r32_0 hcore 2 (by decide)
  have y00 := y0
  unfold in32 at y00
  have y01 := y1
  unfold in32 at y01
  have y02 := y2
  unfold in32 at y02
  obtain ⟨d', rfl⟩ : ∃ d', d = d' + 1 + 1 := ⟨d - 2, by have : 2 ≤ d := hd; omega⟩
  rw [show evS ρ (ctA q_putM) = [(2, ((193 : Nat) : Int)), (0, ρ 0), (0, ρ 1), (0, ρ 2)] from evA3]
  refine m_putM (s := ρ 0) (i := ρ 1) (v := ρ 2) hB ht y0 y1 y2 rfl rfl rfl (fun hn => ?_) (fun hn => ?_) (fun hn => ?_) (fun hn => ?_) (fun hn => ?_) (fun hn => ?_)
  · refine hQ _ _ (hpost hcore (ht) (fun _ _ _ => rfl) (by unfold in32; omega)) ⟨ht, fun s i v v_rw v_rs v_rz hv e_rw e_rs e_rz => ?_⟩
    have hv := (evA3 (ρ := ρ)).symm.trans hv
    obtain ⟨rfl, rfl, rfl⟩ := vsA3 hv
    subst e_rw
    subst e_rs
    subst e_rz
    exact Or.inl ⟨hn, rfl, rfl⟩
  · refine hQ _ _ (hpost hcore (ht) (fun _ _ _ => rfl) (by unfold in32; omega)) ⟨ht, fun s i v v_rw v_rs v_rz hv e_rw e_rs e_rz => ?_⟩
    have hv := (evA3 (ρ := ρ)).symm.trans hv
    obtain ⟨rfl, rfl, rfl⟩ := vsA3 hv
    subst e_rw
    subst e_rs
    subst e_rz
    exact Or.inr (Or.inl ⟨hn, rfl, rfl⟩)
  · refine hQ _ _ (hpost hcore (ht) (fun _ _ _ => rfl) (by unfold in32; omega)) ⟨ht, fun s i v v_rw v_rs v_rz hv e_rw e_rs e_rz => ?_⟩
    have hv := (evA3 (ρ := ρ)).symm.trans hv
    obtain ⟨rfl, rfl, rfl⟩ := vsA3 hv
    subst e_rw
    subst e_rs
    subst e_rz
    exact Or.inr (Or.inr (Or.inl ⟨hn, rfl, rfl⟩))
  · skip
    obtain ⟨r', e_r9⟩ : ∃ q : Nat, (h 205 ((ρ 0).toNat)).toNat = q := ⟨_, rfl⟩
    rw [e_r9]
    obtain ⟨i', e_i9⟩ : ∃ q : Nat, (ρ 1).toNat = q := ⟨_, rfl⟩
    rw [e_i9]
    have e205 := ty_205_s0 ht (j := (ρ 0).toNat) (r := (ρ 0).toNat) (by omega) (by omega)
    have e207 := ty_207_s0 ht (j := (h 205 (ρ 0).toNat).toNat) (r := (h 205 (ρ 0).toNat).toNat) (by omega) (by omega)
    refine hQ _ _ (hpost hcore ((up208 (ht) (by omega) (by have b1 := bmod_r (ρ 2); have b2 := bmod_s (ρ 2); omega))) (fr_up (fun _ _ _ => rfl) (wr_in (lo := 0) (hi := 320) (by decide) (by omega) (by omega))) (by unfold in32; omega)) ⟨ht, fun s i v v_rw v_rs v_rz hv e_rw e_rs e_rz => ?_⟩
    have hv := (evA3 (ρ := ρ)).symm.trans hv
    obtain ⟨rfl, rfl, rfl⟩ := vsA3 hv
    subst e_rw
    subst e_rs
    subst e_rz
    exact Or.inr (Or.inr (Or.inr (Or.inl ⟨hn, by first | rfl | rw [e_r9] | rw [e_r9, e_i9], by rw [e_r9, e_i9]⟩)))
  · skip
    obtain ⟨r', e_r9⟩ : ∃ q : Nat, (h 205 ((ρ 0).toNat)).toNat = q := ⟨_, rfl⟩
    rw [e_r9]
    obtain ⟨i', e_i9⟩ : ∃ q : Nat, (ρ 1).toNat = q := ⟨_, rfl⟩
    rw [e_i9]
    have e205 := ty_205_s0 ht (j := (ρ 0).toNat) (r := (ρ 0).toNat) (by omega) (by omega)
    have e207 := ty_207_s0 ht (j := (h 205 (ρ 0).toNat).toNat) (r := (h 205 (ρ 0).toNat).toNat) (by omega) (by omega)
    refine hQ _ _ (hpost hcore ((up208 (ht) (by omega) (by have b1 := bmod_r (ρ 2); have b2 := bmod_s (ρ 2); omega))) (fr_up (fun _ _ _ => rfl) (wr_in (lo := 0) (hi := 320) (by decide) (by omega) (by omega))) (by unfold in32; omega)) ⟨ht, fun s i v v_rw v_rs v_rz hv e_rw e_rs e_rz => ?_⟩
    have hv := (evA3 (ρ := ρ)).symm.trans hv
    obtain ⟨rfl, rfl, rfl⟩ := vsA3 hv
    subst e_rw
    subst e_rs
    subst e_rz
    exact Or.inr (Or.inr (Or.inr (Or.inr (Or.inl ⟨hn, by first | rfl | rw [e_r9] | rw [e_r9, e_i9], by rw [e_r9, e_i9]⟩))))
  · skip
    obtain ⟨r', e_r9⟩ : ∃ q : Nat, (h 205 ((ρ 0).toNat)).toNat = q := ⟨_, rfl⟩
    rw [e_r9]
    obtain ⟨i', e_i9⟩ : ∃ q : Nat, (ρ 1).toNat = q := ⟨_, rfl⟩
    rw [e_i9]
    have e205 := ty_205_s0 ht (j := (ρ 0).toNat) (r := (ρ 0).toNat) (by omega) (by omega)
    have e207 := ty_207_s0 ht (j := (h 205 (ρ 0).toNat).toNat) (r := (h 205 (ρ 0).toNat).toNat) (by omega) (by omega)
    refine hQ _ _ (hpost hcore ((up208 (ht) (by omega) (by have b1 := bmod_r (ρ 2); have b2 := bmod_s (ρ 2); omega))) (fr_up (fun _ _ _ => rfl) (wr_in (lo := 0) (hi := 320) (by decide) (by omega) (by omega))) (by unfold in32; omega)) ⟨ht, fun s i v v_rw v_rs v_rz hv e_rw e_rs e_rz => ?_⟩
    have hv := (evA3 (ρ := ρ)).symm.trans hv
    obtain ⟨rfl, rfl, rfl⟩ := vsA3 hv
    subst e_rw
    subst e_rs
    subst e_rz
    exact Or.inr (Or.inr (Or.inr (Or.inr (Or.inr (⟨hn, by first | rfl | rw [e_r9] | rw [e_r9, e_i9], by rw [e_r9, e_i9]⟩)))))
theorem m_itemAt (hB : BytesOK) {g : bG} {l : Launch} {d : Nat} {Q : bQ} {h : bH} {s t i : Int} (ht : TH h) (z_s : in32 s) (z_t : in32 t) (z_i : in32 i) {tt : Int} (htt : h 182 (s.toNat) = tt) {sz : Int} (hsz : h 183 (s.toNat) = sz)  (a0 : ¬ ((0 ≤ s ∧ s ≤ 3) ∧ 0 ≤ t ∧ t ≤ 3) → Q (some (0, (-1))) h) (a1 : ((0 ≤ s ∧ s ≤ 3) ∧ 0 ≤ t ∧ t ≤ 3) ∧ tt < 0 → Q (some (0, (-11))) h) (a2 : ((0 ≤ s ∧ s ≤ 3) ∧ 0 ≤ t ∧ t ≤ 3) ∧ 0 ≤ tt ∧ tt ≠ t → Q (some (0, (-13))) h) (a3 : ((0 ≤ s ∧ s ≤ 3) ∧ 0 ≤ t ∧ t ≤ 3) ∧ tt = t ∧ ¬ (0 ≤ i ∧ i < sz) → Q (some (0, (-12))) h) (a4 : ((0 ≤ s ∧ s ≤ 3) ∧ 0 ≤ t ∧ t ≤ 3) ∧ tt = t ∧ 0 ≤ i ∧ i < sz → Q (some (0, (h (185 + s.toNat) i.toNat))) h) : MH g l (d + 1) 71 212 212 [(2, ((181 : Nat) : Int)), (0, (s)), (0, (t)), (0, (i))] h Q := by
  have hR := ht.r
  have z0_s := z_s
  have z0_t := z_t
  have z0_i := z_i
  unfold in32 at z0_s
  unfold in32 at z0_t
  unfold in32 at z0_i
  rcases (by omega : ¬ (0 ≤ s ∧ s ≤ 3) ∨ ((0 ≤ s ∧ s ≤ 3) ∧ (i < 0 ∨ 0 ≤ i))) with gg | ⟨gg, gi | gi⟩
  · skip
    refine mh_go hB mg71 ml71 (Nat.le_of_ble_eq_true rfl) ?_
    show HW g l (d + 1) 71 _ _ 0 [(0, (2, ((181 : Nat) : Int))), (1, (0, (s))), (2, (0, (t))), (3, (0, (i)))] [] h
    refine w_pl (pc' := 1) (lv' := [(0, (2, ((181 : Nat) : Int))), (1, (0, (s))), (2, (0, (t))), (3, (0, (i)))]) (st' := [(0, (s))]) (h' := h) (o71_0 hB) rfl ?_
    refine w_callS (as := [(0, (s))]) (rest := []) (n := 1) (pc' := 4) hB (o71_1 hB) rfl (by decide +kernel) rfl rfl (Nat.le_of_ble_eq_true rfl) (m_isSheetB hB (fun f391 => ?_) (fun f392 => ?_))
    · exfalso; omega
    · show HW g l _ 71 _ _ 4 [(0, (2, ((181 : Nat) : Int))), (1, (0, (s))), (2, (0, (t))), (3, (0, (i)))] [(0, ((0 : Nat) : Int))] h
      refine w_ifc (pt := 16) (pf := 7) (o71_2 hB) (by decide) rfl (fun e => ?_) (fun e => ?_)
      · have f393 : (((0 : Nat) : Int) = (0)) := e
        refine w_pl (pc' := 17) (lv' := [(0, (2, ((181 : Nat) : Int))), (1, (0, (s))), (2, (0, (t))), (3, (0, (i)))]) (st' := [(0, (-1))]) (h' := h) (o71_8 hB) rfl ?_
        exact w_iret (o71_9 hB) mr71 (by unfold in32; omega) (a0 (by omega))
      · have f394 : ¬ (((0 : Nat) : Int) = (0)) := e
        exfalso; omega
  · obtain ⟨s', e_s⟩ : ∃ q : Nat, s = q := ⟨s.toNat, by omega⟩
    subst e_s
    simp only [Int.toNat_natCast] at htt hsz
    have r_tt := ty_182_s0 ht (j := s') (r := s') (by omega) (by omega)
    rw [htt] at r_tt
    have r_sz := ty_183_s0 ht (j := s') (r := s') (by omega) (by omega)
    rw [hsz] at r_sz
    refine mh_go hB mg71 ml71 (Nat.le_of_ble_eq_true rfl) ?_
    show HW g l (d + 1) 71 _ _ 0 [(0, (2, ((181 : Nat) : Int))), (1, (0, ((s' : Nat) : Int))), (2, (0, (t))), (3, (0, (i)))] [] h
    refine w_pl (pc' := 1) (lv' := [(0, (2, ((181 : Nat) : Int))), (1, (0, ((s' : Nat) : Int))), (2, (0, (t))), (3, (0, (i)))]) (st' := [(0, ((s' : Nat) : Int))]) (h' := h) (o71_0 hB) rfl ?_
    refine w_callS (as := [(0, ((s' : Nat) : Int))]) (rest := []) (n := 1) (pc' := 4) hB (o71_1 hB) rfl (by decide +kernel) rfl rfl (Nat.le_of_ble_eq_true rfl) (m_isSheetB hB (fun f395 => ?_) (fun f396 => ?_))
    · show HW g l _ 71 _ _ 4 [(0, (2, ((181 : Nat) : Int))), (1, (0, ((s' : Nat) : Int))), (2, (0, (t))), (3, (0, (i)))] [(0, ((1 : Nat) : Int))] h
      refine w_ifc (pt := 16) (pf := 7) (o71_2 hB) (by decide) rfl (fun e => ?_) (fun e => ?_)
      · have f397 : (((1 : Nat) : Int) = (0)) := e
        exfalso; omega
      · have f398 : ¬ (((1 : Nat) : Int) = (0)) := e
        refine w_pl (pc' := 8) (lv' := [(0, (2, ((181 : Nat) : Int))), (1, (0, ((s' : Nat) : Int))), (2, (0, (t))), (3, (0, (i)))]) (st' := [(0, (t))]) (h' := h) (o71_3 hB) rfl ?_
        refine w_ifc (pt := 16) (pf := 11) (o71_4 hB) (by decide) rfl (fun e => ?_) (fun e => ?_)
        · have f399 : ((t) < (0)) := e
          refine w_pl (pc' := 17) (lv' := [(0, (2, ((181 : Nat) : Int))), (1, (0, ((s' : Nat) : Int))), (2, (0, (t))), (3, (0, (i)))]) (st' := [(0, (-1))]) (h' := h) (o71_8 hB) rfl ?_
          exact w_iret (o71_9 hB) mr71 (by unfold in32; omega) (a0 (by omega))
        · have f400 : ¬ ((t) < (0)) := e
          refine w_pl (pc' := 12) (lv' := [(0, (2, ((181 : Nat) : Int))), (1, (0, ((s' : Nat) : Int))), (2, (0, (t))), (3, (0, (i)))]) (st' := [(0, (t))]) (h' := h) (o71_5 hB) rfl ?_
          refine w_pl (pc' := 13) (lv' := [(0, (2, ((181 : Nat) : Int))), (1, (0, ((s' : Nat) : Int))), (2, (0, (t))), (3, (0, (i)))]) (st' := [(0, ((3 : Nat) : Int)), (0, (t))]) (h' := h) (o71_6 hB) rfl ?_
          refine w_icmp (pt := 18) (pf := 16) (o71_7 hB) (by decide) rfl (fun e => ?_) (fun e => ?_)
          · have f401 : ((t) ≤ ((3 : Nat) : Int)) := e
            refine w_pl (pc' := 19) (lv' := [(0, (2, ((181 : Nat) : Int))), (1, (0, ((s' : Nat) : Int))), (2, (0, (t))), (3, (0, (i)))]) (st' := [(2, ((181 : Nat) : Int))]) (h' := h) (o71_10 hB) rfl ?_
            refine w_getf (A := 181) (t := 2) (z := ((182 : Nat) : Int)) (pc' := 22) (o71_11 hB) rfl (by decide +kernel) (hR (181, 0, 182) (by decide)) ?_
            refine w_pl (pc' := 23) (lv' := [(0, (2, ((181 : Nat) : Int))), (1, (0, ((s' : Nat) : Int))), (2, (0, (t))), (3, (0, (i)))]) (st' := [(0, ((s' : Nat) : Int)), (2, ((182 : Nat) : Int))]) (h' := h) (o71_12 hB) rfl ?_
            refine w_iald (A := 182) (i := s') (n := 4) (z := (tt)) (pc' := 24) (o71_13 hB) rfl (by decide +kernel) (by omega) htt ?_
            refine w_ifc (pt := 30) (pf := 27) (o71_14 hB) (by decide) rfl (fun e => ?_) (fun e => ?_)
            · have f402 : ((0) ≤ (tt)) := e
              refine w_pl (pc' := 31) (lv' := [(0, (2, ((181 : Nat) : Int))), (1, (0, ((s' : Nat) : Int))), (2, (0, (t))), (3, (0, (i)))]) (st' := [(2, ((181 : Nat) : Int))]) (h' := h) (o71_17 hB) rfl ?_
              refine w_getf (A := 181) (t := 2) (z := ((182 : Nat) : Int)) (pc' := 34) (o71_18 hB) rfl (by decide +kernel) (hR (181, 0, 182) (by decide)) ?_
              refine w_pl (pc' := 35) (lv' := [(0, (2, ((181 : Nat) : Int))), (1, (0, ((s' : Nat) : Int))), (2, (0, (t))), (3, (0, (i)))]) (st' := [(0, ((s' : Nat) : Int)), (2, ((182 : Nat) : Int))]) (h' := h) (o71_19 hB) rfl ?_
              refine w_iald (A := 182) (i := s') (n := 4) (z := (tt)) (pc' := 36) (o71_20 hB) rfl (by decide +kernel) (by omega) htt ?_
              refine w_pl (pc' := 37) (lv' := [(0, (2, ((181 : Nat) : Int))), (1, (0, ((s' : Nat) : Int))), (2, (0, (t))), (3, (0, (i)))]) (st' := [(0, (t)), (0, (tt))]) (h' := h) (o71_21 hB) rfl ?_
              refine w_icmp (pt := 43) (pf := 40) (o71_22 hB) (by decide) rfl (fun e => ?_) (fun e => ?_)
              · have f403 : ((tt) = (t)) := e
                refine w_pl (pc' := 44) (lv' := [(0, (2, ((181 : Nat) : Int))), (1, (0, ((s' : Nat) : Int))), (2, (0, (t))), (3, (0, (i)))]) (st' := [(0, (i))]) (h' := h) (o71_25 hB) rfl ?_
                refine w_ifc (pt := 57) (pf := 47) (o71_26 hB) (by decide) rfl (fun e => ?_) (fun e => ?_)
                · have f404 : ((i) < (0)) := e
                  refine w_pl (pc' := 59) (lv' := [(0, (2, ((181 : Nat) : Int))), (1, (0, ((s' : Nat) : Int))), (2, (0, (t))), (3, (0, (i)))]) (st' := [(0, (-12))]) (h' := h) (o71_33 hB) rfl ?_
                  exact w_iret (o71_34 hB) mr71 (by unfold in32; omega) (a3 (by omega))
                · have f405 : ¬ ((i) < (0)) := e
                  exfalso; omega
              · have f406 : ¬ ((tt) = (t)) := e
                refine w_pl (pc' := 42) (lv' := [(0, (2, ((181 : Nat) : Int))), (1, (0, ((s' : Nat) : Int))), (2, (0, (t))), (3, (0, (i)))]) (st' := [(0, (-13))]) (h' := h) (o71_23 hB) rfl ?_
                exact w_iret (o71_24 hB) mr71 (by unfold in32; omega) (a2 (by omega))
            · have f407 : ¬ ((0) ≤ (tt)) := e
              refine w_pl (pc' := 29) (lv' := [(0, (2, ((181 : Nat) : Int))), (1, (0, ((s' : Nat) : Int))), (2, (0, (t))), (3, (0, (i)))]) (st' := [(0, (-11))]) (h' := h) (o71_15 hB) rfl ?_
              exact w_iret (o71_16 hB) mr71 (by unfold in32; omega) (a1 (by omega))
          · have f408 : ¬ ((t) ≤ ((3 : Nat) : Int)) := e
            refine w_pl (pc' := 17) (lv' := [(0, (2, ((181 : Nat) : Int))), (1, (0, ((s' : Nat) : Int))), (2, (0, (t))), (3, (0, (i)))]) (st' := [(0, (-1))]) (h' := h) (o71_8 hB) rfl ?_
            exact w_iret (o71_9 hB) mr71 (by unfold in32; omega) (a0 (by omega))
    · show HW g l _ 71 _ _ 4 [(0, (2, ((181 : Nat) : Int))), (1, (0, ((s' : Nat) : Int))), (2, (0, (t))), (3, (0, (i)))] [(0, ((0 : Nat) : Int))] h
      refine w_ifc (pt := 16) (pf := 7) (o71_2 hB) (by decide) rfl (fun e => ?_) (fun e => ?_)
      · have f409 : (((0 : Nat) : Int) = (0)) := e
        refine w_pl (pc' := 17) (lv' := [(0, (2, ((181 : Nat) : Int))), (1, (0, ((s' : Nat) : Int))), (2, (0, (t))), (3, (0, (i)))]) (st' := [(0, (-1))]) (h' := h) (o71_8 hB) rfl ?_
        exact w_iret (o71_9 hB) mr71 (by unfold in32; omega) (a0 (by omega))
      · have f410 : ¬ (((0 : Nat) : Int) = (0)) := e
        exfalso; omega
  · obtain ⟨s', e_s⟩ : ∃ q : Nat, s = q := ⟨s.toNat, by omega⟩
    subst e_s
    simp only [Int.toNat_natCast] at htt hsz
    have r_tt := ty_182_s0 ht (j := s') (r := s') (by omega) (by omega)
    rw [htt] at r_tt
    have r_sz := ty_183_s0 ht (j := s') (r := s') (by omega) (by omega)
    rw [hsz] at r_sz
    obtain ⟨i', e_i⟩ : ∃ q : Nat, i = q := ⟨i.toNat, by omega⟩
    subst e_i
    simp only [Int.toNat_natCast] at a4
    refine mh_go hB mg71 ml71 (Nat.le_of_ble_eq_true rfl) ?_
    show HW g l (d + 1) 71 _ _ 0 [(0, (2, ((181 : Nat) : Int))), (1, (0, ((s' : Nat) : Int))), (2, (0, (t))), (3, (0, ((i' : Nat) : Int)))] [] h
    refine w_pl (pc' := 1) (lv' := [(0, (2, ((181 : Nat) : Int))), (1, (0, ((s' : Nat) : Int))), (2, (0, (t))), (3, (0, ((i' : Nat) : Int)))]) (st' := [(0, ((s' : Nat) : Int))]) (h' := h) (o71_0 hB) rfl ?_
    refine w_callS (as := [(0, ((s' : Nat) : Int))]) (rest := []) (n := 1) (pc' := 4) hB (o71_1 hB) rfl (by decide +kernel) rfl rfl (Nat.le_of_ble_eq_true rfl) (m_isSheetB hB (fun f411 => ?_) (fun f412 => ?_))
    · show HW g l _ 71 _ _ 4 [(0, (2, ((181 : Nat) : Int))), (1, (0, ((s' : Nat) : Int))), (2, (0, (t))), (3, (0, ((i' : Nat) : Int)))] [(0, ((1 : Nat) : Int))] h
      refine w_ifc (pt := 16) (pf := 7) (o71_2 hB) (by decide) rfl (fun e => ?_) (fun e => ?_)
      · have f413 : (((1 : Nat) : Int) = (0)) := e
        exfalso; omega
      · have f414 : ¬ (((1 : Nat) : Int) = (0)) := e
        refine w_pl (pc' := 8) (lv' := [(0, (2, ((181 : Nat) : Int))), (1, (0, ((s' : Nat) : Int))), (2, (0, (t))), (3, (0, ((i' : Nat) : Int)))]) (st' := [(0, (t))]) (h' := h) (o71_3 hB) rfl ?_
        refine w_ifc (pt := 16) (pf := 11) (o71_4 hB) (by decide) rfl (fun e => ?_) (fun e => ?_)
        · have f415 : ((t) < (0)) := e
          refine w_pl (pc' := 17) (lv' := [(0, (2, ((181 : Nat) : Int))), (1, (0, ((s' : Nat) : Int))), (2, (0, (t))), (3, (0, ((i' : Nat) : Int)))]) (st' := [(0, (-1))]) (h' := h) (o71_8 hB) rfl ?_
          exact w_iret (o71_9 hB) mr71 (by unfold in32; omega) (a0 (by omega))
        · have f416 : ¬ ((t) < (0)) := e
          refine w_pl (pc' := 12) (lv' := [(0, (2, ((181 : Nat) : Int))), (1, (0, ((s' : Nat) : Int))), (2, (0, (t))), (3, (0, ((i' : Nat) : Int)))]) (st' := [(0, (t))]) (h' := h) (o71_5 hB) rfl ?_
          refine w_pl (pc' := 13) (lv' := [(0, (2, ((181 : Nat) : Int))), (1, (0, ((s' : Nat) : Int))), (2, (0, (t))), (3, (0, ((i' : Nat) : Int)))]) (st' := [(0, ((3 : Nat) : Int)), (0, (t))]) (h' := h) (o71_6 hB) rfl ?_
          refine w_icmp (pt := 18) (pf := 16) (o71_7 hB) (by decide) rfl (fun e => ?_) (fun e => ?_)
          · have f417 : ((t) ≤ ((3 : Nat) : Int)) := e
            refine w_pl (pc' := 19) (lv' := [(0, (2, ((181 : Nat) : Int))), (1, (0, ((s' : Nat) : Int))), (2, (0, (t))), (3, (0, ((i' : Nat) : Int)))]) (st' := [(2, ((181 : Nat) : Int))]) (h' := h) (o71_10 hB) rfl ?_
            refine w_getf (A := 181) (t := 2) (z := ((182 : Nat) : Int)) (pc' := 22) (o71_11 hB) rfl (by decide +kernel) (hR (181, 0, 182) (by decide)) ?_
            refine w_pl (pc' := 23) (lv' := [(0, (2, ((181 : Nat) : Int))), (1, (0, ((s' : Nat) : Int))), (2, (0, (t))), (3, (0, ((i' : Nat) : Int)))]) (st' := [(0, ((s' : Nat) : Int)), (2, ((182 : Nat) : Int))]) (h' := h) (o71_12 hB) rfl ?_
            refine w_iald (A := 182) (i := s') (n := 4) (z := (tt)) (pc' := 24) (o71_13 hB) rfl (by decide +kernel) (by omega) htt ?_
            refine w_ifc (pt := 30) (pf := 27) (o71_14 hB) (by decide) rfl (fun e => ?_) (fun e => ?_)
            · have f418 : ((0) ≤ (tt)) := e
              refine w_pl (pc' := 31) (lv' := [(0, (2, ((181 : Nat) : Int))), (1, (0, ((s' : Nat) : Int))), (2, (0, (t))), (3, (0, ((i' : Nat) : Int)))]) (st' := [(2, ((181 : Nat) : Int))]) (h' := h) (o71_17 hB) rfl ?_
              refine w_getf (A := 181) (t := 2) (z := ((182 : Nat) : Int)) (pc' := 34) (o71_18 hB) rfl (by decide +kernel) (hR (181, 0, 182) (by decide)) ?_
              refine w_pl (pc' := 35) (lv' := [(0, (2, ((181 : Nat) : Int))), (1, (0, ((s' : Nat) : Int))), (2, (0, (t))), (3, (0, ((i' : Nat) : Int)))]) (st' := [(0, ((s' : Nat) : Int)), (2, ((182 : Nat) : Int))]) (h' := h) (o71_19 hB) rfl ?_
              refine w_iald (A := 182) (i := s') (n := 4) (z := (tt)) (pc' := 36) (o71_20 hB) rfl (by decide +kernel) (by omega) htt ?_
              refine w_pl (pc' := 37) (lv' := [(0, (2, ((181 : Nat) : Int))), (1, (0, ((s' : Nat) : Int))), (2, (0, (t))), (3, (0, ((i' : Nat) : Int)))]) (st' := [(0, (t)), (0, (tt))]) (h' := h) (o71_21 hB) rfl ?_
              refine w_icmp (pt := 43) (pf := 40) (o71_22 hB) (by decide) rfl (fun e => ?_) (fun e => ?_)
              · have f419 : ((tt) = (t)) := e
                refine w_pl (pc' := 44) (lv' := [(0, (2, ((181 : Nat) : Int))), (1, (0, ((s' : Nat) : Int))), (2, (0, (t))), (3, (0, ((i' : Nat) : Int)))]) (st' := [(0, ((i' : Nat) : Int))]) (h' := h) (o71_25 hB) rfl ?_
                refine w_ifc (pt := 57) (pf := 47) (o71_26 hB) (by decide) rfl (fun e => ?_) (fun e => ?_)
                · have f420 : (((i' : Nat) : Int) < (0)) := e
                  refine w_pl (pc' := 59) (lv' := [(0, (2, ((181 : Nat) : Int))), (1, (0, ((s' : Nat) : Int))), (2, (0, (t))), (3, (0, ((i' : Nat) : Int)))]) (st' := [(0, (-12))]) (h' := h) (o71_33 hB) rfl ?_
                  exact w_iret (o71_34 hB) mr71 (by unfold in32; omega) (a3 (by omega))
                · have f421 : ¬ (((i' : Nat) : Int) < (0)) := e
                  refine w_pl (pc' := 48) (lv' := [(0, (2, ((181 : Nat) : Int))), (1, (0, ((s' : Nat) : Int))), (2, (0, (t))), (3, (0, ((i' : Nat) : Int)))]) (st' := [(0, ((i' : Nat) : Int))]) (h' := h) (o71_27 hB) rfl ?_
                  refine w_pl (pc' := 49) (lv' := [(0, (2, ((181 : Nat) : Int))), (1, (0, ((s' : Nat) : Int))), (2, (0, (t))), (3, (0, ((i' : Nat) : Int)))]) (st' := [(2, ((181 : Nat) : Int)), (0, ((i' : Nat) : Int))]) (h' := h) (o71_28 hB) rfl ?_
                  refine w_getf (A := 181) (t := 2) (z := ((183 : Nat) : Int)) (pc' := 52) (o71_29 hB) rfl (by decide +kernel) (hR (181, 1, 183) (by decide)) ?_
                  refine w_pl (pc' := 53) (lv' := [(0, (2, ((181 : Nat) : Int))), (1, (0, ((s' : Nat) : Int))), (2, (0, (t))), (3, (0, ((i' : Nat) : Int)))]) (st' := [(0, ((s' : Nat) : Int)), (2, ((183 : Nat) : Int)), (0, ((i' : Nat) : Int))]) (h' := h) (o71_30 hB) rfl ?_
                  refine w_iald (A := 183) (i := s') (n := 4) (z := (sz)) (pc' := 54) (o71_31 hB) rfl (by decide +kernel) (by omega) hsz ?_
                  refine w_icmp (pt := 60) (pf := 57) (o71_32 hB) (by decide) rfl (fun e => ?_) (fun e => ?_)
                  · have f422 : (((i' : Nat) : Int) < (sz)) := e
                    refine w_pl (pc' := 61) (lv' := [(0, (2, ((181 : Nat) : Int))), (1, (0, ((s' : Nat) : Int))), (2, (0, (t))), (3, (0, ((i' : Nat) : Int)))]) (st' := [(2, ((181 : Nat) : Int))]) (h' := h) (o71_35 hB) rfl ?_
                    refine w_getf (A := 181) (t := 2) (z := ((184 : Nat) : Int)) (pc' := 64) (o71_36 hB) rfl (by decide +kernel) (hR (181, 2, 184) (by decide)) ?_
                    refine w_pl (pc' := 65) (lv' := [(0, (2, ((181 : Nat) : Int))), (1, (0, ((s' : Nat) : Int))), (2, (0, (t))), (3, (0, ((i' : Nat) : Int)))]) (st' := [(0, ((s' : Nat) : Int)), (2, ((184 : Nat) : Int))]) (h' := h) (o71_37 hB) rfl ?_
                    refine w_aald (kd := 3) (A := 184) (i := s') (n := 4) (B := (185 + s')) (pc' := 66) (o71_38 hB) rfl rfl (by decide +kernel) (by omega) (h184 hR (by omega)) ?_
                    refine w_pl (pc' := 67) (lv' := [(0, (2, ((181 : Nat) : Int))), (1, (0, ((s' : Nat) : Int))), (2, (0, (t))), (3, (0, ((i' : Nat) : Int)))]) (st' := [(0, ((i' : Nat) : Int)), (2, (((185 + s') : Nat) : Int))]) (h' := h) (o71_39 hB) rfl ?_
                    have f423 := t185 ht (s := s') (i := i') (by omega) (by omega)
                    refine w_lald (A := (185 + s')) (i := i') (n := 40) (z := (h (185 + s') (i'))) (pc' := 68) (o71_40 hB) rfl (ar185 (by omega)) (by omega) rfl ?_
                    refine w_l2i (z := (h (185 + s') (i'))) (pc' := 69) (o71_41 hB) rfl (w32_e (by omega) rfl) ?_
                    exact w_iret (o71_42 hB) mr71 (by unfold in32; omega) (a4 (by omega))
                  · have f424 : ¬ (((i' : Nat) : Int) < (sz)) := e
                    refine w_pl (pc' := 59) (lv' := [(0, (2, ((181 : Nat) : Int))), (1, (0, ((s' : Nat) : Int))), (2, (0, (t))), (3, (0, ((i' : Nat) : Int)))]) (st' := [(0, (-12))]) (h' := h) (o71_33 hB) rfl ?_
                    exact w_iret (o71_34 hB) mr71 (by unfold in32; omega) (a3 (by omega))
              · have f425 : ¬ ((tt) = (t)) := e
                refine w_pl (pc' := 42) (lv' := [(0, (2, ((181 : Nat) : Int))), (1, (0, ((s' : Nat) : Int))), (2, (0, (t))), (3, (0, ((i' : Nat) : Int)))]) (st' := [(0, (-13))]) (h' := h) (o71_23 hB) rfl ?_
                exact w_iret (o71_24 hB) mr71 (by unfold in32; omega) (a2 (by omega))
            · have f426 : ¬ ((0) ≤ (tt)) := e
              refine w_pl (pc' := 29) (lv' := [(0, (2, ((181 : Nat) : Int))), (1, (0, ((s' : Nat) : Int))), (2, (0, (t))), (3, (0, ((i' : Nat) : Int)))]) (st' := [(0, (-11))]) (h' := h) (o71_15 hB) rfl ?_
              exact w_iret (o71_16 hB) mr71 (by unfold in32; omega) (a1 (by omega))
          · have f427 : ¬ ((t) ≤ ((3 : Nat) : Int)) := e
            refine w_pl (pc' := 17) (lv' := [(0, (2, ((181 : Nat) : Int))), (1, (0, ((s' : Nat) : Int))), (2, (0, (t))), (3, (0, ((i' : Nat) : Int)))]) (st' := [(0, (-1))]) (h' := h) (o71_8 hB) rfl ?_
            exact w_iret (o71_9 hB) mr71 (by unfold in32; omega) (a0 (by omega))
    · show HW g l _ 71 _ _ 4 [(0, (2, ((181 : Nat) : Int))), (1, (0, ((s' : Nat) : Int))), (2, (0, (t))), (3, (0, ((i' : Nat) : Int)))] [(0, ((0 : Nat) : Int))] h
      refine w_ifc (pt := 16) (pf := 7) (o71_2 hB) (by decide) rfl (fun e => ?_) (fun e => ?_)
      · have f428 : (((0 : Nat) : Int) = (0)) := e
        refine w_pl (pc' := 17) (lv' := [(0, (2, ((181 : Nat) : Int))), (1, (0, ((s' : Nat) : Int))), (2, (0, (t))), (3, (0, ((i' : Nat) : Int)))]) (st' := [(0, (-1))]) (h' := h) (o71_8 hB) rfl ?_
        exact w_iret (o71_9 hB) mr71 (by unfold in32; omega) (a0 (by omega))
      · have f429 : ¬ (((0 : Nat) : Int) = (0)) := e
        exfalso; omega
theorem m_itemB (hB : BytesOK) {g : bG} {l : Launch} {d : Nat} {Q : bQ} {h : bH} {s t i : Int} (ht : TH h) (z_s : in32 s) (z_t : in32 t) (z_i : in32 i) {tt : Int} (htt : h 182 (s.toNat) = tt) {sz : Int} (hsz : h 183 (s.toNat) = sz)  (a0 : ¬ ((0 ≤ s ∧ s ≤ 3) ∧ 0 ≤ t ∧ t ≤ 3) → Q (some (0, (-1))) h) (a1 : ((0 ≤ s ∧ s ≤ 3) ∧ 0 ≤ t ∧ t ≤ 3) ∧ tt < 0 → Q (some (0, (-11))) h) (a2 : ((0 ≤ s ∧ s ≤ 3) ∧ 0 ≤ t ∧ t ≤ 3) ∧ 0 ≤ tt ∧ tt ≠ t → Q (some (0, (-13))) h) (a3 : ((0 ≤ s ∧ s ≤ 3) ∧ 0 ≤ t ∧ t ≤ 3) ∧ tt = t ∧ ¬ (0 ≤ i ∧ i < sz) → Q (some (0, (-12))) h) (a4 : ((0 ≤ s ∧ s ≤ 3) ∧ 0 ≤ t ∧ t ≤ 3) ∧ tt = t ∧ 0 ≤ i ∧ i < sz → Q (some (0, (h (185 + s.toNat) i.toNat))) h) : MH g l (d + 1 + 1) 162 212 212 [(2, ((0 : Nat) : Int)), (0, (s)), (0, (t)), (0, (i))] h Q := by
  have hR := ht.r
  have z0_s := z_s
  have z0_t := z_t
  have z0_i := z_i
  unfold in32 at z0_s
  unfold in32 at z0_t
  unfold in32 at z0_i
  have rz9 : 0 ≤ s → s ≤ 3 → sz ≤ 40 := fun e1 e2 => by have := ty_183_s0 ht (j := s.toNat) (r := s.toNat) (by omega) (by omega); rw [hsz] at this; omega
  refine mh_go hB mg162 ml162 (Nat.le_of_ble_eq_true rfl) ?_
  show HW g l (d + 1 + 1) 162 _ _ 0 [(0, (2, ((0 : Nat) : Int))), (1, (0, (s))), (2, (0, (t))), (3, (0, (i)))] [] h
  refine w_pl (pc' := 1) (lv' := [(0, (2, ((0 : Nat) : Int))), (1, (0, (s))), (2, (0, (t))), (3, (0, (i)))]) (st' := [(2, ((0 : Nat) : Int))]) (h' := h) (o162_0 hB) rfl ?_
  refine w_getf (A := 0) (t := 2) (z := ((181 : Nat) : Int)) (pc' := 4) (o162_1 hB) rfl (by decide +kernel) (hR (0, 5, 181) (by decide)) ?_
  refine w_pl (pc' := 5) (lv' := [(0, (2, ((0 : Nat) : Int))), (1, (0, (s))), (2, (0, (t))), (3, (0, (i)))]) (st' := [(0, (s)), (2, ((181 : Nat) : Int))]) (h' := h) (o162_2 hB) rfl ?_
  refine w_pl (pc' := 6) (lv' := [(0, (2, ((0 : Nat) : Int))), (1, (0, (s))), (2, (0, (t))), (3, (0, (i)))]) (st' := [(0, (t)), (0, (s)), (2, ((181 : Nat) : Int))]) (h' := h) (o162_3 hB) rfl ?_
  refine w_pl (pc' := 7) (lv' := [(0, (2, ((0 : Nat) : Int))), (1, (0, (s))), (2, (0, (t))), (3, (0, (i)))]) (st' := [(0, (i)), (0, (t)), (0, (s)), (2, ((181 : Nat) : Int))]) (h' := h) (o162_4 hB) rfl ?_
  refine w_callV (A := 181) (as := [(0, (s)), (0, (t)), (0, (i))]) (rest := []) (n := 3) (pc' := 10) 5 hB (o162_5 hB) rfl (by decide +kernel) rfl rfl (Nat.le_of_ble_eq_true rfl) (m_itemAt hB ht z_s z_t z_i htt hsz (fun f435 => ?_) (fun f436 => ?_) (fun f437 => ?_) (fun f438 => ?_) (fun f439 => ?_))
  · show HW g l _ 162 _ _ 10 [(0, (2, ((0 : Nat) : Int))), (1, (0, (s))), (2, (0, (t))), (3, (0, (i)))] [(0, (-1))] h
    exact w_iret (o162_6 hB) mr162 (by unfold in32; omega) (a0 (by omega))
  · show HW g l _ 162 _ _ 10 [(0, (2, ((0 : Nat) : Int))), (1, (0, (s))), (2, (0, (t))), (3, (0, (i)))] [(0, (-11))] h
    exact w_iret (o162_6 hB) mr162 (by unfold in32; omega) (a1 (by omega))
  · show HW g l _ 162 _ _ 10 [(0, (2, ((0 : Nat) : Int))), (1, (0, (s))), (2, (0, (t))), (3, (0, (i)))] [(0, (-13))] h
    exact w_iret (o162_6 hB) mr162 (by unfold in32; omega) (a2 (by omega))
  · show HW g l _ 162 _ _ 10 [(0, (2, ((0 : Nat) : Int))), (1, (0, (s))), (2, (0, (t))), (3, (0, (i)))] [(0, (-12))] h
    exact w_iret (o162_6 hB) mr162 (by unfold in32; omega) (a3 (by omega))
  · show HW g l _ 162 _ _ 10 [(0, (2, ((0 : Nat) : Int))), (1, (0, (s))), (2, (0, (t))), (3, (0, (i)))] [(0, ((h (185 + s.toNat) i.toNat)))] h
    exact w_iret (o162_6 hB) mr162 (by have := t185 ht (s := s.toNat) (i := i.toNat) (by omega) (by omega); unfold in32; omega) (a4 (by omega))
def s_itemB (vs : List bV) (h : bH) (r : Option bV) (h' : bH) : Prop := TH h ∧ ∀ (s t i : Int) (tt : Int) (sz : Int) , vs = [(2, ((0 : Nat) : Int)), (0, s), (0, t), (0, i)] → h 182 (s.toNat) = tt → h 183 (s.toNat) = sz → ((¬ ((0 ≤ s ∧ s ≤ 3) ∧ 0 ≤ t ∧ t ≤ 3)) ∧ r = some (0, (-1)) ∧ h = h') ∨ ((((0 ≤ s ∧ s ≤ 3) ∧ 0 ≤ t ∧ t ≤ 3) ∧ tt < 0) ∧ r = some (0, (-11)) ∧ h = h') ∨ ((((0 ≤ s ∧ s ≤ 3) ∧ 0 ≤ t ∧ t ≤ 3) ∧ 0 ≤ tt ∧ tt ≠ t) ∧ r = some (0, (-13)) ∧ h = h') ∨ ((((0 ≤ s ∧ s ≤ 3) ∧ 0 ≤ t ∧ t ≤ 3) ∧ tt = t ∧ ¬ (0 ≤ i ∧ i < sz)) ∧ r = some (0, (-12)) ∧ h = h') ∨ ((((0 ≤ s ∧ s ≤ 3) ∧ 0 ≤ t ∧ t ≤ 3) ∧ tt = t ∧ 0 ≤ i ∧ i < sz) ∧ r = some (0, (h (185 + s.toNat) i.toNat)) ∧ h = h')
def w_itemB : List (Nat × Nat × Nat) := []
def q_itemB : aCt := cH 162 2 w_itemB 3 0
theorem sk_itemB (hB : BytesOK) (g : bG) (l : Launch) : SK g l gT q_itemB s_itemB := by
  intro d hd ρ h Q hcore hQ
  have hcore : core (PofW gT (some w_itemB) false) (gsc g) h ρ h (List.replicate 3 r32, [], [], 212) := hcore
  have ht := hTH hcore
  have y0 := r32_0 hcore 0 (by decide)
  have y1 := r32_0 hcore 1 (by decide)
  have y2 := r32_0 hcore 2 (by decide)
  have y00 := y0
  unfold in32 at y00
  have y01 := y1
  unfold in32 at y01
  have y02 := y2
  unfold in32 at y02
  obtain ⟨d', rfl⟩ : ∃ d', d = d' + 1 + 1 := ⟨d - 2, by have : 2 ≤ d := hd; omega⟩
  rw [show evS ρ (ctA q_itemB) = [(2, ((0 : Nat) : Int)), (0, ρ 0), (0, ρ 1), (0, ρ 2)] from evA3]
  have rz9 : 0 ≤ ρ 0 → ρ 0 ≤ 3 → h 183 (ρ 0).toNat ≤ 40 := fun e1 e2 => (ty_183_s0 ht (j := (ρ 0).toNat) (r := (ρ 0).toNat) (by omega) (by omega)).2
  refine m_itemB (s := ρ 0) (t := ρ 1) (i := ρ 2) hB ht y0 y1 y2 rfl rfl (fun hn => ?_) (fun hn => ?_) (fun hn => ?_) (fun hn => ?_) (fun hn => ?_)
  · refine hQ _ _ (hpost hcore (ht) (fun _ _ _ => rfl) (by unfold in32; omega)) ⟨ht, fun s t i v_tt v_sz hv e_tt e_sz => ?_⟩
    have hv := (evA3 (ρ := ρ)).symm.trans hv
    obtain ⟨rfl, rfl, rfl⟩ := vsA3 hv
    subst e_tt
    subst e_sz
    exact Or.inl ⟨hn, rfl, rfl⟩
  · refine hQ _ _ (hpost hcore (ht) (fun _ _ _ => rfl) (by unfold in32; omega)) ⟨ht, fun s t i v_tt v_sz hv e_tt e_sz => ?_⟩
    have hv := (evA3 (ρ := ρ)).symm.trans hv
    obtain ⟨rfl, rfl, rfl⟩ := vsA3 hv
    subst e_tt
    subst e_sz
    exact Or.inr (Or.inl ⟨hn, rfl, rfl⟩)
  · refine hQ _ _ (hpost hcore (ht) (fun _ _ _ => rfl) (by unfold in32; omega)) ⟨ht, fun s t i v_tt v_sz hv e_tt e_sz => ?_⟩
    have hv := (evA3 (ρ := ρ)).symm.trans hv
    obtain ⟨rfl, rfl, rfl⟩ := vsA3 hv
    subst e_tt
    subst e_sz
    exact Or.inr (Or.inr (Or.inl ⟨hn, rfl, rfl⟩))
  · refine hQ _ _ (hpost hcore (ht) (fun _ _ _ => rfl) (by unfold in32; omega)) ⟨ht, fun s t i v_tt v_sz hv e_tt e_sz => ?_⟩
    have hv := (evA3 (ρ := ρ)).symm.trans hv
    obtain ⟨rfl, rfl, rfl⟩ := vsA3 hv
    subst e_tt
    subst e_sz
    exact Or.inr (Or.inr (Or.inr (Or.inl ⟨hn, rfl, rfl⟩)))
  · refine hQ _ _ (hpost hcore (ht) (fun _ _ _ => rfl) (by have := t185 ht (s := (ρ 0).toNat) (i := (ρ 2).toNat) (by omega) (by omega); unfold in32; omega)) ⟨ht, fun s t i v_tt v_sz hv e_tt e_sz => ?_⟩
    have hv := (evA3 (ρ := ρ)).symm.trans hv
    obtain ⟨rfl, rfl, rfl⟩ := vsA3 hv
    subst e_tt
    subst e_sz
    exact Or.inr (Or.inr (Or.inr (Or.inr (⟨hn, rfl, rfl⟩))))
theorem m_itemM (hB : BytesOK) {g : bG} {l : Launch} {d : Nat} {Q : bQ} {h : bH} {s t i : Int} (ht : TH h) (z_s : in32 s) (z_t : in32 t) (z_i : in32 i) {rw : Int} (hrw : h 205 (s.toNat) = rw) {rs : Int} (hrs : h 206 (rw.toNat) = rs) {rz : Int} (hrz : h 207 (rw.toNat) = rz)  (a0 : ¬ ((0 ≤ s ∧ s ≤ 3) ∧ 0 ≤ t ∧ t ≤ 3) → Q (some (0, (-1))) h) (a1 : ((0 ≤ s ∧ s ≤ 3) ∧ 0 ≤ t ∧ t ≤ 3) ∧ rw < 0 → Q (some (0, (-11))) h) (a2 : ((0 ≤ s ∧ s ≤ 3) ∧ 0 ≤ t ∧ t ≤ 3) ∧ 0 ≤ rw ∧ rs ≠ t → Q (some (0, (-13))) h) (a3 : ((0 ≤ s ∧ s ≤ 3) ∧ 0 ≤ t ∧ t ≤ 3) ∧ 0 ≤ rw ∧ rs = t ∧ ¬ (0 ≤ i ∧ i < rz) → Q (some (0, (-12))) h) (a4 : ((0 ≤ s ∧ s ≤ 3) ∧ 0 ≤ t ∧ t ≤ 3) ∧ 0 ≤ rw ∧ rs = t ∧ 0 ≤ i ∧ i < rz → Q (some (0, (h 208 (40 * rw.toNat + i.toNat)))) h) : MH g l (d + 1 + 1) 275 212 212 [(2, ((193 : Nat) : Int)), (0, (s)), (0, (t)), (0, (i))] h Q := by
  have hR := ht.r
  have z0_s := z_s
  have z0_t := z_t
  have z0_i := z_i
  unfold in32 at z0_s
  unfold in32 at z0_t
  unfold in32 at z0_i
  rcases (by omega : ¬ (0 ≤ s ∧ s ≤ 3) ∨ ((0 ≤ s ∧ s ≤ 3) ∧ (rw < 0 ∨ (0 ≤ rw ∧ (i < 0 ∨ 0 ≤ i))))) with gg | ⟨gg, gr | ⟨gr, gi | gi⟩⟩
  · skip
    refine mh_go hB mg275 ml275 (Nat.le_of_ble_eq_true rfl) ?_
    show HW g l (d + 1 + 1) 275 _ _ 0 [(0, (2, ((193 : Nat) : Int))), (1, (0, (s))), (2, (0, (t))), (3, (0, (i)))] [] h
    refine w_pl (pc' := 1) (lv' := [(0, (2, ((193 : Nat) : Int))), (1, (0, (s))), (2, (0, (t))), (3, (0, (i)))]) (st' := [(0, (s))]) (h' := h) (o275_0 hB) rfl ?_
    refine w_callS (as := [(0, (s))]) (rest := []) (n := 1) (pc' := 4) hB (o275_1 hB) rfl (by decide +kernel) rfl rfl (Nat.le_of_ble_eq_true rfl) (m_isFourM hB (fun f522 => ?_) (fun f523 => ?_))
    · exfalso; omega
    · show HW g l _ 275 _ _ 4 [(0, (2, ((193 : Nat) : Int))), (1, (0, (s))), (2, (0, (t))), (3, (0, (i)))] [(0, ((0 : Nat) : Int))] h
      refine w_ifc (pt := 16) (pf := 7) (o275_2 hB) (by decide) rfl (fun e => ?_) (fun e => ?_)
      · have f524 : (((0 : Nat) : Int) = (0)) := e
        refine w_pl (pc' := 17) (lv' := [(0, (2, ((193 : Nat) : Int))), (1, (0, (s))), (2, (0, (t))), (3, (0, (i)))]) (st' := [(0, (-1))]) (h' := h) (o275_8 hB) rfl ?_
        exact w_iret (o275_9 hB) mr275 (by unfold in32; omega) (a0 (by omega))
      · have f525 : ¬ (((0 : Nat) : Int) = (0)) := e
        exfalso; omega
  · obtain ⟨s', e_s⟩ : ∃ q : Nat, s = q := ⟨s.toNat, by omega⟩
    subst e_s
    simp only [Int.toNat_natCast] at hrw
    have r_rw := ty_205_s0 ht (j := s') (r := s') (by omega) (by omega)
    rw [hrw] at r_rw
    refine mh_go hB mg275 ml275 (Nat.le_of_ble_eq_true rfl) ?_
    show HW g l (d + 1 + 1) 275 _ _ 0 [(0, (2, ((193 : Nat) : Int))), (1, (0, ((s' : Nat) : Int))), (2, (0, (t))), (3, (0, (i)))] [] h
    refine w_pl (pc' := 1) (lv' := [(0, (2, ((193 : Nat) : Int))), (1, (0, ((s' : Nat) : Int))), (2, (0, (t))), (3, (0, (i)))]) (st' := [(0, ((s' : Nat) : Int))]) (h' := h) (o275_0 hB) rfl ?_
    refine w_callS (as := [(0, ((s' : Nat) : Int))]) (rest := []) (n := 1) (pc' := 4) hB (o275_1 hB) rfl (by decide +kernel) rfl rfl (Nat.le_of_ble_eq_true rfl) (m_isFourM hB (fun f526 => ?_) (fun f527 => ?_))
    · show HW g l _ 275 _ _ 4 [(0, (2, ((193 : Nat) : Int))), (1, (0, ((s' : Nat) : Int))), (2, (0, (t))), (3, (0, (i)))] [(0, ((1 : Nat) : Int))] h
      refine w_ifc (pt := 16) (pf := 7) (o275_2 hB) (by decide) rfl (fun e => ?_) (fun e => ?_)
      · have f528 : (((1 : Nat) : Int) = (0)) := e
        exfalso; omega
      · have f529 : ¬ (((1 : Nat) : Int) = (0)) := e
        refine w_pl (pc' := 8) (lv' := [(0, (2, ((193 : Nat) : Int))), (1, (0, ((s' : Nat) : Int))), (2, (0, (t))), (3, (0, (i)))]) (st' := [(0, (t))]) (h' := h) (o275_3 hB) rfl ?_
        refine w_pl (pc' := 9) (lv' := [(0, (2, ((193 : Nat) : Int))), (1, (0, ((s' : Nat) : Int))), (2, (0, (t))), (3, (0, (i)))]) (st' := [(0, ((0 : Nat) : Int)), (0, (t))]) (h' := h) (o275_4 hB) rfl ?_
        refine w_pl (pc' := 10) (lv' := [(0, (2, ((193 : Nat) : Int))), (1, (0, ((s' : Nat) : Int))), (2, (0, (t))), (3, (0, (i)))]) (st' := [(0, ((3 : Nat) : Int)), (0, ((0 : Nat) : Int)), (0, (t))]) (h' := h) (o275_5 hB) rfl ?_
        refine w_callS (as := [(0, (t)), (0, ((0 : Nat) : Int)), (0, ((3 : Nat) : Int))]) (rest := []) (n := 3) (pc' := 13) hB (o275_6 hB) rfl (by decide +kernel) rfl rfl (Nat.le_of_ble_eq_true rfl) (m_in hB (fun f530 => ?_) (fun f531 => ?_))
        · show HW g l _ 275 _ _ 13 [(0, (2, ((193 : Nat) : Int))), (1, (0, ((s' : Nat) : Int))), (2, (0, (t))), (3, (0, (i)))] [(0, ((1 : Nat) : Int))] h
          refine w_ifc (pt := 18) (pf := 16) (o275_7 hB) (by decide) rfl (fun e => ?_) (fun e => ?_)
          · have f532 : (((1 : Nat) : Int) ≠ (0)) := e
            refine w_pl (pc' := 19) (lv' := [(0, (2, ((193 : Nat) : Int))), (1, (0, ((s' : Nat) : Int))), (2, (0, (t))), (3, (0, (i)))]) (st' := [(2, ((193 : Nat) : Int))]) (h' := h) (o275_10 hB) rfl ?_
            refine w_getf (A := 193) (t := 2) (z := ((205 : Nat) : Int)) (pc' := 22) (o275_11 hB) rfl (by decide +kernel) (hR (193, 35, 205) (by decide)) ?_
            refine w_pl (pc' := 23) (lv' := [(0, (2, ((193 : Nat) : Int))), (1, (0, ((s' : Nat) : Int))), (2, (0, (t))), (3, (0, (i)))]) (st' := [(0, ((s' : Nat) : Int)), (2, ((205 : Nat) : Int))]) (h' := h) (o275_12 hB) rfl ?_
            refine w_iald (A := 205) (i := s') (n := 4) (z := (rw)) (pc' := 24) (o275_13 hB) rfl (by decide +kernel) (by omega) hrw ?_
            refine w_st (tg := 0) (j := 4) (len := 2) (pc' := 26) (lv' := [(4, (0, (rw))), (0, (2, ((193 : Nat) : Int))), (1, (0, ((s' : Nat) : Int))), (2, (0, (t))), (3, (0, (i)))]) (o275_14 hB) rfl rfl ml275 (by decide) rfl ?_
            refine w_pl (pc' := 28) (lv' := [(4, (0, (rw))), (0, (2, ((193 : Nat) : Int))), (1, (0, ((s' : Nat) : Int))), (2, (0, (t))), (3, (0, (i)))]) (st' := [(0, (rw))]) (h' := h) (o275_15 hB) rfl ?_
            refine w_ifc (pt := 45) (pf := 31) (o275_16 hB) (by decide) rfl (fun e => ?_) (fun e => ?_)
            · have f533 : ((rw) < (0)) := e
              refine w_pl (pc' := 47) (lv' := [(4, (0, (rw))), (0, (2, ((193 : Nat) : Int))), (1, (0, ((s' : Nat) : Int))), (2, (0, (t))), (3, (0, (i)))]) (st' := [(0, (rw))]) (h' := h) (o275_25 hB) rfl ?_
              refine w_ifc (pt := 53) (pf := 50) (o275_26 hB) (by decide) rfl (fun e => ?_) (fun e => ?_)
              · have f534 : ((0) ≤ (rw)) := e
                exfalso; omega
              · have f535 : ¬ ((0) ≤ (rw)) := e
                refine w_pl (pc' := 52) (lv' := [(4, (0, (rw))), (0, (2, ((193 : Nat) : Int))), (1, (0, ((s' : Nat) : Int))), (2, (0, (t))), (3, (0, (i)))]) (st' := [(0, (-11))]) (h' := h) (o275_27 hB) rfl ?_
                exact w_iret (o275_28 hB) mr275 (by unfold in32; omega) (a1 (by omega))
            · have f536 : ¬ ((rw) < (0)) := e
              exfalso; omega
          · have f537 : ¬ (((1 : Nat) : Int) ≠ (0)) := e
            exfalso; omega
        · show HW g l _ 275 _ _ 13 [(0, (2, ((193 : Nat) : Int))), (1, (0, ((s' : Nat) : Int))), (2, (0, (t))), (3, (0, (i)))] [(0, ((0 : Nat) : Int))] h
          refine w_ifc (pt := 18) (pf := 16) (o275_7 hB) (by decide) rfl (fun e => ?_) (fun e => ?_)
          · have f538 : (((0 : Nat) : Int) ≠ (0)) := e
            exfalso; omega
          · have f539 : ¬ (((0 : Nat) : Int) ≠ (0)) := e
            refine w_pl (pc' := 17) (lv' := [(0, (2, ((193 : Nat) : Int))), (1, (0, ((s' : Nat) : Int))), (2, (0, (t))), (3, (0, (i)))]) (st' := [(0, (-1))]) (h' := h) (o275_8 hB) rfl ?_
            exact w_iret (o275_9 hB) mr275 (by unfold in32; omega) (a0 (by omega))
    · show HW g l _ 275 _ _ 4 [(0, (2, ((193 : Nat) : Int))), (1, (0, ((s' : Nat) : Int))), (2, (0, (t))), (3, (0, (i)))] [(0, ((0 : Nat) : Int))] h
      refine w_ifc (pt := 16) (pf := 7) (o275_2 hB) (by decide) rfl (fun e => ?_) (fun e => ?_)
      · have f540 : (((0 : Nat) : Int) = (0)) := e
        refine w_pl (pc' := 17) (lv' := [(0, (2, ((193 : Nat) : Int))), (1, (0, ((s' : Nat) : Int))), (2, (0, (t))), (3, (0, (i)))]) (st' := [(0, (-1))]) (h' := h) (o275_8 hB) rfl ?_
        exact w_iret (o275_9 hB) mr275 (by unfold in32; omega) (a0 (by omega))
      · have f541 : ¬ (((0 : Nat) : Int) = (0)) := e
        exfalso; omega
  · obtain ⟨s', e_s⟩ : ∃ q : Nat, s = q := ⟨s.toNat, by omega⟩
    subst e_s
    simp only [Int.toNat_natCast] at hrw
    have r_rw := ty_205_s0 ht (j := s') (r := s') (by omega) (by omega)
    rw [hrw] at r_rw
    obtain ⟨r', e_r⟩ : ∃ q : Nat, rw = q := ⟨rw.toNat, by omega⟩
    subst e_r
    simp only [Int.toNat_natCast] at hrs hrz
    have r_rs := ty_206_s0 ht (j := r') (r := r') (by omega) (by omega)
    rw [hrs] at r_rs
    have r_rz := ty_207_s0 ht (j := r') (r := r') (by omega) (by omega)
    rw [hrz] at r_rz
    simp only [Int.toNat_natCast] at a4
    refine mh_go hB mg275 ml275 (Nat.le_of_ble_eq_true rfl) ?_
    show HW g l (d + 1 + 1) 275 _ _ 0 [(0, (2, ((193 : Nat) : Int))), (1, (0, ((s' : Nat) : Int))), (2, (0, (t))), (3, (0, (i)))] [] h
    refine w_pl (pc' := 1) (lv' := [(0, (2, ((193 : Nat) : Int))), (1, (0, ((s' : Nat) : Int))), (2, (0, (t))), (3, (0, (i)))]) (st' := [(0, ((s' : Nat) : Int))]) (h' := h) (o275_0 hB) rfl ?_
    refine w_callS (as := [(0, ((s' : Nat) : Int))]) (rest := []) (n := 1) (pc' := 4) hB (o275_1 hB) rfl (by decide +kernel) rfl rfl (Nat.le_of_ble_eq_true rfl) (m_isFourM hB (fun f542 => ?_) (fun f543 => ?_))
    · show HW g l _ 275 _ _ 4 [(0, (2, ((193 : Nat) : Int))), (1, (0, ((s' : Nat) : Int))), (2, (0, (t))), (3, (0, (i)))] [(0, ((1 : Nat) : Int))] h
      refine w_ifc (pt := 16) (pf := 7) (o275_2 hB) (by decide) rfl (fun e => ?_) (fun e => ?_)
      · have f544 : (((1 : Nat) : Int) = (0)) := e
        exfalso; omega
      · have f545 : ¬ (((1 : Nat) : Int) = (0)) := e
        refine w_pl (pc' := 8) (lv' := [(0, (2, ((193 : Nat) : Int))), (1, (0, ((s' : Nat) : Int))), (2, (0, (t))), (3, (0, (i)))]) (st' := [(0, (t))]) (h' := h) (o275_3 hB) rfl ?_
        refine w_pl (pc' := 9) (lv' := [(0, (2, ((193 : Nat) : Int))), (1, (0, ((s' : Nat) : Int))), (2, (0, (t))), (3, (0, (i)))]) (st' := [(0, ((0 : Nat) : Int)), (0, (t))]) (h' := h) (o275_4 hB) rfl ?_
        refine w_pl (pc' := 10) (lv' := [(0, (2, ((193 : Nat) : Int))), (1, (0, ((s' : Nat) : Int))), (2, (0, (t))), (3, (0, (i)))]) (st' := [(0, ((3 : Nat) : Int)), (0, ((0 : Nat) : Int)), (0, (t))]) (h' := h) (o275_5 hB) rfl ?_
        refine w_callS (as := [(0, (t)), (0, ((0 : Nat) : Int)), (0, ((3 : Nat) : Int))]) (rest := []) (n := 3) (pc' := 13) hB (o275_6 hB) rfl (by decide +kernel) rfl rfl (Nat.le_of_ble_eq_true rfl) (m_in hB (fun f546 => ?_) (fun f547 => ?_))
        · show HW g l _ 275 _ _ 13 [(0, (2, ((193 : Nat) : Int))), (1, (0, ((s' : Nat) : Int))), (2, (0, (t))), (3, (0, (i)))] [(0, ((1 : Nat) : Int))] h
          refine w_ifc (pt := 18) (pf := 16) (o275_7 hB) (by decide) rfl (fun e => ?_) (fun e => ?_)
          · have f548 : (((1 : Nat) : Int) ≠ (0)) := e
            refine w_pl (pc' := 19) (lv' := [(0, (2, ((193 : Nat) : Int))), (1, (0, ((s' : Nat) : Int))), (2, (0, (t))), (3, (0, (i)))]) (st' := [(2, ((193 : Nat) : Int))]) (h' := h) (o275_10 hB) rfl ?_
            refine w_getf (A := 193) (t := 2) (z := ((205 : Nat) : Int)) (pc' := 22) (o275_11 hB) rfl (by decide +kernel) (hR (193, 35, 205) (by decide)) ?_
            refine w_pl (pc' := 23) (lv' := [(0, (2, ((193 : Nat) : Int))), (1, (0, ((s' : Nat) : Int))), (2, (0, (t))), (3, (0, (i)))]) (st' := [(0, ((s' : Nat) : Int)), (2, ((205 : Nat) : Int))]) (h' := h) (o275_12 hB) rfl ?_
            refine w_iald (A := 205) (i := s') (n := 4) (z := ((r' : Nat) : Int)) (pc' := 24) (o275_13 hB) rfl (by decide +kernel) (by omega) hrw ?_
            refine w_st (tg := 0) (j := 4) (len := 2) (pc' := 26) (lv' := [(4, (0, ((r' : Nat) : Int))), (0, (2, ((193 : Nat) : Int))), (1, (0, ((s' : Nat) : Int))), (2, (0, (t))), (3, (0, (i)))]) (o275_14 hB) rfl rfl ml275 (by decide) rfl ?_
            refine w_pl (pc' := 28) (lv' := [(4, (0, ((r' : Nat) : Int))), (0, (2, ((193 : Nat) : Int))), (1, (0, ((s' : Nat) : Int))), (2, (0, (t))), (3, (0, (i)))]) (st' := [(0, ((r' : Nat) : Int))]) (h' := h) (o275_15 hB) rfl ?_
            refine w_ifc (pt := 45) (pf := 31) (o275_16 hB) (by decide) rfl (fun e => ?_) (fun e => ?_)
            · have f549 : (((r' : Nat) : Int) < (0)) := e
              refine w_pl (pc' := 47) (lv' := [(4, (0, ((r' : Nat) : Int))), (0, (2, ((193 : Nat) : Int))), (1, (0, ((s' : Nat) : Int))), (2, (0, (t))), (3, (0, (i)))]) (st' := [(0, ((r' : Nat) : Int))]) (h' := h) (o275_25 hB) rfl ?_
              refine w_ifc (pt := 53) (pf := 50) (o275_26 hB) (by decide) rfl (fun e => ?_) (fun e => ?_)
              · have f550 : ((0) ≤ ((r' : Nat) : Int)) := e
                refine w_pl (pc' := 54) (lv' := [(4, (0, ((r' : Nat) : Int))), (0, (2, ((193 : Nat) : Int))), (1, (0, ((s' : Nat) : Int))), (2, (0, (t))), (3, (0, (i)))]) (st' := [(0, (i))]) (h' := h) (o275_29 hB) rfl ?_
                refine w_pl (pc' := 55) (lv' := [(4, (0, ((r' : Nat) : Int))), (0, (2, ((193 : Nat) : Int))), (1, (0, ((s' : Nat) : Int))), (2, (0, (t))), (3, (0, (i)))]) (st' := [(0, ((0 : Nat) : Int)), (0, (i))]) (h' := h) (o275_30 hB) rfl ?_
                refine w_pl (pc' := 56) (lv' := [(4, (0, ((r' : Nat) : Int))), (0, (2, ((193 : Nat) : Int))), (1, (0, ((s' : Nat) : Int))), (2, (0, (t))), (3, (0, (i)))]) (st' := [(2, ((193 : Nat) : Int)), (0, ((0 : Nat) : Int)), (0, (i))]) (h' := h) (o275_31 hB) rfl ?_
                refine w_getf (A := 193) (t := 2) (z := ((207 : Nat) : Int)) (pc' := 59) (o275_32 hB) rfl (by decide +kernel) (hR (193, 37, 207) (by decide)) ?_
                refine w_pl (pc' := 61) (lv' := [(4, (0, ((r' : Nat) : Int))), (0, (2, ((193 : Nat) : Int))), (1, (0, ((s' : Nat) : Int))), (2, (0, (t))), (3, (0, (i)))]) (st' := [(0, ((r' : Nat) : Int)), (2, ((207 : Nat) : Int)), (0, ((0 : Nat) : Int)), (0, (i))]) (h' := h) (o275_33 hB) rfl ?_
                refine w_iald (A := 207) (i := r') (n := 8) (z := (rz)) (pc' := 62) (o275_34 hB) rfl (by decide +kernel) (by omega) hrz ?_
                refine w_pl (pc' := 63) (lv' := [(4, (0, ((r' : Nat) : Int))), (0, (2, ((193 : Nat) : Int))), (1, (0, ((s' : Nat) : Int))), (2, (0, (t))), (3, (0, (i)))]) (st' := [(0, ((1 : Nat) : Int)), (0, (rz)), (0, ((0 : Nat) : Int)), (0, (i))]) (h' := h) (o275_35 hB) rfl ?_
                refine w_isub (z := ((rz) - ((1 : Nat) : Int))) (pc' := 64) (o275_36 hB) rfl (w32_e (by omega) (by omega)) ?_
                refine w_callS (as := [(0, (i)), (0, ((0 : Nat) : Int)), (0, ((rz) - ((1 : Nat) : Int)))]) (rest := []) (n := 3) (pc' := 67) hB (o275_37 hB) rfl (by decide +kernel) rfl rfl (Nat.le_of_ble_eq_true rfl) (m_in hB (fun f551 => ?_) (fun f552 => ?_))
                · exfalso; omega
                · show HW g l _ 275 _ _ 67 [(4, (0, ((r' : Nat) : Int))), (0, (2, ((193 : Nat) : Int))), (1, (0, ((s' : Nat) : Int))), (2, (0, (t))), (3, (0, (i)))] [(0, ((0 : Nat) : Int))] h
                  refine w_ifc (pt := 85) (pf := 70) (o275_38 hB) (by decide) rfl (fun e => ?_) (fun e => ?_)
                  · have f553 : (((0 : Nat) : Int) = (0)) := e
                    refine w_pl (pc' := 87) (lv' := [(4, (0, ((r' : Nat) : Int))), (0, (2, ((193 : Nat) : Int))), (1, (0, ((s' : Nat) : Int))), (2, (0, (t))), (3, (0, (i)))]) (st' := [(0, (-12))]) (h' := h) (o275_48 hB) rfl ?_
                    exact w_iret (o275_49 hB) mr275 (by unfold in32; omega) (a3 (by omega))
                  · have f554 : ¬ (((0 : Nat) : Int) = (0)) := e
                    exfalso; omega
              · have f555 : ¬ ((0) ≤ ((r' : Nat) : Int)) := e
                refine w_pl (pc' := 52) (lv' := [(4, (0, ((r' : Nat) : Int))), (0, (2, ((193 : Nat) : Int))), (1, (0, ((s' : Nat) : Int))), (2, (0, (t))), (3, (0, (i)))]) (st' := [(0, (-11))]) (h' := h) (o275_27 hB) rfl ?_
                exact w_iret (o275_28 hB) mr275 (by unfold in32; omega) (a1 (by omega))
            · have f556 : ¬ (((r' : Nat) : Int) < (0)) := e
              refine w_pl (pc' := 32) (lv' := [(4, (0, ((r' : Nat) : Int))), (0, (2, ((193 : Nat) : Int))), (1, (0, ((s' : Nat) : Int))), (2, (0, (t))), (3, (0, (i)))]) (st' := [(2, ((193 : Nat) : Int))]) (h' := h) (o275_17 hB) rfl ?_
              refine w_getf (A := 193) (t := 2) (z := ((206 : Nat) : Int)) (pc' := 35) (o275_18 hB) rfl (by decide +kernel) (hR (193, 36, 206) (by decide)) ?_
              refine w_pl (pc' := 37) (lv' := [(4, (0, ((r' : Nat) : Int))), (0, (2, ((193 : Nat) : Int))), (1, (0, ((s' : Nat) : Int))), (2, (0, (t))), (3, (0, (i)))]) (st' := [(0, ((r' : Nat) : Int)), (2, ((206 : Nat) : Int))]) (h' := h) (o275_19 hB) rfl ?_
              refine w_iald (A := 206) (i := r') (n := 8) (z := (rs)) (pc' := 38) (o275_20 hB) rfl (by decide +kernel) (by omega) hrs ?_
              refine w_pl (pc' := 39) (lv' := [(4, (0, ((r' : Nat) : Int))), (0, (2, ((193 : Nat) : Int))), (1, (0, ((s' : Nat) : Int))), (2, (0, (t))), (3, (0, (i)))]) (st' := [(0, (t)), (0, (rs))]) (h' := h) (o275_21 hB) rfl ?_
              refine w_icmp (pt := 45) (pf := 42) (o275_22 hB) (by decide) rfl (fun e => ?_) (fun e => ?_)
              · have f557 : ((rs) = (t)) := e
                refine w_pl (pc' := 47) (lv' := [(4, (0, ((r' : Nat) : Int))), (0, (2, ((193 : Nat) : Int))), (1, (0, ((s' : Nat) : Int))), (2, (0, (t))), (3, (0, (i)))]) (st' := [(0, ((r' : Nat) : Int))]) (h' := h) (o275_25 hB) rfl ?_
                refine w_ifc (pt := 53) (pf := 50) (o275_26 hB) (by decide) rfl (fun e => ?_) (fun e => ?_)
                · have f558 : ((0) ≤ ((r' : Nat) : Int)) := e
                  refine w_pl (pc' := 54) (lv' := [(4, (0, ((r' : Nat) : Int))), (0, (2, ((193 : Nat) : Int))), (1, (0, ((s' : Nat) : Int))), (2, (0, (t))), (3, (0, (i)))]) (st' := [(0, (i))]) (h' := h) (o275_29 hB) rfl ?_
                  refine w_pl (pc' := 55) (lv' := [(4, (0, ((r' : Nat) : Int))), (0, (2, ((193 : Nat) : Int))), (1, (0, ((s' : Nat) : Int))), (2, (0, (t))), (3, (0, (i)))]) (st' := [(0, ((0 : Nat) : Int)), (0, (i))]) (h' := h) (o275_30 hB) rfl ?_
                  refine w_pl (pc' := 56) (lv' := [(4, (0, ((r' : Nat) : Int))), (0, (2, ((193 : Nat) : Int))), (1, (0, ((s' : Nat) : Int))), (2, (0, (t))), (3, (0, (i)))]) (st' := [(2, ((193 : Nat) : Int)), (0, ((0 : Nat) : Int)), (0, (i))]) (h' := h) (o275_31 hB) rfl ?_
                  refine w_getf (A := 193) (t := 2) (z := ((207 : Nat) : Int)) (pc' := 59) (o275_32 hB) rfl (by decide +kernel) (hR (193, 37, 207) (by decide)) ?_
                  refine w_pl (pc' := 61) (lv' := [(4, (0, ((r' : Nat) : Int))), (0, (2, ((193 : Nat) : Int))), (1, (0, ((s' : Nat) : Int))), (2, (0, (t))), (3, (0, (i)))]) (st' := [(0, ((r' : Nat) : Int)), (2, ((207 : Nat) : Int)), (0, ((0 : Nat) : Int)), (0, (i))]) (h' := h) (o275_33 hB) rfl ?_
                  refine w_iald (A := 207) (i := r') (n := 8) (z := (rz)) (pc' := 62) (o275_34 hB) rfl (by decide +kernel) (by omega) hrz ?_
                  refine w_pl (pc' := 63) (lv' := [(4, (0, ((r' : Nat) : Int))), (0, (2, ((193 : Nat) : Int))), (1, (0, ((s' : Nat) : Int))), (2, (0, (t))), (3, (0, (i)))]) (st' := [(0, ((1 : Nat) : Int)), (0, (rz)), (0, ((0 : Nat) : Int)), (0, (i))]) (h' := h) (o275_35 hB) rfl ?_
                  refine w_isub (z := ((rz) - ((1 : Nat) : Int))) (pc' := 64) (o275_36 hB) rfl (w32_e (by omega) (by omega)) ?_
                  refine w_callS (as := [(0, (i)), (0, ((0 : Nat) : Int)), (0, ((rz) - ((1 : Nat) : Int)))]) (rest := []) (n := 3) (pc' := 67) hB (o275_37 hB) rfl (by decide +kernel) rfl rfl (Nat.le_of_ble_eq_true rfl) (m_in hB (fun f559 => ?_) (fun f560 => ?_))
                  · exfalso; omega
                  · show HW g l _ 275 _ _ 67 [(4, (0, ((r' : Nat) : Int))), (0, (2, ((193 : Nat) : Int))), (1, (0, ((s' : Nat) : Int))), (2, (0, (t))), (3, (0, (i)))] [(0, ((0 : Nat) : Int))] h
                    refine w_ifc (pt := 85) (pf := 70) (o275_38 hB) (by decide) rfl (fun e => ?_) (fun e => ?_)
                    · have f561 : (((0 : Nat) : Int) = (0)) := e
                      refine w_pl (pc' := 87) (lv' := [(4, (0, ((r' : Nat) : Int))), (0, (2, ((193 : Nat) : Int))), (1, (0, ((s' : Nat) : Int))), (2, (0, (t))), (3, (0, (i)))]) (st' := [(0, (-12))]) (h' := h) (o275_48 hB) rfl ?_
                      exact w_iret (o275_49 hB) mr275 (by unfold in32; omega) (a3 (by omega))
                    · have f562 : ¬ (((0 : Nat) : Int) = (0)) := e
                      exfalso; omega
                · have f563 : ¬ ((0) ≤ ((r' : Nat) : Int)) := e
                  refine w_pl (pc' := 52) (lv' := [(4, (0, ((r' : Nat) : Int))), (0, (2, ((193 : Nat) : Int))), (1, (0, ((s' : Nat) : Int))), (2, (0, (t))), (3, (0, (i)))]) (st' := [(0, (-11))]) (h' := h) (o275_27 hB) rfl ?_
                  exact w_iret (o275_28 hB) mr275 (by unfold in32; omega) (a1 (by omega))
              · have f564 : ¬ ((rs) = (t)) := e
                refine w_pl (pc' := 44) (lv' := [(4, (0, ((r' : Nat) : Int))), (0, (2, ((193 : Nat) : Int))), (1, (0, ((s' : Nat) : Int))), (2, (0, (t))), (3, (0, (i)))]) (st' := [(0, (-13))]) (h' := h) (o275_23 hB) rfl ?_
                exact w_iret (o275_24 hB) mr275 (by unfold in32; omega) (a2 (by omega))
          · have f565 : ¬ (((1 : Nat) : Int) ≠ (0)) := e
            exfalso; omega
        · show HW g l _ 275 _ _ 13 [(0, (2, ((193 : Nat) : Int))), (1, (0, ((s' : Nat) : Int))), (2, (0, (t))), (3, (0, (i)))] [(0, ((0 : Nat) : Int))] h
          refine w_ifc (pt := 18) (pf := 16) (o275_7 hB) (by decide) rfl (fun e => ?_) (fun e => ?_)
          · have f566 : (((0 : Nat) : Int) ≠ (0)) := e
            exfalso; omega
          · have f567 : ¬ (((0 : Nat) : Int) ≠ (0)) := e
            refine w_pl (pc' := 17) (lv' := [(0, (2, ((193 : Nat) : Int))), (1, (0, ((s' : Nat) : Int))), (2, (0, (t))), (3, (0, (i)))]) (st' := [(0, (-1))]) (h' := h) (o275_8 hB) rfl ?_
            exact w_iret (o275_9 hB) mr275 (by unfold in32; omega) (a0 (by omega))
    · show HW g l _ 275 _ _ 4 [(0, (2, ((193 : Nat) : Int))), (1, (0, ((s' : Nat) : Int))), (2, (0, (t))), (3, (0, (i)))] [(0, ((0 : Nat) : Int))] h
      refine w_ifc (pt := 16) (pf := 7) (o275_2 hB) (by decide) rfl (fun e => ?_) (fun e => ?_)
      · have f568 : (((0 : Nat) : Int) = (0)) := e
        refine w_pl (pc' := 17) (lv' := [(0, (2, ((193 : Nat) : Int))), (1, (0, ((s' : Nat) : Int))), (2, (0, (t))), (3, (0, (i)))]) (st' := [(0, (-1))]) (h' := h) (o275_8 hB) rfl ?_
        exact w_iret (o275_9 hB) mr275 (by unfold in32; omega) (a0 (by omega))
      · have f569 : ¬ (((0 : Nat) : Int) = (0)) := e
        exfalso; omega
  · obtain ⟨s', e_s⟩ : ∃ q : Nat, s = q := ⟨s.toNat, by omega⟩
    subst e_s
    simp only [Int.toNat_natCast] at hrw
    have r_rw := ty_205_s0 ht (j := s') (r := s') (by omega) (by omega)
    rw [hrw] at r_rw
    obtain ⟨r', e_r⟩ : ∃ q : Nat, rw = q := ⟨rw.toNat, by omega⟩
    subst e_r
    simp only [Int.toNat_natCast] at hrs hrz
    have r_rs := ty_206_s0 ht (j := r') (r := r') (by omega) (by omega)
    rw [hrs] at r_rs
    have r_rz := ty_207_s0 ht (j := r') (r := r') (by omega) (by omega)
    rw [hrz] at r_rz
    obtain ⟨i', e_i⟩ : ∃ q : Nat, i = q := ⟨i.toNat, by omega⟩
    subst e_i
    simp only [Int.toNat_natCast] at a4
    refine mh_go hB mg275 ml275 (Nat.le_of_ble_eq_true rfl) ?_
    show HW g l (d + 1 + 1) 275 _ _ 0 [(0, (2, ((193 : Nat) : Int))), (1, (0, ((s' : Nat) : Int))), (2, (0, (t))), (3, (0, ((i' : Nat) : Int)))] [] h
    refine w_pl (pc' := 1) (lv' := [(0, (2, ((193 : Nat) : Int))), (1, (0, ((s' : Nat) : Int))), (2, (0, (t))), (3, (0, ((i' : Nat) : Int)))]) (st' := [(0, ((s' : Nat) : Int))]) (h' := h) (o275_0 hB) rfl ?_
    refine w_callS (as := [(0, ((s' : Nat) : Int))]) (rest := []) (n := 1) (pc' := 4) hB (o275_1 hB) rfl (by decide +kernel) rfl rfl (Nat.le_of_ble_eq_true rfl) (m_isFourM hB (fun f570 => ?_) (fun f571 => ?_))
    · show HW g l _ 275 _ _ 4 [(0, (2, ((193 : Nat) : Int))), (1, (0, ((s' : Nat) : Int))), (2, (0, (t))), (3, (0, ((i' : Nat) : Int)))] [(0, ((1 : Nat) : Int))] h
      refine w_ifc (pt := 16) (pf := 7) (o275_2 hB) (by decide) rfl (fun e => ?_) (fun e => ?_)
      · have f572 : (((1 : Nat) : Int) = (0)) := e
        exfalso; omega
      · have f573 : ¬ (((1 : Nat) : Int) = (0)) := e
        refine w_pl (pc' := 8) (lv' := [(0, (2, ((193 : Nat) : Int))), (1, (0, ((s' : Nat) : Int))), (2, (0, (t))), (3, (0, ((i' : Nat) : Int)))]) (st' := [(0, (t))]) (h' := h) (o275_3 hB) rfl ?_
        refine w_pl (pc' := 9) (lv' := [(0, (2, ((193 : Nat) : Int))), (1, (0, ((s' : Nat) : Int))), (2, (0, (t))), (3, (0, ((i' : Nat) : Int)))]) (st' := [(0, ((0 : Nat) : Int)), (0, (t))]) (h' := h) (o275_4 hB) rfl ?_
        refine w_pl (pc' := 10) (lv' := [(0, (2, ((193 : Nat) : Int))), (1, (0, ((s' : Nat) : Int))), (2, (0, (t))), (3, (0, ((i' : Nat) : Int)))]) (st' := [(0, ((3 : Nat) : Int)), (0, ((0 : Nat) : Int)), (0, (t))]) (h' := h) (o275_5 hB) rfl ?_
        refine w_callS (as := [(0, (t)), (0, ((0 : Nat) : Int)), (0, ((3 : Nat) : Int))]) (rest := []) (n := 3) (pc' := 13) hB (o275_6 hB) rfl (by decide +kernel) rfl rfl (Nat.le_of_ble_eq_true rfl) (m_in hB (fun f574 => ?_) (fun f575 => ?_))
        · show HW g l _ 275 _ _ 13 [(0, (2, ((193 : Nat) : Int))), (1, (0, ((s' : Nat) : Int))), (2, (0, (t))), (3, (0, ((i' : Nat) : Int)))] [(0, ((1 : Nat) : Int))] h
          refine w_ifc (pt := 18) (pf := 16) (o275_7 hB) (by decide) rfl (fun e => ?_) (fun e => ?_)
          · have f576 : (((1 : Nat) : Int) ≠ (0)) := e
            refine w_pl (pc' := 19) (lv' := [(0, (2, ((193 : Nat) : Int))), (1, (0, ((s' : Nat) : Int))), (2, (0, (t))), (3, (0, ((i' : Nat) : Int)))]) (st' := [(2, ((193 : Nat) : Int))]) (h' := h) (o275_10 hB) rfl ?_
            refine w_getf (A := 193) (t := 2) (z := ((205 : Nat) : Int)) (pc' := 22) (o275_11 hB) rfl (by decide +kernel) (hR (193, 35, 205) (by decide)) ?_
            refine w_pl (pc' := 23) (lv' := [(0, (2, ((193 : Nat) : Int))), (1, (0, ((s' : Nat) : Int))), (2, (0, (t))), (3, (0, ((i' : Nat) : Int)))]) (st' := [(0, ((s' : Nat) : Int)), (2, ((205 : Nat) : Int))]) (h' := h) (o275_12 hB) rfl ?_
            refine w_iald (A := 205) (i := s') (n := 4) (z := ((r' : Nat) : Int)) (pc' := 24) (o275_13 hB) rfl (by decide +kernel) (by omega) hrw ?_
            refine w_st (tg := 0) (j := 4) (len := 2) (pc' := 26) (lv' := [(4, (0, ((r' : Nat) : Int))), (0, (2, ((193 : Nat) : Int))), (1, (0, ((s' : Nat) : Int))), (2, (0, (t))), (3, (0, ((i' : Nat) : Int)))]) (o275_14 hB) rfl rfl ml275 (by decide) rfl ?_
            refine w_pl (pc' := 28) (lv' := [(4, (0, ((r' : Nat) : Int))), (0, (2, ((193 : Nat) : Int))), (1, (0, ((s' : Nat) : Int))), (2, (0, (t))), (3, (0, ((i' : Nat) : Int)))]) (st' := [(0, ((r' : Nat) : Int))]) (h' := h) (o275_15 hB) rfl ?_
            refine w_ifc (pt := 45) (pf := 31) (o275_16 hB) (by decide) rfl (fun e => ?_) (fun e => ?_)
            · have f577 : (((r' : Nat) : Int) < (0)) := e
              refine w_pl (pc' := 47) (lv' := [(4, (0, ((r' : Nat) : Int))), (0, (2, ((193 : Nat) : Int))), (1, (0, ((s' : Nat) : Int))), (2, (0, (t))), (3, (0, ((i' : Nat) : Int)))]) (st' := [(0, ((r' : Nat) : Int))]) (h' := h) (o275_25 hB) rfl ?_
              refine w_ifc (pt := 53) (pf := 50) (o275_26 hB) (by decide) rfl (fun e => ?_) (fun e => ?_)
              · have f578 : ((0) ≤ ((r' : Nat) : Int)) := e
                refine w_pl (pc' := 54) (lv' := [(4, (0, ((r' : Nat) : Int))), (0, (2, ((193 : Nat) : Int))), (1, (0, ((s' : Nat) : Int))), (2, (0, (t))), (3, (0, ((i' : Nat) : Int)))]) (st' := [(0, ((i' : Nat) : Int))]) (h' := h) (o275_29 hB) rfl ?_
                refine w_pl (pc' := 55) (lv' := [(4, (0, ((r' : Nat) : Int))), (0, (2, ((193 : Nat) : Int))), (1, (0, ((s' : Nat) : Int))), (2, (0, (t))), (3, (0, ((i' : Nat) : Int)))]) (st' := [(0, ((0 : Nat) : Int)), (0, ((i' : Nat) : Int))]) (h' := h) (o275_30 hB) rfl ?_
                refine w_pl (pc' := 56) (lv' := [(4, (0, ((r' : Nat) : Int))), (0, (2, ((193 : Nat) : Int))), (1, (0, ((s' : Nat) : Int))), (2, (0, (t))), (3, (0, ((i' : Nat) : Int)))]) (st' := [(2, ((193 : Nat) : Int)), (0, ((0 : Nat) : Int)), (0, ((i' : Nat) : Int))]) (h' := h) (o275_31 hB) rfl ?_
                refine w_getf (A := 193) (t := 2) (z := ((207 : Nat) : Int)) (pc' := 59) (o275_32 hB) rfl (by decide +kernel) (hR (193, 37, 207) (by decide)) ?_
                refine w_pl (pc' := 61) (lv' := [(4, (0, ((r' : Nat) : Int))), (0, (2, ((193 : Nat) : Int))), (1, (0, ((s' : Nat) : Int))), (2, (0, (t))), (3, (0, ((i' : Nat) : Int)))]) (st' := [(0, ((r' : Nat) : Int)), (2, ((207 : Nat) : Int)), (0, ((0 : Nat) : Int)), (0, ((i' : Nat) : Int))]) (h' := h) (o275_33 hB) rfl ?_
                refine w_iald (A := 207) (i := r') (n := 8) (z := (rz)) (pc' := 62) (o275_34 hB) rfl (by decide +kernel) (by omega) hrz ?_
                refine w_pl (pc' := 63) (lv' := [(4, (0, ((r' : Nat) : Int))), (0, (2, ((193 : Nat) : Int))), (1, (0, ((s' : Nat) : Int))), (2, (0, (t))), (3, (0, ((i' : Nat) : Int)))]) (st' := [(0, ((1 : Nat) : Int)), (0, (rz)), (0, ((0 : Nat) : Int)), (0, ((i' : Nat) : Int))]) (h' := h) (o275_35 hB) rfl ?_
                refine w_isub (z := ((rz) - ((1 : Nat) : Int))) (pc' := 64) (o275_36 hB) rfl (w32_e (by omega) (by omega)) ?_
                refine w_callS (as := [(0, ((i' : Nat) : Int)), (0, ((0 : Nat) : Int)), (0, ((rz) - ((1 : Nat) : Int)))]) (rest := []) (n := 3) (pc' := 67) hB (o275_37 hB) rfl (by decide +kernel) rfl rfl (Nat.le_of_ble_eq_true rfl) (m_in hB (fun f579 => ?_) (fun f580 => ?_))
                · show HW g l _ 275 _ _ 67 [(4, (0, ((r' : Nat) : Int))), (0, (2, ((193 : Nat) : Int))), (1, (0, ((s' : Nat) : Int))), (2, (0, (t))), (3, (0, ((i' : Nat) : Int)))] [(0, ((1 : Nat) : Int))] h
                  refine w_ifc (pt := 85) (pf := 70) (o275_38 hB) (by decide) rfl (fun e => ?_) (fun e => ?_)
                  · have f581 : (((1 : Nat) : Int) = (0)) := e
                    exfalso; omega
                  · have f582 : ¬ (((1 : Nat) : Int) = (0)) := e
                    refine w_pl (pc' := 71) (lv' := [(4, (0, ((r' : Nat) : Int))), (0, (2, ((193 : Nat) : Int))), (1, (0, ((s' : Nat) : Int))), (2, (0, (t))), (3, (0, ((i' : Nat) : Int)))]) (st' := [(2, ((193 : Nat) : Int))]) (h' := h) (o275_39 hB) rfl ?_
                    refine w_getf (A := 193) (t := 2) (z := ((208 : Nat) : Int)) (pc' := 74) (o275_40 hB) rfl (by decide +kernel) (hR (193, 38, 208) (by decide)) ?_
                    refine w_pl (pc' := 76) (lv' := [(4, (0, ((r' : Nat) : Int))), (0, (2, ((193 : Nat) : Int))), (1, (0, ((s' : Nat) : Int))), (2, (0, (t))), (3, (0, ((i' : Nat) : Int)))]) (st' := [(0, ((40 : Nat) : Int)), (2, ((208 : Nat) : Int))]) (h' := h) (o275_41 hB) rfl ?_
                    refine w_pl (pc' := 78) (lv' := [(4, (0, ((r' : Nat) : Int))), (0, (2, ((193 : Nat) : Int))), (1, (0, ((s' : Nat) : Int))), (2, (0, (t))), (3, (0, ((i' : Nat) : Int)))]) (st' := [(0, ((r' : Nat) : Int)), (0, ((40 : Nat) : Int)), (2, ((208 : Nat) : Int))]) (h' := h) (o275_42 hB) rfl ?_
                    refine w_imul (z := (((40 * r') : Nat) : Int)) (pc' := 79) (o275_43 hB) rfl (w32_e (by omega) (by omega)) ?_
                    refine w_pl (pc' := 80) (lv' := [(4, (0, ((r' : Nat) : Int))), (0, (2, ((193 : Nat) : Int))), (1, (0, ((s' : Nat) : Int))), (2, (0, (t))), (3, (0, ((i' : Nat) : Int)))]) (st' := [(0, ((i' : Nat) : Int)), (0, (((40 * r') : Nat) : Int)), (2, ((208 : Nat) : Int))]) (h' := h) (o275_44 hB) rfl ?_
                    refine w_iadd (z := ((((40 * r') + i') : Nat) : Int)) (pc' := 81) (o275_45 hB) rfl (w32_e (by omega) (by omega)) ?_
                    have f583 := sB_x2 ht (a := 208) (n := 320) (by decide +kernel) (j := ((40 * r') + i')) (by omega)
                    refine w_iald (A := 208) (i := ((40 * r') + i')) (n := 320) (z := (h 208 ((40 * r') + i'))) (pc' := 82) (o275_46 hB) rfl (by decide +kernel) (by omega) rfl ?_
                    refine w_goto (pt := 87) (o275_47 hB) (by decide) ?_
                    exact w_iret (o275_49 hB) mr275 (by have := sB_x2 ht (a := 208) (n := 320) (by decide +kernel) (j := 40 * r' + i') (by omega); unfold in32; omega) (a4 (by omega))
                · show HW g l _ 275 _ _ 67 [(4, (0, ((r' : Nat) : Int))), (0, (2, ((193 : Nat) : Int))), (1, (0, ((s' : Nat) : Int))), (2, (0, (t))), (3, (0, ((i' : Nat) : Int)))] [(0, ((0 : Nat) : Int))] h
                  refine w_ifc (pt := 85) (pf := 70) (o275_38 hB) (by decide) rfl (fun e => ?_) (fun e => ?_)
                  · have f584 : (((0 : Nat) : Int) = (0)) := e
                    refine w_pl (pc' := 87) (lv' := [(4, (0, ((r' : Nat) : Int))), (0, (2, ((193 : Nat) : Int))), (1, (0, ((s' : Nat) : Int))), (2, (0, (t))), (3, (0, ((i' : Nat) : Int)))]) (st' := [(0, (-12))]) (h' := h) (o275_48 hB) rfl ?_
                    exact w_iret (o275_49 hB) mr275 (by unfold in32; omega) (a3 (by omega))
                  · have f585 : ¬ (((0 : Nat) : Int) = (0)) := e
                    exfalso; omega
              · have f586 : ¬ ((0) ≤ ((r' : Nat) : Int)) := e
                refine w_pl (pc' := 52) (lv' := [(4, (0, ((r' : Nat) : Int))), (0, (2, ((193 : Nat) : Int))), (1, (0, ((s' : Nat) : Int))), (2, (0, (t))), (3, (0, ((i' : Nat) : Int)))]) (st' := [(0, (-11))]) (h' := h) (o275_27 hB) rfl ?_
                exact w_iret (o275_28 hB) mr275 (by unfold in32; omega) (a1 (by omega))
            · have f587 : ¬ (((r' : Nat) : Int) < (0)) := e
              refine w_pl (pc' := 32) (lv' := [(4, (0, ((r' : Nat) : Int))), (0, (2, ((193 : Nat) : Int))), (1, (0, ((s' : Nat) : Int))), (2, (0, (t))), (3, (0, ((i' : Nat) : Int)))]) (st' := [(2, ((193 : Nat) : Int))]) (h' := h) (o275_17 hB) rfl ?_
              refine w_getf (A := 193) (t := 2) (z := ((206 : Nat) : Int)) (pc' := 35) (o275_18 hB) rfl (by decide +kernel) (hR (193, 36, 206) (by decide)) ?_
              refine w_pl (pc' := 37) (lv' := [(4, (0, ((r' : Nat) : Int))), (0, (2, ((193 : Nat) : Int))), (1, (0, ((s' : Nat) : Int))), (2, (0, (t))), (3, (0, ((i' : Nat) : Int)))]) (st' := [(0, ((r' : Nat) : Int)), (2, ((206 : Nat) : Int))]) (h' := h) (o275_19 hB) rfl ?_
              refine w_iald (A := 206) (i := r') (n := 8) (z := (rs)) (pc' := 38) (o275_20 hB) rfl (by decide +kernel) (by omega) hrs ?_
              refine w_pl (pc' := 39) (lv' := [(4, (0, ((r' : Nat) : Int))), (0, (2, ((193 : Nat) : Int))), (1, (0, ((s' : Nat) : Int))), (2, (0, (t))), (3, (0, ((i' : Nat) : Int)))]) (st' := [(0, (t)), (0, (rs))]) (h' := h) (o275_21 hB) rfl ?_
              refine w_icmp (pt := 45) (pf := 42) (o275_22 hB) (by decide) rfl (fun e => ?_) (fun e => ?_)
              · have f588 : ((rs) = (t)) := e
                refine w_pl (pc' := 47) (lv' := [(4, (0, ((r' : Nat) : Int))), (0, (2, ((193 : Nat) : Int))), (1, (0, ((s' : Nat) : Int))), (2, (0, (t))), (3, (0, ((i' : Nat) : Int)))]) (st' := [(0, ((r' : Nat) : Int))]) (h' := h) (o275_25 hB) rfl ?_
                refine w_ifc (pt := 53) (pf := 50) (o275_26 hB) (by decide) rfl (fun e => ?_) (fun e => ?_)
                · have f589 : ((0) ≤ ((r' : Nat) : Int)) := e
                  refine w_pl (pc' := 54) (lv' := [(4, (0, ((r' : Nat) : Int))), (0, (2, ((193 : Nat) : Int))), (1, (0, ((s' : Nat) : Int))), (2, (0, (t))), (3, (0, ((i' : Nat) : Int)))]) (st' := [(0, ((i' : Nat) : Int))]) (h' := h) (o275_29 hB) rfl ?_
                  refine w_pl (pc' := 55) (lv' := [(4, (0, ((r' : Nat) : Int))), (0, (2, ((193 : Nat) : Int))), (1, (0, ((s' : Nat) : Int))), (2, (0, (t))), (3, (0, ((i' : Nat) : Int)))]) (st' := [(0, ((0 : Nat) : Int)), (0, ((i' : Nat) : Int))]) (h' := h) (o275_30 hB) rfl ?_
                  refine w_pl (pc' := 56) (lv' := [(4, (0, ((r' : Nat) : Int))), (0, (2, ((193 : Nat) : Int))), (1, (0, ((s' : Nat) : Int))), (2, (0, (t))), (3, (0, ((i' : Nat) : Int)))]) (st' := [(2, ((193 : Nat) : Int)), (0, ((0 : Nat) : Int)), (0, ((i' : Nat) : Int))]) (h' := h) (o275_31 hB) rfl ?_
                  refine w_getf (A := 193) (t := 2) (z := ((207 : Nat) : Int)) (pc' := 59) (o275_32 hB) rfl (by decide +kernel) (hR (193, 37, 207) (by decide)) ?_
                  refine w_pl (pc' := 61) (lv' := [(4, (0, ((r' : Nat) : Int))), (0, (2, ((193 : Nat) : Int))), (1, (0, ((s' : Nat) : Int))), (2, (0, (t))), (3, (0, ((i' : Nat) : Int)))]) (st' := [(0, ((r' : Nat) : Int)), (2, ((207 : Nat) : Int)), (0, ((0 : Nat) : Int)), (0, ((i' : Nat) : Int))]) (h' := h) (o275_33 hB) rfl ?_
                  refine w_iald (A := 207) (i := r') (n := 8) (z := (rz)) (pc' := 62) (o275_34 hB) rfl (by decide +kernel) (by omega) hrz ?_
                  refine w_pl (pc' := 63) (lv' := [(4, (0, ((r' : Nat) : Int))), (0, (2, ((193 : Nat) : Int))), (1, (0, ((s' : Nat) : Int))), (2, (0, (t))), (3, (0, ((i' : Nat) : Int)))]) (st' := [(0, ((1 : Nat) : Int)), (0, (rz)), (0, ((0 : Nat) : Int)), (0, ((i' : Nat) : Int))]) (h' := h) (o275_35 hB) rfl ?_
                  refine w_isub (z := ((rz) - ((1 : Nat) : Int))) (pc' := 64) (o275_36 hB) rfl (w32_e (by omega) (by omega)) ?_
                  refine w_callS (as := [(0, ((i' : Nat) : Int)), (0, ((0 : Nat) : Int)), (0, ((rz) - ((1 : Nat) : Int)))]) (rest := []) (n := 3) (pc' := 67) hB (o275_37 hB) rfl (by decide +kernel) rfl rfl (Nat.le_of_ble_eq_true rfl) (m_in hB (fun f590 => ?_) (fun f591 => ?_))
                  · show HW g l _ 275 _ _ 67 [(4, (0, ((r' : Nat) : Int))), (0, (2, ((193 : Nat) : Int))), (1, (0, ((s' : Nat) : Int))), (2, (0, (t))), (3, (0, ((i' : Nat) : Int)))] [(0, ((1 : Nat) : Int))] h
                    refine w_ifc (pt := 85) (pf := 70) (o275_38 hB) (by decide) rfl (fun e => ?_) (fun e => ?_)
                    · have f592 : (((1 : Nat) : Int) = (0)) := e
                      exfalso; omega
                    · have f593 : ¬ (((1 : Nat) : Int) = (0)) := e
                      refine w_pl (pc' := 71) (lv' := [(4, (0, ((r' : Nat) : Int))), (0, (2, ((193 : Nat) : Int))), (1, (0, ((s' : Nat) : Int))), (2, (0, (t))), (3, (0, ((i' : Nat) : Int)))]) (st' := [(2, ((193 : Nat) : Int))]) (h' := h) (o275_39 hB) rfl ?_
                      refine w_getf (A := 193) (t := 2) (z := ((208 : Nat) : Int)) (pc' := 74) (o275_40 hB) rfl (by decide +kernel) (hR (193, 38, 208) (by decide)) ?_
                      refine w_pl (pc' := 76) (lv' := [(4, (0, ((r' : Nat) : Int))), (0, (2, ((193 : Nat) : Int))), (1, (0, ((s' : Nat) : Int))), (2, (0, (t))), (3, (0, ((i' : Nat) : Int)))]) (st' := [(0, ((40 : Nat) : Int)), (2, ((208 : Nat) : Int))]) (h' := h) (o275_41 hB) rfl ?_
                      refine w_pl (pc' := 78) (lv' := [(4, (0, ((r' : Nat) : Int))), (0, (2, ((193 : Nat) : Int))), (1, (0, ((s' : Nat) : Int))), (2, (0, (t))), (3, (0, ((i' : Nat) : Int)))]) (st' := [(0, ((r' : Nat) : Int)), (0, ((40 : Nat) : Int)), (2, ((208 : Nat) : Int))]) (h' := h) (o275_42 hB) rfl ?_
                      refine w_imul (z := (((40 * r') : Nat) : Int)) (pc' := 79) (o275_43 hB) rfl (w32_e (by omega) (by omega)) ?_
                      refine w_pl (pc' := 80) (lv' := [(4, (0, ((r' : Nat) : Int))), (0, (2, ((193 : Nat) : Int))), (1, (0, ((s' : Nat) : Int))), (2, (0, (t))), (3, (0, ((i' : Nat) : Int)))]) (st' := [(0, ((i' : Nat) : Int)), (0, (((40 * r') : Nat) : Int)), (2, ((208 : Nat) : Int))]) (h' := h) (o275_44 hB) rfl ?_
                      refine w_iadd (z := ((((40 * r') + i') : Nat) : Int)) (pc' := 81) (o275_45 hB) rfl (w32_e (by omega) (by omega)) ?_
                      have f594 := sB_x2 ht (a := 208) (n := 320) (by decide +kernel) (j := ((40 * r') + i')) (by omega)
                      refine w_iald (A := 208) (i := ((40 * r') + i')) (n := 320) (z := (h 208 ((40 * r') + i'))) (pc' := 82) (o275_46 hB) rfl (by decide +kernel) (by omega) rfl ?_
                      refine w_goto (pt := 87) (o275_47 hB) (by decide) ?_
                      exact w_iret (o275_49 hB) mr275 (by have := sB_x2 ht (a := 208) (n := 320) (by decide +kernel) (j := 40 * r' + i') (by omega); unfold in32; omega) (a4 (by omega))
                  · show HW g l _ 275 _ _ 67 [(4, (0, ((r' : Nat) : Int))), (0, (2, ((193 : Nat) : Int))), (1, (0, ((s' : Nat) : Int))), (2, (0, (t))), (3, (0, ((i' : Nat) : Int)))] [(0, ((0 : Nat) : Int))] h
                    refine w_ifc (pt := 85) (pf := 70) (o275_38 hB) (by decide) rfl (fun e => ?_) (fun e => ?_)
                    · have f595 : (((0 : Nat) : Int) = (0)) := e
                      refine w_pl (pc' := 87) (lv' := [(4, (0, ((r' : Nat) : Int))), (0, (2, ((193 : Nat) : Int))), (1, (0, ((s' : Nat) : Int))), (2, (0, (t))), (3, (0, ((i' : Nat) : Int)))]) (st' := [(0, (-12))]) (h' := h) (o275_48 hB) rfl ?_
                      exact w_iret (o275_49 hB) mr275 (by unfold in32; omega) (a3 (by omega))
                    · have f596 : ¬ (((0 : Nat) : Int) = (0)) := e
                      exfalso; omega
                · have f597 : ¬ ((0) ≤ ((r' : Nat) : Int)) := e
                  refine w_pl (pc' := 52) (lv' := [(4, (0, ((r' : Nat) : Int))), (0, (2, ((193 : Nat) : Int))), (1, (0, ((s' : Nat) : Int))), (2, (0, (t))), (3, (0, ((i' : Nat) : Int)))]) (st' := [(0, (-11))]) (h' := h) (o275_27 hB) rfl ?_
                  exact w_iret (o275_28 hB) mr275 (by unfold in32; omega) (a1 (by omega))
              · have f598 : ¬ ((rs) = (t)) := e
                refine w_pl (pc' := 44) (lv' := [(4, (0, ((r' : Nat) : Int))), (0, (2, ((193 : Nat) : Int))), (1, (0, ((s' : Nat) : Int))), (2, (0, (t))), (3, (0, ((i' : Nat) : Int)))]) (st' := [(0, (-13))]) (h' := h) (o275_23 hB) rfl ?_
                exact w_iret (o275_24 hB) mr275 (by unfold in32; omega) (a2 (by omega))
          · have f599 : ¬ (((1 : Nat) : Int) ≠ (0)) := e
            exfalso; omega
        · show HW g l _ 275 _ _ 13 [(0, (2, ((193 : Nat) : Int))), (1, (0, ((s' : Nat) : Int))), (2, (0, (t))), (3, (0, ((i' : Nat) : Int)))] [(0, ((0 : Nat) : Int))] h
          refine w_ifc (pt := 18) (pf := 16) (o275_7 hB) (by decide) rfl (fun e => ?_) (fun e => ?_)
          · have f600 : (((0 : Nat) : Int) ≠ (0)) := e
            exfalso; omega
          · have f601 : ¬ (((0 : Nat) : Int) ≠ (0)) := e
            refine w_pl (pc' := 17) (lv' := [(0, (2, ((193 : Nat) : Int))), (1, (0, ((s' : Nat) : Int))), (2, (0, (t))), (3, (0, ((i' : Nat) : Int)))]) (st' := [(0, (-1))]) (h' := h) (o275_8 hB) rfl ?_
            exact w_iret (o275_9 hB) mr275 (by unfold in32; omega) (a0 (by omega))
    · show HW g l _ 275 _ _ 4 [(0, (2, ((193 : Nat) : Int))), (1, (0, ((s' : Nat) : Int))), (2, (0, (t))), (3, (0, ((i' : Nat) : Int)))] [(0, ((0 : Nat) : Int))] h
      refine w_ifc (pt := 16) (pf := 7) (o275_2 hB) (by decide) rfl (fun e => ?_) (fun e => ?_)
      · have f602 : (((0 : Nat) : Int) = (0)) := e
        refine w_pl (pc' := 17) (lv' := [(0, (2, ((193 : Nat) : Int))), (1, (0, ((s' : Nat) : Int))), (2, (0, (t))), (3, (0, ((i' : Nat) : Int)))]) (st' := [(0, (-1))]) (h' := h) (o275_8 hB) rfl ?_
        exact w_iret (o275_9 hB) mr275 (by unfold in32; omega) (a0 (by omega))
      · have f603 : ¬ (((0 : Nat) : Int) = (0)) := e
        exfalso; omega
def s_itemM (vs : List bV) (h : bH) (r : Option bV) (h' : bH) : Prop := TH h ∧ ∀ (s t i : Int) (rw : Int) (rs : Int) (rz : Int) , vs = [(2, ((193 : Nat) : Int)), (0, s), (0, t), (0, i)] → h 205 (s.toNat) = rw → h 206 (rw.toNat) = rs → h 207 (rw.toNat) = rz → ((¬ ((0 ≤ s ∧ s ≤ 3) ∧ 0 ≤ t ∧ t ≤ 3)) ∧ r = some (0, (-1)) ∧ h = h') ∨ ((((0 ≤ s ∧ s ≤ 3) ∧ 0 ≤ t ∧ t ≤ 3) ∧ rw < 0) ∧ r = some (0, (-11)) ∧ h = h') ∨ ((((0 ≤ s ∧ s ≤ 3) ∧ 0 ≤ t ∧ t ≤ 3) ∧ 0 ≤ rw ∧ rs ≠ t) ∧ r = some (0, (-13)) ∧ h = h') ∨ ((((0 ≤ s ∧ s ≤ 3) ∧ 0 ≤ t ∧ t ≤ 3) ∧ 0 ≤ rw ∧ rs = t ∧ ¬ (0 ≤ i ∧ i < rz)) ∧ r = some (0, (-12)) ∧ h = h') ∨ ((((0 ≤ s ∧ s ≤ 3) ∧ 0 ≤ t ∧ t ≤ 3) ∧ 0 ≤ rw ∧ rs = t ∧ 0 ≤ i ∧ i < rz) ∧ r = some (0, (h 208 (40 * rw.toNat + i.toNat))) ∧ h = h')
def w_itemM : List (Nat × Nat × Nat) := []
def q_itemM : aCt := cH 275 2 w_itemM 3 193
theorem sk_itemM (hB : BytesOK) (g : bG) (l : Launch) : SK g l gT q_itemM s_itemM := by
  intro d hd ρ h Q hcore hQ
  have hcore : core (PofW gT (some w_itemM) false) (gsc g) h ρ h (List.replicate 3 r32, [], [], 212) := hcore
  have ht := hTH hcore
  have y0 := r32_0 hcore 0 (by decide)
  have y1 := r32_0 hcore 1 (by decide)
  have y2 := r32_0 hcore 2 (by decide)
  have y00 := y0
  unfold in32 at y00
  have y01 := y1
  unfold in32 at y01
  have y02 := y2
  unfold in32 at y02
  obtain ⟨d', rfl⟩ : ∃ d', d = d' + 1 + 1 := ⟨d - 2, by have : 2 ≤ d := hd; omega⟩
  rw [show evS ρ (ctA q_itemM) = [(2, ((193 : Nat) : Int)), (0, ρ 0), (0, ρ 1), (0, ρ 2)] from evA3]
  refine m_itemM (s := ρ 0) (t := ρ 1) (i := ρ 2) hB ht y0 y1 y2 rfl rfl rfl (fun hn => ?_) (fun hn => ?_) (fun hn => ?_) (fun hn => ?_) (fun hn => ?_)
  · refine hQ _ _ (hpost hcore (ht) (fun _ _ _ => rfl) (by unfold in32; omega)) ⟨ht, fun s t i v_rw v_rs v_rz hv e_rw e_rs e_rz => ?_⟩
    have hv := (evA3 (ρ := ρ)).symm.trans hv
    obtain ⟨rfl, rfl, rfl⟩ := vsA3 hv
    subst e_rw
    subst e_rs
    subst e_rz
    exact Or.inl ⟨hn, rfl, rfl⟩
  · refine hQ _ _ (hpost hcore (ht) (fun _ _ _ => rfl) (by unfold in32; omega)) ⟨ht, fun s t i v_rw v_rs v_rz hv e_rw e_rs e_rz => ?_⟩
    have hv := (evA3 (ρ := ρ)).symm.trans hv
    obtain ⟨rfl, rfl, rfl⟩ := vsA3 hv
    subst e_rw
    subst e_rs
    subst e_rz
    exact Or.inr (Or.inl ⟨hn, rfl, rfl⟩)
  · refine hQ _ _ (hpost hcore (ht) (fun _ _ _ => rfl) (by unfold in32; omega)) ⟨ht, fun s t i v_rw v_rs v_rz hv e_rw e_rs e_rz => ?_⟩
    have hv := (evA3 (ρ := ρ)).symm.trans hv
    obtain ⟨rfl, rfl, rfl⟩ := vsA3 hv
    subst e_rw
    subst e_rs
    subst e_rz
    exact Or.inr (Or.inr (Or.inl ⟨hn, rfl, rfl⟩))
  · refine hQ _ _ (hpost hcore (ht) (fun _ _ _ => rfl) (by unfold in32; omega)) ⟨ht, fun s t i v_rw v_rs v_rz hv e_rw e_rs e_rz => ?_⟩
    have hv := (evA3 (ρ := ρ)).symm.trans hv
    obtain ⟨rfl, rfl, rfl⟩ := vsA3 hv
    subst e_rw
    subst e_rs
    subst e_rz
    exact Or.inr (Or.inr (Or.inr (Or.inl ⟨hn, rfl, rfl⟩)))
  · refine hQ _ _ (hpost hcore (ht) (fun _ _ _ => rfl) (by have e205 := ty_205_s0 ht (j := (ρ 0).toNat) (r := (ρ 0).toNat) (by omega) (by omega); have e207 := ty_207_s0 ht (j := (h 205 (ρ 0).toNat).toNat) (r := (h 205 (ρ 0).toNat).toNat) (by omega) (by omega); have := sB_x2 ht (a := 208) (n := 320) (by decide +kernel) (j := 40 * (h 205 (ρ 0).toNat).toNat + (ρ 2).toNat) (by omega); unfold in32; omega)) ⟨ht, fun s t i v_rw v_rs v_rz hv e_rw e_rs e_rz => ?_⟩
    have hv := (evA3 (ρ := ρ)).symm.trans hv
    obtain ⟨rfl, rfl, rfl⟩ := vsA3 hv
    subst e_rw
    subst e_rs
    subst e_rz
    exact Or.inr (Or.inr (Or.inr (Or.inr (⟨hn, rfl, rfl⟩))))
