/-! RANGES OF PLACES, AS THEY ARE ASKED FOR -/
theorem ty_182_s0 {h : bH} (ht : TH h) {j r : Nat} (e : j = 0 + 1 * r) (hr : r < 4) : (-1) ≤ h 182 j ∧ h 182 j ≤ 3 := by
  subst e
  exact ht.s2 (s := 0) (st := 1) (n := 4) (by decide +kernel) hr
theorem ty_183_s0 {h : bH} (ht : TH h) {j r : Nat} (e : j = 0 + 1 * r) (hr : r < 4) : (0) ≤ h 183 j ∧ h 183 j ≤ 40 := by
  subst e
  exact ht.s2 (s := 0) (st := 1) (n := 4) (by decide +kernel) hr
theorem ty_205_s0 {h : bH} (ht : TH h) {j r : Nat} (e : j = 0 + 1 * r) (hr : r < 4) : (-1) ≤ h 205 j ∧ h 205 j ≤ 7 := by
  subst e
  exact ht.s2 (s := 0) (st := 1) (n := 4) (by decide +kernel) hr
theorem ty_209_s0 {h : bH} (ht : TH h) {j r : Nat} (e : j = 0 + 1 * r) (hr : r < 4) : (0) ≤ h 209 j ∧ h 209 j ≤ 4 := by
  subst e
  exact ht.s2 (s := 0) (st := 1) (n := 4) (by decide +kernel) hr
theorem ty_210_s0 {h : bH} (ht : TH h) {j r : Nat} (e : j = 0 + 1 * r) (hr : r < 4) : (0) ≤ h 210 j ∧ h 210 j ≤ 23 := by
  subst e
  exact ht.s2 (s := 0) (st := 1) (n := 4) (by decide +kernel) hr
theorem ty_206_s0 {h : bH} (ht : TH h) {j r : Nat} (e : j = 0 + 1 * r) (hr : r < 8) : (0) ≤ h 206 j ∧ h 206 j ≤ 3 := by
  subst e
  exact ht.s2 (s := 0) (st := 1) (n := 8) (by decide +kernel) hr
theorem ty_207_s0 {h : bH} (ht : TH h) {j r : Nat} (e : j = 0 + 1 * r) (hr : r < 8) : (0) ≤ h 207 j ∧ h 207 j ≤ 40 := by
  subst e
  exact ht.s2 (s := 0) (st := 1) (n := 8) (by decide +kernel) hr
theorem ty_3_s0 {h : bH} (ht : TH h) {j r : Nat} (e : j = 0 + 1 * r) (hr : r < 16) : (0) ≤ h 3 j ∧ h 3 j ≤ 7 := by
  subst e
  exact ht.s2 (s := 0) (st := 1) (n := 16) (by decide +kernel) hr
theorem ty_5_s0 {h : bH} (ht : TH h) {j r : Nat} (e : j = 0 + 1 * r) (hr : r < 16) : (0) ≤ h 5 j ∧ h 5 j ≤ 9 := by
  subst e
  exact ht.s2 (s := 0) (st := 1) (n := 16) (by decide +kernel) hr
theorem ty_8_s0 {h : bH} (ht : TH h) {j r : Nat} (e : j = 0 + 1 * r) (hr : r < 16) : (0) ≤ h 8 j ∧ h 8 j ≤ 9 := by
  subst e
  exact ht.s2 (s := 0) (st := 1) (n := 16) (by decide +kernel) hr
theorem ty_4_s0 {h : bH} (ht : TH h) {j r : Nat} (e : j = 0 + 1 * r) (hr : r < 16) : (0) ≤ h 4 j ∧ h 4 j ≤ 4095 := by
  subst e
  exact ht.s2 (s := 0) (st := 1) (n := 16) (by decide +kernel) hr
theorem ty_6_s0 {h : bH} (ht : TH h) {j r : Nat} (e : j = 0 + 1 * r) (hr : r < 16) : (-2147483648) ≤ h 6 j ∧ h 6 j ≤ 2147483647 := by
  subst e
  exact ht.s2 (s := 0) (st := 1) (n := 16) (by decide +kernel) hr
theorem ty_7_s0 {h : bH} (ht : TH h) {j r : Nat} (e : j = 0 + 1 * r) (hr : r < 16) : (-1000) ≤ h 7 j ∧ h 7 j ≤ 999 := by
  subst e
  exact ht.s2 (s := 0) (st := 1) (n := 16) (by decide +kernel) hr
theorem ty_9_s0 {h : bH} (ht : TH h) {j r : Nat} (e : j = 0 + 1 * r) (hr : r < 16) : (-1) ≤ h 9 j ∧ h 9 j ≤ 7 := by
  subst e
  exact ht.s2 (s := 0) (st := 1) (n := 16) (by decide +kernel) hr
theorem ty_194_s16 {h : bH} (ht : TH h) {j r : Nat} (e : j = 16 + 8 * r) (hr : r < 16) : (0) ≤ h 194 j ∧ h 194 j ≤ 7 := by
  subst e
  exact ht.s2 (s := 16) (st := 8) (n := 16) (by decide +kernel) hr
theorem ty_194_s17 {h : bH} (ht : TH h) {j r : Nat} (e : j = 17 + 8 * r) (hr : r < 16) : (0) ≤ h 194 j ∧ h 194 j ≤ 9 := by
  subst e
  exact ht.s2 (s := 17) (st := 8) (n := 16) (by decide +kernel) hr
theorem ty_194_s18 {h : bH} (ht : TH h) {j r : Nat} (e : j = 18 + 8 * r) (hr : r < 16) : (0) ≤ h 194 j ∧ h 194 j ≤ 9 := by
  subst e
  exact ht.s2 (s := 18) (st := 8) (n := 16) (by decide +kernel) hr
theorem ty_194_s19 {h : bH} (ht : TH h) {j r : Nat} (e : j = 19 + 8 * r) (hr : r < 16) : (-2147483648) ≤ h 194 j ∧ h 194 j ≤ 2147483647 := by
  subst e
  exact ht.s2 (s := 19) (st := 8) (n := 16) (by decide +kernel) hr
theorem ty_194_s20 {h : bH} (ht : TH h) {j r : Nat} (e : j = 20 + 8 * r) (hr : r < 16) : (-2147483648) ≤ h 194 j ∧ h 194 j ≤ 2147483647 := by
  subst e
  exact ht.s2 (s := 20) (st := 8) (n := 16) (by decide +kernel) hr
theorem ty_194_s21 {h : bH} (ht : TH h) {j r : Nat} (e : j = 21 + 8 * r) (hr : r < 16) : (-2147483648) ≤ h 194 j ∧ h 194 j ≤ 2147483647 := by
  subst e
  exact ht.s2 (s := 21) (st := 8) (n := 16) (by decide +kernel) hr
theorem ty_194_s22 {h : bH} (ht : TH h) {j r : Nat} (e : j = 22 + 8 * r) (hr : r < 16) : (-2147483648) ≤ h 194 j ∧ h 194 j ≤ 2147483647 := by
  subst e
  exact ht.s2 (s := 22) (st := 8) (n := 16) (by decide +kernel) hr
theorem ty_194_s23 {h : bH} (ht : TH h) {j r : Nat} (e : j = 23 + 8 * r) (hr : r < 16) : (-2147483648) ≤ h 194 j ∧ h 194 j ≤ 2147483647 := by
  subst e
  exact ht.s2 (s := 23) (st := 8) (n := 16) (by decide +kernel) hr
theorem ty_2_c0 {h : bH} (ht : TH h) : (0) ≤ h 2 0 ∧ h 2 0 ≤ 239 := ht.c (by decide +kernel)
theorem ty_194_c0 {h : bH} (ht : TH h) : (0) ≤ h 194 0 ∧ h 194 0 ≤ 239 := ht.c (by decide +kernel)
theorem ty_2_c12 {h : bH} (ht : TH h) : (-2147483648) ≤ h 2 12 ∧ h 2 12 ≤ 2147483647 := ht.c (by decide +kernel)
theorem ty_10_s0 {h : bH} (ht : TH h) {j r : Nat} (e : j = 0 + 1 * r) (hr : r < 20) : (0) ≤ h 10 j ∧ h 10 j ≤ 15 := by
  subst e
  exact ht.s2 (s := 0) (st := 1) (n := 20) (by decide +kernel) hr
theorem ty_11_s0 {h : bH} (ht : TH h) {j r : Nat} (e : j = 0 + 1 * r) (hr : r < 20) : (0) ≤ h 11 j ∧ h 11 j ≤ 239 := by
  subst e
  exact ht.s2 (s := 0) (st := 1) (n := 20) (by decide +kernel) hr
theorem ty_194_s144 {h : bH} (ht : TH h) {j r : Nat} (e : j = 144 + 3 * r) (hr : r < 20) : (0) ≤ h 194 j ∧ h 194 j ≤ 239 := by
  subst e
  exact ht.s2 (s := 144) (st := 3) (n := 20) (by decide +kernel) hr
theorem ty_194_s145 {h : bH} (ht : TH h) {j r : Nat} (e : j = 145 + 3 * r) (hr : r < 20) : (0) ≤ h 194 j ∧ h 194 j ≤ 239 := by
  subst e
  exact ht.s2 (s := 145) (st := 3) (n := 20) (by decide +kernel) hr
theorem ty_194_s146 {h : bH} (ht : TH h) {j r : Nat} (e : j = 146 + 3 * r) (hr : r < 20) : (0) ≤ h 194 j ∧ h 194 j ≤ 239 := by
  subst e
  exact ht.s2 (s := 146) (st := 3) (n := 20) (by decide +kernel) hr
theorem ty_2_c9 {h : bH} (ht : TH h) : (-2147483648) ≤ h 2 9 ∧ h 2 9 ≤ 2147483647 := ht.c (by decide +kernel)
theorem ty_2_c10 {h : bH} (ht : TH h) : (-2147483648) ≤ h 2 10 ∧ h 2 10 ≤ 2147483647 := ht.c (by decide +kernel)
theorem ty_0_c2 {h : bH} (ht : TH h) : (0) ≤ h 0 2 ∧ h 0 2 ≤ 1 := ht.c (by decide +kernel)
/-! BITS OF AN INT -/
def bitB (x : Int) (i : Nat) : Bool := (Int32.ofInt x).toBitVec.getLsbD i
theorem obv (y : Int32) : (Int32.ofInt y.toInt).toBitVec = y.toBitVec := BitVec.ofInt_toInt
theorem bitB_or (x y : Int) (i : Nat) : bitB (orI x y) i = (bitB x i || bitB y i) := by
  unfold bitB orI
  rw [obv]
  show ((Int32.ofInt x).toBitVec ||| (Int32.ofInt y).toBitVec).getLsbD i = _
  rw [BitVec.getLsbD_or]
theorem bitB_and (x y : Int) (i : Nat) : bitB (andI x y) i = (bitB x i && bitB y i) := by
  unfold bitB andI
  rw [obv]
  show ((Int32.ofInt x).toBitVec &&& (Int32.ofInt y).toBitVec).getLsbD i = _
  rw [BitVec.getLsbD_and]
theorem bitB_xor (x y : Int) (i : Nat) : bitB (xorI x y) i = (bitB x i ^^ bitB y i) := by
  unfold bitB xorI
  rw [obv]
  show ((Int32.ofInt x).toBitVec ^^^ (Int32.ofInt y).toBitVec).getLsbD i = _
  rw [BitVec.getLsbD_xor]
theorem shl1_t : ∀ i : Fin 32, ∀ j : Fin 32, bitB (shlI 1 ((i.val : Nat) : Int)) j.val = decide (j.val = i.val) := by decide +kernel
theorem m1_t : ∀ j : Fin 32, bitB (-1) j.val = true := by decide +kernel
theorem bit_set {x : Int} {i j : Nat} (hi : i < 32) (hj : j < 32) : bitB (orI x (shlI 1 (i : Int))) j = (bitB x j || decide (j = i)) := by
  rw [bitB_or, shl1_t ⟨i, hi⟩ ⟨j, hj⟩]
theorem bit_clr {x : Int} {i j : Nat} (hi : i < 32) (hj : j < 32) : bitB (andI x (xorI (shlI 1 (i : Int)) (-1))) j = (bitB x j && !decide (j = i)) := by
  rw [bitB_and, bitB_xor, shl1_t ⟨i, hi⟩ ⟨j, hj⟩, m1_t ⟨j, hj⟩]
  simp
theorem sm32 : ∀ i : Fin 32, ((Int32.ofInt ((i.val : Nat) : Int) &&& 31).toBitVec.smod 32).toNat = i.val := by decide +kernel
theorem bit_sh {x : Int} {i : Nat} (hi : i < 32) : bitB (shrI x (i : Int)) 0 = bitB x i := by
  unfold bitB shrI
  rw [obv]
  show (BitVec.sshiftRight (Int32.ofInt x).toBitVec ((Int32.ofInt (i : Int) &&& 31).toBitVec.smod 32).toNat).getLsbD 0 = _
  rw [sm32 ⟨i, hi⟩, BitVec.getLsbD_sshiftRight]
  simp [hi]
theorem one_bv : (Int32.ofInt 1).toBitVec = BitVec.twoPow 32 0 := by decide
theorem and_one (x : Int) : andI x 1 = if bitB x 0 = true then 1 else 0 := by
  unfold andI bitB
  show ((Int32.ofInt x).toBitVec &&& (Int32.ofInt 1).toBitVec).toInt = _
  rw [one_bv, BitVec.and_twoPow]
  cases (Int32.ofInt x).toBitVec.getLsbD 0 <;> decide
/-- a bit, read -/
theorem bit_rd {x : Int} {i : Nat} (hi : i < 32) : andI (shrI x (i : Int)) 1 = if bitB x i = true then 1 else 0 := by
  rw [and_one, bit_sh hi]
theorem orI_in (x y : Int) : in32 (orI x y) := i32_in _
theorem andI_in (x y : Int) : in32 (andI x y) := i32_in _
theorem bitB_0 (i : Nat) : bitB 0 i = false := by
  unfold bitB
  rw [show (Int32.ofInt 0).toBitVec = 0#32 from by decide]
  exact BitVec.getLsbD_zero

/-! ROWS OF THE SHEETS: an array told by a number, fills, a negative dividend -/
def hz (h : bH) (A s n : Nat) : bH := fun a j => if a = A ∧ s ≤ j ∧ j < s + n then 0 else h a j
theorem hz_0 {h : bH} {A s : Nat} : hz h A s 0 = h := funext fun a => funext fun j => if_neg (fun e => by omega)
theorem hz_s {h : bH} {A s n : Nat} : hz (hup h A s 0) A (s + 1) n = hz h A s (n + 1) := funext fun a => funext fun j => by
  unfold hz hup
  by_cases e : a = A ∧ s + 1 ≤ j ∧ j < s + 1 + n
  · rw [if_pos e, if_pos ⟨e.1, by omega, by omega⟩]
  · rw [if_neg e]
    by_cases e2 : a = A ∧ j = s
    · rw [if_pos e2, if_pos ⟨e2.1, by omega, by omega⟩]
    · rw [if_neg e2, if_neg (fun w => by
        by_cases e3 : j = s
        · exact e2 ⟨w.1, e3⟩
        · exact e ⟨w.1, by omega, by omega⟩)]
theorem hz_ne {h : bH} {A s n b i : Nat} (hc : ¬ (b = A ∧ s ≤ i ∧ i < s + n)) : hz h A s n b i = h b i := if_neg hc
theorem hz_in {h : bH} {A s n i : Nat} (h1 : s ≤ i) (h2 : i < s + n) : hz h A s n A i = 0 := if_pos ⟨rfl, h1, h2⟩
theorem TH.hz {h : bH} (ht : TH h) {a s n : Nat} (hv : ∀ j, s ≤ j → j < s + n → j < (sh a).2 → (tyP (PofW gT none false) a j).1 ≤ 0 ∧ 0 ≤ (tyP (PofW gT none false) a j).2) : TH (hz h a s n) := fun a' j ha hj => by
  by_cases e : a' = a ∧ s ≤ j ∧ j < s + n
  · obtain ⟨rfl, e1, e2⟩ := e
    rw [hz_in e1 e2]
    exact hv j e1 e2 hj
  · rw [hz_ne e]
    exact ht a' j ha hj
theorem fr_hz {w : aW} {h h1 : bH} {A s n : Nat} (hq : ∀ a j, wrF w a j = false → h1 a j = h a j) (hi : ∀ j, s ≤ j → j < s + n → wrF w A j = true) : ∀ a j, wrF w a j = false → hz h1 A s n a j = h a j := fun a j e => by
  rw [hz_ne (fun q => by rw [q.1, hi j q.2.1 q.2.2] at e; cases e)]
  exact hq a j e
theorem h184 {h : bH} (hR : TR h) {s : Nat} (hs : s < 4) : h 184 s = ((185 + s : Nat) : Int) := by
  match s, hs with
  | 0, _ => exact hR (184, 0, 185) (by decide)
  | 1, _ => exact hR (184, 1, 186) (by decide)
  | 2, _ => exact hR (184, 2, 187) (by decide)
  | 3, _ => exact hR (184, 3, 188) (by decide)
theorem ar185 {s : Nat} (hs : s < 4) : arB 1 (185 + s) 40 = true := by
  match s, hs with
  | 0, _ => decide +kernel
  | 1, _ => decide +kernel
  | 2, _ => decide +kernel
  | 3, _ => decide +kernel
theorem ty185 {s : Nat} (hs : s < 4) {j : Nat} (hj : j < 40) : tyP (PofW gT none false) (185 + s) j = (-2147483648, 2147483647) := by
  have e : ∀ s : Fin 4, gT.2 (185 + s.val) = some (-2147483648, 2147483647) := by decide +kernel
  show (match gT.2 (185 + s) with
    | some r => r
    | none => gT.1 (185 + s) j) = _
  rw [e ⟨s, hs⟩]
theorem sh185 {s : Nat} (hs : s < 4) : 185 + s < 212 ∧ (sh (185 + s)).2 = 40 := by
  match s, hs with
  | 0, _ => decide +kernel
  | 1, _ => decide +kernel
  | 2, _ => decide +kernel
  | 3, _ => decide +kernel
theorem t185 {h : bH} (ht : TH h) {s i : Nat} (hs : s < 4) (hi : i < 40) : -2147483648 ≤ h (185 + s) i ∧ h (185 + s) i ≤ 2147483647 := by
  have := ht (185 + s) i (sh185 hs).1 (by rw [(sh185 hs).2]; exact hi)
  rw [ty185 hs hi] at this
  exact this
theorem up185 {h : bH} (ht : TH h) {s i : Nat} (hs : s < 4) (hi : i < 40) {v : Int} (hv : -2147483648 ≤ v ∧ v ≤ 2147483647) : TH (hup h (185 + s) i v) := ht.up (by rw [ty185 hs hi]; exact hv)
theorem TR_up {h : bH} (hR : TR h) {a j : Nat} {v : Int} (hn : (rfL.all fun q => !(q.1 == a && q.2.1 == j)) = true) : TR (hup h a j v) := fun q hq => by
  have := List.all_eq_true.mp hn q hq
  rw [Bool.not_eq_true', Bool.and_eq_false_iff] at this
  show (if q.1 = a ∧ q.2.1 = j then v else h q.1 q.2.1) = _
  rw [if_neg (fun e => by rcases this with w | w <;> simp [e.1, e.2] at w)]
  exact hR q hq
theorem rf185 : ∀ s : Fin 4, ∀ q ∈ rfL, q.1 ≠ 185 + s.val := by decide +kernel
theorem TR_185 {h : bH} (hR : TR h) {s j : Nat} {v : Int} (hs : s < 4) : TR (hup h (185 + s) j v) := fun q hq => by
  rw [hup_ne (rf185 ⟨s, hs⟩ q hq)]
  exact hR q hq
theorem TR_a {h : bH} (hR : TR h) {a j : Nat} {v : Int} (hn : (rfL.all fun q => !(q.1 == a)) = true) : TR (hup h a j v) := fun q hq => by
  have := List.all_eq_true.mp hn q hq
  rw [Bool.not_eq_true', beq_eq_false_iff_ne] at this
  rw [hup_ne this]
  exact hR q hq
theorem hz_w185 {w : List (Nat × Nat × Nat)} {s j : Nat} (hw : (185, 0, 40) ∈ w ∧ (186, 0, 40) ∈ w ∧ (187, 0, 40) ∈ w ∧ (188, 0, 40) ∈ w) (hs : s < 4) (hj : j < 40) : wrF (some w) (185 + s) j = true := by
  match s, hs with
  | 0, _ => exact wr_in hw.1 (Nat.zero_le _) hj
  | 1, _ => exact wr_in hw.2.1 (Nat.zero_le _) hj
  | 2, _ => exact wr_in hw.2.2.1 (Nat.zero_le _) hj
  | 3, _ => exact wr_in hw.2.2.2 (Nat.zero_le _) hj
theorem divI_n {x y : Int} (hx : x < 0) (h2 : -2147483648 ≤ x) (hy : 0 < y) : divI x y = some (-((-x) / y)) := by
  unfold divI
  rw [if_neg (by omega)]
  have e : x.tdiv y = -((-x) / y) := by
    rw [show x = -(-x) by omega, Int.neg_tdiv, Int.tdiv_eq_ediv_of_nonneg (by omega)]
    simp
  rw [e]
  have h3 := Int.ediv_nonneg (a := -x) (b := y) (by omega) (by omega)
  have h4 : (-x) / y ≤ -x := Int.ediv_le_self y (by omega)
  rw [w32_e ⟨by omega, by omega⟩ rfl]
theorem remI_n {x y : Int} (hx : x < 0) (hy : 0 < y) : remI x y = some (-((-x) % y)) := by
  unfold remI
  rw [if_neg (by omega)]
  rw [show x = -(-x) by omega, Int.neg_tmod, Int.tmod_eq_emod_of_nonneg (by omega)]
  simp
theorem w64_e {x z : Int} (h : -9223372036854775808 ≤ z ∧ z ≤ 9223372036854775807) (e : x = z) : w64 x = z := by
  rw [e]
  exact w64_id h
theorem divL_p {x y : Int} (hx : 0 ≤ x) (h2 : x ≤ 9223372036854775807) (hy : 0 < y) : divL x y = some (x / y) := by
  unfold divL
  rw [if_neg (by omega), Int.tdiv_eq_ediv_of_nonneg hx]
  have h3 := Int.ediv_nonneg hx (Int.le_of_lt hy)
  have h4 : x / y ≤ x := Int.ediv_le_self y hx
  rw [w64_e ⟨by omega, by omega⟩ rfl]
theorem remL_p {x y : Int} (hx : 0 ≤ x) (hy : 0 < y) : remL x y = some (x % y) := by
  unfold remL
  rw [if_neg (by omega), Int.tmod_eq_emod_of_nonneg hx]
theorem sB_x {a s n : Nat} {lo hi : Int} (hb : sB a s n lo hi = true) {j : Nat} (h1 : s ≤ j) (h2 : j < s + n) : tyP (PofW gT none false) a j = (lo, hi) := by
  have := List.all_eq_true.mp hb (j - s) (List.mem_range.mpr (by omega))
  rw [show s + (j - s) = j by omega] at this
  unfold cB at this
  simp only [Bool.and_eq_true, decide_eq_true_eq] at this
  exact this.2.2
theorem sB_x2 {h : bH} (ht : TH h) {a n : Nat} (hb : sB a 0 n (-2147483648) 2147483647 = true) {j : Nat} (h2 : j < n) : -2147483648 ≤ h a j ∧ h a j ≤ 2147483647 := ht.s hb (Nat.zero_le _) (by omega)
theorem up208 {h : bH} (ht : TH h) {j : Nat} (hj : j < 320) {v : Int} (hv : -2147483648 ≤ v ∧ v ≤ 2147483647) : TH (hup h 208 j v) := ht.up (by
  rw [sB_x (a := 208) (s := 0) (n := 320) (lo := -2147483648) (hi := 2147483647) (by decide +kernel) (Nat.zero_le j) (by omega)]
  exact hv)

theorem m_in (hB : BytesOK) {g : bG} {l : Launch} {d : Nat} {Q : bQ} {h : bH} {x lo hi : Int} (h1 : lo ≤ x ∧ x ≤ hi → Q (some (0, 1)) h) (h0 : ¬ (lo ≤ x ∧ x ≤ hi) → Q (some (0, 0)) h) : MH g l d 184 212 212 [(0, x), (0, lo), (0, hi)] h Q := by
  refine mh_go hB mg184 ml184 (Nat.le_of_ble_eq_true rfl) ?_
  show HW g l d 184 _ _ 0 [(0, (0, (x))), (1, (0, (lo))), (2, (0, (hi)))] [] h
  refine w_pl (pc' := 1) (lv' := [(0, (0, (x))), (1, (0, (lo))), (2, (0, (hi)))]) (st' := [(0, (x))]) (h' := h) (o184_0 hB) rfl ?_
  refine w_pl (pc' := 2) (lv' := [(0, (0, (x))), (1, (0, (lo))), (2, (0, (hi)))]) (st' := [(0, (lo)), (0, (x))]) (h' := h) (o184_1 hB) rfl ?_
  refine w_icmp (pt := 14) (pf := 5) (o184_2 hB) (by decide) rfl (fun e => ?_) (fun e => ?_)
  · have f1 : ((x) < (lo)) := e
    refine w_pl (pc' := 15) (lv' := [(0, (0, (x))), (1, (0, (lo))), (2, (0, (hi)))]) (st' := [(0, ((0 : Nat) : Int))]) (h' := h) (o184_8 hB) rfl ?_
    exact w_zret (o184_9 hB) mr184 (by decide) (h0 (by omega))
  · have f2 : ¬ ((x) < (lo)) := e
    refine w_pl (pc' := 6) (lv' := [(0, (0, (x))), (1, (0, (lo))), (2, (0, (hi)))]) (st' := [(0, (x))]) (h' := h) (o184_3 hB) rfl ?_
    refine w_pl (pc' := 7) (lv' := [(0, (0, (x))), (1, (0, (lo))), (2, (0, (hi)))]) (st' := [(0, (hi)), (0, (x))]) (h' := h) (o184_4 hB) rfl ?_
    refine w_icmp (pt := 14) (pf := 10) (o184_5 hB) (by decide) rfl (fun e => ?_) (fun e => ?_)
    · have f3 : ((hi) < (x)) := e
      refine w_pl (pc' := 15) (lv' := [(0, (0, (x))), (1, (0, (lo))), (2, (0, (hi)))]) (st' := [(0, ((0 : Nat) : Int))]) (h' := h) (o184_8 hB) rfl ?_
      exact w_zret (o184_9 hB) mr184 (by decide) (h0 (by omega))
    · have f4 : ¬ ((hi) < (x)) := e
      refine w_pl (pc' := 11) (lv' := [(0, (0, (x))), (1, (0, (lo))), (2, (0, (hi)))]) (st' := [(0, ((1 : Nat) : Int))]) (h' := h) (o184_6 hB) rfl ?_
      refine w_goto (pt := 15) (o184_7 hB) (by decide) ?_
      exact w_zret (o184_9 hB) mr184 (by decide) (h1 (by omega))
theorem m_isMonthM (hB : BytesOK) {g : bG} {l : Launch} {d : Nat} {Q : bQ} {h : bH} {x : Int} (h1 : 0 ≤ x ∧ x ≤ 239 → Q (some (0, 1)) h) (h0 : ¬ (0 ≤ x ∧ x ≤ 239) → Q (some (0, 0)) h) : MH g l (d + 1) 185 212 212 [(0, x)] h Q := by
  refine mh_go hB mg185 ml185 (Nat.le_of_ble_eq_true rfl) ?_
  show HW g l (d + 1) 185 _ _ 0 [(0, (0, (x)))] [] h
  refine w_pl (pc' := 1) (lv' := [(0, (0, (x)))]) (st' := [(0, (x))]) (h' := h) (o185_0 hB) rfl ?_
  refine w_pl (pc' := 2) (lv' := [(0, (0, (x)))]) (st' := [(0, ((0 : Nat) : Int)), (0, (x))]) (h' := h) (o185_1 hB) rfl ?_
  refine w_pl (pc' := 5) (lv' := [(0, (0, (x)))]) (st' := [(0, ((239 : Nat) : Int)), (0, ((0 : Nat) : Int)), (0, (x))]) (h' := h) (o185_2 hB) rfl ?_
  refine w_callS (as := [(0, (x)), (0, ((0 : Nat) : Int)), (0, ((239 : Nat) : Int))]) (rest := []) (n := 3) (pc' := 8) hB (o185_3 hB) rfl (by decide +kernel) rfl rfl (Nat.le_of_ble_eq_true rfl) (m_in hB (fun f5 => ?_) (fun f6 => ?_))
  · show HW g l _ 185 _ _ 8 [(0, (0, (x)))] [(0, ((1 : Nat) : Int))] h
    exact w_zret (o185_4 hB) mr185 (by decide) (h1 (by omega))
  · show HW g l _ 185 _ _ 8 [(0, (0, (x)))] [(0, ((0 : Nat) : Int))] h
    exact w_zret (o185_4 hB) mr185 (by decide) (h0 (by omega))
theorem m_isMonthB (hB : BytesOK) {g : bG} {l : Launch} {d : Nat} {Q : bQ} {h : bH} {x : Int} (h1 : 0 ≤ x ∧ x ≤ 239 → Q (some (0, 1)) h) (h0 : ¬ (0 ≤ x ∧ x ≤ 239) → Q (some (0, 0)) h) : MH g l d 171 212 212 [(0, x)] h Q := by
  refine mh_go hB mg171 ml171 (Nat.le_of_ble_eq_true rfl) ?_
  show HW g l d 171 _ _ 0 [(0, (0, (x)))] [] h
  refine w_pl (pc' := 1) (lv' := [(0, (0, (x)))]) (st' := [(0, (x))]) (h' := h) (o171_0 hB) rfl ?_
  refine w_ifc (pt := 15) (pf := 4) (o171_1 hB) (by decide) rfl (fun e => ?_) (fun e => ?_)
  · have f7 : ((x) < (0)) := e
    refine w_pl (pc' := 16) (lv' := [(0, (0, (x)))]) (st' := [(0, ((0 : Nat) : Int))]) (h' := h) (o171_7 hB) rfl ?_
    exact w_zret (o171_8 hB) mr171 (by decide) (h0 (by omega))
  · have f8 : ¬ ((x) < (0)) := e
    refine w_pl (pc' := 5) (lv' := [(0, (0, (x)))]) (st' := [(0, (x))]) (h' := h) (o171_2 hB) rfl ?_
    refine w_pl (pc' := 8) (lv' := [(0, (0, (x)))]) (st' := [(0, ((240 : Nat) : Int)), (0, (x))]) (h' := h) (o171_3 hB) rfl ?_
    refine w_icmp (pt := 15) (pf := 11) (o171_4 hB) (by decide) rfl (fun e => ?_) (fun e => ?_)
    · have f9 : (((240 : Nat) : Int) ≤ (x)) := e
      refine w_pl (pc' := 16) (lv' := [(0, (0, (x)))]) (st' := [(0, ((0 : Nat) : Int))]) (h' := h) (o171_7 hB) rfl ?_
      exact w_zret (o171_8 hB) mr171 (by decide) (h0 (by omega))
    · have f10 : ¬ (((240 : Nat) : Int) ≤ (x)) := e
      refine w_pl (pc' := 12) (lv' := [(0, (0, (x)))]) (st' := [(0, ((1 : Nat) : Int))]) (h' := h) (o171_5 hB) rfl ?_
      refine w_goto (pt := 16) (o171_6 hB) (by decide) ?_
      exact w_zret (o171_8 hB) mr171 (by decide) (h1 (by omega))
theorem m_isWhereM (hB : BytesOK) {g : bG} {l : Launch} {d : Nat} {Q : bQ} {h : bH} {x : Int} (z_x : in32 x) (h1 : 0 ≤ x ∧ x / 10000 < 6 ∧ x / 1000 % 10 < 4 ∧ x % 1000 < 240 → Q (some (0, 1)) h) (h0 : ¬ (0 ≤ x ∧ x / 10000 < 6 ∧ x / 1000 % 10 < 4 ∧ x % 1000 < 240) → Q (some (0, 0)) h) : MH g l (d + 1 + 1) 229 212 212 [(0, x)] h Q := by
  have z0_x := z_x
  unfold in32 at z0_x
  refine mh_go hB mg229 ml229 (Nat.le_of_ble_eq_true rfl) ?_
  show HW g l (d + 1 + 1) 229 _ _ 0 [(0, (0, (x)))] [] h
  refine w_pl (pc' := 1) (lv' := [(0, (0, (x)))]) (st' := [(0, (x))]) (h' := h) (o229_0 hB) rfl ?_
  refine w_pl (pc' := 2) (lv' := [(0, (0, (x)))]) (st' := [(0, ((0 : Nat) : Int)), (0, (x))]) (h' := h) (o229_1 hB) rfl ?_
  refine w_pl (pc' := 4) (lv' := [(0, (0, (x)))]) (st' := [(0, ((53239 : Nat) : Int)), (0, ((0 : Nat) : Int)), (0, (x))]) (h' := h) (o229_2 hB) rfl ?_
  refine w_callS (as := [(0, (x)), (0, ((0 : Nat) : Int)), (0, ((53239 : Nat) : Int))]) (rest := []) (n := 3) (pc' := 7) hB (o229_3 hB) rfl (by decide +kernel) rfl rfl (Nat.le_of_ble_eq_true rfl) (m_in hB (fun f11 => ?_) (fun f12 => ?_))
  · show HW g l _ 229 _ _ 7 [(0, (0, (x)))] [(0, ((1 : Nat) : Int))] h
    refine w_ifc (pt := 37) (pf := 10) (o229_4 hB) (by decide) rfl (fun e => ?_) (fun e => ?_)
    · have f13 : (((1 : Nat) : Int) = (0)) := e
      exfalso; omega
    · have f14 : ¬ (((1 : Nat) : Int) = (0)) := e
      refine w_pl (pc' := 11) (lv' := [(0, (0, (x)))]) (st' := [(0, (x))]) (h' := h) (o229_5 hB) rfl ?_
      refine w_pl (pc' := 14) (lv' := [(0, (0, (x)))]) (st' := [(0, ((1000 : Nat) : Int)), (0, (x))]) (h' := h) (o229_6 hB) rfl ?_
      refine w_idiv (z := ((x) / 1000)) (pc' := 15) (o229_7 hB) rfl (divI_p (by omega) (by omega) (by decide)) ?_
      refine w_pl (pc' := 17) (lv' := [(0, (0, (x)))]) (st' := [(0, ((10 : Nat) : Int)), (0, ((x) / 1000))]) (h' := h) (o229_8 hB) rfl ?_
      refine w_irem (z := (((x) / 1000) % 10)) (pc' := 18) (o229_9 hB) rfl (remI_p (by omega) (by decide)) ?_
      refine w_pl (pc' := 19) (lv' := [(0, (0, (x)))]) (st' := [(0, ((4 : Nat) : Int)), (0, (((x) / 1000) % 10))]) (h' := h) (o229_10 hB) rfl ?_
      refine w_icmp (pt := 37) (pf := 22) (o229_11 hB) (by decide) rfl (fun e => ?_) (fun e => ?_)
      · have f15 : (((4 : Nat) : Int) ≤ (((x) / 1000) % 10)) := e
        refine w_pl (pc' := 38) (lv' := [(0, (0, (x)))]) (st' := [(0, ((0 : Nat) : Int))]) (h' := h) (o229_19 hB) rfl ?_
        exact w_zret (o229_20 hB) mr229 (by decide) (h0 (by omega))
      · have f16 : ¬ (((4 : Nat) : Int) ≤ (((x) / 1000) % 10)) := e
        refine w_pl (pc' := 23) (lv' := [(0, (0, (x)))]) (st' := [(0, (x))]) (h' := h) (o229_12 hB) rfl ?_
        refine w_pl (pc' := 26) (lv' := [(0, (0, (x)))]) (st' := [(0, ((1000 : Nat) : Int)), (0, (x))]) (h' := h) (o229_13 hB) rfl ?_
        refine w_irem (z := ((x) % 1000)) (pc' := 27) (o229_14 hB) rfl (remI_p (by omega) (by decide)) ?_
        refine w_callS (as := [(0, ((x) % 1000))]) (rest := []) (n := 1) (pc' := 30) hB (o229_15 hB) rfl (by decide +kernel) rfl rfl (Nat.le_of_ble_eq_true rfl) (m_isMonthM hB (fun f17 => ?_) (fun f18 => ?_))
        · show HW g l _ 229 _ _ 30 [(0, (0, (x)))] [(0, ((1 : Nat) : Int))] h
          refine w_ifc (pt := 37) (pf := 33) (o229_16 hB) (by decide) rfl (fun e => ?_) (fun e => ?_)
          · have f19 : (((1 : Nat) : Int) = (0)) := e
            exfalso; omega
          · have f20 : ¬ (((1 : Nat) : Int) = (0)) := e
            refine w_pl (pc' := 34) (lv' := [(0, (0, (x)))]) (st' := [(0, ((1 : Nat) : Int))]) (h' := h) (o229_17 hB) rfl ?_
            refine w_goto (pt := 38) (o229_18 hB) (by decide) ?_
            exact w_zret (o229_20 hB) mr229 (by decide) (h1 (by omega))
        · show HW g l _ 229 _ _ 30 [(0, (0, (x)))] [(0, ((0 : Nat) : Int))] h
          refine w_ifc (pt := 37) (pf := 33) (o229_16 hB) (by decide) rfl (fun e => ?_) (fun e => ?_)
          · have f21 : (((0 : Nat) : Int) = (0)) := e
            refine w_pl (pc' := 38) (lv' := [(0, (0, (x)))]) (st' := [(0, ((0 : Nat) : Int))]) (h' := h) (o229_19 hB) rfl ?_
            exact w_zret (o229_20 hB) mr229 (by decide) (h0 (by omega))
          · have f22 : ¬ (((0 : Nat) : Int) = (0)) := e
            exfalso; omega
  · show HW g l _ 229 _ _ 7 [(0, (0, (x)))] [(0, ((0 : Nat) : Int))] h
    refine w_ifc (pt := 37) (pf := 10) (o229_4 hB) (by decide) rfl (fun e => ?_) (fun e => ?_)
    · have f23 : (((0 : Nat) : Int) = (0)) := e
      refine w_pl (pc' := 38) (lv' := [(0, (0, (x)))]) (st' := [(0, ((0 : Nat) : Int))]) (h' := h) (o229_19 hB) rfl ?_
      exact w_zret (o229_20 hB) mr229 (by decide) (h0 (by omega))
    · have f24 : ¬ (((0 : Nat) : Int) = (0)) := e
      exfalso; omega
theorem m_isWhereB (hB : BytesOK) {g : bG} {l : Launch} {d : Nat} {Q : bQ} {h : bH} {x : Int} (z_x : in32 x) (h1 : 0 ≤ x ∧ x / 10000 < 6 ∧ x / 1000 % 10 < 4 ∧ x % 1000 < 240 → Q (some (0, 1)) h) (h0 : ¬ (0 ≤ x ∧ x / 10000 < 6 ∧ x / 1000 % 10 < 4 ∧ x % 1000 < 240) → Q (some (0, 0)) h) : MH g l d 177 212 212 [(0, x)] h Q := by
  have z0_x := z_x
  unfold in32 at z0_x
  refine mh_go hB mg177 ml177 (Nat.le_of_ble_eq_true rfl) ?_
  show HW g l d 177 _ _ 0 [(0, (0, (x)))] [] h
  refine w_pl (pc' := 1) (lv' := [(0, (0, (x)))]) (st' := [(0, (x))]) (h' := h) (o177_0 hB) rfl ?_
  refine w_ifc (pt := 41) (pf := 4) (o177_1 hB) (by decide) rfl (fun e => ?_) (fun e => ?_)
  · have f25 : ((x) < (0)) := e
    refine w_pl (pc' := 42) (lv' := [(0, (0, (x)))]) (st' := [(0, ((0 : Nat) : Int))]) (h' := h) (o177_21 hB) rfl ?_
    exact w_zret (o177_22 hB) mr177 (by decide) (h0 (by omega))
  · have f26 : ¬ ((x) < (0)) := e
    refine w_pl (pc' := 5) (lv' := [(0, (0, (x)))]) (st' := [(0, (x))]) (h' := h) (o177_2 hB) rfl ?_
    refine w_pl (pc' := 8) (lv' := [(0, (0, (x)))]) (st' := [(0, ((10000 : Nat) : Int)), (0, (x))]) (h' := h) (o177_3 hB) rfl ?_
    refine w_idiv (z := ((x) / 10000)) (pc' := 9) (o177_4 hB) rfl (divI_p (by omega) (by omega) (by decide)) ?_
    refine w_pl (pc' := 11) (lv' := [(0, (0, (x)))]) (st' := [(0, ((6 : Nat) : Int)), (0, ((x) / 10000))]) (h' := h) (o177_5 hB) rfl ?_
    refine w_icmp (pt := 41) (pf := 14) (o177_6 hB) (by decide) rfl (fun e => ?_) (fun e => ?_)
    · have f27 : (((6 : Nat) : Int) ≤ ((x) / 10000)) := e
      refine w_pl (pc' := 42) (lv' := [(0, (0, (x)))]) (st' := [(0, ((0 : Nat) : Int))]) (h' := h) (o177_21 hB) rfl ?_
      exact w_zret (o177_22 hB) mr177 (by decide) (h0 (by omega))
    · have f28 : ¬ (((6 : Nat) : Int) ≤ ((x) / 10000)) := e
      refine w_pl (pc' := 15) (lv' := [(0, (0, (x)))]) (st' := [(0, (x))]) (h' := h) (o177_7 hB) rfl ?_
      refine w_pl (pc' := 18) (lv' := [(0, (0, (x)))]) (st' := [(0, ((1000 : Nat) : Int)), (0, (x))]) (h' := h) (o177_8 hB) rfl ?_
      refine w_idiv (z := ((x) / 1000)) (pc' := 19) (o177_9 hB) rfl (divI_p (by omega) (by omega) (by decide)) ?_
      refine w_pl (pc' := 21) (lv' := [(0, (0, (x)))]) (st' := [(0, ((10 : Nat) : Int)), (0, ((x) / 1000))]) (h' := h) (o177_10 hB) rfl ?_
      refine w_irem (z := (((x) / 1000) % 10)) (pc' := 22) (o177_11 hB) rfl (remI_p (by omega) (by decide)) ?_
      refine w_pl (pc' := 23) (lv' := [(0, (0, (x)))]) (st' := [(0, ((4 : Nat) : Int)), (0, (((x) / 1000) % 10))]) (h' := h) (o177_12 hB) rfl ?_
      refine w_icmp (pt := 41) (pf := 26) (o177_13 hB) (by decide) rfl (fun e => ?_) (fun e => ?_)
      · have f29 : (((4 : Nat) : Int) ≤ (((x) / 1000) % 10)) := e
        refine w_pl (pc' := 42) (lv' := [(0, (0, (x)))]) (st' := [(0, ((0 : Nat) : Int))]) (h' := h) (o177_21 hB) rfl ?_
        exact w_zret (o177_22 hB) mr177 (by decide) (h0 (by omega))
      · have f30 : ¬ (((4 : Nat) : Int) ≤ (((x) / 1000) % 10)) := e
        refine w_pl (pc' := 27) (lv' := [(0, (0, (x)))]) (st' := [(0, (x))]) (h' := h) (o177_14 hB) rfl ?_
        refine w_pl (pc' := 30) (lv' := [(0, (0, (x)))]) (st' := [(0, ((1000 : Nat) : Int)), (0, (x))]) (h' := h) (o177_15 hB) rfl ?_
        refine w_irem (z := ((x) % 1000)) (pc' := 31) (o177_16 hB) rfl (remI_p (by omega) (by decide)) ?_
        refine w_pl (pc' := 34) (lv' := [(0, (0, (x)))]) (st' := [(0, ((240 : Nat) : Int)), (0, ((x) % 1000))]) (h' := h) (o177_17 hB) rfl ?_
        refine w_icmp (pt := 41) (pf := 37) (o177_18 hB) (by decide) rfl (fun e => ?_) (fun e => ?_)
        · have f31 : (((240 : Nat) : Int) ≤ ((x) % 1000)) := e
          refine w_pl (pc' := 42) (lv' := [(0, (0, (x)))]) (st' := [(0, ((0 : Nat) : Int))]) (h' := h) (o177_21 hB) rfl ?_
          exact w_zret (o177_22 hB) mr177 (by decide) (h0 (by omega))
        · have f32 : ¬ (((240 : Nat) : Int) ≤ ((x) % 1000)) := e
          refine w_pl (pc' := 38) (lv' := [(0, (0, (x)))]) (st' := [(0, ((1 : Nat) : Int))]) (h' := h) (o177_19 hB) rfl ?_
          refine w_goto (pt := 42) (o177_20 hB) (by decide) ?_
          exact w_zret (o177_22 hB) mr177 (by decide) (h1 (by omega))
theorem m_isFourM (hB : BytesOK) {g : bG} {l : Launch} {d : Nat} {Q : bQ} {h : bH} {x : Int} (h1 : 0 ≤ x ∧ x ≤ 3 → Q (some (0, 1)) h) (h0 : ¬ (0 ≤ x ∧ x ≤ 3) → Q (some (0, 0)) h) : MH g l (d + 1) 271 212 212 [(0, x)] h Q := by
  refine mh_go hB mg271 ml271 (Nat.le_of_ble_eq_true rfl) ?_
  show HW g l (d + 1) 271 _ _ 0 [(0, (0, (x)))] [] h
  refine w_pl (pc' := 1) (lv' := [(0, (0, (x)))]) (st' := [(0, (x))]) (h' := h) (o271_0 hB) rfl ?_
  refine w_pl (pc' := 2) (lv' := [(0, (0, (x)))]) (st' := [(0, ((0 : Nat) : Int)), (0, (x))]) (h' := h) (o271_1 hB) rfl ?_
  refine w_pl (pc' := 3) (lv' := [(0, (0, (x)))]) (st' := [(0, ((3 : Nat) : Int)), (0, ((0 : Nat) : Int)), (0, (x))]) (h' := h) (o271_2 hB) rfl ?_
  refine w_callS (as := [(0, (x)), (0, ((0 : Nat) : Int)), (0, ((3 : Nat) : Int))]) (rest := []) (n := 3) (pc' := 6) hB (o271_3 hB) rfl (by decide +kernel) rfl rfl (Nat.le_of_ble_eq_true rfl) (m_in hB (fun f33 => ?_) (fun f34 => ?_))
  · show HW g l _ 271 _ _ 6 [(0, (0, (x)))] [(0, ((1 : Nat) : Int))] h
    exact w_zret (o271_4 hB) mr271 (by decide) (h1 (by omega))
  · show HW g l _ 271 _ _ 6 [(0, (0, (x)))] [(0, ((0 : Nat) : Int))] h
    exact w_zret (o271_4 hB) mr271 (by decide) (h0 (by omega))
theorem m_isSheetB (hB : BytesOK) {g : bG} {l : Launch} {d : Nat} {Q : bQ} {h : bH} {x : Int} (h1 : 0 ≤ x ∧ x ≤ 3 → Q (some (0, 1)) h) (h0 : ¬ (0 ≤ x ∧ x ≤ 3) → Q (some (0, 0)) h) : MH g l d 175 212 212 [(0, x)] h Q := by
  refine mh_go hB mg175 ml175 (Nat.le_of_ble_eq_true rfl) ?_
  show HW g l d 175 _ _ 0 [(0, (0, (x)))] [] h
  refine w_pl (pc' := 1) (lv' := [(0, (0, (x)))]) (st' := [(0, (x))]) (h' := h) (o175_0 hB) rfl ?_
  refine w_ifc (pt := 13) (pf := 4) (o175_1 hB) (by decide) rfl (fun e => ?_) (fun e => ?_)
  · have f35 : ((x) < (0)) := e
    refine w_pl (pc' := 14) (lv' := [(0, (0, (x)))]) (st' := [(0, ((0 : Nat) : Int))]) (h' := h) (o175_7 hB) rfl ?_
    exact w_zret (o175_8 hB) mr175 (by decide) (h0 (by omega))
  · have f36 : ¬ ((x) < (0)) := e
    refine w_pl (pc' := 5) (lv' := [(0, (0, (x)))]) (st' := [(0, (x))]) (h' := h) (o175_2 hB) rfl ?_
    refine w_pl (pc' := 6) (lv' := [(0, (0, (x)))]) (st' := [(0, ((4 : Nat) : Int)), (0, (x))]) (h' := h) (o175_3 hB) rfl ?_
    refine w_icmp (pt := 13) (pf := 9) (o175_4 hB) (by decide) rfl (fun e => ?_) (fun e => ?_)
    · have f37 : (((4 : Nat) : Int) ≤ (x)) := e
      refine w_pl (pc' := 14) (lv' := [(0, (0, (x)))]) (st' := [(0, ((0 : Nat) : Int))]) (h' := h) (o175_7 hB) rfl ?_
      exact w_zret (o175_8 hB) mr175 (by decide) (h0 (by omega))
    · have f38 : ¬ (((4 : Nat) : Int) ≤ (x)) := e
      refine w_pl (pc' := 10) (lv' := [(0, (0, (x)))]) (st' := [(0, ((1 : Nat) : Int))]) (h' := h) (o175_5 hB) rfl ?_
      refine w_goto (pt := 14) (o175_6 hB) (by decide) ?_
      exact w_zret (o175_8 hB) mr175 (by decide) (h1 (by omega))
theorem m_isStepsM (hB : BytesOK) {g : bG} {l : Launch} {d : Nat} {Q : bQ} {h : bH} {x : Int} (h1 : 1 ≤ x ∧ x ≤ 4095 → Q (some (0, 1)) h) (h0 : ¬ (1 ≤ x ∧ x ≤ 4095) → Q (some (0, 0)) h) : MH g l (d + 1) 188 212 212 [(0, x)] h Q := by
  refine mh_go hB mg188 ml188 (Nat.le_of_ble_eq_true rfl) ?_
  show HW g l (d + 1) 188 _ _ 0 [(0, (0, (x)))] [] h
  refine w_pl (pc' := 1) (lv' := [(0, (0, (x)))]) (st' := [(0, (x))]) (h' := h) (o188_0 hB) rfl ?_
  refine w_pl (pc' := 2) (lv' := [(0, (0, (x)))]) (st' := [(0, ((1 : Nat) : Int)), (0, (x))]) (h' := h) (o188_1 hB) rfl ?_
  refine w_pl (pc' := 5) (lv' := [(0, (0, (x)))]) (st' := [(0, ((4095 : Nat) : Int)), (0, ((1 : Nat) : Int)), (0, (x))]) (h' := h) (o188_2 hB) rfl ?_
  refine w_callS (as := [(0, (x)), (0, ((1 : Nat) : Int)), (0, ((4095 : Nat) : Int))]) (rest := []) (n := 3) (pc' := 8) hB (o188_3 hB) rfl (by decide +kernel) rfl rfl (Nat.le_of_ble_eq_true rfl) (m_in hB (fun f39 => ?_) (fun f40 => ?_))
  · show HW g l _ 188 _ _ 8 [(0, (0, (x)))] [(0, ((1 : Nat) : Int))] h
    exact w_zret (o188_4 hB) mr188 (by decide) (h1 (by omega))
  · show HW g l _ 188 _ _ 8 [(0, (0, (x)))] [(0, ((0 : Nat) : Int))] h
    exact w_zret (o188_4 hB) mr188 (by decide) (h0 (by omega))
theorem m_isStepsB (hB : BytesOK) {g : bG} {l : Launch} {d : Nat} {Q : bQ} {h : bH} {x : Int} (h1 : 1 ≤ x ∧ x ≤ 4095 → Q (some (0, 1)) h) (h0 : ¬ (1 ≤ x ∧ x ≤ 4095) → Q (some (0, 0)) h) : MH g l d 174 212 212 [(0, x)] h Q := by
  refine mh_go hB mg174 ml174 (Nat.le_of_ble_eq_true rfl) ?_
  show HW g l d 174 _ _ 0 [(0, (0, (x)))] [] h
  refine w_pl (pc' := 1) (lv' := [(0, (0, (x)))]) (st' := [(0, (x))]) (h' := h) (o174_0 hB) rfl ?_
  refine w_ifc (pt := 15) (pf := 4) (o174_1 hB) (by decide) rfl (fun e => ?_) (fun e => ?_)
  · have f41 : ((x) ≤ (0)) := e
    refine w_pl (pc' := 16) (lv' := [(0, (0, (x)))]) (st' := [(0, ((0 : Nat) : Int))]) (h' := h) (o174_7 hB) rfl ?_
    exact w_zret (o174_8 hB) mr174 (by decide) (h0 (by omega))
  · have f42 : ¬ ((x) ≤ (0)) := e
    refine w_pl (pc' := 5) (lv' := [(0, (0, (x)))]) (st' := [(0, (x))]) (h' := h) (o174_2 hB) rfl ?_
    refine w_pl (pc' := 8) (lv' := [(0, (0, (x)))]) (st' := [(0, ((4096 : Nat) : Int)), (0, (x))]) (h' := h) (o174_3 hB) rfl ?_
    refine w_icmp (pt := 15) (pf := 11) (o174_4 hB) (by decide) rfl (fun e => ?_) (fun e => ?_)
    · have f43 : (((4096 : Nat) : Int) ≤ (x)) := e
      refine w_pl (pc' := 16) (lv' := [(0, (0, (x)))]) (st' := [(0, ((0 : Nat) : Int))]) (h' := h) (o174_7 hB) rfl ?_
      exact w_zret (o174_8 hB) mr174 (by decide) (h0 (by omega))
    · have f44 : ¬ (((4096 : Nat) : Int) ≤ (x)) := e
      refine w_pl (pc' := 12) (lv' := [(0, (0, (x)))]) (st' := [(0, ((1 : Nat) : Int))]) (h' := h) (o174_5 hB) rfl ?_
      refine w_goto (pt := 16) (o174_6 hB) (by decide) ?_
      exact w_zret (o174_8 hB) mr174 (by decide) (h1 (by omega))
theorem l_shB (hB : BytesOK) {g : bG} {l : Launch} {d : Nat} {Q : bQ} {s' : Nat} (hs : s' < 4) {t n0 : Int} : ∀ (n b : Nat) (h : bH), b + n = 40 → TR h → Q (some (0, 1)) (hz h (185 + s') (b) n) → HW g l d 68 212 Q 65 [(4, (0, ((b : Nat) : Int))), (0, (2, ((181 : Nat) : Int))), (1, (0, ((s' : Nat) : Int))), (2, (0, (t))), (3, (0, (n0)))] [] h := by
  intro n
  induction n with
  | zero =>
    intro b h hb hR hq
    rw [hz_0] at hq
    refine w_pl (pc' := 67) (lv' := [(4, (0, ((b : Nat) : Int))), (0, (2, ((181 : Nat) : Int))), (1, (0, ((s' : Nat) : Int))), (2, (0, (t))), (3, (0, (n0)))]) (st' := [(0, ((b : Nat) : Int))]) (h' := h) (o68_38 hB) rfl ?_
    refine w_pl (pc' := 69) (lv' := [(4, (0, ((b : Nat) : Int))), (0, (2, ((181 : Nat) : Int))), (1, (0, ((s' : Nat) : Int))), (2, (0, (t))), (3, (0, (n0)))]) (st' := [(0, ((40 : Nat) : Int)), (0, ((b : Nat) : Int))]) (h' := h) (o68_39 hB) rfl ?_
    refine w_icmp (pt := 88) (pf := 72) (o68_40 hB) (by decide) rfl (fun e => ?_) (fun e => ?_)
    · have f45 : (((40 : Nat) : Int) ≤ ((b : Nat) : Int)) := e
      refine w_pl (pc' := 89) (lv' := [(4, (0, ((b : Nat) : Int))), (0, (2, ((181 : Nat) : Int))), (1, (0, ((s' : Nat) : Int))), (2, (0, (t))), (3, (0, (n0)))]) (st' := [(0, ((1 : Nat) : Int))]) (h' := h) (o68_50 hB) rfl ?_
      exact w_iret (o68_51 hB) mr68 (by unfold in32; omega) hq
    · have f46 : ¬ (((40 : Nat) : Int) ≤ ((b : Nat) : Int)) := e
      exfalso; omega
  | succ n ih =>
    intro b h hb hR hq
    refine w_pl (pc' := 67) (lv' := [(4, (0, ((b : Nat) : Int))), (0, (2, ((181 : Nat) : Int))), (1, (0, ((s' : Nat) : Int))), (2, (0, (t))), (3, (0, (n0)))]) (st' := [(0, ((b : Nat) : Int))]) (h' := h) (o68_38 hB) rfl ?_
    refine w_pl (pc' := 69) (lv' := [(4, (0, ((b : Nat) : Int))), (0, (2, ((181 : Nat) : Int))), (1, (0, ((s' : Nat) : Int))), (2, (0, (t))), (3, (0, (n0)))]) (st' := [(0, ((40 : Nat) : Int)), (0, ((b : Nat) : Int))]) (h' := h) (o68_39 hB) rfl ?_
    refine w_icmp (pt := 88) (pf := 72) (o68_40 hB) (by decide) rfl (fun e => ?_) (fun e => ?_)
    · have f47 : (((40 : Nat) : Int) ≤ ((b : Nat) : Int)) := e
      exfalso; omega
    · have f48 : ¬ (((40 : Nat) : Int) ≤ ((b : Nat) : Int)) := e
      refine w_pl (pc' := 73) (lv' := [(4, (0, ((b : Nat) : Int))), (0, (2, ((181 : Nat) : Int))), (1, (0, ((s' : Nat) : Int))), (2, (0, (t))), (3, (0, (n0)))]) (st' := [(2, ((181 : Nat) : Int))]) (h' := h) (o68_41 hB) rfl ?_
      refine w_getf (A := 181) (t := 2) (z := ((184 : Nat) : Int)) (pc' := 76) (o68_42 hB) rfl (by decide +kernel) (hR (181, 2, 184) (by decide)) ?_
      refine w_pl (pc' := 77) (lv' := [(4, (0, ((b : Nat) : Int))), (0, (2, ((181 : Nat) : Int))), (1, (0, ((s' : Nat) : Int))), (2, (0, (t))), (3, (0, (n0)))]) (st' := [(0, ((s' : Nat) : Int)), (2, ((184 : Nat) : Int))]) (h' := h) (o68_43 hB) rfl ?_
      refine w_aald (kd := 3) (A := 184) (i := s') (n := 4) (B := (185 + s')) (pc' := 78) (o68_44 hB) rfl rfl (by decide +kernel) (by omega) (h184 hR (by omega)) ?_
      refine w_pl (pc' := 80) (lv' := [(4, (0, ((b : Nat) : Int))), (0, (2, ((181 : Nat) : Int))), (1, (0, ((s' : Nat) : Int))), (2, (0, (t))), (3, (0, (n0)))]) (st' := [(0, ((b : Nat) : Int)), (2, (((185 + s') : Nat) : Int))]) (h' := h) (o68_45 hB) rfl ?_
      refine w_pl (pc' := 81) (lv' := [(4, (0, ((b : Nat) : Int))), (0, (2, ((181 : Nat) : Int))), (1, (0, ((s' : Nat) : Int))), (2, (0, (t))), (3, (0, (n0)))]) (st' := [(1, ((0 : Nat) : Int)), (0, ((b : Nat) : Int)), (2, (((185 + s') : Nat) : Int))]) (h' := h) (o68_46 hB) rfl ?_
      refine w_last (A := (185 + s')) (i := b) (n := 40) (pc' := 82) (o68_47 hB) rfl (ar185 (by omega)) (by omega) ?_
      refine w_iinc (x := ((b : Nat) : Int)) (z := (((b + 1) : Nat) : Int)) (pc' := 85) (lv' := [(4, (0, (((b + 1) : Nat) : Int))), (0, (2, ((181 : Nat) : Int))), (1, (0, ((s' : Nat) : Int))), (2, (0, (t))), (3, (0, (n0)))]) (o68_48 hB) rfl rfl ml68 (by decide) (w32_e (by omega) (by omega)) rfl ?_
      refine w_goto (pt := 65) (o68_49 hB) (by decide) ?_
      refine w_sub (lv' := [(4, (0, (((b + 1) : Nat) : Int))), (0, (2, ((181 : Nat) : Int))), (1, (0, ((s' : Nat) : Int))), (2, (0, (t))), (3, (0, (n0)))]) (List.forall_mem_cons.mpr ⟨(List.Mem.head _), (List.forall_mem_cons.mpr ⟨(List.Mem.tail _ (List.Mem.head _)), (List.forall_mem_cons.mpr ⟨(List.Mem.tail _ (List.Mem.tail _ (List.Mem.head _))), (List.forall_mem_cons.mpr ⟨(List.Mem.tail _ (List.Mem.tail _ (List.Mem.tail _ (List.Mem.head _)))), (List.forall_mem_cons.mpr ⟨(List.Mem.tail _ (List.Mem.tail _ (List.Mem.tail _ (List.Mem.tail _ (List.Mem.head _))))), (fun _ hx => by cases hx)⟩)⟩)⟩)⟩)⟩) ?_
      refine ih (b + 1) _ (by omega) (TR_185 hR hs) ?_
      rw [show ((0 : Nat) : Int) = 0 from rfl, hz_s]
      exact hq
theorem m_shBecome (hB : BytesOK) {g : bG} {l : Launch} {d : Nat} {Q : bQ} {h : bH} {s t n : Int} (ht : TH h) (z_s : in32 s) (z_t : in32 t) (z_n : in32 n)  (a0 : ¬ ((0 ≤ s ∧ s ≤ 3) ∧ -1 ≤ t ∧ t ≤ 3 ∧ (0 ≤ t → n ≤ 40)) → Q (some (0, (-1))) h) (a1 : ((0 ≤ s ∧ s ≤ 3) ∧ -1 ≤ t ∧ t ≤ 3 ∧ (0 ≤ t → n ≤ 40)) ∧ 0 ≤ t ∧ n < 0 → Q (some (0, (-14))) h) (a2 : ((0 ≤ s ∧ s ≤ 3) ∧ -1 ≤ t ∧ t ≤ 3 ∧ (0 ≤ t → n ≤ 40)) ∧ t < 0 → Q (some (0, 1)) (hz (hup (hup h 182 ((s.toNat)) t) 183 ((s.toNat)) 0) (185 + (s.toNat)) (0) 40)) (a3 : ((0 ≤ s ∧ s ≤ 3) ∧ -1 ≤ t ∧ t ≤ 3 ∧ (0 ≤ t → n ≤ 40)) ∧ 0 ≤ t ∧ 0 ≤ n → Q (some (0, 1)) (hz (hup (hup h 182 ((s.toNat)) t) 183 ((s.toNat)) n) (185 + (s.toNat)) (0) 40)) : MH g l (d + 1) 68 212 212 [(2, ((181 : Nat) : Int)), (0, (s)), (0, (t)), (0, (n))] h Q := by
  have hR := ht.r
  have z0_s := z_s
  have z0_t := z_t
  have z0_n := z_n
  unfold in32 at z0_s
  unfold in32 at z0_t
  unfold in32 at z0_n
  rcases (by omega : ¬ (0 ≤ s ∧ s ≤ 3) ∨ (0 ≤ s ∧ s ≤ 3)) with gg | gg
  · skip
    refine mh_go hB mg68 ml68 (Nat.le_of_ble_eq_true rfl) ?_
    show HW g l (d + 1) 68 _ _ 0 [(0, (2, ((181 : Nat) : Int))), (1, (0, (s))), (2, (0, (t))), (3, (0, (n)))] [] h
    refine w_pl (pc' := 1) (lv' := [(0, (2, ((181 : Nat) : Int))), (1, (0, (s))), (2, (0, (t))), (3, (0, (n)))]) (st' := [(0, (s))]) (h' := h) (o68_0 hB) rfl ?_
    refine w_callS (as := [(0, (s))]) (rest := []) (n := 1) (pc' := 4) hB (o68_1 hB) rfl (by decide +kernel) rfl rfl (Nat.le_of_ble_eq_true rfl) (m_isSheetB hB (fun f77 => ?_) (fun f78 => ?_))
    · exfalso; omega
    · show HW g l _ 68 _ _ 4 [(0, (2, ((181 : Nat) : Int))), (1, (0, (s))), (2, (0, (t))), (3, (0, (n)))] [(0, ((0 : Nat) : Int))] h
      refine w_ifc (pt := 27) (pf := 7) (o68_2 hB) (by decide) rfl (fun e => ?_) (fun e => ?_)
      · have f79 : (((0 : Nat) : Int) = (0)) := e
        refine w_pl (pc' := 28) (lv' := [(0, (2, ((181 : Nat) : Int))), (1, (0, (s))), (2, (0, (t))), (3, (0, (n)))]) (st' := [(0, (-1))]) (h' := h) (o68_14 hB) rfl ?_
        exact w_iret (o68_15 hB) mr68 (by unfold in32; omega) (a0 (by omega))
      · have f80 : ¬ (((0 : Nat) : Int) = (0)) := e
        exfalso; omega
  · obtain ⟨s', e_s⟩ : ∃ q : Nat, s = q := ⟨s.toNat, by omega⟩
    subst e_s
    simp only [Int.toNat_natCast] at a2 a3
    refine mh_go hB mg68 ml68 (Nat.le_of_ble_eq_true rfl) ?_
    show HW g l (d + 1) 68 _ _ 0 [(0, (2, ((181 : Nat) : Int))), (1, (0, ((s' : Nat) : Int))), (2, (0, (t))), (3, (0, (n)))] [] h
    refine w_pl (pc' := 1) (lv' := [(0, (2, ((181 : Nat) : Int))), (1, (0, ((s' : Nat) : Int))), (2, (0, (t))), (3, (0, (n)))]) (st' := [(0, ((s' : Nat) : Int))]) (h' := h) (o68_0 hB) rfl ?_
    refine w_callS (as := [(0, ((s' : Nat) : Int))]) (rest := []) (n := 1) (pc' := 4) hB (o68_1 hB) rfl (by decide +kernel) rfl rfl (Nat.le_of_ble_eq_true rfl) (m_isSheetB hB (fun f81 => ?_) (fun f82 => ?_))
    · show HW g l _ 68 _ _ 4 [(0, (2, ((181 : Nat) : Int))), (1, (0, ((s' : Nat) : Int))), (2, (0, (t))), (3, (0, (n)))] [(0, ((1 : Nat) : Int))] h
      refine w_ifc (pt := 27) (pf := 7) (o68_2 hB) (by decide) rfl (fun e => ?_) (fun e => ?_)
      · have f83 : (((1 : Nat) : Int) = (0)) := e
        exfalso; omega
      · have f84 : ¬ (((1 : Nat) : Int) = (0)) := e
        refine w_pl (pc' := 8) (lv' := [(0, (2, ((181 : Nat) : Int))), (1, (0, ((s' : Nat) : Int))), (2, (0, (t))), (3, (0, (n)))]) (st' := [(0, (t))]) (h' := h) (o68_3 hB) rfl ?_
        refine w_pl (pc' := 9) (lv' := [(0, (2, ((181 : Nat) : Int))), (1, (0, ((s' : Nat) : Int))), (2, (0, (t))), (3, (0, (n)))]) (st' := [(0, (-1)), (0, (t))]) (h' := h) (o68_4 hB) rfl ?_
        refine w_icmp (pt := 27) (pf := 12) (o68_5 hB) (by decide) rfl (fun e => ?_) (fun e => ?_)
        · have f85 : ((t) < (-1)) := e
          refine w_pl (pc' := 28) (lv' := [(0, (2, ((181 : Nat) : Int))), (1, (0, ((s' : Nat) : Int))), (2, (0, (t))), (3, (0, (n)))]) (st' := [(0, (-1))]) (h' := h) (o68_14 hB) rfl ?_
          exact w_iret (o68_15 hB) mr68 (by unfold in32; omega) (a0 (by omega))
        · have f86 : ¬ ((t) < (-1)) := e
          refine w_pl (pc' := 13) (lv' := [(0, (2, ((181 : Nat) : Int))), (1, (0, ((s' : Nat) : Int))), (2, (0, (t))), (3, (0, (n)))]) (st' := [(0, (t))]) (h' := h) (o68_6 hB) rfl ?_
          refine w_pl (pc' := 14) (lv' := [(0, (2, ((181 : Nat) : Int))), (1, (0, ((s' : Nat) : Int))), (2, (0, (t))), (3, (0, (n)))]) (st' := [(0, ((3 : Nat) : Int)), (0, (t))]) (h' := h) (o68_7 hB) rfl ?_
          refine w_icmp (pt := 27) (pf := 17) (o68_8 hB) (by decide) rfl (fun e => ?_) (fun e => ?_)
          · have f87 : (((3 : Nat) : Int) < (t)) := e
            refine w_pl (pc' := 28) (lv' := [(0, (2, ((181 : Nat) : Int))), (1, (0, ((s' : Nat) : Int))), (2, (0, (t))), (3, (0, (n)))]) (st' := [(0, (-1))]) (h' := h) (o68_14 hB) rfl ?_
            exact w_iret (o68_15 hB) mr68 (by unfold in32; omega) (a0 (by omega))
          · have f88 : ¬ (((3 : Nat) : Int) < (t)) := e
            refine w_pl (pc' := 18) (lv' := [(0, (2, ((181 : Nat) : Int))), (1, (0, ((s' : Nat) : Int))), (2, (0, (t))), (3, (0, (n)))]) (st' := [(0, (t))]) (h' := h) (o68_9 hB) rfl ?_
            refine w_ifc (pt := 29) (pf := 21) (o68_10 hB) (by decide) rfl (fun e => ?_) (fun e => ?_)
            · have f89 : ((t) < (0)) := e
              refine w_pl (pc' := 30) (lv' := [(0, (2, ((181 : Nat) : Int))), (1, (0, ((s' : Nat) : Int))), (2, (0, (t))), (3, (0, (n)))]) (st' := [(0, (t))]) (h' := h) (o68_16 hB) rfl ?_
              refine w_ifc (pt := 40) (pf := 33) (o68_17 hB) (by decide) rfl (fun e => ?_) (fun e => ?_)
              · have f90 : ((t) < (0)) := e
                refine w_pl (pc' := 41) (lv' := [(0, (2, ((181 : Nat) : Int))), (1, (0, ((s' : Nat) : Int))), (2, (0, (t))), (3, (0, (n)))]) (st' := [(2, ((181 : Nat) : Int))]) (h' := h) (o68_22 hB) rfl ?_
                refine w_getf (A := 181) (t := 2) (z := ((182 : Nat) : Int)) (pc' := 44) (o68_23 hB) rfl (by decide +kernel) (hR (181, 0, 182) (by decide)) ?_
                refine w_pl (pc' := 45) (lv' := [(0, (2, ((181 : Nat) : Int))), (1, (0, ((s' : Nat) : Int))), (2, (0, (t))), (3, (0, (n)))]) (st' := [(0, ((s' : Nat) : Int)), (2, ((182 : Nat) : Int))]) (h' := h) (o68_24 hB) rfl ?_
                refine w_pl (pc' := 46) (lv' := [(0, (2, ((181 : Nat) : Int))), (1, (0, ((s' : Nat) : Int))), (2, (0, (t))), (3, (0, (n)))]) (st' := [(0, (t)), (0, ((s' : Nat) : Int)), (2, ((182 : Nat) : Int))]) (h' := h) (o68_25 hB) rfl ?_
                refine w_iast (A := 182) (i := s') (n := 4) (pc' := 47) (o68_26 hB) rfl (by decide +kernel) (by omega) ?_
                refine w_pl (pc' := 48) (lv' := [(0, (2, ((181 : Nat) : Int))), (1, (0, ((s' : Nat) : Int))), (2, (0, (t))), (3, (0, (n)))]) (st' := [(2, ((181 : Nat) : Int))]) (h' := (hup h 182 (s') (t))) (o68_27 hB) rfl ?_
                refine w_getf (A := 181) (t := 2) (z := ((183 : Nat) : Int)) (pc' := 51) (o68_28 hB) rfl (by decide +kernel) ((hup_ne (by decide)).trans (hR (181, 1, 183) (by decide))) ?_
                refine w_pl (pc' := 52) (lv' := [(0, (2, ((181 : Nat) : Int))), (1, (0, ((s' : Nat) : Int))), (2, (0, (t))), (3, (0, (n)))]) (st' := [(0, ((s' : Nat) : Int)), (2, ((183 : Nat) : Int))]) (h' := (hup h 182 (s') (t))) (o68_29 hB) rfl ?_
                refine w_pl (pc' := 53) (lv' := [(0, (2, ((181 : Nat) : Int))), (1, (0, ((s' : Nat) : Int))), (2, (0, (t))), (3, (0, (n)))]) (st' := [(0, (t)), (0, ((s' : Nat) : Int)), (2, ((183 : Nat) : Int))]) (h' := (hup h 182 (s') (t))) (o68_30 hB) rfl ?_
                refine w_ifc (pt := 60) (pf := 56) (o68_31 hB) (by decide) rfl (fun e => ?_) (fun e => ?_)
                · have f91 : ((0) ≤ (t)) := e
                  refine w_pl (pc' := 61) (lv' := [(0, (2, ((181 : Nat) : Int))), (1, (0, ((s' : Nat) : Int))), (2, (0, (t))), (3, (0, (n)))]) (st' := [(0, (n)), (0, ((s' : Nat) : Int)), (2, ((183 : Nat) : Int))]) (h' := (hup h 182 (s') (t))) (o68_34 hB) rfl ?_
                  refine w_iast (A := 183) (i := s') (n := 4) (pc' := 62) (o68_35 hB) rfl (by decide +kernel) (by omega) ?_
                  refine w_pl (pc' := 63) (lv' := [(0, (2, ((181 : Nat) : Int))), (1, (0, ((s' : Nat) : Int))), (2, (0, (t))), (3, (0, (n)))]) (st' := [(0, ((0 : Nat) : Int))]) (h' := (hup (hup h 182 (s') (t)) 183 (s') (n))) (o68_36 hB) rfl ?_
                  refine w_st (tg := 0) (j := 4) (len := 2) (pc' := 65) (lv' := [(4, (0, ((0 : Nat) : Int))), (0, (2, ((181 : Nat) : Int))), (1, (0, ((s' : Nat) : Int))), (2, (0, (t))), (3, (0, (n)))]) (o68_37 hB) rfl rfl ml68 (by decide) rfl ?_
                  refine w_sub (lv' := [(4, (0, ((0 : Nat) : Int))), (0, (2, ((181 : Nat) : Int))), (1, (0, ((s' : Nat) : Int))), (2, (0, (t))), (3, (0, (n)))]) (List.forall_mem_cons.mpr ⟨(List.Mem.head _), (List.forall_mem_cons.mpr ⟨(List.Mem.tail _ (List.Mem.head _)), (List.forall_mem_cons.mpr ⟨(List.Mem.tail _ (List.Mem.tail _ (List.Mem.head _))), (List.forall_mem_cons.mpr ⟨(List.Mem.tail _ (List.Mem.tail _ (List.Mem.tail _ (List.Mem.head _)))), (List.forall_mem_cons.mpr ⟨(List.Mem.tail _ (List.Mem.tail _ (List.Mem.tail _ (List.Mem.tail _ (List.Mem.head _))))), (fun _ hx => by cases hx)⟩)⟩)⟩)⟩)⟩) ?_
                  exact l_shB hB (by omega) 40 0 _ rfl (TR_a (TR_a hR (by decide +kernel)) (by decide +kernel)) (a3 (by omega))
                · have f92 : ¬ ((0) ≤ (t)) := e
                  refine w_pl (pc' := 57) (lv' := [(0, (2, ((181 : Nat) : Int))), (1, (0, ((s' : Nat) : Int))), (2, (0, (t))), (3, (0, (n)))]) (st' := [(0, ((0 : Nat) : Int)), (0, ((s' : Nat) : Int)), (2, ((183 : Nat) : Int))]) (h' := (hup h 182 (s') (t))) (o68_32 hB) rfl ?_
                  refine w_goto (pt := 61) (o68_33 hB) (by decide) ?_
                  refine w_iast (A := 183) (i := s') (n := 4) (pc' := 62) (o68_35 hB) rfl (by decide +kernel) (by omega) ?_
                  refine w_pl (pc' := 63) (lv' := [(0, (2, ((181 : Nat) : Int))), (1, (0, ((s' : Nat) : Int))), (2, (0, (t))), (3, (0, (n)))]) (st' := [(0, ((0 : Nat) : Int))]) (h' := (hup (hup h 182 (s') (t)) 183 (s') ((0 : Nat) : Int))) (o68_36 hB) rfl ?_
                  refine w_st (tg := 0) (j := 4) (len := 2) (pc' := 65) (lv' := [(4, (0, ((0 : Nat) : Int))), (0, (2, ((181 : Nat) : Int))), (1, (0, ((s' : Nat) : Int))), (2, (0, (t))), (3, (0, (n)))]) (o68_37 hB) rfl rfl ml68 (by decide) rfl ?_
                  refine w_sub (lv' := [(4, (0, ((0 : Nat) : Int))), (0, (2, ((181 : Nat) : Int))), (1, (0, ((s' : Nat) : Int))), (2, (0, (t))), (3, (0, (n)))]) (List.forall_mem_cons.mpr ⟨(List.Mem.head _), (List.forall_mem_cons.mpr ⟨(List.Mem.tail _ (List.Mem.head _)), (List.forall_mem_cons.mpr ⟨(List.Mem.tail _ (List.Mem.tail _ (List.Mem.head _))), (List.forall_mem_cons.mpr ⟨(List.Mem.tail _ (List.Mem.tail _ (List.Mem.tail _ (List.Mem.head _)))), (List.forall_mem_cons.mpr ⟨(List.Mem.tail _ (List.Mem.tail _ (List.Mem.tail _ (List.Mem.tail _ (List.Mem.head _))))), (fun _ hx => by cases hx)⟩)⟩)⟩)⟩)⟩) ?_
                  exact l_shB hB (by omega) 40 0 _ rfl (TR_a (TR_a hR (by decide +kernel)) (by decide +kernel)) (a2 (by omega))
              · have f93 : ¬ ((t) < (0)) := e
                exfalso; omega
            · have f94 : ¬ ((t) < (0)) := e
              refine w_pl (pc' := 22) (lv' := [(0, (2, ((181 : Nat) : Int))), (1, (0, ((s' : Nat) : Int))), (2, (0, (t))), (3, (0, (n)))]) (st' := [(0, (n))]) (h' := h) (o68_11 hB) rfl ?_
              refine w_pl (pc' := 24) (lv' := [(0, (2, ((181 : Nat) : Int))), (1, (0, ((s' : Nat) : Int))), (2, (0, (t))), (3, (0, (n)))]) (st' := [(0, ((40 : Nat) : Int)), (0, (n))]) (h' := h) (o68_12 hB) rfl ?_
              refine w_icmp (pt := 29) (pf := 27) (o68_13 hB) (by decide) rfl (fun e => ?_) (fun e => ?_)
              · have f95 : ((n) ≤ ((40 : Nat) : Int)) := e
                refine w_pl (pc' := 30) (lv' := [(0, (2, ((181 : Nat) : Int))), (1, (0, ((s' : Nat) : Int))), (2, (0, (t))), (3, (0, (n)))]) (st' := [(0, (t))]) (h' := h) (o68_16 hB) rfl ?_
                refine w_ifc (pt := 40) (pf := 33) (o68_17 hB) (by decide) rfl (fun e => ?_) (fun e => ?_)
                · have f96 : ((t) < (0)) := e
                  exfalso; omega
                · have f97 : ¬ ((t) < (0)) := e
                  refine w_pl (pc' := 34) (lv' := [(0, (2, ((181 : Nat) : Int))), (1, (0, ((s' : Nat) : Int))), (2, (0, (t))), (3, (0, (n)))]) (st' := [(0, (n))]) (h' := h) (o68_18 hB) rfl ?_
                  refine w_ifc (pt := 40) (pf := 37) (o68_19 hB) (by decide) rfl (fun e => ?_) (fun e => ?_)
                  · have f98 : ((0) ≤ (n)) := e
                    refine w_pl (pc' := 41) (lv' := [(0, (2, ((181 : Nat) : Int))), (1, (0, ((s' : Nat) : Int))), (2, (0, (t))), (3, (0, (n)))]) (st' := [(2, ((181 : Nat) : Int))]) (h' := h) (o68_22 hB) rfl ?_
                    refine w_getf (A := 181) (t := 2) (z := ((182 : Nat) : Int)) (pc' := 44) (o68_23 hB) rfl (by decide +kernel) (hR (181, 0, 182) (by decide)) ?_
                    refine w_pl (pc' := 45) (lv' := [(0, (2, ((181 : Nat) : Int))), (1, (0, ((s' : Nat) : Int))), (2, (0, (t))), (3, (0, (n)))]) (st' := [(0, ((s' : Nat) : Int)), (2, ((182 : Nat) : Int))]) (h' := h) (o68_24 hB) rfl ?_
                    refine w_pl (pc' := 46) (lv' := [(0, (2, ((181 : Nat) : Int))), (1, (0, ((s' : Nat) : Int))), (2, (0, (t))), (3, (0, (n)))]) (st' := [(0, (t)), (0, ((s' : Nat) : Int)), (2, ((182 : Nat) : Int))]) (h' := h) (o68_25 hB) rfl ?_
                    refine w_iast (A := 182) (i := s') (n := 4) (pc' := 47) (o68_26 hB) rfl (by decide +kernel) (by omega) ?_
                    refine w_pl (pc' := 48) (lv' := [(0, (2, ((181 : Nat) : Int))), (1, (0, ((s' : Nat) : Int))), (2, (0, (t))), (3, (0, (n)))]) (st' := [(2, ((181 : Nat) : Int))]) (h' := (hup h 182 (s') (t))) (o68_27 hB) rfl ?_
                    refine w_getf (A := 181) (t := 2) (z := ((183 : Nat) : Int)) (pc' := 51) (o68_28 hB) rfl (by decide +kernel) ((hup_ne (by decide)).trans (hR (181, 1, 183) (by decide))) ?_
                    refine w_pl (pc' := 52) (lv' := [(0, (2, ((181 : Nat) : Int))), (1, (0, ((s' : Nat) : Int))), (2, (0, (t))), (3, (0, (n)))]) (st' := [(0, ((s' : Nat) : Int)), (2, ((183 : Nat) : Int))]) (h' := (hup h 182 (s') (t))) (o68_29 hB) rfl ?_
                    refine w_pl (pc' := 53) (lv' := [(0, (2, ((181 : Nat) : Int))), (1, (0, ((s' : Nat) : Int))), (2, (0, (t))), (3, (0, (n)))]) (st' := [(0, (t)), (0, ((s' : Nat) : Int)), (2, ((183 : Nat) : Int))]) (h' := (hup h 182 (s') (t))) (o68_30 hB) rfl ?_
                    refine w_ifc (pt := 60) (pf := 56) (o68_31 hB) (by decide) rfl (fun e => ?_) (fun e => ?_)
                    · have f99 : ((0) ≤ (t)) := e
                      refine w_pl (pc' := 61) (lv' := [(0, (2, ((181 : Nat) : Int))), (1, (0, ((s' : Nat) : Int))), (2, (0, (t))), (3, (0, (n)))]) (st' := [(0, (n)), (0, ((s' : Nat) : Int)), (2, ((183 : Nat) : Int))]) (h' := (hup h 182 (s') (t))) (o68_34 hB) rfl ?_
                      refine w_iast (A := 183) (i := s') (n := 4) (pc' := 62) (o68_35 hB) rfl (by decide +kernel) (by omega) ?_
                      refine w_pl (pc' := 63) (lv' := [(0, (2, ((181 : Nat) : Int))), (1, (0, ((s' : Nat) : Int))), (2, (0, (t))), (3, (0, (n)))]) (st' := [(0, ((0 : Nat) : Int))]) (h' := (hup (hup h 182 (s') (t)) 183 (s') (n))) (o68_36 hB) rfl ?_
                      refine w_st (tg := 0) (j := 4) (len := 2) (pc' := 65) (lv' := [(4, (0, ((0 : Nat) : Int))), (0, (2, ((181 : Nat) : Int))), (1, (0, ((s' : Nat) : Int))), (2, (0, (t))), (3, (0, (n)))]) (o68_37 hB) rfl rfl ml68 (by decide) rfl ?_
                      refine w_sub (lv' := [(4, (0, ((0 : Nat) : Int))), (0, (2, ((181 : Nat) : Int))), (1, (0, ((s' : Nat) : Int))), (2, (0, (t))), (3, (0, (n)))]) (List.forall_mem_cons.mpr ⟨(List.Mem.head _), (List.forall_mem_cons.mpr ⟨(List.Mem.tail _ (List.Mem.head _)), (List.forall_mem_cons.mpr ⟨(List.Mem.tail _ (List.Mem.tail _ (List.Mem.head _))), (List.forall_mem_cons.mpr ⟨(List.Mem.tail _ (List.Mem.tail _ (List.Mem.tail _ (List.Mem.head _)))), (List.forall_mem_cons.mpr ⟨(List.Mem.tail _ (List.Mem.tail _ (List.Mem.tail _ (List.Mem.tail _ (List.Mem.head _))))), (fun _ hx => by cases hx)⟩)⟩)⟩)⟩)⟩) ?_
                      exact l_shB hB (by omega) 40 0 _ rfl (TR_a (TR_a hR (by decide +kernel)) (by decide +kernel)) (a3 (by omega))
                    · have f100 : ¬ ((0) ≤ (t)) := e
                      refine w_pl (pc' := 57) (lv' := [(0, (2, ((181 : Nat) : Int))), (1, (0, ((s' : Nat) : Int))), (2, (0, (t))), (3, (0, (n)))]) (st' := [(0, ((0 : Nat) : Int)), (0, ((s' : Nat) : Int)), (2, ((183 : Nat) : Int))]) (h' := (hup h 182 (s') (t))) (o68_32 hB) rfl ?_
                      refine w_goto (pt := 61) (o68_33 hB) (by decide) ?_
                      refine w_iast (A := 183) (i := s') (n := 4) (pc' := 62) (o68_35 hB) rfl (by decide +kernel) (by omega) ?_
                      refine w_pl (pc' := 63) (lv' := [(0, (2, ((181 : Nat) : Int))), (1, (0, ((s' : Nat) : Int))), (2, (0, (t))), (3, (0, (n)))]) (st' := [(0, ((0 : Nat) : Int))]) (h' := (hup (hup h 182 (s') (t)) 183 (s') ((0 : Nat) : Int))) (o68_36 hB) rfl ?_
                      refine w_st (tg := 0) (j := 4) (len := 2) (pc' := 65) (lv' := [(4, (0, ((0 : Nat) : Int))), (0, (2, ((181 : Nat) : Int))), (1, (0, ((s' : Nat) : Int))), (2, (0, (t))), (3, (0, (n)))]) (o68_37 hB) rfl rfl ml68 (by decide) rfl ?_
                      refine w_sub (lv' := [(4, (0, ((0 : Nat) : Int))), (0, (2, ((181 : Nat) : Int))), (1, (0, ((s' : Nat) : Int))), (2, (0, (t))), (3, (0, (n)))]) (List.forall_mem_cons.mpr ⟨(List.Mem.head _), (List.forall_mem_cons.mpr ⟨(List.Mem.tail _ (List.Mem.head _)), (List.forall_mem_cons.mpr ⟨(List.Mem.tail _ (List.Mem.tail _ (List.Mem.head _))), (List.forall_mem_cons.mpr ⟨(List.Mem.tail _ (List.Mem.tail _ (List.Mem.tail _ (List.Mem.head _)))), (List.forall_mem_cons.mpr ⟨(List.Mem.tail _ (List.Mem.tail _ (List.Mem.tail _ (List.Mem.tail _ (List.Mem.head _))))), (fun _ hx => by cases hx)⟩)⟩)⟩)⟩)⟩) ?_
                      exact l_shB hB (by omega) 40 0 _ rfl (TR_a (TR_a hR (by decide +kernel)) (by decide +kernel)) (a2 (by omega))
                  · have f101 : ¬ ((0) ≤ (n)) := e
                    refine w_pl (pc' := 39) (lv' := [(0, (2, ((181 : Nat) : Int))), (1, (0, ((s' : Nat) : Int))), (2, (0, (t))), (3, (0, (n)))]) (st' := [(0, (-14))]) (h' := h) (o68_20 hB) rfl ?_
                    exact w_iret (o68_21 hB) mr68 (by unfold in32; omega) (a1 (by omega))
              · have f102 : ¬ ((n) ≤ ((40 : Nat) : Int)) := e
                refine w_pl (pc' := 28) (lv' := [(0, (2, ((181 : Nat) : Int))), (1, (0, ((s' : Nat) : Int))), (2, (0, (t))), (3, (0, (n)))]) (st' := [(0, (-1))]) (h' := h) (o68_14 hB) rfl ?_
                exact w_iret (o68_15 hB) mr68 (by unfold in32; omega) (a0 (by omega))
    · show HW g l _ 68 _ _ 4 [(0, (2, ((181 : Nat) : Int))), (1, (0, ((s' : Nat) : Int))), (2, (0, (t))), (3, (0, (n)))] [(0, ((0 : Nat) : Int))] h
      refine w_ifc (pt := 27) (pf := 7) (o68_2 hB) (by decide) rfl (fun e => ?_) (fun e => ?_)
      · have f103 : (((0 : Nat) : Int) = (0)) := e
        refine w_pl (pc' := 28) (lv' := [(0, (2, ((181 : Nat) : Int))), (1, (0, ((s' : Nat) : Int))), (2, (0, (t))), (3, (0, (n)))]) (st' := [(0, (-1))]) (h' := h) (o68_14 hB) rfl ?_
        exact w_iret (o68_15 hB) mr68 (by unfold in32; omega) (a0 (by omega))
      · have f104 : ¬ (((0 : Nat) : Int) = (0)) := e
        exfalso; omega
theorem m_sheetB (hB : BytesOK) {g : bG} {l : Launch} {d : Nat} {Q : bQ} {h : bH} {s t n : Int} (ht : TH h) (z_s : in32 s) (z_t : in32 t) (z_n : in32 n)  (a0 : ¬ ((0 ≤ s ∧ s ≤ 3) ∧ -1 ≤ t ∧ t ≤ 3 ∧ (0 ≤ t → n ≤ 40)) → Q (some (0, (-1))) h) (a1 : ((0 ≤ s ∧ s ≤ 3) ∧ -1 ≤ t ∧ t ≤ 3 ∧ (0 ≤ t → n ≤ 40)) ∧ 0 ≤ t ∧ n < 0 → Q (some (0, (-14))) h) (a2 : ((0 ≤ s ∧ s ≤ 3) ∧ -1 ≤ t ∧ t ≤ 3 ∧ (0 ≤ t → n ≤ 40)) ∧ t < 0 → Q (some (0, 1)) (hz (hup (hup h 182 ((s.toNat)) t) 183 ((s.toNat)) 0) (185 + (s.toNat)) (0) 40)) (a3 : ((0 ≤ s ∧ s ≤ 3) ∧ -1 ≤ t ∧ t ≤ 3 ∧ (0 ≤ t → n ≤ 40)) ∧ 0 ≤ t ∧ 0 ≤ n → Q (some (0, 1)) (hz (hup (hup h 182 ((s.toNat)) t) 183 ((s.toNat)) n) (185 + (s.toNat)) (0) 40)) : MH g l (d + 1 + 1) 160 212 212 [(2, ((0 : Nat) : Int)), (0, (s)), (0, (t)), (0, (n))] h Q := by
  have hR := ht.r
  have z0_s := z_s
  have z0_t := z_t
  have z0_n := z_n
  unfold in32 at z0_s
  unfold in32 at z0_t
  unfold in32 at z0_n
  refine mh_go hB mg160 ml160 (Nat.le_of_ble_eq_true rfl) ?_
  show HW g l (d + 1 + 1) 160 _ _ 0 [(0, (2, ((0 : Nat) : Int))), (1, (0, (s))), (2, (0, (t))), (3, (0, (n)))] [] h
  refine w_pl (pc' := 1) (lv' := [(0, (2, ((0 : Nat) : Int))), (1, (0, (s))), (2, (0, (t))), (3, (0, (n)))]) (st' := [(2, ((0 : Nat) : Int))]) (h' := h) (o160_0 hB) rfl ?_
  refine w_getf (A := 0) (t := 2) (z := ((181 : Nat) : Int)) (pc' := 4) (o160_1 hB) rfl (by decide +kernel) (hR (0, 5, 181) (by decide)) ?_
  refine w_pl (pc' := 5) (lv' := [(0, (2, ((0 : Nat) : Int))), (1, (0, (s))), (2, (0, (t))), (3, (0, (n)))]) (st' := [(0, (s)), (2, ((181 : Nat) : Int))]) (h' := h) (o160_2 hB) rfl ?_
  refine w_pl (pc' := 6) (lv' := [(0, (2, ((0 : Nat) : Int))), (1, (0, (s))), (2, (0, (t))), (3, (0, (n)))]) (st' := [(0, (t)), (0, (s)), (2, ((181 : Nat) : Int))]) (h' := h) (o160_3 hB) rfl ?_
  refine w_pl (pc' := 7) (lv' := [(0, (2, ((0 : Nat) : Int))), (1, (0, (s))), (2, (0, (t))), (3, (0, (n)))]) (st' := [(0, (n)), (0, (t)), (0, (s)), (2, ((181 : Nat) : Int))]) (h' := h) (o160_4 hB) rfl ?_
  refine w_callV (A := 181) (as := [(0, (s)), (0, (t)), (0, (n))]) (rest := []) (n := 3) (pc' := 10) 5 hB (o160_5 hB) rfl (by decide +kernel) rfl rfl (Nat.le_of_ble_eq_true rfl) (m_shBecome hB ht z_s z_t z_n (fun f109 => ?_) (fun f110 => ?_) (fun f111 => ?_) (fun f112 => ?_))
  · show HW g l _ 160 _ _ 10 [(0, (2, ((0 : Nat) : Int))), (1, (0, (s))), (2, (0, (t))), (3, (0, (n)))] [(0, (-1))] h
    exact w_iret (o160_6 hB) mr160 (by unfold in32; omega) (a0 (by omega))
  · show HW g l _ 160 _ _ 10 [(0, (2, ((0 : Nat) : Int))), (1, (0, (s))), (2, (0, (t))), (3, (0, (n)))] [(0, (-14))] h
    exact w_iret (o160_6 hB) mr160 (by unfold in32; omega) (a1 (by omega))
  · show HW g l _ 160 _ _ 10 [(0, (2, ((0 : Nat) : Int))), (1, (0, (s))), (2, (0, (t))), (3, (0, (n)))] [(0, (1))] (hz (hup (hup h 182 (s.toNat) t) 183 (s.toNat) 0) (185 + s.toNat) (0) 40)
    exact w_iret (o160_6 hB) mr160 (by unfold in32; omega) (a2 (by omega))
  · show HW g l _ 160 _ _ 10 [(0, (2, ((0 : Nat) : Int))), (1, (0, (s))), (2, (0, (t))), (3, (0, (n)))] [(0, (1))] (hz (hup (hup h 182 (s.toNat) t) 183 (s.toNat) n) (185 + s.toNat) (0) 40)
    exact w_iret (o160_6 hB) mr160 (by unfold in32; omega) (a3 (by omega))
def s_sheetB (vs : List bV) (h : bH) (r : Option bV) (h' : bH) : Prop := TH h ∧ ∀ (s t n : Int) , vs = [(2, ((0 : Nat) : Int)), (0, s), (0, t), (0, n)] → ((¬ ((0 ≤ s ∧ s ≤ 3) ∧ -1 ≤ t ∧ t ≤ 3 ∧ (0 ≤ t → n ≤ 40))) ∧ r = some (0, (-1)) ∧ h = h') ∨ ((((0 ≤ s ∧ s ≤ 3) ∧ -1 ≤ t ∧ t ≤ 3 ∧ (0 ≤ t → n ≤ 40)) ∧ 0 ≤ t ∧ n < 0) ∧ r = some (0, (-14)) ∧ h = h') ∨ ((((0 ≤ s ∧ s ≤ 3) ∧ -1 ≤ t ∧ t ≤ 3 ∧ (0 ≤ t → n ≤ 40)) ∧ t < 0) ∧ r = some (0, 1) ∧ h' = (hz (hup (hup h 182 ((s.toNat)) t) 183 ((s.toNat)) 0) (185 + (s.toNat)) (0) 40)) ∨ ((((0 ≤ s ∧ s ≤ 3) ∧ -1 ≤ t ∧ t ≤ 3 ∧ (0 ≤ t → n ≤ 40)) ∧ 0 ≤ t ∧ 0 ≤ n) ∧ r = some (0, 1) ∧ h' = (hz (hup (hup h 182 ((s.toNat)) t) 183 ((s.toNat)) n) (185 + (s.toNat)) (0) 40))
def w_sheetB : List (Nat × Nat × Nat) := [(182, 0, 4), (183, 0, 4), (185, 0, 40), (186, 0, 40), (187, 0, 40), (188, 0, 40)]
def q_sheetB : aCt := cH 160 2 w_sheetB 3 0
theorem sk_sheetB (hB : BytesOK) (g : bG) (l : Launch) : SK g l gT q_sheetB s_sheetB := by
  intro d hd ρ h Q hcore hQ
  have hcore : core (PofW gT (some w_sheetB) false) (gsc g) h ρ h (List.replicate 3 r32, [], [], 212) := hcore
  have ht := hTH hcore
  have y0 := r32_0 hcore 0 (by decide)
  have y1 := r32_0 hcore 1 (by decide)
  have y2 := r32_0 hcore 2 (by decide)
  have y00 := y0
  unfold in32 at y00
  have y01 := y1
  unfold in32 at y01
  have y02 := y2
  unfold in32 at y02
  obtain ⟨d', rfl⟩ : ∃ d', d = d' + 1 + 1 := ⟨d - 2, by have : 2 ≤ d := hd; omega⟩
  rw [show evS ρ (ctA q_sheetB) = [(2, ((0 : Nat) : Int)), (0, ρ 0), (0, ρ 1), (0, ρ 2)] from evA3]
  refine m_sheetB (s := ρ 0) (t := ρ 1) (n := ρ 2) hB ht y0 y1 y2 (fun hn => ?_) (fun hn => ?_) (fun hn => ?_) (fun hn => ?_)
  · refine hQ _ _ (hpost hcore (ht) (fun _ _ _ => rfl) (by unfold in32; omega)) ⟨ht, fun s t n hv => ?_⟩
    have hv := (evA3 (ρ := ρ)).symm.trans hv
    obtain ⟨rfl, rfl, rfl⟩ := vsA3 hv
    exact Or.inl ⟨hn, rfl, rfl⟩
  · refine hQ _ _ (hpost hcore (ht) (fun _ _ _ => rfl) (by unfold in32; omega)) ⟨ht, fun s t n hv => ?_⟩
    have hv := (evA3 (ρ := ρ)).symm.trans hv
    obtain ⟨rfl, rfl, rfl⟩ := vsA3 hv
    exact Or.inr (Or.inl ⟨hn, rfl, rfl⟩)
  · skip
    obtain ⟨s', e_s9⟩ : ∃ q : Nat, (ρ 0).toNat = q := ⟨_, rfl⟩
    rw [e_s9]
    refine hQ _ _ (hpost hcore ((((ht).ups2 (a := 182) (s := 0) (st := 1) (n := 4) (lo := (-1)) (hi := 3) (r := s') (by decide +kernel) (by omega) (by omega) (by omega)).ups2 (a := 183) (s := 0) (st := 1) (n := 4) (lo := (0)) (hi := 40) (r := s') (by decide +kernel) (by omega) (by omega) (by omega)).hz (a := 185 + s') (s := 0) (n := 40) (fun j j1 j2 _ => by rw [ty185 (by omega) (by omega)]; exact ⟨by decide, by decide⟩)) (fr_hz (fr_up (fr_up (fun _ _ _ => rfl) (wr_in (lo := 0) (hi := 4) (by decide) (by omega) (by omega))) (wr_in (lo := 0) (hi := 4) (by decide) (by omega) (by omega))) (fun j j1 j2 => (hz_w185 (by decide) (by omega) (by omega)))) (by unfold in32; omega)) ⟨ht, fun s t n hv => ?_⟩
    have hv := (evA3 (ρ := ρ)).symm.trans hv
    obtain ⟨rfl, rfl, rfl⟩ := vsA3 hv
    exact Or.inr (Or.inr (Or.inl ⟨hn, by first | rfl | (rw [e_s9]; done), by rw [e_s9]⟩))
  · skip
    obtain ⟨s', e_s9⟩ : ∃ q : Nat, (ρ 0).toNat = q := ⟨_, rfl⟩
    rw [e_s9]
    refine hQ _ _ (hpost hcore ((((ht).ups2 (a := 182) (s := 0) (st := 1) (n := 4) (lo := (-1)) (hi := 3) (r := s') (by decide +kernel) (by omega) (by omega) (by omega)).ups2 (a := 183) (s := 0) (st := 1) (n := 4) (lo := (0)) (hi := 40) (r := s') (by decide +kernel) (by omega) (by omega) (by omega)).hz (a := 185 + s') (s := 0) (n := 40) (fun j j1 j2 _ => by rw [ty185 (by omega) (by omega)]; exact ⟨by decide, by decide⟩)) (fr_hz (fr_up (fr_up (fun _ _ _ => rfl) (wr_in (lo := 0) (hi := 4) (by decide) (by omega) (by omega))) (wr_in (lo := 0) (hi := 4) (by decide) (by omega) (by omega))) (fun j j1 j2 => (hz_w185 (by decide) (by omega) (by omega)))) (by unfold in32; omega)) ⟨ht, fun s t n hv => ?_⟩
    have hv := (evA3 (ρ := ρ)).symm.trans hv
    obtain ⟨rfl, rfl, rfl⟩ := vsA3 hv
    exact Or.inr (Or.inr (Or.inr (⟨hn, by first | rfl | (rw [e_s9]; done), by rw [e_s9]⟩)))
/-- whether a row of this number is in use, by the first k sheets and shelves -/
def usF (h : bH) (c : Int) : Nat → Int
  | 0 => 0
  | k + 1 => if h 205 k = c ∨ (h 209 k = 4 ∧ h 210 k = c) then 1 else usF h c k
theorem usF_1 {h : bH} {c : Int} : ∀ k, usF h c k = 1 → ∃ i, i < k ∧ (h 205 i = c ∨ h 210 i = c)
  | 0, e => by simp [usF] at e
  | k + 1, e => by
    simp only [usF] at e
    split at e
    · rename_i w
      exact ⟨k, by omega, w.imp id (fun q => q.2)⟩
    · obtain ⟨i, hi, w⟩ := usF_1 k e
      exact ⟨i, by omega, w⟩
theorem usF_0 {h : bH} {c : Int} : ∀ k, usF h c k = 0 → ∀ i, i < k → h 205 i ≠ c
  | 0, _ => fun i hi => absurd hi (Nat.not_lt_zero i)
  | k + 1, e => fun i hi => by
    simp only [usF] at e
    split at e
    · cases e
    · rename_i w
      by_cases q : i = k
      · subst q; exact fun z => w (Or.inl z)
      · exact usF_0 k e i (by omega)
theorem usF_r {h : bH} {c : Int} : ∀ k, usF h c k = 0 ∨ usF h c k = 1
  | 0 => Or.inl rfl
  | k + 1 => by
    simp only [usF]
    split
    · exact Or.inr rfl
    · exact usF_r k
theorem or01 : orI 0 0 = 0 ∧ orI 0 1 = 1 ∧ orI 1 0 = 1 ∧ orI 1 1 = 1 := by decide +kernel
theorem l_free (hB : BytesOK) {g : bG} {l : Launch} {d : Nat} {Q : bQ} {h : bH} (ht : TH h) {c : Nat} (lc : c < 8) (he : HW g l d 272 212 Q 61 [(2, (0, (usF h ((c : Nat) : Int) 4))), (1, (0, ((c : Nat) : Int))), (0, (2, ((193 : Nat) : Int)))] [] h) : ∀ (n b : Nat), b + n = 4 → HW g l d 272 212 Q 12 [(3, (0, ((b : Nat) : Int))), (2, (0, (usF h ((c : Nat) : Int) b))), (1, (0, ((c : Nat) : Int))), (0, (2, ((193 : Nat) : Int)))] [] h := by
  have hR := ht.r
  intro n
  induction n with
  | zero =>
    intro b hb
    obtain rfl : b = 4 := by omega
    refine w_pl (pc' := 13) (lv' := [(3, (0, ((4 : Nat) : Int))), (2, (0, (usF h ((c : Nat) : Int) 4))), (1, (0, ((c : Nat) : Int))), (0, (2, ((193 : Nat) : Int)))]) (st' := [(0, ((4 : Nat) : Int))]) (h' := h) (o272_10 hB) rfl ?_
    refine w_pl (pc' := 14) (lv' := [(3, (0, ((4 : Nat) : Int))), (2, (0, (usF h ((c : Nat) : Int) 4))), (1, (0, ((c : Nat) : Int))), (0, (2, ((193 : Nat) : Int)))]) (st' := [(0, ((4 : Nat) : Int)), (0, ((4 : Nat) : Int))]) (h' := h) (o272_11 hB) rfl ?_
    refine w_icmp (pt := 61) (pf := 17) (o272_12 hB) (by decide) rfl (fun e => ?_) (fun e => ?_)
    · have f113 : (((4 : Nat) : Int) ≤ ((4 : Nat) : Int)) := e
      refine w_sub (lv' := [(2, (0, (usF h ((c : Nat) : Int) 4))), (1, (0, ((c : Nat) : Int))), (0, (2, ((193 : Nat) : Int)))]) (List.forall_mem_cons.mpr ⟨(List.Mem.tail _ (List.Mem.head _)), (List.forall_mem_cons.mpr ⟨(List.Mem.tail _ (List.Mem.tail _ (List.Mem.head _))), (List.forall_mem_cons.mpr ⟨(List.Mem.tail _ (List.Mem.tail _ (List.Mem.tail _ (List.Mem.head _)))), (fun _ hx => by cases hx)⟩)⟩)⟩) ?_
      exact he
    · have f114 : ¬ (((4 : Nat) : Int) ≤ ((4 : Nat) : Int)) := e
      exfalso; omega
  | succ n ih =>
    intro b hb
    have u := usF_r (h := h) (c := ((c : Nat) : Int)) b
    refine w_pl (pc' := 13) (lv' := [(3, (0, ((b : Nat) : Int))), (2, (0, (usF h ((c : Nat) : Int) b))), (1, (0, ((c : Nat) : Int))), (0, (2, ((193 : Nat) : Int)))]) (st' := [(0, ((b : Nat) : Int))]) (h' := h) (o272_10 hB) rfl ?_
    refine w_pl (pc' := 14) (lv' := [(3, (0, ((b : Nat) : Int))), (2, (0, (usF h ((c : Nat) : Int) b))), (1, (0, ((c : Nat) : Int))), (0, (2, ((193 : Nat) : Int)))]) (st' := [(0, ((4 : Nat) : Int)), (0, ((b : Nat) : Int))]) (h' := h) (o272_11 hB) rfl ?_
    refine w_icmp (pt := 61) (pf := 17) (o272_12 hB) (by decide) rfl (fun e => ?_) (fun e => ?_)
    · have f115 : (((4 : Nat) : Int) ≤ ((b : Nat) : Int)) := e
      exfalso; omega
    · have f116 : ¬ (((4 : Nat) : Int) ≤ ((b : Nat) : Int)) := e
      refine w_pl (pc' := 18) (lv' := [(3, (0, ((b : Nat) : Int))), (2, (0, (usF h ((c : Nat) : Int) b))), (1, (0, ((c : Nat) : Int))), (0, (2, ((193 : Nat) : Int)))]) (st' := [(0, (usF h ((c : Nat) : Int) b))]) (h' := h) (o272_13 hB) rfl ?_
      refine w_pl (pc' := 19) (lv' := [(3, (0, ((b : Nat) : Int))), (2, (0, (usF h ((c : Nat) : Int) b))), (1, (0, ((c : Nat) : Int))), (0, (2, ((193 : Nat) : Int)))]) (st' := [(2, ((193 : Nat) : Int)), (0, (usF h ((c : Nat) : Int) b))]) (h' := h) (o272_14 hB) rfl ?_
      refine w_getf (A := 193) (t := 2) (z := ((205 : Nat) : Int)) (pc' := 22) (o272_15 hB) rfl (by decide +kernel) (hR (193, 35, 205) (by decide)) ?_
      refine w_pl (pc' := 23) (lv' := [(3, (0, ((b : Nat) : Int))), (2, (0, (usF h ((c : Nat) : Int) b))), (1, (0, ((c : Nat) : Int))), (0, (2, ((193 : Nat) : Int)))]) (st' := [(0, ((b : Nat) : Int)), (2, ((205 : Nat) : Int)), (0, (usF h ((c : Nat) : Int) b))]) (h' := h) (o272_16 hB) rfl ?_
      have f117 := ty_205_s0 ht (j := b) (r := b) (by omega) (by omega)
      refine w_iald (A := 205) (i := b) (n := 4) (z := (h 205 b)) (pc' := 24) (o272_17 hB) rfl (by decide +kernel) (by omega) rfl ?_
      refine w_pl (pc' := 25) (lv' := [(3, (0, ((b : Nat) : Int))), (2, (0, (usF h ((c : Nat) : Int) b))), (1, (0, ((c : Nat) : Int))), (0, (2, ((193 : Nat) : Int)))]) (st' := [(0, ((c : Nat) : Int)), (0, (h 205 b)), (0, (usF h ((c : Nat) : Int) b))]) (h' := h) (o272_18 hB) rfl ?_
      refine w_icmp (pt := 48) (pf := 28) (o272_19 hB) (by decide) rfl (fun e => ?_) (fun e => ?_)
      · have f118 : ((h 205 b) = ((c : Nat) : Int)) := e
        refine w_pl (pc' := 49) (lv' := [(3, (0, ((b : Nat) : Int))), (2, (0, (usF h ((c : Nat) : Int) b))), (1, (0, ((c : Nat) : Int))), (0, (2, ((193 : Nat) : Int)))]) (st' := [(0, ((1 : Nat) : Int)), (0, (usF h ((c : Nat) : Int) b))]) (h' := h) (o272_32 hB) rfl ?_
        refine w_goto (pt := 53) (o272_33 hB) (by decide) ?_
        refine w_ior (z := (orI (usF h ((c : Nat) : Int) b) 1)) (pc' := 54) (o272_35 hB) rfl rfl ?_
        refine w_st (tg := 0) (j := 2) (len := 1) (pc' := 55) (lv' := [(2, (0, (orI (usF h ((c : Nat) : Int) b) 1))), (3, (0, ((b : Nat) : Int))), (1, (0, ((c : Nat) : Int))), (0, (2, ((193 : Nat) : Int)))]) (o272_36 hB) rfl rfl ml272 (by decide) rfl ?_
        refine w_iinc (x := ((b : Nat) : Int)) (z := (((b + 1) : Nat) : Int)) (pc' := 58) (lv' := [(3, (0, (((b + 1) : Nat) : Int))), (2, (0, (orI (usF h ((c : Nat) : Int) b) 1))), (1, (0, ((c : Nat) : Int))), (0, (2, ((193 : Nat) : Int)))]) (o272_37 hB) rfl rfl ml272 (by decide) (w32_e (by omega) (by omega)) rfl ?_
        refine w_goto (pt := 12) (o272_38 hB) (by decide) ?_
        refine w_sub (lv' := [(3, (0, (((b + 1) : Nat) : Int))), (2, (0, (orI (usF h ((c : Nat) : Int) b) 1))), (1, (0, ((c : Nat) : Int))), (0, (2, ((193 : Nat) : Int)))]) (List.forall_mem_cons.mpr ⟨(List.Mem.head _), (List.forall_mem_cons.mpr ⟨(List.Mem.tail _ (List.Mem.head _)), (List.forall_mem_cons.mpr ⟨(List.Mem.tail _ (List.Mem.tail _ (List.Mem.head _))), (List.forall_mem_cons.mpr ⟨(List.Mem.tail _ (List.Mem.tail _ (List.Mem.tail _ (List.Mem.head _)))), (fun _ hx => by cases hx)⟩)⟩)⟩)⟩) ?_
        have e1 : (orI (usF h ((c : Nat) : Int) b) 1) = usF h ((c : Nat) : Int) (b + 1) := by
          simp only [usF]
          rw [if_pos (by omega)]
          rcases u with u | u <;> rw [u]
          · exact or01.2.1
          · exact or01.2.2.2
        rw [e1]
        exact ih (b + 1) (by omega)
      · have f119 : ¬ ((h 205 b) = ((c : Nat) : Int)) := e
        refine w_pl (pc' := 29) (lv' := [(3, (0, ((b : Nat) : Int))), (2, (0, (usF h ((c : Nat) : Int) b))), (1, (0, ((c : Nat) : Int))), (0, (2, ((193 : Nat) : Int)))]) (st' := [(2, ((193 : Nat) : Int)), (0, (usF h ((c : Nat) : Int) b))]) (h' := h) (o272_20 hB) rfl ?_
        refine w_getf (A := 193) (t := 2) (z := ((209 : Nat) : Int)) (pc' := 32) (o272_21 hB) rfl (by decide +kernel) (hR (193, 39, 209) (by decide)) ?_
        refine w_pl (pc' := 33) (lv' := [(3, (0, ((b : Nat) : Int))), (2, (0, (usF h ((c : Nat) : Int) b))), (1, (0, ((c : Nat) : Int))), (0, (2, ((193 : Nat) : Int)))]) (st' := [(0, ((b : Nat) : Int)), (2, ((209 : Nat) : Int)), (0, (usF h ((c : Nat) : Int) b))]) (h' := h) (o272_22 hB) rfl ?_
        have f120 := ty_209_s0 ht (j := b) (r := b) (by omega) (by omega)
        refine w_iald (A := 209) (i := b) (n := 4) (z := (h 209 b)) (pc' := 34) (o272_23 hB) rfl (by decide +kernel) (by omega) rfl ?_
        refine w_pl (pc' := 35) (lv' := [(3, (0, ((b : Nat) : Int))), (2, (0, (usF h ((c : Nat) : Int) b))), (1, (0, ((c : Nat) : Int))), (0, (2, ((193 : Nat) : Int)))]) (st' := [(0, ((4 : Nat) : Int)), (0, (h 209 b)), (0, (usF h ((c : Nat) : Int) b))]) (h' := h) (o272_24 hB) rfl ?_
        refine w_icmp (pt := 52) (pf := 38) (o272_25 hB) (by decide) rfl (fun e => ?_) (fun e => ?_)
        · have f121 : ((h 209 b) ≠ ((4 : Nat) : Int)) := e
          refine w_pl (pc' := 53) (lv' := [(3, (0, ((b : Nat) : Int))), (2, (0, (usF h ((c : Nat) : Int) b))), (1, (0, ((c : Nat) : Int))), (0, (2, ((193 : Nat) : Int)))]) (st' := [(0, ((0 : Nat) : Int)), (0, (usF h ((c : Nat) : Int) b))]) (h' := h) (o272_34 hB) rfl ?_
          refine w_ior (z := (orI (usF h ((c : Nat) : Int) b) 0)) (pc' := 54) (o272_35 hB) rfl rfl ?_
          refine w_st (tg := 0) (j := 2) (len := 1) (pc' := 55) (lv' := [(2, (0, (orI (usF h ((c : Nat) : Int) b) 0))), (3, (0, ((b : Nat) : Int))), (1, (0, ((c : Nat) : Int))), (0, (2, ((193 : Nat) : Int)))]) (o272_36 hB) rfl rfl ml272 (by decide) rfl ?_
          refine w_iinc (x := ((b : Nat) : Int)) (z := (((b + 1) : Nat) : Int)) (pc' := 58) (lv' := [(3, (0, (((b + 1) : Nat) : Int))), (2, (0, (orI (usF h ((c : Nat) : Int) b) 0))), (1, (0, ((c : Nat) : Int))), (0, (2, ((193 : Nat) : Int)))]) (o272_37 hB) rfl rfl ml272 (by decide) (w32_e (by omega) (by omega)) rfl ?_
          refine w_goto (pt := 12) (o272_38 hB) (by decide) ?_
          refine w_sub (lv' := [(3, (0, (((b + 1) : Nat) : Int))), (2, (0, (orI (usF h ((c : Nat) : Int) b) 0))), (1, (0, ((c : Nat) : Int))), (0, (2, ((193 : Nat) : Int)))]) (List.forall_mem_cons.mpr ⟨(List.Mem.head _), (List.forall_mem_cons.mpr ⟨(List.Mem.tail _ (List.Mem.head _)), (List.forall_mem_cons.mpr ⟨(List.Mem.tail _ (List.Mem.tail _ (List.Mem.head _))), (List.forall_mem_cons.mpr ⟨(List.Mem.tail _ (List.Mem.tail _ (List.Mem.tail _ (List.Mem.head _)))), (fun _ hx => by cases hx)⟩)⟩)⟩)⟩) ?_
          have e1 : (orI (usF h ((c : Nat) : Int) b) 0) = usF h ((c : Nat) : Int) (b + 1) := by
            simp only [usF]
            rw [if_neg (by omega)]
            rcases u with u | u <;> rw [u]
            · exact or01.1
            · exact or01.2.2.1
          rw [e1]
          exact ih (b + 1) (by omega)
        · have f122 : ¬ ((h 209 b) ≠ ((4 : Nat) : Int)) := e
          refine w_pl (pc' := 39) (lv' := [(3, (0, ((b : Nat) : Int))), (2, (0, (usF h ((c : Nat) : Int) b))), (1, (0, ((c : Nat) : Int))), (0, (2, ((193 : Nat) : Int)))]) (st' := [(2, ((193 : Nat) : Int)), (0, (usF h ((c : Nat) : Int) b))]) (h' := h) (o272_26 hB) rfl ?_
          refine w_getf (A := 193) (t := 2) (z := ((210 : Nat) : Int)) (pc' := 42) (o272_27 hB) rfl (by decide +kernel) (hR (193, 40, 210) (by decide)) ?_
          refine w_pl (pc' := 43) (lv' := [(3, (0, ((b : Nat) : Int))), (2, (0, (usF h ((c : Nat) : Int) b))), (1, (0, ((c : Nat) : Int))), (0, (2, ((193 : Nat) : Int)))]) (st' := [(0, ((b : Nat) : Int)), (2, ((210 : Nat) : Int)), (0, (usF h ((c : Nat) : Int) b))]) (h' := h) (o272_28 hB) rfl ?_
          have f123 := ty_210_s0 ht (j := b) (r := b) (by omega) (by omega)
          refine w_iald (A := 210) (i := b) (n := 4) (z := (h 210 b)) (pc' := 44) (o272_29 hB) rfl (by decide +kernel) (by omega) rfl ?_
          refine w_pl (pc' := 45) (lv' := [(3, (0, ((b : Nat) : Int))), (2, (0, (usF h ((c : Nat) : Int) b))), (1, (0, ((c : Nat) : Int))), (0, (2, ((193 : Nat) : Int)))]) (st' := [(0, ((c : Nat) : Int)), (0, (h 210 b)), (0, (usF h ((c : Nat) : Int) b))]) (h' := h) (o272_30 hB) rfl ?_
          refine w_icmp (pt := 52) (pf := 48) (o272_31 hB) (by decide) rfl (fun e => ?_) (fun e => ?_)
          · have f124 : ((h 210 b) ≠ ((c : Nat) : Int)) := e
            refine w_pl (pc' := 53) (lv' := [(3, (0, ((b : Nat) : Int))), (2, (0, (usF h ((c : Nat) : Int) b))), (1, (0, ((c : Nat) : Int))), (0, (2, ((193 : Nat) : Int)))]) (st' := [(0, ((0 : Nat) : Int)), (0, (usF h ((c : Nat) : Int) b))]) (h' := h) (o272_34 hB) rfl ?_
            refine w_ior (z := (orI (usF h ((c : Nat) : Int) b) 0)) (pc' := 54) (o272_35 hB) rfl rfl ?_
            refine w_st (tg := 0) (j := 2) (len := 1) (pc' := 55) (lv' := [(2, (0, (orI (usF h ((c : Nat) : Int) b) 0))), (3, (0, ((b : Nat) : Int))), (1, (0, ((c : Nat) : Int))), (0, (2, ((193 : Nat) : Int)))]) (o272_36 hB) rfl rfl ml272 (by decide) rfl ?_
            refine w_iinc (x := ((b : Nat) : Int)) (z := (((b + 1) : Nat) : Int)) (pc' := 58) (lv' := [(3, (0, (((b + 1) : Nat) : Int))), (2, (0, (orI (usF h ((c : Nat) : Int) b) 0))), (1, (0, ((c : Nat) : Int))), (0, (2, ((193 : Nat) : Int)))]) (o272_37 hB) rfl rfl ml272 (by decide) (w32_e (by omega) (by omega)) rfl ?_
            refine w_goto (pt := 12) (o272_38 hB) (by decide) ?_
            refine w_sub (lv' := [(3, (0, (((b + 1) : Nat) : Int))), (2, (0, (orI (usF h ((c : Nat) : Int) b) 0))), (1, (0, ((c : Nat) : Int))), (0, (2, ((193 : Nat) : Int)))]) (List.forall_mem_cons.mpr ⟨(List.Mem.head _), (List.forall_mem_cons.mpr ⟨(List.Mem.tail _ (List.Mem.head _)), (List.forall_mem_cons.mpr ⟨(List.Mem.tail _ (List.Mem.tail _ (List.Mem.head _))), (List.forall_mem_cons.mpr ⟨(List.Mem.tail _ (List.Mem.tail _ (List.Mem.tail _ (List.Mem.head _)))), (fun _ hx => by cases hx)⟩)⟩)⟩)⟩) ?_
            have e1 : (orI (usF h ((c : Nat) : Int) b) 0) = usF h ((c : Nat) : Int) (b + 1) := by
              simp only [usF]
              rw [if_neg (by omega)]
              rcases u with u | u <;> rw [u]
              · exact or01.1
              · exact or01.2.2.1
            rw [e1]
            exact ih (b + 1) (by omega)
          · have f125 : ¬ ((h 210 b) ≠ ((c : Nat) : Int)) := e
            refine w_pl (pc' := 49) (lv' := [(3, (0, ((b : Nat) : Int))), (2, (0, (usF h ((c : Nat) : Int) b))), (1, (0, ((c : Nat) : Int))), (0, (2, ((193 : Nat) : Int)))]) (st' := [(0, ((1 : Nat) : Int)), (0, (usF h ((c : Nat) : Int) b))]) (h' := h) (o272_32 hB) rfl ?_
            refine w_goto (pt := 53) (o272_33 hB) (by decide) ?_
            refine w_ior (z := (orI (usF h ((c : Nat) : Int) b) 1)) (pc' := 54) (o272_35 hB) rfl rfl ?_
            refine w_st (tg := 0) (j := 2) (len := 1) (pc' := 55) (lv' := [(2, (0, (orI (usF h ((c : Nat) : Int) b) 1))), (3, (0, ((b : Nat) : Int))), (1, (0, ((c : Nat) : Int))), (0, (2, ((193 : Nat) : Int)))]) (o272_36 hB) rfl rfl ml272 (by decide) rfl ?_
            refine w_iinc (x := ((b : Nat) : Int)) (z := (((b + 1) : Nat) : Int)) (pc' := 58) (lv' := [(3, (0, (((b + 1) : Nat) : Int))), (2, (0, (orI (usF h ((c : Nat) : Int) b) 1))), (1, (0, ((c : Nat) : Int))), (0, (2, ((193 : Nat) : Int)))]) (o272_37 hB) rfl rfl ml272 (by decide) (w32_e (by omega) (by omega)) rfl ?_
            refine w_goto (pt := 12) (o272_38 hB) (by decide) ?_
            refine w_sub (lv' := [(3, (0, (((b + 1) : Nat) : Int))), (2, (0, (orI (usF h ((c : Nat) : Int) b) 1))), (1, (0, ((c : Nat) : Int))), (0, (2, ((193 : Nat) : Int)))]) (List.forall_mem_cons.mpr ⟨(List.Mem.head _), (List.forall_mem_cons.mpr ⟨(List.Mem.tail _ (List.Mem.head _)), (List.forall_mem_cons.mpr ⟨(List.Mem.tail _ (List.Mem.tail _ (List.Mem.head _))), (List.forall_mem_cons.mpr ⟨(List.Mem.tail _ (List.Mem.tail _ (List.Mem.tail _ (List.Mem.head _)))), (fun _ hx => by cases hx)⟩)⟩)⟩)⟩) ?_
            have e1 : (orI (usF h ((c : Nat) : Int) b) 1) = usF h ((c : Nat) : Int) (b + 1) := by
              simp only [usF]
              rw [if_pos (by omega)]
              rcases u with u | u <;> rw [u]
              · exact or01.2.1
              · exact or01.2.2.2
            rw [e1]
            exact ih (b + 1) (by omega)
theorem m_freeRow (hB : BytesOK) {g : bG} {l : Launch} {d : Nat} {Q : bQ} {h : bH} (ht : TH h) {s : Nat} (hs : s < 4) (hm : h 205 s = -1) (hq : ∀ r : Nat, r < 8 → (∀ k, k < 4 → h 205 k ≠ (r : Int)) → Q (some (0, (r : Int))) h) : MH g l d 272 212 212 [(2, ((193 : Nat) : Int))] h Q := by
  have hR := ht.r
  have fin : ∀ c : Nat, c < 8 → (∀ k, k < 4 → h 205 k ≠ (c : Int)) → HW g l d 272 212 Q 4 [(2, (0, ((0 : Nat) : Int))), (1, (0, ((c : Nat) : Int))), (0, (2, ((193 : Nat) : Int)))] [] h := by
    intro c lc hk
    refine w_pl (pc' := 5) (lv' := [(2, (0, ((0 : Nat) : Int))), (1, (0, ((c : Nat) : Int))), (0, (2, ((193 : Nat) : Int)))]) (st' := [(0, ((0 : Nat) : Int))]) (h' := h) (o272_4 hB) rfl ?_
    refine w_ifc (pt := 76) (pf := 8) (o272_5 hB) (by decide) rfl (fun e => ?_) (fun e => ?_)
    · have f126 : (((0 : Nat) : Int) = (0)) := e
      refine w_pl (pc' := 77) (lv' := [(2, (0, ((0 : Nat) : Int))), (1, (0, ((c : Nat) : Int))), (0, (2, ((193 : Nat) : Int)))]) (st' := [(0, ((c : Nat) : Int))]) (h' := h) (o272_48 hB) rfl ?_
      exact w_iret (o272_49 hB) mr272 (by unfold in32; omega) (hq c lc hk)
    · have f127 : ¬ (((0 : Nat) : Int) = (0)) := e
      exfalso; omega
  have key : ∀ (n c : Nat), c + n = 8 → (∀ v : Nat, v < c → ∃ i, i < 8 ∧ h (frPl i).1 (frPl i).2 = (v : Int)) → HW g l d 272 212 Q 4 [(2, (0, ((1 : Nat) : Int))), (1, (0, ((c : Nat) : Int))), (0, (2, ((193 : Nat) : Int)))] [] h := by
    intro n
    induction n with
    | zero =>
      intro c hcn hP
      obtain rfl : c = 8 := by omega
      refine absurd (pig (fun i => h (frPl i).1 (frPl i).2) s (by omega) ?_ hP) id
      show h (frPl s).1 (frPl s).2 = -1
      have e : frPl s = (205, s) := by
        unfold frPl
        rw [if_pos hs, Nat.mod_eq_of_lt hs]
      rw [e]
      exact hm
    | succ n ih =>
      intro c hcn hP
      have he : HW g l d 272 212 Q 61 [(2, (0, (usF h ((c : Nat) : Int) 4))), (1, (0, ((c : Nat) : Int))), (0, (2, ((193 : Nat) : Int)))] [] h := by
        have u := usF_r (h := h) (c := ((c : Nat) : Int)) 4
        refine w_pl (pc' := 62) (lv' := [(2, (0, (usF h ((c : Nat) : Int) 4))), (1, (0, ((c : Nat) : Int))), (0, (2, ((193 : Nat) : Int)))]) (st' := [(0, ((c : Nat) : Int))]) (h' := h) (o272_39 hB) rfl ?_
        refine w_pl (pc' := 63) (lv' := [(2, (0, (usF h ((c : Nat) : Int) 4))), (1, (0, ((c : Nat) : Int))), (0, (2, ((193 : Nat) : Int)))]) (st' := [(0, (usF h ((c : Nat) : Int) 4)), (0, ((c : Nat) : Int))]) (h' := h) (o272_40 hB) rfl ?_
        refine w_ifc (pt := 70) (pf := 66) (o272_41 hB) (by decide) rfl (fun e => ?_) (fun e => ?_)
        · have f128 : ((usF h ((c : Nat) : Int) 4) = (0)) := e
          refine w_pl (pc' := 71) (lv' := [(2, (0, (usF h ((c : Nat) : Int) 4))), (1, (0, ((c : Nat) : Int))), (0, (2, ((193 : Nat) : Int)))]) (st' := [(0, ((0 : Nat) : Int)), (0, ((c : Nat) : Int))]) (h' := h) (o272_44 hB) rfl ?_
          refine w_iadd (z := (((c + 0) : Nat) : Int)) (pc' := 72) (o272_45 hB) rfl (w32_e (by omega) (by omega)) ?_
          refine w_st (tg := 0) (j := 1) (len := 1) (pc' := 73) (lv' := [(1, (0, (((c + 0) : Nat) : Int))), (2, (0, (usF h ((c : Nat) : Int) 4))), (0, (2, ((193 : Nat) : Int)))]) (o272_46 hB) rfl rfl ml272 (by decide) rfl ?_
          refine w_goto (pt := 4) (o272_47 hB) (by decide) ?_
          refine w_sub (lv' := [(2, (0, (usF h ((c : Nat) : Int) 4))), (1, (0, (((c + 0) : Nat) : Int))), (0, (2, ((193 : Nat) : Int)))]) (List.forall_mem_cons.mpr ⟨(List.Mem.tail _ (List.Mem.head _)), (List.forall_mem_cons.mpr ⟨(List.Mem.head _), (List.forall_mem_cons.mpr ⟨(List.Mem.tail _ (List.Mem.tail _ (List.Mem.head _))), (fun _ hx => by cases hx)⟩)⟩)⟩) ?_
          have u0 : usF h ((c : Nat) : Int) 4 = 0 := by omega
          rw [u0]
          exact fin _ (by omega) (usF_0 4 u0)
        · have f129 : ¬ ((usF h ((c : Nat) : Int) 4) = (0)) := e
          refine w_pl (pc' := 67) (lv' := [(2, (0, (usF h ((c : Nat) : Int) 4))), (1, (0, ((c : Nat) : Int))), (0, (2, ((193 : Nat) : Int)))]) (st' := [(0, ((1 : Nat) : Int)), (0, ((c : Nat) : Int))]) (h' := h) (o272_42 hB) rfl ?_
          refine w_goto (pt := 71) (o272_43 hB) (by decide) ?_
          refine w_iadd (z := (((c + 1) : Nat) : Int)) (pc' := 72) (o272_45 hB) rfl (w32_e (by omega) (by omega)) ?_
          refine w_st (tg := 0) (j := 1) (len := 1) (pc' := 73) (lv' := [(1, (0, (((c + 1) : Nat) : Int))), (2, (0, (usF h ((c : Nat) : Int) 4))), (0, (2, ((193 : Nat) : Int)))]) (o272_46 hB) rfl rfl ml272 (by decide) rfl ?_
          refine w_goto (pt := 4) (o272_47 hB) (by decide) ?_
          refine w_sub (lv' := [(2, (0, (usF h ((c : Nat) : Int) 4))), (1, (0, (((c + 1) : Nat) : Int))), (0, (2, ((193 : Nat) : Int)))]) (List.forall_mem_cons.mpr ⟨(List.Mem.tail _ (List.Mem.head _)), (List.forall_mem_cons.mpr ⟨(List.Mem.head _), (List.forall_mem_cons.mpr ⟨(List.Mem.tail _ (List.Mem.tail _ (List.Mem.head _))), (fun _ hx => by cases hx)⟩)⟩)⟩) ?_
          have u1 : usF h ((c : Nat) : Int) 4 = 1 := by omega
          rw [u1]
          obtain ⟨i, hi, w⟩ := usF_1 4 u1
          refine ih (c + 1) (by omega) (fun v hv => ?_)
          by_cases e : v = c
          · subst e
            rcases w with w | w
            · exact ⟨i, by omega, by rw [show frPl i = (205, i) by unfold frPl; rw [if_pos hi, Nat.mod_eq_of_lt hi]]; exact w⟩
            · exact ⟨i + 4, by omega, by rw [show frPl (i + 4) = (210, i) by unfold frPl; rw [if_neg (by omega), show (i + 4) % 4 = i by omega]]; exact w⟩
          · exact hP v (by omega)
      refine w_pl (pc' := 5) (lv' := [(2, (0, ((1 : Nat) : Int))), (1, (0, ((c : Nat) : Int))), (0, (2, ((193 : Nat) : Int)))]) (st' := [(0, ((1 : Nat) : Int))]) (h' := h) (o272_4 hB) rfl ?_
      refine w_ifc (pt := 76) (pf := 8) (o272_5 hB) (by decide) rfl (fun e => ?_) (fun e => ?_)
      · have f130 : (((1 : Nat) : Int) = (0)) := e
        exfalso; omega
      · have f131 : ¬ (((1 : Nat) : Int) = (0)) := e
        refine w_pl (pc' := 9) (lv' := [(2, (0, ((1 : Nat) : Int))), (1, (0, ((c : Nat) : Int))), (0, (2, ((193 : Nat) : Int)))]) (st' := [(0, ((0 : Nat) : Int))]) (h' := h) (o272_6 hB) rfl ?_
        refine w_st (tg := 0) (j := 2) (len := 1) (pc' := 10) (lv' := [(2, (0, ((0 : Nat) : Int))), (1, (0, ((c : Nat) : Int))), (0, (2, ((193 : Nat) : Int)))]) (o272_7 hB) rfl rfl ml272 (by decide) rfl ?_
        refine w_pl (pc' := 11) (lv' := [(2, (0, ((0 : Nat) : Int))), (1, (0, ((c : Nat) : Int))), (0, (2, ((193 : Nat) : Int)))]) (st' := [(0, ((0 : Nat) : Int))]) (h' := h) (o272_8 hB) rfl ?_
        refine w_st (tg := 0) (j := 3) (len := 1) (pc' := 12) (lv' := [(3, (0, ((0 : Nat) : Int))), (2, (0, ((0 : Nat) : Int))), (1, (0, ((c : Nat) : Int))), (0, (2, ((193 : Nat) : Int)))]) (o272_9 hB) rfl rfl ml272 (by decide) rfl ?_
        refine w_sub (lv' := [(3, (0, ((0 : Nat) : Int))), (2, (0, ((0 : Nat) : Int))), (1, (0, ((c : Nat) : Int))), (0, (2, ((193 : Nat) : Int)))]) (List.forall_mem_cons.mpr ⟨(List.Mem.head _), (List.forall_mem_cons.mpr ⟨(List.Mem.tail _ (List.Mem.head _)), (List.forall_mem_cons.mpr ⟨(List.Mem.tail _ (List.Mem.tail _ (List.Mem.head _))), (List.forall_mem_cons.mpr ⟨(List.Mem.tail _ (List.Mem.tail _ (List.Mem.tail _ (List.Mem.head _)))), (fun _ hx => by cases hx)⟩)⟩)⟩)⟩) ?_
        exact l_free hB ht (by omega) he 4 0 rfl
  refine mh_go hB mg272 ml272 (Nat.le_of_ble_eq_true rfl) ?_
  show HW g l d 272 _ _ 0 [(0, (2, ((193 : Nat) : Int)))] [] h
  refine w_pl (pc' := 1) (lv' := [(0, (2, ((193 : Nat) : Int)))]) (st' := [(0, ((0 : Nat) : Int))]) (h' := h) (o272_0 hB) rfl ?_
  refine w_st (tg := 0) (j := 1) (len := 1) (pc' := 2) (lv' := [(1, (0, ((0 : Nat) : Int))), (0, (2, ((193 : Nat) : Int)))]) (o272_1 hB) rfl rfl ml272 (by decide) rfl ?_
  refine w_pl (pc' := 3) (lv' := [(1, (0, ((0 : Nat) : Int))), (0, (2, ((193 : Nat) : Int)))]) (st' := [(0, ((1 : Nat) : Int))]) (h' := h) (o272_2 hB) rfl ?_
  refine w_st (tg := 0) (j := 2) (len := 1) (pc' := 4) (lv' := [(2, (0, ((1 : Nat) : Int))), (1, (0, ((0 : Nat) : Int))), (0, (2, ((193 : Nat) : Int)))]) (o272_3 hB) rfl rfl ml272 (by decide) rfl ?_
  refine w_sub (lv' := [(2, (0, ((1 : Nat) : Int))), (1, (0, ((0 : Nat) : Int))), (0, (2, ((193 : Nat) : Int)))]) (List.forall_mem_cons.mpr ⟨(List.Mem.head _), (List.forall_mem_cons.mpr ⟨(List.Mem.tail _ (List.Mem.head _)), (List.forall_mem_cons.mpr ⟨(List.Mem.tail _ (List.Mem.tail _ (List.Mem.head _))), (fun _ hx => by cases hx)⟩)⟩)⟩) ?_
  exact key 8 0 rfl (fun v hv => absurd hv (Nat.not_lt_zero v))
theorem l_shM (hB : BytesOK) {g : bG} {l : Launch} {d : Nat} {Q : bQ} {s' rr : Nat} (hr : rr < 8) {t n0 : Int} : ∀ (n b : Nat) (h : bH), b + n = 40 → TR h → Q (some (0, 1)) (hz h 208 ((40 * rr) + b) n) → HW g l d 273 212 Q 85 [(5, (0, ((b : Nat) : Int))), (4, (0, ((rr : Nat) : Int))), (0, (2, ((193 : Nat) : Int))), (1, (0, ((s' : Nat) : Int))), (2, (0, (t))), (3, (0, (n0)))] [] h := by
  intro n
  induction n with
  | zero =>
    intro b h hb hR hq
    rw [hz_0] at hq
    refine w_pl (pc' := 87) (lv' := [(5, (0, ((b : Nat) : Int))), (4, (0, ((rr : Nat) : Int))), (0, (2, ((193 : Nat) : Int))), (1, (0, ((s' : Nat) : Int))), (2, (0, (t))), (3, (0, (n0)))]) (st' := [(0, ((b : Nat) : Int))]) (h' := h) (o273_50 hB) rfl ?_
    refine w_pl (pc' := 89) (lv' := [(5, (0, ((b : Nat) : Int))), (4, (0, ((rr : Nat) : Int))), (0, (2, ((193 : Nat) : Int))), (1, (0, ((s' : Nat) : Int))), (2, (0, (t))), (3, (0, (n0)))]) (st' := [(0, ((40 : Nat) : Int)), (0, ((b : Nat) : Int))]) (h' := h) (o273_51 hB) rfl ?_
    refine w_icmp (pt := 112) (pf := 92) (o273_52 hB) (by decide) rfl (fun e => ?_) (fun e => ?_)
    · have f132 : (((40 : Nat) : Int) ≤ ((b : Nat) : Int)) := e
      refine w_pl (pc' := 113) (lv' := [(5, (0, ((b : Nat) : Int))), (4, (0, ((rr : Nat) : Int))), (0, (2, ((193 : Nat) : Int))), (1, (0, ((s' : Nat) : Int))), (2, (0, (t))), (3, (0, (n0)))]) (st' := [(0, ((1 : Nat) : Int))]) (h' := h) (o273_64 hB) rfl ?_
      exact w_iret (o273_65 hB) mr273 (by unfold in32; omega) hq
    · have f133 : ¬ (((40 : Nat) : Int) ≤ ((b : Nat) : Int)) := e
      exfalso; omega
  | succ n ih =>
    intro b h hb hR hq
    refine w_pl (pc' := 87) (lv' := [(5, (0, ((b : Nat) : Int))), (4, (0, ((rr : Nat) : Int))), (0, (2, ((193 : Nat) : Int))), (1, (0, ((s' : Nat) : Int))), (2, (0, (t))), (3, (0, (n0)))]) (st' := [(0, ((b : Nat) : Int))]) (h' := h) (o273_50 hB) rfl ?_
    refine w_pl (pc' := 89) (lv' := [(5, (0, ((b : Nat) : Int))), (4, (0, ((rr : Nat) : Int))), (0, (2, ((193 : Nat) : Int))), (1, (0, ((s' : Nat) : Int))), (2, (0, (t))), (3, (0, (n0)))]) (st' := [(0, ((40 : Nat) : Int)), (0, ((b : Nat) : Int))]) (h' := h) (o273_51 hB) rfl ?_
    refine w_icmp (pt := 112) (pf := 92) (o273_52 hB) (by decide) rfl (fun e => ?_) (fun e => ?_)
    · have f134 : (((40 : Nat) : Int) ≤ ((b : Nat) : Int)) := e
      exfalso; omega
    · have f135 : ¬ (((40 : Nat) : Int) ≤ ((b : Nat) : Int)) := e
      refine w_pl (pc' := 93) (lv' := [(5, (0, ((b : Nat) : Int))), (4, (0, ((rr : Nat) : Int))), (0, (2, ((193 : Nat) : Int))), (1, (0, ((s' : Nat) : Int))), (2, (0, (t))), (3, (0, (n0)))]) (st' := [(2, ((193 : Nat) : Int))]) (h' := h) (o273_53 hB) rfl ?_
      refine w_getf (A := 193) (t := 2) (z := ((208 : Nat) : Int)) (pc' := 96) (o273_54 hB) rfl (by decide +kernel) (hR (193, 38, 208) (by decide)) ?_
      refine w_pl (pc' := 98) (lv' := [(5, (0, ((b : Nat) : Int))), (4, (0, ((rr : Nat) : Int))), (0, (2, ((193 : Nat) : Int))), (1, (0, ((s' : Nat) : Int))), (2, (0, (t))), (3, (0, (n0)))]) (st' := [(0, ((40 : Nat) : Int)), (2, ((208 : Nat) : Int))]) (h' := h) (o273_55 hB) rfl ?_
      refine w_pl (pc' := 100) (lv' := [(5, (0, ((b : Nat) : Int))), (4, (0, ((rr : Nat) : Int))), (0, (2, ((193 : Nat) : Int))), (1, (0, ((s' : Nat) : Int))), (2, (0, (t))), (3, (0, (n0)))]) (st' := [(0, ((rr : Nat) : Int)), (0, ((40 : Nat) : Int)), (2, ((208 : Nat) : Int))]) (h' := h) (o273_56 hB) rfl ?_
      refine w_imul (z := (((40 * rr) : Nat) : Int)) (pc' := 101) (o273_57 hB) rfl (w32_e (by omega) (by omega)) ?_
      refine w_pl (pc' := 103) (lv' := [(5, (0, ((b : Nat) : Int))), (4, (0, ((rr : Nat) : Int))), (0, (2, ((193 : Nat) : Int))), (1, (0, ((s' : Nat) : Int))), (2, (0, (t))), (3, (0, (n0)))]) (st' := [(0, ((b : Nat) : Int)), (0, (((40 * rr) : Nat) : Int)), (2, ((208 : Nat) : Int))]) (h' := h) (o273_58 hB) rfl ?_
      refine w_iadd (z := ((((40 * rr) + b) : Nat) : Int)) (pc' := 104) (o273_59 hB) rfl (w32_e (by omega) (by omega)) ?_
      refine w_pl (pc' := 105) (lv' := [(5, (0, ((b : Nat) : Int))), (4, (0, ((rr : Nat) : Int))), (0, (2, ((193 : Nat) : Int))), (1, (0, ((s' : Nat) : Int))), (2, (0, (t))), (3, (0, (n0)))]) (st' := [(0, ((0 : Nat) : Int)), (0, ((((40 * rr) + b) : Nat) : Int)), (2, ((208 : Nat) : Int))]) (h' := h) (o273_60 hB) rfl ?_
      refine w_iast (A := 208) (i := ((40 * rr) + b)) (n := 320) (pc' := 106) (o273_61 hB) rfl (by decide +kernel) (by omega) ?_
      refine w_iinc (x := ((b : Nat) : Int)) (z := (((b + 1) : Nat) : Int)) (pc' := 109) (lv' := [(5, (0, (((b + 1) : Nat) : Int))), (4, (0, ((rr : Nat) : Int))), (0, (2, ((193 : Nat) : Int))), (1, (0, ((s' : Nat) : Int))), (2, (0, (t))), (3, (0, (n0)))]) (o273_62 hB) rfl rfl ml273 (by decide) (w32_e (by omega) (by omega)) rfl ?_
      refine w_goto (pt := 85) (o273_63 hB) (by decide) ?_
      refine w_sub (lv' := [(5, (0, (((b + 1) : Nat) : Int))), (4, (0, ((rr : Nat) : Int))), (0, (2, ((193 : Nat) : Int))), (1, (0, ((s' : Nat) : Int))), (2, (0, (t))), (3, (0, (n0)))]) (List.forall_mem_cons.mpr ⟨(List.Mem.head _), (List.forall_mem_cons.mpr ⟨(List.Mem.tail _ (List.Mem.head _)), (List.forall_mem_cons.mpr ⟨(List.Mem.tail _ (List.Mem.tail _ (List.Mem.head _))), (List.forall_mem_cons.mpr ⟨(List.Mem.tail _ (List.Mem.tail _ (List.Mem.tail _ (List.Mem.head _)))), (List.forall_mem_cons.mpr ⟨(List.Mem.tail _ (List.Mem.tail _ (List.Mem.tail _ (List.Mem.tail _ (List.Mem.head _))))), (List.forall_mem_cons.mpr ⟨(List.Mem.tail _ (List.Mem.tail _ (List.Mem.tail _ (List.Mem.tail _ (List.Mem.tail _ (List.Mem.head _)))))), (fun _ hx => by cases hx)⟩)⟩)⟩)⟩)⟩)⟩) ?_
      refine ih (b + 1) _ (by omega) (TR_a hR (by decide +kernel)) ?_
      rw [show ((40 * rr) + (b + 1)) = ((40 * rr) + b) + 1 from by omega]
      rw [show ((0 : Nat) : Int) = 0 from rfl, hz_s]
      exact hq
theorem m_sheetM (hB : BytesOK) {g : bG} {l : Launch} {d : Nat} {Q : bQ} {h : bH} {s t n : Int} (ht : TH h) (z_s : in32 s) (z_t : in32 t) (z_n : in32 n)  (a0 : ¬ ((0 ≤ s ∧ s ≤ 3) ∧ -1 ≤ t ∧ t ≤ 3 ∧ (0 ≤ t → n ≤ 40)) → Q (some (0, (-1))) h) (a1 : ((0 ≤ s ∧ s ≤ 3) ∧ -1 ≤ t ∧ t ≤ 3 ∧ (0 ≤ t → n ≤ 40)) ∧ 0 ≤ t ∧ n < 0 → Q (some (0, (-14))) h) (a2 : ((0 ≤ s ∧ s ≤ 3) ∧ -1 ≤ t ∧ t ≤ 3 ∧ (0 ≤ t → n ≤ 40)) ∧ t < 0 → Q (some (0, 1)) (hup h 205 ((s.toNat)) (-1))) (a3 : ∀ rr : Nat, (rr < 8 ∧ ∀ k, k < 4 → k ≠ s.toNat → h 205 k ≠ (rr : Int)) → ((0 ≤ s ∧ s ≤ 3) ∧ -1 ≤ t ∧ t ≤ 3 ∧ (0 ≤ t → n ≤ 40)) ∧ 0 ≤ t ∧ 0 ≤ n → Q (some (0, 1)) (hz (hup (hup (hup (hup h 205 ((s.toNat)) (-1)) 205 ((s.toNat)) ((rr : Nat) : Int)) 206 (rr) t) 207 (rr) n) (208) ((40 * rr) + 0) 40)) : MH g l (d + 1 + 1) 273 212 212 [(2, ((193 : Nat) : Int)), (0, (s)), (0, (t)), (0, (n))] h Q := by
  have hR := ht.r
  have z0_s := z_s
  have z0_t := z_t
  have z0_n := z_n
  unfold in32 at z0_s
  unfold in32 at z0_t
  unfold in32 at z0_n
  rcases (by omega : ¬ (0 ≤ s ∧ s ≤ 3) ∨ (0 ≤ s ∧ s ≤ 3)) with gg | gg
  · skip
    refine mh_go hB mg273 ml273 (Nat.le_of_ble_eq_true rfl) ?_
    show HW g l (d + 1 + 1) 273 _ _ 0 [(0, (2, ((193 : Nat) : Int))), (1, (0, (s))), (2, (0, (t))), (3, (0, (n)))] [] h
    refine w_pl (pc' := 1) (lv' := [(0, (2, ((193 : Nat) : Int))), (1, (0, (s))), (2, (0, (t))), (3, (0, (n)))]) (st' := [(0, (s))]) (h' := h) (o273_0 hB) rfl ?_
    refine w_callS (as := [(0, (s))]) (rest := []) (n := 1) (pc' := 4) hB (o273_1 hB) rfl (by decide +kernel) rfl rfl (Nat.le_of_ble_eq_true rfl) (m_isFourM hB (fun f168 => ?_) (fun f169 => ?_))
    · exfalso; omega
    · show HW g l _ 273 _ _ 4 [(0, (2, ((193 : Nat) : Int))), (1, (0, (s))), (2, (0, (t))), (3, (0, (n)))] [(0, ((0 : Nat) : Int))] h
      refine w_ifc (pt := 26) (pf := 7) (o273_2 hB) (by decide) rfl (fun e => ?_) (fun e => ?_)
      · have f170 : (((0 : Nat) : Int) = (0)) := e
        refine w_pl (pc' := 27) (lv' := [(0, (2, ((193 : Nat) : Int))), (1, (0, (s))), (2, (0, (t))), (3, (0, (n)))]) (st' := [(0, (-1))]) (h' := h) (o273_13 hB) rfl ?_
        exact w_iret (o273_14 hB) mr273 (by unfold in32; omega) (a0 (by omega))
      · have f171 : ¬ (((0 : Nat) : Int) = (0)) := e
        exfalso; omega
  · obtain ⟨s', e_s⟩ : ∃ q : Nat, s = q := ⟨s.toNat, by omega⟩
    subst e_s
    simp only [Int.toNat_natCast] at a2 a3
    refine mh_go hB mg273 ml273 (Nat.le_of_ble_eq_true rfl) ?_
    show HW g l (d + 1 + 1) 273 _ _ 0 [(0, (2, ((193 : Nat) : Int))), (1, (0, ((s' : Nat) : Int))), (2, (0, (t))), (3, (0, (n)))] [] h
    refine w_pl (pc' := 1) (lv' := [(0, (2, ((193 : Nat) : Int))), (1, (0, ((s' : Nat) : Int))), (2, (0, (t))), (3, (0, (n)))]) (st' := [(0, ((s' : Nat) : Int))]) (h' := h) (o273_0 hB) rfl ?_
    refine w_callS (as := [(0, ((s' : Nat) : Int))]) (rest := []) (n := 1) (pc' := 4) hB (o273_1 hB) rfl (by decide +kernel) rfl rfl (Nat.le_of_ble_eq_true rfl) (m_isFourM hB (fun f172 => ?_) (fun f173 => ?_))
    · show HW g l _ 273 _ _ 4 [(0, (2, ((193 : Nat) : Int))), (1, (0, ((s' : Nat) : Int))), (2, (0, (t))), (3, (0, (n)))] [(0, ((1 : Nat) : Int))] h
      refine w_ifc (pt := 26) (pf := 7) (o273_2 hB) (by decide) rfl (fun e => ?_) (fun e => ?_)
      · have f174 : (((1 : Nat) : Int) = (0)) := e
        exfalso; omega
      · have f175 : ¬ (((1 : Nat) : Int) = (0)) := e
        refine w_pl (pc' := 8) (lv' := [(0, (2, ((193 : Nat) : Int))), (1, (0, ((s' : Nat) : Int))), (2, (0, (t))), (3, (0, (n)))]) (st' := [(0, (t))]) (h' := h) (o273_3 hB) rfl ?_
        refine w_pl (pc' := 9) (lv' := [(0, (2, ((193 : Nat) : Int))), (1, (0, ((s' : Nat) : Int))), (2, (0, (t))), (3, (0, (n)))]) (st' := [(0, (-1)), (0, (t))]) (h' := h) (o273_4 hB) rfl ?_
        refine w_pl (pc' := 10) (lv' := [(0, (2, ((193 : Nat) : Int))), (1, (0, ((s' : Nat) : Int))), (2, (0, (t))), (3, (0, (n)))]) (st' := [(0, ((3 : Nat) : Int)), (0, (-1)), (0, (t))]) (h' := h) (o273_5 hB) rfl ?_
        refine w_callS (as := [(0, (t)), (0, (-1)), (0, ((3 : Nat) : Int))]) (rest := []) (n := 3) (pc' := 13) hB (o273_6 hB) rfl (by decide +kernel) rfl rfl (Nat.le_of_ble_eq_true rfl) (m_in hB (fun f176 => ?_) (fun f177 => ?_))
        · show HW g l _ 273 _ _ 13 [(0, (2, ((193 : Nat) : Int))), (1, (0, ((s' : Nat) : Int))), (2, (0, (t))), (3, (0, (n)))] [(0, ((1 : Nat) : Int))] h
          refine w_ifc (pt := 26) (pf := 16) (o273_7 hB) (by decide) rfl (fun e => ?_) (fun e => ?_)
          · have f178 : (((1 : Nat) : Int) = (0)) := e
            exfalso; omega
          · have f179 : ¬ (((1 : Nat) : Int) = (0)) := e
            refine w_pl (pc' := 17) (lv' := [(0, (2, ((193 : Nat) : Int))), (1, (0, ((s' : Nat) : Int))), (2, (0, (t))), (3, (0, (n)))]) (st' := [(0, (t))]) (h' := h) (o273_8 hB) rfl ?_
            refine w_ifc (pt := 28) (pf := 20) (o273_9 hB) (by decide) rfl (fun e => ?_) (fun e => ?_)
            · have f180 : ((t) < (0)) := e
              refine w_pl (pc' := 29) (lv' := [(0, (2, ((193 : Nat) : Int))), (1, (0, ((s' : Nat) : Int))), (2, (0, (t))), (3, (0, (n)))]) (st' := [(0, (t))]) (h' := h) (o273_15 hB) rfl ?_
              refine w_ifc (pt := 39) (pf := 32) (o273_16 hB) (by decide) rfl (fun e => ?_) (fun e => ?_)
              · have f181 : ((t) < (0)) := e
                refine w_pl (pc' := 40) (lv' := [(0, (2, ((193 : Nat) : Int))), (1, (0, ((s' : Nat) : Int))), (2, (0, (t))), (3, (0, (n)))]) (st' := [(2, ((193 : Nat) : Int))]) (h' := h) (o273_21 hB) rfl ?_
                refine w_getf (A := 193) (t := 2) (z := ((205 : Nat) : Int)) (pc' := 43) (o273_22 hB) rfl (by decide +kernel) (hR (193, 35, 205) (by decide)) ?_
                refine w_pl (pc' := 44) (lv' := [(0, (2, ((193 : Nat) : Int))), (1, (0, ((s' : Nat) : Int))), (2, (0, (t))), (3, (0, (n)))]) (st' := [(0, ((s' : Nat) : Int)), (2, ((205 : Nat) : Int))]) (h' := h) (o273_23 hB) rfl ?_
                refine w_pl (pc' := 45) (lv' := [(0, (2, ((193 : Nat) : Int))), (1, (0, ((s' : Nat) : Int))), (2, (0, (t))), (3, (0, (n)))]) (st' := [(0, (-1)), (0, ((s' : Nat) : Int)), (2, ((205 : Nat) : Int))]) (h' := h) (o273_24 hB) rfl ?_
                refine w_iast (A := 205) (i := s') (n := 4) (pc' := 46) (o273_25 hB) rfl (by decide +kernel) (by omega) ?_
                refine w_pl (pc' := 47) (lv' := [(0, (2, ((193 : Nat) : Int))), (1, (0, ((s' : Nat) : Int))), (2, (0, (t))), (3, (0, (n)))]) (st' := [(0, (t))]) (h' := (hup h 205 (s') (-1))) (o273_26 hB) rfl ?_
                refine w_ifc (pt := 52) (pf := 50) (o273_27 hB) (by decide) rfl (fun e => ?_) (fun e => ?_)
                · have f182 : ((0) ≤ (t)) := e
                  refine w_pl (pc' := 53) (lv' := [(0, (2, ((193 : Nat) : Int))), (1, (0, ((s' : Nat) : Int))), (2, (0, (t))), (3, (0, (n)))]) (st' := [(2, ((193 : Nat) : Int))]) (h' := (hup h 205 (s') (-1))) (o273_30 hB) rfl ?_
                  refine w_callV (A := 193) (as := []) (rest := []) (n := 0) (pc' := 56) 11 hB (o273_31 hB) rfl (by decide +kernel) rfl rfl (Nat.le_of_ble_eq_true rfl) (m_freeRow hB (s := s') ((ht).ups2 (a := 205) (s := 0) (st := 1) (n := 4) (lo := (-1)) (hi := 7) (r := s') (by decide +kernel) (by omega) (by omega) (by omega)) (by omega) hup_eq (fun rr hr hf => ?_))
                  show HW g l _ 273 _ _ 56 [(0, (2, ((193 : Nat) : Int))), (1, (0, ((s' : Nat) : Int))), (2, (0, (t))), (3, (0, (n)))] [(0, ((rr : Nat) : Int))] (hup h 205 (s') (-1))
                  refine w_st (tg := 0) (j := 4) (len := 2) (pc' := 58) (lv' := [(4, (0, ((rr : Nat) : Int))), (0, (2, ((193 : Nat) : Int))), (1, (0, ((s' : Nat) : Int))), (2, (0, (t))), (3, (0, (n)))]) (o273_32 hB) rfl rfl ml273 (by decide) rfl ?_
                  refine w_pl (pc' := 59) (lv' := [(4, (0, ((rr : Nat) : Int))), (0, (2, ((193 : Nat) : Int))), (1, (0, ((s' : Nat) : Int))), (2, (0, (t))), (3, (0, (n)))]) (st' := [(2, ((193 : Nat) : Int))]) (h' := (hup h 205 (s') (-1))) (o273_33 hB) rfl ?_
                  refine w_getf (A := 193) (t := 2) (z := ((205 : Nat) : Int)) (pc' := 62) (o273_34 hB) rfl (by decide +kernel) ((hup_ne (by decide)).trans (hR (193, 35, 205) (by decide))) ?_
                  refine w_pl (pc' := 63) (lv' := [(4, (0, ((rr : Nat) : Int))), (0, (2, ((193 : Nat) : Int))), (1, (0, ((s' : Nat) : Int))), (2, (0, (t))), (3, (0, (n)))]) (st' := [(0, ((s' : Nat) : Int)), (2, ((205 : Nat) : Int))]) (h' := (hup h 205 (s') (-1))) (o273_35 hB) rfl ?_
                  refine w_pl (pc' := 65) (lv' := [(4, (0, ((rr : Nat) : Int))), (0, (2, ((193 : Nat) : Int))), (1, (0, ((s' : Nat) : Int))), (2, (0, (t))), (3, (0, (n)))]) (st' := [(0, ((rr : Nat) : Int)), (0, ((s' : Nat) : Int)), (2, ((205 : Nat) : Int))]) (h' := (hup h 205 (s') (-1))) (o273_36 hB) rfl ?_
                  refine w_iast (A := 205) (i := s') (n := 4) (pc' := 66) (o273_37 hB) rfl (by decide +kernel) (by omega) ?_
                  refine w_pl (pc' := 67) (lv' := [(4, (0, ((rr : Nat) : Int))), (0, (2, ((193 : Nat) : Int))), (1, (0, ((s' : Nat) : Int))), (2, (0, (t))), (3, (0, (n)))]) (st' := [(2, ((193 : Nat) : Int))]) (h' := (hup (hup h 205 (s') (-1)) 205 (s') ((rr : Nat) : Int))) (o273_38 hB) rfl ?_
                  refine w_getf (A := 193) (t := 2) (z := ((206 : Nat) : Int)) (pc' := 70) (o273_39 hB) rfl (by decide +kernel) ((hup_ne (by decide)).trans ((hup_ne (by decide)).trans (hR (193, 36, 206) (by decide)))) ?_
                  refine w_pl (pc' := 72) (lv' := [(4, (0, ((rr : Nat) : Int))), (0, (2, ((193 : Nat) : Int))), (1, (0, ((s' : Nat) : Int))), (2, (0, (t))), (3, (0, (n)))]) (st' := [(0, ((rr : Nat) : Int)), (2, ((206 : Nat) : Int))]) (h' := (hup (hup h 205 (s') (-1)) 205 (s') ((rr : Nat) : Int))) (o273_40 hB) rfl ?_
                  refine w_pl (pc' := 73) (lv' := [(4, (0, ((rr : Nat) : Int))), (0, (2, ((193 : Nat) : Int))), (1, (0, ((s' : Nat) : Int))), (2, (0, (t))), (3, (0, (n)))]) (st' := [(0, (t)), (0, ((rr : Nat) : Int)), (2, ((206 : Nat) : Int))]) (h' := (hup (hup h 205 (s') (-1)) 205 (s') ((rr : Nat) : Int))) (o273_41 hB) rfl ?_
                  refine w_iast (A := 206) (i := rr) (n := 8) (pc' := 74) (o273_42 hB) rfl (by decide +kernel) (by omega) ?_
                  refine w_pl (pc' := 75) (lv' := [(4, (0, ((rr : Nat) : Int))), (0, (2, ((193 : Nat) : Int))), (1, (0, ((s' : Nat) : Int))), (2, (0, (t))), (3, (0, (n)))]) (st' := [(2, ((193 : Nat) : Int))]) (h' := (hup (hup (hup h 205 (s') (-1)) 205 (s') ((rr : Nat) : Int)) 206 (rr) (t))) (o273_43 hB) rfl ?_
                  refine w_getf (A := 193) (t := 2) (z := ((207 : Nat) : Int)) (pc' := 78) (o273_44 hB) rfl (by decide +kernel) ((hup_ne (by decide)).trans ((hup_ne (by decide)).trans ((hup_ne (by decide)).trans (hR (193, 37, 207) (by decide))))) ?_
                  refine w_pl (pc' := 80) (lv' := [(4, (0, ((rr : Nat) : Int))), (0, (2, ((193 : Nat) : Int))), (1, (0, ((s' : Nat) : Int))), (2, (0, (t))), (3, (0, (n)))]) (st' := [(0, ((rr : Nat) : Int)), (2, ((207 : Nat) : Int))]) (h' := (hup (hup (hup h 205 (s') (-1)) 205 (s') ((rr : Nat) : Int)) 206 (rr) (t))) (o273_45 hB) rfl ?_
                  refine w_pl (pc' := 81) (lv' := [(4, (0, ((rr : Nat) : Int))), (0, (2, ((193 : Nat) : Int))), (1, (0, ((s' : Nat) : Int))), (2, (0, (t))), (3, (0, (n)))]) (st' := [(0, (n)), (0, ((rr : Nat) : Int)), (2, ((207 : Nat) : Int))]) (h' := (hup (hup (hup h 205 (s') (-1)) 205 (s') ((rr : Nat) : Int)) 206 (rr) (t))) (o273_46 hB) rfl ?_
                  refine w_iast (A := 207) (i := rr) (n := 8) (pc' := 82) (o273_47 hB) rfl (by decide +kernel) (by omega) ?_
                  refine w_pl (pc' := 83) (lv' := [(4, (0, ((rr : Nat) : Int))), (0, (2, ((193 : Nat) : Int))), (1, (0, ((s' : Nat) : Int))), (2, (0, (t))), (3, (0, (n)))]) (st' := [(0, ((0 : Nat) : Int))]) (h' := (hup (hup (hup (hup h 205 (s') (-1)) 205 (s') ((rr : Nat) : Int)) 206 (rr) (t)) 207 (rr) (n))) (o273_48 hB) rfl ?_
                  refine w_st (tg := 0) (j := 5) (len := 2) (pc' := 85) (lv' := [(5, (0, ((0 : Nat) : Int))), (4, (0, ((rr : Nat) : Int))), (0, (2, ((193 : Nat) : Int))), (1, (0, ((s' : Nat) : Int))), (2, (0, (t))), (3, (0, (n)))]) (o273_49 hB) rfl rfl ml273 (by decide) rfl ?_
                  refine w_sub (lv' := [(5, (0, ((0 : Nat) : Int))), (4, (0, ((rr : Nat) : Int))), (0, (2, ((193 : Nat) : Int))), (1, (0, ((s' : Nat) : Int))), (2, (0, (t))), (3, (0, (n)))]) (List.forall_mem_cons.mpr ⟨(List.Mem.head _), (List.forall_mem_cons.mpr ⟨(List.Mem.tail _ (List.Mem.head _)), (List.forall_mem_cons.mpr ⟨(List.Mem.tail _ (List.Mem.tail _ (List.Mem.head _))), (List.forall_mem_cons.mpr ⟨(List.Mem.tail _ (List.Mem.tail _ (List.Mem.tail _ (List.Mem.head _)))), (List.forall_mem_cons.mpr ⟨(List.Mem.tail _ (List.Mem.tail _ (List.Mem.tail _ (List.Mem.tail _ (List.Mem.head _))))), (List.forall_mem_cons.mpr ⟨(List.Mem.tail _ (List.Mem.tail _ (List.Mem.tail _ (List.Mem.tail _ (List.Mem.tail _ (List.Mem.head _)))))), (fun _ hx => by cases hx)⟩)⟩)⟩)⟩)⟩)⟩) ?_
                  exact l_shM hB hr 40 0 _ rfl (TR_a (TR_a (TR_a (TR_a hR (by decide +kernel)) (by decide +kernel)) (by decide +kernel)) (by decide +kernel)) (a3 rr ⟨hr, fun k h1 h2 => by rw [← hup_nj (h := h) (a := 205) (j := s') (x := (-1)) h2]; exact hf k h1⟩ (by omega))
                · have f184 : ¬ ((0) ≤ (t)) := e
                  refine w_pl (pc' := 51) (lv' := [(0, (2, ((193 : Nat) : Int))), (1, (0, ((s' : Nat) : Int))), (2, (0, (t))), (3, (0, (n)))]) (st' := [(0, ((1 : Nat) : Int))]) (h' := (hup h 205 (s') (-1))) (o273_28 hB) rfl ?_
                  exact w_iret (o273_29 hB) mr273 (by unfold in32; omega) (a2 (by omega))
              · have f185 : ¬ ((t) < (0)) := e
                exfalso; omega
            · have f186 : ¬ ((t) < (0)) := e
              refine w_pl (pc' := 21) (lv' := [(0, (2, ((193 : Nat) : Int))), (1, (0, ((s' : Nat) : Int))), (2, (0, (t))), (3, (0, (n)))]) (st' := [(0, (n))]) (h' := h) (o273_10 hB) rfl ?_
              refine w_pl (pc' := 23) (lv' := [(0, (2, ((193 : Nat) : Int))), (1, (0, ((s' : Nat) : Int))), (2, (0, (t))), (3, (0, (n)))]) (st' := [(0, ((40 : Nat) : Int)), (0, (n))]) (h' := h) (o273_11 hB) rfl ?_
              refine w_icmp (pt := 28) (pf := 26) (o273_12 hB) (by decide) rfl (fun e => ?_) (fun e => ?_)
              · have f187 : ((n) ≤ ((40 : Nat) : Int)) := e
                refine w_pl (pc' := 29) (lv' := [(0, (2, ((193 : Nat) : Int))), (1, (0, ((s' : Nat) : Int))), (2, (0, (t))), (3, (0, (n)))]) (st' := [(0, (t))]) (h' := h) (o273_15 hB) rfl ?_
                refine w_ifc (pt := 39) (pf := 32) (o273_16 hB) (by decide) rfl (fun e => ?_) (fun e => ?_)
                · have f188 : ((t) < (0)) := e
                  exfalso; omega
                · have f189 : ¬ ((t) < (0)) := e
                  refine w_pl (pc' := 33) (lv' := [(0, (2, ((193 : Nat) : Int))), (1, (0, ((s' : Nat) : Int))), (2, (0, (t))), (3, (0, (n)))]) (st' := [(0, (n))]) (h' := h) (o273_17 hB) rfl ?_
                  refine w_ifc (pt := 39) (pf := 36) (o273_18 hB) (by decide) rfl (fun e => ?_) (fun e => ?_)
                  · have f190 : ((0) ≤ (n)) := e
                    refine w_pl (pc' := 40) (lv' := [(0, (2, ((193 : Nat) : Int))), (1, (0, ((s' : Nat) : Int))), (2, (0, (t))), (3, (0, (n)))]) (st' := [(2, ((193 : Nat) : Int))]) (h' := h) (o273_21 hB) rfl ?_
                    refine w_getf (A := 193) (t := 2) (z := ((205 : Nat) : Int)) (pc' := 43) (o273_22 hB) rfl (by decide +kernel) (hR (193, 35, 205) (by decide)) ?_
                    refine w_pl (pc' := 44) (lv' := [(0, (2, ((193 : Nat) : Int))), (1, (0, ((s' : Nat) : Int))), (2, (0, (t))), (3, (0, (n)))]) (st' := [(0, ((s' : Nat) : Int)), (2, ((205 : Nat) : Int))]) (h' := h) (o273_23 hB) rfl ?_
                    refine w_pl (pc' := 45) (lv' := [(0, (2, ((193 : Nat) : Int))), (1, (0, ((s' : Nat) : Int))), (2, (0, (t))), (3, (0, (n)))]) (st' := [(0, (-1)), (0, ((s' : Nat) : Int)), (2, ((205 : Nat) : Int))]) (h' := h) (o273_24 hB) rfl ?_
                    refine w_iast (A := 205) (i := s') (n := 4) (pc' := 46) (o273_25 hB) rfl (by decide +kernel) (by omega) ?_
                    refine w_pl (pc' := 47) (lv' := [(0, (2, ((193 : Nat) : Int))), (1, (0, ((s' : Nat) : Int))), (2, (0, (t))), (3, (0, (n)))]) (st' := [(0, (t))]) (h' := (hup h 205 (s') (-1))) (o273_26 hB) rfl ?_
                    refine w_ifc (pt := 52) (pf := 50) (o273_27 hB) (by decide) rfl (fun e => ?_) (fun e => ?_)
                    · have f191 : ((0) ≤ (t)) := e
                      refine w_pl (pc' := 53) (lv' := [(0, (2, ((193 : Nat) : Int))), (1, (0, ((s' : Nat) : Int))), (2, (0, (t))), (3, (0, (n)))]) (st' := [(2, ((193 : Nat) : Int))]) (h' := (hup h 205 (s') (-1))) (o273_30 hB) rfl ?_
                      refine w_callV (A := 193) (as := []) (rest := []) (n := 0) (pc' := 56) 11 hB (o273_31 hB) rfl (by decide +kernel) rfl rfl (Nat.le_of_ble_eq_true rfl) (m_freeRow hB (s := s') ((ht).ups2 (a := 205) (s := 0) (st := 1) (n := 4) (lo := (-1)) (hi := 7) (r := s') (by decide +kernel) (by omega) (by omega) (by omega)) (by omega) hup_eq (fun rr hr hf => ?_))
                      show HW g l _ 273 _ _ 56 [(0, (2, ((193 : Nat) : Int))), (1, (0, ((s' : Nat) : Int))), (2, (0, (t))), (3, (0, (n)))] [(0, ((rr : Nat) : Int))] (hup h 205 (s') (-1))
                      refine w_st (tg := 0) (j := 4) (len := 2) (pc' := 58) (lv' := [(4, (0, ((rr : Nat) : Int))), (0, (2, ((193 : Nat) : Int))), (1, (0, ((s' : Nat) : Int))), (2, (0, (t))), (3, (0, (n)))]) (o273_32 hB) rfl rfl ml273 (by decide) rfl ?_
                      refine w_pl (pc' := 59) (lv' := [(4, (0, ((rr : Nat) : Int))), (0, (2, ((193 : Nat) : Int))), (1, (0, ((s' : Nat) : Int))), (2, (0, (t))), (3, (0, (n)))]) (st' := [(2, ((193 : Nat) : Int))]) (h' := (hup h 205 (s') (-1))) (o273_33 hB) rfl ?_
                      refine w_getf (A := 193) (t := 2) (z := ((205 : Nat) : Int)) (pc' := 62) (o273_34 hB) rfl (by decide +kernel) ((hup_ne (by decide)).trans (hR (193, 35, 205) (by decide))) ?_
                      refine w_pl (pc' := 63) (lv' := [(4, (0, ((rr : Nat) : Int))), (0, (2, ((193 : Nat) : Int))), (1, (0, ((s' : Nat) : Int))), (2, (0, (t))), (3, (0, (n)))]) (st' := [(0, ((s' : Nat) : Int)), (2, ((205 : Nat) : Int))]) (h' := (hup h 205 (s') (-1))) (o273_35 hB) rfl ?_
                      refine w_pl (pc' := 65) (lv' := [(4, (0, ((rr : Nat) : Int))), (0, (2, ((193 : Nat) : Int))), (1, (0, ((s' : Nat) : Int))), (2, (0, (t))), (3, (0, (n)))]) (st' := [(0, ((rr : Nat) : Int)), (0, ((s' : Nat) : Int)), (2, ((205 : Nat) : Int))]) (h' := (hup h 205 (s') (-1))) (o273_36 hB) rfl ?_
                      refine w_iast (A := 205) (i := s') (n := 4) (pc' := 66) (o273_37 hB) rfl (by decide +kernel) (by omega) ?_
                      refine w_pl (pc' := 67) (lv' := [(4, (0, ((rr : Nat) : Int))), (0, (2, ((193 : Nat) : Int))), (1, (0, ((s' : Nat) : Int))), (2, (0, (t))), (3, (0, (n)))]) (st' := [(2, ((193 : Nat) : Int))]) (h' := (hup (hup h 205 (s') (-1)) 205 (s') ((rr : Nat) : Int))) (o273_38 hB) rfl ?_
                      refine w_getf (A := 193) (t := 2) (z := ((206 : Nat) : Int)) (pc' := 70) (o273_39 hB) rfl (by decide +kernel) ((hup_ne (by decide)).trans ((hup_ne (by decide)).trans (hR (193, 36, 206) (by decide)))) ?_
                      refine w_pl (pc' := 72) (lv' := [(4, (0, ((rr : Nat) : Int))), (0, (2, ((193 : Nat) : Int))), (1, (0, ((s' : Nat) : Int))), (2, (0, (t))), (3, (0, (n)))]) (st' := [(0, ((rr : Nat) : Int)), (2, ((206 : Nat) : Int))]) (h' := (hup (hup h 205 (s') (-1)) 205 (s') ((rr : Nat) : Int))) (o273_40 hB) rfl ?_
                      refine w_pl (pc' := 73) (lv' := [(4, (0, ((rr : Nat) : Int))), (0, (2, ((193 : Nat) : Int))), (1, (0, ((s' : Nat) : Int))), (2, (0, (t))), (3, (0, (n)))]) (st' := [(0, (t)), (0, ((rr : Nat) : Int)), (2, ((206 : Nat) : Int))]) (h' := (hup (hup h 205 (s') (-1)) 205 (s') ((rr : Nat) : Int))) (o273_41 hB) rfl ?_
                      refine w_iast (A := 206) (i := rr) (n := 8) (pc' := 74) (o273_42 hB) rfl (by decide +kernel) (by omega) ?_
                      refine w_pl (pc' := 75) (lv' := [(4, (0, ((rr : Nat) : Int))), (0, (2, ((193 : Nat) : Int))), (1, (0, ((s' : Nat) : Int))), (2, (0, (t))), (3, (0, (n)))]) (st' := [(2, ((193 : Nat) : Int))]) (h' := (hup (hup (hup h 205 (s') (-1)) 205 (s') ((rr : Nat) : Int)) 206 (rr) (t))) (o273_43 hB) rfl ?_
                      refine w_getf (A := 193) (t := 2) (z := ((207 : Nat) : Int)) (pc' := 78) (o273_44 hB) rfl (by decide +kernel) ((hup_ne (by decide)).trans ((hup_ne (by decide)).trans ((hup_ne (by decide)).trans (hR (193, 37, 207) (by decide))))) ?_
                      refine w_pl (pc' := 80) (lv' := [(4, (0, ((rr : Nat) : Int))), (0, (2, ((193 : Nat) : Int))), (1, (0, ((s' : Nat) : Int))), (2, (0, (t))), (3, (0, (n)))]) (st' := [(0, ((rr : Nat) : Int)), (2, ((207 : Nat) : Int))]) (h' := (hup (hup (hup h 205 (s') (-1)) 205 (s') ((rr : Nat) : Int)) 206 (rr) (t))) (o273_45 hB) rfl ?_
                      refine w_pl (pc' := 81) (lv' := [(4, (0, ((rr : Nat) : Int))), (0, (2, ((193 : Nat) : Int))), (1, (0, ((s' : Nat) : Int))), (2, (0, (t))), (3, (0, (n)))]) (st' := [(0, (n)), (0, ((rr : Nat) : Int)), (2, ((207 : Nat) : Int))]) (h' := (hup (hup (hup h 205 (s') (-1)) 205 (s') ((rr : Nat) : Int)) 206 (rr) (t))) (o273_46 hB) rfl ?_
                      refine w_iast (A := 207) (i := rr) (n := 8) (pc' := 82) (o273_47 hB) rfl (by decide +kernel) (by omega) ?_
                      refine w_pl (pc' := 83) (lv' := [(4, (0, ((rr : Nat) : Int))), (0, (2, ((193 : Nat) : Int))), (1, (0, ((s' : Nat) : Int))), (2, (0, (t))), (3, (0, (n)))]) (st' := [(0, ((0 : Nat) : Int))]) (h' := (hup (hup (hup (hup h 205 (s') (-1)) 205 (s') ((rr : Nat) : Int)) 206 (rr) (t)) 207 (rr) (n))) (o273_48 hB) rfl ?_
                      refine w_st (tg := 0) (j := 5) (len := 2) (pc' := 85) (lv' := [(5, (0, ((0 : Nat) : Int))), (4, (0, ((rr : Nat) : Int))), (0, (2, ((193 : Nat) : Int))), (1, (0, ((s' : Nat) : Int))), (2, (0, (t))), (3, (0, (n)))]) (o273_49 hB) rfl rfl ml273 (by decide) rfl ?_
                      refine w_sub (lv' := [(5, (0, ((0 : Nat) : Int))), (4, (0, ((rr : Nat) : Int))), (0, (2, ((193 : Nat) : Int))), (1, (0, ((s' : Nat) : Int))), (2, (0, (t))), (3, (0, (n)))]) (List.forall_mem_cons.mpr ⟨(List.Mem.head _), (List.forall_mem_cons.mpr ⟨(List.Mem.tail _ (List.Mem.head _)), (List.forall_mem_cons.mpr ⟨(List.Mem.tail _ (List.Mem.tail _ (List.Mem.head _))), (List.forall_mem_cons.mpr ⟨(List.Mem.tail _ (List.Mem.tail _ (List.Mem.tail _ (List.Mem.head _)))), (List.forall_mem_cons.mpr ⟨(List.Mem.tail _ (List.Mem.tail _ (List.Mem.tail _ (List.Mem.tail _ (List.Mem.head _))))), (List.forall_mem_cons.mpr ⟨(List.Mem.tail _ (List.Mem.tail _ (List.Mem.tail _ (List.Mem.tail _ (List.Mem.tail _ (List.Mem.head _)))))), (fun _ hx => by cases hx)⟩)⟩)⟩)⟩)⟩)⟩) ?_
                      exact l_shM hB hr 40 0 _ rfl (TR_a (TR_a (TR_a (TR_a hR (by decide +kernel)) (by decide +kernel)) (by decide +kernel)) (by decide +kernel)) (a3 rr ⟨hr, fun k h1 h2 => by rw [← hup_nj (h := h) (a := 205) (j := s') (x := (-1)) h2]; exact hf k h1⟩ (by omega))
                    · have f193 : ¬ ((0) ≤ (t)) := e
                      refine w_pl (pc' := 51) (lv' := [(0, (2, ((193 : Nat) : Int))), (1, (0, ((s' : Nat) : Int))), (2, (0, (t))), (3, (0, (n)))]) (st' := [(0, ((1 : Nat) : Int))]) (h' := (hup h 205 (s') (-1))) (o273_28 hB) rfl ?_
                      exact w_iret (o273_29 hB) mr273 (by unfold in32; omega) (a2 (by omega))
                  · have f194 : ¬ ((0) ≤ (n)) := e
                    refine w_pl (pc' := 38) (lv' := [(0, (2, ((193 : Nat) : Int))), (1, (0, ((s' : Nat) : Int))), (2, (0, (t))), (3, (0, (n)))]) (st' := [(0, (-14))]) (h' := h) (o273_19 hB) rfl ?_
                    exact w_iret (o273_20 hB) mr273 (by unfold in32; omega) (a1 (by omega))
              · have f195 : ¬ ((n) ≤ ((40 : Nat) : Int)) := e
                refine w_pl (pc' := 27) (lv' := [(0, (2, ((193 : Nat) : Int))), (1, (0, ((s' : Nat) : Int))), (2, (0, (t))), (3, (0, (n)))]) (st' := [(0, (-1))]) (h' := h) (o273_13 hB) rfl ?_
                exact w_iret (o273_14 hB) mr273 (by unfold in32; omega) (a0 (by omega))
        · show HW g l _ 273 _ _ 13 [(0, (2, ((193 : Nat) : Int))), (1, (0, ((s' : Nat) : Int))), (2, (0, (t))), (3, (0, (n)))] [(0, ((0 : Nat) : Int))] h
          refine w_ifc (pt := 26) (pf := 16) (o273_7 hB) (by decide) rfl (fun e => ?_) (fun e => ?_)
          · have f196 : (((0 : Nat) : Int) = (0)) := e
            refine w_pl (pc' := 27) (lv' := [(0, (2, ((193 : Nat) : Int))), (1, (0, ((s' : Nat) : Int))), (2, (0, (t))), (3, (0, (n)))]) (st' := [(0, (-1))]) (h' := h) (o273_13 hB) rfl ?_
            exact w_iret (o273_14 hB) mr273 (by unfold in32; omega) (a0 (by omega))
          · have f197 : ¬ (((0 : Nat) : Int) = (0)) := e
            exfalso; omega
    · show HW g l _ 273 _ _ 4 [(0, (2, ((193 : Nat) : Int))), (1, (0, ((s' : Nat) : Int))), (2, (0, (t))), (3, (0, (n)))] [(0, ((0 : Nat) : Int))] h
      refine w_ifc (pt := 26) (pf := 7) (o273_2 hB) (by decide) rfl (fun e => ?_) (fun e => ?_)
      · have f198 : (((0 : Nat) : Int) = (0)) := e
        refine w_pl (pc' := 27) (lv' := [(0, (2, ((193 : Nat) : Int))), (1, (0, ((s' : Nat) : Int))), (2, (0, (t))), (3, (0, (n)))]) (st' := [(0, (-1))]) (h' := h) (o273_13 hB) rfl ?_
        exact w_iret (o273_14 hB) mr273 (by unfold in32; omega) (a0 (by omega))
      · have f199 : ¬ (((0 : Nat) : Int) = (0)) := e
        exfalso; omega
def s_sheetM (vs : List bV) (h : bH) (r : Option bV) (h' : bH) : Prop := TH h ∧ ∀ (s t n : Int) , vs = [(2, ((193 : Nat) : Int)), (0, s), (0, t), (0, n)] → ((¬ ((0 ≤ s ∧ s ≤ 3) ∧ -1 ≤ t ∧ t ≤ 3 ∧ (0 ≤ t → n ≤ 40))) ∧ r = some (0, (-1)) ∧ h = h') ∨ ((((0 ≤ s ∧ s ≤ 3) ∧ -1 ≤ t ∧ t ≤ 3 ∧ (0 ≤ t → n ≤ 40)) ∧ 0 ≤ t ∧ n < 0) ∧ r = some (0, (-14)) ∧ h = h') ∨ ((((0 ≤ s ∧ s ≤ 3) ∧ -1 ≤ t ∧ t ≤ 3 ∧ (0 ≤ t → n ≤ 40)) ∧ t < 0) ∧ r = some (0, 1) ∧ h' = (hup h 205 ((s.toNat)) (-1))) ∨ (∃ rr : Nat, (rr < 8 ∧ ∀ k, k < 4 → k ≠ s.toNat → h 205 k ≠ (rr : Int)) ∧ (((0 ≤ s ∧ s ≤ 3) ∧ -1 ≤ t ∧ t ≤ 3 ∧ (0 ≤ t → n ≤ 40)) ∧ 0 ≤ t ∧ 0 ≤ n) ∧ r = some (0, 1) ∧ h' = (hz (hup (hup (hup (hup h 205 ((s.toNat)) (-1)) 205 ((s.toNat)) ((rr : Nat) : Int)) 206 (rr) t) 207 (rr) n) (208) ((40 * rr) + 0) 40))
def w_sheetM : List (Nat × Nat × Nat) := [(205, 0, 4), (206, 0, 8), (207, 0, 8), (208, 0, 320)]
def q_sheetM : aCt := cH 273 2 w_sheetM 3 193
theorem sk_sheetM (hB : BytesOK) (g : bG) (l : Launch) : SK g l gT q_sheetM s_sheetM := by
  intro d hd ρ h Q hcore hQ
  have hcore : core (PofW gT (some w_sheetM) false) (gsc g) h ρ h (List.replicate 3 r32, [], [], 212) := hcore
  have ht := hTH hcore
  have y0 := r32_0 hcore 0 (by decide)
  have y1 := r32_0 hcore 1 (by decide)
  have y2 := r32_0 hcore 2 (by decide)
  have y00 := y0
  unfold in32 at y00
  have y01 := y1
  unfold in32 at y01
  have y02 := y2
  unfold in32 at y02
  obtain ⟨d', rfl⟩ : ∃ d', d = d' + 1 + 1 := ⟨d - 2, by have : 2 ≤ d := hd; omega⟩
  rw [show evS ρ (ctA q_sheetM) = [(2, ((193 : Nat) : Int)), (0, ρ 0), (0, ρ 1), (0, ρ 2)] from evA3]
  refine m_sheetM (s := ρ 0) (t := ρ 1) (n := ρ 2) hB ht y0 y1 y2 (fun hn => ?_) (fun hn => ?_) (fun hn => ?_) (fun rr hP hn => ?_)
  · refine hQ _ _ (hpost hcore (ht) (fun _ _ _ => rfl) (by unfold in32; omega)) ⟨ht, fun s t n hv => ?_⟩
    have hv := (evA3 (ρ := ρ)).symm.trans hv
    obtain ⟨rfl, rfl, rfl⟩ := vsA3 hv
    exact Or.inl ⟨hn, rfl, rfl⟩
  · refine hQ _ _ (hpost hcore (ht) (fun _ _ _ => rfl) (by unfold in32; omega)) ⟨ht, fun s t n hv => ?_⟩
    have hv := (evA3 (ρ := ρ)).symm.trans hv
    obtain ⟨rfl, rfl, rfl⟩ := vsA3 hv
    exact Or.inr (Or.inl ⟨hn, rfl, rfl⟩)
  · skip
    obtain ⟨s', e_s9⟩ : ∃ q : Nat, (ρ 0).toNat = q := ⟨_, rfl⟩
    rw [e_s9]
    refine hQ _ _ (hpost hcore ((ht).ups2 (a := 205) (s := 0) (st := 1) (n := 4) (lo := (-1)) (hi := 7) (r := s') (by decide +kernel) (by omega) (by omega) (by omega)) (fr_up (fun _ _ _ => rfl) (wr_in (lo := 0) (hi := 4) (by decide) (by omega) (by omega))) (by unfold in32; omega)) ⟨ht, fun s t n hv => ?_⟩
    have hv := (evA3 (ρ := ρ)).symm.trans hv
    obtain ⟨rfl, rfl, rfl⟩ := vsA3 hv
    exact Or.inr (Or.inr (Or.inl ⟨hn, by first | rfl | (rw [e_s9]; done), by rw [e_s9]⟩))
  · skip
    obtain ⟨s', e_s9⟩ : ∃ q : Nat, (ρ 0).toNat = q := ⟨_, rfl⟩
    rw [e_s9]
    refine hQ _ _ (hpost hcore ((((((ht).ups2 (a := 205) (s := 0) (st := 1) (n := 4) (lo := (-1)) (hi := 7) (r := s') (by decide +kernel) (by omega) (by omega) (by omega)).ups2 (a := 205) (s := 0) (st := 1) (n := 4) (lo := (-1)) (hi := 7) (r := s') (by decide +kernel) (by omega) (by omega) (by omega)).ups2 (a := 206) (s := 0) (st := 1) (n := 8) (lo := (0)) (hi := 3) (r := rr) (by decide +kernel) (by omega) (by omega) (by omega)).ups2 (a := 207) (s := 0) (st := 1) (n := 8) (lo := (0)) (hi := 40) (r := rr) (by decide +kernel) (by omega) (by omega) (by omega)).hz (a := 208) (s := (40 * rr) + 0) (n := 40) (fun j j1 j2 j3 => by have e := sB_x (a := 208) (s := 0) (n := 320) (lo := -2147483648) (hi := 2147483647) (by decide +kernel) (Nat.zero_le j) (by omega); rw [e]; exact ⟨by decide, by decide⟩)) (fr_hz (fr_up (fr_up (fr_up (fr_up (fun _ _ _ => rfl) (wr_in (lo := 0) (hi := 4) (by decide) (by omega) (by omega))) (wr_in (lo := 0) (hi := 4) (by decide) (by omega) (by omega))) (wr_in (lo := 0) (hi := 8) (by decide) (by omega) (by omega))) (wr_in (lo := 0) (hi := 8) (by decide) (by omega) (by omega))) (fun j j1 j2 => (wr_in (lo := 0) (hi := 320) (by decide) (by omega) (by omega)))) (by unfold in32; omega)) ⟨ht, fun s t n hv => ?_⟩
    have hv := (evA3 (ρ := ρ)).symm.trans hv
    obtain ⟨rfl, rfl, rfl⟩ := vsA3 hv
    exact Or.inr (Or.inr (Or.inr (⟨rr, hP, hn, by first | rfl | (rw [e_s9]; done), by rw [e_s9]⟩)))
theorem bmod_r (v : Int) : -128 ≤ Int.bmod v 256 ∧ Int.bmod v 256 ≤ 127 := by
  have h1 := Int.le_bmod (x := v) (m := 256) (by decide)
  have h2 := Int.bmod_lt (x := v) (m := 256) (by decide)
  omega
theorem bmod_s (v : Int) : -32768 ≤ Int.bmod v 65536 ∧ Int.bmod v 65536 ≤ 32767 := by
  have h1 := Int.le_bmod (x := v) (m := 65536) (by decide)
  have h2 := Int.bmod_lt (x := v) (m := 65536) (by decide)
  omega
theorem m_narrowed (hB : BytesOK) {g : bG} {l : Launch} {d : Nat} {Q : bQ} {h : bH} {t v : Int} (z_v : in32 v) (n0 : t = 0 → Q (some (1, Int.bmod v 256)) h) (n1 : t = 1 → Q (some (1, Int.bmod v 65536)) h) (n2 : t ≠ 0 ∧ t ≠ 1 → Q (some (1, v)) h) : MH g l d 70 212 212 [(0, t), (0, v)] h Q := by
  unfold in32 at z_v
  have b1 := bmod_r v
  have b2 := bmod_s v
  refine mh_go hB mg70 ml70 (Nat.le_of_ble_eq_true rfl) ?_
  show HW g l d 70 _ _ 0 [(0, (0, (t))), (1, (0, (v)))] [] h
  refine w_pl (pc' := 1) (lv' := [(0, (0, (t))), (1, (0, (v)))]) (st' := [(0, (t))]) (h' := h) (o70_0 hB) rfl ?_
  refine w_ifc (pt := 10) (pf := 4) (o70_1 hB) (by decide) rfl (fun e => ?_) (fun e => ?_)
  · have f200 : ((t) ≠ (0)) := e
    refine w_pl (pc' := 11) (lv' := [(0, (0, (t))), (1, (0, (v)))]) (st' := [(0, (t))]) (h' := h) (o70_6 hB) rfl ?_
    refine w_pl (pc' := 12) (lv' := [(0, (0, (t))), (1, (0, (v)))]) (st' := [(0, ((1 : Nat) : Int)), (0, (t))]) (h' := h) (o70_7 hB) rfl ?_
    refine w_icmp (pt := 21) (pf := 15) (o70_8 hB) (by decide) rfl (fun e => ?_) (fun e => ?_)
    · have f201 : ((t) ≠ ((1 : Nat) : Int)) := e
      refine w_pl (pc' := 22) (lv' := [(0, (0, (t))), (1, (0, (v)))]) (st' := [(0, (v))]) (h' := h) (o70_13 hB) rfl ?_
      refine w_pl (pc' := 23) (lv' := [(0, (0, (t))), (1, (0, (v)))]) (st' := [(1, (v))]) (h' := h) (o70_14 hB) rfl ?_
      exact w_lret (o70_15 hB) mr70 (by unfold in64; omega) (n2 (by omega))
    · have f202 : ¬ ((t) ≠ ((1 : Nat) : Int)) := e
      refine w_pl (pc' := 16) (lv' := [(0, (0, (t))), (1, (0, (v)))]) (st' := [(0, (v))]) (h' := h) (o70_9 hB) rfl ?_
      refine w_i2s (z := (Int.bmod (v) 65536)) (pc' := 17) (o70_10 hB) rfl rfl ?_
      refine w_pl (pc' := 18) (lv' := [(0, (0, (t))), (1, (0, (v)))]) (st' := [(1, (Int.bmod (v) 65536))]) (h' := h) (o70_11 hB) rfl ?_
      refine w_goto (pt := 23) (o70_12 hB) (by decide) ?_
      exact w_lret (o70_15 hB) mr70 (by unfold in64; omega) (n1 (by omega))
  · have f203 : ¬ ((t) ≠ (0)) := e
    refine w_pl (pc' := 5) (lv' := [(0, (0, (t))), (1, (0, (v)))]) (st' := [(0, (v))]) (h' := h) (o70_2 hB) rfl ?_
    refine w_i2b (z := (Int.bmod (v) 256)) (pc' := 6) (o70_3 hB) rfl rfl ?_
    refine w_pl (pc' := 7) (lv' := [(0, (0, (t))), (1, (0, (v)))]) (st' := [(1, (Int.bmod (v) 256))]) (h' := h) (o70_4 hB) rfl ?_
    refine w_goto (pt := 23) (o70_5 hB) (by decide) ?_
    exact w_lret (o70_15 hB) mr70 (by unfold in64; omega) (n0 (by omega))
theorem m_change (hB : BytesOK) {g : bG} {l : Launch} {d : Nat} {Q : bQ} {h : bH} {s i v : Int} (ht : TH h) (z_s : in32 s) (z_i : in32 i) (z_v : in32 v) {tt : Int} (htt : h 182 (s.toNat) = tt) {sz : Int} (hsz : h 183 (s.toNat) = sz)  (a0 : ¬ (0 ≤ s ∧ s ≤ 3) → Q (some (0, (-1))) h) (a1 : (0 ≤ s ∧ s ≤ 3) ∧ tt < 0 → Q (some (0, (-11))) h) (a2 : (0 ≤ s ∧ s ≤ 3) ∧ 0 ≤ tt ∧ ¬ (0 ≤ i ∧ i < sz) → Q (some (0, (-12))) h) (a3 : ((0 ≤ s ∧ s ≤ 3) ∧ 0 ≤ tt ∧ 0 ≤ i ∧ i < sz) ∧ tt = 0 → Q (some (0, 1)) (hup h (185 + (s.toNat)) ((i.toNat)) (Int.bmod (v) 256))) (a4 : ((0 ≤ s ∧ s ≤ 3) ∧ 0 ≤ tt ∧ 0 ≤ i ∧ i < sz) ∧ tt = 1 → Q (some (0, 1)) (hup h (185 + (s.toNat)) ((i.toNat)) (Int.bmod (v) 65536))) (a5 : ((0 ≤ s ∧ s ≤ 3) ∧ 0 ≤ tt ∧ 0 ≤ i ∧ i < sz) ∧ tt ≠ 0 ∧ tt ≠ 1 → Q (some (0, 1)) (hup h (185 + (s.toNat)) ((i.toNat)) (v))) : MH g l (d + 1) 69 212 212 [(2, ((181 : Nat) : Int)), (0, (s)), (0, (i)), (0, (v))] h Q := by
  have hR := ht.r
  have z0_s := z_s
  have z0_i := z_i
  have z0_v := z_v
  unfold in32 at z0_s
  unfold in32 at z0_i
  unfold in32 at z0_v
  have b1 := bmod_r v
  have b2 := bmod_s v
  rcases (by omega : ¬ (0 ≤ s ∧ s ≤ 3) ∨ ((0 ≤ s ∧ s ≤ 3) ∧ (i < 0 ∨ 0 ≤ i))) with gg | ⟨gg, gi | gi⟩
  · skip
    refine mh_go hB mg69 ml69 (Nat.le_of_ble_eq_true rfl) ?_
    show HW g l (d + 1) 69 _ _ 0 [(0, (2, ((181 : Nat) : Int))), (1, (0, (s))), (2, (0, (i))), (3, (0, (v)))] [] h
    refine w_pl (pc' := 1) (lv' := [(0, (2, ((181 : Nat) : Int))), (1, (0, (s))), (2, (0, (i))), (3, (0, (v)))]) (st' := [(0, (s))]) (h' := h) (o69_0 hB) rfl ?_
    refine w_callS (as := [(0, (s))]) (rest := []) (n := 1) (pc' := 4) hB (o69_1 hB) rfl (by decide +kernel) rfl rfl (Nat.le_of_ble_eq_true rfl) (m_isSheetB hB (fun f233 => ?_) (fun f234 => ?_))
    · exfalso; omega
    · show HW g l _ 69 _ _ 4 [(0, (2, ((181 : Nat) : Int))), (1, (0, (s))), (2, (0, (i))), (3, (0, (v)))] [(0, ((0 : Nat) : Int))] h
      refine w_ifc (pt := 9) (pf := 7) (o69_2 hB) (by decide) rfl (fun e => ?_) (fun e => ?_)
      · have f235 : (((0 : Nat) : Int) ≠ (0)) := e
        exfalso; omega
      · have f236 : ¬ (((0 : Nat) : Int) ≠ (0)) := e
        refine w_pl (pc' := 8) (lv' := [(0, (2, ((181 : Nat) : Int))), (1, (0, (s))), (2, (0, (i))), (3, (0, (v)))]) (st' := [(0, (-1))]) (h' := h) (o69_3 hB) rfl ?_
        exact w_iret (o69_4 hB) mr69 (by unfold in32; omega) (a0 (by omega))
  · obtain ⟨s', e_s⟩ : ∃ q : Nat, s = q := ⟨s.toNat, by omega⟩
    subst e_s
    simp only [Int.toNat_natCast] at htt hsz
    have r_tt := ty_182_s0 ht (j := s') (r := s') (by omega) (by omega)
    rw [htt] at r_tt
    have r_sz := ty_183_s0 ht (j := s') (r := s') (by omega) (by omega)
    rw [hsz] at r_sz
    refine mh_go hB mg69 ml69 (Nat.le_of_ble_eq_true rfl) ?_
    show HW g l (d + 1) 69 _ _ 0 [(0, (2, ((181 : Nat) : Int))), (1, (0, ((s' : Nat) : Int))), (2, (0, (i))), (3, (0, (v)))] [] h
    refine w_pl (pc' := 1) (lv' := [(0, (2, ((181 : Nat) : Int))), (1, (0, ((s' : Nat) : Int))), (2, (0, (i))), (3, (0, (v)))]) (st' := [(0, ((s' : Nat) : Int))]) (h' := h) (o69_0 hB) rfl ?_
    refine w_callS (as := [(0, ((s' : Nat) : Int))]) (rest := []) (n := 1) (pc' := 4) hB (o69_1 hB) rfl (by decide +kernel) rfl rfl (Nat.le_of_ble_eq_true rfl) (m_isSheetB hB (fun f237 => ?_) (fun f238 => ?_))
    · show HW g l _ 69 _ _ 4 [(0, (2, ((181 : Nat) : Int))), (1, (0, ((s' : Nat) : Int))), (2, (0, (i))), (3, (0, (v)))] [(0, ((1 : Nat) : Int))] h
      refine w_ifc (pt := 9) (pf := 7) (o69_2 hB) (by decide) rfl (fun e => ?_) (fun e => ?_)
      · have f239 : (((1 : Nat) : Int) ≠ (0)) := e
        refine w_pl (pc' := 10) (lv' := [(0, (2, ((181 : Nat) : Int))), (1, (0, ((s' : Nat) : Int))), (2, (0, (i))), (3, (0, (v)))]) (st' := [(2, ((181 : Nat) : Int))]) (h' := h) (o69_5 hB) rfl ?_
        refine w_getf (A := 181) (t := 2) (z := ((182 : Nat) : Int)) (pc' := 13) (o69_6 hB) rfl (by decide +kernel) (hR (181, 0, 182) (by decide)) ?_
        refine w_pl (pc' := 14) (lv' := [(0, (2, ((181 : Nat) : Int))), (1, (0, ((s' : Nat) : Int))), (2, (0, (i))), (3, (0, (v)))]) (st' := [(0, ((s' : Nat) : Int)), (2, ((182 : Nat) : Int))]) (h' := h) (o69_7 hB) rfl ?_
        refine w_iald (A := 182) (i := s') (n := 4) (z := (tt)) (pc' := 15) (o69_8 hB) rfl (by decide +kernel) (by omega) htt ?_
        refine w_ifc (pt := 21) (pf := 18) (o69_9 hB) (by decide) rfl (fun e => ?_) (fun e => ?_)
        · have f240 : ((0) ≤ (tt)) := e
          refine w_pl (pc' := 22) (lv' := [(0, (2, ((181 : Nat) : Int))), (1, (0, ((s' : Nat) : Int))), (2, (0, (i))), (3, (0, (v)))]) (st' := [(0, (i))]) (h' := h) (o69_12 hB) rfl ?_
          refine w_ifc (pt := 35) (pf := 25) (o69_13 hB) (by decide) rfl (fun e => ?_) (fun e => ?_)
          · have f241 : ((i) < (0)) := e
            refine w_pl (pc' := 37) (lv' := [(0, (2, ((181 : Nat) : Int))), (1, (0, ((s' : Nat) : Int))), (2, (0, (i))), (3, (0, (v)))]) (st' := [(0, (-12))]) (h' := h) (o69_20 hB) rfl ?_
            exact w_iret (o69_21 hB) mr69 (by unfold in32; omega) (a2 (by omega))
          · have f242 : ¬ ((i) < (0)) := e
            exfalso; omega
        · have f243 : ¬ ((0) ≤ (tt)) := e
          refine w_pl (pc' := 20) (lv' := [(0, (2, ((181 : Nat) : Int))), (1, (0, ((s' : Nat) : Int))), (2, (0, (i))), (3, (0, (v)))]) (st' := [(0, (-11))]) (h' := h) (o69_10 hB) rfl ?_
          exact w_iret (o69_11 hB) mr69 (by unfold in32; omega) (a1 (by omega))
      · have f244 : ¬ (((1 : Nat) : Int) ≠ (0)) := e
        exfalso; omega
    · show HW g l _ 69 _ _ 4 [(0, (2, ((181 : Nat) : Int))), (1, (0, ((s' : Nat) : Int))), (2, (0, (i))), (3, (0, (v)))] [(0, ((0 : Nat) : Int))] h
      refine w_ifc (pt := 9) (pf := 7) (o69_2 hB) (by decide) rfl (fun e => ?_) (fun e => ?_)
      · have f245 : (((0 : Nat) : Int) ≠ (0)) := e
        exfalso; omega
      · have f246 : ¬ (((0 : Nat) : Int) ≠ (0)) := e
        refine w_pl (pc' := 8) (lv' := [(0, (2, ((181 : Nat) : Int))), (1, (0, ((s' : Nat) : Int))), (2, (0, (i))), (3, (0, (v)))]) (st' := [(0, (-1))]) (h' := h) (o69_3 hB) rfl ?_
        exact w_iret (o69_4 hB) mr69 (by unfold in32; omega) (a0 (by omega))
  · obtain ⟨s', e_s⟩ : ∃ q : Nat, s = q := ⟨s.toNat, by omega⟩
    subst e_s
    simp only [Int.toNat_natCast] at htt hsz
    have r_tt := ty_182_s0 ht (j := s') (r := s') (by omega) (by omega)
    rw [htt] at r_tt
    have r_sz := ty_183_s0 ht (j := s') (r := s') (by omega) (by omega)
    rw [hsz] at r_sz
    obtain ⟨i', e_i⟩ : ∃ q : Nat, i = q := ⟨i.toNat, by omega⟩
    subst e_i
    simp only [Int.toNat_natCast] at a3 a4 a5
    refine mh_go hB mg69 ml69 (Nat.le_of_ble_eq_true rfl) ?_
    show HW g l (d + 1) 69 _ _ 0 [(0, (2, ((181 : Nat) : Int))), (1, (0, ((s' : Nat) : Int))), (2, (0, ((i' : Nat) : Int))), (3, (0, (v)))] [] h
    refine w_pl (pc' := 1) (lv' := [(0, (2, ((181 : Nat) : Int))), (1, (0, ((s' : Nat) : Int))), (2, (0, ((i' : Nat) : Int))), (3, (0, (v)))]) (st' := [(0, ((s' : Nat) : Int))]) (h' := h) (o69_0 hB) rfl ?_
    refine w_callS (as := [(0, ((s' : Nat) : Int))]) (rest := []) (n := 1) (pc' := 4) hB (o69_1 hB) rfl (by decide +kernel) rfl rfl (Nat.le_of_ble_eq_true rfl) (m_isSheetB hB (fun f247 => ?_) (fun f248 => ?_))
    · show HW g l _ 69 _ _ 4 [(0, (2, ((181 : Nat) : Int))), (1, (0, ((s' : Nat) : Int))), (2, (0, ((i' : Nat) : Int))), (3, (0, (v)))] [(0, ((1 : Nat) : Int))] h
      refine w_ifc (pt := 9) (pf := 7) (o69_2 hB) (by decide) rfl (fun e => ?_) (fun e => ?_)
      · have f249 : (((1 : Nat) : Int) ≠ (0)) := e
        refine w_pl (pc' := 10) (lv' := [(0, (2, ((181 : Nat) : Int))), (1, (0, ((s' : Nat) : Int))), (2, (0, ((i' : Nat) : Int))), (3, (0, (v)))]) (st' := [(2, ((181 : Nat) : Int))]) (h' := h) (o69_5 hB) rfl ?_
        refine w_getf (A := 181) (t := 2) (z := ((182 : Nat) : Int)) (pc' := 13) (o69_6 hB) rfl (by decide +kernel) (hR (181, 0, 182) (by decide)) ?_
        refine w_pl (pc' := 14) (lv' := [(0, (2, ((181 : Nat) : Int))), (1, (0, ((s' : Nat) : Int))), (2, (0, ((i' : Nat) : Int))), (3, (0, (v)))]) (st' := [(0, ((s' : Nat) : Int)), (2, ((182 : Nat) : Int))]) (h' := h) (o69_7 hB) rfl ?_
        refine w_iald (A := 182) (i := s') (n := 4) (z := (tt)) (pc' := 15) (o69_8 hB) rfl (by decide +kernel) (by omega) htt ?_
        refine w_ifc (pt := 21) (pf := 18) (o69_9 hB) (by decide) rfl (fun e => ?_) (fun e => ?_)
        · have f250 : ((0) ≤ (tt)) := e
          refine w_pl (pc' := 22) (lv' := [(0, (2, ((181 : Nat) : Int))), (1, (0, ((s' : Nat) : Int))), (2, (0, ((i' : Nat) : Int))), (3, (0, (v)))]) (st' := [(0, ((i' : Nat) : Int))]) (h' := h) (o69_12 hB) rfl ?_
          refine w_ifc (pt := 35) (pf := 25) (o69_13 hB) (by decide) rfl (fun e => ?_) (fun e => ?_)
          · have f251 : (((i' : Nat) : Int) < (0)) := e
            refine w_pl (pc' := 37) (lv' := [(0, (2, ((181 : Nat) : Int))), (1, (0, ((s' : Nat) : Int))), (2, (0, ((i' : Nat) : Int))), (3, (0, (v)))]) (st' := [(0, (-12))]) (h' := h) (o69_20 hB) rfl ?_
            exact w_iret (o69_21 hB) mr69 (by unfold in32; omega) (a2 (by omega))
          · have f252 : ¬ (((i' : Nat) : Int) < (0)) := e
            refine w_pl (pc' := 26) (lv' := [(0, (2, ((181 : Nat) : Int))), (1, (0, ((s' : Nat) : Int))), (2, (0, ((i' : Nat) : Int))), (3, (0, (v)))]) (st' := [(0, ((i' : Nat) : Int))]) (h' := h) (o69_14 hB) rfl ?_
            refine w_pl (pc' := 27) (lv' := [(0, (2, ((181 : Nat) : Int))), (1, (0, ((s' : Nat) : Int))), (2, (0, ((i' : Nat) : Int))), (3, (0, (v)))]) (st' := [(2, ((181 : Nat) : Int)), (0, ((i' : Nat) : Int))]) (h' := h) (o69_15 hB) rfl ?_
            refine w_getf (A := 181) (t := 2) (z := ((183 : Nat) : Int)) (pc' := 30) (o69_16 hB) rfl (by decide +kernel) (hR (181, 1, 183) (by decide)) ?_
            refine w_pl (pc' := 31) (lv' := [(0, (2, ((181 : Nat) : Int))), (1, (0, ((s' : Nat) : Int))), (2, (0, ((i' : Nat) : Int))), (3, (0, (v)))]) (st' := [(0, ((s' : Nat) : Int)), (2, ((183 : Nat) : Int)), (0, ((i' : Nat) : Int))]) (h' := h) (o69_17 hB) rfl ?_
            refine w_iald (A := 183) (i := s') (n := 4) (z := (sz)) (pc' := 32) (o69_18 hB) rfl (by decide +kernel) (by omega) hsz ?_
            refine w_icmp (pt := 38) (pf := 35) (o69_19 hB) (by decide) rfl (fun e => ?_) (fun e => ?_)
            · have f253 : (((i' : Nat) : Int) < (sz)) := e
              refine w_pl (pc' := 39) (lv' := [(0, (2, ((181 : Nat) : Int))), (1, (0, ((s' : Nat) : Int))), (2, (0, ((i' : Nat) : Int))), (3, (0, (v)))]) (st' := [(2, ((181 : Nat) : Int))]) (h' := h) (o69_22 hB) rfl ?_
              refine w_getf (A := 181) (t := 2) (z := ((184 : Nat) : Int)) (pc' := 42) (o69_23 hB) rfl (by decide +kernel) (hR (181, 2, 184) (by decide)) ?_
              refine w_pl (pc' := 43) (lv' := [(0, (2, ((181 : Nat) : Int))), (1, (0, ((s' : Nat) : Int))), (2, (0, ((i' : Nat) : Int))), (3, (0, (v)))]) (st' := [(0, ((s' : Nat) : Int)), (2, ((184 : Nat) : Int))]) (h' := h) (o69_24 hB) rfl ?_
              refine w_aald (kd := 3) (A := 184) (i := s') (n := 4) (B := (185 + s')) (pc' := 44) (o69_25 hB) rfl rfl (by decide +kernel) (by omega) (h184 hR (by omega)) ?_
              refine w_pl (pc' := 45) (lv' := [(0, (2, ((181 : Nat) : Int))), (1, (0, ((s' : Nat) : Int))), (2, (0, ((i' : Nat) : Int))), (3, (0, (v)))]) (st' := [(0, ((i' : Nat) : Int)), (2, (((185 + s') : Nat) : Int))]) (h' := h) (o69_26 hB) rfl ?_
              refine w_pl (pc' := 46) (lv' := [(0, (2, ((181 : Nat) : Int))), (1, (0, ((s' : Nat) : Int))), (2, (0, ((i' : Nat) : Int))), (3, (0, (v)))]) (st' := [(2, ((181 : Nat) : Int)), (0, ((i' : Nat) : Int)), (2, (((185 + s') : Nat) : Int))]) (h' := h) (o69_27 hB) rfl ?_
              refine w_getf (A := 181) (t := 2) (z := ((182 : Nat) : Int)) (pc' := 49) (o69_28 hB) rfl (by decide +kernel) (hR (181, 0, 182) (by decide)) ?_
              refine w_pl (pc' := 50) (lv' := [(0, (2, ((181 : Nat) : Int))), (1, (0, ((s' : Nat) : Int))), (2, (0, ((i' : Nat) : Int))), (3, (0, (v)))]) (st' := [(0, ((s' : Nat) : Int)), (2, ((182 : Nat) : Int)), (0, ((i' : Nat) : Int)), (2, (((185 + s') : Nat) : Int))]) (h' := h) (o69_29 hB) rfl ?_
              refine w_iald (A := 182) (i := s') (n := 4) (z := (tt)) (pc' := 51) (o69_30 hB) rfl (by decide +kernel) (by omega) htt ?_
              refine w_pl (pc' := 52) (lv' := [(0, (2, ((181 : Nat) : Int))), (1, (0, ((s' : Nat) : Int))), (2, (0, ((i' : Nat) : Int))), (3, (0, (v)))]) (st' := [(0, (v)), (0, (tt)), (0, ((i' : Nat) : Int)), (2, (((185 + s') : Nat) : Int))]) (h' := h) (o69_31 hB) rfl ?_
              refine w_callS (as := [(0, (tt)), (0, (v))]) (rest := [(0, ((i' : Nat) : Int)), (2, (((185 + s') : Nat) : Int))]) (n := 2) (pc' := 55) hB (o69_32 hB) rfl (by decide +kernel) rfl rfl (Nat.le_of_ble_eq_true rfl) (m_narrowed hB z_v (fun f254 => ?_) (fun f255 => ?_) (fun f256 => ?_))
              · show HW g l _ 69 _ _ 55 [(0, (2, ((181 : Nat) : Int))), (1, (0, ((s' : Nat) : Int))), (2, (0, ((i' : Nat) : Int))), (3, (0, (v)))] [(1, (Int.bmod (v) 256)), (0, ((i' : Nat) : Int)), (2, (((185 + s') : Nat) : Int))] h
                refine w_last (A := (185 + s')) (i := i') (n := 40) (pc' := 56) (o69_33 hB) rfl (ar185 (by omega)) (by omega) ?_
                refine w_pl (pc' := 57) (lv' := [(0, (2, ((181 : Nat) : Int))), (1, (0, ((s' : Nat) : Int))), (2, (0, ((i' : Nat) : Int))), (3, (0, (v)))]) (st' := [(0, ((1 : Nat) : Int))]) (h' := (hup h (185 + s') (i') (Int.bmod (v) 256))) (o69_34 hB) rfl ?_
                exact w_iret (o69_35 hB) mr69 (by unfold in32; omega) (a3 (by omega))
              · show HW g l _ 69 _ _ 55 [(0, (2, ((181 : Nat) : Int))), (1, (0, ((s' : Nat) : Int))), (2, (0, ((i' : Nat) : Int))), (3, (0, (v)))] [(1, (Int.bmod (v) 65536)), (0, ((i' : Nat) : Int)), (2, (((185 + s') : Nat) : Int))] h
                refine w_last (A := (185 + s')) (i := i') (n := 40) (pc' := 56) (o69_33 hB) rfl (ar185 (by omega)) (by omega) ?_
                refine w_pl (pc' := 57) (lv' := [(0, (2, ((181 : Nat) : Int))), (1, (0, ((s' : Nat) : Int))), (2, (0, ((i' : Nat) : Int))), (3, (0, (v)))]) (st' := [(0, ((1 : Nat) : Int))]) (h' := (hup h (185 + s') (i') (Int.bmod (v) 65536))) (o69_34 hB) rfl ?_
                exact w_iret (o69_35 hB) mr69 (by unfold in32; omega) (a4 (by omega))
              · show HW g l _ 69 _ _ 55 [(0, (2, ((181 : Nat) : Int))), (1, (0, ((s' : Nat) : Int))), (2, (0, ((i' : Nat) : Int))), (3, (0, (v)))] [(1, (v)), (0, ((i' : Nat) : Int)), (2, (((185 + s') : Nat) : Int))] h
                refine w_last (A := (185 + s')) (i := i') (n := 40) (pc' := 56) (o69_33 hB) rfl (ar185 (by omega)) (by omega) ?_
                refine w_pl (pc' := 57) (lv' := [(0, (2, ((181 : Nat) : Int))), (1, (0, ((s' : Nat) : Int))), (2, (0, ((i' : Nat) : Int))), (3, (0, (v)))]) (st' := [(0, ((1 : Nat) : Int))]) (h' := (hup h (185 + s') (i') (v))) (o69_34 hB) rfl ?_
                exact w_iret (o69_35 hB) mr69 (by unfold in32; omega) (a5 (by omega))
            · have f257 : ¬ (((i' : Nat) : Int) < (sz)) := e
              refine w_pl (pc' := 37) (lv' := [(0, (2, ((181 : Nat) : Int))), (1, (0, ((s' : Nat) : Int))), (2, (0, ((i' : Nat) : Int))), (3, (0, (v)))]) (st' := [(0, (-12))]) (h' := h) (o69_20 hB) rfl ?_
              exact w_iret (o69_21 hB) mr69 (by unfold in32; omega) (a2 (by omega))
        · have f258 : ¬ ((0) ≤ (tt)) := e
          refine w_pl (pc' := 20) (lv' := [(0, (2, ((181 : Nat) : Int))), (1, (0, ((s' : Nat) : Int))), (2, (0, ((i' : Nat) : Int))), (3, (0, (v)))]) (st' := [(0, (-11))]) (h' := h) (o69_10 hB) rfl ?_
          exact w_iret (o69_11 hB) mr69 (by unfold in32; omega) (a1 (by omega))
      · have f259 : ¬ (((1 : Nat) : Int) ≠ (0)) := e
        exfalso; omega
    · show HW g l _ 69 _ _ 4 [(0, (2, ((181 : Nat) : Int))), (1, (0, ((s' : Nat) : Int))), (2, (0, ((i' : Nat) : Int))), (3, (0, (v)))] [(0, ((0 : Nat) : Int))] h
      refine w_ifc (pt := 9) (pf := 7) (o69_2 hB) (by decide) rfl (fun e => ?_) (fun e => ?_)
      · have f260 : (((0 : Nat) : Int) ≠ (0)) := e
        exfalso; omega
      · have f261 : ¬ (((0 : Nat) : Int) ≠ (0)) := e
        refine w_pl (pc' := 8) (lv' := [(0, (2, ((181 : Nat) : Int))), (1, (0, ((s' : Nat) : Int))), (2, (0, ((i' : Nat) : Int))), (3, (0, (v)))]) (st' := [(0, (-1))]) (h' := h) (o69_3 hB) rfl ?_
        exact w_iret (o69_4 hB) mr69 (by unfold in32; omega) (a0 (by omega))
theorem m_putB (hB : BytesOK) {g : bG} {l : Launch} {d : Nat} {Q : bQ} {h : bH} {s i v : Int} (ht : TH h) (z_s : in32 s) (z_i : in32 i) (z_v : in32 v) {tt : Int} (htt : h 182 (s.toNat) = tt) {sz : Int} (hsz : h 183 (s.toNat) = sz)  (a0 : ¬ (0 ≤ s ∧ s ≤ 3) → Q (some (0, (-1))) h) (a1 : (0 ≤ s ∧ s ≤ 3) ∧ tt < 0 → Q (some (0, (-11))) h) (a2 : (0 ≤ s ∧ s ≤ 3) ∧ 0 ≤ tt ∧ ¬ (0 ≤ i ∧ i < sz) → Q (some (0, (-12))) h) (a3 : ((0 ≤ s ∧ s ≤ 3) ∧ 0 ≤ tt ∧ 0 ≤ i ∧ i < sz) ∧ tt = 0 → Q (some (0, 1)) (hup h (185 + (s.toNat)) ((i.toNat)) (Int.bmod (v) 256))) (a4 : ((0 ≤ s ∧ s ≤ 3) ∧ 0 ≤ tt ∧ 0 ≤ i ∧ i < sz) ∧ tt = 1 → Q (some (0, 1)) (hup h (185 + (s.toNat)) ((i.toNat)) (Int.bmod (v) 65536))) (a5 : ((0 ≤ s ∧ s ≤ 3) ∧ 0 ≤ tt ∧ 0 ≤ i ∧ i < sz) ∧ tt ≠ 0 ∧ tt ≠ 1 → Q (some (0, 1)) (hup h (185 + (s.toNat)) ((i.toNat)) (v))) : MH g l (d + 1 + 1) 161 212 212 [(2, ((0 : Nat) : Int)), (0, (s)), (0, (i)), (0, (v))] h Q := by
  have hR := ht.r
  have z0_s := z_s
  have z0_i := z_i
  have z0_v := z_v
  unfold in32 at z0_s
  unfold in32 at z0_i
  unfold in32 at z0_v
  refine mh_go hB mg161 ml161 (Nat.le_of_ble_eq_true rfl) ?_
  show HW g l (d + 1 + 1) 161 _ _ 0 [(0, (2, ((0 : Nat) : Int))), (1, (0, (s))), (2, (0, (i))), (3, (0, (v)))] [] h
  refine w_pl (pc' := 1) (lv' := [(0, (2, ((0 : Nat) : Int))), (1, (0, (s))), (2, (0, (i))), (3, (0, (v)))]) (st' := [(2, ((0 : Nat) : Int))]) (h' := h) (o161_0 hB) rfl ?_
  refine w_getf (A := 0) (t := 2) (z := ((181 : Nat) : Int)) (pc' := 4) (o161_1 hB) rfl (by decide +kernel) (hR (0, 5, 181) (by decide)) ?_
  refine w_pl (pc' := 5) (lv' := [(0, (2, ((0 : Nat) : Int))), (1, (0, (s))), (2, (0, (i))), (3, (0, (v)))]) (st' := [(0, (s)), (2, ((181 : Nat) : Int))]) (h' := h) (o161_2 hB) rfl ?_
  refine w_pl (pc' := 6) (lv' := [(0, (2, ((0 : Nat) : Int))), (1, (0, (s))), (2, (0, (i))), (3, (0, (v)))]) (st' := [(0, (i)), (0, (s)), (2, ((181 : Nat) : Int))]) (h' := h) (o161_3 hB) rfl ?_
  refine w_pl (pc' := 7) (lv' := [(0, (2, ((0 : Nat) : Int))), (1, (0, (s))), (2, (0, (i))), (3, (0, (v)))]) (st' := [(0, (v)), (0, (i)), (0, (s)), (2, ((181 : Nat) : Int))]) (h' := h) (o161_4 hB) rfl ?_
  refine w_callV (A := 181) (as := [(0, (s)), (0, (i)), (0, (v))]) (rest := []) (n := 3) (pc' := 10) 5 hB (o161_5 hB) rfl (by decide +kernel) rfl rfl (Nat.le_of_ble_eq_true rfl) (m_change hB ht z_s z_i z_v htt hsz (fun f268 => ?_) (fun f269 => ?_) (fun f270 => ?_) (fun f271 => ?_) (fun f272 => ?_) (fun f273 => ?_))
  · show HW g l _ 161 _ _ 10 [(0, (2, ((0 : Nat) : Int))), (1, (0, (s))), (2, (0, (i))), (3, (0, (v)))] [(0, (-1))] h
    exact w_iret (o161_6 hB) mr161 (by unfold in32; omega) (a0 (by omega))
  · show HW g l _ 161 _ _ 10 [(0, (2, ((0 : Nat) : Int))), (1, (0, (s))), (2, (0, (i))), (3, (0, (v)))] [(0, (-11))] h
    exact w_iret (o161_6 hB) mr161 (by unfold in32; omega) (a1 (by omega))
  · show HW g l _ 161 _ _ 10 [(0, (2, ((0 : Nat) : Int))), (1, (0, (s))), (2, (0, (i))), (3, (0, (v)))] [(0, (-12))] h
    exact w_iret (o161_6 hB) mr161 (by unfold in32; omega) (a2 (by omega))
  · show HW g l _ 161 _ _ 10 [(0, (2, ((0 : Nat) : Int))), (1, (0, (s))), (2, (0, (i))), (3, (0, (v)))] [(0, (1))] (hup h (185 + s.toNat) (i.toNat) (Int.bmod (v) 256))
    exact w_iret (o161_6 hB) mr161 (by unfold in32; omega) (a3 (by omega))
  · show HW g l _ 161 _ _ 10 [(0, (2, ((0 : Nat) : Int))), (1, (0, (s))), (2, (0, (i))), (3, (0, (v)))] [(0, (1))] (hup h (185 + s.toNat) (i.toNat) (Int.bmod (v) 65536))
    exact w_iret (o161_6 hB) mr161 (by unfold in32; omega) (a4 (by omega))
  · show HW g l _ 161 _ _ 10 [(0, (2, ((0 : Nat) : Int))), (1, (0, (s))), (2, (0, (i))), (3, (0, (v)))] [(0, (1))] (hup h (185 + s.toNat) (i.toNat) (v))
    exact w_iret (o161_6 hB) mr161 (by unfold in32; omega) (a5 (by omega))
def s_putB (vs : List bV) (h : bH) (r : Option bV) (h' : bH) : Prop := TH h ∧ ∀ (s i v : Int) (tt : Int) (sz : Int) , vs = [(2, ((0 : Nat) : Int)), (0, s), (0, i), (0, v)] → h 182 (s.toNat) = tt → h 183 (s.toNat) = sz → ((¬ (0 ≤ s ∧ s ≤ 3)) ∧ r = some (0, (-1)) ∧ h = h') ∨ (((0 ≤ s ∧ s ≤ 3) ∧ tt < 0) ∧ r = some (0, (-11)) ∧ h = h') ∨ (((0 ≤ s ∧ s ≤ 3) ∧ 0 ≤ tt ∧ ¬ (0 ≤ i ∧ i < sz)) ∧ r = some (0, (-12)) ∧ h = h') ∨ ((((0 ≤ s ∧ s ≤ 3) ∧ 0 ≤ tt ∧ 0 ≤ i ∧ i < sz) ∧ tt = 0) ∧ r = some (0, 1) ∧ h' = (hup h (185 + (s.toNat)) ((i.toNat)) (Int.bmod (v) 256))) ∨ ((((0 ≤ s ∧ s ≤ 3) ∧ 0 ≤ tt ∧ 0 ≤ i ∧ i < sz) ∧ tt = 1) ∧ r = some (0, 1) ∧ h' = (hup h (185 + (s.toNat)) ((i.toNat)) (Int.bmod (v) 65536))) ∨ ((((0 ≤ s ∧ s ≤ 3) ∧ 0 ≤ tt ∧ 0 ≤ i ∧ i < sz) ∧ tt ≠ 0 ∧ tt ≠ 1) ∧ r = some (0, 1) ∧ h' = (hup h (185 + (s.toNat)) ((i.toNat)) (v)))
def w_putB : List (Nat × Nat × Nat) := [(185, 0, 40), (186, 0, 40), (187, 0, 40), (188, 0, 40)]
def q_putB : aCt := cH 161 2 w_putB 3 0
theorem sk_putB (hB : BytesOK) (g : bG) (l : Launch) : SK g l gT q_putB s_putB := by
  intro d hd ρ h Q hcore hQ
  have hcore : core (PofW gT (some w_putB) false) (gsc g) h ρ h (List.replicate 3 r32, [], [], 212) := hcore
  have ht := hTH hcore
  have y0 := r32_0 hcore 0 (by decide)
  have y1 := r32_0 hcore 1 (by decide)
  have y2 := r32_0 hcore 2 (by decide)
  have y00 := y0
  unfold in32 at y00
  have y01 := y1
  unfold in32 at y01
  have y02 := y2
  unfold in32 at y02
  obtain ⟨d', rfl⟩ : ∃ d', d = d' + 1 + 1 := ⟨d - 2, by have : 2 ≤ d := hd; omega⟩
  rw [show evS ρ (ctA q_putB) = [(2, ((0 : Nat) : Int)), (0, ρ 0), (0, ρ 1), (0, ρ 2)] from evA3]
  refine m_putB (s := ρ 0) (i := ρ 1) (v := ρ 2) hB ht y0 y1 y2 rfl rfl (fun hn => ?_) (fun hn => ?_) (fun hn => ?_) (fun hn => ?_) (fun hn => ?_) (fun hn => ?_)
  · refine hQ _ _ (hpost hcore (ht) (fun _ _ _ => rfl) (by unfold in32; omega)) ⟨ht, fun s i v v_tt v_sz hv e_tt e_sz => ?_⟩
    have hv := (evA3 (ρ := ρ)).symm.trans hv
    obtain ⟨rfl, rfl, rfl⟩ := vsA3 hv
    subst e_tt
    subst e_sz
    exact Or.inl ⟨hn, rfl, rfl⟩
  · refine hQ _ _ (hpost hcore (ht) (fun _ _ _ => rfl) (by unfold in32; omega)) ⟨ht, fun s i v v_tt v_sz hv e_tt e_sz => ?_⟩
    have hv := (evA3 (ρ := ρ)).symm.trans hv
    obtain ⟨rfl, rfl, rfl⟩ := vsA3 hv
    subst e_tt
    subst e_sz
    exact Or.inr (Or.inl ⟨hn, rfl, rfl⟩)
  · refine hQ _ _ (hpost hcore (ht) (fun _ _ _ => rfl) (by unfold in32; omega)) ⟨ht, fun s i v v_tt v_sz hv e_tt e_sz => ?_⟩
    have hv := (evA3 (ρ := ρ)).symm.trans hv
    obtain ⟨rfl, rfl, rfl⟩ := vsA3 hv
    subst e_tt
    subst e_sz
    exact Or.inr (Or.inr (Or.inl ⟨hn, rfl, rfl⟩))
  · skip
    obtain ⟨s', e_s9⟩ : ∃ q : Nat, (ρ 0).toNat = q := ⟨_, rfl⟩
    rw [e_s9]
    obtain ⟨i', e_i9⟩ : ∃ q : Nat, (ρ 1).toNat = q := ⟨_, rfl⟩
    rw [e_i9]
    have e183 := ty_183_s0 ht (j := (ρ 0).toNat) (r := (ρ 0).toNat) (by omega) (by omega)
    refine hQ _ _ (hpost hcore ((up185 (ht) (s := s') (by omega) (by omega) (by have b1 := bmod_r (ρ 2); have b2 := bmod_s (ρ 2); omega))) (fr_up (fun _ _ _ => rfl) (hz_w185 (by decide) (by omega) (by omega))) (by unfold in32; omega)) ⟨ht, fun s i v v_tt v_sz hv e_tt e_sz => ?_⟩
    have hv := (evA3 (ρ := ρ)).symm.trans hv
    obtain ⟨rfl, rfl, rfl⟩ := vsA3 hv
    subst e_tt
    subst e_sz
    exact Or.inr (Or.inr (Or.inr (Or.inl ⟨hn, by first | rfl | (rw [e_s9]; done) | (rw [e_s9, e_i9]; done), by rw [e_s9, e_i9]⟩)))
  · skip
    obtain ⟨s', e_s9⟩ : ∃ q : Nat, (ρ 0).toNat = q := ⟨_, rfl⟩
    rw [e_s9]
    obtain ⟨i', e_i9⟩ : ∃ q : Nat, (ρ 1).toNat = q := ⟨_, rfl⟩
    rw [e_i9]
    have e183 := ty_183_s0 ht (j := (ρ 0).toNat) (r := (ρ 0).toNat) (by omega) (by omega)
    refine hQ _ _ (hpost hcore ((up185 (ht) (s := s') (by omega) (by omega) (by have b1 := bmod_r (ρ 2); have b2 := bmod_s (ρ 2); omega))) (fr_up (fun _ _ _ => rfl) (hz_w185 (by decide) (by omega) (by omega))) (by unfold in32; omega)) ⟨ht, fun s i v v_tt v_sz hv e_tt e_sz => ?_⟩
    have hv := (evA3 (ρ := ρ)).symm.trans hv
    obtain ⟨rfl, rfl, rfl⟩ := vsA3 hv
    subst e_tt
    subst e_sz
    exact Or.inr (Or.inr (Or.inr (Or.inr (Or.inl ⟨hn, by first | rfl | (rw [e_s9]; done) | (rw [e_s9, e_i9]; done), by rw [e_s9, e_i9]⟩))))
  · skip
    obtain ⟨s', e_s9⟩ : ∃ q : Nat, (ρ 0).toNat = q := ⟨_, rfl⟩
    rw [e_s9]
    obtain ⟨i', e_i9⟩ : ∃ q : Nat, (ρ 1).toNat = q := ⟨_, rfl⟩
    rw [e_i9]
    have e183 := ty_183_s0 ht (j := (ρ 0).toNat) (r := (ρ 0).toNat) (by omega) (by omega)
    refine hQ _ _ (hpost hcore ((up185 (ht) (s := s') (by omega) (by omega) (by have b1 := bmod_r (ρ 2); have b2 := bmod_s (ρ 2); omega))) (fr_up (fun _ _ _ => rfl) (hz_w185 (by decide) (by omega) (by omega))) (by unfold in32; omega)) ⟨ht, fun s i v v_tt v_sz hv e_tt e_sz => ?_⟩
    have hv := (evA3 (ρ := ρ)).symm.trans hv
    obtain ⟨rfl, rfl, rfl⟩ := vsA3 hv
    subst e_tt
    subst e_sz
    exact Or.inr (Or.inr (Or.inr (Or.inr (Or.inr (⟨hn, by first | rfl | (rw [e_s9]; done) | (rw [e_s9, e_i9]; done), by rw [e_s9, e_i9]⟩)))))
theorem m_putM (hB : BytesOK) {g : bG} {l : Launch} {d : Nat} {Q : bQ} {h : bH} {s i v : Int} (ht : TH h) (z_s : in32 s) (z_i : in32 i) (z_v : in32 v) {rw : Int} (hrw : h 205 (s.toNat) = rw) {rs : Int} (hrs : h 206 (rw.toNat) = rs) {rz : Int} (hrz : h 207 (rw.toNat) = rz)  (a0 : ¬ (0 ≤ s ∧ s ≤ 3) → Q (some (0, (-1))) h) (a1 : (0 ≤ s ∧ s ≤ 3) ∧ rw < 0 → Q (some (0, (-11))) h) (a2 : (0 ≤ s ∧ s ≤ 3) ∧ 0 ≤ rw ∧ ¬ (0 ≤ i ∧ i < rz) → Q (some (0, (-12))) h) (a3 : ((0 ≤ s ∧ s ≤ 3) ∧ 0 ≤ rw ∧ 0 ≤ rs ∧ 0 ≤ i ∧ i < rz) ∧ rs = 0 → Q (some (0, 1)) (hup h 208 (((40 * (rw.toNat)) + (i.toNat))) (Int.bmod (v) 256))) (a4 : ((0 ≤ s ∧ s ≤ 3) ∧ 0 ≤ rw ∧ 0 ≤ rs ∧ 0 ≤ i ∧ i < rz) ∧ rs = 1 → Q (some (0, 1)) (hup h 208 (((40 * (rw.toNat)) + (i.toNat))) (Int.bmod (v) 65536))) (a5 : ((0 ≤ s ∧ s ≤ 3) ∧ 0 ≤ rw ∧ 0 ≤ rs ∧ 0 ≤ i ∧ i < rz) ∧ rs ≠ 0 ∧ rs ≠ 1 → Q (some (0, 1)) (hup h 208 (((40 * (rw.toNat)) + (i.toNat))) (v))) : MH g l (d + 1 + 1) 274 212 212 [(2, ((193 : Nat) : Int)), (0, (s)), (0, (i)), (0, (v))] h Q := by
  have hR := ht.r
  have z0_s := z_s
  have z0_i := z_i
  have z0_v := z_v
  unfold in32 at z0_s
  unfold in32 at z0_i
  unfold in32 at z0_v
  have b1 := bmod_r v
  have b2 := bmod_s v
  rcases (by omega : ¬ (0 ≤ s ∧ s ≤ 3) ∨ ((0 ≤ s ∧ s ≤ 3) ∧ (rw < 0 ∨ (0 ≤ rw ∧ (i < 0 ∨ 0 ≤ i))))) with gg | ⟨gg, gr | ⟨gr, gi | gi⟩⟩
  · skip
    refine mh_go hB mg274 ml274 (Nat.le_of_ble_eq_true rfl) ?_
    show HW g l (d + 1 + 1) 274 _ _ 0 [(0, (2, ((193 : Nat) : Int))), (1, (0, (s))), (2, (0, (i))), (3, (0, (v)))] [] h
    refine w_pl (pc' := 1) (lv' := [(0, (2, ((193 : Nat) : Int))), (1, (0, (s))), (2, (0, (i))), (3, (0, (v)))]) (st' := [(0, (s))]) (h' := h) (o274_0 hB) rfl ?_
    refine w_callS (as := [(0, (s))]) (rest := []) (n := 1) (pc' := 4) hB (o274_1 hB) rfl (by decide +kernel) rfl rfl (Nat.le_of_ble_eq_true rfl) (m_isFourM hB (fun f316 => ?_) (fun f317 => ?_))
    · exfalso; omega
    · show HW g l _ 274 _ _ 4 [(0, (2, ((193 : Nat) : Int))), (1, (0, (s))), (2, (0, (i))), (3, (0, (v)))] [(0, ((0 : Nat) : Int))] h
      refine w_ifc (pt := 9) (pf := 7) (o274_2 hB) (by decide) rfl (fun e => ?_) (fun e => ?_)
      · have f318 : (((0 : Nat) : Int) ≠ (0)) := e
        exfalso; omega
      · have f319 : ¬ (((0 : Nat) : Int) ≠ (0)) := e
        refine w_pl (pc' := 8) (lv' := [(0, (2, ((193 : Nat) : Int))), (1, (0, (s))), (2, (0, (i))), (3, (0, (v)))]) (st' := [(0, (-1))]) (h' := h) (o274_3 hB) rfl ?_
        exact w_iret (o274_4 hB) mr274 (by unfold in32; omega) (a0 (by omega))
  · obtain ⟨s', e_s⟩ : ∃ q : Nat, s = q := ⟨s.toNat, by omega⟩
    subst e_s
    simp only [Int.toNat_natCast] at hrw
    have r_rw := ty_205_s0 ht (j := s') (r := s') (by omega) (by omega)
    rw [hrw] at r_rw
    refine mh_go hB mg274 ml274 (Nat.le_of_ble_eq_true rfl) ?_
    show HW g l (d + 1 + 1) 274 _ _ 0 [(0, (2, ((193 : Nat) : Int))), (1, (0, ((s' : Nat) : Int))), (2, (0, (i))), (3, (0, (v)))] [] h
    refine w_pl (pc' := 1) (lv' := [(0, (2, ((193 : Nat) : Int))), (1, (0, ((s' : Nat) : Int))), (2, (0, (i))), (3, (0, (v)))]) (st' := [(0, ((s' : Nat) : Int))]) (h' := h) (o274_0 hB) rfl ?_
    refine w_callS (as := [(0, ((s' : Nat) : Int))]) (rest := []) (n := 1) (pc' := 4) hB (o274_1 hB) rfl (by decide +kernel) rfl rfl (Nat.le_of_ble_eq_true rfl) (m_isFourM hB (fun f320 => ?_) (fun f321 => ?_))
    · show HW g l _ 274 _ _ 4 [(0, (2, ((193 : Nat) : Int))), (1, (0, ((s' : Nat) : Int))), (2, (0, (i))), (3, (0, (v)))] [(0, ((1 : Nat) : Int))] h
      refine w_ifc (pt := 9) (pf := 7) (o274_2 hB) (by decide) rfl (fun e => ?_) (fun e => ?_)
      · have f322 : (((1 : Nat) : Int) ≠ (0)) := e
        refine w_pl (pc' := 10) (lv' := [(0, (2, ((193 : Nat) : Int))), (1, (0, ((s' : Nat) : Int))), (2, (0, (i))), (3, (0, (v)))]) (st' := [(2, ((193 : Nat) : Int))]) (h' := h) (o274_5 hB) rfl ?_
        refine w_getf (A := 193) (t := 2) (z := ((205 : Nat) : Int)) (pc' := 13) (o274_6 hB) rfl (by decide +kernel) (hR (193, 35, 205) (by decide)) ?_
        refine w_pl (pc' := 14) (lv' := [(0, (2, ((193 : Nat) : Int))), (1, (0, ((s' : Nat) : Int))), (2, (0, (i))), (3, (0, (v)))]) (st' := [(0, ((s' : Nat) : Int)), (2, ((205 : Nat) : Int))]) (h' := h) (o274_7 hB) rfl ?_
        refine w_iald (A := 205) (i := s') (n := 4) (z := (rw)) (pc' := 15) (o274_8 hB) rfl (by decide +kernel) (by omega) hrw ?_
        refine w_st (tg := 0) (j := 4) (len := 2) (pc' := 17) (lv' := [(4, (0, (rw))), (0, (2, ((193 : Nat) : Int))), (1, (0, ((s' : Nat) : Int))), (2, (0, (i))), (3, (0, (v)))]) (o274_9 hB) rfl rfl ml274 (by decide) rfl ?_
        refine w_pl (pc' := 19) (lv' := [(4, (0, (rw))), (0, (2, ((193 : Nat) : Int))), (1, (0, ((s' : Nat) : Int))), (2, (0, (i))), (3, (0, (v)))]) (st' := [(0, (rw))]) (h' := h) (o274_10 hB) rfl ?_
        refine w_ifc (pt := 25) (pf := 22) (o274_11 hB) (by decide) rfl (fun e => ?_) (fun e => ?_)
        · have f323 : ((0) ≤ (rw)) := e
          exfalso; omega
        · have f324 : ¬ ((0) ≤ (rw)) := e
          refine w_pl (pc' := 24) (lv' := [(4, (0, (rw))), (0, (2, ((193 : Nat) : Int))), (1, (0, ((s' : Nat) : Int))), (2, (0, (i))), (3, (0, (v)))]) (st' := [(0, (-11))]) (h' := h) (o274_12 hB) rfl ?_
          exact w_iret (o274_13 hB) mr274 (by unfold in32; omega) (a1 (by omega))
      · have f325 : ¬ (((1 : Nat) : Int) ≠ (0)) := e
        exfalso; omega
    · show HW g l _ 274 _ _ 4 [(0, (2, ((193 : Nat) : Int))), (1, (0, ((s' : Nat) : Int))), (2, (0, (i))), (3, (0, (v)))] [(0, ((0 : Nat) : Int))] h
      refine w_ifc (pt := 9) (pf := 7) (o274_2 hB) (by decide) rfl (fun e => ?_) (fun e => ?_)
      · have f326 : (((0 : Nat) : Int) ≠ (0)) := e
        exfalso; omega
      · have f327 : ¬ (((0 : Nat) : Int) ≠ (0)) := e
        refine w_pl (pc' := 8) (lv' := [(0, (2, ((193 : Nat) : Int))), (1, (0, ((s' : Nat) : Int))), (2, (0, (i))), (3, (0, (v)))]) (st' := [(0, (-1))]) (h' := h) (o274_3 hB) rfl ?_
        exact w_iret (o274_4 hB) mr274 (by unfold in32; omega) (a0 (by omega))
  · obtain ⟨s', e_s⟩ : ∃ q : Nat, s = q := ⟨s.toNat, by omega⟩
    subst e_s
    simp only [Int.toNat_natCast] at hrw
    have r_rw := ty_205_s0 ht (j := s') (r := s') (by omega) (by omega)
    rw [hrw] at r_rw
    obtain ⟨r', e_r⟩ : ∃ q : Nat, rw = q := ⟨rw.toNat, by omega⟩
    subst e_r
    simp only [Int.toNat_natCast] at hrs hrz
    have r_rs := ty_206_s0 ht (j := r') (r := r') (by omega) (by omega)
    rw [hrs] at r_rs
    have r_rz := ty_207_s0 ht (j := r') (r := r') (by omega) (by omega)
    rw [hrz] at r_rz
    simp only [Int.toNat_natCast] at a3 a4 a5
    refine mh_go hB mg274 ml274 (Nat.le_of_ble_eq_true rfl) ?_
    show HW g l (d + 1 + 1) 274 _ _ 0 [(0, (2, ((193 : Nat) : Int))), (1, (0, ((s' : Nat) : Int))), (2, (0, (i))), (3, (0, (v)))] [] h
    refine w_pl (pc' := 1) (lv' := [(0, (2, ((193 : Nat) : Int))), (1, (0, ((s' : Nat) : Int))), (2, (0, (i))), (3, (0, (v)))]) (st' := [(0, ((s' : Nat) : Int))]) (h' := h) (o274_0 hB) rfl ?_
    refine w_callS (as := [(0, ((s' : Nat) : Int))]) (rest := []) (n := 1) (pc' := 4) hB (o274_1 hB) rfl (by decide +kernel) rfl rfl (Nat.le_of_ble_eq_true rfl) (m_isFourM hB (fun f328 => ?_) (fun f329 => ?_))
    · show HW g l _ 274 _ _ 4 [(0, (2, ((193 : Nat) : Int))), (1, (0, ((s' : Nat) : Int))), (2, (0, (i))), (3, (0, (v)))] [(0, ((1 : Nat) : Int))] h
      refine w_ifc (pt := 9) (pf := 7) (o274_2 hB) (by decide) rfl (fun e => ?_) (fun e => ?_)
      · have f330 : (((1 : Nat) : Int) ≠ (0)) := e
        refine w_pl (pc' := 10) (lv' := [(0, (2, ((193 : Nat) : Int))), (1, (0, ((s' : Nat) : Int))), (2, (0, (i))), (3, (0, (v)))]) (st' := [(2, ((193 : Nat) : Int))]) (h' := h) (o274_5 hB) rfl ?_
        refine w_getf (A := 193) (t := 2) (z := ((205 : Nat) : Int)) (pc' := 13) (o274_6 hB) rfl (by decide +kernel) (hR (193, 35, 205) (by decide)) ?_
        refine w_pl (pc' := 14) (lv' := [(0, (2, ((193 : Nat) : Int))), (1, (0, ((s' : Nat) : Int))), (2, (0, (i))), (3, (0, (v)))]) (st' := [(0, ((s' : Nat) : Int)), (2, ((205 : Nat) : Int))]) (h' := h) (o274_7 hB) rfl ?_
        refine w_iald (A := 205) (i := s') (n := 4) (z := ((r' : Nat) : Int)) (pc' := 15) (o274_8 hB) rfl (by decide +kernel) (by omega) hrw ?_
        refine w_st (tg := 0) (j := 4) (len := 2) (pc' := 17) (lv' := [(4, (0, ((r' : Nat) : Int))), (0, (2, ((193 : Nat) : Int))), (1, (0, ((s' : Nat) : Int))), (2, (0, (i))), (3, (0, (v)))]) (o274_9 hB) rfl rfl ml274 (by decide) rfl ?_
        refine w_pl (pc' := 19) (lv' := [(4, (0, ((r' : Nat) : Int))), (0, (2, ((193 : Nat) : Int))), (1, (0, ((s' : Nat) : Int))), (2, (0, (i))), (3, (0, (v)))]) (st' := [(0, ((r' : Nat) : Int))]) (h' := h) (o274_10 hB) rfl ?_
        refine w_ifc (pt := 25) (pf := 22) (o274_11 hB) (by decide) rfl (fun e => ?_) (fun e => ?_)
        · have f331 : ((0) ≤ ((r' : Nat) : Int)) := e
          refine w_pl (pc' := 26) (lv' := [(4, (0, ((r' : Nat) : Int))), (0, (2, ((193 : Nat) : Int))), (1, (0, ((s' : Nat) : Int))), (2, (0, (i))), (3, (0, (v)))]) (st' := [(0, (i))]) (h' := h) (o274_14 hB) rfl ?_
          refine w_pl (pc' := 27) (lv' := [(4, (0, ((r' : Nat) : Int))), (0, (2, ((193 : Nat) : Int))), (1, (0, ((s' : Nat) : Int))), (2, (0, (i))), (3, (0, (v)))]) (st' := [(0, ((0 : Nat) : Int)), (0, (i))]) (h' := h) (o274_15 hB) rfl ?_
          refine w_pl (pc' := 28) (lv' := [(4, (0, ((r' : Nat) : Int))), (0, (2, ((193 : Nat) : Int))), (1, (0, ((s' : Nat) : Int))), (2, (0, (i))), (3, (0, (v)))]) (st' := [(2, ((193 : Nat) : Int)), (0, ((0 : Nat) : Int)), (0, (i))]) (h' := h) (o274_16 hB) rfl ?_
          refine w_getf (A := 193) (t := 2) (z := ((207 : Nat) : Int)) (pc' := 31) (o274_17 hB) rfl (by decide +kernel) (hR (193, 37, 207) (by decide)) ?_
          refine w_pl (pc' := 33) (lv' := [(4, (0, ((r' : Nat) : Int))), (0, (2, ((193 : Nat) : Int))), (1, (0, ((s' : Nat) : Int))), (2, (0, (i))), (3, (0, (v)))]) (st' := [(0, ((r' : Nat) : Int)), (2, ((207 : Nat) : Int)), (0, ((0 : Nat) : Int)), (0, (i))]) (h' := h) (o274_18 hB) rfl ?_
          refine w_iald (A := 207) (i := r') (n := 8) (z := (rz)) (pc' := 34) (o274_19 hB) rfl (by decide +kernel) (by omega) hrz ?_
          refine w_pl (pc' := 35) (lv' := [(4, (0, ((r' : Nat) : Int))), (0, (2, ((193 : Nat) : Int))), (1, (0, ((s' : Nat) : Int))), (2, (0, (i))), (3, (0, (v)))]) (st' := [(0, ((1 : Nat) : Int)), (0, (rz)), (0, ((0 : Nat) : Int)), (0, (i))]) (h' := h) (o274_20 hB) rfl ?_
          refine w_isub (z := ((rz) - ((1 : Nat) : Int))) (pc' := 36) (o274_21 hB) rfl (w32_e (by omega) (by omega)) ?_
          refine w_callS (as := [(0, (i)), (0, ((0 : Nat) : Int)), (0, ((rz) - ((1 : Nat) : Int)))]) (rest := []) (n := 3) (pc' := 39) hB (o274_22 hB) rfl (by decide +kernel) rfl rfl (Nat.le_of_ble_eq_true rfl) (m_in hB (fun f332 => ?_) (fun f333 => ?_))
          · exfalso; omega
          · show HW g l _ 274 _ _ 39 [(4, (0, ((r' : Nat) : Int))), (0, (2, ((193 : Nat) : Int))), (1, (0, ((s' : Nat) : Int))), (2, (0, (i))), (3, (0, (v)))] [(0, ((0 : Nat) : Int))] h
            refine w_ifc (pt := 45) (pf := 42) (o274_23 hB) (by decide) rfl (fun e => ?_) (fun e => ?_)
            · have f334 : (((0 : Nat) : Int) ≠ (0)) := e
              exfalso; omega
            · have f335 : ¬ (((0 : Nat) : Int) ≠ (0)) := e
              refine w_pl (pc' := 44) (lv' := [(4, (0, ((r' : Nat) : Int))), (0, (2, ((193 : Nat) : Int))), (1, (0, ((s' : Nat) : Int))), (2, (0, (i))), (3, (0, (v)))]) (st' := [(0, (-12))]) (h' := h) (o274_24 hB) rfl ?_
              exact w_iret (o274_25 hB) mr274 (by unfold in32; omega) (a2 (by omega))
        · have f336 : ¬ ((0) ≤ ((r' : Nat) : Int)) := e
          refine w_pl (pc' := 24) (lv' := [(4, (0, ((r' : Nat) : Int))), (0, (2, ((193 : Nat) : Int))), (1, (0, ((s' : Nat) : Int))), (2, (0, (i))), (3, (0, (v)))]) (st' := [(0, (-11))]) (h' := h) (o274_12 hB) rfl ?_
          exact w_iret (o274_13 hB) mr274 (by unfold in32; omega) (a1 (by omega))
      · have f337 : ¬ (((1 : Nat) : Int) ≠ (0)) := e
        exfalso; omega
    · show HW g l _ 274 _ _ 4 [(0, (2, ((193 : Nat) : Int))), (1, (0, ((s' : Nat) : Int))), (2, (0, (i))), (3, (0, (v)))] [(0, ((0 : Nat) : Int))] h
      refine w_ifc (pt := 9) (pf := 7) (o274_2 hB) (by decide) rfl (fun e => ?_) (fun e => ?_)
      · have f338 : (((0 : Nat) : Int) ≠ (0)) := e
        exfalso; omega
      · have f339 : ¬ (((0 : Nat) : Int) ≠ (0)) := e
        refine w_pl (pc' := 8) (lv' := [(0, (2, ((193 : Nat) : Int))), (1, (0, ((s' : Nat) : Int))), (2, (0, (i))), (3, (0, (v)))]) (st' := [(0, (-1))]) (h' := h) (o274_3 hB) rfl ?_
        exact w_iret (o274_4 hB) mr274 (by unfold in32; omega) (a0 (by omega))
  · obtain ⟨s', e_s⟩ : ∃ q : Nat, s = q := ⟨s.toNat, by omega⟩
    subst e_s
    simp only [Int.toNat_natCast] at hrw
    have r_rw := ty_205_s0 ht (j := s') (r := s') (by omega) (by omega)
    rw [hrw] at r_rw
    obtain ⟨r', e_r⟩ : ∃ q : Nat, rw = q := ⟨rw.toNat, by omega⟩
    subst e_r
    simp only [Int.toNat_natCast] at hrs hrz
    have r_rs := ty_206_s0 ht (j := r') (r := r') (by omega) (by omega)
    rw [hrs] at r_rs
    have r_rz := ty_207_s0 ht (j := r') (r := r') (by omega) (by omega)
    rw [hrz] at r_rz
    obtain ⟨i', e_i⟩ : ∃ q : Nat, i = q := ⟨i.toNat, by omega⟩
    subst e_i
    simp only [Int.toNat_natCast] at a3 a4 a5
    refine mh_go hB mg274 ml274 (Nat.le_of_ble_eq_true rfl) ?_
    show HW g l (d + 1 + 1) 274 _ _ 0 [(0, (2, ((193 : Nat) : Int))), (1, (0, ((s' : Nat) : Int))), (2, (0, ((i' : Nat) : Int))), (3, (0, (v)))] [] h
    refine w_pl (pc' := 1) (lv' := [(0, (2, ((193 : Nat) : Int))), (1, (0, ((s' : Nat) : Int))), (2, (0, ((i' : Nat) : Int))), (3, (0, (v)))]) (st' := [(0, ((s' : Nat) : Int))]) (h' := h) (o274_0 hB) rfl ?_
    refine w_callS (as := [(0, ((s' : Nat) : Int))]) (rest := []) (n := 1) (pc' := 4) hB (o274_1 hB) rfl (by decide +kernel) rfl rfl (Nat.le_of_ble_eq_true rfl) (m_isFourM hB (fun f340 => ?_) (fun f341 => ?_))
    · show HW g l _ 274 _ _ 4 [(0, (2, ((193 : Nat) : Int))), (1, (0, ((s' : Nat) : Int))), (2, (0, ((i' : Nat) : Int))), (3, (0, (v)))] [(0, ((1 : Nat) : Int))] h
      refine w_ifc (pt := 9) (pf := 7) (o274_2 hB) (by decide) rfl (fun e => ?_) (fun e => ?_)
      · have f342 : (((1 : Nat) : Int) ≠ (0)) := e
        refine w_pl (pc' := 10) (lv' := [(0, (2, ((193 : Nat) : Int))), (1, (0, ((s' : Nat) : Int))), (2, (0, ((i' : Nat) : Int))), (3, (0, (v)))]) (st' := [(2, ((193 : Nat) : Int))]) (h' := h) (o274_5 hB) rfl ?_
        refine w_getf (A := 193) (t := 2) (z := ((205 : Nat) : Int)) (pc' := 13) (o274_6 hB) rfl (by decide +kernel) (hR (193, 35, 205) (by decide)) ?_
        refine w_pl (pc' := 14) (lv' := [(0, (2, ((193 : Nat) : Int))), (1, (0, ((s' : Nat) : Int))), (2, (0, ((i' : Nat) : Int))), (3, (0, (v)))]) (st' := [(0, ((s' : Nat) : Int)), (2, ((205 : Nat) : Int))]) (h' := h) (o274_7 hB) rfl ?_
        refine w_iald (A := 205) (i := s') (n := 4) (z := ((r' : Nat) : Int)) (pc' := 15) (o274_8 hB) rfl (by decide +kernel) (by omega) hrw ?_
        refine w_st (tg := 0) (j := 4) (len := 2) (pc' := 17) (lv' := [(4, (0, ((r' : Nat) : Int))), (0, (2, ((193 : Nat) : Int))), (1, (0, ((s' : Nat) : Int))), (2, (0, ((i' : Nat) : Int))), (3, (0, (v)))]) (o274_9 hB) rfl rfl ml274 (by decide) rfl ?_
        refine w_pl (pc' := 19) (lv' := [(4, (0, ((r' : Nat) : Int))), (0, (2, ((193 : Nat) : Int))), (1, (0, ((s' : Nat) : Int))), (2, (0, ((i' : Nat) : Int))), (3, (0, (v)))]) (st' := [(0, ((r' : Nat) : Int))]) (h' := h) (o274_10 hB) rfl ?_
        refine w_ifc (pt := 25) (pf := 22) (o274_11 hB) (by decide) rfl (fun e => ?_) (fun e => ?_)
        · have f343 : ((0) ≤ ((r' : Nat) : Int)) := e
          refine w_pl (pc' := 26) (lv' := [(4, (0, ((r' : Nat) : Int))), (0, (2, ((193 : Nat) : Int))), (1, (0, ((s' : Nat) : Int))), (2, (0, ((i' : Nat) : Int))), (3, (0, (v)))]) (st' := [(0, ((i' : Nat) : Int))]) (h' := h) (o274_14 hB) rfl ?_
          refine w_pl (pc' := 27) (lv' := [(4, (0, ((r' : Nat) : Int))), (0, (2, ((193 : Nat) : Int))), (1, (0, ((s' : Nat) : Int))), (2, (0, ((i' : Nat) : Int))), (3, (0, (v)))]) (st' := [(0, ((0 : Nat) : Int)), (0, ((i' : Nat) : Int))]) (h' := h) (o274_15 hB) rfl ?_
          refine w_pl (pc' := 28) (lv' := [(4, (0, ((r' : Nat) : Int))), (0, (2, ((193 : Nat) : Int))), (1, (0, ((s' : Nat) : Int))), (2, (0, ((i' : Nat) : Int))), (3, (0, (v)))]) (st' := [(2, ((193 : Nat) : Int)), (0, ((0 : Nat) : Int)), (0, ((i' : Nat) : Int))]) (h' := h) (o274_16 hB) rfl ?_
          refine w_getf (A := 193) (t := 2) (z := ((207 : Nat) : Int)) (pc' := 31) (o274_17 hB) rfl (by decide +kernel) (hR (193, 37, 207) (by decide)) ?_
          refine w_pl (pc' := 33) (lv' := [(4, (0, ((r' : Nat) : Int))), (0, (2, ((193 : Nat) : Int))), (1, (0, ((s' : Nat) : Int))), (2, (0, ((i' : Nat) : Int))), (3, (0, (v)))]) (st' := [(0, ((r' : Nat) : Int)), (2, ((207 : Nat) : Int)), (0, ((0 : Nat) : Int)), (0, ((i' : Nat) : Int))]) (h' := h) (o274_18 hB) rfl ?_
          refine w_iald (A := 207) (i := r') (n := 8) (z := (rz)) (pc' := 34) (o274_19 hB) rfl (by decide +kernel) (by omega) hrz ?_
          refine w_pl (pc' := 35) (lv' := [(4, (0, ((r' : Nat) : Int))), (0, (2, ((193 : Nat) : Int))), (1, (0, ((s' : Nat) : Int))), (2, (0, ((i' : Nat) : Int))), (3, (0, (v)))]) (st' := [(0, ((1 : Nat) : Int)), (0, (rz)), (0, ((0 : Nat) : Int)), (0, ((i' : Nat) : Int))]) (h' := h) (o274_20 hB) rfl ?_
          refine w_isub (z := ((rz) - ((1 : Nat) : Int))) (pc' := 36) (o274_21 hB) rfl (w32_e (by omega) (by omega)) ?_
          refine w_callS (as := [(0, ((i' : Nat) : Int)), (0, ((0 : Nat) : Int)), (0, ((rz) - ((1 : Nat) : Int)))]) (rest := []) (n := 3) (pc' := 39) hB (o274_22 hB) rfl (by decide +kernel) rfl rfl (Nat.le_of_ble_eq_true rfl) (m_in hB (fun f344 => ?_) (fun f345 => ?_))
          · show HW g l _ 274 _ _ 39 [(4, (0, ((r' : Nat) : Int))), (0, (2, ((193 : Nat) : Int))), (1, (0, ((s' : Nat) : Int))), (2, (0, ((i' : Nat) : Int))), (3, (0, (v)))] [(0, ((1 : Nat) : Int))] h
            refine w_ifc (pt := 45) (pf := 42) (o274_23 hB) (by decide) rfl (fun e => ?_) (fun e => ?_)
            · have f346 : (((1 : Nat) : Int) ≠ (0)) := e
              refine w_pl (pc' := 46) (lv' := [(4, (0, ((r' : Nat) : Int))), (0, (2, ((193 : Nat) : Int))), (1, (0, ((s' : Nat) : Int))), (2, (0, ((i' : Nat) : Int))), (3, (0, (v)))]) (st' := [(2, ((193 : Nat) : Int))]) (h' := h) (o274_26 hB) rfl ?_
              refine w_getf (A := 193) (t := 2) (z := ((208 : Nat) : Int)) (pc' := 49) (o274_27 hB) rfl (by decide +kernel) (hR (193, 38, 208) (by decide)) ?_
              refine w_pl (pc' := 51) (lv' := [(4, (0, ((r' : Nat) : Int))), (0, (2, ((193 : Nat) : Int))), (1, (0, ((s' : Nat) : Int))), (2, (0, ((i' : Nat) : Int))), (3, (0, (v)))]) (st' := [(0, ((40 : Nat) : Int)), (2, ((208 : Nat) : Int))]) (h' := h) (o274_28 hB) rfl ?_
              refine w_pl (pc' := 53) (lv' := [(4, (0, ((r' : Nat) : Int))), (0, (2, ((193 : Nat) : Int))), (1, (0, ((s' : Nat) : Int))), (2, (0, ((i' : Nat) : Int))), (3, (0, (v)))]) (st' := [(0, ((r' : Nat) : Int)), (0, ((40 : Nat) : Int)), (2, ((208 : Nat) : Int))]) (h' := h) (o274_29 hB) rfl ?_
              refine w_imul (z := (((40 * r') : Nat) : Int)) (pc' := 54) (o274_30 hB) rfl (w32_e (by omega) (by omega)) ?_
              refine w_pl (pc' := 55) (lv' := [(4, (0, ((r' : Nat) : Int))), (0, (2, ((193 : Nat) : Int))), (1, (0, ((s' : Nat) : Int))), (2, (0, ((i' : Nat) : Int))), (3, (0, (v)))]) (st' := [(0, ((i' : Nat) : Int)), (0, (((40 * r') : Nat) : Int)), (2, ((208 : Nat) : Int))]) (h' := h) (o274_31 hB) rfl ?_
              refine w_iadd (z := ((((40 * r') + i') : Nat) : Int)) (pc' := 56) (o274_32 hB) rfl (w32_e (by omega) (by omega)) ?_
              refine w_pl (pc' := 57) (lv' := [(4, (0, ((r' : Nat) : Int))), (0, (2, ((193 : Nat) : Int))), (1, (0, ((s' : Nat) : Int))), (2, (0, ((i' : Nat) : Int))), (3, (0, (v)))]) (st' := [(2, ((193 : Nat) : Int)), (0, ((((40 * r') + i') : Nat) : Int)), (2, ((208 : Nat) : Int))]) (h' := h) (o274_33 hB) rfl ?_
              refine w_getf (A := 193) (t := 2) (z := ((206 : Nat) : Int)) (pc' := 60) (o274_34 hB) rfl (by decide +kernel) (hR (193, 36, 206) (by decide)) ?_
              refine w_pl (pc' := 62) (lv' := [(4, (0, ((r' : Nat) : Int))), (0, (2, ((193 : Nat) : Int))), (1, (0, ((s' : Nat) : Int))), (2, (0, ((i' : Nat) : Int))), (3, (0, (v)))]) (st' := [(0, ((r' : Nat) : Int)), (2, ((206 : Nat) : Int)), (0, ((((40 * r') + i') : Nat) : Int)), (2, ((208 : Nat) : Int))]) (h' := h) (o274_35 hB) rfl ?_
              refine w_iald (A := 206) (i := r') (n := 8) (z := (rs)) (pc' := 63) (o274_36 hB) rfl (by decide +kernel) (by omega) hrs ?_
              refine w_ifc (pt := 71) (pf := 66) (o274_37 hB) (by decide) rfl (fun e => ?_) (fun e => ?_)
              · have f347 : ((rs) ≠ (0)) := e
                refine w_pl (pc' := 72) (lv' := [(4, (0, ((r' : Nat) : Int))), (0, (2, ((193 : Nat) : Int))), (1, (0, ((s' : Nat) : Int))), (2, (0, ((i' : Nat) : Int))), (3, (0, (v)))]) (st' := [(2, ((193 : Nat) : Int)), (0, ((((40 * r') + i') : Nat) : Int)), (2, ((208 : Nat) : Int))]) (h' := h) (o274_41 hB) rfl ?_
                refine w_getf (A := 193) (t := 2) (z := ((206 : Nat) : Int)) (pc' := 75) (o274_42 hB) rfl (by decide +kernel) (hR (193, 36, 206) (by decide)) ?_
                refine w_pl (pc' := 77) (lv' := [(4, (0, ((r' : Nat) : Int))), (0, (2, ((193 : Nat) : Int))), (1, (0, ((s' : Nat) : Int))), (2, (0, ((i' : Nat) : Int))), (3, (0, (v)))]) (st' := [(0, ((r' : Nat) : Int)), (2, ((206 : Nat) : Int)), (0, ((((40 * r') + i') : Nat) : Int)), (2, ((208 : Nat) : Int))]) (h' := h) (o274_43 hB) rfl ?_
                refine w_iald (A := 206) (i := r') (n := 8) (z := (rs)) (pc' := 78) (o274_44 hB) rfl (by decide +kernel) (by omega) hrs ?_
                refine w_pl (pc' := 79) (lv' := [(4, (0, ((r' : Nat) : Int))), (0, (2, ((193 : Nat) : Int))), (1, (0, ((s' : Nat) : Int))), (2, (0, ((i' : Nat) : Int))), (3, (0, (v)))]) (st' := [(0, ((1 : Nat) : Int)), (0, (rs)), (0, ((((40 * r') + i') : Nat) : Int)), (2, ((208 : Nat) : Int))]) (h' := h) (o274_45 hB) rfl ?_
                refine w_icmp (pt := 87) (pf := 82) (o274_46 hB) (by decide) rfl (fun e => ?_) (fun e => ?_)
                · have f348 : ((rs) ≠ ((1 : Nat) : Int)) := e
                  refine w_pl (pc' := 88) (lv' := [(4, (0, ((r' : Nat) : Int))), (0, (2, ((193 : Nat) : Int))), (1, (0, ((s' : Nat) : Int))), (2, (0, ((i' : Nat) : Int))), (3, (0, (v)))]) (st' := [(0, (v)), (0, ((((40 * r') + i') : Nat) : Int)), (2, ((208 : Nat) : Int))]) (h' := h) (o274_50 hB) rfl ?_
                  refine w_iast (A := 208) (i := ((40 * r') + i')) (n := 320) (pc' := 89) (o274_51 hB) rfl (by decide +kernel) (by omega) ?_
                  refine w_pl (pc' := 90) (lv' := [(4, (0, ((r' : Nat) : Int))), (0, (2, ((193 : Nat) : Int))), (1, (0, ((s' : Nat) : Int))), (2, (0, ((i' : Nat) : Int))), (3, (0, (v)))]) (st' := [(0, ((1 : Nat) : Int))]) (h' := (hup h 208 (((40 * r') + i')) (v))) (o274_52 hB) rfl ?_
                  exact w_iret (o274_53 hB) mr274 (by unfold in32; omega) (a5 (by omega))
                · have f349 : ¬ ((rs) ≠ ((1 : Nat) : Int)) := e
                  refine w_pl (pc' := 83) (lv' := [(4, (0, ((r' : Nat) : Int))), (0, (2, ((193 : Nat) : Int))), (1, (0, ((s' : Nat) : Int))), (2, (0, ((i' : Nat) : Int))), (3, (0, (v)))]) (st' := [(0, (v)), (0, ((((40 * r') + i') : Nat) : Int)), (2, ((208 : Nat) : Int))]) (h' := h) (o274_47 hB) rfl ?_
                  refine w_i2s (z := (Int.bmod (v) 65536)) (pc' := 84) (o274_48 hB) rfl rfl ?_
                  refine w_goto (pt := 88) (o274_49 hB) (by decide) ?_
                  refine w_iast (A := 208) (i := ((40 * r') + i')) (n := 320) (pc' := 89) (o274_51 hB) rfl (by decide +kernel) (by omega) ?_
                  refine w_pl (pc' := 90) (lv' := [(4, (0, ((r' : Nat) : Int))), (0, (2, ((193 : Nat) : Int))), (1, (0, ((s' : Nat) : Int))), (2, (0, ((i' : Nat) : Int))), (3, (0, (v)))]) (st' := [(0, ((1 : Nat) : Int))]) (h' := (hup h 208 (((40 * r') + i')) (Int.bmod (v) 65536))) (o274_52 hB) rfl ?_
                  exact w_iret (o274_53 hB) mr274 (by unfold in32; omega) (a4 (by omega))
              · have f350 : ¬ ((rs) ≠ (0)) := e
                refine w_pl (pc' := 67) (lv' := [(4, (0, ((r' : Nat) : Int))), (0, (2, ((193 : Nat) : Int))), (1, (0, ((s' : Nat) : Int))), (2, (0, ((i' : Nat) : Int))), (3, (0, (v)))]) (st' := [(0, (v)), (0, ((((40 * r') + i') : Nat) : Int)), (2, ((208 : Nat) : Int))]) (h' := h) (o274_38 hB) rfl ?_
                refine w_i2b (z := (Int.bmod (v) 256)) (pc' := 68) (o274_39 hB) rfl rfl ?_
                refine w_goto (pt := 88) (o274_40 hB) (by decide) ?_
                refine w_iast (A := 208) (i := ((40 * r') + i')) (n := 320) (pc' := 89) (o274_51 hB) rfl (by decide +kernel) (by omega) ?_
                refine w_pl (pc' := 90) (lv' := [(4, (0, ((r' : Nat) : Int))), (0, (2, ((193 : Nat) : Int))), (1, (0, ((s' : Nat) : Int))), (2, (0, ((i' : Nat) : Int))), (3, (0, (v)))]) (st' := [(0, ((1 : Nat) : Int))]) (h' := (hup h 208 (((40 * r') + i')) (Int.bmod (v) 256))) (o274_52 hB) rfl ?_
                exact w_iret (o274_53 hB) mr274 (by unfold in32; omega) (a3 (by omega))
            · have f351 : ¬ (((1 : Nat) : Int) ≠ (0)) := e
              exfalso; omega
          · show HW g l _ 274 _ _ 39 [(4, (0, ((r' : Nat) : Int))), (0, (2, ((193 : Nat) : Int))), (1, (0, ((s' : Nat) : Int))), (2, (0, ((i' : Nat) : Int))), (3, (0, (v)))] [(0, ((0 : Nat) : Int))] h
            refine w_ifc (pt := 45) (pf := 42) (o274_23 hB) (by decide) rfl (fun e => ?_) (fun e => ?_)
            · have f352 : (((0 : Nat) : Int) ≠ (0)) := e
              exfalso; omega
            · have f353 : ¬ (((0 : Nat) : Int) ≠ (0)) := e
              refine w_pl (pc' := 44) (lv' := [(4, (0, ((r' : Nat) : Int))), (0, (2, ((193 : Nat) : Int))), (1, (0, ((s' : Nat) : Int))), (2, (0, ((i' : Nat) : Int))), (3, (0, (v)))]) (st' := [(0, (-12))]) (h' := h) (o274_24 hB) rfl ?_
              exact w_iret (o274_25 hB) mr274 (by unfold in32; omega) (a2 (by omega))
        · have f354 : ¬ ((0) ≤ ((r' : Nat) : Int)) := e
          refine w_pl (pc' := 24) (lv' := [(4, (0, ((r' : Nat) : Int))), (0, (2, ((193 : Nat) : Int))), (1, (0, ((s' : Nat) : Int))), (2, (0, ((i' : Nat) : Int))), (3, (0, (v)))]) (st' := [(0, (-11))]) (h' := h) (o274_12 hB) rfl ?_
          exact w_iret (o274_13 hB) mr274 (by unfold in32; omega) (a1 (by omega))
      · have f355 : ¬ (((1 : Nat) : Int) ≠ (0)) := e
        exfalso; omega
    · show HW g l _ 274 _ _ 4 [(0, (2, ((193 : Nat) : Int))), (1, (0, ((s' : Nat) : Int))), (2, (0, ((i' : Nat) : Int))), (3, (0, (v)))] [(0, ((0 : Nat) : Int))] h
      refine w_ifc (pt := 9) (pf := 7) (o274_2 hB) (by decide) rfl (fun e => ?_) (fun e => ?_)
      · have f356 : (((0 : Nat) : Int) ≠ (0)) := e
        exfalso; omega
      · have f357 : ¬ (((0 : Nat) : Int) ≠ (0)) := e
        refine w_pl (pc' := 8) (lv' := [(0, (2, ((193 : Nat) : Int))), (1, (0, ((s' : Nat) : Int))), (2, (0, ((i' : Nat) : Int))), (3, (0, (v)))]) (st' := [(0, (-1))]) (h' := h) (o274_3 hB) rfl ?_
        exact w_iret (o274_4 hB) mr274 (by unfold in32; omega) (a0 (by omega))
def s_putM (vs : List bV) (h : bH) (r : Option bV) (h' : bH) : Prop := TH h ∧ ∀ (s i v : Int) (rw : Int) (rs : Int) (rz : Int) , vs = [(2, ((193 : Nat) : Int)), (0, s), (0, i), (0, v)] → h 205 (s.toNat) = rw → h 206 (rw.toNat) = rs → h 207 (rw.toNat) = rz → ((¬ (0 ≤ s ∧ s ≤ 3)) ∧ r = some (0, (-1)) ∧ h = h') ∨ (((0 ≤ s ∧ s ≤ 3) ∧ rw < 0) ∧ r = some (0, (-11)) ∧ h = h') ∨ (((0 ≤ s ∧ s ≤ 3) ∧ 0 ≤ rw ∧ ¬ (0 ≤ i ∧ i < rz)) ∧ r = some (0, (-12)) ∧ h = h') ∨ ((((0 ≤ s ∧ s ≤ 3) ∧ 0 ≤ rw ∧ 0 ≤ rs ∧ 0 ≤ i ∧ i < rz) ∧ rs = 0) ∧ r = some (0, 1) ∧ h' = (hup h 208 (((40 * (rw.toNat)) + (i.toNat))) (Int.bmod (v) 256))) ∨ ((((0 ≤ s ∧ s ≤ 3) ∧ 0 ≤ rw ∧ 0 ≤ rs ∧ 0 ≤ i ∧ i < rz) ∧ rs = 1) ∧ r = some (0, 1) ∧ h' = (hup h 208 (((40 * (rw.toNat)) + (i.toNat))) (Int.bmod (v) 65536))) ∨ ((((0 ≤ s ∧ s ≤ 3) ∧ 0 ≤ rw ∧ 0 ≤ rs ∧ 0 ≤ i ∧ i < rz) ∧ rs ≠ 0 ∧ rs ≠ 1) ∧ r = some (0, 1) ∧ h' = (hup h 208 (((40 * (rw.toNat)) + (i.toNat))) (v)))
def w_putM : List (Nat × Nat × Nat) := [(208, 0, 320)]
def q_putM : aCt := cH 274 2 w_putM 3 193
theorem sk_putM (hB : BytesOK) (g : bG) (l : Launch) : SK g l gT q_putM s_putM := by
  intro d hd ρ h Q hcore hQ
  have hcore : core (PofW gT (some w_putM) false) (gsc g) h ρ h (List.replicate 3 r32, [], [], 212) := hcore
  have ht := hTH hcore
  have y0 := r32_0 hcore 0 (by decide)
  have y1 := r32_0 hcore 1 (by decide)
  have y2 := r32_0 hcore 2 (by decide)
  have y00 := y0
  unfold in32 at y00
  have y01 := y1
  unfold in32 at y01
  have y02 := y2
  unfold in32 at y02
  obtain ⟨d', rfl⟩ : ∃ d', d = d' + 1 + 1 := ⟨d - 2, by have : 2 ≤ d := hd; omega⟩
  rw [show evS ρ (ctA q_putM) = [(2, ((193 : Nat) : Int)), (0, ρ 0), (0, ρ 1), (0, ρ 2)] from evA3]
  refine m_putM (s := ρ 0) (i := ρ 1) (v := ρ 2) hB ht y0 y1 y2 rfl rfl rfl (fun hn => ?_) (fun hn => ?_) (fun hn => ?_) (fun hn => ?_) (fun hn => ?_) (fun hn => ?_)
  · refine hQ _ _ (hpost hcore (ht) (fun _ _ _ => rfl) (by unfold in32; omega)) ⟨ht, fun s i v v_rw v_rs v_rz hv e_rw e_rs e_rz => ?_⟩
    have hv := (evA3 (ρ := ρ)).symm.trans hv
    obtain ⟨rfl, rfl, rfl⟩ := vsA3 hv
    subst e_rw
    subst e_rs
    subst e_rz
    exact Or.inl ⟨hn, rfl, rfl⟩
  · refine hQ _ _ (hpost hcore (ht) (fun _ _ _ => rfl) (by unfold in32; omega)) ⟨ht, fun s i v v_rw v_rs v_rz hv e_rw e_rs e_rz => ?_⟩
    have hv := (evA3 (ρ := ρ)).symm.trans hv
    obtain ⟨rfl, rfl, rfl⟩ := vsA3 hv
    subst e_rw
    subst e_rs
    subst e_rz
    exact Or.inr (Or.inl ⟨hn, rfl, rfl⟩)
  · refine hQ _ _ (hpost hcore (ht) (fun _ _ _ => rfl) (by unfold in32; omega)) ⟨ht, fun s i v v_rw v_rs v_rz hv e_rw e_rs e_rz => ?_⟩
    have hv := (evA3 (ρ := ρ)).symm.trans hv
    obtain ⟨rfl, rfl, rfl⟩ := vsA3 hv
    subst e_rw
    subst e_rs
    subst e_rz
    exact Or.inr (Or.inr (Or.inl ⟨hn, rfl, rfl⟩))
  · skip
    obtain ⟨r', e_r9⟩ : ∃ q : Nat, (h 205 ((ρ 0).toNat)).toNat = q := ⟨_, rfl⟩
    rw [e_r9]
    obtain ⟨i', e_i9⟩ : ∃ q : Nat, (ρ 1).toNat = q := ⟨_, rfl⟩
    rw [e_i9]
    have e205 := ty_205_s0 ht (j := (ρ 0).toNat) (r := (ρ 0).toNat) (by omega) (by omega)
    have e207 := ty_207_s0 ht (j := (h 205 (ρ 0).toNat).toNat) (r := (h 205 (ρ 0).toNat).toNat) (by omega) (by omega)
    refine hQ _ _ (hpost hcore ((up208 (ht) (by omega) (by have b1 := bmod_r (ρ 2); have b2 := bmod_s (ρ 2); omega))) (fr_up (fun _ _ _ => rfl) (wr_in (lo := 0) (hi := 320) (by decide) (by omega) (by omega))) (by unfold in32; omega)) ⟨ht, fun s i v v_rw v_rs v_rz hv e_rw e_rs e_rz => ?_⟩
    have hv := (evA3 (ρ := ρ)).symm.trans hv
    obtain ⟨rfl, rfl, rfl⟩ := vsA3 hv
    subst e_rw
    subst e_rs
    subst e_rz
    exact Or.inr (Or.inr (Or.inr (Or.inl ⟨hn, by first | rfl | (rw [e_r9]; done) | (rw [e_r9, e_i9]; done), by rw [e_r9, e_i9]⟩)))
  · skip
    obtain ⟨r', e_r9⟩ : ∃ q : Nat, (h 205 ((ρ 0).toNat)).toNat = q := ⟨_, rfl⟩
    rw [e_r9]
    obtain ⟨i', e_i9⟩ : ∃ q : Nat, (ρ 1).toNat = q := ⟨_, rfl⟩
    rw [e_i9]
    have e205 := ty_205_s0 ht (j := (ρ 0).toNat) (r := (ρ 0).toNat) (by omega) (by omega)
    have e207 := ty_207_s0 ht (j := (h 205 (ρ 0).toNat).toNat) (r := (h 205 (ρ 0).toNat).toNat) (by omega) (by omega)
    refine hQ _ _ (hpost hcore ((up208 (ht) (by omega) (by have b1 := bmod_r (ρ 2); have b2 := bmod_s (ρ 2); omega))) (fr_up (fun _ _ _ => rfl) (wr_in (lo := 0) (hi := 320) (by decide) (by omega) (by omega))) (by unfold in32; omega)) ⟨ht, fun s i v v_rw v_rs v_rz hv e_rw e_rs e_rz => ?_⟩
    have hv := (evA3 (ρ := ρ)).symm.trans hv
    obtain ⟨rfl, rfl, rfl⟩ := vsA3 hv
    subst e_rw
    subst e_rs
    subst e_rz
    exact Or.inr (Or.inr (Or.inr (Or.inr (Or.inl ⟨hn, by first | rfl | (rw [e_r9]; done) | (rw [e_r9, e_i9]; done), by rw [e_r9, e_i9]⟩))))
  · skip
    obtain ⟨r', e_r9⟩ : ∃ q : Nat, (h 205 ((ρ 0).toNat)).toNat = q := ⟨_, rfl⟩
    rw [e_r9]
    obtain ⟨i', e_i9⟩ : ∃ q : Nat, (ρ 1).toNat = q := ⟨_, rfl⟩
    rw [e_i9]
    have e205 := ty_205_s0 ht (j := (ρ 0).toNat) (r := (ρ 0).toNat) (by omega) (by omega)
    have e207 := ty_207_s0 ht (j := (h 205 (ρ 0).toNat).toNat) (r := (h 205 (ρ 0).toNat).toNat) (by omega) (by omega)
    refine hQ _ _ (hpost hcore ((up208 (ht) (by omega) (by have b1 := bmod_r (ρ 2); have b2 := bmod_s (ρ 2); omega))) (fr_up (fun _ _ _ => rfl) (wr_in (lo := 0) (hi := 320) (by decide) (by omega) (by omega))) (by unfold in32; omega)) ⟨ht, fun s i v v_rw v_rs v_rz hv e_rw e_rs e_rz => ?_⟩
    have hv := (evA3 (ρ := ρ)).symm.trans hv
    obtain ⟨rfl, rfl, rfl⟩ := vsA3 hv
    subst e_rw
    subst e_rs
    subst e_rz
    exact Or.inr (Or.inr (Or.inr (Or.inr (Or.inr (⟨hn, by first | rfl | (rw [e_r9]; done) | (rw [e_r9, e_i9]; done), by rw [e_r9, e_i9]⟩)))))
theorem m_addClaim (hB : BytesOK) {g : bG} {l : Launch} {d : Nat} {Q : bQ} {h : bH} {w st sp k : Int} (ht : TH h) (z_w : in32 w) (z_st : in32 st) (z_sp : in32 sp) (z_k : in32 k) {c : Nat} (hc : h 2 1 = (c : Int)) (lc : c ≤ 16)  (a0 : ¬ ((0 ≤ w ∧ w / 100 < 8 ∧ w / 10 % 10 < 4 ∧ w % 10 ≠ 0) ∧ (1 ≤ st ∧ st ≤ 4095) ∧ (-1 ≤ k ∧ k ≤ 7) ∧ 0 ≤ sp ∧ sp / 1000 ≤ 239 ∧ sp % 1000 ≤ 239 ∧ sp / 1000 ≤ sp % 1000) → Q (some (0, (-1))) h) (a1 : ((0 ≤ w ∧ w / 100 < 8 ∧ w / 10 % 10 < 4 ∧ w % 10 ≠ 0) ∧ (1 ≤ st ∧ st ≤ 4095) ∧ (-1 ≤ k ∧ k ≤ 7) ∧ 0 ≤ sp ∧ sp / 1000 ≤ 239 ∧ sp % 1000 ≤ 239 ∧ sp / 1000 ≤ sp % 1000) ∧ c = 16 → Q (some (0, (-2))) h) (a2 : ((0 ≤ w ∧ w / 100 < 8 ∧ w / 10 % 10 < 4 ∧ w % 10 ≠ 0) ∧ (1 ≤ st ∧ st ≤ 4095) ∧ (-1 ≤ k ∧ k ≤ 7) ∧ 0 ≤ sp ∧ sp / 1000 ≤ 239 ∧ sp % 1000 ≤ 239 ∧ sp / 1000 ≤ sp % 1000) ∧ c < 16 → Q (some (0, (c : Int))) (hup (hup (hup (hup (hup (hup (hup (hup h 3 (c) ((w) / 100)) 5 (c) (((w) / 10) % 10)) 8 (c) ((w) % 10)) 4 (c) (st)) 6 (c) ((sp) / 1000)) 7 (c) ((sp) % 1000)) 9 (c) (k)) 2 (1) (((c + 1) : Nat) : Int))) : MH g l (d + 1) 46 212 212 [(2, ((2 : Nat) : Int)), (0, (w)), (0, (st)), (0, (sp)), (0, (k))] h Q := by
  have hR := ht.r
  have z0_w := z_w
  have z0_st := z_st
  have z0_sp := z_sp
  have z0_k := z_k
  unfold in32 at z0_w
  unfold in32 at z0_st
  unfold in32 at z0_sp
  unfold in32 at z0_k
  rcases (by omega : sp < 0 ∨ 0 ≤ sp) with gg | gg
  · skip
    refine mh_go hB mg46 ml46 (Nat.le_of_ble_eq_true rfl) ?_
    show HW g l (d + 1) 46 _ _ 0 [(0, (2, ((2 : Nat) : Int))), (1, (0, (w))), (2, (0, (st))), (3, (0, (sp))), (4, (0, (k)))] [] h
    refine w_pl (pc' := 1) (lv' := [(0, (2, ((2 : Nat) : Int))), (1, (0, (w))), (2, (0, (st))), (3, (0, (sp))), (4, (0, (k)))]) (st' := [(0, (w))]) (h' := h) (o46_0 hB) rfl ?_
    refine w_ifc (pt := 31) (pf := 4) (o46_1 hB) (by decide) rfl (fun e => ?_) (fun e => ?_)
    · have f420 : ((w) < (0)) := e
      refine w_pl (pc' := 32) (lv' := [(0, (2, ((2 : Nat) : Int))), (1, (0, (w))), (2, (0, (st))), (3, (0, (sp))), (4, (0, (k)))]) (st' := [(0, (-1))]) (h' := h) (o46_18 hB) rfl ?_
      exact w_iret (o46_19 hB) mr46 (by unfold in32; omega) (a0 (by omega))
    · have f421 : ¬ ((w) < (0)) := e
      refine w_pl (pc' := 5) (lv' := [(0, (2, ((2 : Nat) : Int))), (1, (0, (w))), (2, (0, (st))), (3, (0, (sp))), (4, (0, (k)))]) (st' := [(0, (w))]) (h' := h) (o46_2 hB) rfl ?_
      refine w_pl (pc' := 7) (lv' := [(0, (2, ((2 : Nat) : Int))), (1, (0, (w))), (2, (0, (st))), (3, (0, (sp))), (4, (0, (k)))]) (st' := [(0, ((100 : Nat) : Int)), (0, (w))]) (h' := h) (o46_3 hB) rfl ?_
      refine w_idiv (z := ((w) / 100)) (pc' := 8) (o46_4 hB) rfl (divI_p (by omega) (by omega) (by decide)) ?_
      refine w_pl (pc' := 10) (lv' := [(0, (2, ((2 : Nat) : Int))), (1, (0, (w))), (2, (0, (st))), (3, (0, (sp))), (4, (0, (k)))]) (st' := [(0, ((8 : Nat) : Int)), (0, ((w) / 100))]) (h' := h) (o46_5 hB) rfl ?_
      refine w_icmp (pt := 31) (pf := 13) (o46_6 hB) (by decide) rfl (fun e => ?_) (fun e => ?_)
      · have f422 : (((8 : Nat) : Int) ≤ ((w) / 100)) := e
        refine w_pl (pc' := 32) (lv' := [(0, (2, ((2 : Nat) : Int))), (1, (0, (w))), (2, (0, (st))), (3, (0, (sp))), (4, (0, (k)))]) (st' := [(0, (-1))]) (h' := h) (o46_18 hB) rfl ?_
        exact w_iret (o46_19 hB) mr46 (by unfold in32; omega) (a0 (by omega))
      · have f423 : ¬ (((8 : Nat) : Int) ≤ ((w) / 100)) := e
        refine w_pl (pc' := 14) (lv' := [(0, (2, ((2 : Nat) : Int))), (1, (0, (w))), (2, (0, (st))), (3, (0, (sp))), (4, (0, (k)))]) (st' := [(0, (w))]) (h' := h) (o46_7 hB) rfl ?_
        refine w_pl (pc' := 16) (lv' := [(0, (2, ((2 : Nat) : Int))), (1, (0, (w))), (2, (0, (st))), (3, (0, (sp))), (4, (0, (k)))]) (st' := [(0, ((10 : Nat) : Int)), (0, (w))]) (h' := h) (o46_8 hB) rfl ?_
        refine w_idiv (z := ((w) / 10)) (pc' := 17) (o46_9 hB) rfl (divI_p (by omega) (by omega) (by decide)) ?_
        refine w_pl (pc' := 19) (lv' := [(0, (2, ((2 : Nat) : Int))), (1, (0, (w))), (2, (0, (st))), (3, (0, (sp))), (4, (0, (k)))]) (st' := [(0, ((10 : Nat) : Int)), (0, ((w) / 10))]) (h' := h) (o46_10 hB) rfl ?_
        refine w_irem (z := (((w) / 10) % 10)) (pc' := 20) (o46_11 hB) rfl (remI_p (by omega) (by decide)) ?_
        refine w_pl (pc' := 21) (lv' := [(0, (2, ((2 : Nat) : Int))), (1, (0, (w))), (2, (0, (st))), (3, (0, (sp))), (4, (0, (k)))]) (st' := [(0, ((4 : Nat) : Int)), (0, (((w) / 10) % 10))]) (h' := h) (o46_12 hB) rfl ?_
        refine w_icmp (pt := 31) (pf := 24) (o46_13 hB) (by decide) rfl (fun e => ?_) (fun e => ?_)
        · have f424 : (((4 : Nat) : Int) ≤ (((w) / 10) % 10)) := e
          refine w_pl (pc' := 32) (lv' := [(0, (2, ((2 : Nat) : Int))), (1, (0, (w))), (2, (0, (st))), (3, (0, (sp))), (4, (0, (k)))]) (st' := [(0, (-1))]) (h' := h) (o46_18 hB) rfl ?_
          exact w_iret (o46_19 hB) mr46 (by unfold in32; omega) (a0 (by omega))
        · have f425 : ¬ (((4 : Nat) : Int) ≤ (((w) / 10) % 10)) := e
          refine w_pl (pc' := 25) (lv' := [(0, (2, ((2 : Nat) : Int))), (1, (0, (w))), (2, (0, (st))), (3, (0, (sp))), (4, (0, (k)))]) (st' := [(0, (w))]) (h' := h) (o46_14 hB) rfl ?_
          refine w_pl (pc' := 27) (lv' := [(0, (2, ((2 : Nat) : Int))), (1, (0, (w))), (2, (0, (st))), (3, (0, (sp))), (4, (0, (k)))]) (st' := [(0, ((10 : Nat) : Int)), (0, (w))]) (h' := h) (o46_15 hB) rfl ?_
          refine w_irem (z := ((w) % 10)) (pc' := 28) (o46_16 hB) rfl (remI_p (by omega) (by decide)) ?_
          refine w_ifc (pt := 33) (pf := 31) (o46_17 hB) (by decide) rfl (fun e => ?_) (fun e => ?_)
          · have f426 : (((w) % 10) ≠ (0)) := e
            refine w_pl (pc' := 34) (lv' := [(0, (2, ((2 : Nat) : Int))), (1, (0, (w))), (2, (0, (st))), (3, (0, (sp))), (4, (0, (k)))]) (st' := [(0, (st))]) (h' := h) (o46_20 hB) rfl ?_
            refine w_callS (as := [(0, (st))]) (rest := []) (n := 1) (pc' := 37) hB (o46_21 hB) rfl (by decide +kernel) rfl rfl (Nat.le_of_ble_eq_true rfl) (m_isStepsB hB (fun f427 => ?_) (fun f428 => ?_))
            · show HW g l _ 46 _ _ 37 [(0, (2, ((2 : Nat) : Int))), (1, (0, (w))), (2, (0, (st))), (3, (0, (sp))), (4, (0, (k)))] [(0, ((1 : Nat) : Int))] h
              refine w_ifc (pt := 53) (pf := 40) (o46_22 hB) (by decide) rfl (fun e => ?_) (fun e => ?_)
              · have f429 : (((1 : Nat) : Int) = (0)) := e
                exfalso; omega
              · have f430 : ¬ (((1 : Nat) : Int) = (0)) := e
                refine w_pl (pc' := 42) (lv' := [(0, (2, ((2 : Nat) : Int))), (1, (0, (w))), (2, (0, (st))), (3, (0, (sp))), (4, (0, (k)))]) (st' := [(0, (k))]) (h' := h) (o46_23 hB) rfl ?_
                refine w_pl (pc' := 43) (lv' := [(0, (2, ((2 : Nat) : Int))), (1, (0, (w))), (2, (0, (st))), (3, (0, (sp))), (4, (0, (k)))]) (st' := [(0, (-1)), (0, (k))]) (h' := h) (o46_24 hB) rfl ?_
                refine w_icmp (pt := 53) (pf := 46) (o46_25 hB) (by decide) rfl (fun e => ?_) (fun e => ?_)
                · have f431 : ((k) < (-1)) := e
                  refine w_pl (pc' := 54) (lv' := [(0, (2, ((2 : Nat) : Int))), (1, (0, (w))), (2, (0, (st))), (3, (0, (sp))), (4, (0, (k)))]) (st' := [(0, (-1))]) (h' := h) (o46_29 hB) rfl ?_
                  exact w_iret (o46_30 hB) mr46 (by unfold in32; omega) (a0 (by omega))
                · have f432 : ¬ ((k) < (-1)) := e
                  refine w_pl (pc' := 48) (lv' := [(0, (2, ((2 : Nat) : Int))), (1, (0, (w))), (2, (0, (st))), (3, (0, (sp))), (4, (0, (k)))]) (st' := [(0, (k))]) (h' := h) (o46_26 hB) rfl ?_
                  refine w_pl (pc' := 50) (lv' := [(0, (2, ((2 : Nat) : Int))), (1, (0, (w))), (2, (0, (st))), (3, (0, (sp))), (4, (0, (k)))]) (st' := [(0, ((7 : Nat) : Int)), (0, (k))]) (h' := h) (o46_27 hB) rfl ?_
                  refine w_icmp (pt := 55) (pf := 53) (o46_28 hB) (by decide) rfl (fun e => ?_) (fun e => ?_)
                  · have f433 : ((k) ≤ ((7 : Nat) : Int)) := e
                    refine w_pl (pc' := 56) (lv' := [(0, (2, ((2 : Nat) : Int))), (1, (0, (w))), (2, (0, (st))), (3, (0, (sp))), (4, (0, (k)))]) (st' := [(0, (sp))]) (h' := h) (o46_31 hB) rfl ?_
                    refine w_pl (pc' := 59) (lv' := [(0, (2, ((2 : Nat) : Int))), (1, (0, (w))), (2, (0, (st))), (3, (0, (sp))), (4, (0, (k)))]) (st' := [(0, ((1000 : Nat) : Int)), (0, (sp))]) (h' := h) (o46_32 hB) rfl ?_
                    refine w_idiv (z := (-((-(sp)) / 1000))) (pc' := 60) (o46_33 hB) rfl (divI_n (by omega) (by omega) (by decide)) ?_
                    refine w_callS (as := [(0, (-((-(sp)) / 1000)))]) (rest := []) (n := 1) (pc' := 63) hB (o46_34 hB) rfl (by decide +kernel) rfl rfl (Nat.le_of_ble_eq_true rfl) (m_isMonthB hB (fun f434 => ?_) (fun f435 => ?_))
                    · show HW g l _ 46 _ _ 63 [(0, (2, ((2 : Nat) : Int))), (1, (0, (w))), (2, (0, (st))), (3, (0, (sp))), (4, (0, (k)))] [(0, ((1 : Nat) : Int))] h
                      refine w_ifc (pt := 90) (pf := 66) (o46_35 hB) (by decide) rfl (fun e => ?_) (fun e => ?_)
                      · have f436 : (((1 : Nat) : Int) = (0)) := e
                        exfalso; omega
                      · have f437 : ¬ (((1 : Nat) : Int) = (0)) := e
                        refine w_pl (pc' := 67) (lv' := [(0, (2, ((2 : Nat) : Int))), (1, (0, (w))), (2, (0, (st))), (3, (0, (sp))), (4, (0, (k)))]) (st' := [(0, (sp))]) (h' := h) (o46_36 hB) rfl ?_
                        refine w_pl (pc' := 70) (lv' := [(0, (2, ((2 : Nat) : Int))), (1, (0, (w))), (2, (0, (st))), (3, (0, (sp))), (4, (0, (k)))]) (st' := [(0, ((1000 : Nat) : Int)), (0, (sp))]) (h' := h) (o46_37 hB) rfl ?_
                        refine w_irem (z := (-((-(sp)) % 1000))) (pc' := 71) (o46_38 hB) rfl (remI_n (by omega) (by decide)) ?_
                        refine w_callS (as := [(0, (-((-(sp)) % 1000)))]) (rest := []) (n := 1) (pc' := 74) hB (o46_39 hB) rfl (by decide +kernel) rfl rfl (Nat.le_of_ble_eq_true rfl) (m_isMonthB hB (fun f438 => ?_) (fun f439 => ?_))
                        · exfalso; omega
                        · show HW g l _ 46 _ _ 74 [(0, (2, ((2 : Nat) : Int))), (1, (0, (w))), (2, (0, (st))), (3, (0, (sp))), (4, (0, (k)))] [(0, ((0 : Nat) : Int))] h
                          refine w_ifc (pt := 90) (pf := 77) (o46_40 hB) (by decide) rfl (fun e => ?_) (fun e => ?_)
                          · have f440 : (((0 : Nat) : Int) = (0)) := e
                            refine w_pl (pc' := 91) (lv' := [(0, (2, ((2 : Nat) : Int))), (1, (0, (w))), (2, (0, (st))), (3, (0, (sp))), (4, (0, (k)))]) (st' := [(0, (-1))]) (h' := h) (o46_48 hB) rfl ?_
                            exact w_iret (o46_49 hB) mr46 (by unfold in32; omega) (a0 (by omega))
                          · have f441 : ¬ (((0 : Nat) : Int) = (0)) := e
                            exfalso; omega
                    · show HW g l _ 46 _ _ 63 [(0, (2, ((2 : Nat) : Int))), (1, (0, (w))), (2, (0, (st))), (3, (0, (sp))), (4, (0, (k)))] [(0, ((0 : Nat) : Int))] h
                      refine w_ifc (pt := 90) (pf := 66) (o46_35 hB) (by decide) rfl (fun e => ?_) (fun e => ?_)
                      · have f442 : (((0 : Nat) : Int) = (0)) := e
                        refine w_pl (pc' := 91) (lv' := [(0, (2, ((2 : Nat) : Int))), (1, (0, (w))), (2, (0, (st))), (3, (0, (sp))), (4, (0, (k)))]) (st' := [(0, (-1))]) (h' := h) (o46_48 hB) rfl ?_
                        exact w_iret (o46_49 hB) mr46 (by unfold in32; omega) (a0 (by omega))
                      · have f443 : ¬ (((0 : Nat) : Int) = (0)) := e
                        exfalso; omega
                  · have f444 : ¬ ((k) ≤ ((7 : Nat) : Int)) := e
                    refine w_pl (pc' := 54) (lv' := [(0, (2, ((2 : Nat) : Int))), (1, (0, (w))), (2, (0, (st))), (3, (0, (sp))), (4, (0, (k)))]) (st' := [(0, (-1))]) (h' := h) (o46_29 hB) rfl ?_
                    exact w_iret (o46_30 hB) mr46 (by unfold in32; omega) (a0 (by omega))
            · show HW g l _ 46 _ _ 37 [(0, (2, ((2 : Nat) : Int))), (1, (0, (w))), (2, (0, (st))), (3, (0, (sp))), (4, (0, (k)))] [(0, ((0 : Nat) : Int))] h
              refine w_ifc (pt := 53) (pf := 40) (o46_22 hB) (by decide) rfl (fun e => ?_) (fun e => ?_)
              · have f445 : (((0 : Nat) : Int) = (0)) := e
                refine w_pl (pc' := 54) (lv' := [(0, (2, ((2 : Nat) : Int))), (1, (0, (w))), (2, (0, (st))), (3, (0, (sp))), (4, (0, (k)))]) (st' := [(0, (-1))]) (h' := h) (o46_29 hB) rfl ?_
                exact w_iret (o46_30 hB) mr46 (by unfold in32; omega) (a0 (by omega))
              · have f446 : ¬ (((0 : Nat) : Int) = (0)) := e
                exfalso; omega
          · have f447 : ¬ (((w) % 10) ≠ (0)) := e
            refine w_pl (pc' := 32) (lv' := [(0, (2, ((2 : Nat) : Int))), (1, (0, (w))), (2, (0, (st))), (3, (0, (sp))), (4, (0, (k)))]) (st' := [(0, (-1))]) (h' := h) (o46_18 hB) rfl ?_
            exact w_iret (o46_19 hB) mr46 (by unfold in32; omega) (a0 (by omega))
  · skip
    refine mh_go hB mg46 ml46 (Nat.le_of_ble_eq_true rfl) ?_
    show HW g l (d + 1) 46 _ _ 0 [(0, (2, ((2 : Nat) : Int))), (1, (0, (w))), (2, (0, (st))), (3, (0, (sp))), (4, (0, (k)))] [] h
    refine w_pl (pc' := 1) (lv' := [(0, (2, ((2 : Nat) : Int))), (1, (0, (w))), (2, (0, (st))), (3, (0, (sp))), (4, (0, (k)))]) (st' := [(0, (w))]) (h' := h) (o46_0 hB) rfl ?_
    refine w_ifc (pt := 31) (pf := 4) (o46_1 hB) (by decide) rfl (fun e => ?_) (fun e => ?_)
    · have f448 : ((w) < (0)) := e
      refine w_pl (pc' := 32) (lv' := [(0, (2, ((2 : Nat) : Int))), (1, (0, (w))), (2, (0, (st))), (3, (0, (sp))), (4, (0, (k)))]) (st' := [(0, (-1))]) (h' := h) (o46_18 hB) rfl ?_
      exact w_iret (o46_19 hB) mr46 (by unfold in32; omega) (a0 (by omega))
    · have f449 : ¬ ((w) < (0)) := e
      refine w_pl (pc' := 5) (lv' := [(0, (2, ((2 : Nat) : Int))), (1, (0, (w))), (2, (0, (st))), (3, (0, (sp))), (4, (0, (k)))]) (st' := [(0, (w))]) (h' := h) (o46_2 hB) rfl ?_
      refine w_pl (pc' := 7) (lv' := [(0, (2, ((2 : Nat) : Int))), (1, (0, (w))), (2, (0, (st))), (3, (0, (sp))), (4, (0, (k)))]) (st' := [(0, ((100 : Nat) : Int)), (0, (w))]) (h' := h) (o46_3 hB) rfl ?_
      refine w_idiv (z := ((w) / 100)) (pc' := 8) (o46_4 hB) rfl (divI_p (by omega) (by omega) (by decide)) ?_
      refine w_pl (pc' := 10) (lv' := [(0, (2, ((2 : Nat) : Int))), (1, (0, (w))), (2, (0, (st))), (3, (0, (sp))), (4, (0, (k)))]) (st' := [(0, ((8 : Nat) : Int)), (0, ((w) / 100))]) (h' := h) (o46_5 hB) rfl ?_
      refine w_icmp (pt := 31) (pf := 13) (o46_6 hB) (by decide) rfl (fun e => ?_) (fun e => ?_)
      · have f450 : (((8 : Nat) : Int) ≤ ((w) / 100)) := e
        refine w_pl (pc' := 32) (lv' := [(0, (2, ((2 : Nat) : Int))), (1, (0, (w))), (2, (0, (st))), (3, (0, (sp))), (4, (0, (k)))]) (st' := [(0, (-1))]) (h' := h) (o46_18 hB) rfl ?_
        exact w_iret (o46_19 hB) mr46 (by unfold in32; omega) (a0 (by omega))
      · have f451 : ¬ (((8 : Nat) : Int) ≤ ((w) / 100)) := e
        refine w_pl (pc' := 14) (lv' := [(0, (2, ((2 : Nat) : Int))), (1, (0, (w))), (2, (0, (st))), (3, (0, (sp))), (4, (0, (k)))]) (st' := [(0, (w))]) (h' := h) (o46_7 hB) rfl ?_
        refine w_pl (pc' := 16) (lv' := [(0, (2, ((2 : Nat) : Int))), (1, (0, (w))), (2, (0, (st))), (3, (0, (sp))), (4, (0, (k)))]) (st' := [(0, ((10 : Nat) : Int)), (0, (w))]) (h' := h) (o46_8 hB) rfl ?_
        refine w_idiv (z := ((w) / 10)) (pc' := 17) (o46_9 hB) rfl (divI_p (by omega) (by omega) (by decide)) ?_
        refine w_pl (pc' := 19) (lv' := [(0, (2, ((2 : Nat) : Int))), (1, (0, (w))), (2, (0, (st))), (3, (0, (sp))), (4, (0, (k)))]) (st' := [(0, ((10 : Nat) : Int)), (0, ((w) / 10))]) (h' := h) (o46_10 hB) rfl ?_
        refine w_irem (z := (((w) / 10) % 10)) (pc' := 20) (o46_11 hB) rfl (remI_p (by omega) (by decide)) ?_
        refine w_pl (pc' := 21) (lv' := [(0, (2, ((2 : Nat) : Int))), (1, (0, (w))), (2, (0, (st))), (3, (0, (sp))), (4, (0, (k)))]) (st' := [(0, ((4 : Nat) : Int)), (0, (((w) / 10) % 10))]) (h' := h) (o46_12 hB) rfl ?_
        refine w_icmp (pt := 31) (pf := 24) (o46_13 hB) (by decide) rfl (fun e => ?_) (fun e => ?_)
        · have f452 : (((4 : Nat) : Int) ≤ (((w) / 10) % 10)) := e
          refine w_pl (pc' := 32) (lv' := [(0, (2, ((2 : Nat) : Int))), (1, (0, (w))), (2, (0, (st))), (3, (0, (sp))), (4, (0, (k)))]) (st' := [(0, (-1))]) (h' := h) (o46_18 hB) rfl ?_
          exact w_iret (o46_19 hB) mr46 (by unfold in32; omega) (a0 (by omega))
        · have f453 : ¬ (((4 : Nat) : Int) ≤ (((w) / 10) % 10)) := e
          refine w_pl (pc' := 25) (lv' := [(0, (2, ((2 : Nat) : Int))), (1, (0, (w))), (2, (0, (st))), (3, (0, (sp))), (4, (0, (k)))]) (st' := [(0, (w))]) (h' := h) (o46_14 hB) rfl ?_
          refine w_pl (pc' := 27) (lv' := [(0, (2, ((2 : Nat) : Int))), (1, (0, (w))), (2, (0, (st))), (3, (0, (sp))), (4, (0, (k)))]) (st' := [(0, ((10 : Nat) : Int)), (0, (w))]) (h' := h) (o46_15 hB) rfl ?_
          refine w_irem (z := ((w) % 10)) (pc' := 28) (o46_16 hB) rfl (remI_p (by omega) (by decide)) ?_
          refine w_ifc (pt := 33) (pf := 31) (o46_17 hB) (by decide) rfl (fun e => ?_) (fun e => ?_)
          · have f454 : (((w) % 10) ≠ (0)) := e
            refine w_pl (pc' := 34) (lv' := [(0, (2, ((2 : Nat) : Int))), (1, (0, (w))), (2, (0, (st))), (3, (0, (sp))), (4, (0, (k)))]) (st' := [(0, (st))]) (h' := h) (o46_20 hB) rfl ?_
            refine w_callS (as := [(0, (st))]) (rest := []) (n := 1) (pc' := 37) hB (o46_21 hB) rfl (by decide +kernel) rfl rfl (Nat.le_of_ble_eq_true rfl) (m_isStepsB hB (fun f455 => ?_) (fun f456 => ?_))
            · show HW g l _ 46 _ _ 37 [(0, (2, ((2 : Nat) : Int))), (1, (0, (w))), (2, (0, (st))), (3, (0, (sp))), (4, (0, (k)))] [(0, ((1 : Nat) : Int))] h
              refine w_ifc (pt := 53) (pf := 40) (o46_22 hB) (by decide) rfl (fun e => ?_) (fun e => ?_)
              · have f457 : (((1 : Nat) : Int) = (0)) := e
                exfalso; omega
              · have f458 : ¬ (((1 : Nat) : Int) = (0)) := e
                refine w_pl (pc' := 42) (lv' := [(0, (2, ((2 : Nat) : Int))), (1, (0, (w))), (2, (0, (st))), (3, (0, (sp))), (4, (0, (k)))]) (st' := [(0, (k))]) (h' := h) (o46_23 hB) rfl ?_
                refine w_pl (pc' := 43) (lv' := [(0, (2, ((2 : Nat) : Int))), (1, (0, (w))), (2, (0, (st))), (3, (0, (sp))), (4, (0, (k)))]) (st' := [(0, (-1)), (0, (k))]) (h' := h) (o46_24 hB) rfl ?_
                refine w_icmp (pt := 53) (pf := 46) (o46_25 hB) (by decide) rfl (fun e => ?_) (fun e => ?_)
                · have f459 : ((k) < (-1)) := e
                  refine w_pl (pc' := 54) (lv' := [(0, (2, ((2 : Nat) : Int))), (1, (0, (w))), (2, (0, (st))), (3, (0, (sp))), (4, (0, (k)))]) (st' := [(0, (-1))]) (h' := h) (o46_29 hB) rfl ?_
                  exact w_iret (o46_30 hB) mr46 (by unfold in32; omega) (a0 (by omega))
                · have f460 : ¬ ((k) < (-1)) := e
                  refine w_pl (pc' := 48) (lv' := [(0, (2, ((2 : Nat) : Int))), (1, (0, (w))), (2, (0, (st))), (3, (0, (sp))), (4, (0, (k)))]) (st' := [(0, (k))]) (h' := h) (o46_26 hB) rfl ?_
                  refine w_pl (pc' := 50) (lv' := [(0, (2, ((2 : Nat) : Int))), (1, (0, (w))), (2, (0, (st))), (3, (0, (sp))), (4, (0, (k)))]) (st' := [(0, ((7 : Nat) : Int)), (0, (k))]) (h' := h) (o46_27 hB) rfl ?_
                  refine w_icmp (pt := 55) (pf := 53) (o46_28 hB) (by decide) rfl (fun e => ?_) (fun e => ?_)
                  · have f461 : ((k) ≤ ((7 : Nat) : Int)) := e
                    refine w_pl (pc' := 56) (lv' := [(0, (2, ((2 : Nat) : Int))), (1, (0, (w))), (2, (0, (st))), (3, (0, (sp))), (4, (0, (k)))]) (st' := [(0, (sp))]) (h' := h) (o46_31 hB) rfl ?_
                    refine w_pl (pc' := 59) (lv' := [(0, (2, ((2 : Nat) : Int))), (1, (0, (w))), (2, (0, (st))), (3, (0, (sp))), (4, (0, (k)))]) (st' := [(0, ((1000 : Nat) : Int)), (0, (sp))]) (h' := h) (o46_32 hB) rfl ?_
                    refine w_idiv (z := ((sp) / 1000)) (pc' := 60) (o46_33 hB) rfl (divI_p (by omega) (by omega) (by decide)) ?_
                    refine w_callS (as := [(0, ((sp) / 1000))]) (rest := []) (n := 1) (pc' := 63) hB (o46_34 hB) rfl (by decide +kernel) rfl rfl (Nat.le_of_ble_eq_true rfl) (m_isMonthB hB (fun f462 => ?_) (fun f463 => ?_))
                    · show HW g l _ 46 _ _ 63 [(0, (2, ((2 : Nat) : Int))), (1, (0, (w))), (2, (0, (st))), (3, (0, (sp))), (4, (0, (k)))] [(0, ((1 : Nat) : Int))] h
                      refine w_ifc (pt := 90) (pf := 66) (o46_35 hB) (by decide) rfl (fun e => ?_) (fun e => ?_)
                      · have f464 : (((1 : Nat) : Int) = (0)) := e
                        exfalso; omega
                      · have f465 : ¬ (((1 : Nat) : Int) = (0)) := e
                        refine w_pl (pc' := 67) (lv' := [(0, (2, ((2 : Nat) : Int))), (1, (0, (w))), (2, (0, (st))), (3, (0, (sp))), (4, (0, (k)))]) (st' := [(0, (sp))]) (h' := h) (o46_36 hB) rfl ?_
                        refine w_pl (pc' := 70) (lv' := [(0, (2, ((2 : Nat) : Int))), (1, (0, (w))), (2, (0, (st))), (3, (0, (sp))), (4, (0, (k)))]) (st' := [(0, ((1000 : Nat) : Int)), (0, (sp))]) (h' := h) (o46_37 hB) rfl ?_
                        refine w_irem (z := ((sp) % 1000)) (pc' := 71) (o46_38 hB) rfl (remI_p (by omega) (by decide)) ?_
                        refine w_callS (as := [(0, ((sp) % 1000))]) (rest := []) (n := 1) (pc' := 74) hB (o46_39 hB) rfl (by decide +kernel) rfl rfl (Nat.le_of_ble_eq_true rfl) (m_isMonthB hB (fun f466 => ?_) (fun f467 => ?_))
                        · show HW g l _ 46 _ _ 74 [(0, (2, ((2 : Nat) : Int))), (1, (0, (w))), (2, (0, (st))), (3, (0, (sp))), (4, (0, (k)))] [(0, ((1 : Nat) : Int))] h
                          refine w_ifc (pt := 90) (pf := 77) (o46_40 hB) (by decide) rfl (fun e => ?_) (fun e => ?_)
                          · have f468 : (((1 : Nat) : Int) = (0)) := e
                            exfalso; omega
                          · have f469 : ¬ (((1 : Nat) : Int) = (0)) := e
                            refine w_pl (pc' := 78) (lv' := [(0, (2, ((2 : Nat) : Int))), (1, (0, (w))), (2, (0, (st))), (3, (0, (sp))), (4, (0, (k)))]) (st' := [(0, (sp))]) (h' := h) (o46_41 hB) rfl ?_
                            refine w_pl (pc' := 81) (lv' := [(0, (2, ((2 : Nat) : Int))), (1, (0, (w))), (2, (0, (st))), (3, (0, (sp))), (4, (0, (k)))]) (st' := [(0, ((1000 : Nat) : Int)), (0, (sp))]) (h' := h) (o46_42 hB) rfl ?_
                            refine w_irem (z := ((sp) % 1000)) (pc' := 82) (o46_43 hB) rfl (remI_p (by omega) (by decide)) ?_
                            refine w_pl (pc' := 83) (lv' := [(0, (2, ((2 : Nat) : Int))), (1, (0, (w))), (2, (0, (st))), (3, (0, (sp))), (4, (0, (k)))]) (st' := [(0, (sp)), (0, ((sp) % 1000))]) (h' := h) (o46_44 hB) rfl ?_
                            refine w_pl (pc' := 86) (lv' := [(0, (2, ((2 : Nat) : Int))), (1, (0, (w))), (2, (0, (st))), (3, (0, (sp))), (4, (0, (k)))]) (st' := [(0, ((1000 : Nat) : Int)), (0, (sp)), (0, ((sp) % 1000))]) (h' := h) (o46_45 hB) rfl ?_
                            refine w_idiv (z := ((sp) / 1000)) (pc' := 87) (o46_46 hB) rfl (divI_p (by omega) (by omega) (by decide)) ?_
                            refine w_icmp (pt := 92) (pf := 90) (o46_47 hB) (by decide) rfl (fun e => ?_) (fun e => ?_)
                            · have f470 : (((sp) / 1000) ≤ ((sp) % 1000)) := e
                              refine w_pl (pc' := 93) (lv' := [(0, (2, ((2 : Nat) : Int))), (1, (0, (w))), (2, (0, (st))), (3, (0, (sp))), (4, (0, (k)))]) (st' := [(2, ((2 : Nat) : Int))]) (h' := h) (o46_50 hB) rfl ?_
                              refine w_getf (A := 2) (t := 0) (z := ((c : Nat) : Int)) (pc' := 96) (o46_51 hB) rfl (by decide +kernel) hc ?_
                              refine w_pl (pc' := 98) (lv' := [(0, (2, ((2 : Nat) : Int))), (1, (0, (w))), (2, (0, (st))), (3, (0, (sp))), (4, (0, (k)))]) (st' := [(0, ((16 : Nat) : Int)), (0, ((c : Nat) : Int))]) (h' := h) (o46_52 hB) rfl ?_
                              refine w_icmp (pt := 104) (pf := 101) (o46_53 hB) (by decide) rfl (fun e => ?_) (fun e => ?_)
                              · have f471 : (((c : Nat) : Int) < ((16 : Nat) : Int)) := e
                                refine w_pl (pc' := 105) (lv' := [(0, (2, ((2 : Nat) : Int))), (1, (0, (w))), (2, (0, (st))), (3, (0, (sp))), (4, (0, (k)))]) (st' := [(2, ((2 : Nat) : Int))]) (h' := h) (o46_56 hB) rfl ?_
                                refine w_getf (A := 2) (t := 2) (z := ((3 : Nat) : Int)) (pc' := 108) (o46_57 hB) rfl (by decide +kernel) (hR (2, 2, 3) (by decide)) ?_
                                refine w_pl (pc' := 109) (lv' := [(0, (2, ((2 : Nat) : Int))), (1, (0, (w))), (2, (0, (st))), (3, (0, (sp))), (4, (0, (k)))]) (st' := [(2, ((2 : Nat) : Int)), (2, ((3 : Nat) : Int))]) (h' := h) (o46_58 hB) rfl ?_
                                refine w_getf (A := 2) (t := 0) (z := ((c : Nat) : Int)) (pc' := 112) (o46_59 hB) rfl (by decide +kernel) hc ?_
                                refine w_pl (pc' := 113) (lv' := [(0, (2, ((2 : Nat) : Int))), (1, (0, (w))), (2, (0, (st))), (3, (0, (sp))), (4, (0, (k)))]) (st' := [(0, (w)), (0, ((c : Nat) : Int)), (2, ((3 : Nat) : Int))]) (h' := h) (o46_60 hB) rfl ?_
                                refine w_pl (pc' := 115) (lv' := [(0, (2, ((2 : Nat) : Int))), (1, (0, (w))), (2, (0, (st))), (3, (0, (sp))), (4, (0, (k)))]) (st' := [(0, ((100 : Nat) : Int)), (0, (w)), (0, ((c : Nat) : Int)), (2, ((3 : Nat) : Int))]) (h' := h) (o46_61 hB) rfl ?_
                                refine w_idiv (z := ((w) / 100)) (pc' := 116) (o46_62 hB) rfl (divI_p (by omega) (by omega) (by decide)) ?_
                                refine w_iast (A := 3) (i := c) (n := 16) (pc' := 117) (o46_63 hB) rfl (by decide +kernel) (by omega) ?_
                                refine w_pl (pc' := 118) (lv' := [(0, (2, ((2 : Nat) : Int))), (1, (0, (w))), (2, (0, (st))), (3, (0, (sp))), (4, (0, (k)))]) (st' := [(2, ((2 : Nat) : Int))]) (h' := (hup h 3 (c) ((w) / 100))) (o46_64 hB) rfl ?_
                                refine w_getf (A := 2) (t := 2) (z := ((5 : Nat) : Int)) (pc' := 121) (o46_65 hB) rfl (by decide +kernel) ((hup_ne (by decide)).trans (hR (2, 4, 5) (by decide))) ?_
                                refine w_pl (pc' := 122) (lv' := [(0, (2, ((2 : Nat) : Int))), (1, (0, (w))), (2, (0, (st))), (3, (0, (sp))), (4, (0, (k)))]) (st' := [(2, ((2 : Nat) : Int)), (2, ((5 : Nat) : Int))]) (h' := (hup h 3 (c) ((w) / 100))) (o46_66 hB) rfl ?_
                                refine w_getf (A := 2) (t := 0) (z := ((c : Nat) : Int)) (pc' := 125) (o46_67 hB) rfl (by decide +kernel) ((hup_ne (by decide)).trans hc) ?_
                                refine w_pl (pc' := 126) (lv' := [(0, (2, ((2 : Nat) : Int))), (1, (0, (w))), (2, (0, (st))), (3, (0, (sp))), (4, (0, (k)))]) (st' := [(0, (w)), (0, ((c : Nat) : Int)), (2, ((5 : Nat) : Int))]) (h' := (hup h 3 (c) ((w) / 100))) (o46_68 hB) rfl ?_
                                refine w_pl (pc' := 128) (lv' := [(0, (2, ((2 : Nat) : Int))), (1, (0, (w))), (2, (0, (st))), (3, (0, (sp))), (4, (0, (k)))]) (st' := [(0, ((10 : Nat) : Int)), (0, (w)), (0, ((c : Nat) : Int)), (2, ((5 : Nat) : Int))]) (h' := (hup h 3 (c) ((w) / 100))) (o46_69 hB) rfl ?_
                                refine w_idiv (z := ((w) / 10)) (pc' := 129) (o46_70 hB) rfl (divI_p (by omega) (by omega) (by decide)) ?_
                                refine w_pl (pc' := 131) (lv' := [(0, (2, ((2 : Nat) : Int))), (1, (0, (w))), (2, (0, (st))), (3, (0, (sp))), (4, (0, (k)))]) (st' := [(0, ((10 : Nat) : Int)), (0, ((w) / 10)), (0, ((c : Nat) : Int)), (2, ((5 : Nat) : Int))]) (h' := (hup h 3 (c) ((w) / 100))) (o46_71 hB) rfl ?_
                                refine w_irem (z := (((w) / 10) % 10)) (pc' := 132) (o46_72 hB) rfl (remI_p (by omega) (by decide)) ?_
                                refine w_iast (A := 5) (i := c) (n := 16) (pc' := 133) (o46_73 hB) rfl (by decide +kernel) (by omega) ?_
                                refine w_pl (pc' := 134) (lv' := [(0, (2, ((2 : Nat) : Int))), (1, (0, (w))), (2, (0, (st))), (3, (0, (sp))), (4, (0, (k)))]) (st' := [(2, ((2 : Nat) : Int))]) (h' := (hup (hup h 3 (c) ((w) / 100)) 5 (c) (((w) / 10) % 10))) (o46_74 hB) rfl ?_
                                refine w_getf (A := 2) (t := 2) (z := ((8 : Nat) : Int)) (pc' := 137) (o46_75 hB) rfl (by decide +kernel) ((hup_ne (by decide)).trans ((hup_ne (by decide)).trans (hR (2, 7, 8) (by decide)))) ?_
                                refine w_pl (pc' := 138) (lv' := [(0, (2, ((2 : Nat) : Int))), (1, (0, (w))), (2, (0, (st))), (3, (0, (sp))), (4, (0, (k)))]) (st' := [(2, ((2 : Nat) : Int)), (2, ((8 : Nat) : Int))]) (h' := (hup (hup h 3 (c) ((w) / 100)) 5 (c) (((w) / 10) % 10))) (o46_76 hB) rfl ?_
                                refine w_getf (A := 2) (t := 0) (z := ((c : Nat) : Int)) (pc' := 141) (o46_77 hB) rfl (by decide +kernel) ((hup_ne (by decide)).trans ((hup_ne (by decide)).trans hc)) ?_
                                refine w_pl (pc' := 142) (lv' := [(0, (2, ((2 : Nat) : Int))), (1, (0, (w))), (2, (0, (st))), (3, (0, (sp))), (4, (0, (k)))]) (st' := [(0, (w)), (0, ((c : Nat) : Int)), (2, ((8 : Nat) : Int))]) (h' := (hup (hup h 3 (c) ((w) / 100)) 5 (c) (((w) / 10) % 10))) (o46_78 hB) rfl ?_
                                refine w_pl (pc' := 144) (lv' := [(0, (2, ((2 : Nat) : Int))), (1, (0, (w))), (2, (0, (st))), (3, (0, (sp))), (4, (0, (k)))]) (st' := [(0, ((10 : Nat) : Int)), (0, (w)), (0, ((c : Nat) : Int)), (2, ((8 : Nat) : Int))]) (h' := (hup (hup h 3 (c) ((w) / 100)) 5 (c) (((w) / 10) % 10))) (o46_79 hB) rfl ?_
                                refine w_irem (z := ((w) % 10)) (pc' := 145) (o46_80 hB) rfl (remI_p (by omega) (by decide)) ?_
                                refine w_iast (A := 8) (i := c) (n := 16) (pc' := 146) (o46_81 hB) rfl (by decide +kernel) (by omega) ?_
                                refine w_pl (pc' := 147) (lv' := [(0, (2, ((2 : Nat) : Int))), (1, (0, (w))), (2, (0, (st))), (3, (0, (sp))), (4, (0, (k)))]) (st' := [(2, ((2 : Nat) : Int))]) (h' := (hup (hup (hup h 3 (c) ((w) / 100)) 5 (c) (((w) / 10) % 10)) 8 (c) ((w) % 10))) (o46_82 hB) rfl ?_
                                refine w_getf (A := 2) (t := 2) (z := ((4 : Nat) : Int)) (pc' := 150) (o46_83 hB) rfl (by decide +kernel) ((hup_ne (by decide)).trans ((hup_ne (by decide)).trans ((hup_ne (by decide)).trans (hR (2, 3, 4) (by decide))))) ?_
                                refine w_pl (pc' := 151) (lv' := [(0, (2, ((2 : Nat) : Int))), (1, (0, (w))), (2, (0, (st))), (3, (0, (sp))), (4, (0, (k)))]) (st' := [(2, ((2 : Nat) : Int)), (2, ((4 : Nat) : Int))]) (h' := (hup (hup (hup h 3 (c) ((w) / 100)) 5 (c) (((w) / 10) % 10)) 8 (c) ((w) % 10))) (o46_84 hB) rfl ?_
                                refine w_getf (A := 2) (t := 0) (z := ((c : Nat) : Int)) (pc' := 154) (o46_85 hB) rfl (by decide +kernel) ((hup_ne (by decide)).trans ((hup_ne (by decide)).trans ((hup_ne (by decide)).trans hc))) ?_
                                refine w_pl (pc' := 155) (lv' := [(0, (2, ((2 : Nat) : Int))), (1, (0, (w))), (2, (0, (st))), (3, (0, (sp))), (4, (0, (k)))]) (st' := [(0, (st)), (0, ((c : Nat) : Int)), (2, ((4 : Nat) : Int))]) (h' := (hup (hup (hup h 3 (c) ((w) / 100)) 5 (c) (((w) / 10) % 10)) 8 (c) ((w) % 10))) (o46_86 hB) rfl ?_
                                refine w_iast (A := 4) (i := c) (n := 16) (pc' := 156) (o46_87 hB) rfl (by decide +kernel) (by omega) ?_
                                refine w_pl (pc' := 157) (lv' := [(0, (2, ((2 : Nat) : Int))), (1, (0, (w))), (2, (0, (st))), (3, (0, (sp))), (4, (0, (k)))]) (st' := [(2, ((2 : Nat) : Int))]) (h' := (hup (hup (hup (hup h 3 (c) ((w) / 100)) 5 (c) (((w) / 10) % 10)) 8 (c) ((w) % 10)) 4 (c) (st))) (o46_88 hB) rfl ?_
                                refine w_getf (A := 2) (t := 2) (z := ((6 : Nat) : Int)) (pc' := 160) (o46_89 hB) rfl (by decide +kernel) ((hup_ne (by decide)).trans ((hup_ne (by decide)).trans ((hup_ne (by decide)).trans ((hup_ne (by decide)).trans (hR (2, 5, 6) (by decide)))))) ?_
                                refine w_pl (pc' := 161) (lv' := [(0, (2, ((2 : Nat) : Int))), (1, (0, (w))), (2, (0, (st))), (3, (0, (sp))), (4, (0, (k)))]) (st' := [(2, ((2 : Nat) : Int)), (2, ((6 : Nat) : Int))]) (h' := (hup (hup (hup (hup h 3 (c) ((w) / 100)) 5 (c) (((w) / 10) % 10)) 8 (c) ((w) % 10)) 4 (c) (st))) (o46_90 hB) rfl ?_
                                refine w_getf (A := 2) (t := 0) (z := ((c : Nat) : Int)) (pc' := 164) (o46_91 hB) rfl (by decide +kernel) ((hup_ne (by decide)).trans ((hup_ne (by decide)).trans ((hup_ne (by decide)).trans ((hup_ne (by decide)).trans hc)))) ?_
                                refine w_pl (pc' := 165) (lv' := [(0, (2, ((2 : Nat) : Int))), (1, (0, (w))), (2, (0, (st))), (3, (0, (sp))), (4, (0, (k)))]) (st' := [(0, (sp)), (0, ((c : Nat) : Int)), (2, ((6 : Nat) : Int))]) (h' := (hup (hup (hup (hup h 3 (c) ((w) / 100)) 5 (c) (((w) / 10) % 10)) 8 (c) ((w) % 10)) 4 (c) (st))) (o46_92 hB) rfl ?_
                                refine w_pl (pc' := 168) (lv' := [(0, (2, ((2 : Nat) : Int))), (1, (0, (w))), (2, (0, (st))), (3, (0, (sp))), (4, (0, (k)))]) (st' := [(0, ((1000 : Nat) : Int)), (0, (sp)), (0, ((c : Nat) : Int)), (2, ((6 : Nat) : Int))]) (h' := (hup (hup (hup (hup h 3 (c) ((w) / 100)) 5 (c) (((w) / 10) % 10)) 8 (c) ((w) % 10)) 4 (c) (st))) (o46_93 hB) rfl ?_
                                refine w_idiv (z := ((sp) / 1000)) (pc' := 169) (o46_94 hB) rfl (divI_p (by omega) (by omega) (by decide)) ?_
                                refine w_iast (A := 6) (i := c) (n := 16) (pc' := 170) (o46_95 hB) rfl (by decide +kernel) (by omega) ?_
                                refine w_pl (pc' := 171) (lv' := [(0, (2, ((2 : Nat) : Int))), (1, (0, (w))), (2, (0, (st))), (3, (0, (sp))), (4, (0, (k)))]) (st' := [(2, ((2 : Nat) : Int))]) (h' := (hup (hup (hup (hup (hup h 3 (c) ((w) / 100)) 5 (c) (((w) / 10) % 10)) 8 (c) ((w) % 10)) 4 (c) (st)) 6 (c) ((sp) / 1000))) (o46_96 hB) rfl ?_
                                refine w_getf (A := 2) (t := 2) (z := ((7 : Nat) : Int)) (pc' := 174) (o46_97 hB) rfl (by decide +kernel) ((hup_ne (by decide)).trans ((hup_ne (by decide)).trans ((hup_ne (by decide)).trans ((hup_ne (by decide)).trans ((hup_ne (by decide)).trans (hR (2, 6, 7) (by decide))))))) ?_
                                refine w_pl (pc' := 175) (lv' := [(0, (2, ((2 : Nat) : Int))), (1, (0, (w))), (2, (0, (st))), (3, (0, (sp))), (4, (0, (k)))]) (st' := [(2, ((2 : Nat) : Int)), (2, ((7 : Nat) : Int))]) (h' := (hup (hup (hup (hup (hup h 3 (c) ((w) / 100)) 5 (c) (((w) / 10) % 10)) 8 (c) ((w) % 10)) 4 (c) (st)) 6 (c) ((sp) / 1000))) (o46_98 hB) rfl ?_
                                refine w_getf (A := 2) (t := 0) (z := ((c : Nat) : Int)) (pc' := 178) (o46_99 hB) rfl (by decide +kernel) ((hup_ne (by decide)).trans ((hup_ne (by decide)).trans ((hup_ne (by decide)).trans ((hup_ne (by decide)).trans ((hup_ne (by decide)).trans hc))))) ?_
                                refine w_pl (pc' := 179) (lv' := [(0, (2, ((2 : Nat) : Int))), (1, (0, (w))), (2, (0, (st))), (3, (0, (sp))), (4, (0, (k)))]) (st' := [(0, (sp)), (0, ((c : Nat) : Int)), (2, ((7 : Nat) : Int))]) (h' := (hup (hup (hup (hup (hup h 3 (c) ((w) / 100)) 5 (c) (((w) / 10) % 10)) 8 (c) ((w) % 10)) 4 (c) (st)) 6 (c) ((sp) / 1000))) (o46_100 hB) rfl ?_
                                refine w_pl (pc' := 182) (lv' := [(0, (2, ((2 : Nat) : Int))), (1, (0, (w))), (2, (0, (st))), (3, (0, (sp))), (4, (0, (k)))]) (st' := [(0, ((1000 : Nat) : Int)), (0, (sp)), (0, ((c : Nat) : Int)), (2, ((7 : Nat) : Int))]) (h' := (hup (hup (hup (hup (hup h 3 (c) ((w) / 100)) 5 (c) (((w) / 10) % 10)) 8 (c) ((w) % 10)) 4 (c) (st)) 6 (c) ((sp) / 1000))) (o46_101 hB) rfl ?_
                                refine w_irem (z := ((sp) % 1000)) (pc' := 183) (o46_102 hB) rfl (remI_p (by omega) (by decide)) ?_
                                refine w_iast (A := 7) (i := c) (n := 16) (pc' := 184) (o46_103 hB) rfl (by decide +kernel) (by omega) ?_
                                refine w_pl (pc' := 185) (lv' := [(0, (2, ((2 : Nat) : Int))), (1, (0, (w))), (2, (0, (st))), (3, (0, (sp))), (4, (0, (k)))]) (st' := [(2, ((2 : Nat) : Int))]) (h' := (hup (hup (hup (hup (hup (hup h 3 (c) ((w) / 100)) 5 (c) (((w) / 10) % 10)) 8 (c) ((w) % 10)) 4 (c) (st)) 6 (c) ((sp) / 1000)) 7 (c) ((sp) % 1000))) (o46_104 hB) rfl ?_
                                refine w_getf (A := 2) (t := 2) (z := ((9 : Nat) : Int)) (pc' := 188) (o46_105 hB) rfl (by decide +kernel) ((hup_ne (by decide)).trans ((hup_ne (by decide)).trans ((hup_ne (by decide)).trans ((hup_ne (by decide)).trans ((hup_ne (by decide)).trans ((hup_ne (by decide)).trans (hR (2, 8, 9) (by decide)))))))) ?_
                                refine w_pl (pc' := 189) (lv' := [(0, (2, ((2 : Nat) : Int))), (1, (0, (w))), (2, (0, (st))), (3, (0, (sp))), (4, (0, (k)))]) (st' := [(2, ((2 : Nat) : Int)), (2, ((9 : Nat) : Int))]) (h' := (hup (hup (hup (hup (hup (hup h 3 (c) ((w) / 100)) 5 (c) (((w) / 10) % 10)) 8 (c) ((w) % 10)) 4 (c) (st)) 6 (c) ((sp) / 1000)) 7 (c) ((sp) % 1000))) (o46_106 hB) rfl ?_
                                refine w_getf (A := 2) (t := 0) (z := ((c : Nat) : Int)) (pc' := 192) (o46_107 hB) rfl (by decide +kernel) ((hup_ne (by decide)).trans ((hup_ne (by decide)).trans ((hup_ne (by decide)).trans ((hup_ne (by decide)).trans ((hup_ne (by decide)).trans ((hup_ne (by decide)).trans hc)))))) ?_
                                refine w_pl (pc' := 194) (lv' := [(0, (2, ((2 : Nat) : Int))), (1, (0, (w))), (2, (0, (st))), (3, (0, (sp))), (4, (0, (k)))]) (st' := [(0, (k)), (0, ((c : Nat) : Int)), (2, ((9 : Nat) : Int))]) (h' := (hup (hup (hup (hup (hup (hup h 3 (c) ((w) / 100)) 5 (c) (((w) / 10) % 10)) 8 (c) ((w) % 10)) 4 (c) (st)) 6 (c) ((sp) / 1000)) 7 (c) ((sp) % 1000))) (o46_108 hB) rfl ?_
                                refine w_iast (A := 9) (i := c) (n := 16) (pc' := 195) (o46_109 hB) rfl (by decide +kernel) (by omega) ?_
                                refine w_pl (pc' := 196) (lv' := [(0, (2, ((2 : Nat) : Int))), (1, (0, (w))), (2, (0, (st))), (3, (0, (sp))), (4, (0, (k)))]) (st' := [(2, ((2 : Nat) : Int))]) (h' := (hup (hup (hup (hup (hup (hup (hup h 3 (c) ((w) / 100)) 5 (c) (((w) / 10) % 10)) 8 (c) ((w) % 10)) 4 (c) (st)) 6 (c) ((sp) / 1000)) 7 (c) ((sp) % 1000)) 9 (c) (k))) (o46_110 hB) rfl ?_
                                refine w_pl (pc' := 197) (lv' := [(0, (2, ((2 : Nat) : Int))), (1, (0, (w))), (2, (0, (st))), (3, (0, (sp))), (4, (0, (k)))]) (st' := [(2, ((2 : Nat) : Int)), (2, ((2 : Nat) : Int))]) (h' := (hup (hup (hup (hup (hup (hup (hup h 3 (c) ((w) / 100)) 5 (c) (((w) / 10) % 10)) 8 (c) ((w) % 10)) 4 (c) (st)) 6 (c) ((sp) / 1000)) 7 (c) ((sp) % 1000)) 9 (c) (k))) (o46_111 hB) rfl ?_
                                refine w_getf (A := 2) (t := 0) (z := ((c : Nat) : Int)) (pc' := 200) (o46_112 hB) rfl (by decide +kernel) ((hup_ne (by decide)).trans ((hup_ne (by decide)).trans ((hup_ne (by decide)).trans ((hup_ne (by decide)).trans ((hup_ne (by decide)).trans ((hup_ne (by decide)).trans ((hup_ne (by decide)).trans hc))))))) ?_
                                refine w_pl (pc' := 201) (lv' := [(0, (2, ((2 : Nat) : Int))), (1, (0, (w))), (2, (0, (st))), (3, (0, (sp))), (4, (0, (k)))]) (st' := [(0, ((c : Nat) : Int)), (2, ((2 : Nat) : Int)), (0, ((c : Nat) : Int))]) (h' := (hup (hup (hup (hup (hup (hup (hup h 3 (c) ((w) / 100)) 5 (c) (((w) / 10) % 10)) 8 (c) ((w) % 10)) 4 (c) (st)) 6 (c) ((sp) / 1000)) 7 (c) ((sp) % 1000)) 9 (c) (k))) (o46_113 hB) rfl ?_
                                refine w_pl (pc' := 202) (lv' := [(0, (2, ((2 : Nat) : Int))), (1, (0, (w))), (2, (0, (st))), (3, (0, (sp))), (4, (0, (k)))]) (st' := [(0, ((1 : Nat) : Int)), (0, ((c : Nat) : Int)), (2, ((2 : Nat) : Int)), (0, ((c : Nat) : Int))]) (h' := (hup (hup (hup (hup (hup (hup (hup h 3 (c) ((w) / 100)) 5 (c) (((w) / 10) % 10)) 8 (c) ((w) % 10)) 4 (c) (st)) 6 (c) ((sp) / 1000)) 7 (c) ((sp) % 1000)) 9 (c) (k))) (o46_114 hB) rfl ?_
                                refine w_iadd (z := (((c + 1) : Nat) : Int)) (pc' := 203) (o46_115 hB) rfl (w32_e (by omega) (by omega)) ?_
                                refine w_putf (A := 2) (t := 0) (pc' := 206) (o46_116 hB) rfl (by decide +kernel) ?_
                                exact w_iret (o46_117 hB) mr46 (by unfold in32; omega) (qe (a2 (by omega)) (by omega))
                              · have f472 : ¬ (((c : Nat) : Int) < ((16 : Nat) : Int)) := e
                                refine w_pl (pc' := 103) (lv' := [(0, (2, ((2 : Nat) : Int))), (1, (0, (w))), (2, (0, (st))), (3, (0, (sp))), (4, (0, (k)))]) (st' := [(0, (-2))]) (h' := h) (o46_54 hB) rfl ?_
                                exact w_iret (o46_55 hB) mr46 (by unfold in32; omega) (a1 (by omega))
                            · have f473 : ¬ (((sp) / 1000) ≤ ((sp) % 1000)) := e
                              refine w_pl (pc' := 91) (lv' := [(0, (2, ((2 : Nat) : Int))), (1, (0, (w))), (2, (0, (st))), (3, (0, (sp))), (4, (0, (k)))]) (st' := [(0, (-1))]) (h' := h) (o46_48 hB) rfl ?_
                              exact w_iret (o46_49 hB) mr46 (by unfold in32; omega) (a0 (by omega))
                        · show HW g l _ 46 _ _ 74 [(0, (2, ((2 : Nat) : Int))), (1, (0, (w))), (2, (0, (st))), (3, (0, (sp))), (4, (0, (k)))] [(0, ((0 : Nat) : Int))] h
                          refine w_ifc (pt := 90) (pf := 77) (o46_40 hB) (by decide) rfl (fun e => ?_) (fun e => ?_)
                          · have f474 : (((0 : Nat) : Int) = (0)) := e
                            refine w_pl (pc' := 91) (lv' := [(0, (2, ((2 : Nat) : Int))), (1, (0, (w))), (2, (0, (st))), (3, (0, (sp))), (4, (0, (k)))]) (st' := [(0, (-1))]) (h' := h) (o46_48 hB) rfl ?_
                            exact w_iret (o46_49 hB) mr46 (by unfold in32; omega) (a0 (by omega))
                          · have f475 : ¬ (((0 : Nat) : Int) = (0)) := e
                            exfalso; omega
                    · show HW g l _ 46 _ _ 63 [(0, (2, ((2 : Nat) : Int))), (1, (0, (w))), (2, (0, (st))), (3, (0, (sp))), (4, (0, (k)))] [(0, ((0 : Nat) : Int))] h
                      refine w_ifc (pt := 90) (pf := 66) (o46_35 hB) (by decide) rfl (fun e => ?_) (fun e => ?_)
                      · have f476 : (((0 : Nat) : Int) = (0)) := e
                        refine w_pl (pc' := 91) (lv' := [(0, (2, ((2 : Nat) : Int))), (1, (0, (w))), (2, (0, (st))), (3, (0, (sp))), (4, (0, (k)))]) (st' := [(0, (-1))]) (h' := h) (o46_48 hB) rfl ?_
                        exact w_iret (o46_49 hB) mr46 (by unfold in32; omega) (a0 (by omega))
                      · have f477 : ¬ (((0 : Nat) : Int) = (0)) := e
                        exfalso; omega
                  · have f478 : ¬ ((k) ≤ ((7 : Nat) : Int)) := e
                    refine w_pl (pc' := 54) (lv' := [(0, (2, ((2 : Nat) : Int))), (1, (0, (w))), (2, (0, (st))), (3, (0, (sp))), (4, (0, (k)))]) (st' := [(0, (-1))]) (h' := h) (o46_29 hB) rfl ?_
                    exact w_iret (o46_30 hB) mr46 (by unfold in32; omega) (a0 (by omega))
            · show HW g l _ 46 _ _ 37 [(0, (2, ((2 : Nat) : Int))), (1, (0, (w))), (2, (0, (st))), (3, (0, (sp))), (4, (0, (k)))] [(0, ((0 : Nat) : Int))] h
              refine w_ifc (pt := 53) (pf := 40) (o46_22 hB) (by decide) rfl (fun e => ?_) (fun e => ?_)
              · have f479 : (((0 : Nat) : Int) = (0)) := e
                refine w_pl (pc' := 54) (lv' := [(0, (2, ((2 : Nat) : Int))), (1, (0, (w))), (2, (0, (st))), (3, (0, (sp))), (4, (0, (k)))]) (st' := [(0, (-1))]) (h' := h) (o46_29 hB) rfl ?_
                exact w_iret (o46_30 hB) mr46 (by unfold in32; omega) (a0 (by omega))
              · have f480 : ¬ (((0 : Nat) : Int) = (0)) := e
                exfalso; omega
          · have f481 : ¬ (((w) % 10) ≠ (0)) := e
            refine w_pl (pc' := 32) (lv' := [(0, (2, ((2 : Nat) : Int))), (1, (0, (w))), (2, (0, (st))), (3, (0, (sp))), (4, (0, (k)))]) (st' := [(0, (-1))]) (h' := h) (o46_18 hB) rfl ?_
            exact w_iret (o46_19 hB) mr46 (by unfold in32; omega) (a0 (by omega))
theorem m_claimB (hB : BytesOK) {g : bG} {l : Launch} {d : Nat} {Q : bQ} {h : bH} {w st sp k : Int} (ht : TH h) (z_w : in32 w) (z_st : in32 st) (z_sp : in32 sp) (z_k : in32 k) {c : Nat} (hc : h 2 1 = (c : Int)) (lc : c ≤ 16)  (a0 : ¬ ((0 ≤ w ∧ w / 100 < 8 ∧ w / 10 % 10 < 4 ∧ w % 10 ≠ 0) ∧ (1 ≤ st ∧ st ≤ 4095) ∧ (-1 ≤ k ∧ k ≤ 7) ∧ 0 ≤ sp ∧ sp / 1000 ≤ 239 ∧ sp % 1000 ≤ 239 ∧ sp / 1000 ≤ sp % 1000) → Q (some (0, (-1))) h) (a1 : ((0 ≤ w ∧ w / 100 < 8 ∧ w / 10 % 10 < 4 ∧ w % 10 ≠ 0) ∧ (1 ≤ st ∧ st ≤ 4095) ∧ (-1 ≤ k ∧ k ≤ 7) ∧ 0 ≤ sp ∧ sp / 1000 ≤ 239 ∧ sp % 1000 ≤ 239 ∧ sp / 1000 ≤ sp % 1000) ∧ c = 16 → Q (some (0, (-2))) h) (a2 : ((0 ≤ w ∧ w / 100 < 8 ∧ w / 10 % 10 < 4 ∧ w % 10 ≠ 0) ∧ (1 ≤ st ∧ st ≤ 4095) ∧ (-1 ≤ k ∧ k ≤ 7) ∧ 0 ≤ sp ∧ sp / 1000 ≤ 239 ∧ sp % 1000 ≤ 239 ∧ sp / 1000 ≤ sp % 1000) ∧ c < 16 → Q (some (0, (c : Int))) (hup (hup (hup (hup (hup (hup (hup (hup h 3 (c) ((w) / 100)) 5 (c) (((w) / 10) % 10)) 8 (c) ((w) % 10)) 4 (c) (st)) 6 (c) ((sp) / 1000)) 7 (c) ((sp) % 1000)) 9 (c) (k)) 2 (1) (((c + 1) : Nat) : Int))) : MH g l (d + 1 + 1) 124 212 212 [(2, ((0 : Nat) : Int)), (0, (w)), (0, (st)), (0, (sp)), (0, (k))] h Q := by
  have hR := ht.r
  have z0_w := z_w
  have z0_st := z_st
  have z0_sp := z_sp
  have z0_k := z_k
  unfold in32 at z0_w
  unfold in32 at z0_st
  unfold in32 at z0_sp
  unfold in32 at z0_k
  refine mh_go hB mg124 ml124 (Nat.le_of_ble_eq_true rfl) ?_
  show HW g l (d + 1 + 1) 124 _ _ 0 [(0, (2, ((0 : Nat) : Int))), (1, (0, (w))), (2, (0, (st))), (3, (0, (sp))), (4, (0, (k)))] [] h
  refine w_pl (pc' := 1) (lv' := [(0, (2, ((0 : Nat) : Int))), (1, (0, (w))), (2, (0, (st))), (3, (0, (sp))), (4, (0, (k)))]) (st' := [(2, ((0 : Nat) : Int))]) (h' := h) (o124_0 hB) rfl ?_
  refine w_getf (A := 0) (t := 2) (z := ((1 : Nat) : Int)) (pc' := 4) (o124_1 hB) rfl (by decide +kernel) (hR (0, 0, 1) (by decide)) ?_
  refine w_getf (A := 1) (t := 2) (z := ((2 : Nat) : Int)) (pc' := 7) (o124_2 hB) rfl (by decide +kernel) (hR (1, 0, 2) (by decide)) ?_
  refine w_pl (pc' := 8) (lv' := [(0, (2, ((0 : Nat) : Int))), (1, (0, (w))), (2, (0, (st))), (3, (0, (sp))), (4, (0, (k)))]) (st' := [(0, (w)), (2, ((2 : Nat) : Int))]) (h' := h) (o124_3 hB) rfl ?_
  refine w_pl (pc' := 9) (lv' := [(0, (2, ((0 : Nat) : Int))), (1, (0, (w))), (2, (0, (st))), (3, (0, (sp))), (4, (0, (k)))]) (st' := [(0, (st)), (0, (w)), (2, ((2 : Nat) : Int))]) (h' := h) (o124_4 hB) rfl ?_
  refine w_pl (pc' := 10) (lv' := [(0, (2, ((0 : Nat) : Int))), (1, (0, (w))), (2, (0, (st))), (3, (0, (sp))), (4, (0, (k)))]) (st' := [(0, (sp)), (0, (st)), (0, (w)), (2, ((2 : Nat) : Int))]) (h' := h) (o124_5 hB) rfl ?_
  refine w_pl (pc' := 12) (lv' := [(0, (2, ((0 : Nat) : Int))), (1, (0, (w))), (2, (0, (st))), (3, (0, (sp))), (4, (0, (k)))]) (st' := [(0, (k)), (0, (sp)), (0, (st)), (0, (w)), (2, ((2 : Nat) : Int))]) (h' := h) (o124_6 hB) rfl ?_
  refine w_callV (A := 2) (as := [(0, (w)), (0, (st)), (0, (sp)), (0, (k))]) (rest := []) (n := 4) (pc' := 15) 3 hB (o124_7 hB) rfl (by decide +kernel) rfl rfl (Nat.le_of_ble_eq_true rfl) (m_addClaim hB ht z_w z_st z_sp z_k hc lc (fun f485 => ?_) (fun f486 => ?_) (fun f487 => ?_))
  · show HW g l _ 124 _ _ 15 [(0, (2, ((0 : Nat) : Int))), (1, (0, (w))), (2, (0, (st))), (3, (0, (sp))), (4, (0, (k)))] [(0, (-1))] h
    exact w_iret (o124_8 hB) mr124 (by unfold in32; omega) (a0 (by omega))
  · show HW g l _ 124 _ _ 15 [(0, (2, ((0 : Nat) : Int))), (1, (0, (w))), (2, (0, (st))), (3, (0, (sp))), (4, (0, (k)))] [(0, (-2))] h
    exact w_iret (o124_8 hB) mr124 (by unfold in32; omega) (a1 (by omega))
  · show HW g l _ 124 _ _ 15 [(0, (2, ((0 : Nat) : Int))), (1, (0, (w))), (2, (0, (st))), (3, (0, (sp))), (4, (0, (k)))] [(0, ((c : Nat) : Int))] (hup (hup (hup (hup (hup (hup (hup (hup h 3 (c) ((w) / 100)) 5 (c) (((w) / 10) % 10)) 8 (c) ((w) % 10)) 4 (c) (st)) 6 (c) ((sp) / 1000)) 7 (c) ((sp) % 1000)) 9 (c) (k)) 2 (1) (((c + 1) : Nat) : Int))
    exact w_iret (o124_8 hB) mr124 (by unfold in32; omega) (qe (a2 (by omega)) (by omega))
def s_claimB (vs : List bV) (h : bH) (r : Option bV) (h' : bH) : Prop := TH h ∧ ∀ (w st sp k : Int) (c : Nat) , vs = [(2, ((0 : Nat) : Int)), (0, w), (0, st), (0, sp), (0, k)] → h 2 1 = (c : Int) → ((¬ ((0 ≤ w ∧ w / 100 < 8 ∧ w / 10 % 10 < 4 ∧ w % 10 ≠ 0) ∧ (1 ≤ st ∧ st ≤ 4095) ∧ (-1 ≤ k ∧ k ≤ 7) ∧ 0 ≤ sp ∧ sp / 1000 ≤ 239 ∧ sp % 1000 ≤ 239 ∧ sp / 1000 ≤ sp % 1000)) ∧ r = some (0, (-1)) ∧ h = h') ∨ ((((0 ≤ w ∧ w / 100 < 8 ∧ w / 10 % 10 < 4 ∧ w % 10 ≠ 0) ∧ (1 ≤ st ∧ st ≤ 4095) ∧ (-1 ≤ k ∧ k ≤ 7) ∧ 0 ≤ sp ∧ sp / 1000 ≤ 239 ∧ sp % 1000 ≤ 239 ∧ sp / 1000 ≤ sp % 1000) ∧ c = 16) ∧ r = some (0, (-2)) ∧ h = h') ∨ ((((0 ≤ w ∧ w / 100 < 8 ∧ w / 10 % 10 < 4 ∧ w % 10 ≠ 0) ∧ (1 ≤ st ∧ st ≤ 4095) ∧ (-1 ≤ k ∧ k ≤ 7) ∧ 0 ≤ sp ∧ sp / 1000 ≤ 239 ∧ sp % 1000 ≤ 239 ∧ sp / 1000 ≤ sp % 1000) ∧ c < 16) ∧ r = some (0, (c : Int)) ∧ h' = (hup (hup (hup (hup (hup (hup (hup (hup h 3 (c) ((w) / 100)) 5 (c) (((w) / 10) % 10)) 8 (c) ((w) % 10)) 4 (c) (st)) 6 (c) ((sp) / 1000)) 7 (c) ((sp) % 1000)) 9 (c) (k)) 2 (1) (((c + 1) : Nat) : Int)))
def w_claimB : List (Nat × Nat × Nat) := [(2, 1, 2), (3, 0, 16), (4, 0, 16), (5, 0, 16), (6, 0, 16), (7, 0, 16), (8, 0, 16), (9, 0, 16)]
def q_claimB : aCt := cH 124 2 w_claimB 4 0
theorem sk_claimB (hB : BytesOK) (g : bG) (l : Launch) : SK g l gT q_claimB s_claimB := by
  intro d hd ρ h Q hcore hQ
  have hcore : core (PofW gT (some w_claimB) false) (gsc g) h ρ h (List.replicate 4 r32, [], [], 212) := hcore
  have ht := hTH hcore
  have y0 := r32_0 hcore 0 (by decide)
  have y1 := r32_0 hcore 1 (by decide)
  have y2 := r32_0 hcore 2 (by decide)
  have y3 := r32_0 hcore 3 (by decide)
  have y00 := y0
  unfold in32 at y00
  have y01 := y1
  unfold in32 at y01
  have y02 := y2
  unfold in32 at y02
  have y03 := y3
  unfold in32 at y03
  obtain ⟨c, hc, lc⟩ := nat_to ht (a := 2) (j := 1) (n := 16) (by decide +kernel)
  obtain ⟨d', rfl⟩ : ∃ d', d = d' + 1 + 1 := ⟨d - 2, by have : 2 ≤ d := hd; omega⟩
  rw [show evS ρ (ctA q_claimB) = [(2, ((0 : Nat) : Int)), (0, ρ 0), (0, ρ 1), (0, ρ 2), (0, ρ 3)] from evA4]
  refine m_claimB (w := ρ 0) (st := ρ 1) (sp := ρ 2) (k := ρ 3) hB ht y0 y1 y2 y3 hc lc (fun hn => ?_) (fun hn => ?_) (fun hn => ?_)
  · refine hQ _ _ (hpost hcore (ht) (fun _ _ _ => rfl) (by unfold in32; omega)) ⟨ht, fun w st sp k c_c hv e_c => ?_⟩
    have hv := (evA4 (ρ := ρ)).symm.trans hv
    obtain ⟨rfl, rfl, rfl, rfl⟩ := vsA4 hv
    obtain rfl : c_c = c := by have := e_c.symm.trans hc; omega
    exact Or.inl ⟨hn, rfl, rfl⟩
  · refine hQ _ _ (hpost hcore (ht) (fun _ _ _ => rfl) (by unfold in32; omega)) ⟨ht, fun w st sp k c_c hv e_c => ?_⟩
    have hv := (evA4 (ρ := ρ)).symm.trans hv
    obtain ⟨rfl, rfl, rfl, rfl⟩ := vsA4 hv
    obtain rfl : c_c = c := by have := e_c.symm.trans hc; omega
    exact Or.inr (Or.inl ⟨hn, rfl, rfl⟩)
  · refine hQ _ _ (hpost hcore (((((((((ht).ups2 (a := 3) (s := 0) (st := 1) (n := 16) (lo := (0)) (hi := 7) (r := c) (by decide +kernel) (by omega) (by omega) (by omega)).ups2 (a := 5) (s := 0) (st := 1) (n := 16) (lo := (0)) (hi := 9) (r := c) (by decide +kernel) (by omega) (by omega) (by omega)).ups2 (a := 8) (s := 0) (st := 1) (n := 16) (lo := (0)) (hi := 9) (r := c) (by decide +kernel) (by omega) (by omega) (by omega)).ups2 (a := 4) (s := 0) (st := 1) (n := 16) (lo := (0)) (hi := 4095) (r := c) (by decide +kernel) (by omega) (by omega) (by omega)).ups2 (a := 6) (s := 0) (st := 1) (n := 16) (lo := (-2147483648)) (hi := 2147483647) (r := c) (by decide +kernel) (by omega) (by omega) (by omega)).ups2 (a := 7) (s := 0) (st := 1) (n := 16) (lo := (-1000)) (hi := 999) (r := c) (by decide +kernel) (by omega) (by omega) (by omega)).ups2 (a := 9) (s := 0) (st := 1) (n := 16) (lo := (-1)) (hi := 7) (r := c) (by decide +kernel) (by omega) (by omega) (by omega)).upc (a := 2) (j := 1) (lo := (0)) (hi := 16) (by decide +kernel) (by omega)) (fr_up (fr_up (fr_up (fr_up (fr_up (fr_up (fr_up (fr_up (fun _ _ _ => rfl) (wr_in (lo := 0) (hi := 16) (by decide) (by omega) (by omega))) (wr_in (lo := 0) (hi := 16) (by decide) (by omega) (by omega))) (wr_in (lo := 0) (hi := 16) (by decide) (by omega) (by omega))) (wr_in (lo := 0) (hi := 16) (by decide) (by omega) (by omega))) (wr_in (lo := 0) (hi := 16) (by decide) (by omega) (by omega))) (wr_in (lo := 0) (hi := 16) (by decide) (by omega) (by omega))) (wr_in (lo := 0) (hi := 16) (by decide) (by omega) (by omega))) (wr_in (lo := 1) (hi := 2) (by decide) (by omega) (by omega))) (by unfold in32; omega)) ⟨ht, fun w st sp k c_c hv e_c => ?_⟩
    have hv := (evA4 (ρ := ρ)).symm.trans hv
    obtain ⟨rfl, rfl, rfl, rfl⟩ := vsA4 hv
    obtain rfl : c_c = c := by have := e_c.symm.trans hc; omega
    exact Or.inr (Or.inr (⟨hn, rfl, rfl⟩))
theorem m_claimM (hB : BytesOK) {g : bG} {l : Launch} {d : Nat} {Q : bQ} {h : bH} {w st sp k : Int} (ht : TH h) (z_w : in32 w) (z_st : in32 st) (z_sp : in32 sp) (z_k : in32 k) {c : Nat} (hc : h 194 1 = (c : Int)) (lc : c ≤ 16)  (a0 : ¬ ((0 ≤ w ∧ w / 100 < 8 ∧ w / 10 % 10 < 4 ∧ w % 10 ≠ 0) ∧ (1 ≤ st ∧ st ≤ 4095) ∧ (-1 ≤ k ∧ k ≤ 7) ∧ 0 ≤ sp ∧ sp / 1000 ≤ 239 ∧ sp % 1000 ≤ 239 ∧ sp / 1000 ≤ sp % 1000) → Q (some (0, (-1))) h) (a1 : ((0 ≤ w ∧ w / 100 < 8 ∧ w / 10 % 10 < 4 ∧ w % 10 ≠ 0) ∧ (1 ≤ st ∧ st ≤ 4095) ∧ (-1 ≤ k ∧ k ≤ 7) ∧ 0 ≤ sp ∧ sp / 1000 ≤ 239 ∧ sp % 1000 ≤ 239 ∧ sp / 1000 ≤ sp % 1000) ∧ c = 16 → Q (some (0, (-2))) h) (a2 : ((0 ≤ w ∧ w / 100 < 8 ∧ w / 10 % 10 < 4 ∧ w % 10 ≠ 0) ∧ (1 ≤ st ∧ st ≤ 4095) ∧ (-1 ≤ k ∧ k ≤ 7) ∧ 0 ≤ sp ∧ sp / 1000 ≤ 239 ∧ sp % 1000 ≤ 239 ∧ sp / 1000 ≤ sp % 1000) ∧ c < 16 → Q (some (0, (c : Int))) (hup (hup (hup (hup (hup (hup (hup (hup (hup h 194 (((16 + (8 * c)) + 0)) ((w) / 100)) 194 (((16 + (8 * c)) + 1)) (((w) / 10) % 10)) 194 (((16 + (8 * c)) + 2)) ((w) % 10)) 194 (((16 + (8 * c)) + 3)) (st)) 194 (((16 + (8 * c)) + 4)) ((sp) / 1000)) 194 (((16 + (8 * c)) + 5)) ((sp) % 1000)) 194 (((16 + (8 * c)) + 6)) (k)) 194 (((16 + (8 * c)) + 7)) ((0 : Nat) : Int)) 194 (1) (((c + 1) : Nat) : Int))) : MH g l (d + 1 + 1) 192 212 212 [(2, ((193 : Nat) : Int)), (0, (w)), (0, (st)), (0, (sp)), (0, (k))] h Q := by
  have hR := ht.r
  have z0_w := z_w
  have z0_st := z_st
  have z0_sp := z_sp
  have z0_k := z_k
  unfold in32 at z0_w
  unfold in32 at z0_st
  unfold in32 at z0_sp
  unfold in32 at z0_k
  refine mh_go hB mg192 ml192 (Nat.le_of_ble_eq_true rfl) ?_
  show HW g l (d + 1 + 1) 192 _ _ 0 [(0, (2, ((193 : Nat) : Int))), (1, (0, (w))), (2, (0, (st))), (3, (0, (sp))), (4, (0, (k)))] [] h
  refine w_pl (pc' := 1) (lv' := [(0, (2, ((193 : Nat) : Int))), (1, (0, (w))), (2, (0, (st))), (3, (0, (sp))), (4, (0, (k)))]) (st' := [(0, (w))]) (h' := h) (o192_0 hB) rfl ?_
  refine w_pl (pc' := 2) (lv' := [(0, (2, ((193 : Nat) : Int))), (1, (0, (w))), (2, (0, (st))), (3, (0, (sp))), (4, (0, (k)))]) (st' := [(0, ((0 : Nat) : Int)), (0, (w))]) (h' := h) (o192_1 hB) rfl ?_
  refine w_pl (pc' := 5) (lv' := [(0, (2, ((193 : Nat) : Int))), (1, (0, (w))), (2, (0, (st))), (3, (0, (sp))), (4, (0, (k)))]) (st' := [(0, ((799 : Nat) : Int)), (0, ((0 : Nat) : Int)), (0, (w))]) (h' := h) (o192_2 hB) rfl ?_
  refine w_callS (as := [(0, (w)), (0, ((0 : Nat) : Int)), (0, ((799 : Nat) : Int))]) (rest := []) (n := 3) (pc' := 8) hB (o192_3 hB) rfl (by decide +kernel) rfl rfl (Nat.le_of_ble_eq_true rfl) (m_in hB (fun f522 => ?_) (fun f523 => ?_))
  · show HW g l _ 192 _ _ 8 [(0, (2, ((193 : Nat) : Int))), (1, (0, (w))), (2, (0, (st))), (3, (0, (sp))), (4, (0, (k)))] [(0, ((1 : Nat) : Int))] h
    refine w_ifc (pt := 76) (pf := 11) (o192_4 hB) (by decide) rfl (fun e => ?_) (fun e => ?_)
    · have f524 : (((1 : Nat) : Int) = (0)) := e
      exfalso; omega
    · have f525 : ¬ (((1 : Nat) : Int) = (0)) := e
      refine w_pl (pc' := 12) (lv' := [(0, (2, ((193 : Nat) : Int))), (1, (0, (w))), (2, (0, (st))), (3, (0, (sp))), (4, (0, (k)))]) (st' := [(0, (w))]) (h' := h) (o192_5 hB) rfl ?_
      refine w_pl (pc' := 14) (lv' := [(0, (2, ((193 : Nat) : Int))), (1, (0, (w))), (2, (0, (st))), (3, (0, (sp))), (4, (0, (k)))]) (st' := [(0, ((10 : Nat) : Int)), (0, (w))]) (h' := h) (o192_6 hB) rfl ?_
      refine w_idiv (z := ((w) / 10)) (pc' := 15) (o192_7 hB) rfl (divI_p (by omega) (by omega) (by decide)) ?_
      refine w_pl (pc' := 17) (lv' := [(0, (2, ((193 : Nat) : Int))), (1, (0, (w))), (2, (0, (st))), (3, (0, (sp))), (4, (0, (k)))]) (st' := [(0, ((10 : Nat) : Int)), (0, ((w) / 10))]) (h' := h) (o192_8 hB) rfl ?_
      refine w_irem (z := (((w) / 10) % 10)) (pc' := 18) (o192_9 hB) rfl (remI_p (by omega) (by decide)) ?_
      refine w_pl (pc' := 19) (lv' := [(0, (2, ((193 : Nat) : Int))), (1, (0, (w))), (2, (0, (st))), (3, (0, (sp))), (4, (0, (k)))]) (st' := [(0, ((3 : Nat) : Int)), (0, (((w) / 10) % 10))]) (h' := h) (o192_10 hB) rfl ?_
      refine w_icmp (pt := 76) (pf := 22) (o192_11 hB) (by decide) rfl (fun e => ?_) (fun e => ?_)
      · have f526 : (((3 : Nat) : Int) < (((w) / 10) % 10)) := e
        refine w_pl (pc' := 77) (lv' := [(0, (2, ((193 : Nat) : Int))), (1, (0, (w))), (2, (0, (st))), (3, (0, (sp))), (4, (0, (k)))]) (st' := [(0, (-1))]) (h' := h) (o192_39 hB) rfl ?_
        exact w_iret (o192_40 hB) mr192 (by unfold in32; omega) (a0 (by omega))
      · have f527 : ¬ (((3 : Nat) : Int) < (((w) / 10) % 10)) := e
        refine w_pl (pc' := 23) (lv' := [(0, (2, ((193 : Nat) : Int))), (1, (0, (w))), (2, (0, (st))), (3, (0, (sp))), (4, (0, (k)))]) (st' := [(0, (w))]) (h' := h) (o192_12 hB) rfl ?_
        refine w_pl (pc' := 25) (lv' := [(0, (2, ((193 : Nat) : Int))), (1, (0, (w))), (2, (0, (st))), (3, (0, (sp))), (4, (0, (k)))]) (st' := [(0, ((10 : Nat) : Int)), (0, (w))]) (h' := h) (o192_13 hB) rfl ?_
        refine w_irem (z := ((w) % 10)) (pc' := 26) (o192_14 hB) rfl (remI_p (by omega) (by decide)) ?_
        refine w_pl (pc' := 27) (lv' := [(0, (2, ((193 : Nat) : Int))), (1, (0, (w))), (2, (0, (st))), (3, (0, (sp))), (4, (0, (k)))]) (st' := [(0, ((1 : Nat) : Int)), (0, ((w) % 10))]) (h' := h) (o192_15 hB) rfl ?_
        refine w_icmp (pt := 76) (pf := 30) (o192_16 hB) (by decide) rfl (fun e => ?_) (fun e => ?_)
        · have f528 : (((w) % 10) < ((1 : Nat) : Int)) := e
          refine w_pl (pc' := 77) (lv' := [(0, (2, ((193 : Nat) : Int))), (1, (0, (w))), (2, (0, (st))), (3, (0, (sp))), (4, (0, (k)))]) (st' := [(0, (-1))]) (h' := h) (o192_39 hB) rfl ?_
          exact w_iret (o192_40 hB) mr192 (by unfold in32; omega) (a0 (by omega))
        · have f529 : ¬ (((w) % 10) < ((1 : Nat) : Int)) := e
          refine w_pl (pc' := 31) (lv' := [(0, (2, ((193 : Nat) : Int))), (1, (0, (w))), (2, (0, (st))), (3, (0, (sp))), (4, (0, (k)))]) (st' := [(0, (st))]) (h' := h) (o192_17 hB) rfl ?_
          refine w_callS (as := [(0, (st))]) (rest := []) (n := 1) (pc' := 34) hB (o192_18 hB) rfl (by decide +kernel) rfl rfl (Nat.le_of_ble_eq_true rfl) (m_isStepsM hB (fun f530 => ?_) (fun f531 => ?_))
          · show HW g l _ 192 _ _ 34 [(0, (2, ((193 : Nat) : Int))), (1, (0, (w))), (2, (0, (st))), (3, (0, (sp))), (4, (0, (k)))] [(0, ((1 : Nat) : Int))] h
            refine w_ifc (pt := 76) (pf := 37) (o192_19 hB) (by decide) rfl (fun e => ?_) (fun e => ?_)
            · have f532 : (((1 : Nat) : Int) = (0)) := e
              exfalso; omega
            · have f533 : ¬ (((1 : Nat) : Int) = (0)) := e
              refine w_pl (pc' := 38) (lv' := [(0, (2, ((193 : Nat) : Int))), (1, (0, (w))), (2, (0, (st))), (3, (0, (sp))), (4, (0, (k)))]) (st' := [(0, (sp))]) (h' := h) (o192_20 hB) rfl ?_
              refine w_ifc (pt := 76) (pf := 41) (o192_21 hB) (by decide) rfl (fun e => ?_) (fun e => ?_)
              · have f534 : ((sp) < (0)) := e
                refine w_pl (pc' := 77) (lv' := [(0, (2, ((193 : Nat) : Int))), (1, (0, (w))), (2, (0, (st))), (3, (0, (sp))), (4, (0, (k)))]) (st' := [(0, (-1))]) (h' := h) (o192_39 hB) rfl ?_
                exact w_iret (o192_40 hB) mr192 (by unfold in32; omega) (a0 (by omega))
              · have f535 : ¬ ((sp) < (0)) := e
                refine w_pl (pc' := 42) (lv' := [(0, (2, ((193 : Nat) : Int))), (1, (0, (w))), (2, (0, (st))), (3, (0, (sp))), (4, (0, (k)))]) (st' := [(0, (sp))]) (h' := h) (o192_22 hB) rfl ?_
                refine w_pl (pc' := 45) (lv' := [(0, (2, ((193 : Nat) : Int))), (1, (0, (w))), (2, (0, (st))), (3, (0, (sp))), (4, (0, (k)))]) (st' := [(0, ((1000 : Nat) : Int)), (0, (sp))]) (h' := h) (o192_23 hB) rfl ?_
                refine w_irem (z := ((sp) % 1000)) (pc' := 46) (o192_24 hB) rfl (remI_p (by omega) (by decide)) ?_
                refine w_callS (as := [(0, ((sp) % 1000))]) (rest := []) (n := 1) (pc' := 49) hB (o192_25 hB) rfl (by decide +kernel) rfl rfl (Nat.le_of_ble_eq_true rfl) (m_isMonthM hB (fun f536 => ?_) (fun f537 => ?_))
                · show HW g l _ 192 _ _ 49 [(0, (2, ((193 : Nat) : Int))), (1, (0, (w))), (2, (0, (st))), (3, (0, (sp))), (4, (0, (k)))] [(0, ((1 : Nat) : Int))] h
                  refine w_ifc (pt := 76) (pf := 52) (o192_26 hB) (by decide) rfl (fun e => ?_) (fun e => ?_)
                  · have f538 : (((1 : Nat) : Int) = (0)) := e
                    exfalso; omega
                  · have f539 : ¬ (((1 : Nat) : Int) = (0)) := e
                    refine w_pl (pc' := 53) (lv' := [(0, (2, ((193 : Nat) : Int))), (1, (0, (w))), (2, (0, (st))), (3, (0, (sp))), (4, (0, (k)))]) (st' := [(0, (sp))]) (h' := h) (o192_27 hB) rfl ?_
                    refine w_pl (pc' := 56) (lv' := [(0, (2, ((193 : Nat) : Int))), (1, (0, (w))), (2, (0, (st))), (3, (0, (sp))), (4, (0, (k)))]) (st' := [(0, ((1000 : Nat) : Int)), (0, (sp))]) (h' := h) (o192_28 hB) rfl ?_
                    refine w_idiv (z := ((sp) / 1000)) (pc' := 57) (o192_29 hB) rfl (divI_p (by omega) (by omega) (by decide)) ?_
                    refine w_pl (pc' := 58) (lv' := [(0, (2, ((193 : Nat) : Int))), (1, (0, (w))), (2, (0, (st))), (3, (0, (sp))), (4, (0, (k)))]) (st' := [(0, (sp)), (0, ((sp) / 1000))]) (h' := h) (o192_30 hB) rfl ?_
                    refine w_pl (pc' := 61) (lv' := [(0, (2, ((193 : Nat) : Int))), (1, (0, (w))), (2, (0, (st))), (3, (0, (sp))), (4, (0, (k)))]) (st' := [(0, ((1000 : Nat) : Int)), (0, (sp)), (0, ((sp) / 1000))]) (h' := h) (o192_31 hB) rfl ?_
                    refine w_irem (z := ((sp) % 1000)) (pc' := 62) (o192_32 hB) rfl (remI_p (by omega) (by decide)) ?_
                    refine w_icmp (pt := 76) (pf := 65) (o192_33 hB) (by decide) rfl (fun e => ?_) (fun e => ?_)
                    · have f540 : (((sp) % 1000) < ((sp) / 1000)) := e
                      refine w_pl (pc' := 77) (lv' := [(0, (2, ((193 : Nat) : Int))), (1, (0, (w))), (2, (0, (st))), (3, (0, (sp))), (4, (0, (k)))]) (st' := [(0, (-1))]) (h' := h) (o192_39 hB) rfl ?_
                      exact w_iret (o192_40 hB) mr192 (by unfold in32; omega) (a0 (by omega))
                    · have f541 : ¬ (((sp) % 1000) < ((sp) / 1000)) := e
                      refine w_pl (pc' := 67) (lv' := [(0, (2, ((193 : Nat) : Int))), (1, (0, (w))), (2, (0, (st))), (3, (0, (sp))), (4, (0, (k)))]) (st' := [(0, (k))]) (h' := h) (o192_34 hB) rfl ?_
                      refine w_pl (pc' := 68) (lv' := [(0, (2, ((193 : Nat) : Int))), (1, (0, (w))), (2, (0, (st))), (3, (0, (sp))), (4, (0, (k)))]) (st' := [(0, (-1)), (0, (k))]) (h' := h) (o192_35 hB) rfl ?_
                      refine w_pl (pc' := 70) (lv' := [(0, (2, ((193 : Nat) : Int))), (1, (0, (w))), (2, (0, (st))), (3, (0, (sp))), (4, (0, (k)))]) (st' := [(0, ((7 : Nat) : Int)), (0, (-1)), (0, (k))]) (h' := h) (o192_36 hB) rfl ?_
                      refine w_callS (as := [(0, (k)), (0, (-1)), (0, ((7 : Nat) : Int))]) (rest := []) (n := 3) (pc' := 73) hB (o192_37 hB) rfl (by decide +kernel) rfl rfl (Nat.le_of_ble_eq_true rfl) (m_in hB (fun f542 => ?_) (fun f543 => ?_))
                      · show HW g l _ 192 _ _ 73 [(0, (2, ((193 : Nat) : Int))), (1, (0, (w))), (2, (0, (st))), (3, (0, (sp))), (4, (0, (k)))] [(0, ((1 : Nat) : Int))] h
                        refine w_ifc (pt := 78) (pf := 76) (o192_38 hB) (by decide) rfl (fun e => ?_) (fun e => ?_)
                        · have f544 : (((1 : Nat) : Int) ≠ (0)) := e
                          refine w_pl (pc' := 79) (lv' := [(0, (2, ((193 : Nat) : Int))), (1, (0, (w))), (2, (0, (st))), (3, (0, (sp))), (4, (0, (k)))]) (st' := [(2, ((193 : Nat) : Int))]) (h' := h) (o192_41 hB) rfl ?_
                          refine w_getf (A := 193) (t := 2) (z := ((194 : Nat) : Int)) (pc' := 82) (o192_42 hB) rfl (by decide +kernel) (hR (193, 0, 194) (by decide)) ?_
                          refine w_pl (pc' := 83) (lv' := [(0, (2, ((193 : Nat) : Int))), (1, (0, (w))), (2, (0, (st))), (3, (0, (sp))), (4, (0, (k)))]) (st' := [(0, ((1 : Nat) : Int)), (2, ((194 : Nat) : Int))]) (h' := h) (o192_43 hB) rfl ?_
                          refine w_iald (A := 194) (i := 1) (n := 1984) (z := ((c : Nat) : Int)) (pc' := 84) (o192_44 hB) rfl (by decide +kernel) (by omega) hc ?_
                          refine w_pl (pc' := 86) (lv' := [(0, (2, ((193 : Nat) : Int))), (1, (0, (w))), (2, (0, (st))), (3, (0, (sp))), (4, (0, (k)))]) (st' := [(0, ((16 : Nat) : Int)), (0, ((c : Nat) : Int))]) (h' := h) (o192_45 hB) rfl ?_
                          refine w_icmp (pt := 92) (pf := 89) (o192_46 hB) (by decide) rfl (fun e => ?_) (fun e => ?_)
                          · have f545 : (((c : Nat) : Int) ≠ ((16 : Nat) : Int)) := e
                            refine w_pl (pc' := 94) (lv' := [(0, (2, ((193 : Nat) : Int))), (1, (0, (w))), (2, (0, (st))), (3, (0, (sp))), (4, (0, (k)))]) (st' := [(0, ((16 : Nat) : Int))]) (h' := h) (o192_49 hB) rfl ?_
                            refine w_pl (pc' := 96) (lv' := [(0, (2, ((193 : Nat) : Int))), (1, (0, (w))), (2, (0, (st))), (3, (0, (sp))), (4, (0, (k)))]) (st' := [(0, ((8 : Nat) : Int)), (0, ((16 : Nat) : Int))]) (h' := h) (o192_50 hB) rfl ?_
                            refine w_pl (pc' := 97) (lv' := [(0, (2, ((193 : Nat) : Int))), (1, (0, (w))), (2, (0, (st))), (3, (0, (sp))), (4, (0, (k)))]) (st' := [(2, ((193 : Nat) : Int)), (0, ((8 : Nat) : Int)), (0, ((16 : Nat) : Int))]) (h' := h) (o192_51 hB) rfl ?_
                            refine w_getf (A := 193) (t := 2) (z := ((194 : Nat) : Int)) (pc' := 100) (o192_52 hB) rfl (by decide +kernel) (hR (193, 0, 194) (by decide)) ?_
                            refine w_pl (pc' := 101) (lv' := [(0, (2, ((193 : Nat) : Int))), (1, (0, (w))), (2, (0, (st))), (3, (0, (sp))), (4, (0, (k)))]) (st' := [(0, ((1 : Nat) : Int)), (2, ((194 : Nat) : Int)), (0, ((8 : Nat) : Int)), (0, ((16 : Nat) : Int))]) (h' := h) (o192_53 hB) rfl ?_
                            refine w_iald (A := 194) (i := 1) (n := 1984) (z := ((c : Nat) : Int)) (pc' := 102) (o192_54 hB) rfl (by decide +kernel) (by omega) hc ?_
                            refine w_imul (z := (((8 * c) : Nat) : Int)) (pc' := 103) (o192_55 hB) rfl (w32_e (by omega) (by omega)) ?_
                            refine w_iadd (z := (((16 + (8 * c)) : Nat) : Int)) (pc' := 104) (o192_56 hB) rfl (w32_e (by omega) (by omega)) ?_
                            refine w_st (tg := 0) (j := 5) (len := 2) (pc' := 106) (lv' := [(5, (0, (((16 + (8 * c)) : Nat) : Int))), (0, (2, ((193 : Nat) : Int))), (1, (0, (w))), (2, (0, (st))), (3, (0, (sp))), (4, (0, (k)))]) (o192_57 hB) rfl rfl ml192 (by decide) rfl ?_
                            refine w_pl (pc' := 107) (lv' := [(5, (0, (((16 + (8 * c)) : Nat) : Int))), (0, (2, ((193 : Nat) : Int))), (1, (0, (w))), (2, (0, (st))), (3, (0, (sp))), (4, (0, (k)))]) (st' := [(2, ((193 : Nat) : Int))]) (h' := h) (o192_58 hB) rfl ?_
                            refine w_getf (A := 193) (t := 2) (z := ((194 : Nat) : Int)) (pc' := 110) (o192_59 hB) rfl (by decide +kernel) (hR (193, 0, 194) (by decide)) ?_
                            refine w_pl (pc' := 112) (lv' := [(5, (0, (((16 + (8 * c)) : Nat) : Int))), (0, (2, ((193 : Nat) : Int))), (1, (0, (w))), (2, (0, (st))), (3, (0, (sp))), (4, (0, (k)))]) (st' := [(0, (((16 + (8 * c)) : Nat) : Int)), (2, ((194 : Nat) : Int))]) (h' := h) (o192_60 hB) rfl ?_
                            refine w_pl (pc' := 113) (lv' := [(5, (0, (((16 + (8 * c)) : Nat) : Int))), (0, (2, ((193 : Nat) : Int))), (1, (0, (w))), (2, (0, (st))), (3, (0, (sp))), (4, (0, (k)))]) (st' := [(0, ((0 : Nat) : Int)), (0, (((16 + (8 * c)) : Nat) : Int)), (2, ((194 : Nat) : Int))]) (h' := h) (o192_61 hB) rfl ?_
                            refine w_iadd (z := ((((16 + (8 * c)) + 0) : Nat) : Int)) (pc' := 114) (o192_62 hB) rfl (w32_e (by omega) (by omega)) ?_
                            refine w_pl (pc' := 115) (lv' := [(5, (0, (((16 + (8 * c)) : Nat) : Int))), (0, (2, ((193 : Nat) : Int))), (1, (0, (w))), (2, (0, (st))), (3, (0, (sp))), (4, (0, (k)))]) (st' := [(0, (w)), (0, ((((16 + (8 * c)) + 0) : Nat) : Int)), (2, ((194 : Nat) : Int))]) (h' := h) (o192_63 hB) rfl ?_
                            refine w_pl (pc' := 117) (lv' := [(5, (0, (((16 + (8 * c)) : Nat) : Int))), (0, (2, ((193 : Nat) : Int))), (1, (0, (w))), (2, (0, (st))), (3, (0, (sp))), (4, (0, (k)))]) (st' := [(0, ((100 : Nat) : Int)), (0, (w)), (0, ((((16 + (8 * c)) + 0) : Nat) : Int)), (2, ((194 : Nat) : Int))]) (h' := h) (o192_64 hB) rfl ?_
                            refine w_idiv (z := ((w) / 100)) (pc' := 118) (o192_65 hB) rfl (divI_p (by omega) (by omega) (by decide)) ?_
                            refine w_iast (A := 194) (i := ((16 + (8 * c)) + 0)) (n := 1984) (pc' := 119) (o192_66 hB) rfl (by decide +kernel) (by omega) ?_
                            refine w_pl (pc' := 120) (lv' := [(5, (0, (((16 + (8 * c)) : Nat) : Int))), (0, (2, ((193 : Nat) : Int))), (1, (0, (w))), (2, (0, (st))), (3, (0, (sp))), (4, (0, (k)))]) (st' := [(2, ((193 : Nat) : Int))]) (h' := (hup h 194 (((16 + (8 * c)) + 0)) ((w) / 100))) (o192_67 hB) rfl ?_
                            refine w_getf (A := 193) (t := 2) (z := ((194 : Nat) : Int)) (pc' := 123) (o192_68 hB) rfl (by decide +kernel) ((hup_ne (by decide)).trans (hR (193, 0, 194) (by decide))) ?_
                            refine w_pl (pc' := 125) (lv' := [(5, (0, (((16 + (8 * c)) : Nat) : Int))), (0, (2, ((193 : Nat) : Int))), (1, (0, (w))), (2, (0, (st))), (3, (0, (sp))), (4, (0, (k)))]) (st' := [(0, (((16 + (8 * c)) : Nat) : Int)), (2, ((194 : Nat) : Int))]) (h' := (hup h 194 (((16 + (8 * c)) + 0)) ((w) / 100))) (o192_69 hB) rfl ?_
                            refine w_pl (pc' := 126) (lv' := [(5, (0, (((16 + (8 * c)) : Nat) : Int))), (0, (2, ((193 : Nat) : Int))), (1, (0, (w))), (2, (0, (st))), (3, (0, (sp))), (4, (0, (k)))]) (st' := [(0, ((1 : Nat) : Int)), (0, (((16 + (8 * c)) : Nat) : Int)), (2, ((194 : Nat) : Int))]) (h' := (hup h 194 (((16 + (8 * c)) + 0)) ((w) / 100))) (o192_70 hB) rfl ?_
                            refine w_iadd (z := ((((16 + (8 * c)) + 1) : Nat) : Int)) (pc' := 127) (o192_71 hB) rfl (w32_e (by omega) (by omega)) ?_
                            refine w_pl (pc' := 128) (lv' := [(5, (0, (((16 + (8 * c)) : Nat) : Int))), (0, (2, ((193 : Nat) : Int))), (1, (0, (w))), (2, (0, (st))), (3, (0, (sp))), (4, (0, (k)))]) (st' := [(0, (w)), (0, ((((16 + (8 * c)) + 1) : Nat) : Int)), (2, ((194 : Nat) : Int))]) (h' := (hup h 194 (((16 + (8 * c)) + 0)) ((w) / 100))) (o192_72 hB) rfl ?_
                            refine w_pl (pc' := 130) (lv' := [(5, (0, (((16 + (8 * c)) : Nat) : Int))), (0, (2, ((193 : Nat) : Int))), (1, (0, (w))), (2, (0, (st))), (3, (0, (sp))), (4, (0, (k)))]) (st' := [(0, ((10 : Nat) : Int)), (0, (w)), (0, ((((16 + (8 * c)) + 1) : Nat) : Int)), (2, ((194 : Nat) : Int))]) (h' := (hup h 194 (((16 + (8 * c)) + 0)) ((w) / 100))) (o192_73 hB) rfl ?_
                            refine w_idiv (z := ((w) / 10)) (pc' := 131) (o192_74 hB) rfl (divI_p (by omega) (by omega) (by decide)) ?_
                            refine w_pl (pc' := 133) (lv' := [(5, (0, (((16 + (8 * c)) : Nat) : Int))), (0, (2, ((193 : Nat) : Int))), (1, (0, (w))), (2, (0, (st))), (3, (0, (sp))), (4, (0, (k)))]) (st' := [(0, ((10 : Nat) : Int)), (0, ((w) / 10)), (0, ((((16 + (8 * c)) + 1) : Nat) : Int)), (2, ((194 : Nat) : Int))]) (h' := (hup h 194 (((16 + (8 * c)) + 0)) ((w) / 100))) (o192_75 hB) rfl ?_
                            refine w_irem (z := (((w) / 10) % 10)) (pc' := 134) (o192_76 hB) rfl (remI_p (by omega) (by decide)) ?_
                            refine w_iast (A := 194) (i := ((16 + (8 * c)) + 1)) (n := 1984) (pc' := 135) (o192_77 hB) rfl (by decide +kernel) (by omega) ?_
                            refine w_pl (pc' := 136) (lv' := [(5, (0, (((16 + (8 * c)) : Nat) : Int))), (0, (2, ((193 : Nat) : Int))), (1, (0, (w))), (2, (0, (st))), (3, (0, (sp))), (4, (0, (k)))]) (st' := [(2, ((193 : Nat) : Int))]) (h' := (hup (hup h 194 (((16 + (8 * c)) + 0)) ((w) / 100)) 194 (((16 + (8 * c)) + 1)) (((w) / 10) % 10))) (o192_78 hB) rfl ?_
                            refine w_getf (A := 193) (t := 2) (z := ((194 : Nat) : Int)) (pc' := 139) (o192_79 hB) rfl (by decide +kernel) ((hup_ne (by decide)).trans ((hup_ne (by decide)).trans (hR (193, 0, 194) (by decide)))) ?_
                            refine w_pl (pc' := 141) (lv' := [(5, (0, (((16 + (8 * c)) : Nat) : Int))), (0, (2, ((193 : Nat) : Int))), (1, (0, (w))), (2, (0, (st))), (3, (0, (sp))), (4, (0, (k)))]) (st' := [(0, (((16 + (8 * c)) : Nat) : Int)), (2, ((194 : Nat) : Int))]) (h' := (hup (hup h 194 (((16 + (8 * c)) + 0)) ((w) / 100)) 194 (((16 + (8 * c)) + 1)) (((w) / 10) % 10))) (o192_80 hB) rfl ?_
                            refine w_pl (pc' := 142) (lv' := [(5, (0, (((16 + (8 * c)) : Nat) : Int))), (0, (2, ((193 : Nat) : Int))), (1, (0, (w))), (2, (0, (st))), (3, (0, (sp))), (4, (0, (k)))]) (st' := [(0, ((2 : Nat) : Int)), (0, (((16 + (8 * c)) : Nat) : Int)), (2, ((194 : Nat) : Int))]) (h' := (hup (hup h 194 (((16 + (8 * c)) + 0)) ((w) / 100)) 194 (((16 + (8 * c)) + 1)) (((w) / 10) % 10))) (o192_81 hB) rfl ?_
                            refine w_iadd (z := ((((16 + (8 * c)) + 2) : Nat) : Int)) (pc' := 143) (o192_82 hB) rfl (w32_e (by omega) (by omega)) ?_
                            refine w_pl (pc' := 144) (lv' := [(5, (0, (((16 + (8 * c)) : Nat) : Int))), (0, (2, ((193 : Nat) : Int))), (1, (0, (w))), (2, (0, (st))), (3, (0, (sp))), (4, (0, (k)))]) (st' := [(0, (w)), (0, ((((16 + (8 * c)) + 2) : Nat) : Int)), (2, ((194 : Nat) : Int))]) (h' := (hup (hup h 194 (((16 + (8 * c)) + 0)) ((w) / 100)) 194 (((16 + (8 * c)) + 1)) (((w) / 10) % 10))) (o192_83 hB) rfl ?_
                            refine w_pl (pc' := 146) (lv' := [(5, (0, (((16 + (8 * c)) : Nat) : Int))), (0, (2, ((193 : Nat) : Int))), (1, (0, (w))), (2, (0, (st))), (3, (0, (sp))), (4, (0, (k)))]) (st' := [(0, ((10 : Nat) : Int)), (0, (w)), (0, ((((16 + (8 * c)) + 2) : Nat) : Int)), (2, ((194 : Nat) : Int))]) (h' := (hup (hup h 194 (((16 + (8 * c)) + 0)) ((w) / 100)) 194 (((16 + (8 * c)) + 1)) (((w) / 10) % 10))) (o192_84 hB) rfl ?_
                            refine w_irem (z := ((w) % 10)) (pc' := 147) (o192_85 hB) rfl (remI_p (by omega) (by decide)) ?_
                            refine w_iast (A := 194) (i := ((16 + (8 * c)) + 2)) (n := 1984) (pc' := 148) (o192_86 hB) rfl (by decide +kernel) (by omega) ?_
                            refine w_pl (pc' := 149) (lv' := [(5, (0, (((16 + (8 * c)) : Nat) : Int))), (0, (2, ((193 : Nat) : Int))), (1, (0, (w))), (2, (0, (st))), (3, (0, (sp))), (4, (0, (k)))]) (st' := [(2, ((193 : Nat) : Int))]) (h' := (hup (hup (hup h 194 (((16 + (8 * c)) + 0)) ((w) / 100)) 194 (((16 + (8 * c)) + 1)) (((w) / 10) % 10)) 194 (((16 + (8 * c)) + 2)) ((w) % 10))) (o192_87 hB) rfl ?_
                            refine w_getf (A := 193) (t := 2) (z := ((194 : Nat) : Int)) (pc' := 152) (o192_88 hB) rfl (by decide +kernel) ((hup_ne (by decide)).trans ((hup_ne (by decide)).trans ((hup_ne (by decide)).trans (hR (193, 0, 194) (by decide))))) ?_
                            refine w_pl (pc' := 154) (lv' := [(5, (0, (((16 + (8 * c)) : Nat) : Int))), (0, (2, ((193 : Nat) : Int))), (1, (0, (w))), (2, (0, (st))), (3, (0, (sp))), (4, (0, (k)))]) (st' := [(0, (((16 + (8 * c)) : Nat) : Int)), (2, ((194 : Nat) : Int))]) (h' := (hup (hup (hup h 194 (((16 + (8 * c)) + 0)) ((w) / 100)) 194 (((16 + (8 * c)) + 1)) (((w) / 10) % 10)) 194 (((16 + (8 * c)) + 2)) ((w) % 10))) (o192_89 hB) rfl ?_
                            refine w_pl (pc' := 155) (lv' := [(5, (0, (((16 + (8 * c)) : Nat) : Int))), (0, (2, ((193 : Nat) : Int))), (1, (0, (w))), (2, (0, (st))), (3, (0, (sp))), (4, (0, (k)))]) (st' := [(0, ((3 : Nat) : Int)), (0, (((16 + (8 * c)) : Nat) : Int)), (2, ((194 : Nat) : Int))]) (h' := (hup (hup (hup h 194 (((16 + (8 * c)) + 0)) ((w) / 100)) 194 (((16 + (8 * c)) + 1)) (((w) / 10) % 10)) 194 (((16 + (8 * c)) + 2)) ((w) % 10))) (o192_90 hB) rfl ?_
                            refine w_iadd (z := ((((16 + (8 * c)) + 3) : Nat) : Int)) (pc' := 156) (o192_91 hB) rfl (w32_e (by omega) (by omega)) ?_
                            refine w_pl (pc' := 157) (lv' := [(5, (0, (((16 + (8 * c)) : Nat) : Int))), (0, (2, ((193 : Nat) : Int))), (1, (0, (w))), (2, (0, (st))), (3, (0, (sp))), (4, (0, (k)))]) (st' := [(0, (st)), (0, ((((16 + (8 * c)) + 3) : Nat) : Int)), (2, ((194 : Nat) : Int))]) (h' := (hup (hup (hup h 194 (((16 + (8 * c)) + 0)) ((w) / 100)) 194 (((16 + (8 * c)) + 1)) (((w) / 10) % 10)) 194 (((16 + (8 * c)) + 2)) ((w) % 10))) (o192_92 hB) rfl ?_
                            refine w_iast (A := 194) (i := ((16 + (8 * c)) + 3)) (n := 1984) (pc' := 158) (o192_93 hB) rfl (by decide +kernel) (by omega) ?_
                            refine w_pl (pc' := 159) (lv' := [(5, (0, (((16 + (8 * c)) : Nat) : Int))), (0, (2, ((193 : Nat) : Int))), (1, (0, (w))), (2, (0, (st))), (3, (0, (sp))), (4, (0, (k)))]) (st' := [(2, ((193 : Nat) : Int))]) (h' := (hup (hup (hup (hup h 194 (((16 + (8 * c)) + 0)) ((w) / 100)) 194 (((16 + (8 * c)) + 1)) (((w) / 10) % 10)) 194 (((16 + (8 * c)) + 2)) ((w) % 10)) 194 (((16 + (8 * c)) + 3)) (st))) (o192_94 hB) rfl ?_
                            refine w_getf (A := 193) (t := 2) (z := ((194 : Nat) : Int)) (pc' := 162) (o192_95 hB) rfl (by decide +kernel) ((hup_ne (by decide)).trans ((hup_ne (by decide)).trans ((hup_ne (by decide)).trans ((hup_ne (by decide)).trans (hR (193, 0, 194) (by decide)))))) ?_
                            refine w_pl (pc' := 164) (lv' := [(5, (0, (((16 + (8 * c)) : Nat) : Int))), (0, (2, ((193 : Nat) : Int))), (1, (0, (w))), (2, (0, (st))), (3, (0, (sp))), (4, (0, (k)))]) (st' := [(0, (((16 + (8 * c)) : Nat) : Int)), (2, ((194 : Nat) : Int))]) (h' := (hup (hup (hup (hup h 194 (((16 + (8 * c)) + 0)) ((w) / 100)) 194 (((16 + (8 * c)) + 1)) (((w) / 10) % 10)) 194 (((16 + (8 * c)) + 2)) ((w) % 10)) 194 (((16 + (8 * c)) + 3)) (st))) (o192_96 hB) rfl ?_
                            refine w_pl (pc' := 165) (lv' := [(5, (0, (((16 + (8 * c)) : Nat) : Int))), (0, (2, ((193 : Nat) : Int))), (1, (0, (w))), (2, (0, (st))), (3, (0, (sp))), (4, (0, (k)))]) (st' := [(0, ((4 : Nat) : Int)), (0, (((16 + (8 * c)) : Nat) : Int)), (2, ((194 : Nat) : Int))]) (h' := (hup (hup (hup (hup h 194 (((16 + (8 * c)) + 0)) ((w) / 100)) 194 (((16 + (8 * c)) + 1)) (((w) / 10) % 10)) 194 (((16 + (8 * c)) + 2)) ((w) % 10)) 194 (((16 + (8 * c)) + 3)) (st))) (o192_97 hB) rfl ?_
                            refine w_iadd (z := ((((16 + (8 * c)) + 4) : Nat) : Int)) (pc' := 166) (o192_98 hB) rfl (w32_e (by omega) (by omega)) ?_
                            refine w_pl (pc' := 167) (lv' := [(5, (0, (((16 + (8 * c)) : Nat) : Int))), (0, (2, ((193 : Nat) : Int))), (1, (0, (w))), (2, (0, (st))), (3, (0, (sp))), (4, (0, (k)))]) (st' := [(0, (sp)), (0, ((((16 + (8 * c)) + 4) : Nat) : Int)), (2, ((194 : Nat) : Int))]) (h' := (hup (hup (hup (hup h 194 (((16 + (8 * c)) + 0)) ((w) / 100)) 194 (((16 + (8 * c)) + 1)) (((w) / 10) % 10)) 194 (((16 + (8 * c)) + 2)) ((w) % 10)) 194 (((16 + (8 * c)) + 3)) (st))) (o192_99 hB) rfl ?_
                            refine w_pl (pc' := 170) (lv' := [(5, (0, (((16 + (8 * c)) : Nat) : Int))), (0, (2, ((193 : Nat) : Int))), (1, (0, (w))), (2, (0, (st))), (3, (0, (sp))), (4, (0, (k)))]) (st' := [(0, ((1000 : Nat) : Int)), (0, (sp)), (0, ((((16 + (8 * c)) + 4) : Nat) : Int)), (2, ((194 : Nat) : Int))]) (h' := (hup (hup (hup (hup h 194 (((16 + (8 * c)) + 0)) ((w) / 100)) 194 (((16 + (8 * c)) + 1)) (((w) / 10) % 10)) 194 (((16 + (8 * c)) + 2)) ((w) % 10)) 194 (((16 + (8 * c)) + 3)) (st))) (o192_100 hB) rfl ?_
                            refine w_idiv (z := ((sp) / 1000)) (pc' := 171) (o192_101 hB) rfl (divI_p (by omega) (by omega) (by decide)) ?_
                            refine w_iast (A := 194) (i := ((16 + (8 * c)) + 4)) (n := 1984) (pc' := 172) (o192_102 hB) rfl (by decide +kernel) (by omega) ?_
                            refine w_pl (pc' := 173) (lv' := [(5, (0, (((16 + (8 * c)) : Nat) : Int))), (0, (2, ((193 : Nat) : Int))), (1, (0, (w))), (2, (0, (st))), (3, (0, (sp))), (4, (0, (k)))]) (st' := [(2, ((193 : Nat) : Int))]) (h' := (hup (hup (hup (hup (hup h 194 (((16 + (8 * c)) + 0)) ((w) / 100)) 194 (((16 + (8 * c)) + 1)) (((w) / 10) % 10)) 194 (((16 + (8 * c)) + 2)) ((w) % 10)) 194 (((16 + (8 * c)) + 3)) (st)) 194 (((16 + (8 * c)) + 4)) ((sp) / 1000))) (o192_103 hB) rfl ?_
                            refine w_getf (A := 193) (t := 2) (z := ((194 : Nat) : Int)) (pc' := 176) (o192_104 hB) rfl (by decide +kernel) ((hup_ne (by decide)).trans ((hup_ne (by decide)).trans ((hup_ne (by decide)).trans ((hup_ne (by decide)).trans ((hup_ne (by decide)).trans (hR (193, 0, 194) (by decide))))))) ?_
                            refine w_pl (pc' := 178) (lv' := [(5, (0, (((16 + (8 * c)) : Nat) : Int))), (0, (2, ((193 : Nat) : Int))), (1, (0, (w))), (2, (0, (st))), (3, (0, (sp))), (4, (0, (k)))]) (st' := [(0, (((16 + (8 * c)) : Nat) : Int)), (2, ((194 : Nat) : Int))]) (h' := (hup (hup (hup (hup (hup h 194 (((16 + (8 * c)) + 0)) ((w) / 100)) 194 (((16 + (8 * c)) + 1)) (((w) / 10) % 10)) 194 (((16 + (8 * c)) + 2)) ((w) % 10)) 194 (((16 + (8 * c)) + 3)) (st)) 194 (((16 + (8 * c)) + 4)) ((sp) / 1000))) (o192_105 hB) rfl ?_
                            refine w_pl (pc' := 179) (lv' := [(5, (0, (((16 + (8 * c)) : Nat) : Int))), (0, (2, ((193 : Nat) : Int))), (1, (0, (w))), (2, (0, (st))), (3, (0, (sp))), (4, (0, (k)))]) (st' := [(0, ((5 : Nat) : Int)), (0, (((16 + (8 * c)) : Nat) : Int)), (2, ((194 : Nat) : Int))]) (h' := (hup (hup (hup (hup (hup h 194 (((16 + (8 * c)) + 0)) ((w) / 100)) 194 (((16 + (8 * c)) + 1)) (((w) / 10) % 10)) 194 (((16 + (8 * c)) + 2)) ((w) % 10)) 194 (((16 + (8 * c)) + 3)) (st)) 194 (((16 + (8 * c)) + 4)) ((sp) / 1000))) (o192_106 hB) rfl ?_
                            refine w_iadd (z := ((((16 + (8 * c)) + 5) : Nat) : Int)) (pc' := 180) (o192_107 hB) rfl (w32_e (by omega) (by omega)) ?_
                            refine w_pl (pc' := 181) (lv' := [(5, (0, (((16 + (8 * c)) : Nat) : Int))), (0, (2, ((193 : Nat) : Int))), (1, (0, (w))), (2, (0, (st))), (3, (0, (sp))), (4, (0, (k)))]) (st' := [(0, (sp)), (0, ((((16 + (8 * c)) + 5) : Nat) : Int)), (2, ((194 : Nat) : Int))]) (h' := (hup (hup (hup (hup (hup h 194 (((16 + (8 * c)) + 0)) ((w) / 100)) 194 (((16 + (8 * c)) + 1)) (((w) / 10) % 10)) 194 (((16 + (8 * c)) + 2)) ((w) % 10)) 194 (((16 + (8 * c)) + 3)) (st)) 194 (((16 + (8 * c)) + 4)) ((sp) / 1000))) (o192_108 hB) rfl ?_
                            refine w_pl (pc' := 184) (lv' := [(5, (0, (((16 + (8 * c)) : Nat) : Int))), (0, (2, ((193 : Nat) : Int))), (1, (0, (w))), (2, (0, (st))), (3, (0, (sp))), (4, (0, (k)))]) (st' := [(0, ((1000 : Nat) : Int)), (0, (sp)), (0, ((((16 + (8 * c)) + 5) : Nat) : Int)), (2, ((194 : Nat) : Int))]) (h' := (hup (hup (hup (hup (hup h 194 (((16 + (8 * c)) + 0)) ((w) / 100)) 194 (((16 + (8 * c)) + 1)) (((w) / 10) % 10)) 194 (((16 + (8 * c)) + 2)) ((w) % 10)) 194 (((16 + (8 * c)) + 3)) (st)) 194 (((16 + (8 * c)) + 4)) ((sp) / 1000))) (o192_109 hB) rfl ?_
                            refine w_irem (z := ((sp) % 1000)) (pc' := 185) (o192_110 hB) rfl (remI_p (by omega) (by decide)) ?_
                            refine w_iast (A := 194) (i := ((16 + (8 * c)) + 5)) (n := 1984) (pc' := 186) (o192_111 hB) rfl (by decide +kernel) (by omega) ?_
                            refine w_pl (pc' := 187) (lv' := [(5, (0, (((16 + (8 * c)) : Nat) : Int))), (0, (2, ((193 : Nat) : Int))), (1, (0, (w))), (2, (0, (st))), (3, (0, (sp))), (4, (0, (k)))]) (st' := [(2, ((193 : Nat) : Int))]) (h' := (hup (hup (hup (hup (hup (hup h 194 (((16 + (8 * c)) + 0)) ((w) / 100)) 194 (((16 + (8 * c)) + 1)) (((w) / 10) % 10)) 194 (((16 + (8 * c)) + 2)) ((w) % 10)) 194 (((16 + (8 * c)) + 3)) (st)) 194 (((16 + (8 * c)) + 4)) ((sp) / 1000)) 194 (((16 + (8 * c)) + 5)) ((sp) % 1000))) (o192_112 hB) rfl ?_
                            refine w_getf (A := 193) (t := 2) (z := ((194 : Nat) : Int)) (pc' := 190) (o192_113 hB) rfl (by decide +kernel) ((hup_ne (by decide)).trans ((hup_ne (by decide)).trans ((hup_ne (by decide)).trans ((hup_ne (by decide)).trans ((hup_ne (by decide)).trans ((hup_ne (by decide)).trans (hR (193, 0, 194) (by decide)))))))) ?_
                            refine w_pl (pc' := 192) (lv' := [(5, (0, (((16 + (8 * c)) : Nat) : Int))), (0, (2, ((193 : Nat) : Int))), (1, (0, (w))), (2, (0, (st))), (3, (0, (sp))), (4, (0, (k)))]) (st' := [(0, (((16 + (8 * c)) : Nat) : Int)), (2, ((194 : Nat) : Int))]) (h' := (hup (hup (hup (hup (hup (hup h 194 (((16 + (8 * c)) + 0)) ((w) / 100)) 194 (((16 + (8 * c)) + 1)) (((w) / 10) % 10)) 194 (((16 + (8 * c)) + 2)) ((w) % 10)) 194 (((16 + (8 * c)) + 3)) (st)) 194 (((16 + (8 * c)) + 4)) ((sp) / 1000)) 194 (((16 + (8 * c)) + 5)) ((sp) % 1000))) (o192_114 hB) rfl ?_
                            refine w_pl (pc' := 194) (lv' := [(5, (0, (((16 + (8 * c)) : Nat) : Int))), (0, (2, ((193 : Nat) : Int))), (1, (0, (w))), (2, (0, (st))), (3, (0, (sp))), (4, (0, (k)))]) (st' := [(0, ((6 : Nat) : Int)), (0, (((16 + (8 * c)) : Nat) : Int)), (2, ((194 : Nat) : Int))]) (h' := (hup (hup (hup (hup (hup (hup h 194 (((16 + (8 * c)) + 0)) ((w) / 100)) 194 (((16 + (8 * c)) + 1)) (((w) / 10) % 10)) 194 (((16 + (8 * c)) + 2)) ((w) % 10)) 194 (((16 + (8 * c)) + 3)) (st)) 194 (((16 + (8 * c)) + 4)) ((sp) / 1000)) 194 (((16 + (8 * c)) + 5)) ((sp) % 1000))) (o192_115 hB) rfl ?_
                            refine w_iadd (z := ((((16 + (8 * c)) + 6) : Nat) : Int)) (pc' := 195) (o192_116 hB) rfl (w32_e (by omega) (by omega)) ?_
                            refine w_pl (pc' := 197) (lv' := [(5, (0, (((16 + (8 * c)) : Nat) : Int))), (0, (2, ((193 : Nat) : Int))), (1, (0, (w))), (2, (0, (st))), (3, (0, (sp))), (4, (0, (k)))]) (st' := [(0, (k)), (0, ((((16 + (8 * c)) + 6) : Nat) : Int)), (2, ((194 : Nat) : Int))]) (h' := (hup (hup (hup (hup (hup (hup h 194 (((16 + (8 * c)) + 0)) ((w) / 100)) 194 (((16 + (8 * c)) + 1)) (((w) / 10) % 10)) 194 (((16 + (8 * c)) + 2)) ((w) % 10)) 194 (((16 + (8 * c)) + 3)) (st)) 194 (((16 + (8 * c)) + 4)) ((sp) / 1000)) 194 (((16 + (8 * c)) + 5)) ((sp) % 1000))) (o192_117 hB) rfl ?_
                            refine w_iast (A := 194) (i := ((16 + (8 * c)) + 6)) (n := 1984) (pc' := 198) (o192_118 hB) rfl (by decide +kernel) (by omega) ?_
                            refine w_pl (pc' := 199) (lv' := [(5, (0, (((16 + (8 * c)) : Nat) : Int))), (0, (2, ((193 : Nat) : Int))), (1, (0, (w))), (2, (0, (st))), (3, (0, (sp))), (4, (0, (k)))]) (st' := [(2, ((193 : Nat) : Int))]) (h' := (hup (hup (hup (hup (hup (hup (hup h 194 (((16 + (8 * c)) + 0)) ((w) / 100)) 194 (((16 + (8 * c)) + 1)) (((w) / 10) % 10)) 194 (((16 + (8 * c)) + 2)) ((w) % 10)) 194 (((16 + (8 * c)) + 3)) (st)) 194 (((16 + (8 * c)) + 4)) ((sp) / 1000)) 194 (((16 + (8 * c)) + 5)) ((sp) % 1000)) 194 (((16 + (8 * c)) + 6)) (k))) (o192_119 hB) rfl ?_
                            refine w_getf (A := 193) (t := 2) (z := ((194 : Nat) : Int)) (pc' := 202) (o192_120 hB) rfl (by decide +kernel) ((hup_ne (by decide)).trans ((hup_ne (by decide)).trans ((hup_ne (by decide)).trans ((hup_ne (by decide)).trans ((hup_ne (by decide)).trans ((hup_ne (by decide)).trans ((hup_ne (by decide)).trans (hR (193, 0, 194) (by decide))))))))) ?_
                            refine w_pl (pc' := 204) (lv' := [(5, (0, (((16 + (8 * c)) : Nat) : Int))), (0, (2, ((193 : Nat) : Int))), (1, (0, (w))), (2, (0, (st))), (3, (0, (sp))), (4, (0, (k)))]) (st' := [(0, (((16 + (8 * c)) : Nat) : Int)), (2, ((194 : Nat) : Int))]) (h' := (hup (hup (hup (hup (hup (hup (hup h 194 (((16 + (8 * c)) + 0)) ((w) / 100)) 194 (((16 + (8 * c)) + 1)) (((w) / 10) % 10)) 194 (((16 + (8 * c)) + 2)) ((w) % 10)) 194 (((16 + (8 * c)) + 3)) (st)) 194 (((16 + (8 * c)) + 4)) ((sp) / 1000)) 194 (((16 + (8 * c)) + 5)) ((sp) % 1000)) 194 (((16 + (8 * c)) + 6)) (k))) (o192_121 hB) rfl ?_
                            refine w_pl (pc' := 206) (lv' := [(5, (0, (((16 + (8 * c)) : Nat) : Int))), (0, (2, ((193 : Nat) : Int))), (1, (0, (w))), (2, (0, (st))), (3, (0, (sp))), (4, (0, (k)))]) (st' := [(0, ((7 : Nat) : Int)), (0, (((16 + (8 * c)) : Nat) : Int)), (2, ((194 : Nat) : Int))]) (h' := (hup (hup (hup (hup (hup (hup (hup h 194 (((16 + (8 * c)) + 0)) ((w) / 100)) 194 (((16 + (8 * c)) + 1)) (((w) / 10) % 10)) 194 (((16 + (8 * c)) + 2)) ((w) % 10)) 194 (((16 + (8 * c)) + 3)) (st)) 194 (((16 + (8 * c)) + 4)) ((sp) / 1000)) 194 (((16 + (8 * c)) + 5)) ((sp) % 1000)) 194 (((16 + (8 * c)) + 6)) (k))) (o192_122 hB) rfl ?_
                            refine w_iadd (z := ((((16 + (8 * c)) + 7) : Nat) : Int)) (pc' := 207) (o192_123 hB) rfl (w32_e (by omega) (by omega)) ?_
                            refine w_pl (pc' := 208) (lv' := [(5, (0, (((16 + (8 * c)) : Nat) : Int))), (0, (2, ((193 : Nat) : Int))), (1, (0, (w))), (2, (0, (st))), (3, (0, (sp))), (4, (0, (k)))]) (st' := [(0, ((0 : Nat) : Int)), (0, ((((16 + (8 * c)) + 7) : Nat) : Int)), (2, ((194 : Nat) : Int))]) (h' := (hup (hup (hup (hup (hup (hup (hup h 194 (((16 + (8 * c)) + 0)) ((w) / 100)) 194 (((16 + (8 * c)) + 1)) (((w) / 10) % 10)) 194 (((16 + (8 * c)) + 2)) ((w) % 10)) 194 (((16 + (8 * c)) + 3)) (st)) 194 (((16 + (8 * c)) + 4)) ((sp) / 1000)) 194 (((16 + (8 * c)) + 5)) ((sp) % 1000)) 194 (((16 + (8 * c)) + 6)) (k))) (o192_124 hB) rfl ?_
                            refine w_iast (A := 194) (i := ((16 + (8 * c)) + 7)) (n := 1984) (pc' := 209) (o192_125 hB) rfl (by decide +kernel) (by omega) ?_
                            refine w_pl (pc' := 210) (lv' := [(5, (0, (((16 + (8 * c)) : Nat) : Int))), (0, (2, ((193 : Nat) : Int))), (1, (0, (w))), (2, (0, (st))), (3, (0, (sp))), (4, (0, (k)))]) (st' := [(2, ((193 : Nat) : Int))]) (h' := (hup (hup (hup (hup (hup (hup (hup (hup h 194 (((16 + (8 * c)) + 0)) ((w) / 100)) 194 (((16 + (8 * c)) + 1)) (((w) / 10) % 10)) 194 (((16 + (8 * c)) + 2)) ((w) % 10)) 194 (((16 + (8 * c)) + 3)) (st)) 194 (((16 + (8 * c)) + 4)) ((sp) / 1000)) 194 (((16 + (8 * c)) + 5)) ((sp) % 1000)) 194 (((16 + (8 * c)) + 6)) (k)) 194 (((16 + (8 * c)) + 7)) ((0 : Nat) : Int))) (o192_126 hB) rfl ?_
                            refine w_getf (A := 193) (t := 2) (z := ((194 : Nat) : Int)) (pc' := 213) (o192_127 hB) rfl (by decide +kernel) ((hup_ne (by decide)).trans ((hup_ne (by decide)).trans ((hup_ne (by decide)).trans ((hup_ne (by decide)).trans ((hup_ne (by decide)).trans ((hup_ne (by decide)).trans ((hup_ne (by decide)).trans ((hup_ne (by decide)).trans (hR (193, 0, 194) (by decide)))))))))) ?_
                            refine w_pl (pc' := 214) (lv' := [(5, (0, (((16 + (8 * c)) : Nat) : Int))), (0, (2, ((193 : Nat) : Int))), (1, (0, (w))), (2, (0, (st))), (3, (0, (sp))), (4, (0, (k)))]) (st' := [(0, ((1 : Nat) : Int)), (2, ((194 : Nat) : Int))]) (h' := (hup (hup (hup (hup (hup (hup (hup (hup h 194 (((16 + (8 * c)) + 0)) ((w) / 100)) 194 (((16 + (8 * c)) + 1)) (((w) / 10) % 10)) 194 (((16 + (8 * c)) + 2)) ((w) % 10)) 194 (((16 + (8 * c)) + 3)) (st)) 194 (((16 + (8 * c)) + 4)) ((sp) / 1000)) 194 (((16 + (8 * c)) + 5)) ((sp) % 1000)) 194 (((16 + (8 * c)) + 6)) (k)) 194 (((16 + (8 * c)) + 7)) ((0 : Nat) : Int))) (o192_128 hB) rfl ?_
                            refine w_pl (pc' := 215) (lv' := [(5, (0, (((16 + (8 * c)) : Nat) : Int))), (0, (2, ((193 : Nat) : Int))), (1, (0, (w))), (2, (0, (st))), (3, (0, (sp))), (4, (0, (k)))]) (st' := [(0, ((1 : Nat) : Int)), (2, ((194 : Nat) : Int)), (0, ((1 : Nat) : Int)), (2, ((194 : Nat) : Int))]) (h' := (hup (hup (hup (hup (hup (hup (hup (hup h 194 (((16 + (8 * c)) + 0)) ((w) / 100)) 194 (((16 + (8 * c)) + 1)) (((w) / 10) % 10)) 194 (((16 + (8 * c)) + 2)) ((w) % 10)) 194 (((16 + (8 * c)) + 3)) (st)) 194 (((16 + (8 * c)) + 4)) ((sp) / 1000)) 194 (((16 + (8 * c)) + 5)) ((sp) % 1000)) 194 (((16 + (8 * c)) + 6)) (k)) 194 (((16 + (8 * c)) + 7)) ((0 : Nat) : Int))) (o192_129 hB) rfl ?_
                            refine w_iald (A := 194) (i := 1) (n := 1984) (z := ((c : Nat) : Int)) (pc' := 216) (o192_130 hB) rfl (by decide +kernel) (by omega) ((hup_nj (by omega)).trans ((hup_nj (by omega)).trans ((hup_nj (by omega)).trans ((hup_nj (by omega)).trans ((hup_nj (by omega)).trans ((hup_nj (by omega)).trans ((hup_nj (by omega)).trans ((hup_nj (by omega)).trans hc)))))))) ?_
                            refine w_pl (pc' := 217) (lv' := [(5, (0, (((16 + (8 * c)) : Nat) : Int))), (0, (2, ((193 : Nat) : Int))), (1, (0, (w))), (2, (0, (st))), (3, (0, (sp))), (4, (0, (k)))]) (st' := [(0, ((1 : Nat) : Int)), (0, ((c : Nat) : Int)), (0, ((1 : Nat) : Int)), (2, ((194 : Nat) : Int))]) (h' := (hup (hup (hup (hup (hup (hup (hup (hup h 194 (((16 + (8 * c)) + 0)) ((w) / 100)) 194 (((16 + (8 * c)) + 1)) (((w) / 10) % 10)) 194 (((16 + (8 * c)) + 2)) ((w) % 10)) 194 (((16 + (8 * c)) + 3)) (st)) 194 (((16 + (8 * c)) + 4)) ((sp) / 1000)) 194 (((16 + (8 * c)) + 5)) ((sp) % 1000)) 194 (((16 + (8 * c)) + 6)) (k)) 194 (((16 + (8 * c)) + 7)) ((0 : Nat) : Int))) (o192_131 hB) rfl ?_
                            refine w_iadd (z := (((c + 1) : Nat) : Int)) (pc' := 218) (o192_132 hB) rfl (w32_e (by omega) (by omega)) ?_
                            refine w_iast (A := 194) (i := 1) (n := 1984) (pc' := 219) (o192_133 hB) rfl (by decide +kernel) (by omega) ?_
                            refine w_pl (pc' := 220) (lv' := [(5, (0, (((16 + (8 * c)) : Nat) : Int))), (0, (2, ((193 : Nat) : Int))), (1, (0, (w))), (2, (0, (st))), (3, (0, (sp))), (4, (0, (k)))]) (st' := [(2, ((193 : Nat) : Int))]) (h' := (hup (hup (hup (hup (hup (hup (hup (hup (hup h 194 (((16 + (8 * c)) + 0)) ((w) / 100)) 194 (((16 + (8 * c)) + 1)) (((w) / 10) % 10)) 194 (((16 + (8 * c)) + 2)) ((w) % 10)) 194 (((16 + (8 * c)) + 3)) (st)) 194 (((16 + (8 * c)) + 4)) ((sp) / 1000)) 194 (((16 + (8 * c)) + 5)) ((sp) % 1000)) 194 (((16 + (8 * c)) + 6)) (k)) 194 (((16 + (8 * c)) + 7)) ((0 : Nat) : Int)) 194 (1) (((c + 1) : Nat) : Int))) (o192_134 hB) rfl ?_
                            refine w_getf (A := 193) (t := 2) (z := ((194 : Nat) : Int)) (pc' := 223) (o192_135 hB) rfl (by decide +kernel) ((hup_ne (by decide)).trans ((hup_ne (by decide)).trans ((hup_ne (by decide)).trans ((hup_ne (by decide)).trans ((hup_ne (by decide)).trans ((hup_ne (by decide)).trans ((hup_ne (by decide)).trans ((hup_ne (by decide)).trans ((hup_ne (by decide)).trans (hR (193, 0, 194) (by decide))))))))))) ?_
                            refine w_pl (pc' := 224) (lv' := [(5, (0, (((16 + (8 * c)) : Nat) : Int))), (0, (2, ((193 : Nat) : Int))), (1, (0, (w))), (2, (0, (st))), (3, (0, (sp))), (4, (0, (k)))]) (st' := [(0, ((1 : Nat) : Int)), (2, ((194 : Nat) : Int))]) (h' := (hup (hup (hup (hup (hup (hup (hup (hup (hup h 194 (((16 + (8 * c)) + 0)) ((w) / 100)) 194 (((16 + (8 * c)) + 1)) (((w) / 10) % 10)) 194 (((16 + (8 * c)) + 2)) ((w) % 10)) 194 (((16 + (8 * c)) + 3)) (st)) 194 (((16 + (8 * c)) + 4)) ((sp) / 1000)) 194 (((16 + (8 * c)) + 5)) ((sp) % 1000)) 194 (((16 + (8 * c)) + 6)) (k)) 194 (((16 + (8 * c)) + 7)) ((0 : Nat) : Int)) 194 (1) (((c + 1) : Nat) : Int))) (o192_136 hB) rfl ?_
                            refine w_iald (A := 194) (i := 1) (n := 1984) (z := ((((c + 1) : Nat) : Int))) (pc' := 225) (o192_137 hB) rfl (by decide +kernel) (by omega) (hup_eq) ?_
                            refine w_pl (pc' := 226) (lv' := [(5, (0, (((16 + (8 * c)) : Nat) : Int))), (0, (2, ((193 : Nat) : Int))), (1, (0, (w))), (2, (0, (st))), (3, (0, (sp))), (4, (0, (k)))]) (st' := [(0, ((1 : Nat) : Int)), (0, ((((c + 1) : Nat) : Int)))]) (h' := (hup (hup (hup (hup (hup (hup (hup (hup (hup h 194 (((16 + (8 * c)) + 0)) ((w) / 100)) 194 (((16 + (8 * c)) + 1)) (((w) / 10) % 10)) 194 (((16 + (8 * c)) + 2)) ((w) % 10)) 194 (((16 + (8 * c)) + 3)) (st)) 194 (((16 + (8 * c)) + 4)) ((sp) / 1000)) 194 (((16 + (8 * c)) + 5)) ((sp) % 1000)) 194 (((16 + (8 * c)) + 6)) (k)) 194 (((16 + (8 * c)) + 7)) ((0 : Nat) : Int)) 194 (1) (((c + 1) : Nat) : Int))) (o192_138 hB) rfl ?_
                            refine w_isub (z := (((((c + 1) : Nat) : Int)) - ((1 : Nat) : Int))) (pc' := 227) (o192_139 hB) rfl (w32_e (by omega) (by omega)) ?_
                            exact w_iret (o192_140 hB) mr192 (by unfold in32; omega) (qe (a2 (by omega)) (by omega))
                          · have f546 : ¬ (((c : Nat) : Int) ≠ ((16 : Nat) : Int)) := e
                            refine w_pl (pc' := 91) (lv' := [(0, (2, ((193 : Nat) : Int))), (1, (0, (w))), (2, (0, (st))), (3, (0, (sp))), (4, (0, (k)))]) (st' := [(0, (-2))]) (h' := h) (o192_47 hB) rfl ?_
                            exact w_iret (o192_48 hB) mr192 (by unfold in32; omega) (a1 (by omega))
                        · have f547 : ¬ (((1 : Nat) : Int) ≠ (0)) := e
                          exfalso; omega
                      · show HW g l _ 192 _ _ 73 [(0, (2, ((193 : Nat) : Int))), (1, (0, (w))), (2, (0, (st))), (3, (0, (sp))), (4, (0, (k)))] [(0, ((0 : Nat) : Int))] h
                        refine w_ifc (pt := 78) (pf := 76) (o192_38 hB) (by decide) rfl (fun e => ?_) (fun e => ?_)
                        · have f548 : (((0 : Nat) : Int) ≠ (0)) := e
                          exfalso; omega
                        · have f549 : ¬ (((0 : Nat) : Int) ≠ (0)) := e
                          refine w_pl (pc' := 77) (lv' := [(0, (2, ((193 : Nat) : Int))), (1, (0, (w))), (2, (0, (st))), (3, (0, (sp))), (4, (0, (k)))]) (st' := [(0, (-1))]) (h' := h) (o192_39 hB) rfl ?_
                          exact w_iret (o192_40 hB) mr192 (by unfold in32; omega) (a0 (by omega))
                · show HW g l _ 192 _ _ 49 [(0, (2, ((193 : Nat) : Int))), (1, (0, (w))), (2, (0, (st))), (3, (0, (sp))), (4, (0, (k)))] [(0, ((0 : Nat) : Int))] h
                  refine w_ifc (pt := 76) (pf := 52) (o192_26 hB) (by decide) rfl (fun e => ?_) (fun e => ?_)
                  · have f550 : (((0 : Nat) : Int) = (0)) := e
                    refine w_pl (pc' := 77) (lv' := [(0, (2, ((193 : Nat) : Int))), (1, (0, (w))), (2, (0, (st))), (3, (0, (sp))), (4, (0, (k)))]) (st' := [(0, (-1))]) (h' := h) (o192_39 hB) rfl ?_
                    exact w_iret (o192_40 hB) mr192 (by unfold in32; omega) (a0 (by omega))
                  · have f551 : ¬ (((0 : Nat) : Int) = (0)) := e
                    exfalso; omega
          · show HW g l _ 192 _ _ 34 [(0, (2, ((193 : Nat) : Int))), (1, (0, (w))), (2, (0, (st))), (3, (0, (sp))), (4, (0, (k)))] [(0, ((0 : Nat) : Int))] h
            refine w_ifc (pt := 76) (pf := 37) (o192_19 hB) (by decide) rfl (fun e => ?_) (fun e => ?_)
            · have f552 : (((0 : Nat) : Int) = (0)) := e
              refine w_pl (pc' := 77) (lv' := [(0, (2, ((193 : Nat) : Int))), (1, (0, (w))), (2, (0, (st))), (3, (0, (sp))), (4, (0, (k)))]) (st' := [(0, (-1))]) (h' := h) (o192_39 hB) rfl ?_
              exact w_iret (o192_40 hB) mr192 (by unfold in32; omega) (a0 (by omega))
            · have f553 : ¬ (((0 : Nat) : Int) = (0)) := e
              exfalso; omega
  · show HW g l _ 192 _ _ 8 [(0, (2, ((193 : Nat) : Int))), (1, (0, (w))), (2, (0, (st))), (3, (0, (sp))), (4, (0, (k)))] [(0, ((0 : Nat) : Int))] h
    refine w_ifc (pt := 76) (pf := 11) (o192_4 hB) (by decide) rfl (fun e => ?_) (fun e => ?_)
    · have f554 : (((0 : Nat) : Int) = (0)) := e
      refine w_pl (pc' := 77) (lv' := [(0, (2, ((193 : Nat) : Int))), (1, (0, (w))), (2, (0, (st))), (3, (0, (sp))), (4, (0, (k)))]) (st' := [(0, (-1))]) (h' := h) (o192_39 hB) rfl ?_
      exact w_iret (o192_40 hB) mr192 (by unfold in32; omega) (a0 (by omega))
    · have f555 : ¬ (((0 : Nat) : Int) = (0)) := e
      exfalso; omega
def s_claimM (vs : List bV) (h : bH) (r : Option bV) (h' : bH) : Prop := TH h ∧ ∀ (w st sp k : Int) (c : Nat) , vs = [(2, ((193 : Nat) : Int)), (0, w), (0, st), (0, sp), (0, k)] → h 194 1 = (c : Int) → ((¬ ((0 ≤ w ∧ w / 100 < 8 ∧ w / 10 % 10 < 4 ∧ w % 10 ≠ 0) ∧ (1 ≤ st ∧ st ≤ 4095) ∧ (-1 ≤ k ∧ k ≤ 7) ∧ 0 ≤ sp ∧ sp / 1000 ≤ 239 ∧ sp % 1000 ≤ 239 ∧ sp / 1000 ≤ sp % 1000)) ∧ r = some (0, (-1)) ∧ h = h') ∨ ((((0 ≤ w ∧ w / 100 < 8 ∧ w / 10 % 10 < 4 ∧ w % 10 ≠ 0) ∧ (1 ≤ st ∧ st ≤ 4095) ∧ (-1 ≤ k ∧ k ≤ 7) ∧ 0 ≤ sp ∧ sp / 1000 ≤ 239 ∧ sp % 1000 ≤ 239 ∧ sp / 1000 ≤ sp % 1000) ∧ c = 16) ∧ r = some (0, (-2)) ∧ h = h') ∨ ((((0 ≤ w ∧ w / 100 < 8 ∧ w / 10 % 10 < 4 ∧ w % 10 ≠ 0) ∧ (1 ≤ st ∧ st ≤ 4095) ∧ (-1 ≤ k ∧ k ≤ 7) ∧ 0 ≤ sp ∧ sp / 1000 ≤ 239 ∧ sp % 1000 ≤ 239 ∧ sp / 1000 ≤ sp % 1000) ∧ c < 16) ∧ r = some (0, (c : Int)) ∧ h' = (hup (hup (hup (hup (hup (hup (hup (hup (hup h 194 (((16 + (8 * c)) + 0)) ((w) / 100)) 194 (((16 + (8 * c)) + 1)) (((w) / 10) % 10)) 194 (((16 + (8 * c)) + 2)) ((w) % 10)) 194 (((16 + (8 * c)) + 3)) (st)) 194 (((16 + (8 * c)) + 4)) ((sp) / 1000)) 194 (((16 + (8 * c)) + 5)) ((sp) % 1000)) 194 (((16 + (8 * c)) + 6)) (k)) 194 (((16 + (8 * c)) + 7)) ((0 : Nat) : Int)) 194 (1) (((c + 1) : Nat) : Int)))
def w_claimM : List (Nat × Nat × Nat) := [(194, 1, 2), (194, 16, 144)]
def q_claimM : aCt := cH 192 2 w_claimM 4 193
theorem sk_claimM (hB : BytesOK) (g : bG) (l : Launch) : SK g l gT q_claimM s_claimM := by
  intro d hd ρ h Q hcore hQ
  have hcore : core (PofW gT (some w_claimM) false) (gsc g) h ρ h (List.replicate 4 r32, [], [], 212) := hcore
  have ht := hTH hcore
  have y0 := r32_0 hcore 0 (by decide)
  have y1 := r32_0 hcore 1 (by decide)
  have y2 := r32_0 hcore 2 (by decide)
  have y3 := r32_0 hcore 3 (by decide)
  have y00 := y0
  unfold in32 at y00
  have y01 := y1
  unfold in32 at y01
  have y02 := y2
  unfold in32 at y02
  have y03 := y3
  unfold in32 at y03
  obtain ⟨c, hc, lc⟩ := nat_to ht (a := 194) (j := 1) (n := 16) (by decide +kernel)
  obtain ⟨d', rfl⟩ : ∃ d', d = d' + 1 + 1 := ⟨d - 2, by have : 2 ≤ d := hd; omega⟩
  rw [show evS ρ (ctA q_claimM) = [(2, ((193 : Nat) : Int)), (0, ρ 0), (0, ρ 1), (0, ρ 2), (0, ρ 3)] from evA4]
  refine m_claimM (w := ρ 0) (st := ρ 1) (sp := ρ 2) (k := ρ 3) hB ht y0 y1 y2 y3 hc lc (fun hn => ?_) (fun hn => ?_) (fun hn => ?_)
  · refine hQ _ _ (hpost hcore (ht) (fun _ _ _ => rfl) (by unfold in32; omega)) ⟨ht, fun w st sp k c_c hv e_c => ?_⟩
    have hv := (evA4 (ρ := ρ)).symm.trans hv
    obtain ⟨rfl, rfl, rfl, rfl⟩ := vsA4 hv
    obtain rfl : c_c = c := by have := e_c.symm.trans hc; omega
    exact Or.inl ⟨hn, rfl, rfl⟩
  · refine hQ _ _ (hpost hcore (ht) (fun _ _ _ => rfl) (by unfold in32; omega)) ⟨ht, fun w st sp k c_c hv e_c => ?_⟩
    have hv := (evA4 (ρ := ρ)).symm.trans hv
    obtain ⟨rfl, rfl, rfl, rfl⟩ := vsA4 hv
    obtain rfl : c_c = c := by have := e_c.symm.trans hc; omega
    exact Or.inr (Or.inl ⟨hn, rfl, rfl⟩)
  · refine hQ _ _ (hpost hcore ((((((((((ht).ups2 (a := 194) (s := 16) (st := 8) (n := 16) (lo := (0)) (hi := 7) (r := c) (by decide +kernel) (by omega) (by omega) (by omega)).ups2 (a := 194) (s := 17) (st := 8) (n := 16) (lo := (0)) (hi := 9) (r := c) (by decide +kernel) (by omega) (by omega) (by omega)).ups2 (a := 194) (s := 18) (st := 8) (n := 16) (lo := (0)) (hi := 9) (r := c) (by decide +kernel) (by omega) (by omega) (by omega)).ups2 (a := 194) (s := 19) (st := 8) (n := 16) (lo := (-2147483648)) (hi := 2147483647) (r := c) (by decide +kernel) (by omega) (by omega) (by omega)).ups2 (a := 194) (s := 20) (st := 8) (n := 16) (lo := (-2147483648)) (hi := 2147483647) (r := c) (by decide +kernel) (by omega) (by omega) (by omega)).ups2 (a := 194) (s := 21) (st := 8) (n := 16) (lo := (-2147483648)) (hi := 2147483647) (r := c) (by decide +kernel) (by omega) (by omega) (by omega)).ups2 (a := 194) (s := 22) (st := 8) (n := 16) (lo := (-2147483648)) (hi := 2147483647) (r := c) (by decide +kernel) (by omega) (by omega) (by omega)).ups2 (a := 194) (s := 23) (st := 8) (n := 16) (lo := (-2147483648)) (hi := 2147483647) (r := c) (by decide +kernel) (by omega) (by omega) (by omega)).upc (a := 194) (j := 1) (lo := (0)) (hi := 16) (by decide +kernel) (by omega)) (fr_up (fr_up (fr_up (fr_up (fr_up (fr_up (fr_up (fr_up (fr_up (fun _ _ _ => rfl) (wr_in (lo := 16) (hi := 144) (by decide) (by omega) (by omega))) (wr_in (lo := 16) (hi := 144) (by decide) (by omega) (by omega))) (wr_in (lo := 16) (hi := 144) (by decide) (by omega) (by omega))) (wr_in (lo := 16) (hi := 144) (by decide) (by omega) (by omega))) (wr_in (lo := 16) (hi := 144) (by decide) (by omega) (by omega))) (wr_in (lo := 16) (hi := 144) (by decide) (by omega) (by omega))) (wr_in (lo := 16) (hi := 144) (by decide) (by omega) (by omega))) (wr_in (lo := 16) (hi := 144) (by decide) (by omega) (by omega))) (wr_in (lo := 1) (hi := 2) (by decide) (by omega) (by omega))) (by unfold in32; omega)) ⟨ht, fun w st sp k c_c hv e_c => ?_⟩
    have hv := (evA4 (ρ := ρ)).symm.trans hv
    obtain ⟨rfl, rfl, rfl, rfl⟩ := vsA4 hv
    obtain rfl : c_c = c := by have := e_c.symm.trans hc; omega
    exact Or.inr (Or.inr (⟨hn, rfl, rfl⟩))
def psB (h : bH) (c : Nat) (w : Int) (st : Int) (sp : Int) (k : Int) : bH := (hup (hup (hup (hup (hup (hup (hup (hup h 3 (c) ((w) / 100)) 5 (c) (((w) / 10) % 10)) 8 (c) ((w) % 10)) 4 (c) (st)) 6 (c) ((sp) / 1000)) 7 (c) ((sp) % 1000)) 9 (c) (k)) 2 (1) (((c + 1) : Nat) : Int))
def psM (h : bH) (c : Nat) (w : Int) (st : Int) (sp : Int) (k : Int) : bH := (hup (hup (hup (hup (hup (hup (hup (hup (hup h 194 (((16 + (8 * c)) + 0)) ((w) / 100)) 194 (((16 + (8 * c)) + 1)) (((w) / 10) % 10)) 194 (((16 + (8 * c)) + 2)) ((w) % 10)) 194 (((16 + (8 * c)) + 3)) (st)) 194 (((16 + (8 * c)) + 4)) ((sp) / 1000)) 194 (((16 + (8 * c)) + 5)) ((sp) % 1000)) 194 (((16 + (8 * c)) + 6)) (k)) 194 (((16 + (8 * c)) + 7)) ((0 : Nat) : Int)) 194 (1) (((c + 1) : Nat) : Int))
abbrev clK (w st sp k : Int) : Prop := (0 ≤ w ∧ w / 100 < 8 ∧ w / 10 % 10 < 4 ∧ w % 10 ≠ 0) ∧ (1 ≤ st ∧ st ≤ 4095) ∧ (-1 ≤ k ∧ k ≤ 7) ∧ 0 ≤ sp ∧ sp / 1000 ≤ 239 ∧ sp % 1000 ≤ 239 ∧ sp / 1000 ≤ sp % 1000
def clB (h : bH) (w st sp k : Int) : Int × bH := if clK w st sp k then (if h 2 1 = 16 then (-2, h) else (h 2 1, psB h (h 2 1).toNat w st sp k)) else (-1, h)
theorem clB_c {h : bH} {c : Nat} {w st sp k : Int} (hc : h 2 1 = (c : Int)) : (clK w st sp k → c < 16 → clB h w st sp k = ((c : Int), psB h c w st sp k)) ∧ (clK w st sp k → c = 16 → clB h w st sp k = (-2, h)) ∧ (¬ clK w st sp k → clB h w st sp k = (-1, h)) := by
  refine ⟨fun e e2 => ?_, fun e e2 => ?_, fun e => ?_⟩
  · unfold clB
    rw [if_pos e, if_neg (by omega), hc, Int.toNat_natCast]
  · unfold clB
    rw [if_pos e, if_pos (by omega)]
  · unfold clB
    rw [if_neg e]
theorem m_clB (hB : BytesOK) {g : bG} {l : Launch} {d : Nat} {Q : bQ} {h : bH} {w st sp k : Int} (ht : TH h) (z_w : in32 w) (z_st : in32 st) (z_sp : in32 sp) (z_k : in32 k) (hq : Q (some (0, (clB h w st sp k).1)) (clB h w st sp k).2) : MH g l (d + 1) 46 212 212 [(2, ((2 : Nat) : Int)), (0, w), (0, st), (0, sp), (0, k)] h Q := by
  obtain ⟨c, hc, lc⟩ := nat_to ht (a := 2) (j := 1) (n := 16) (by decide +kernel)
  obtain ⟨e1, e2, e3⟩ := clB_c (w := w) (st := st) (sp := sp) (k := k) hc
  refine m_addClaim hB ht z_w z_st z_sp z_k hc lc (fun e => ?_) (fun e => ?_) (fun e => ?_)
  · rw [e3 e] at hq; exact hq
  · rw [e2 e.1 e.2] at hq; exact hq
  · rw [e1 e.1 e.2] at hq; exact hq
theorem clB_TH {h : bH} {w st sp k : Int} (ht : TH h) (z_st : in32 st) (z_sp : in32 sp) : TH (clB h w st sp k).2 ∧ (∀ a j, wrF (some w_claimB) a j = false → (clB h w st sp k).2 a j = h a j) ∧ -2 ≤ (clB h w st sp k).1 ∧ (clB h w st sp k).1 ≤ 16 := by
  obtain ⟨c, hc, lc⟩ := nat_to ht (a := 2) (j := 1) (n := 16) (by decide +kernel)
  obtain ⟨e1, e2, e3⟩ := clB_c (w := w) (st := st) (sp := sp) (k := k) hc
  by_cases e : clK w st sp k
  · have hn : (0 ≤ w ∧ w / 100 < 8 ∧ w / 10 % 10 < 4 ∧ w % 10 ≠ 0) ∧ (1 ≤ st ∧ st ≤ 4095) ∧ (-1 ≤ k ∧ k ≤ 7) ∧ 0 ≤ sp ∧ sp / 1000 ≤ 239 ∧ sp % 1000 ≤ 239 ∧ sp / 1000 ≤ sp % 1000 := e
    by_cases e4 : c = 16
    · rw [e2 e e4]; exact ⟨ht, fun _ _ _ => rfl, by show (-2 : Int) ≤ -2; omega, by show (-2 : Int) ≤ 16; omega⟩
    · rw [e1 e (by omega)]
      unfold psB
      exact ⟨((((((((ht).ups2 (a := 3) (s := 0) (st := 1) (n := 16) (lo := (0)) (hi := 7) (r := c) (by decide +kernel) (by omega) (by omega) (by omega)).ups2 (a := 5) (s := 0) (st := 1) (n := 16) (lo := (0)) (hi := 9) (r := c) (by decide +kernel) (by omega) (by omega) (by omega)).ups2 (a := 8) (s := 0) (st := 1) (n := 16) (lo := (0)) (hi := 9) (r := c) (by decide +kernel) (by omega) (by omega) (by omega)).ups2 (a := 4) (s := 0) (st := 1) (n := 16) (lo := (0)) (hi := 4095) (r := c) (by decide +kernel) (by omega) (by omega) (by omega)).ups2 (a := 6) (s := 0) (st := 1) (n := 16) (lo := (-2147483648)) (hi := 2147483647) (r := c) (by decide +kernel) (by omega) (by omega) (by omega)).ups2 (a := 7) (s := 0) (st := 1) (n := 16) (lo := (-1000)) (hi := 999) (r := c) (by decide +kernel) (by omega) (by omega) (by omega)).ups2 (a := 9) (s := 0) (st := 1) (n := 16) (lo := (-1)) (hi := 7) (r := c) (by decide +kernel) (by omega) (by omega) (by omega)).upc (a := 2) (j := 1) (lo := (0)) (hi := 16) (by decide +kernel) (by omega), (fr_up (fr_up (fr_up (fr_up (fr_up (fr_up (fr_up (fr_up (fun _ _ _ => rfl) (wr_in (lo := 0) (hi := 16) (by decide) (by omega) (by omega))) (wr_in (lo := 0) (hi := 16) (by decide) (by omega) (by omega))) (wr_in (lo := 0) (hi := 16) (by decide) (by omega) (by omega))) (wr_in (lo := 0) (hi := 16) (by decide) (by omega) (by omega))) (wr_in (lo := 0) (hi := 16) (by decide) (by omega) (by omega))) (wr_in (lo := 0) (hi := 16) (by decide) (by omega) (by omega))) (wr_in (lo := 0) (hi := 16) (by decide) (by omega) (by omega))) (wr_in (lo := 1) (hi := 2) (by decide) (by omega) (by omega))), by show (-2 : Int) ≤ (c : Int); omega, by show ((c : Nat) : Int) ≤ 16; omega⟩
  · rw [e3 e]; exact ⟨ht, fun _ _ _ => rfl, by show (-2 : Int) ≤ -1; omega, by show (-1 : Int) ≤ 16; omega⟩
def clM (h : bH) (w st sp k : Int) : Int × bH := if clK w st sp k then (if h 194 1 = 16 then (-2, h) else (h 194 1, psM h (h 194 1).toNat w st sp k)) else (-1, h)
theorem clM_c {h : bH} {c : Nat} {w st sp k : Int} (hc : h 194 1 = (c : Int)) : (clK w st sp k → c < 16 → clM h w st sp k = ((c : Int), psM h c w st sp k)) ∧ (clK w st sp k → c = 16 → clM h w st sp k = (-2, h)) ∧ (¬ clK w st sp k → clM h w st sp k = (-1, h)) := by
  refine ⟨fun e e2 => ?_, fun e e2 => ?_, fun e => ?_⟩
  · unfold clM
    rw [if_pos e, if_neg (by omega), hc, Int.toNat_natCast]
  · unfold clM
    rw [if_pos e, if_pos (by omega)]
  · unfold clM
    rw [if_neg e]
theorem m_clM (hB : BytesOK) {g : bG} {l : Launch} {d : Nat} {Q : bQ} {h : bH} {w st sp k : Int} (ht : TH h) (z_w : in32 w) (z_st : in32 st) (z_sp : in32 sp) (z_k : in32 k) (hq : Q (some (0, (clM h w st sp k).1)) (clM h w st sp k).2) : MH g l (d + 1 + 1) 192 212 212 [(2, ((193 : Nat) : Int)), (0, w), (0, st), (0, sp), (0, k)] h Q := by
  obtain ⟨c, hc, lc⟩ := nat_to ht (a := 194) (j := 1) (n := 16) (by decide +kernel)
  obtain ⟨e1, e2, e3⟩ := clM_c (w := w) (st := st) (sp := sp) (k := k) hc
  refine m_claimM hB ht z_w z_st z_sp z_k hc lc (fun e => ?_) (fun e => ?_) (fun e => ?_)
  · rw [e3 e] at hq; exact hq
  · rw [e2 e.1 e.2] at hq; exact hq
  · rw [e1 e.1 e.2] at hq; exact hq
theorem clM_TH {h : bH} {w st sp k : Int} (ht : TH h) (z_st : in32 st) (z_sp : in32 sp) : TH (clM h w st sp k).2 ∧ (∀ a j, wrF (some w_claimM) a j = false → (clM h w st sp k).2 a j = h a j) ∧ -2 ≤ (clM h w st sp k).1 ∧ (clM h w st sp k).1 ≤ 16 := by
  obtain ⟨c, hc, lc⟩ := nat_to ht (a := 194) (j := 1) (n := 16) (by decide +kernel)
  obtain ⟨e1, e2, e3⟩ := clM_c (w := w) (st := st) (sp := sp) (k := k) hc
  by_cases e : clK w st sp k
  · have hn : (0 ≤ w ∧ w / 100 < 8 ∧ w / 10 % 10 < 4 ∧ w % 10 ≠ 0) ∧ (1 ≤ st ∧ st ≤ 4095) ∧ (-1 ≤ k ∧ k ≤ 7) ∧ 0 ≤ sp ∧ sp / 1000 ≤ 239 ∧ sp % 1000 ≤ 239 ∧ sp / 1000 ≤ sp % 1000 := e
    by_cases e4 : c = 16
    · rw [e2 e e4]; exact ⟨ht, fun _ _ _ => rfl, by show (-2 : Int) ≤ -2; omega, by show (-2 : Int) ≤ 16; omega⟩
    · rw [e1 e (by omega)]
      unfold psM
      exact ⟨(((((((((ht).ups2 (a := 194) (s := 16) (st := 8) (n := 16) (lo := (0)) (hi := 7) (r := c) (by decide +kernel) (by omega) (by omega) (by omega)).ups2 (a := 194) (s := 17) (st := 8) (n := 16) (lo := (0)) (hi := 9) (r := c) (by decide +kernel) (by omega) (by omega) (by omega)).ups2 (a := 194) (s := 18) (st := 8) (n := 16) (lo := (0)) (hi := 9) (r := c) (by decide +kernel) (by omega) (by omega) (by omega)).ups2 (a := 194) (s := 19) (st := 8) (n := 16) (lo := (-2147483648)) (hi := 2147483647) (r := c) (by decide +kernel) (by omega) (by omega) (by omega)).ups2 (a := 194) (s := 20) (st := 8) (n := 16) (lo := (-2147483648)) (hi := 2147483647) (r := c) (by decide +kernel) (by omega) (by omega) (by omega)).ups2 (a := 194) (s := 21) (st := 8) (n := 16) (lo := (-2147483648)) (hi := 2147483647) (r := c) (by decide +kernel) (by omega) (by omega) (by omega)).ups2 (a := 194) (s := 22) (st := 8) (n := 16) (lo := (-2147483648)) (hi := 2147483647) (r := c) (by decide +kernel) (by omega) (by omega) (by omega)).ups2 (a := 194) (s := 23) (st := 8) (n := 16) (lo := (-2147483648)) (hi := 2147483647) (r := c) (by decide +kernel) (by omega) (by omega) (by omega)).upc (a := 194) (j := 1) (lo := (0)) (hi := 16) (by decide +kernel) (by omega), (fr_up (fr_up (fr_up (fr_up (fr_up (fr_up (fr_up (fr_up (fr_up (fun _ _ _ => rfl) (wr_in (lo := 16) (hi := 144) (by decide) (by omega) (by omega))) (wr_in (lo := 16) (hi := 144) (by decide) (by omega) (by omega))) (wr_in (lo := 16) (hi := 144) (by decide) (by omega) (by omega))) (wr_in (lo := 16) (hi := 144) (by decide) (by omega) (by omega))) (wr_in (lo := 16) (hi := 144) (by decide) (by omega) (by omega))) (wr_in (lo := 16) (hi := 144) (by decide) (by omega) (by omega))) (wr_in (lo := 16) (hi := 144) (by decide) (by omega) (by omega))) (wr_in (lo := 16) (hi := 144) (by decide) (by omega) (by omega))) (wr_in (lo := 1) (hi := 2) (by decide) (by omega) (by omega))), by show (-2 : Int) ≤ (c : Int); omega, by show ((c : Nat) : Int) ≤ 16; omega⟩
  · rw [e3 e]; exact ⟨ht, fun _ _ _ => rfl, by show (-2 : Int) ≤ -1; omega, by show (-1 : Int) ≤ 16; omega⟩
/-- a claim told by one number -/
def brB (h : bH) (t : Int) : Int × bH := if t < 0 then (-1, h) else clB h (t % 1000) (t / 1000 % 10000) (t / 10000000 * 1000) (-1)
def brM (h : bH) (t : Int) : Int × bH := if t < 0 then (-1, h) else clM h (t % 1000) (t / 1000 % 10000) (t / 10000000 * 1000) (-1)
/-- n claims from the b-th on -/
def comB (s : Nat) (f : Int) : Nat → Nat → Int → bH → Int × bH
  | 0, _, cm, h => (cm, h)
  | n + 1, b, cm, h => if f < 0 ∨ h 183 s - ((b : Nat) : Int) ≤ f then (-12, h) else (if (brB h (h (185 + s) (f.toNat + b))).1 = -2 then (-2, (brB h (h (185 + s) (f.toNat + b))).2) else comB s f n (b + 1) (cm + if 0 ≤ (brB h (h (185 + s) (f.toNat + b))).1 then 1 else 0) (brB h (h (185 + s) (f.toNat + b))).2)
def comM (r : Nat) (f : Int) : Nat → Nat → Int → bH → Int × bH
  | 0, _, cm, h => (cm, h)
  | n + 1, b, cm, h => if f < 0 ∨ h 207 r - ((b : Nat) : Int) ≤ f then (-12, h) else (if (brM h (h 208 (40 * r + f.toNat + b))).1 = -2 then (-2, (brM h (h 208 (40 * r + f.toNat + b))).2) else comM r f n (b + 1) (cm + if 0 ≤ (brM h (h 208 (40 * r + f.toNat + b))).1 then 1 else 0) (brM h (h 208 (40 * r + f.toNat + b))).2)
theorem br_in {t : Int} (ht : -2147483648 ≤ t ∧ t ≤ 2147483647) : ¬ t < 0 → in32 (t % 1000) ∧ in32 (t / 1000 % 10000) ∧ in32 (t / 10000000 * 1000) := fun e => by unfold in32; omega
theorem brB_TH {h : bH} {t : Int} (ht : TH h) (hr : -2147483648 ≤ t ∧ t ≤ 2147483647) : TH (brB h t).2 ∧ (∀ a j, wrF (some w_claimB) a j = false → (brB h t).2 a j = h a j) ∧ -2 ≤ (brB h t).1 ∧ (brB h t).1 ≤ 16 := by
  unfold brB
  by_cases e : t < 0
  · rw [if_pos e]; exact ⟨ht, fun _ _ _ => rfl, by show (-2 : Int) ≤ -1; omega, by show (-1 : Int) ≤ 16; omega⟩
  · rw [if_neg e]; exact clB_TH ht (br_in hr e).2.1 (br_in hr e).2.2
theorem brM_TH {h : bH} {t : Int} (ht : TH h) (hr : -2147483648 ≤ t ∧ t ≤ 2147483647) : TH (brM h t).2 ∧ (∀ a j, wrF (some w_claimM) a j = false → (brM h t).2 a j = h a j) ∧ -2 ≤ (brM h t).1 ∧ (brM h t).1 ≤ 16 := by
  unfold brM
  by_cases e : t < 0
  · rw [if_pos e]; exact ⟨ht, fun _ _ _ => rfl, by show (-2 : Int) ≤ -1; omega, by show (-1 : Int) ≤ 16; omega⟩
  · rw [if_neg e]; exact clM_TH ht (br_in hr e).2.1 (br_in hr e).2.2
theorem comB_s {s : Nat} {f : Int} {n b : Nat} {cm : Int} {h : bH} : comB s f (n + 1) b cm h = if f < 0 ∨ h 183 s - ((b : Nat) : Int) ≤ f then (-12, h) else (if (brB h (h (185 + s) (f.toNat + b))).1 = -2 then (-2, (brB h (h (185 + s) (f.toNat + b))).2) else comB s f n (b + 1) (cm + if 0 ≤ (brB h (h (185 + s) (f.toNat + b))).1 then 1 else 0) (brB h (h (185 + s) (f.toNat + b))).2) := rfl
theorem comM_s {r : Nat} {f : Int} {n b : Nat} {cm : Int} {h : bH} : comM r f (n + 1) b cm h = if f < 0 ∨ h 207 r - ((b : Nat) : Int) ≤ f then (-12, h) else (if (brM h (h 208 (40 * r + f.toNat + b))).1 = -2 then (-2, (brM h (h 208 (40 * r + f.toNat + b))).2) else comM r f n (b + 1) (cm + if 0 ≤ (brM h (h 208 (40 * r + f.toNat + b))).1 then 1 else 0) (brM h (h 208 (40 * r + f.toNat + b))).2) := rfl
theorem comB_TH {s : Nat} {f : Int} (hs : s < 4) : ∀ (n b : Nat) (cm : Int) (h : bH), TH h → 0 ≤ cm → cm ≤ (b : Int) → b + n ≤ 6 → TH (comB s f n b cm h).2 ∧ (∀ a j, wrF (some w_claimB) a j = false → (comB s f n b cm h).2 a j = h a j) ∧ -12 ≤ (comB s f n b cm h).1 ∧ (comB s f n b cm h).1 ≤ 6
  | 0, b, cm, h, ht, h1, h2, h3 => ⟨ht, fun _ _ _ => rfl, by show -12 ≤ cm; omega, by show cm ≤ 6; omega⟩
  | n + 1, b, cm, h, ht, h1, h2, h3 => by
    rw [comB_s]
    by_cases e : f < 0 ∨ h 183 s - ((b : Nat) : Int) ≤ f
    · rw [if_pos e]; exact ⟨ht, fun _ _ _ => rfl, by show (-12 : Int) ≤ -12; omega, by show (-12 : Int) ≤ 6; omega⟩
    · rw [if_neg e]
      have r3 := ty_183_s0 ht (j := s) (r := s) (by omega) (by omega)
      obtain ⟨t1, t2, t3, t4⟩ := brB_TH ht (t185 ht hs (i := f.toNat + b) (by omega))
      generalize brB h (h (185 + s) (f.toNat + b)) = z at *
      by_cases e2 : z.1 = -2
      · rw [if_pos e2]; exact ⟨t1, t2, by show (-12 : Int) ≤ -2; omega, by show (-2 : Int) ≤ 6; omega⟩
      · rw [if_neg e2]
        obtain ⟨u1, u2, u3⟩ := comB_TH hs n (b + 1) (cm + if 0 ≤ z.1 then 1 else 0) z.2 t1 (by split <;> omega) (by split <;> omega) (by omega)
        exact ⟨u1, fun a j q => (u2 a j q).trans (t2 a j q), u3⟩
theorem comM_TH {r : Nat} {f : Int} (hr : r < 8) : ∀ (n b : Nat) (cm : Int) (h : bH), TH h → 0 ≤ cm → cm ≤ (b : Int) → b + n ≤ 6 → TH (comM r f n b cm h).2 ∧ (∀ a j, wrF (some w_claimM) a j = false → (comM r f n b cm h).2 a j = h a j) ∧ -12 ≤ (comM r f n b cm h).1 ∧ (comM r f n b cm h).1 ≤ 6
  | 0, b, cm, h, ht, h1, h2, h3 => ⟨ht, fun _ _ _ => rfl, by show -12 ≤ cm; omega, by show cm ≤ 6; omega⟩
  | n + 1, b, cm, h, ht, h1, h2, h3 => by
    rw [comM_s]
    by_cases e : f < 0 ∨ h 207 r - ((b : Nat) : Int) ≤ f
    · rw [if_pos e]; exact ⟨ht, fun _ _ _ => rfl, by show (-12 : Int) ≤ -12; omega, by show (-12 : Int) ≤ 6; omega⟩
    · rw [if_neg e]
      have r3 := ty_207_s0 ht (j := r) (r := r) (by omega) (by omega)
      obtain ⟨t1, t2, t3, t4⟩ := brM_TH ht (sB_x2 ht (a := 208) (n := 320) (by decide +kernel) (j := 40 * r + f.toNat + b) (by omega))
      generalize brM h (h 208 (40 * r + f.toNat + b)) = z at *
      by_cases e2 : z.1 = -2
      · rw [if_pos e2]; exact ⟨t1, t2, by show (-12 : Int) ≤ -2; omega, by show (-2 : Int) ≤ 6; omega⟩
      · rw [if_neg e2]
        obtain ⟨u1, u2, u3⟩ := comM_TH hr n (b + 1) (cm + if 0 ≤ z.1 then 1 else 0) z.2 t1 (by split <;> omega) (by split <;> omega) (by omega)
        exact ⟨u1, fun a j q => (u2 a j q).trans (t2 a j q), u3⟩
theorem m_clBx (hB : BytesOK) {g : bG} {l : Launch} {d : Nat} {Q : bQ} {h : bH} {w st sp k w' st' sp' : Int} (ht : TH h) (e1 : w = w') (e2 : st = st') (e3 : sp = sp') (z_w : in32 w') (z_st : in32 st') (z_sp : in32 sp') (z_k : in32 k) (hq : Q (some (0, (clB h w' st' sp' k).1)) (clB h w' st' sp' k).2) : MH g l (d + 1) 46 212 212 [(2, ((2 : Nat) : Int)), (0, w), (0, st), (0, sp), (0, k)] h Q := by
  subst e1 e2 e3
  exact m_clB hB ht z_w z_st z_sp z_k hq
theorem m_clMx (hB : BytesOK) {g : bG} {l : Launch} {d : Nat} {Q : bQ} {h : bH} {w st sp k w' st' sp' : Int} (ht : TH h) (e1 : w = w') (e2 : st = st') (e3 : sp = sp') (z_w : in32 w') (z_st : in32 st') (z_sp : in32 sp') (z_k : in32 k) (hq : Q (some (0, (clM h w' st' sp' k).1)) (clM h w' st' sp' k).2) : MH g l (d + 1 + 1) 192 212 212 [(2, ((193 : Nat) : Int)), (0, w), (0, st), (0, sp), (0, k)] h Q := by
  subst e1 e2 e3
  exact m_clM hB ht z_w z_st z_sp z_k hq
theorem m_brB (hB : BytesOK) {g : bG} {l : Launch} {d : Nat} {Q : bQ} {h : bH} {t : Int} (ht : TH h) (z_t : -2147483648 ≤ t ∧ t ≤ 2147483647) (hq : Q (some (0, (brB h t).1)) (brB h t).2) : MH g l (d + 1 + 1) 73 212 212 [(1, t), (2, ((2 : Nat) : Int))] h Q := by
  unfold brB at hq
  refine mh_go hB mg73 ml73 (Nat.le_of_ble_eq_true rfl) ?_
  show HW g l (d + 1 + 1) 73 _ _ 0 [(0, (1, t)), (2, (2, ((2 : Nat) : Int)))] [] h
  refine w_pl (pc' := 1) (lv' := [(0, (1, (t))), (2, (2, ((2 : Nat) : Int)))]) (st' := [(1, (t))]) (h' := h) (o73_0 hB) rfl ?_
  refine w_pl (pc' := 2) (lv' := [(0, (1, (t))), (2, (2, ((2 : Nat) : Int)))]) (st' := [(1, ((0 : Nat) : Int)), (1, (t))]) (h' := h) (o73_1 hB) rfl ?_
  refine w_lcmp (pc' := 3) (o73_2 hB) rfl (fun e => ?_) (fun e => ?_) (fun e => ?_)
  · have f556 : ((0 : Nat) : Int) < (t) := e
    refine w_ifc (pt := 18) (pf := 6) (o73_3 hB) (by decide) rfl (fun e => ?_) (fun e => ?_)
    · have f557 : (((1 : Nat) : Int) < (0)) := e
      exfalso; omega
    · have f558 : ¬ (((1 : Nat) : Int) < (0)) := e
      refine w_pl (pc' := 7) (lv' := [(0, (1, (t))), (2, (2, ((2 : Nat) : Int)))]) (st' := [(1, (t))]) (h' := h) (o73_4 hB) rfl ?_
      refine w_pl (pc' := 10) (lv' := [(0, (1, (t))), (2, (2, ((2 : Nat) : Int)))]) (st' := [(1, ((10000000000 : Nat) : Int)), (1, (t))]) (h' := h) (o73_5 hB) rfl ?_
      refine w_ldiv (z := ((t) / 10000000000)) (pc' := 11) (o73_6 hB) rfl (divL_p (by omega) (by omega) (by decide)) ?_
      refine w_pl (pc' := 14) (lv' := [(0, (1, (t))), (2, (2, ((2 : Nat) : Int)))]) (st' := [(1, ((240 : Nat) : Int)), (1, ((t) / 10000000000))]) (h' := h) (o73_7 hB) rfl ?_
      refine w_lcmp (pc' := 15) (o73_8 hB) rfl (fun e => ?_) (fun e => ?_) (fun e => ?_)
      · have f559 : ((240 : Nat) : Int) < ((t) / 10000000000) := e
        refine w_ifc (pt := 20) (pf := 18) (o73_9 hB) (by decide) rfl (fun e => ?_) (fun e => ?_)
        · have f560 : (((1 : Nat) : Int) < (0)) := e
          exfalso; omega
        · have f561 : ¬ (((1 : Nat) : Int) < (0)) := e
          refine w_pl (pc' := 19) (lv' := [(0, (1, (t))), (2, (2, ((2 : Nat) : Int)))]) (st' := [(0, (-1))]) (h' := h) (o73_10 hB) rfl ?_
          rw [if_pos (by omega)] at hq
          exact w_iret (o73_11 hB) mr73 (by unfold in32; omega) hq
      · have f562 : ((t) / 10000000000) = ((240 : Nat) : Int) := e
        refine w_ifc (pt := 20) (pf := 18) (o73_9 hB) (by decide) rfl (fun e => ?_) (fun e => ?_)
        · have f563 : (((0 : Nat) : Int) < (0)) := e
          exfalso; omega
        · have f564 : ¬ (((0 : Nat) : Int) < (0)) := e
          refine w_pl (pc' := 19) (lv' := [(0, (1, (t))), (2, (2, ((2 : Nat) : Int)))]) (st' := [(0, (-1))]) (h' := h) (o73_10 hB) rfl ?_
          rw [if_pos (by omega)] at hq
          exact w_iret (o73_11 hB) mr73 (by unfold in32; omega) hq
      · have f565 : ((t) / 10000000000) < ((240 : Nat) : Int) := e
        refine w_ifc (pt := 20) (pf := 18) (o73_9 hB) (by decide) rfl (fun e => ?_) (fun e => ?_)
        · have f566 : ((-1) < (0)) := e
          refine w_pl (pc' := 21) (lv' := [(0, (1, (t))), (2, (2, ((2 : Nat) : Int)))]) (st' := [(1, (t))]) (h' := h) (o73_12 hB) rfl ?_
          refine w_pl (pc' := 24) (lv' := [(0, (1, (t))), (2, (2, ((2 : Nat) : Int)))]) (st' := [(1, ((10000000 : Nat) : Int)), (1, (t))]) (h' := h) (o73_13 hB) rfl ?_
          refine w_ldiv (z := ((t) / 10000000)) (pc' := 25) (o73_14 hB) rfl (divL_p (by omega) (by omega) (by decide)) ?_
          refine w_pl (pc' := 28) (lv' := [(0, (1, (t))), (2, (2, ((2 : Nat) : Int)))]) (st' := [(1, ((1000 : Nat) : Int)), (1, ((t) / 10000000))]) (h' := h) (o73_15 hB) rfl ?_
          refine w_lrem (z := (((t) / 10000000) % 1000)) (pc' := 29) (o73_16 hB) rfl (remL_p (by omega) (by decide)) ?_
          refine w_l2i (z := (((t) / 10000000) % 1000)) (pc' := 30) (o73_17 hB) rfl (w32_e (by omega) rfl) ?_
          refine w_pl (pc' := 33) (lv' := [(0, (1, (t))), (2, (2, ((2 : Nat) : Int)))]) (st' := [(0, ((1000 : Nat) : Int)), (0, (((t) / 10000000) % 1000))]) (h' := h) (o73_18 hB) rfl ?_
          refine w_imul (z := ((((t) / 10000000) % 1000) * ((1000 : Nat) : Int))) (pc' := 34) (o73_19 hB) rfl (w32_e (by omega) (by omega)) ?_
          refine w_pl (pc' := 35) (lv' := [(0, (1, (t))), (2, (2, ((2 : Nat) : Int)))]) (st' := [(1, (t)), (0, ((((t) / 10000000) % 1000) * ((1000 : Nat) : Int)))]) (h' := h) (o73_20 hB) rfl ?_
          refine w_pl (pc' := 38) (lv' := [(0, (1, (t))), (2, (2, ((2 : Nat) : Int)))]) (st' := [(1, ((10000000000 : Nat) : Int)), (1, (t)), (0, ((((t) / 10000000) % 1000) * ((1000 : Nat) : Int)))]) (h' := h) (o73_21 hB) rfl ?_
          refine w_ldiv (z := ((t) / 10000000000)) (pc' := 39) (o73_22 hB) rfl (divL_p (by omega) (by omega) (by decide)) ?_
          refine w_l2i (z := ((t) / 10000000000)) (pc' := 40) (o73_23 hB) rfl (w32_e (by omega) rfl) ?_
          refine w_iadd (z := (((((t) / 10000000) % 1000) * ((1000 : Nat) : Int)) + ((t) / 10000000000))) (pc' := 41) (o73_24 hB) rfl (w32_e (by omega) (by omega)) ?_
          refine w_st (tg := 0) (j := 3) (len := 1) (pc' := 42) (lv' := [(3, (0, (((((t) / 10000000) % 1000) * ((1000 : Nat) : Int)) + ((t) / 10000000000)))), (0, (1, (t))), (2, (2, ((2 : Nat) : Int)))]) (o73_25 hB) rfl rfl ml73 (by decide) rfl ?_
          refine w_pl (pc' := 43) (lv' := [(3, (0, (((((t) / 10000000) % 1000) * ((1000 : Nat) : Int)) + ((t) / 10000000000)))), (0, (1, (t))), (2, (2, ((2 : Nat) : Int)))]) (st' := [(2, ((2 : Nat) : Int))]) (h' := h) (o73_26 hB) rfl ?_
          refine w_pl (pc' := 44) (lv' := [(3, (0, (((((t) / 10000000) % 1000) * ((1000 : Nat) : Int)) + ((t) / 10000000000)))), (0, (1, (t))), (2, (2, ((2 : Nat) : Int)))]) (st' := [(1, (t)), (2, ((2 : Nat) : Int))]) (h' := h) (o73_27 hB) rfl ?_
          refine w_pl (pc' := 47) (lv' := [(3, (0, (((((t) / 10000000) % 1000) * ((1000 : Nat) : Int)) + ((t) / 10000000000)))), (0, (1, (t))), (2, (2, ((2 : Nat) : Int)))]) (st' := [(1, ((1000 : Nat) : Int)), (1, (t)), (2, ((2 : Nat) : Int))]) (h' := h) (o73_28 hB) rfl ?_
          refine w_lrem (z := ((t) % 1000)) (pc' := 48) (o73_29 hB) rfl (remL_p (by omega) (by decide)) ?_
          refine w_l2i (z := ((t) % 1000)) (pc' := 49) (o73_30 hB) rfl (w32_e (by omega) rfl) ?_
          refine w_pl (pc' := 50) (lv' := [(3, (0, (((((t) / 10000000) % 1000) * ((1000 : Nat) : Int)) + ((t) / 10000000000)))), (0, (1, (t))), (2, (2, ((2 : Nat) : Int)))]) (st' := [(1, (t)), (0, ((t) % 1000)), (2, ((2 : Nat) : Int))]) (h' := h) (o73_31 hB) rfl ?_
          refine w_pl (pc' := 53) (lv' := [(3, (0, (((((t) / 10000000) % 1000) * ((1000 : Nat) : Int)) + ((t) / 10000000000)))), (0, (1, (t))), (2, (2, ((2 : Nat) : Int)))]) (st' := [(1, ((1000 : Nat) : Int)), (1, (t)), (0, ((t) % 1000)), (2, ((2 : Nat) : Int))]) (h' := h) (o73_32 hB) rfl ?_
          refine w_ldiv (z := ((t) / 1000)) (pc' := 54) (o73_33 hB) rfl (divL_p (by omega) (by omega) (by decide)) ?_
          refine w_pl (pc' := 57) (lv' := [(3, (0, (((((t) / 10000000) % 1000) * ((1000 : Nat) : Int)) + ((t) / 10000000000)))), (0, (1, (t))), (2, (2, ((2 : Nat) : Int)))]) (st' := [(1, ((10000 : Nat) : Int)), (1, ((t) / 1000)), (0, ((t) % 1000)), (2, ((2 : Nat) : Int))]) (h' := h) (o73_34 hB) rfl ?_
          refine w_lrem (z := (((t) / 1000) % 10000)) (pc' := 58) (o73_35 hB) rfl (remL_p (by omega) (by decide)) ?_
          refine w_l2i (z := (((t) / 1000) % 10000)) (pc' := 59) (o73_36 hB) rfl (w32_e (by omega) rfl) ?_
          refine w_pl (pc' := 60) (lv' := [(3, (0, (((((t) / 10000000) % 1000) * ((1000 : Nat) : Int)) + ((t) / 10000000000)))), (0, (1, (t))), (2, (2, ((2 : Nat) : Int)))]) (st' := [(0, (((((t) / 10000000) % 1000) * ((1000 : Nat) : Int)) + ((t) / 10000000000))), (0, (((t) / 1000) % 10000)), (0, ((t) % 1000)), (2, ((2 : Nat) : Int))]) (h' := h) (o73_37 hB) rfl ?_
          refine w_pl (pc' := 61) (lv' := [(3, (0, (((((t) / 10000000) % 1000) * ((1000 : Nat) : Int)) + ((t) / 10000000000)))), (0, (1, (t))), (2, (2, ((2 : Nat) : Int)))]) (st' := [(0, (-1)), (0, (((((t) / 10000000) % 1000) * ((1000 : Nat) : Int)) + ((t) / 10000000000))), (0, (((t) / 1000) % 10000)), (0, ((t) % 1000)), (2, ((2 : Nat) : Int))]) (h' := h) (o73_38 hB) rfl ?_
          refine w_callV (A := 2) (as := [(0, ((t) % 1000)), (0, (((t) / 1000) % 10000)), (0, (((((t) / 10000000) % 1000) * ((1000 : Nat) : Int)) + ((t) / 10000000000))), (0, (-1))]) (rest := []) (n := 4) (pc' := 64) 3 hB (o73_39 hB) rfl (by decide +kernel) rfl rfl (Nat.le_of_ble_eq_true rfl) (m_clBx hB ht (w := ((t) % 1000)) (st := (((t) / 1000) % 10000)) (sp := (((((t) / 10000000) % 1000) * ((1000 : Nat) : Int)) + ((t) / 10000000000))) (w' := t % 1000) (st' := t / 1000 % 10000) (sp' := t / 10000000 * 1000) (by omega) (by omega) (by omega) (br_in z_t (by omega)).1 (br_in z_t (by omega)).2.1 (br_in z_t (by omega)).2.2 (by unfold in32; omega) ?_)
          show HW g l _ 73 _ _ 64 [(3, (0, (((((t) / 10000000) % 1000) * ((1000 : Nat) : Int)) + ((t) / 10000000000)))), (0, (1, (t))), (2, (2, ((2 : Nat) : Int)))] [(0, ((clB h (t % 1000) (t / 1000 % 10000) (t / 10000000 * 1000) (-1)).1))] (clB h (t % 1000) (t / 1000 % 10000) (t / 10000000 * 1000) (-1)).2
          have r1 := clB_TH (w := t % 1000) (k := -1) ht (br_in z_t (by omega)).2.1 (br_in z_t (by omega)).2.2
          rw [if_neg (by omega)] at hq
          exact w_iret (o73_40 hB) mr73 (by unfold in32; omega) hq
        · have f568 : ¬ ((-1) < (0)) := e
          exfalso; omega
  · have f569 : (t) = ((0 : Nat) : Int) := e
    refine w_ifc (pt := 18) (pf := 6) (o73_3 hB) (by decide) rfl (fun e => ?_) (fun e => ?_)
    · have f570 : (((0 : Nat) : Int) < (0)) := e
      exfalso; omega
    · have f571 : ¬ (((0 : Nat) : Int) < (0)) := e
      refine w_pl (pc' := 7) (lv' := [(0, (1, (t))), (2, (2, ((2 : Nat) : Int)))]) (st' := [(1, (t))]) (h' := h) (o73_4 hB) rfl ?_
      refine w_pl (pc' := 10) (lv' := [(0, (1, (t))), (2, (2, ((2 : Nat) : Int)))]) (st' := [(1, ((10000000000 : Nat) : Int)), (1, (t))]) (h' := h) (o73_5 hB) rfl ?_
      refine w_ldiv (z := ((t) / 10000000000)) (pc' := 11) (o73_6 hB) rfl (divL_p (by omega) (by omega) (by decide)) ?_
      refine w_pl (pc' := 14) (lv' := [(0, (1, (t))), (2, (2, ((2 : Nat) : Int)))]) (st' := [(1, ((240 : Nat) : Int)), (1, ((t) / 10000000000))]) (h' := h) (o73_7 hB) rfl ?_
      refine w_lcmp (pc' := 15) (o73_8 hB) rfl (fun e => ?_) (fun e => ?_) (fun e => ?_)
      · have f572 : ((240 : Nat) : Int) < ((t) / 10000000000) := e
        refine w_ifc (pt := 20) (pf := 18) (o73_9 hB) (by decide) rfl (fun e => ?_) (fun e => ?_)
        · have f573 : (((1 : Nat) : Int) < (0)) := e
          exfalso; omega
        · have f574 : ¬ (((1 : Nat) : Int) < (0)) := e
          refine w_pl (pc' := 19) (lv' := [(0, (1, (t))), (2, (2, ((2 : Nat) : Int)))]) (st' := [(0, (-1))]) (h' := h) (o73_10 hB) rfl ?_
          rw [if_pos (by omega)] at hq
          exact w_iret (o73_11 hB) mr73 (by unfold in32; omega) hq
      · have f575 : ((t) / 10000000000) = ((240 : Nat) : Int) := e
        refine w_ifc (pt := 20) (pf := 18) (o73_9 hB) (by decide) rfl (fun e => ?_) (fun e => ?_)
        · have f576 : (((0 : Nat) : Int) < (0)) := e
          exfalso; omega
        · have f577 : ¬ (((0 : Nat) : Int) < (0)) := e
          refine w_pl (pc' := 19) (lv' := [(0, (1, (t))), (2, (2, ((2 : Nat) : Int)))]) (st' := [(0, (-1))]) (h' := h) (o73_10 hB) rfl ?_
          rw [if_pos (by omega)] at hq
          exact w_iret (o73_11 hB) mr73 (by unfold in32; omega) hq
      · have f578 : ((t) / 10000000000) < ((240 : Nat) : Int) := e
        refine w_ifc (pt := 20) (pf := 18) (o73_9 hB) (by decide) rfl (fun e => ?_) (fun e => ?_)
        · have f579 : ((-1) < (0)) := e
          refine w_pl (pc' := 21) (lv' := [(0, (1, (t))), (2, (2, ((2 : Nat) : Int)))]) (st' := [(1, (t))]) (h' := h) (o73_12 hB) rfl ?_
          refine w_pl (pc' := 24) (lv' := [(0, (1, (t))), (2, (2, ((2 : Nat) : Int)))]) (st' := [(1, ((10000000 : Nat) : Int)), (1, (t))]) (h' := h) (o73_13 hB) rfl ?_
          refine w_ldiv (z := ((t) / 10000000)) (pc' := 25) (o73_14 hB) rfl (divL_p (by omega) (by omega) (by decide)) ?_
          refine w_pl (pc' := 28) (lv' := [(0, (1, (t))), (2, (2, ((2 : Nat) : Int)))]) (st' := [(1, ((1000 : Nat) : Int)), (1, ((t) / 10000000))]) (h' := h) (o73_15 hB) rfl ?_
          refine w_lrem (z := (((t) / 10000000) % 1000)) (pc' := 29) (o73_16 hB) rfl (remL_p (by omega) (by decide)) ?_
          refine w_l2i (z := (((t) / 10000000) % 1000)) (pc' := 30) (o73_17 hB) rfl (w32_e (by omega) rfl) ?_
          refine w_pl (pc' := 33) (lv' := [(0, (1, (t))), (2, (2, ((2 : Nat) : Int)))]) (st' := [(0, ((1000 : Nat) : Int)), (0, (((t) / 10000000) % 1000))]) (h' := h) (o73_18 hB) rfl ?_
          refine w_imul (z := ((((t) / 10000000) % 1000) * ((1000 : Nat) : Int))) (pc' := 34) (o73_19 hB) rfl (w32_e (by omega) (by omega)) ?_
          refine w_pl (pc' := 35) (lv' := [(0, (1, (t))), (2, (2, ((2 : Nat) : Int)))]) (st' := [(1, (t)), (0, ((((t) / 10000000) % 1000) * ((1000 : Nat) : Int)))]) (h' := h) (o73_20 hB) rfl ?_
          refine w_pl (pc' := 38) (lv' := [(0, (1, (t))), (2, (2, ((2 : Nat) : Int)))]) (st' := [(1, ((10000000000 : Nat) : Int)), (1, (t)), (0, ((((t) / 10000000) % 1000) * ((1000 : Nat) : Int)))]) (h' := h) (o73_21 hB) rfl ?_
          refine w_ldiv (z := ((t) / 10000000000)) (pc' := 39) (o73_22 hB) rfl (divL_p (by omega) (by omega) (by decide)) ?_
          refine w_l2i (z := ((t) / 10000000000)) (pc' := 40) (o73_23 hB) rfl (w32_e (by omega) rfl) ?_
          refine w_iadd (z := (((((t) / 10000000) % 1000) * ((1000 : Nat) : Int)) + ((t) / 10000000000))) (pc' := 41) (o73_24 hB) rfl (w32_e (by omega) (by omega)) ?_
          refine w_st (tg := 0) (j := 3) (len := 1) (pc' := 42) (lv' := [(3, (0, (((((t) / 10000000) % 1000) * ((1000 : Nat) : Int)) + ((t) / 10000000000)))), (0, (1, (t))), (2, (2, ((2 : Nat) : Int)))]) (o73_25 hB) rfl rfl ml73 (by decide) rfl ?_
          refine w_pl (pc' := 43) (lv' := [(3, (0, (((((t) / 10000000) % 1000) * ((1000 : Nat) : Int)) + ((t) / 10000000000)))), (0, (1, (t))), (2, (2, ((2 : Nat) : Int)))]) (st' := [(2, ((2 : Nat) : Int))]) (h' := h) (o73_26 hB) rfl ?_
          refine w_pl (pc' := 44) (lv' := [(3, (0, (((((t) / 10000000) % 1000) * ((1000 : Nat) : Int)) + ((t) / 10000000000)))), (0, (1, (t))), (2, (2, ((2 : Nat) : Int)))]) (st' := [(1, (t)), (2, ((2 : Nat) : Int))]) (h' := h) (o73_27 hB) rfl ?_
          refine w_pl (pc' := 47) (lv' := [(3, (0, (((((t) / 10000000) % 1000) * ((1000 : Nat) : Int)) + ((t) / 10000000000)))), (0, (1, (t))), (2, (2, ((2 : Nat) : Int)))]) (st' := [(1, ((1000 : Nat) : Int)), (1, (t)), (2, ((2 : Nat) : Int))]) (h' := h) (o73_28 hB) rfl ?_
          refine w_lrem (z := ((t) % 1000)) (pc' := 48) (o73_29 hB) rfl (remL_p (by omega) (by decide)) ?_
          refine w_l2i (z := ((t) % 1000)) (pc' := 49) (o73_30 hB) rfl (w32_e (by omega) rfl) ?_
          refine w_pl (pc' := 50) (lv' := [(3, (0, (((((t) / 10000000) % 1000) * ((1000 : Nat) : Int)) + ((t) / 10000000000)))), (0, (1, (t))), (2, (2, ((2 : Nat) : Int)))]) (st' := [(1, (t)), (0, ((t) % 1000)), (2, ((2 : Nat) : Int))]) (h' := h) (o73_31 hB) rfl ?_
          refine w_pl (pc' := 53) (lv' := [(3, (0, (((((t) / 10000000) % 1000) * ((1000 : Nat) : Int)) + ((t) / 10000000000)))), (0, (1, (t))), (2, (2, ((2 : Nat) : Int)))]) (st' := [(1, ((1000 : Nat) : Int)), (1, (t)), (0, ((t) % 1000)), (2, ((2 : Nat) : Int))]) (h' := h) (o73_32 hB) rfl ?_
          refine w_ldiv (z := ((t) / 1000)) (pc' := 54) (o73_33 hB) rfl (divL_p (by omega) (by omega) (by decide)) ?_
          refine w_pl (pc' := 57) (lv' := [(3, (0, (((((t) / 10000000) % 1000) * ((1000 : Nat) : Int)) + ((t) / 10000000000)))), (0, (1, (t))), (2, (2, ((2 : Nat) : Int)))]) (st' := [(1, ((10000 : Nat) : Int)), (1, ((t) / 1000)), (0, ((t) % 1000)), (2, ((2 : Nat) : Int))]) (h' := h) (o73_34 hB) rfl ?_
          refine w_lrem (z := (((t) / 1000) % 10000)) (pc' := 58) (o73_35 hB) rfl (remL_p (by omega) (by decide)) ?_
          refine w_l2i (z := (((t) / 1000) % 10000)) (pc' := 59) (o73_36 hB) rfl (w32_e (by omega) rfl) ?_
          refine w_pl (pc' := 60) (lv' := [(3, (0, (((((t) / 10000000) % 1000) * ((1000 : Nat) : Int)) + ((t) / 10000000000)))), (0, (1, (t))), (2, (2, ((2 : Nat) : Int)))]) (st' := [(0, (((((t) / 10000000) % 1000) * ((1000 : Nat) : Int)) + ((t) / 10000000000))), (0, (((t) / 1000) % 10000)), (0, ((t) % 1000)), (2, ((2 : Nat) : Int))]) (h' := h) (o73_37 hB) rfl ?_
          refine w_pl (pc' := 61) (lv' := [(3, (0, (((((t) / 10000000) % 1000) * ((1000 : Nat) : Int)) + ((t) / 10000000000)))), (0, (1, (t))), (2, (2, ((2 : Nat) : Int)))]) (st' := [(0, (-1)), (0, (((((t) / 10000000) % 1000) * ((1000 : Nat) : Int)) + ((t) / 10000000000))), (0, (((t) / 1000) % 10000)), (0, ((t) % 1000)), (2, ((2 : Nat) : Int))]) (h' := h) (o73_38 hB) rfl ?_
          refine w_callV (A := 2) (as := [(0, ((t) % 1000)), (0, (((t) / 1000) % 10000)), (0, (((((t) / 10000000) % 1000) * ((1000 : Nat) : Int)) + ((t) / 10000000000))), (0, (-1))]) (rest := []) (n := 4) (pc' := 64) 3 hB (o73_39 hB) rfl (by decide +kernel) rfl rfl (Nat.le_of_ble_eq_true rfl) (m_clBx hB ht (w := ((t) % 1000)) (st := (((t) / 1000) % 10000)) (sp := (((((t) / 10000000) % 1000) * ((1000 : Nat) : Int)) + ((t) / 10000000000))) (w' := t % 1000) (st' := t / 1000 % 10000) (sp' := t / 10000000 * 1000) (by omega) (by omega) (by omega) (br_in z_t (by omega)).1 (br_in z_t (by omega)).2.1 (br_in z_t (by omega)).2.2 (by unfold in32; omega) ?_)
          show HW g l _ 73 _ _ 64 [(3, (0, (((((t) / 10000000) % 1000) * ((1000 : Nat) : Int)) + ((t) / 10000000000)))), (0, (1, (t))), (2, (2, ((2 : Nat) : Int)))] [(0, ((clB h (t % 1000) (t / 1000 % 10000) (t / 10000000 * 1000) (-1)).1))] (clB h (t % 1000) (t / 1000 % 10000) (t / 10000000 * 1000) (-1)).2
          have r1 := clB_TH (w := t % 1000) (k := -1) ht (br_in z_t (by omega)).2.1 (br_in z_t (by omega)).2.2
          rw [if_neg (by omega)] at hq
          exact w_iret (o73_40 hB) mr73 (by unfold in32; omega) hq
        · have f581 : ¬ ((-1) < (0)) := e
          exfalso; omega
  · have f582 : (t) < ((0 : Nat) : Int) := e
    refine w_ifc (pt := 18) (pf := 6) (o73_3 hB) (by decide) rfl (fun e => ?_) (fun e => ?_)
    · have f583 : ((-1) < (0)) := e
      refine w_pl (pc' := 19) (lv' := [(0, (1, (t))), (2, (2, ((2 : Nat) : Int)))]) (st' := [(0, (-1))]) (h' := h) (o73_10 hB) rfl ?_
      rw [if_pos (by omega)] at hq
      exact w_iret (o73_11 hB) mr73 (by unfold in32; omega) hq
    · have f584 : ¬ ((-1) < (0)) := e
      exfalso; omega
theorem l_comB (hB : BytesOK) {g : bG} {l : Launch} {d : Nat} {Q : bQ} {s m : Nat} {f : Int} (hs : s < 4) (z_f : in32 f) (hm : m ≤ 6) : ∀ (n b : Nat) (cm : Int) (h : bH), b + n = m → TH h → 0 ≤ cm → cm ≤ (b : Int) → Q (some (0, (comB s f n b cm h).1)) (comB s f n b cm h).2 → HW g l (d + 1 + 1 + 1) 72 212 Q 40 [(6, (0, ((b : Nat) : Int))), (5, (0, (cm))), (0, (2, ((181 : Nat) : Int))), (1, (0, ((s : Nat) : Int))), (2, (0, (f))), (3, (0, ((m : Nat) : Int))), (4, (2, ((2 : Nat) : Int)))] [] h := by
  unfold in32 at z_f
  intro n
  induction n with
  | zero =>
    intro b cm h hb ht h1 h2 hq
    have hR := ht.r
    refine w_pl (pc' := 42) (lv' := [(6, (0, ((b : Nat) : Int))), (5, (0, (cm))), (0, (2, ((181 : Nat) : Int))), (1, (0, ((s : Nat) : Int))), (2, (0, (f))), (3, (0, ((m : Nat) : Int))), (4, (2, ((2 : Nat) : Int)))]) (st' := [(0, ((b : Nat) : Int))]) (h' := h) (o72_24 hB) rfl ?_
    refine w_pl (pc' := 43) (lv' := [(6, (0, ((b : Nat) : Int))), (5, (0, (cm))), (0, (2, ((181 : Nat) : Int))), (1, (0, ((s : Nat) : Int))), (2, (0, (f))), (3, (0, ((m : Nat) : Int))), (4, (2, ((2 : Nat) : Int)))]) (st' := [(0, ((m : Nat) : Int)), (0, ((b : Nat) : Int))]) (h' := h) (o72_25 hB) rfl ?_
    refine w_icmp (pt := 108) (pf := 46) (o72_26 hB) (by decide) rfl (fun e => ?_) (fun e => ?_)
    · have f585 : (((m : Nat) : Int) ≤ ((b : Nat) : Int)) := e
      refine w_pl (pc' := 110) (lv' := [(6, (0, ((b : Nat) : Int))), (5, (0, (cm))), (0, (2, ((181 : Nat) : Int))), (1, (0, ((s : Nat) : Int))), (2, (0, (f))), (3, (0, ((m : Nat) : Int))), (4, (2, ((2 : Nat) : Int)))]) (st' := [(0, (cm))]) (h' := h) (o72_60 hB) rfl ?_
      exact w_iret (o72_61 hB) mr72 (by unfold in32; omega) hq
    · have f586 : ¬ (((m : Nat) : Int) ≤ ((b : Nat) : Int)) := e
      exfalso; omega
  | succ n ih =>
    intro b cm h hb ht h1 h2 hq
    have hR := ht.r
    have r3 := ty_183_s0 ht (j := s) (r := s) (by omega) (by omega)
    rcases (by omega : f < 0 ∨ 0 ≤ f) with gf | gf
    · skip
      refine w_pl (pc' := 42) (lv' := [(6, (0, ((b : Nat) : Int))), (5, (0, (cm))), (0, (2, ((181 : Nat) : Int))), (1, (0, ((s : Nat) : Int))), (2, (0, (f))), (3, (0, ((m : Nat) : Int))), (4, (2, ((2 : Nat) : Int)))]) (st' := [(0, ((b : Nat) : Int))]) (h' := h) (o72_24 hB) rfl ?_
      refine w_pl (pc' := 43) (lv' := [(6, (0, ((b : Nat) : Int))), (5, (0, (cm))), (0, (2, ((181 : Nat) : Int))), (1, (0, ((s : Nat) : Int))), (2, (0, (f))), (3, (0, ((m : Nat) : Int))), (4, (2, ((2 : Nat) : Int)))]) (st' := [(0, ((m : Nat) : Int)), (0, ((b : Nat) : Int))]) (h' := h) (o72_25 hB) rfl ?_
      refine w_icmp (pt := 108) (pf := 46) (o72_26 hB) (by decide) rfl (fun e => ?_) (fun e => ?_)
      · have f587 : (((m : Nat) : Int) ≤ ((b : Nat) : Int)) := e
        exfalso; omega
      · have f588 : ¬ (((m : Nat) : Int) ≤ ((b : Nat) : Int)) := e
        refine w_pl (pc' := 47) (lv' := [(6, (0, ((b : Nat) : Int))), (5, (0, (cm))), (0, (2, ((181 : Nat) : Int))), (1, (0, ((s : Nat) : Int))), (2, (0, (f))), (3, (0, ((m : Nat) : Int))), (4, (2, ((2 : Nat) : Int)))]) (st' := [(0, (f))]) (h' := h) (o72_27 hB) rfl ?_
        refine w_ifc (pt := 63) (pf := 50) (o72_28 hB) (by decide) rfl (fun e => ?_) (fun e => ?_)
        · have f589 : ((f) < (0)) := e
          refine w_pl (pc' := 65) (lv' := [(6, (0, ((b : Nat) : Int))), (5, (0, (cm))), (0, (2, ((181 : Nat) : Int))), (1, (0, ((s : Nat) : Int))), (2, (0, (f))), (3, (0, ((m : Nat) : Int))), (4, (2, ((2 : Nat) : Int)))]) (st' := [(0, (-12))]) (h' := h) (o72_37 hB) rfl ?_
          rw [comB_s, if_pos (by omega)] at hq
          exact w_iret (o72_38 hB) mr72 (by unfold in32; omega) hq
        · have f590 : ¬ ((f) < (0)) := e
          exfalso; omega
    · obtain ⟨f', e_f⟩ : ∃ q : Nat, f = q := ⟨f.toNat, by omega⟩
      subst e_f
      have ef : ((f' : Nat) : Int).toNat = f' := Int.toNat_natCast f'
      refine w_pl (pc' := 42) (lv' := [(6, (0, ((b : Nat) : Int))), (5, (0, (cm))), (0, (2, ((181 : Nat) : Int))), (1, (0, ((s : Nat) : Int))), (2, (0, ((f' : Nat) : Int))), (3, (0, ((m : Nat) : Int))), (4, (2, ((2 : Nat) : Int)))]) (st' := [(0, ((b : Nat) : Int))]) (h' := h) (o72_24 hB) rfl ?_
      refine w_pl (pc' := 43) (lv' := [(6, (0, ((b : Nat) : Int))), (5, (0, (cm))), (0, (2, ((181 : Nat) : Int))), (1, (0, ((s : Nat) : Int))), (2, (0, ((f' : Nat) : Int))), (3, (0, ((m : Nat) : Int))), (4, (2, ((2 : Nat) : Int)))]) (st' := [(0, ((m : Nat) : Int)), (0, ((b : Nat) : Int))]) (h' := h) (o72_25 hB) rfl ?_
      refine w_icmp (pt := 108) (pf := 46) (o72_26 hB) (by decide) rfl (fun e => ?_) (fun e => ?_)
      · have f591 : (((m : Nat) : Int) ≤ ((b : Nat) : Int)) := e
        exfalso; omega
      · have f592 : ¬ (((m : Nat) : Int) ≤ ((b : Nat) : Int)) := e
        refine w_pl (pc' := 47) (lv' := [(6, (0, ((b : Nat) : Int))), (5, (0, (cm))), (0, (2, ((181 : Nat) : Int))), (1, (0, ((s : Nat) : Int))), (2, (0, ((f' : Nat) : Int))), (3, (0, ((m : Nat) : Int))), (4, (2, ((2 : Nat) : Int)))]) (st' := [(0, ((f' : Nat) : Int))]) (h' := h) (o72_27 hB) rfl ?_
        refine w_ifc (pt := 63) (pf := 50) (o72_28 hB) (by decide) rfl (fun e => ?_) (fun e => ?_)
        · have f593 : (((f' : Nat) : Int) < (0)) := e
          refine w_pl (pc' := 65) (lv' := [(6, (0, ((b : Nat) : Int))), (5, (0, (cm))), (0, (2, ((181 : Nat) : Int))), (1, (0, ((s : Nat) : Int))), (2, (0, ((f' : Nat) : Int))), (3, (0, ((m : Nat) : Int))), (4, (2, ((2 : Nat) : Int)))]) (st' := [(0, (-12))]) (h' := h) (o72_37 hB) rfl ?_
          rw [comB_s, if_pos (by omega)] at hq
          exact w_iret (o72_38 hB) mr72 (by unfold in32; omega) hq
        · have f594 : ¬ (((f' : Nat) : Int) < (0)) := e
          refine w_pl (pc' := 51) (lv' := [(6, (0, ((b : Nat) : Int))), (5, (0, (cm))), (0, (2, ((181 : Nat) : Int))), (1, (0, ((s : Nat) : Int))), (2, (0, ((f' : Nat) : Int))), (3, (0, ((m : Nat) : Int))), (4, (2, ((2 : Nat) : Int)))]) (st' := [(0, ((f' : Nat) : Int))]) (h' := h) (o72_29 hB) rfl ?_
          refine w_pl (pc' := 52) (lv' := [(6, (0, ((b : Nat) : Int))), (5, (0, (cm))), (0, (2, ((181 : Nat) : Int))), (1, (0, ((s : Nat) : Int))), (2, (0, ((f' : Nat) : Int))), (3, (0, ((m : Nat) : Int))), (4, (2, ((2 : Nat) : Int)))]) (st' := [(2, ((181 : Nat) : Int)), (0, ((f' : Nat) : Int))]) (h' := h) (o72_30 hB) rfl ?_
          refine w_getf (A := 181) (t := 2) (z := ((183 : Nat) : Int)) (pc' := 55) (o72_31 hB) rfl (by decide +kernel) (hR (181, 1, 183) (by decide)) ?_
          refine w_pl (pc' := 56) (lv' := [(6, (0, ((b : Nat) : Int))), (5, (0, (cm))), (0, (2, ((181 : Nat) : Int))), (1, (0, ((s : Nat) : Int))), (2, (0, ((f' : Nat) : Int))), (3, (0, ((m : Nat) : Int))), (4, (2, ((2 : Nat) : Int)))]) (st' := [(0, ((s : Nat) : Int)), (2, ((183 : Nat) : Int)), (0, ((f' : Nat) : Int))]) (h' := h) (o72_32 hB) rfl ?_
          have f595 := ty_183_s0 ht (j := s) (r := s) (by omega) (by omega)
          refine w_iald (A := 183) (i := s) (n := 4) (z := (h 183 s)) (pc' := 57) (o72_33 hB) rfl (by decide +kernel) (by omega) rfl ?_
          refine w_pl (pc' := 59) (lv' := [(6, (0, ((b : Nat) : Int))), (5, (0, (cm))), (0, (2, ((181 : Nat) : Int))), (1, (0, ((s : Nat) : Int))), (2, (0, ((f' : Nat) : Int))), (3, (0, ((m : Nat) : Int))), (4, (2, ((2 : Nat) : Int)))]) (st' := [(0, ((b : Nat) : Int)), (0, (h 183 s)), (0, ((f' : Nat) : Int))]) (h' := h) (o72_34 hB) rfl ?_
          refine w_isub (z := ((h 183 s) - ((b : Nat) : Int))) (pc' := 60) (o72_35 hB) rfl (w32_e (by omega) (by omega)) ?_
          refine w_icmp (pt := 66) (pf := 63) (o72_36 hB) (by decide) rfl (fun e => ?_) (fun e => ?_)
          · have f596 : (((f' : Nat) : Int) < ((h 183 s) - ((b : Nat) : Int))) := e
            refine w_pl (pc' := 67) (lv' := [(6, (0, ((b : Nat) : Int))), (5, (0, (cm))), (0, (2, ((181 : Nat) : Int))), (1, (0, ((s : Nat) : Int))), (2, (0, ((f' : Nat) : Int))), (3, (0, ((m : Nat) : Int))), (4, (2, ((2 : Nat) : Int)))]) (st' := [(2, ((181 : Nat) : Int))]) (h' := h) (o72_39 hB) rfl ?_
            refine w_getf (A := 181) (t := 2) (z := ((184 : Nat) : Int)) (pc' := 70) (o72_40 hB) rfl (by decide +kernel) (hR (181, 2, 184) (by decide)) ?_
            refine w_pl (pc' := 71) (lv' := [(6, (0, ((b : Nat) : Int))), (5, (0, (cm))), (0, (2, ((181 : Nat) : Int))), (1, (0, ((s : Nat) : Int))), (2, (0, ((f' : Nat) : Int))), (3, (0, ((m : Nat) : Int))), (4, (2, ((2 : Nat) : Int)))]) (st' := [(0, ((s : Nat) : Int)), (2, ((184 : Nat) : Int))]) (h' := h) (o72_41 hB) rfl ?_
            refine w_aald (kd := 3) (A := 184) (i := s) (n := 4) (B := (185 + s)) (pc' := 72) (o72_42 hB) rfl rfl (by decide +kernel) (by omega) (h184 hR (by omega)) ?_
            refine w_pl (pc' := 73) (lv' := [(6, (0, ((b : Nat) : Int))), (5, (0, (cm))), (0, (2, ((181 : Nat) : Int))), (1, (0, ((s : Nat) : Int))), (2, (0, ((f' : Nat) : Int))), (3, (0, ((m : Nat) : Int))), (4, (2, ((2 : Nat) : Int)))]) (st' := [(0, ((f' : Nat) : Int)), (2, (((185 + s) : Nat) : Int))]) (h' := h) (o72_43 hB) rfl ?_
            refine w_pl (pc' := 75) (lv' := [(6, (0, ((b : Nat) : Int))), (5, (0, (cm))), (0, (2, ((181 : Nat) : Int))), (1, (0, ((s : Nat) : Int))), (2, (0, ((f' : Nat) : Int))), (3, (0, ((m : Nat) : Int))), (4, (2, ((2 : Nat) : Int)))]) (st' := [(0, ((b : Nat) : Int)), (0, ((f' : Nat) : Int)), (2, (((185 + s) : Nat) : Int))]) (h' := h) (o72_44 hB) rfl ?_
            refine w_iadd (z := (((f' + b) : Nat) : Int)) (pc' := 76) (o72_45 hB) rfl (w32_e (by omega) (by omega)) ?_
            have f597 := t185 ht (s := s) (i := (f' + b)) (by omega) (by omega)
            refine w_lald (A := (185 + s)) (i := (f' + b)) (n := 40) (z := (h (185 + s) ((f' + b)))) (pc' := 77) (o72_46 hB) rfl (ar185 (by omega)) (by omega) rfl ?_
            refine w_pl (pc' := 79) (lv' := [(6, (0, ((b : Nat) : Int))), (5, (0, (cm))), (0, (2, ((181 : Nat) : Int))), (1, (0, ((s : Nat) : Int))), (2, (0, ((f' : Nat) : Int))), (3, (0, ((m : Nat) : Int))), (4, (2, ((2 : Nat) : Int)))]) (st' := [(2, ((2 : Nat) : Int)), (1, (h (185 + s) ((f' + b))))]) (h' := h) (o72_47 hB) rfl ?_
            refine w_callS (as := [(1, (h (185 + s) ((f' + b)))), (2, ((2 : Nat) : Int))]) (rest := []) (n := 2) (pc' := 82) hB (o72_48 hB) rfl (by decide +kernel) rfl rfl (Nat.le_of_ble_eq_true rfl) (m_brB hB ht (t185 ht hs (i := f' + b) (by omega)) ?_)
            show HW g l _ 72 _ _ 82 [(6, (0, ((b : Nat) : Int))), (5, (0, (cm))), (0, (2, ((181 : Nat) : Int))), (1, (0, ((s : Nat) : Int))), (2, (0, ((f' : Nat) : Int))), (3, (0, ((m : Nat) : Int))), (4, (2, ((2 : Nat) : Int)))] [(0, ((brB h (h (185 + s) (f' + b))).1))] (brB h (h (185 + s) (f' + b))).2
            obtain ⟨t1, t2, t3, t4⟩ := brB_TH ht (t185 ht hs (i := f' + b) (by omega))
            have hR1 := t1.r
            refine w_st (tg := 0) (j := 7) (len := 2) (pc' := 84) (lv' := [(7, (0, ((brB h (h (185 + s) (f' + b))).1))), (6, (0, ((b : Nat) : Int))), (5, (0, (cm))), (0, (2, ((181 : Nat) : Int))), (1, (0, ((s : Nat) : Int))), (2, (0, ((f' : Nat) : Int))), (3, (0, ((m : Nat) : Int))), (4, (2, ((2 : Nat) : Int)))]) (o72_49 hB) rfl rfl ml72 (by decide) rfl ?_
            refine w_pl (pc' := 86) (lv' := [(7, (0, ((brB h (h (185 + s) (f' + b))).1))), (6, (0, ((b : Nat) : Int))), (5, (0, (cm))), (0, (2, ((181 : Nat) : Int))), (1, (0, ((s : Nat) : Int))), (2, (0, ((f' : Nat) : Int))), (3, (0, ((m : Nat) : Int))), (4, (2, ((2 : Nat) : Int)))]) (st' := [(0, ((brB h (h (185 + s) (f' + b))).1))]) (h' := (brB h (h (185 + s) (f' + b))).2) (o72_50 hB) rfl ?_
            refine w_pl (pc' := 88) (lv' := [(7, (0, ((brB h (h (185 + s) (f' + b))).1))), (6, (0, ((b : Nat) : Int))), (5, (0, (cm))), (0, (2, ((181 : Nat) : Int))), (1, (0, ((s : Nat) : Int))), (2, (0, ((f' : Nat) : Int))), (3, (0, ((m : Nat) : Int))), (4, (2, ((2 : Nat) : Int)))]) (st' := [(0, (-2)), (0, ((brB h (h (185 + s) (f' + b))).1))]) (h' := (brB h (h (185 + s) (f' + b))).2) (o72_51 hB) rfl ?_
            refine w_icmp (pt := 94) (pf := 91) (o72_52 hB) (by decide) rfl (fun e => ?_) (fun e => ?_)
            · have f599 : (((brB h (h (185 + s) (f' + b))).1) ≠ (-2)) := e
              refine w_pl (pc' := 96) (lv' := [(7, (0, ((brB h (h (185 + s) (f' + b))).1))), (6, (0, ((b : Nat) : Int))), (5, (0, (cm))), (0, (2, ((181 : Nat) : Int))), (1, (0, ((s : Nat) : Int))), (2, (0, ((f' : Nat) : Int))), (3, (0, ((m : Nat) : Int))), (4, (2, ((2 : Nat) : Int)))]) (st' := [(0, ((brB h (h (185 + s) (f' + b))).1))]) (h' := (brB h (h (185 + s) (f' + b))).2) (o72_55 hB) rfl ?_
              refine w_ifc (pt := 102) (pf := 99) (o72_56 hB) (by decide) rfl (fun e => ?_) (fun e => ?_)
              · have f600 : (((brB h (h (185 + s) (f' + b))).1) < (0)) := e
                refine w_iinc (x := ((b : Nat) : Int)) (z := (((b + 1) : Nat) : Int)) (pc' := 105) (lv' := [(6, (0, (((b + 1) : Nat) : Int))), (7, (0, ((brB h (h (185 + s) (f' + b))).1))), (5, (0, (cm))), (0, (2, ((181 : Nat) : Int))), (1, (0, ((s : Nat) : Int))), (2, (0, ((f' : Nat) : Int))), (3, (0, ((m : Nat) : Int))), (4, (2, ((2 : Nat) : Int)))]) (o72_58 hB) rfl rfl ml72 (by decide) (w32_e (by omega) (by omega)) rfl ?_
                refine w_goto (pt := 40) (o72_59 hB) (by decide) ?_
                refine w_sub (lv' := [(6, (0, (((b + 1) : Nat) : Int))), (5, (0, (cm))), (0, (2, ((181 : Nat) : Int))), (1, (0, ((s : Nat) : Int))), (2, (0, ((f' : Nat) : Int))), (3, (0, ((m : Nat) : Int))), (4, (2, ((2 : Nat) : Int)))]) (List.forall_mem_cons.mpr ⟨(List.Mem.head _), (List.forall_mem_cons.mpr ⟨(List.Mem.tail _ (List.Mem.tail _ (List.Mem.head _))), (List.forall_mem_cons.mpr ⟨(List.Mem.tail _ (List.Mem.tail _ (List.Mem.tail _ (List.Mem.head _)))), (List.forall_mem_cons.mpr ⟨(List.Mem.tail _ (List.Mem.tail _ (List.Mem.tail _ (List.Mem.tail _ (List.Mem.head _))))), (List.forall_mem_cons.mpr ⟨(List.Mem.tail _ (List.Mem.tail _ (List.Mem.tail _ (List.Mem.tail _ (List.Mem.tail _ (List.Mem.head _)))))), (List.forall_mem_cons.mpr ⟨(List.Mem.tail _ (List.Mem.tail _ (List.Mem.tail _ (List.Mem.tail _ (List.Mem.tail _ (List.Mem.tail _ (List.Mem.head _))))))), (List.forall_mem_cons.mpr ⟨(List.Mem.tail _ (List.Mem.tail _ (List.Mem.tail _ (List.Mem.tail _ (List.Mem.tail _ (List.Mem.tail _ (List.Mem.tail _ (List.Mem.head _)))))))), (fun _ hx => by cases hx)⟩)⟩)⟩)⟩)⟩)⟩)⟩) ?_
                rw [comB_s, if_neg (by omega), ef, if_neg (by omega), if_neg (by omega)] at hq
                refine ih (b + 1) _ _ (by omega) t1 (by omega) (by omega) ?_
                rw [Int.add_zero] at hq
                exact hq
              · have f601 : ¬ (((brB h (h (185 + s) (f' + b))).1) < (0)) := e
                refine w_iinc (x := (cm)) (z := ((cm) + (1))) (pc' := 102) (lv' := [(5, (0, ((cm) + (1)))), (7, (0, ((brB h (h (185 + s) (f' + b))).1))), (6, (0, ((b : Nat) : Int))), (0, (2, ((181 : Nat) : Int))), (1, (0, ((s : Nat) : Int))), (2, (0, ((f' : Nat) : Int))), (3, (0, ((m : Nat) : Int))), (4, (2, ((2 : Nat) : Int)))]) (o72_57 hB) rfl rfl ml72 (by decide) (w32_e (by omega) (by omega)) rfl ?_
                refine w_iinc (x := ((b : Nat) : Int)) (z := (((b + 1) : Nat) : Int)) (pc' := 105) (lv' := [(6, (0, (((b + 1) : Nat) : Int))), (5, (0, ((cm) + (1)))), (7, (0, ((brB h (h (185 + s) (f' + b))).1))), (0, (2, ((181 : Nat) : Int))), (1, (0, ((s : Nat) : Int))), (2, (0, ((f' : Nat) : Int))), (3, (0, ((m : Nat) : Int))), (4, (2, ((2 : Nat) : Int)))]) (o72_58 hB) rfl rfl ml72 (by decide) (w32_e (by omega) (by omega)) rfl ?_
                refine w_goto (pt := 40) (o72_59 hB) (by decide) ?_
                refine w_sub (lv' := [(6, (0, (((b + 1) : Nat) : Int))), (5, (0, ((cm) + (1)))), (0, (2, ((181 : Nat) : Int))), (1, (0, ((s : Nat) : Int))), (2, (0, ((f' : Nat) : Int))), (3, (0, ((m : Nat) : Int))), (4, (2, ((2 : Nat) : Int)))]) (List.forall_mem_cons.mpr ⟨(List.Mem.head _), (List.forall_mem_cons.mpr ⟨(List.Mem.tail _ (List.Mem.head _)), (List.forall_mem_cons.mpr ⟨(List.Mem.tail _ (List.Mem.tail _ (List.Mem.tail _ (List.Mem.head _)))), (List.forall_mem_cons.mpr ⟨(List.Mem.tail _ (List.Mem.tail _ (List.Mem.tail _ (List.Mem.tail _ (List.Mem.head _))))), (List.forall_mem_cons.mpr ⟨(List.Mem.tail _ (List.Mem.tail _ (List.Mem.tail _ (List.Mem.tail _ (List.Mem.tail _ (List.Mem.head _)))))), (List.forall_mem_cons.mpr ⟨(List.Mem.tail _ (List.Mem.tail _ (List.Mem.tail _ (List.Mem.tail _ (List.Mem.tail _ (List.Mem.tail _ (List.Mem.head _))))))), (List.forall_mem_cons.mpr ⟨(List.Mem.tail _ (List.Mem.tail _ (List.Mem.tail _ (List.Mem.tail _ (List.Mem.tail _ (List.Mem.tail _ (List.Mem.tail _ (List.Mem.head _)))))))), (fun _ hx => by cases hx)⟩)⟩)⟩)⟩)⟩)⟩)⟩) ?_
                rw [comB_s, if_neg (by omega), ef, if_neg (by omega), if_pos (by omega)] at hq
                refine ih (b + 1) _ _ (by omega) t1 (by omega) (by omega) ?_
                exact hq
            · have f602 : ¬ (((brB h (h (185 + s) (f' + b))).1) ≠ (-2)) := e
              refine w_pl (pc' := 93) (lv' := [(7, (0, ((brB h (h (185 + s) (f' + b))).1))), (6, (0, ((b : Nat) : Int))), (5, (0, (cm))), (0, (2, ((181 : Nat) : Int))), (1, (0, ((s : Nat) : Int))), (2, (0, ((f' : Nat) : Int))), (3, (0, ((m : Nat) : Int))), (4, (2, ((2 : Nat) : Int)))]) (st' := [(0, (-2))]) (h' := (brB h (h (185 + s) (f' + b))).2) (o72_53 hB) rfl ?_
              rw [comB_s, if_neg (by omega), ef, if_pos (by omega)] at hq
              exact w_iret (o72_54 hB) mr72 (by unfold in32; omega) hq
          · have f603 : ¬ (((f' : Nat) : Int) < ((h 183 s) - ((b : Nat) : Int))) := e
            refine w_pl (pc' := 65) (lv' := [(6, (0, ((b : Nat) : Int))), (5, (0, (cm))), (0, (2, ((181 : Nat) : Int))), (1, (0, ((s : Nat) : Int))), (2, (0, ((f' : Nat) : Int))), (3, (0, ((m : Nat) : Int))), (4, (2, ((2 : Nat) : Int)))]) (st' := [(0, (-12))]) (h' := h) (o72_37 hB) rfl ?_
            rw [comB_s, if_pos (by omega)] at hq
            exact w_iret (o72_38 hB) mr72 (by unfold in32; omega) hq
theorem m_bringClaims (hB : BytesOK) {g : bG} {l : Launch} {d : Nat} {Q : bQ} {h : bH} {s m : Nat} {f : Int} (ht : TH h) (hs : s < 4) (z_f : in32 f) (hm : m ≤ 6) (a1 : h 182 s < 0 → Q (some (0, -11)) h) (a2 : 0 ≤ h 182 s ∧ h 182 s ≠ 3 → Q (some (0, -13)) h) (a3 : h 182 s = 3 → Q (some (0, (comB s f m 0 0 h).1)) (comB s f m 0 0 h).2) : MH g l (d + 1 + 1 + 1) 72 212 212 [(2, ((181 : Nat) : Int)), (0, ((s : Nat) : Int)), (0, f), (0, ((m : Nat) : Int)), (2, ((2 : Nat) : Int))] h Q := by
  have hR := ht.r
  have z_f0 := z_f
  unfold in32 at z_f0
  refine mh_go hB mg72 ml72 (Nat.le_of_ble_eq_true rfl) ?_
  show HW g l (d + 1 + 1 + 1) 72 _ _ 0 [(0, (2, ((181 : Nat) : Int))), (1, (0, ((s : Nat) : Int))), (2, (0, (f))), (3, (0, ((m : Nat) : Int))), (4, (2, ((2 : Nat) : Int)))] [] h
  refine w_pl (pc' := 1) (lv' := [(0, (2, ((181 : Nat) : Int))), (1, (0, ((s : Nat) : Int))), (2, (0, (f))), (3, (0, ((m : Nat) : Int))), (4, (2, ((2 : Nat) : Int)))]) (st' := [(0, ((s : Nat) : Int))]) (h' := h) (o72_0 hB) rfl ?_
  refine w_callS (as := [(0, ((s : Nat) : Int))]) (rest := []) (n := 1) (pc' := 4) hB (o72_1 hB) rfl (by decide +kernel) rfl rfl (Nat.le_of_ble_eq_true rfl) (m_isSheetB hB (fun f604 => ?_) (fun f605 => ?_))
  · show HW g l _ 72 _ _ 4 [(0, (2, ((181 : Nat) : Int))), (1, (0, ((s : Nat) : Int))), (2, (0, (f))), (3, (0, ((m : Nat) : Int))), (4, (2, ((2 : Nat) : Int)))] [(0, ((1 : Nat) : Int))] h
    refine w_ifc (pt := 9) (pf := 7) (o72_2 hB) (by decide) rfl (fun e => ?_) (fun e => ?_)
    · have f606 : (((1 : Nat) : Int) ≠ (0)) := e
      refine w_pl (pc' := 10) (lv' := [(0, (2, ((181 : Nat) : Int))), (1, (0, ((s : Nat) : Int))), (2, (0, (f))), (3, (0, ((m : Nat) : Int))), (4, (2, ((2 : Nat) : Int)))]) (st' := [(2, ((181 : Nat) : Int))]) (h' := h) (o72_5 hB) rfl ?_
      refine w_getf (A := 181) (t := 2) (z := ((182 : Nat) : Int)) (pc' := 13) (o72_6 hB) rfl (by decide +kernel) (hR (181, 0, 182) (by decide)) ?_
      refine w_pl (pc' := 14) (lv' := [(0, (2, ((181 : Nat) : Int))), (1, (0, ((s : Nat) : Int))), (2, (0, (f))), (3, (0, ((m : Nat) : Int))), (4, (2, ((2 : Nat) : Int)))]) (st' := [(0, ((s : Nat) : Int)), (2, ((182 : Nat) : Int))]) (h' := h) (o72_7 hB) rfl ?_
      have f607 := ty_182_s0 ht (j := s) (r := s) (by omega) (by omega)
      refine w_iald (A := 182) (i := s) (n := 4) (z := (h 182 s)) (pc' := 15) (o72_8 hB) rfl (by decide +kernel) (by omega) rfl ?_
      refine w_ifc (pt := 21) (pf := 18) (o72_9 hB) (by decide) rfl (fun e => ?_) (fun e => ?_)
      · have f608 : ((0) ≤ (h 182 s)) := e
        refine w_pl (pc' := 22) (lv' := [(0, (2, ((181 : Nat) : Int))), (1, (0, ((s : Nat) : Int))), (2, (0, (f))), (3, (0, ((m : Nat) : Int))), (4, (2, ((2 : Nat) : Int)))]) (st' := [(2, ((181 : Nat) : Int))]) (h' := h) (o72_12 hB) rfl ?_
        refine w_getf (A := 181) (t := 2) (z := ((182 : Nat) : Int)) (pc' := 25) (o72_13 hB) rfl (by decide +kernel) (hR (181, 0, 182) (by decide)) ?_
        refine w_pl (pc' := 26) (lv' := [(0, (2, ((181 : Nat) : Int))), (1, (0, ((s : Nat) : Int))), (2, (0, (f))), (3, (0, ((m : Nat) : Int))), (4, (2, ((2 : Nat) : Int)))]) (st' := [(0, ((s : Nat) : Int)), (2, ((182 : Nat) : Int))]) (h' := h) (o72_14 hB) rfl ?_
        have f609 := ty_182_s0 ht (j := s) (r := s) (by omega) (by omega)
        refine w_iald (A := 182) (i := s) (n := 4) (z := (h 182 s)) (pc' := 27) (o72_15 hB) rfl (by decide +kernel) (by omega) rfl ?_
        refine w_pl (pc' := 28) (lv' := [(0, (2, ((181 : Nat) : Int))), (1, (0, ((s : Nat) : Int))), (2, (0, (f))), (3, (0, ((m : Nat) : Int))), (4, (2, ((2 : Nat) : Int)))]) (st' := [(0, ((3 : Nat) : Int)), (0, (h 182 s))]) (h' := h) (o72_16 hB) rfl ?_
        refine w_icmp (pt := 34) (pf := 31) (o72_17 hB) (by decide) rfl (fun e => ?_) (fun e => ?_)
        · have f610 : ((h 182 s) = ((3 : Nat) : Int)) := e
          refine w_pl (pc' := 35) (lv' := [(0, (2, ((181 : Nat) : Int))), (1, (0, ((s : Nat) : Int))), (2, (0, (f))), (3, (0, ((m : Nat) : Int))), (4, (2, ((2 : Nat) : Int)))]) (st' := [(0, ((0 : Nat) : Int))]) (h' := h) (o72_20 hB) rfl ?_
          refine w_st (tg := 0) (j := 5) (len := 2) (pc' := 37) (lv' := [(5, (0, ((0 : Nat) : Int))), (0, (2, ((181 : Nat) : Int))), (1, (0, ((s : Nat) : Int))), (2, (0, (f))), (3, (0, ((m : Nat) : Int))), (4, (2, ((2 : Nat) : Int)))]) (o72_21 hB) rfl rfl ml72 (by decide) rfl ?_
          refine w_pl (pc' := 38) (lv' := [(5, (0, ((0 : Nat) : Int))), (0, (2, ((181 : Nat) : Int))), (1, (0, ((s : Nat) : Int))), (2, (0, (f))), (3, (0, ((m : Nat) : Int))), (4, (2, ((2 : Nat) : Int)))]) (st' := [(0, ((0 : Nat) : Int))]) (h' := h) (o72_22 hB) rfl ?_
          refine w_st (tg := 0) (j := 6) (len := 2) (pc' := 40) (lv' := [(6, (0, ((0 : Nat) : Int))), (5, (0, ((0 : Nat) : Int))), (0, (2, ((181 : Nat) : Int))), (1, (0, ((s : Nat) : Int))), (2, (0, (f))), (3, (0, ((m : Nat) : Int))), (4, (2, ((2 : Nat) : Int)))]) (o72_23 hB) rfl rfl ml72 (by decide) rfl ?_
          refine w_sub (lv' := [(6, (0, ((0 : Nat) : Int))), (5, (0, ((0 : Nat) : Int))), (0, (2, ((181 : Nat) : Int))), (1, (0, ((s : Nat) : Int))), (2, (0, (f))), (3, (0, ((m : Nat) : Int))), (4, (2, ((2 : Nat) : Int)))]) (List.forall_mem_cons.mpr ⟨(List.Mem.head _), (List.forall_mem_cons.mpr ⟨(List.Mem.tail _ (List.Mem.head _)), (List.forall_mem_cons.mpr ⟨(List.Mem.tail _ (List.Mem.tail _ (List.Mem.head _))), (List.forall_mem_cons.mpr ⟨(List.Mem.tail _ (List.Mem.tail _ (List.Mem.tail _ (List.Mem.head _)))), (List.forall_mem_cons.mpr ⟨(List.Mem.tail _ (List.Mem.tail _ (List.Mem.tail _ (List.Mem.tail _ (List.Mem.head _))))), (List.forall_mem_cons.mpr ⟨(List.Mem.tail _ (List.Mem.tail _ (List.Mem.tail _ (List.Mem.tail _ (List.Mem.tail _ (List.Mem.head _)))))), (List.forall_mem_cons.mpr ⟨(List.Mem.tail _ (List.Mem.tail _ (List.Mem.tail _ (List.Mem.tail _ (List.Mem.tail _ (List.Mem.tail _ (List.Mem.head _))))))), (fun _ hx => by cases hx)⟩)⟩)⟩)⟩)⟩)⟩)⟩) ?_
          exact l_comB hB hs z_f hm m 0 0 h (by omega) ht (by omega) (by omega) (a3 (by omega))
        · have f611 : ¬ ((h 182 s) = ((3 : Nat) : Int)) := e
          refine w_pl (pc' := 33) (lv' := [(0, (2, ((181 : Nat) : Int))), (1, (0, ((s : Nat) : Int))), (2, (0, (f))), (3, (0, ((m : Nat) : Int))), (4, (2, ((2 : Nat) : Int)))]) (st' := [(0, (-13))]) (h' := h) (o72_18 hB) rfl ?_
          exact w_iret (o72_19 hB) mr72 (by unfold in32; omega) (a2 (by omega))
      · have f612 : ¬ ((0) ≤ (h 182 s)) := e
        refine w_pl (pc' := 20) (lv' := [(0, (2, ((181 : Nat) : Int))), (1, (0, ((s : Nat) : Int))), (2, (0, (f))), (3, (0, ((m : Nat) : Int))), (4, (2, ((2 : Nat) : Int)))]) (st' := [(0, (-11))]) (h' := h) (o72_10 hB) rfl ?_
        exact w_iret (o72_11 hB) mr72 (by unfold in32; omega) (a1 (by omega))
    · have f613 : ¬ (((1 : Nat) : Int) ≠ (0)) := e
      exfalso; omega
  · show HW g l _ 72 _ _ 4 [(0, (2, ((181 : Nat) : Int))), (1, (0, ((s : Nat) : Int))), (2, (0, (f))), (3, (0, ((m : Nat) : Int))), (4, (2, ((2 : Nat) : Int)))] [(0, ((0 : Nat) : Int))] h
    refine w_ifc (pt := 9) (pf := 7) (o72_2 hB) (by decide) rfl (fun e => ?_) (fun e => ?_)
    · have f614 : (((0 : Nat) : Int) ≠ (0)) := e
      exfalso; omega
    · have f615 : ¬ (((0 : Nat) : Int) ≠ (0)) := e
      refine w_pl (pc' := 8) (lv' := [(0, (2, ((181 : Nat) : Int))), (1, (0, ((s : Nat) : Int))), (2, (0, (f))), (3, (0, ((m : Nat) : Int))), (4, (2, ((2 : Nat) : Int)))]) (st' := [(0, (-1))]) (h' := h) (o72_3 hB) rfl ?_
      exfalso; omega
theorem m_comesB (hB : BytesOK) {g : bG} {l : Launch} {d : Nat} {Q : bQ} {h : bH} {s f n : Int} (ht : TH h) (z_s : in32 s) (z_f : in32 f) (z_n : in32 n) (a0 : ¬ ((0 ≤ s ∧ s ≤ 3) ∧ 0 ≤ n ∧ n ≤ 6) → Q (some (0, -1)) h) (a1 : ((0 ≤ s ∧ s ≤ 3) ∧ 0 ≤ n ∧ n ≤ 6) ∧ h 182 s.toNat < 0 → Q (some (0, -11)) h) (a2 : ((0 ≤ s ∧ s ≤ 3) ∧ 0 ≤ n ∧ n ≤ 6) ∧ 0 ≤ h 182 s.toNat ∧ h 182 s.toNat ≠ 3 → Q (some (0, -13)) h) (a3 : ((0 ≤ s ∧ s ≤ 3) ∧ 0 ≤ n ∧ n ≤ 6) ∧ h 182 s.toNat = 3 → Q (some (0, (comB s.toNat f n.toNat 0 0 h).1)) (comB s.toNat f n.toNat 0 0 h).2) : MH g l (d + 1 + 1 + 1 + 1) 163 212 212 [(2, ((0 : Nat) : Int)), (0, s), (0, f), (0, n)] h Q := by
  have hR := ht.r
  rcases (by omega : ¬ (0 ≤ s ∧ s ≤ 3) ∨ ((0 ≤ s ∧ s ≤ 3) ∧ (n < 0 ∨ 6 < n ∨ (0 ≤ n ∧ n ≤ 6)))) with gg | ⟨gg, gn | gn | gn⟩
  · skip
    refine mh_go hB mg163 ml163 (Nat.le_of_ble_eq_true rfl) ?_
    show HW g l (d + 1 + 1 + 1 + 1) 163 _ _ 0 [(0, (2, ((0 : Nat) : Int))), (1, (0, (s))), (2, (0, (f))), (3, (0, (n)))] [] h
    refine w_pl (pc' := 1) (lv' := [(0, (2, ((0 : Nat) : Int))), (1, (0, (s))), (2, (0, (f))), (3, (0, (n)))]) (st' := [(0, (s))]) (h' := h) (o163_0 hB) rfl ?_
    refine w_callS (as := [(0, (s))]) (rest := []) (n := 1) (pc' := 4) hB (o163_1 hB) rfl (by decide +kernel) rfl rfl (Nat.le_of_ble_eq_true rfl) (m_isSheetB hB (fun f616 => ?_) (fun f617 => ?_))
    · exfalso; omega
    · show HW g l _ 163 _ _ 4 [(0, (2, ((0 : Nat) : Int))), (1, (0, (s))), (2, (0, (f))), (3, (0, (n)))] [(0, ((0 : Nat) : Int))] h
      refine w_ifc (pt := 17) (pf := 7) (o163_2 hB) (by decide) rfl (fun e => ?_) (fun e => ?_)
      · have f618 : (((0 : Nat) : Int) = (0)) := e
        refine w_pl (pc' := 18) (lv' := [(0, (2, ((0 : Nat) : Int))), (1, (0, (s))), (2, (0, (f))), (3, (0, (n)))]) (st' := [(0, (-1))]) (h' := h) (o163_8 hB) rfl ?_
        exact w_iret (o163_9 hB) mr163 (by unfold in32; omega) (a0 (by omega))
      · have f619 : ¬ (((0 : Nat) : Int) = (0)) := e
        exfalso; omega
  · obtain ⟨s', e_s⟩ : ∃ q : Nat, s = q := ⟨s.toNat, by omega⟩
    subst e_s
    refine mh_go hB mg163 ml163 (Nat.le_of_ble_eq_true rfl) ?_
    show HW g l (d + 1 + 1 + 1 + 1) 163 _ _ 0 [(0, (2, ((0 : Nat) : Int))), (1, (0, ((s' : Nat) : Int))), (2, (0, (f))), (3, (0, (n)))] [] h
    refine w_pl (pc' := 1) (lv' := [(0, (2, ((0 : Nat) : Int))), (1, (0, ((s' : Nat) : Int))), (2, (0, (f))), (3, (0, (n)))]) (st' := [(0, ((s' : Nat) : Int))]) (h' := h) (o163_0 hB) rfl ?_
    refine w_callS (as := [(0, ((s' : Nat) : Int))]) (rest := []) (n := 1) (pc' := 4) hB (o163_1 hB) rfl (by decide +kernel) rfl rfl (Nat.le_of_ble_eq_true rfl) (m_isSheetB hB (fun f620 => ?_) (fun f621 => ?_))
    · show HW g l _ 163 _ _ 4 [(0, (2, ((0 : Nat) : Int))), (1, (0, ((s' : Nat) : Int))), (2, (0, (f))), (3, (0, (n)))] [(0, ((1 : Nat) : Int))] h
      refine w_ifc (pt := 17) (pf := 7) (o163_2 hB) (by decide) rfl (fun e => ?_) (fun e => ?_)
      · have f622 : (((1 : Nat) : Int) = (0)) := e
        exfalso; omega
      · have f623 : ¬ (((1 : Nat) : Int) = (0)) := e
        refine w_pl (pc' := 8) (lv' := [(0, (2, ((0 : Nat) : Int))), (1, (0, ((s' : Nat) : Int))), (2, (0, (f))), (3, (0, (n)))]) (st' := [(0, (n))]) (h' := h) (o163_3 hB) rfl ?_
        refine w_ifc (pt := 17) (pf := 11) (o163_4 hB) (by decide) rfl (fun e => ?_) (fun e => ?_)
        · have f624 : ((n) < (0)) := e
          refine w_pl (pc' := 18) (lv' := [(0, (2, ((0 : Nat) : Int))), (1, (0, ((s' : Nat) : Int))), (2, (0, (f))), (3, (0, (n)))]) (st' := [(0, (-1))]) (h' := h) (o163_8 hB) rfl ?_
          exact w_iret (o163_9 hB) mr163 (by unfold in32; omega) (a0 (by omega))
        · have f625 : ¬ ((n) < (0)) := e
          exfalso; omega
    · show HW g l _ 163 _ _ 4 [(0, (2, ((0 : Nat) : Int))), (1, (0, ((s' : Nat) : Int))), (2, (0, (f))), (3, (0, (n)))] [(0, ((0 : Nat) : Int))] h
      refine w_ifc (pt := 17) (pf := 7) (o163_2 hB) (by decide) rfl (fun e => ?_) (fun e => ?_)
      · have f626 : (((0 : Nat) : Int) = (0)) := e
        refine w_pl (pc' := 18) (lv' := [(0, (2, ((0 : Nat) : Int))), (1, (0, ((s' : Nat) : Int))), (2, (0, (f))), (3, (0, (n)))]) (st' := [(0, (-1))]) (h' := h) (o163_8 hB) rfl ?_
        exact w_iret (o163_9 hB) mr163 (by unfold in32; omega) (a0 (by omega))
      · have f627 : ¬ (((0 : Nat) : Int) = (0)) := e
        exfalso; omega
  · obtain ⟨s', e_s⟩ : ∃ q : Nat, s = q := ⟨s.toNat, by omega⟩
    subst e_s
    refine mh_go hB mg163 ml163 (Nat.le_of_ble_eq_true rfl) ?_
    show HW g l (d + 1 + 1 + 1 + 1) 163 _ _ 0 [(0, (2, ((0 : Nat) : Int))), (1, (0, ((s' : Nat) : Int))), (2, (0, (f))), (3, (0, (n)))] [] h
    refine w_pl (pc' := 1) (lv' := [(0, (2, ((0 : Nat) : Int))), (1, (0, ((s' : Nat) : Int))), (2, (0, (f))), (3, (0, (n)))]) (st' := [(0, ((s' : Nat) : Int))]) (h' := h) (o163_0 hB) rfl ?_
    refine w_callS (as := [(0, ((s' : Nat) : Int))]) (rest := []) (n := 1) (pc' := 4) hB (o163_1 hB) rfl (by decide +kernel) rfl rfl (Nat.le_of_ble_eq_true rfl) (m_isSheetB hB (fun f628 => ?_) (fun f629 => ?_))
    · show HW g l _ 163 _ _ 4 [(0, (2, ((0 : Nat) : Int))), (1, (0, ((s' : Nat) : Int))), (2, (0, (f))), (3, (0, (n)))] [(0, ((1 : Nat) : Int))] h
      refine w_ifc (pt := 17) (pf := 7) (o163_2 hB) (by decide) rfl (fun e => ?_) (fun e => ?_)
      · have f630 : (((1 : Nat) : Int) = (0)) := e
        exfalso; omega
      · have f631 : ¬ (((1 : Nat) : Int) = (0)) := e
        refine w_pl (pc' := 8) (lv' := [(0, (2, ((0 : Nat) : Int))), (1, (0, ((s' : Nat) : Int))), (2, (0, (f))), (3, (0, (n)))]) (st' := [(0, (n))]) (h' := h) (o163_3 hB) rfl ?_
        refine w_ifc (pt := 17) (pf := 11) (o163_4 hB) (by decide) rfl (fun e => ?_) (fun e => ?_)
        · have f632 : ((n) < (0)) := e
          refine w_pl (pc' := 18) (lv' := [(0, (2, ((0 : Nat) : Int))), (1, (0, ((s' : Nat) : Int))), (2, (0, (f))), (3, (0, (n)))]) (st' := [(0, (-1))]) (h' := h) (o163_8 hB) rfl ?_
          exact w_iret (o163_9 hB) mr163 (by unfold in32; omega) (a0 (by omega))
        · have f633 : ¬ ((n) < (0)) := e
          refine w_pl (pc' := 12) (lv' := [(0, (2, ((0 : Nat) : Int))), (1, (0, ((s' : Nat) : Int))), (2, (0, (f))), (3, (0, (n)))]) (st' := [(0, (n))]) (h' := h) (o163_5 hB) rfl ?_
          refine w_pl (pc' := 14) (lv' := [(0, (2, ((0 : Nat) : Int))), (1, (0, ((s' : Nat) : Int))), (2, (0, (f))), (3, (0, (n)))]) (st' := [(0, ((6 : Nat) : Int)), (0, (n))]) (h' := h) (o163_6 hB) rfl ?_
          refine w_icmp (pt := 19) (pf := 17) (o163_7 hB) (by decide) rfl (fun e => ?_) (fun e => ?_)
          · have f634 : ((n) ≤ ((6 : Nat) : Int)) := e
            exfalso; omega
          · have f635 : ¬ ((n) ≤ ((6 : Nat) : Int)) := e
            refine w_pl (pc' := 18) (lv' := [(0, (2, ((0 : Nat) : Int))), (1, (0, ((s' : Nat) : Int))), (2, (0, (f))), (3, (0, (n)))]) (st' := [(0, (-1))]) (h' := h) (o163_8 hB) rfl ?_
            exact w_iret (o163_9 hB) mr163 (by unfold in32; omega) (a0 (by omega))
    · show HW g l _ 163 _ _ 4 [(0, (2, ((0 : Nat) : Int))), (1, (0, ((s' : Nat) : Int))), (2, (0, (f))), (3, (0, (n)))] [(0, ((0 : Nat) : Int))] h
      refine w_ifc (pt := 17) (pf := 7) (o163_2 hB) (by decide) rfl (fun e => ?_) (fun e => ?_)
      · have f636 : (((0 : Nat) : Int) = (0)) := e
        refine w_pl (pc' := 18) (lv' := [(0, (2, ((0 : Nat) : Int))), (1, (0, ((s' : Nat) : Int))), (2, (0, (f))), (3, (0, (n)))]) (st' := [(0, (-1))]) (h' := h) (o163_8 hB) rfl ?_
        exact w_iret (o163_9 hB) mr163 (by unfold in32; omega) (a0 (by omega))
      · have f637 : ¬ (((0 : Nat) : Int) = (0)) := e
        exfalso; omega
  · obtain ⟨s', e_s⟩ : ∃ q : Nat, s = q := ⟨s.toNat, by omega⟩
    subst e_s
    obtain ⟨m, e_n⟩ : ∃ q : Nat, n = q := ⟨n.toNat, by omega⟩
    subst e_n
    simp only [Int.toNat_natCast] at a1 a2 a3
    refine mh_go hB mg163 ml163 (Nat.le_of_ble_eq_true rfl) ?_
    show HW g l (d + 1 + 1 + 1 + 1) 163 _ _ 0 [(0, (2, ((0 : Nat) : Int))), (1, (0, ((s' : Nat) : Int))), (2, (0, (f))), (3, (0, ((m : Nat) : Int)))] [] h
    refine w_pl (pc' := 1) (lv' := [(0, (2, ((0 : Nat) : Int))), (1, (0, ((s' : Nat) : Int))), (2, (0, (f))), (3, (0, ((m : Nat) : Int)))]) (st' := [(0, ((s' : Nat) : Int))]) (h' := h) (o163_0 hB) rfl ?_
    refine w_callS (as := [(0, ((s' : Nat) : Int))]) (rest := []) (n := 1) (pc' := 4) hB (o163_1 hB) rfl (by decide +kernel) rfl rfl (Nat.le_of_ble_eq_true rfl) (m_isSheetB hB (fun f638 => ?_) (fun f639 => ?_))
    · show HW g l _ 163 _ _ 4 [(0, (2, ((0 : Nat) : Int))), (1, (0, ((s' : Nat) : Int))), (2, (0, (f))), (3, (0, ((m : Nat) : Int)))] [(0, ((1 : Nat) : Int))] h
      refine w_ifc (pt := 17) (pf := 7) (o163_2 hB) (by decide) rfl (fun e => ?_) (fun e => ?_)
      · have f640 : (((1 : Nat) : Int) = (0)) := e
        exfalso; omega
      · have f641 : ¬ (((1 : Nat) : Int) = (0)) := e
        refine w_pl (pc' := 8) (lv' := [(0, (2, ((0 : Nat) : Int))), (1, (0, ((s' : Nat) : Int))), (2, (0, (f))), (3, (0, ((m : Nat) : Int)))]) (st' := [(0, ((m : Nat) : Int))]) (h' := h) (o163_3 hB) rfl ?_
        refine w_ifc (pt := 17) (pf := 11) (o163_4 hB) (by decide) rfl (fun e => ?_) (fun e => ?_)
        · have f642 : (((m : Nat) : Int) < (0)) := e
          refine w_pl (pc' := 18) (lv' := [(0, (2, ((0 : Nat) : Int))), (1, (0, ((s' : Nat) : Int))), (2, (0, (f))), (3, (0, ((m : Nat) : Int)))]) (st' := [(0, (-1))]) (h' := h) (o163_8 hB) rfl ?_
          exact w_iret (o163_9 hB) mr163 (by unfold in32; omega) (a0 (by omega))
        · have f643 : ¬ (((m : Nat) : Int) < (0)) := e
          refine w_pl (pc' := 12) (lv' := [(0, (2, ((0 : Nat) : Int))), (1, (0, ((s' : Nat) : Int))), (2, (0, (f))), (3, (0, ((m : Nat) : Int)))]) (st' := [(0, ((m : Nat) : Int))]) (h' := h) (o163_5 hB) rfl ?_
          refine w_pl (pc' := 14) (lv' := [(0, (2, ((0 : Nat) : Int))), (1, (0, ((s' : Nat) : Int))), (2, (0, (f))), (3, (0, ((m : Nat) : Int)))]) (st' := [(0, ((6 : Nat) : Int)), (0, ((m : Nat) : Int))]) (h' := h) (o163_6 hB) rfl ?_
          refine w_icmp (pt := 19) (pf := 17) (o163_7 hB) (by decide) rfl (fun e => ?_) (fun e => ?_)
          · have f644 : (((m : Nat) : Int) ≤ ((6 : Nat) : Int)) := e
            refine w_pl (pc' := 20) (lv' := [(0, (2, ((0 : Nat) : Int))), (1, (0, ((s' : Nat) : Int))), (2, (0, (f))), (3, (0, ((m : Nat) : Int)))]) (st' := [(2, ((0 : Nat) : Int))]) (h' := h) (o163_10 hB) rfl ?_
            refine w_getf (A := 0) (t := 2) (z := ((181 : Nat) : Int)) (pc' := 23) (o163_11 hB) rfl (by decide +kernel) (hR (0, 5, 181) (by decide)) ?_
            refine w_pl (pc' := 24) (lv' := [(0, (2, ((0 : Nat) : Int))), (1, (0, ((s' : Nat) : Int))), (2, (0, (f))), (3, (0, ((m : Nat) : Int)))]) (st' := [(0, ((s' : Nat) : Int)), (2, ((181 : Nat) : Int))]) (h' := h) (o163_12 hB) rfl ?_
            refine w_pl (pc' := 25) (lv' := [(0, (2, ((0 : Nat) : Int))), (1, (0, ((s' : Nat) : Int))), (2, (0, (f))), (3, (0, ((m : Nat) : Int)))]) (st' := [(0, (f)), (0, ((s' : Nat) : Int)), (2, ((181 : Nat) : Int))]) (h' := h) (o163_13 hB) rfl ?_
            refine w_pl (pc' := 26) (lv' := [(0, (2, ((0 : Nat) : Int))), (1, (0, ((s' : Nat) : Int))), (2, (0, (f))), (3, (0, ((m : Nat) : Int)))]) (st' := [(0, ((m : Nat) : Int)), (0, (f)), (0, ((s' : Nat) : Int)), (2, ((181 : Nat) : Int))]) (h' := h) (o163_14 hB) rfl ?_
            refine w_pl (pc' := 27) (lv' := [(0, (2, ((0 : Nat) : Int))), (1, (0, ((s' : Nat) : Int))), (2, (0, (f))), (3, (0, ((m : Nat) : Int)))]) (st' := [(2, ((0 : Nat) : Int)), (0, ((m : Nat) : Int)), (0, (f)), (0, ((s' : Nat) : Int)), (2, ((181 : Nat) : Int))]) (h' := h) (o163_15 hB) rfl ?_
            refine w_getf (A := 0) (t := 2) (z := ((1 : Nat) : Int)) (pc' := 30) (o163_16 hB) rfl (by decide +kernel) (hR (0, 0, 1) (by decide)) ?_
            refine w_getf (A := 1) (t := 2) (z := ((2 : Nat) : Int)) (pc' := 33) (o163_17 hB) rfl (by decide +kernel) (hR (1, 0, 2) (by decide)) ?_
            refine w_callV (A := 181) (as := [(0, ((s' : Nat) : Int)), (0, (f)), (0, ((m : Nat) : Int)), (2, ((2 : Nat) : Int))]) (rest := []) (n := 4) (pc' := 36) 5 hB (o163_18 hB) rfl (by decide +kernel) rfl rfl (Nat.le_of_ble_eq_true rfl) (m_bringClaims hB ht (s := s') (m := m) (by omega) z_f (by omega) (fun f645 => ?_) (fun f646 => ?_) (fun f647 => ?_))
            · show HW g l _ 163 _ _ 36 [(0, (2, ((0 : Nat) : Int))), (1, (0, ((s' : Nat) : Int))), (2, (0, (f))), (3, (0, ((m : Nat) : Int)))] [(0, (-11))] h
              exact w_iret (o163_19 hB) mr163 (by unfold in32; omega) (a1 (by omega))
            · show HW g l _ 163 _ _ 36 [(0, (2, ((0 : Nat) : Int))), (1, (0, ((s' : Nat) : Int))), (2, (0, (f))), (3, (0, ((m : Nat) : Int)))] [(0, (-13))] h
              exact w_iret (o163_19 hB) mr163 (by unfold in32; omega) (a2 (by omega))
            · show HW g l _ 163 _ _ 36 [(0, (2, ((0 : Nat) : Int))), (1, (0, ((s' : Nat) : Int))), (2, (0, (f))), (3, (0, ((m : Nat) : Int)))] [(0, ((comB s' f m 0 0 h).1))] (comB s' f m 0 0 h).2
              have rr := comB_TH (s := s') (f := f) (by omega) m 0 0 h ht (by omega) (by omega) (by omega)
              exact w_iret (o163_19 hB) mr163 (by unfold in32; omega) (a3 (by omega))
          · have f648 : ¬ (((m : Nat) : Int) ≤ ((6 : Nat) : Int)) := e
            refine w_pl (pc' := 18) (lv' := [(0, (2, ((0 : Nat) : Int))), (1, (0, ((s' : Nat) : Int))), (2, (0, (f))), (3, (0, ((m : Nat) : Int)))]) (st' := [(0, (-1))]) (h' := h) (o163_8 hB) rfl ?_
            exact w_iret (o163_9 hB) mr163 (by unfold in32; omega) (a0 (by omega))
    · show HW g l _ 163 _ _ 4 [(0, (2, ((0 : Nat) : Int))), (1, (0, ((s' : Nat) : Int))), (2, (0, (f))), (3, (0, ((m : Nat) : Int)))] [(0, ((0 : Nat) : Int))] h
      refine w_ifc (pt := 17) (pf := 7) (o163_2 hB) (by decide) rfl (fun e => ?_) (fun e => ?_)
      · have f649 : (((0 : Nat) : Int) = (0)) := e
        refine w_pl (pc' := 18) (lv' := [(0, (2, ((0 : Nat) : Int))), (1, (0, ((s' : Nat) : Int))), (2, (0, (f))), (3, (0, ((m : Nat) : Int)))]) (st' := [(0, (-1))]) (h' := h) (o163_8 hB) rfl ?_
        exact w_iret (o163_9 hB) mr163 (by unfold in32; omega) (a0 (by omega))
      · have f650 : ¬ (((0 : Nat) : Int) = (0)) := e
        exfalso; omega
theorem brM_n {h : bH} {t : Int} (e : t < 0) : brM h t = (-1, h) := by
  unfold brM
  rw [if_pos e]
theorem brM_p {h : bH} {t : Int} (e : ¬ t < 0) : brM h t = clM h (t % 1000) (t / 1000 % 10000) (t / 10000000 * 1000) (-1) := by
  unfold brM
  rw [if_neg e]
theorem l_comM (hB : BytesOK) {g : bG} {l : Launch} {d : Nat} {Q : bQ} {r m : Nat} {f : Int} (hr : r < 8) (z_f : in32 f) (hm : m ≤ 6) : ∀ (n b : Nat) (cm : Int) (h : bH), b + n = m → TH h → 0 ≤ cm → cm ≤ (b : Int) → Q (some (0, (comM r f n b cm h).1)) (comM r f n b cm h).2 → HW g l (d + 1 + 1 + 1) 276 212 Q 60 [(6, (0, ((b : Nat) : Int))), (5, (0, (cm))), (4, (0, ((r : Nat) : Int))), (0, (2, ((193 : Nat) : Int))), (2, (0, (f))), (3, (0, ((m : Nat) : Int)))] [] h := by
  unfold in32 at z_f
  intro n
  induction n with
  | zero =>
    intro b cm h hb ht h1 h2 hq
    have hR := ht.r
    refine w_pl (pc' := 62) (lv' := [(6, (0, ((b : Nat) : Int))), (5, (0, (cm))), (4, (0, ((r : Nat) : Int))), (0, (2, ((193 : Nat) : Int))), (2, (0, (f))), (3, (0, ((m : Nat) : Int)))]) (st' := [(0, ((b : Nat) : Int))]) (h' := h) (o276_33 hB) rfl ?_
    refine w_pl (pc' := 63) (lv' := [(6, (0, ((b : Nat) : Int))), (5, (0, (cm))), (4, (0, ((r : Nat) : Int))), (0, (2, ((193 : Nat) : Int))), (2, (0, (f))), (3, (0, ((m : Nat) : Int)))]) (st' := [(0, ((m : Nat) : Int)), (0, ((b : Nat) : Int))]) (h' := h) (o276_34 hB) rfl ?_
    refine w_icmp (pt := 179) (pf := 66) (o276_35 hB) (by decide) rfl (fun e => ?_) (fun e => ?_)
    · have f651 : (((m : Nat) : Int) ≤ ((b : Nat) : Int)) := e
      refine w_pl (pc' := 181) (lv' := [(6, (0, ((b : Nat) : Int))), (5, (0, (cm))), (4, (0, ((r : Nat) : Int))), (0, (2, ((193 : Nat) : Int))), (2, (0, (f))), (3, (0, ((m : Nat) : Int)))]) (st' := [(0, (cm))]) (h' := h) (o276_97 hB) rfl ?_
      exact w_iret (o276_98 hB) mr276 (by unfold in32; omega) hq
    · have f652 : ¬ (((m : Nat) : Int) ≤ ((b : Nat) : Int)) := e
      exfalso; omega
  | succ n ih =>
    intro b cm h hb ht h1 h2 hq
    have hR := ht.r
    have r3 := ty_207_s0 ht (j := r) (r := r) (by omega) (by omega)
    rcases (by omega : f < 0 ∨ 0 ≤ f) with gf | gf
    · skip
      refine w_pl (pc' := 62) (lv' := [(6, (0, ((b : Nat) : Int))), (5, (0, (cm))), (4, (0, ((r : Nat) : Int))), (0, (2, ((193 : Nat) : Int))), (2, (0, (f))), (3, (0, ((m : Nat) : Int)))]) (st' := [(0, ((b : Nat) : Int))]) (h' := h) (o276_33 hB) rfl ?_
      refine w_pl (pc' := 63) (lv' := [(6, (0, ((b : Nat) : Int))), (5, (0, (cm))), (4, (0, ((r : Nat) : Int))), (0, (2, ((193 : Nat) : Int))), (2, (0, (f))), (3, (0, ((m : Nat) : Int)))]) (st' := [(0, ((m : Nat) : Int)), (0, ((b : Nat) : Int))]) (h' := h) (o276_34 hB) rfl ?_
      refine w_icmp (pt := 179) (pf := 66) (o276_35 hB) (by decide) rfl (fun e => ?_) (fun e => ?_)
      · have f653 : (((m : Nat) : Int) ≤ ((b : Nat) : Int)) := e
        exfalso; omega
      · have f654 : ¬ (((m : Nat) : Int) ≤ ((b : Nat) : Int)) := e
        refine w_pl (pc' := 67) (lv' := [(6, (0, ((b : Nat) : Int))), (5, (0, (cm))), (4, (0, ((r : Nat) : Int))), (0, (2, ((193 : Nat) : Int))), (2, (0, (f))), (3, (0, ((m : Nat) : Int)))]) (st' := [(0, (f))]) (h' := h) (o276_36 hB) rfl ?_
        refine w_ifc (pt := 86) (pf := 70) (o276_37 hB) (by decide) rfl (fun e => ?_) (fun e => ?_)
        · have f655 : ((f) < (0)) := e
          refine w_pl (pc' := 88) (lv' := [(6, (0, ((b : Nat) : Int))), (5, (0, (cm))), (4, (0, ((r : Nat) : Int))), (0, (2, ((193 : Nat) : Int))), (2, (0, (f))), (3, (0, ((m : Nat) : Int)))]) (st' := [(0, (-12))]) (h' := h) (o276_48 hB) rfl ?_
          rw [comM_s, if_pos (by omega)] at hq
          exact w_iret (o276_49 hB) mr276 (by unfold in32; omega) hq
        · have f656 : ¬ ((f) < (0)) := e
          exfalso; omega
    · obtain ⟨f', e_f⟩ : ∃ q : Nat, f = q := ⟨f.toNat, by omega⟩
      subst e_f
      have ef : ((f' : Nat) : Int).toNat = f' := Int.toNat_natCast f'
      refine w_pl (pc' := 62) (lv' := [(6, (0, ((b : Nat) : Int))), (5, (0, (cm))), (4, (0, ((r : Nat) : Int))), (0, (2, ((193 : Nat) : Int))), (2, (0, ((f' : Nat) : Int))), (3, (0, ((m : Nat) : Int)))]) (st' := [(0, ((b : Nat) : Int))]) (h' := h) (o276_33 hB) rfl ?_
      refine w_pl (pc' := 63) (lv' := [(6, (0, ((b : Nat) : Int))), (5, (0, (cm))), (4, (0, ((r : Nat) : Int))), (0, (2, ((193 : Nat) : Int))), (2, (0, ((f' : Nat) : Int))), (3, (0, ((m : Nat) : Int)))]) (st' := [(0, ((m : Nat) : Int)), (0, ((b : Nat) : Int))]) (h' := h) (o276_34 hB) rfl ?_
      refine w_icmp (pt := 179) (pf := 66) (o276_35 hB) (by decide) rfl (fun e => ?_) (fun e => ?_)
      · have f657 : (((m : Nat) : Int) ≤ ((b : Nat) : Int)) := e
        exfalso; omega
      · have f658 : ¬ (((m : Nat) : Int) ≤ ((b : Nat) : Int)) := e
        refine w_pl (pc' := 67) (lv' := [(6, (0, ((b : Nat) : Int))), (5, (0, (cm))), (4, (0, ((r : Nat) : Int))), (0, (2, ((193 : Nat) : Int))), (2, (0, ((f' : Nat) : Int))), (3, (0, ((m : Nat) : Int)))]) (st' := [(0, ((f' : Nat) : Int))]) (h' := h) (o276_36 hB) rfl ?_
        refine w_ifc (pt := 86) (pf := 70) (o276_37 hB) (by decide) rfl (fun e => ?_) (fun e => ?_)
        · have f659 : (((f' : Nat) : Int) < (0)) := e
          refine w_pl (pc' := 88) (lv' := [(6, (0, ((b : Nat) : Int))), (5, (0, (cm))), (4, (0, ((r : Nat) : Int))), (0, (2, ((193 : Nat) : Int))), (2, (0, ((f' : Nat) : Int))), (3, (0, ((m : Nat) : Int)))]) (st' := [(0, (-12))]) (h' := h) (o276_48 hB) rfl ?_
          rw [comM_s, if_pos (by omega)] at hq
          exact w_iret (o276_49 hB) mr276 (by unfold in32; omega) hq
        · have f660 : ¬ (((f' : Nat) : Int) < (0)) := e
          refine w_pl (pc' := 71) (lv' := [(6, (0, ((b : Nat) : Int))), (5, (0, (cm))), (4, (0, ((r : Nat) : Int))), (0, (2, ((193 : Nat) : Int))), (2, (0, ((f' : Nat) : Int))), (3, (0, ((m : Nat) : Int)))]) (st' := [(0, ((f' : Nat) : Int))]) (h' := h) (o276_38 hB) rfl ?_
          refine w_pl (pc' := 72) (lv' := [(6, (0, ((b : Nat) : Int))), (5, (0, (cm))), (4, (0, ((r : Nat) : Int))), (0, (2, ((193 : Nat) : Int))), (2, (0, ((f' : Nat) : Int))), (3, (0, ((m : Nat) : Int)))]) (st' := [(2, ((193 : Nat) : Int)), (0, ((f' : Nat) : Int))]) (h' := h) (o276_39 hB) rfl ?_
          refine w_getf (A := 193) (t := 2) (z := ((207 : Nat) : Int)) (pc' := 75) (o276_40 hB) rfl (by decide +kernel) (hR (193, 37, 207) (by decide)) ?_
          refine w_pl (pc' := 77) (lv' := [(6, (0, ((b : Nat) : Int))), (5, (0, (cm))), (4, (0, ((r : Nat) : Int))), (0, (2, ((193 : Nat) : Int))), (2, (0, ((f' : Nat) : Int))), (3, (0, ((m : Nat) : Int)))]) (st' := [(0, ((r : Nat) : Int)), (2, ((207 : Nat) : Int)), (0, ((f' : Nat) : Int))]) (h' := h) (o276_41 hB) rfl ?_
          have f661 := ty_207_s0 ht (j := r) (r := r) (by omega) (by omega)
          refine w_iald (A := 207) (i := r) (n := 8) (z := (h 207 r)) (pc' := 78) (o276_42 hB) rfl (by decide +kernel) (by omega) rfl ?_
          refine w_pl (pc' := 79) (lv' := [(6, (0, ((b : Nat) : Int))), (5, (0, (cm))), (4, (0, ((r : Nat) : Int))), (0, (2, ((193 : Nat) : Int))), (2, (0, ((f' : Nat) : Int))), (3, (0, ((m : Nat) : Int)))]) (st' := [(0, ((1 : Nat) : Int)), (0, (h 207 r)), (0, ((f' : Nat) : Int))]) (h' := h) (o276_43 hB) rfl ?_
          refine w_isub (z := ((h 207 r) - ((1 : Nat) : Int))) (pc' := 80) (o276_44 hB) rfl (w32_e (by omega) (by omega)) ?_
          refine w_pl (pc' := 82) (lv' := [(6, (0, ((b : Nat) : Int))), (5, (0, (cm))), (4, (0, ((r : Nat) : Int))), (0, (2, ((193 : Nat) : Int))), (2, (0, ((f' : Nat) : Int))), (3, (0, ((m : Nat) : Int)))]) (st' := [(0, ((b : Nat) : Int)), (0, ((h 207 r) - ((1 : Nat) : Int))), (0, ((f' : Nat) : Int))]) (h' := h) (o276_45 hB) rfl ?_
          refine w_isub (z := (((h 207 r) - ((1 : Nat) : Int)) - ((b : Nat) : Int))) (pc' := 83) (o276_46 hB) rfl (w32_e (by omega) (by omega)) ?_
          refine w_icmp (pt := 89) (pf := 86) (o276_47 hB) (by decide) rfl (fun e => ?_) (fun e => ?_)
          · have f662 : (((f' : Nat) : Int) ≤ (((h 207 r) - ((1 : Nat) : Int)) - ((b : Nat) : Int))) := e
            refine w_pl (pc' := 90) (lv' := [(6, (0, ((b : Nat) : Int))), (5, (0, (cm))), (4, (0, ((r : Nat) : Int))), (0, (2, ((193 : Nat) : Int))), (2, (0, ((f' : Nat) : Int))), (3, (0, ((m : Nat) : Int)))]) (st' := [(2, ((193 : Nat) : Int))]) (h' := h) (o276_50 hB) rfl ?_
            refine w_getf (A := 193) (t := 2) (z := ((208 : Nat) : Int)) (pc' := 93) (o276_51 hB) rfl (by decide +kernel) (hR (193, 38, 208) (by decide)) ?_
            refine w_pl (pc' := 95) (lv' := [(6, (0, ((b : Nat) : Int))), (5, (0, (cm))), (4, (0, ((r : Nat) : Int))), (0, (2, ((193 : Nat) : Int))), (2, (0, ((f' : Nat) : Int))), (3, (0, ((m : Nat) : Int)))]) (st' := [(0, ((40 : Nat) : Int)), (2, ((208 : Nat) : Int))]) (h' := h) (o276_52 hB) rfl ?_
            refine w_pl (pc' := 97) (lv' := [(6, (0, ((b : Nat) : Int))), (5, (0, (cm))), (4, (0, ((r : Nat) : Int))), (0, (2, ((193 : Nat) : Int))), (2, (0, ((f' : Nat) : Int))), (3, (0, ((m : Nat) : Int)))]) (st' := [(0, ((r : Nat) : Int)), (0, ((40 : Nat) : Int)), (2, ((208 : Nat) : Int))]) (h' := h) (o276_53 hB) rfl ?_
            refine w_imul (z := (((40 * r) : Nat) : Int)) (pc' := 98) (o276_54 hB) rfl (w32_e (by omega) (by omega)) ?_
            refine w_pl (pc' := 99) (lv' := [(6, (0, ((b : Nat) : Int))), (5, (0, (cm))), (4, (0, ((r : Nat) : Int))), (0, (2, ((193 : Nat) : Int))), (2, (0, ((f' : Nat) : Int))), (3, (0, ((m : Nat) : Int)))]) (st' := [(0, ((f' : Nat) : Int)), (0, (((40 * r) : Nat) : Int)), (2, ((208 : Nat) : Int))]) (h' := h) (o276_55 hB) rfl ?_
            refine w_iadd (z := ((((40 * r) + f') : Nat) : Int)) (pc' := 100) (o276_56 hB) rfl (w32_e (by omega) (by omega)) ?_
            refine w_pl (pc' := 102) (lv' := [(6, (0, ((b : Nat) : Int))), (5, (0, (cm))), (4, (0, ((r : Nat) : Int))), (0, (2, ((193 : Nat) : Int))), (2, (0, ((f' : Nat) : Int))), (3, (0, ((m : Nat) : Int)))]) (st' := [(0, ((b : Nat) : Int)), (0, ((((40 * r) + f') : Nat) : Int)), (2, ((208 : Nat) : Int))]) (h' := h) (o276_57 hB) rfl ?_
            refine w_iadd (z := (((((40 * r) + f') + b) : Nat) : Int)) (pc' := 103) (o276_58 hB) rfl (w32_e (by omega) (by omega)) ?_
            have f663 := sB_x2 ht (a := 208) (n := 320) (by decide +kernel) (j := (((40 * r) + f') + b)) (by omega)
            refine w_iald (A := 208) (i := (((40 * r) + f') + b)) (n := 320) (z := (h 208 (((40 * r) + f') + b))) (pc' := 104) (o276_59 hB) rfl (by decide +kernel) (by omega) rfl ?_
            refine w_st (tg := 0) (j := 7) (len := 2) (pc' := 106) (lv' := [(7, (0, (h 208 (((40 * r) + f') + b)))), (6, (0, ((b : Nat) : Int))), (5, (0, (cm))), (4, (0, ((r : Nat) : Int))), (0, (2, ((193 : Nat) : Int))), (2, (0, ((f' : Nat) : Int))), (3, (0, ((m : Nat) : Int)))]) (o276_60 hB) rfl rfl ml276 (by decide) rfl ?_
            refine w_pl (pc' := 108) (lv' := [(7, (0, (h 208 (((40 * r) + f') + b)))), (6, (0, ((b : Nat) : Int))), (5, (0, (cm))), (4, (0, ((r : Nat) : Int))), (0, (2, ((193 : Nat) : Int))), (2, (0, ((f' : Nat) : Int))), (3, (0, ((m : Nat) : Int)))]) (st' := [(0, (h 208 (((40 * r) + f') + b)))]) (h' := h) (o276_61 hB) rfl ?_
            refine w_ifc (pt := 115) (pf := 111) (o276_62 hB) (by decide) rfl (fun e => ?_) (fun e => ?_)
            · have f664 : ((0) ≤ (h 208 (((40 * r) + f') + b))) := e
              refine w_pl (pc' := 116) (lv' := [(7, (0, (h 208 (((40 * r) + f') + b)))), (6, (0, ((b : Nat) : Int))), (5, (0, (cm))), (4, (0, ((r : Nat) : Int))), (0, (2, ((193 : Nat) : Int))), (2, (0, ((f' : Nat) : Int))), (3, (0, ((m : Nat) : Int)))]) (st' := [(2, ((193 : Nat) : Int))]) (h' := h) (o276_65 hB) rfl ?_
              refine w_pl (pc' := 118) (lv' := [(7, (0, (h 208 (((40 * r) + f') + b)))), (6, (0, ((b : Nat) : Int))), (5, (0, (cm))), (4, (0, ((r : Nat) : Int))), (0, (2, ((193 : Nat) : Int))), (2, (0, ((f' : Nat) : Int))), (3, (0, ((m : Nat) : Int)))]) (st' := [(0, (h 208 (((40 * r) + f') + b))), (2, ((193 : Nat) : Int))]) (h' := h) (o276_66 hB) rfl ?_
              refine w_pl (pc' := 121) (lv' := [(7, (0, (h 208 (((40 * r) + f') + b)))), (6, (0, ((b : Nat) : Int))), (5, (0, (cm))), (4, (0, ((r : Nat) : Int))), (0, (2, ((193 : Nat) : Int))), (2, (0, ((f' : Nat) : Int))), (3, (0, ((m : Nat) : Int)))]) (st' := [(0, ((1000 : Nat) : Int)), (0, (h 208 (((40 * r) + f') + b))), (2, ((193 : Nat) : Int))]) (h' := h) (o276_67 hB) rfl ?_
              refine w_irem (z := ((h 208 (((40 * r) + f') + b)) % 1000)) (pc' := 122) (o276_68 hB) rfl (remI_p (by omega) (by decide)) ?_
              refine w_pl (pc' := 124) (lv' := [(7, (0, (h 208 (((40 * r) + f') + b)))), (6, (0, ((b : Nat) : Int))), (5, (0, (cm))), (4, (0, ((r : Nat) : Int))), (0, (2, ((193 : Nat) : Int))), (2, (0, ((f' : Nat) : Int))), (3, (0, ((m : Nat) : Int)))]) (st' := [(0, (h 208 (((40 * r) + f') + b))), (0, ((h 208 (((40 * r) + f') + b)) % 1000)), (2, ((193 : Nat) : Int))]) (h' := h) (o276_69 hB) rfl ?_
              refine w_pl (pc' := 127) (lv' := [(7, (0, (h 208 (((40 * r) + f') + b)))), (6, (0, ((b : Nat) : Int))), (5, (0, (cm))), (4, (0, ((r : Nat) : Int))), (0, (2, ((193 : Nat) : Int))), (2, (0, ((f' : Nat) : Int))), (3, (0, ((m : Nat) : Int)))]) (st' := [(0, ((1000 : Nat) : Int)), (0, (h 208 (((40 * r) + f') + b))), (0, ((h 208 (((40 * r) + f') + b)) % 1000)), (2, ((193 : Nat) : Int))]) (h' := h) (o276_70 hB) rfl ?_
              refine w_idiv (z := ((h 208 (((40 * r) + f') + b)) / 1000)) (pc' := 128) (o276_71 hB) rfl (divI_p (by omega) (by omega) (by decide)) ?_
              refine w_pl (pc' := 131) (lv' := [(7, (0, (h 208 (((40 * r) + f') + b)))), (6, (0, ((b : Nat) : Int))), (5, (0, (cm))), (4, (0, ((r : Nat) : Int))), (0, (2, ((193 : Nat) : Int))), (2, (0, ((f' : Nat) : Int))), (3, (0, ((m : Nat) : Int)))]) (st' := [(0, ((10000 : Nat) : Int)), (0, ((h 208 (((40 * r) + f') + b)) / 1000)), (0, ((h 208 (((40 * r) + f') + b)) % 1000)), (2, ((193 : Nat) : Int))]) (h' := h) (o276_72 hB) rfl ?_
              refine w_irem (z := (((h 208 (((40 * r) + f') + b)) / 1000) % 10000)) (pc' := 132) (o276_73 hB) rfl (remI_p (by omega) (by decide)) ?_
              refine w_pl (pc' := 135) (lv' := [(7, (0, (h 208 (((40 * r) + f') + b)))), (6, (0, ((b : Nat) : Int))), (5, (0, (cm))), (4, (0, ((r : Nat) : Int))), (0, (2, ((193 : Nat) : Int))), (2, (0, ((f' : Nat) : Int))), (3, (0, ((m : Nat) : Int)))]) (st' := [(0, ((1000 : Nat) : Int)), (0, (((h 208 (((40 * r) + f') + b)) / 1000) % 10000)), (0, ((h 208 (((40 * r) + f') + b)) % 1000)), (2, ((193 : Nat) : Int))]) (h' := h) (o276_74 hB) rfl ?_
              refine w_pl (pc' := 137) (lv' := [(7, (0, (h 208 (((40 * r) + f') + b)))), (6, (0, ((b : Nat) : Int))), (5, (0, (cm))), (4, (0, ((r : Nat) : Int))), (0, (2, ((193 : Nat) : Int))), (2, (0, ((f' : Nat) : Int))), (3, (0, ((m : Nat) : Int)))]) (st' := [(0, (h 208 (((40 * r) + f') + b))), (0, ((1000 : Nat) : Int)), (0, (((h 208 (((40 * r) + f') + b)) / 1000) % 10000)), (0, ((h 208 (((40 * r) + f') + b)) % 1000)), (2, ((193 : Nat) : Int))]) (h' := h) (o276_75 hB) rfl ?_
              refine w_pl (pc' := 140) (lv' := [(7, (0, (h 208 (((40 * r) + f') + b)))), (6, (0, ((b : Nat) : Int))), (5, (0, (cm))), (4, (0, ((r : Nat) : Int))), (0, (2, ((193 : Nat) : Int))), (2, (0, ((f' : Nat) : Int))), (3, (0, ((m : Nat) : Int)))]) (st' := [(0, ((10000000 : Nat) : Int)), (0, (h 208 (((40 * r) + f') + b))), (0, ((1000 : Nat) : Int)), (0, (((h 208 (((40 * r) + f') + b)) / 1000) % 10000)), (0, ((h 208 (((40 * r) + f') + b)) % 1000)), (2, ((193 : Nat) : Int))]) (h' := h) (o276_76 hB) rfl ?_
              refine w_idiv (z := ((h 208 (((40 * r) + f') + b)) / 10000000)) (pc' := 141) (o276_77 hB) rfl (divI_p (by omega) (by omega) (by decide)) ?_
              refine w_imul (z := (((1000 : Nat) : Int) * ((h 208 (((40 * r) + f') + b)) / 10000000))) (pc' := 142) (o276_78 hB) rfl (w32_e (by omega) (by omega)) ?_
              refine w_pl (pc' := 143) (lv' := [(7, (0, (h 208 (((40 * r) + f') + b)))), (6, (0, ((b : Nat) : Int))), (5, (0, (cm))), (4, (0, ((r : Nat) : Int))), (0, (2, ((193 : Nat) : Int))), (2, (0, ((f' : Nat) : Int))), (3, (0, ((m : Nat) : Int)))]) (st' := [(0, (-1)), (0, (((1000 : Nat) : Int) * ((h 208 (((40 * r) + f') + b)) / 10000000))), (0, (((h 208 (((40 * r) + f') + b)) / 1000) % 10000)), (0, ((h 208 (((40 * r) + f') + b)) % 1000)), (2, ((193 : Nat) : Int))]) (h' := h) (o276_79 hB) rfl ?_
              refine w_callV (A := 193) (as := [(0, ((h 208 (((40 * r) + f') + b)) % 1000)), (0, (((h 208 (((40 * r) + f') + b)) / 1000) % 10000)), (0, (((1000 : Nat) : Int) * ((h 208 (((40 * r) + f') + b)) / 10000000))), (0, (-1))]) (rest := []) (n := 4) (pc' := 146) 11 hB (o276_80 hB) rfl (by decide +kernel) rfl rfl (Nat.le_of_ble_eq_true rfl) (m_clMx hB ht (w' := (h 208 (40 * r + f' + b)) % 1000) (st' := (h 208 (40 * r + f' + b)) / 1000 % 10000) (sp' := (h 208 (40 * r + f' + b)) / 10000000 * 1000) (by omega) (by omega) (by omega) (br_in (t := (h 208 (40 * r + f' + b))) (sB_x2 ht (a := 208) (n := 320) (by decide +kernel) (j := 40 * r + f' + b) (by omega)) (by omega)).1 (br_in (t := (h 208 (40 * r + f' + b))) (sB_x2 ht (a := 208) (n := 320) (by decide +kernel) (j := 40 * r + f' + b) (by omega)) (by omega)).2.1 (br_in (t := (h 208 (40 * r + f' + b))) (sB_x2 ht (a := 208) (n := 320) (by decide +kernel) (j := 40 * r + f' + b) (by omega)) (by omega)).2.2 (by unfold in32; omega) ?_)
              show HW g l _ 276 _ _ 146 [(7, (0, (h 208 (((40 * r) + f') + b)))), (6, (0, ((b : Nat) : Int))), (5, (0, (cm))), (4, (0, ((r : Nat) : Int))), (0, (2, ((193 : Nat) : Int))), (2, (0, ((f' : Nat) : Int))), (3, (0, ((m : Nat) : Int)))] [(0, ((clM h ((h 208 (40 * r + f' + b)) % 1000) ((h 208 (40 * r + f' + b)) / 1000 % 10000) ((h 208 (40 * r + f' + b)) / 10000000 * 1000) (-1)).1))] (clM h ((h 208 (40 * r + f' + b)) % 1000) ((h 208 (40 * r + f' + b)) / 1000 % 10000) ((h 208 (40 * r + f' + b)) / 10000000 * 1000) (-1)).2
              obtain ⟨t1, t2, t3, t4⟩ := clM_TH (w := (h 208 (40 * r + f' + b)) % 1000) (k := -1) ht (br_in (t := (h 208 (40 * r + f' + b))) (sB_x2 ht (a := 208) (n := 320) (by decide +kernel) (j := 40 * r + f' + b) (by omega)) (by omega)).2.1 (br_in (t := (h 208 (40 * r + f' + b))) (sB_x2 ht (a := 208) (n := 320) (by decide +kernel) (j := 40 * r + f' + b) (by omega)) (by omega)).2.2
              have hR1 := t1.r
              refine w_st (tg := 0) (j := 8) (len := 2) (pc' := 148) (lv' := [(8, (0, ((clM h ((h 208 (40 * r + f' + b)) % 1000) ((h 208 (40 * r + f' + b)) / 1000 % 10000) ((h 208 (40 * r + f' + b)) / 10000000 * 1000) (-1)).1))), (7, (0, (h 208 (((40 * r) + f') + b)))), (6, (0, ((b : Nat) : Int))), (5, (0, (cm))), (4, (0, ((r : Nat) : Int))), (0, (2, ((193 : Nat) : Int))), (2, (0, ((f' : Nat) : Int))), (3, (0, ((m : Nat) : Int)))]) (o276_81 hB) rfl rfl ml276 (by decide) rfl ?_
              refine w_pl (pc' := 150) (lv' := [(8, (0, ((clM h ((h 208 (40 * r + f' + b)) % 1000) ((h 208 (40 * r + f' + b)) / 1000 % 10000) ((h 208 (40 * r + f' + b)) / 10000000 * 1000) (-1)).1))), (7, (0, (h 208 (((40 * r) + f') + b)))), (6, (0, ((b : Nat) : Int))), (5, (0, (cm))), (4, (0, ((r : Nat) : Int))), (0, (2, ((193 : Nat) : Int))), (2, (0, ((f' : Nat) : Int))), (3, (0, ((m : Nat) : Int)))]) (st' := [(0, ((clM h ((h 208 (40 * r + f' + b)) % 1000) ((h 208 (40 * r + f' + b)) / 1000 % 10000) ((h 208 (40 * r + f' + b)) / 10000000 * 1000) (-1)).1))]) (h' := (clM h ((h 208 (40 * r + f' + b)) % 1000) ((h 208 (40 * r + f' + b)) / 1000 % 10000) ((h 208 (40 * r + f' + b)) / 10000000 * 1000) (-1)).2) (o276_82 hB) rfl ?_
              refine w_pl (pc' := 152) (lv' := [(8, (0, ((clM h ((h 208 (40 * r + f' + b)) % 1000) ((h 208 (40 * r + f' + b)) / 1000 % 10000) ((h 208 (40 * r + f' + b)) / 10000000 * 1000) (-1)).1))), (7, (0, (h 208 (((40 * r) + f') + b)))), (6, (0, ((b : Nat) : Int))), (5, (0, (cm))), (4, (0, ((r : Nat) : Int))), (0, (2, ((193 : Nat) : Int))), (2, (0, ((f' : Nat) : Int))), (3, (0, ((m : Nat) : Int)))]) (st' := [(0, (-2)), (0, ((clM h ((h 208 (40 * r + f' + b)) % 1000) ((h 208 (40 * r + f' + b)) / 1000 % 10000) ((h 208 (40 * r + f' + b)) / 10000000 * 1000) (-1)).1))]) (h' := (clM h ((h 208 (40 * r + f' + b)) % 1000) ((h 208 (40 * r + f' + b)) / 1000 % 10000) ((h 208 (40 * r + f' + b)) / 10000000 * 1000) (-1)).2) (o276_83 hB) rfl ?_
              refine w_icmp (pt := 158) (pf := 155) (o276_84 hB) (by decide) rfl (fun e => ?_) (fun e => ?_)
              · have f666 : (((clM h ((h 208 (40 * r + f' + b)) % 1000) ((h 208 (40 * r + f' + b)) / 1000 % 10000) ((h 208 (40 * r + f' + b)) / 10000000 * 1000) (-1)).1) ≠ (-2)) := e
                refine w_pl (pc' := 160) (lv' := [(8, (0, ((clM h ((h 208 (40 * r + f' + b)) % 1000) ((h 208 (40 * r + f' + b)) / 1000 % 10000) ((h 208 (40 * r + f' + b)) / 10000000 * 1000) (-1)).1))), (7, (0, (h 208 (((40 * r) + f') + b)))), (6, (0, ((b : Nat) : Int))), (5, (0, (cm))), (4, (0, ((r : Nat) : Int))), (0, (2, ((193 : Nat) : Int))), (2, (0, ((f' : Nat) : Int))), (3, (0, ((m : Nat) : Int)))]) (st' := [(0, (cm))]) (h' := (clM h ((h 208 (40 * r + f' + b)) % 1000) ((h 208 (40 * r + f' + b)) / 1000 % 10000) ((h 208 (40 * r + f' + b)) / 10000000 * 1000) (-1)).2) (o276_87 hB) rfl ?_
                refine w_pl (pc' := 162) (lv' := [(8, (0, ((clM h ((h 208 (40 * r + f' + b)) % 1000) ((h 208 (40 * r + f' + b)) / 1000 % 10000) ((h 208 (40 * r + f' + b)) / 10000000 * 1000) (-1)).1))), (7, (0, (h 208 (((40 * r) + f') + b)))), (6, (0, ((b : Nat) : Int))), (5, (0, (cm))), (4, (0, ((r : Nat) : Int))), (0, (2, ((193 : Nat) : Int))), (2, (0, ((f' : Nat) : Int))), (3, (0, ((m : Nat) : Int)))]) (st' := [(0, ((clM h ((h 208 (40 * r + f' + b)) % 1000) ((h 208 (40 * r + f' + b)) / 1000 % 10000) ((h 208 (40 * r + f' + b)) / 10000000 * 1000) (-1)).1)), (0, (cm))]) (h' := (clM h ((h 208 (40 * r + f' + b)) % 1000) ((h 208 (40 * r + f' + b)) / 1000 % 10000) ((h 208 (40 * r + f' + b)) / 10000000 * 1000) (-1)).2) (o276_88 hB) rfl ?_
                refine w_ifc (pt := 169) (pf := 165) (o276_89 hB) (by decide) rfl (fun e => ?_) (fun e => ?_)
                · have f667 : (((clM h ((h 208 (40 * r + f' + b)) % 1000) ((h 208 (40 * r + f' + b)) / 1000 % 10000) ((h 208 (40 * r + f' + b)) / 10000000 * 1000) (-1)).1) < (0)) := e
                  refine w_pl (pc' := 170) (lv' := [(8, (0, ((clM h ((h 208 (40 * r + f' + b)) % 1000) ((h 208 (40 * r + f' + b)) / 1000 % 10000) ((h 208 (40 * r + f' + b)) / 10000000 * 1000) (-1)).1))), (7, (0, (h 208 (((40 * r) + f') + b)))), (6, (0, ((b : Nat) : Int))), (5, (0, (cm))), (4, (0, ((r : Nat) : Int))), (0, (2, ((193 : Nat) : Int))), (2, (0, ((f' : Nat) : Int))), (3, (0, ((m : Nat) : Int)))]) (st' := [(0, ((0 : Nat) : Int)), (0, (cm))]) (h' := (clM h ((h 208 (40 * r + f' + b)) % 1000) ((h 208 (40 * r + f' + b)) / 1000 % 10000) ((h 208 (40 * r + f' + b)) / 10000000 * 1000) (-1)).2) (o276_92 hB) rfl ?_
                  refine w_iadd (z := ((cm) + ((0 : Nat) : Int))) (pc' := 171) (o276_93 hB) rfl (w32_e (by omega) (by omega)) ?_
                  refine w_st (tg := 0) (j := 5) (len := 2) (pc' := 173) (lv' := [(5, (0, ((cm) + ((0 : Nat) : Int)))), (8, (0, ((clM h ((h 208 (40 * r + f' + b)) % 1000) ((h 208 (40 * r + f' + b)) / 1000 % 10000) ((h 208 (40 * r + f' + b)) / 10000000 * 1000) (-1)).1))), (7, (0, (h 208 (((40 * r) + f') + b)))), (6, (0, ((b : Nat) : Int))), (4, (0, ((r : Nat) : Int))), (0, (2, ((193 : Nat) : Int))), (2, (0, ((f' : Nat) : Int))), (3, (0, ((m : Nat) : Int)))]) (o276_94 hB) rfl rfl ml276 (by decide) rfl ?_
                  refine w_iinc (x := ((b : Nat) : Int)) (z := (((b + 1) : Nat) : Int)) (pc' := 176) (lv' := [(6, (0, (((b + 1) : Nat) : Int))), (5, (0, ((cm) + ((0 : Nat) : Int)))), (8, (0, ((clM h ((h 208 (40 * r + f' + b)) % 1000) ((h 208 (40 * r + f' + b)) / 1000 % 10000) ((h 208 (40 * r + f' + b)) / 10000000 * 1000) (-1)).1))), (7, (0, (h 208 (((40 * r) + f') + b)))), (4, (0, ((r : Nat) : Int))), (0, (2, ((193 : Nat) : Int))), (2, (0, ((f' : Nat) : Int))), (3, (0, ((m : Nat) : Int)))]) (o276_95 hB) rfl rfl ml276 (by decide) (w32_e (by omega) (by omega)) rfl ?_
                  refine w_goto (pt := 60) (o276_96 hB) (by decide) ?_
                  refine w_sub (lv' := [(6, (0, (((b + 1) : Nat) : Int))), (5, (0, ((cm) + ((0 : Nat) : Int)))), (4, (0, ((r : Nat) : Int))), (0, (2, ((193 : Nat) : Int))), (2, (0, ((f' : Nat) : Int))), (3, (0, ((m : Nat) : Int)))]) (List.forall_mem_cons.mpr ⟨(List.Mem.head _), (List.forall_mem_cons.mpr ⟨(List.Mem.tail _ (List.Mem.head _)), (List.forall_mem_cons.mpr ⟨(List.Mem.tail _ (List.Mem.tail _ (List.Mem.tail _ (List.Mem.tail _ (List.Mem.head _))))), (List.forall_mem_cons.mpr ⟨(List.Mem.tail _ (List.Mem.tail _ (List.Mem.tail _ (List.Mem.tail _ (List.Mem.tail _ (List.Mem.head _)))))), (List.forall_mem_cons.mpr ⟨(List.Mem.tail _ (List.Mem.tail _ (List.Mem.tail _ (List.Mem.tail _ (List.Mem.tail _ (List.Mem.tail _ (List.Mem.head _))))))), (List.forall_mem_cons.mpr ⟨(List.Mem.tail _ (List.Mem.tail _ (List.Mem.tail _ (List.Mem.tail _ (List.Mem.tail _ (List.Mem.tail _ (List.Mem.tail _ (List.Mem.head _)))))))), (fun _ hx => by cases hx)⟩)⟩)⟩)⟩)⟩)⟩) ?_
                  rw [comM_s, if_neg (by omega), ef, brM_p (by omega), if_neg (by omega), if_neg (by omega)] at hq
                  exact ih (b + 1) _ _ (by omega) t1 (by omega) (by omega) hq
                · have f668 : ¬ (((clM h ((h 208 (40 * r + f' + b)) % 1000) ((h 208 (40 * r + f' + b)) / 1000 % 10000) ((h 208 (40 * r + f' + b)) / 10000000 * 1000) (-1)).1) < (0)) := e
                  refine w_pl (pc' := 166) (lv' := [(8, (0, ((clM h ((h 208 (40 * r + f' + b)) % 1000) ((h 208 (40 * r + f' + b)) / 1000 % 10000) ((h 208 (40 * r + f' + b)) / 10000000 * 1000) (-1)).1))), (7, (0, (h 208 (((40 * r) + f') + b)))), (6, (0, ((b : Nat) : Int))), (5, (0, (cm))), (4, (0, ((r : Nat) : Int))), (0, (2, ((193 : Nat) : Int))), (2, (0, ((f' : Nat) : Int))), (3, (0, ((m : Nat) : Int)))]) (st' := [(0, ((1 : Nat) : Int)), (0, (cm))]) (h' := (clM h ((h 208 (40 * r + f' + b)) % 1000) ((h 208 (40 * r + f' + b)) / 1000 % 10000) ((h 208 (40 * r + f' + b)) / 10000000 * 1000) (-1)).2) (o276_90 hB) rfl ?_
                  refine w_goto (pt := 170) (o276_91 hB) (by decide) ?_
                  refine w_iadd (z := ((cm) + ((1 : Nat) : Int))) (pc' := 171) (o276_93 hB) rfl (w32_e (by omega) (by omega)) ?_
                  refine w_st (tg := 0) (j := 5) (len := 2) (pc' := 173) (lv' := [(5, (0, ((cm) + ((1 : Nat) : Int)))), (8, (0, ((clM h ((h 208 (40 * r + f' + b)) % 1000) ((h 208 (40 * r + f' + b)) / 1000 % 10000) ((h 208 (40 * r + f' + b)) / 10000000 * 1000) (-1)).1))), (7, (0, (h 208 (((40 * r) + f') + b)))), (6, (0, ((b : Nat) : Int))), (4, (0, ((r : Nat) : Int))), (0, (2, ((193 : Nat) : Int))), (2, (0, ((f' : Nat) : Int))), (3, (0, ((m : Nat) : Int)))]) (o276_94 hB) rfl rfl ml276 (by decide) rfl ?_
                  refine w_iinc (x := ((b : Nat) : Int)) (z := (((b + 1) : Nat) : Int)) (pc' := 176) (lv' := [(6, (0, (((b + 1) : Nat) : Int))), (5, (0, ((cm) + ((1 : Nat) : Int)))), (8, (0, ((clM h ((h 208 (40 * r + f' + b)) % 1000) ((h 208 (40 * r + f' + b)) / 1000 % 10000) ((h 208 (40 * r + f' + b)) / 10000000 * 1000) (-1)).1))), (7, (0, (h 208 (((40 * r) + f') + b)))), (4, (0, ((r : Nat) : Int))), (0, (2, ((193 : Nat) : Int))), (2, (0, ((f' : Nat) : Int))), (3, (0, ((m : Nat) : Int)))]) (o276_95 hB) rfl rfl ml276 (by decide) (w32_e (by omega) (by omega)) rfl ?_
                  refine w_goto (pt := 60) (o276_96 hB) (by decide) ?_
                  refine w_sub (lv' := [(6, (0, (((b + 1) : Nat) : Int))), (5, (0, ((cm) + ((1 : Nat) : Int)))), (4, (0, ((r : Nat) : Int))), (0, (2, ((193 : Nat) : Int))), (2, (0, ((f' : Nat) : Int))), (3, (0, ((m : Nat) : Int)))]) (List.forall_mem_cons.mpr ⟨(List.Mem.head _), (List.forall_mem_cons.mpr ⟨(List.Mem.tail _ (List.Mem.head _)), (List.forall_mem_cons.mpr ⟨(List.Mem.tail _ (List.Mem.tail _ (List.Mem.tail _ (List.Mem.tail _ (List.Mem.head _))))), (List.forall_mem_cons.mpr ⟨(List.Mem.tail _ (List.Mem.tail _ (List.Mem.tail _ (List.Mem.tail _ (List.Mem.tail _ (List.Mem.head _)))))), (List.forall_mem_cons.mpr ⟨(List.Mem.tail _ (List.Mem.tail _ (List.Mem.tail _ (List.Mem.tail _ (List.Mem.tail _ (List.Mem.tail _ (List.Mem.head _))))))), (List.forall_mem_cons.mpr ⟨(List.Mem.tail _ (List.Mem.tail _ (List.Mem.tail _ (List.Mem.tail _ (List.Mem.tail _ (List.Mem.tail _ (List.Mem.tail _ (List.Mem.head _)))))))), (fun _ hx => by cases hx)⟩)⟩)⟩)⟩)⟩)⟩) ?_
                  rw [comM_s, if_neg (by omega), ef, brM_p (by omega), if_neg (by omega), if_pos (by omega)] at hq
                  exact ih (b + 1) _ _ (by omega) t1 (by omega) (by omega) hq
              · have f669 : ¬ (((clM h ((h 208 (40 * r + f' + b)) % 1000) ((h 208 (40 * r + f' + b)) / 1000 % 10000) ((h 208 (40 * r + f' + b)) / 10000000 * 1000) (-1)).1) ≠ (-2)) := e
                refine w_pl (pc' := 157) (lv' := [(8, (0, ((clM h ((h 208 (40 * r + f' + b)) % 1000) ((h 208 (40 * r + f' + b)) / 1000 % 10000) ((h 208 (40 * r + f' + b)) / 10000000 * 1000) (-1)).1))), (7, (0, (h 208 (((40 * r) + f') + b)))), (6, (0, ((b : Nat) : Int))), (5, (0, (cm))), (4, (0, ((r : Nat) : Int))), (0, (2, ((193 : Nat) : Int))), (2, (0, ((f' : Nat) : Int))), (3, (0, ((m : Nat) : Int)))]) (st' := [(0, (-2))]) (h' := (clM h ((h 208 (40 * r + f' + b)) % 1000) ((h 208 (40 * r + f' + b)) / 1000 % 10000) ((h 208 (40 * r + f' + b)) / 10000000 * 1000) (-1)).2) (o276_85 hB) rfl ?_
                rw [comM_s, if_neg (by omega), ef, brM_p (by omega), if_pos (by omega)] at hq
                exact w_iret (o276_86 hB) mr276 (by unfold in32; omega) hq
            · have f670 : ¬ ((0) ≤ (h 208 (((40 * r) + f') + b))) := e
              refine w_pl (pc' := 112) (lv' := [(7, (0, (h 208 (((40 * r) + f') + b)))), (6, (0, ((b : Nat) : Int))), (5, (0, (cm))), (4, (0, ((r : Nat) : Int))), (0, (2, ((193 : Nat) : Int))), (2, (0, ((f' : Nat) : Int))), (3, (0, ((m : Nat) : Int)))]) (st' := [(0, (-1))]) (h' := h) (o276_63 hB) rfl ?_
              refine w_goto (pt := 146) (o276_64 hB) (by decide) ?_
              refine w_st (tg := 0) (j := 8) (len := 2) (pc' := 148) (lv' := [(8, (0, (-1))), (7, (0, (h 208 (((40 * r) + f') + b)))), (6, (0, ((b : Nat) : Int))), (5, (0, (cm))), (4, (0, ((r : Nat) : Int))), (0, (2, ((193 : Nat) : Int))), (2, (0, ((f' : Nat) : Int))), (3, (0, ((m : Nat) : Int)))]) (o276_81 hB) rfl rfl ml276 (by decide) rfl ?_
              refine w_pl (pc' := 150) (lv' := [(8, (0, (-1))), (7, (0, (h 208 (((40 * r) + f') + b)))), (6, (0, ((b : Nat) : Int))), (5, (0, (cm))), (4, (0, ((r : Nat) : Int))), (0, (2, ((193 : Nat) : Int))), (2, (0, ((f' : Nat) : Int))), (3, (0, ((m : Nat) : Int)))]) (st' := [(0, (-1))]) (h' := h) (o276_82 hB) rfl ?_
              refine w_pl (pc' := 152) (lv' := [(8, (0, (-1))), (7, (0, (h 208 (((40 * r) + f') + b)))), (6, (0, ((b : Nat) : Int))), (5, (0, (cm))), (4, (0, ((r : Nat) : Int))), (0, (2, ((193 : Nat) : Int))), (2, (0, ((f' : Nat) : Int))), (3, (0, ((m : Nat) : Int)))]) (st' := [(0, (-2)), (0, (-1))]) (h' := h) (o276_83 hB) rfl ?_
              refine w_icmp (pt := 158) (pf := 155) (o276_84 hB) (by decide) rfl (fun e => ?_) (fun e => ?_)
              · have f671 : ((-1) ≠ (-2)) := e
                refine w_pl (pc' := 160) (lv' := [(8, (0, (-1))), (7, (0, (h 208 (((40 * r) + f') + b)))), (6, (0, ((b : Nat) : Int))), (5, (0, (cm))), (4, (0, ((r : Nat) : Int))), (0, (2, ((193 : Nat) : Int))), (2, (0, ((f' : Nat) : Int))), (3, (0, ((m : Nat) : Int)))]) (st' := [(0, (cm))]) (h' := h) (o276_87 hB) rfl ?_
                refine w_pl (pc' := 162) (lv' := [(8, (0, (-1))), (7, (0, (h 208 (((40 * r) + f') + b)))), (6, (0, ((b : Nat) : Int))), (5, (0, (cm))), (4, (0, ((r : Nat) : Int))), (0, (2, ((193 : Nat) : Int))), (2, (0, ((f' : Nat) : Int))), (3, (0, ((m : Nat) : Int)))]) (st' := [(0, (-1)), (0, (cm))]) (h' := h) (o276_88 hB) rfl ?_
                refine w_ifc (pt := 169) (pf := 165) (o276_89 hB) (by decide) rfl (fun e => ?_) (fun e => ?_)
                · have f672 : ((-1) < (0)) := e
                  refine w_pl (pc' := 170) (lv' := [(8, (0, (-1))), (7, (0, (h 208 (((40 * r) + f') + b)))), (6, (0, ((b : Nat) : Int))), (5, (0, (cm))), (4, (0, ((r : Nat) : Int))), (0, (2, ((193 : Nat) : Int))), (2, (0, ((f' : Nat) : Int))), (3, (0, ((m : Nat) : Int)))]) (st' := [(0, ((0 : Nat) : Int)), (0, (cm))]) (h' := h) (o276_92 hB) rfl ?_
                  refine w_iadd (z := ((cm) + ((0 : Nat) : Int))) (pc' := 171) (o276_93 hB) rfl (w32_e (by omega) (by omega)) ?_
                  refine w_st (tg := 0) (j := 5) (len := 2) (pc' := 173) (lv' := [(5, (0, ((cm) + ((0 : Nat) : Int)))), (8, (0, (-1))), (7, (0, (h 208 (((40 * r) + f') + b)))), (6, (0, ((b : Nat) : Int))), (4, (0, ((r : Nat) : Int))), (0, (2, ((193 : Nat) : Int))), (2, (0, ((f' : Nat) : Int))), (3, (0, ((m : Nat) : Int)))]) (o276_94 hB) rfl rfl ml276 (by decide) rfl ?_
                  refine w_iinc (x := ((b : Nat) : Int)) (z := (((b + 1) : Nat) : Int)) (pc' := 176) (lv' := [(6, (0, (((b + 1) : Nat) : Int))), (5, (0, ((cm) + ((0 : Nat) : Int)))), (8, (0, (-1))), (7, (0, (h 208 (((40 * r) + f') + b)))), (4, (0, ((r : Nat) : Int))), (0, (2, ((193 : Nat) : Int))), (2, (0, ((f' : Nat) : Int))), (3, (0, ((m : Nat) : Int)))]) (o276_95 hB) rfl rfl ml276 (by decide) (w32_e (by omega) (by omega)) rfl ?_
                  refine w_goto (pt := 60) (o276_96 hB) (by decide) ?_
                  refine w_sub (lv' := [(6, (0, (((b + 1) : Nat) : Int))), (5, (0, ((cm) + ((0 : Nat) : Int)))), (4, (0, ((r : Nat) : Int))), (0, (2, ((193 : Nat) : Int))), (2, (0, ((f' : Nat) : Int))), (3, (0, ((m : Nat) : Int)))]) (List.forall_mem_cons.mpr ⟨(List.Mem.head _), (List.forall_mem_cons.mpr ⟨(List.Mem.tail _ (List.Mem.head _)), (List.forall_mem_cons.mpr ⟨(List.Mem.tail _ (List.Mem.tail _ (List.Mem.tail _ (List.Mem.tail _ (List.Mem.head _))))), (List.forall_mem_cons.mpr ⟨(List.Mem.tail _ (List.Mem.tail _ (List.Mem.tail _ (List.Mem.tail _ (List.Mem.tail _ (List.Mem.head _)))))), (List.forall_mem_cons.mpr ⟨(List.Mem.tail _ (List.Mem.tail _ (List.Mem.tail _ (List.Mem.tail _ (List.Mem.tail _ (List.Mem.tail _ (List.Mem.head _))))))), (List.forall_mem_cons.mpr ⟨(List.Mem.tail _ (List.Mem.tail _ (List.Mem.tail _ (List.Mem.tail _ (List.Mem.tail _ (List.Mem.tail _ (List.Mem.tail _ (List.Mem.head _)))))))), (fun _ hx => by cases hx)⟩)⟩)⟩)⟩)⟩)⟩) ?_
                  rw [comM_s, if_neg (by omega), ef, brM_n (by omega), if_neg (by show ¬ ((-1 : Int) = -2); omega), if_neg (by show ¬ ((0 : Int) ≤ -1); omega)] at hq
                  exact ih (b + 1) _ _ (by omega) ht (by omega) (by omega) hq
                · have f673 : ¬ ((-1) < (0)) := e
                  exfalso; omega
              · have f674 : ¬ ((-1) ≠ (-2)) := e
                exfalso; omega
          · have f675 : ¬ (((f' : Nat) : Int) ≤ (((h 207 r) - ((1 : Nat) : Int)) - ((b : Nat) : Int))) := e
            refine w_pl (pc' := 88) (lv' := [(6, (0, ((b : Nat) : Int))), (5, (0, (cm))), (4, (0, ((r : Nat) : Int))), (0, (2, ((193 : Nat) : Int))), (2, (0, ((f' : Nat) : Int))), (3, (0, ((m : Nat) : Int)))]) (st' := [(0, (-12))]) (h' := h) (o276_48 hB) rfl ?_
            rw [comM_s, if_pos (by omega)] at hq
            exact w_iret (o276_49 hB) mr276 (by unfold in32; omega) hq
theorem m_comesM (hB : BytesOK) {g : bG} {l : Launch} {d : Nat} {Q : bQ} {h : bH} {s f n : Int} (ht : TH h) (z_s : in32 s) (z_f : in32 f) (z_n : in32 n) (a0 : ¬ ((0 ≤ s ∧ s ≤ 3) ∧ 0 ≤ n ∧ n ≤ 6) → Q (some (0, -1)) h) (a1 : ((0 ≤ s ∧ s ≤ 3) ∧ 0 ≤ n ∧ n ≤ 6) ∧ h 205 s.toNat < 0 → Q (some (0, -11)) h) (a2 : ((0 ≤ s ∧ s ≤ 3) ∧ 0 ≤ n ∧ n ≤ 6) ∧ 0 ≤ h 205 s.toNat ∧ h 206 (h 205 s.toNat).toNat ≠ 3 → Q (some (0, -13)) h) (a3 : ((0 ≤ s ∧ s ≤ 3) ∧ 0 ≤ n ∧ n ≤ 6) ∧ 0 ≤ h 205 s.toNat ∧ h 206 (h 205 s.toNat).toNat = 3 → Q (some (0, (comM (h 205 s.toNat).toNat f n.toNat 0 0 h).1)) (comM (h 205 s.toNat).toNat f n.toNat 0 0 h).2) : MH g l (d + 1 + 1 + 1) 276 212 212 [(2, ((193 : Nat) : Int)), (0, s), (0, f), (0, n)] h Q := by
  have hR := ht.r
  rcases (by omega : ¬ (0 ≤ s ∧ s ≤ 3) ∨ ((0 ≤ s ∧ s ≤ 3) ∧ (¬ (0 ≤ n ∧ n ≤ 6) ∨ (0 ≤ n ∧ n ≤ 6 ∧ (h 205 s.toNat < 0 ∨ 0 ≤ h 205 s.toNat))))) with gg | ⟨gg, gn | ⟨gn, gn2, gr | gr⟩⟩
  · skip
    refine mh_go hB mg276 ml276 (Nat.le_of_ble_eq_true rfl) ?_
    show HW g l (d + 1 + 1 + 1) 276 _ _ 0 [(0, (2, ((193 : Nat) : Int))), (1, (0, (s))), (2, (0, (f))), (3, (0, (n)))] [] h
    refine w_pl (pc' := 1) (lv' := [(0, (2, ((193 : Nat) : Int))), (1, (0, (s))), (2, (0, (f))), (3, (0, (n)))]) (st' := [(0, (s))]) (h' := h) (o276_0 hB) rfl ?_
    refine w_callS (as := [(0, (s))]) (rest := []) (n := 1) (pc' := 4) hB (o276_1 hB) rfl (by decide +kernel) rfl rfl (Nat.le_of_ble_eq_true rfl) (m_isFourM hB (fun f676 => ?_) (fun f677 => ?_))
    · exfalso; omega
    · show HW g l _ 276 _ _ 4 [(0, (2, ((193 : Nat) : Int))), (1, (0, (s))), (2, (0, (f))), (3, (0, (n)))] [(0, ((0 : Nat) : Int))] h
      refine w_ifc (pt := 17) (pf := 7) (o276_2 hB) (by decide) rfl (fun e => ?_) (fun e => ?_)
      · have f678 : (((0 : Nat) : Int) = (0)) := e
        refine w_pl (pc' := 18) (lv' := [(0, (2, ((193 : Nat) : Int))), (1, (0, (s))), (2, (0, (f))), (3, (0, (n)))]) (st' := [(0, (-1))]) (h' := h) (o276_8 hB) rfl ?_
        exact w_iret (o276_9 hB) mr276 (by unfold in32; omega) (a0 (by omega))
      · have f679 : ¬ (((0 : Nat) : Int) = (0)) := e
        exfalso; omega
  · obtain ⟨s', e_s⟩ : ∃ q : Nat, s = q := ⟨s.toNat, by omega⟩
    subst e_s
    refine mh_go hB mg276 ml276 (Nat.le_of_ble_eq_true rfl) ?_
    show HW g l (d + 1 + 1 + 1) 276 _ _ 0 [(0, (2, ((193 : Nat) : Int))), (1, (0, ((s' : Nat) : Int))), (2, (0, (f))), (3, (0, (n)))] [] h
    refine w_pl (pc' := 1) (lv' := [(0, (2, ((193 : Nat) : Int))), (1, (0, ((s' : Nat) : Int))), (2, (0, (f))), (3, (0, (n)))]) (st' := [(0, ((s' : Nat) : Int))]) (h' := h) (o276_0 hB) rfl ?_
    refine w_callS (as := [(0, ((s' : Nat) : Int))]) (rest := []) (n := 1) (pc' := 4) hB (o276_1 hB) rfl (by decide +kernel) rfl rfl (Nat.le_of_ble_eq_true rfl) (m_isFourM hB (fun f680 => ?_) (fun f681 => ?_))
    · show HW g l _ 276 _ _ 4 [(0, (2, ((193 : Nat) : Int))), (1, (0, ((s' : Nat) : Int))), (2, (0, (f))), (3, (0, (n)))] [(0, ((1 : Nat) : Int))] h
      refine w_ifc (pt := 17) (pf := 7) (o276_2 hB) (by decide) rfl (fun e => ?_) (fun e => ?_)
      · have f682 : (((1 : Nat) : Int) = (0)) := e
        exfalso; omega
      · have f683 : ¬ (((1 : Nat) : Int) = (0)) := e
        refine w_pl (pc' := 8) (lv' := [(0, (2, ((193 : Nat) : Int))), (1, (0, ((s' : Nat) : Int))), (2, (0, (f))), (3, (0, (n)))]) (st' := [(0, (n))]) (h' := h) (o276_3 hB) rfl ?_
        refine w_pl (pc' := 9) (lv' := [(0, (2, ((193 : Nat) : Int))), (1, (0, ((s' : Nat) : Int))), (2, (0, (f))), (3, (0, (n)))]) (st' := [(0, ((0 : Nat) : Int)), (0, (n))]) (h' := h) (o276_4 hB) rfl ?_
        refine w_pl (pc' := 11) (lv' := [(0, (2, ((193 : Nat) : Int))), (1, (0, ((s' : Nat) : Int))), (2, (0, (f))), (3, (0, (n)))]) (st' := [(0, ((6 : Nat) : Int)), (0, ((0 : Nat) : Int)), (0, (n))]) (h' := h) (o276_5 hB) rfl ?_
        refine w_callS (as := [(0, (n)), (0, ((0 : Nat) : Int)), (0, ((6 : Nat) : Int))]) (rest := []) (n := 3) (pc' := 14) hB (o276_6 hB) rfl (by decide +kernel) rfl rfl (Nat.le_of_ble_eq_true rfl) (m_in hB (fun f684 => ?_) (fun f685 => ?_))
        · exfalso; omega
        · show HW g l _ 276 _ _ 14 [(0, (2, ((193 : Nat) : Int))), (1, (0, ((s' : Nat) : Int))), (2, (0, (f))), (3, (0, (n)))] [(0, ((0 : Nat) : Int))] h
          refine w_ifc (pt := 19) (pf := 17) (o276_7 hB) (by decide) rfl (fun e => ?_) (fun e => ?_)
          · have f686 : (((0 : Nat) : Int) ≠ (0)) := e
            exfalso; omega
          · have f687 : ¬ (((0 : Nat) : Int) ≠ (0)) := e
            refine w_pl (pc' := 18) (lv' := [(0, (2, ((193 : Nat) : Int))), (1, (0, ((s' : Nat) : Int))), (2, (0, (f))), (3, (0, (n)))]) (st' := [(0, (-1))]) (h' := h) (o276_8 hB) rfl ?_
            exact w_iret (o276_9 hB) mr276 (by unfold in32; omega) (a0 (by omega))
    · show HW g l _ 276 _ _ 4 [(0, (2, ((193 : Nat) : Int))), (1, (0, ((s' : Nat) : Int))), (2, (0, (f))), (3, (0, (n)))] [(0, ((0 : Nat) : Int))] h
      refine w_ifc (pt := 17) (pf := 7) (o276_2 hB) (by decide) rfl (fun e => ?_) (fun e => ?_)
      · have f688 : (((0 : Nat) : Int) = (0)) := e
        refine w_pl (pc' := 18) (lv' := [(0, (2, ((193 : Nat) : Int))), (1, (0, ((s' : Nat) : Int))), (2, (0, (f))), (3, (0, (n)))]) (st' := [(0, (-1))]) (h' := h) (o276_8 hB) rfl ?_
        exact w_iret (o276_9 hB) mr276 (by unfold in32; omega) (a0 (by omega))
      · have f689 : ¬ (((0 : Nat) : Int) = (0)) := e
        exfalso; omega
  · obtain ⟨s', e_s⟩ : ∃ q : Nat, s = q := ⟨s.toNat, by omega⟩
    subst e_s
    obtain ⟨m, e_n⟩ : ∃ q : Nat, n = q := ⟨n.toNat, by omega⟩
    subst e_n
    simp only [Int.toNat_natCast] at a1 a2 a3 gr
    have r5 := ty_205_s0 ht (j := s') (r := s') (by omega) (by omega)
    refine mh_go hB mg276 ml276 (Nat.le_of_ble_eq_true rfl) ?_
    show HW g l (d + 1 + 1 + 1) 276 _ _ 0 [(0, (2, ((193 : Nat) : Int))), (1, (0, ((s' : Nat) : Int))), (2, (0, (f))), (3, (0, ((m : Nat) : Int)))] [] h
    refine w_pl (pc' := 1) (lv' := [(0, (2, ((193 : Nat) : Int))), (1, (0, ((s' : Nat) : Int))), (2, (0, (f))), (3, (0, ((m : Nat) : Int)))]) (st' := [(0, ((s' : Nat) : Int))]) (h' := h) (o276_0 hB) rfl ?_
    refine w_callS (as := [(0, ((s' : Nat) : Int))]) (rest := []) (n := 1) (pc' := 4) hB (o276_1 hB) rfl (by decide +kernel) rfl rfl (Nat.le_of_ble_eq_true rfl) (m_isFourM hB (fun f690 => ?_) (fun f691 => ?_))
    · show HW g l _ 276 _ _ 4 [(0, (2, ((193 : Nat) : Int))), (1, (0, ((s' : Nat) : Int))), (2, (0, (f))), (3, (0, ((m : Nat) : Int)))] [(0, ((1 : Nat) : Int))] h
      refine w_ifc (pt := 17) (pf := 7) (o276_2 hB) (by decide) rfl (fun e => ?_) (fun e => ?_)
      · have f692 : (((1 : Nat) : Int) = (0)) := e
        exfalso; omega
      · have f693 : ¬ (((1 : Nat) : Int) = (0)) := e
        refine w_pl (pc' := 8) (lv' := [(0, (2, ((193 : Nat) : Int))), (1, (0, ((s' : Nat) : Int))), (2, (0, (f))), (3, (0, ((m : Nat) : Int)))]) (st' := [(0, ((m : Nat) : Int))]) (h' := h) (o276_3 hB) rfl ?_
        refine w_pl (pc' := 9) (lv' := [(0, (2, ((193 : Nat) : Int))), (1, (0, ((s' : Nat) : Int))), (2, (0, (f))), (3, (0, ((m : Nat) : Int)))]) (st' := [(0, ((0 : Nat) : Int)), (0, ((m : Nat) : Int))]) (h' := h) (o276_4 hB) rfl ?_
        refine w_pl (pc' := 11) (lv' := [(0, (2, ((193 : Nat) : Int))), (1, (0, ((s' : Nat) : Int))), (2, (0, (f))), (3, (0, ((m : Nat) : Int)))]) (st' := [(0, ((6 : Nat) : Int)), (0, ((0 : Nat) : Int)), (0, ((m : Nat) : Int))]) (h' := h) (o276_5 hB) rfl ?_
        refine w_callS (as := [(0, ((m : Nat) : Int)), (0, ((0 : Nat) : Int)), (0, ((6 : Nat) : Int))]) (rest := []) (n := 3) (pc' := 14) hB (o276_6 hB) rfl (by decide +kernel) rfl rfl (Nat.le_of_ble_eq_true rfl) (m_in hB (fun f694 => ?_) (fun f695 => ?_))
        · show HW g l _ 276 _ _ 14 [(0, (2, ((193 : Nat) : Int))), (1, (0, ((s' : Nat) : Int))), (2, (0, (f))), (3, (0, ((m : Nat) : Int)))] [(0, ((1 : Nat) : Int))] h
          refine w_ifc (pt := 19) (pf := 17) (o276_7 hB) (by decide) rfl (fun e => ?_) (fun e => ?_)
          · have f696 : (((1 : Nat) : Int) ≠ (0)) := e
            refine w_pl (pc' := 20) (lv' := [(0, (2, ((193 : Nat) : Int))), (1, (0, ((s' : Nat) : Int))), (2, (0, (f))), (3, (0, ((m : Nat) : Int)))]) (st' := [(2, ((193 : Nat) : Int))]) (h' := h) (o276_10 hB) rfl ?_
            refine w_getf (A := 193) (t := 2) (z := ((205 : Nat) : Int)) (pc' := 23) (o276_11 hB) rfl (by decide +kernel) (hR (193, 35, 205) (by decide)) ?_
            refine w_pl (pc' := 24) (lv' := [(0, (2, ((193 : Nat) : Int))), (1, (0, ((s' : Nat) : Int))), (2, (0, (f))), (3, (0, ((m : Nat) : Int)))]) (st' := [(0, ((s' : Nat) : Int)), (2, ((205 : Nat) : Int))]) (h' := h) (o276_12 hB) rfl ?_
            refine w_iald (A := 205) (i := s') (n := 4) (z := (h 205 s')) (pc' := 25) (o276_13 hB) rfl (by decide +kernel) (by omega) rfl ?_
            refine w_st (tg := 0) (j := 4) (len := 2) (pc' := 27) (lv' := [(4, (0, (h 205 s'))), (0, (2, ((193 : Nat) : Int))), (1, (0, ((s' : Nat) : Int))), (2, (0, (f))), (3, (0, ((m : Nat) : Int)))]) (o276_14 hB) rfl rfl ml276 (by decide) rfl ?_
            refine w_pl (pc' := 29) (lv' := [(4, (0, (h 205 s'))), (0, (2, ((193 : Nat) : Int))), (1, (0, ((s' : Nat) : Int))), (2, (0, (f))), (3, (0, ((m : Nat) : Int)))]) (st' := [(0, (h 205 s'))]) (h' := h) (o276_15 hB) rfl ?_
            refine w_ifc (pt := 46) (pf := 32) (o276_16 hB) (by decide) rfl (fun e => ?_) (fun e => ?_)
            · have f697 : ((h 205 s') < (0)) := e
              refine w_pl (pc' := 48) (lv' := [(4, (0, (h 205 s'))), (0, (2, ((193 : Nat) : Int))), (1, (0, ((s' : Nat) : Int))), (2, (0, (f))), (3, (0, ((m : Nat) : Int)))]) (st' := [(0, (h 205 s'))]) (h' := h) (o276_25 hB) rfl ?_
              refine w_ifc (pt := 54) (pf := 51) (o276_26 hB) (by decide) rfl (fun e => ?_) (fun e => ?_)
              · have f698 : ((0) ≤ (h 205 s')) := e
                exfalso; omega
              · have f699 : ¬ ((0) ≤ (h 205 s')) := e
                refine w_pl (pc' := 53) (lv' := [(4, (0, (h 205 s'))), (0, (2, ((193 : Nat) : Int))), (1, (0, ((s' : Nat) : Int))), (2, (0, (f))), (3, (0, ((m : Nat) : Int)))]) (st' := [(0, (-11))]) (h' := h) (o276_27 hB) rfl ?_
                exact w_iret (o276_28 hB) mr276 (by unfold in32; omega) (a1 (by omega))
            · have f700 : ¬ ((h 205 s') < (0)) := e
              exfalso; omega
          · have f701 : ¬ (((1 : Nat) : Int) ≠ (0)) := e
            exfalso; omega
        · show HW g l _ 276 _ _ 14 [(0, (2, ((193 : Nat) : Int))), (1, (0, ((s' : Nat) : Int))), (2, (0, (f))), (3, (0, ((m : Nat) : Int)))] [(0, ((0 : Nat) : Int))] h
          refine w_ifc (pt := 19) (pf := 17) (o276_7 hB) (by decide) rfl (fun e => ?_) (fun e => ?_)
          · have f702 : (((0 : Nat) : Int) ≠ (0)) := e
            exfalso; omega
          · have f703 : ¬ (((0 : Nat) : Int) ≠ (0)) := e
            refine w_pl (pc' := 18) (lv' := [(0, (2, ((193 : Nat) : Int))), (1, (0, ((s' : Nat) : Int))), (2, (0, (f))), (3, (0, ((m : Nat) : Int)))]) (st' := [(0, (-1))]) (h' := h) (o276_8 hB) rfl ?_
            exact w_iret (o276_9 hB) mr276 (by unfold in32; omega) (a0 (by omega))
    · show HW g l _ 276 _ _ 4 [(0, (2, ((193 : Nat) : Int))), (1, (0, ((s' : Nat) : Int))), (2, (0, (f))), (3, (0, ((m : Nat) : Int)))] [(0, ((0 : Nat) : Int))] h
      refine w_ifc (pt := 17) (pf := 7) (o276_2 hB) (by decide) rfl (fun e => ?_) (fun e => ?_)
      · have f704 : (((0 : Nat) : Int) = (0)) := e
        refine w_pl (pc' := 18) (lv' := [(0, (2, ((193 : Nat) : Int))), (1, (0, ((s' : Nat) : Int))), (2, (0, (f))), (3, (0, ((m : Nat) : Int)))]) (st' := [(0, (-1))]) (h' := h) (o276_8 hB) rfl ?_
        exact w_iret (o276_9 hB) mr276 (by unfold in32; omega) (a0 (by omega))
      · have f705 : ¬ (((0 : Nat) : Int) = (0)) := e
        exfalso; omega
  · obtain ⟨s', e_s⟩ : ∃ q : Nat, s = q := ⟨s.toNat, by omega⟩
    subst e_s
    obtain ⟨m, e_n⟩ : ∃ q : Nat, n = q := ⟨n.toNat, by omega⟩
    subst e_n
    simp only [Int.toNat_natCast] at a1 a2 a3 gr
    have r5 := ty_205_s0 ht (j := s') (r := s') (by omega) (by omega)
    obtain ⟨r, e_r⟩ : ∃ q : Nat, h 205 s' = q := ⟨(h 205 s').toNat, by omega⟩
    rw [e_r] at a1 a2 a3
    simp only [Int.toNat_natCast] at a1 a2 a3
    refine mh_go hB mg276 ml276 (Nat.le_of_ble_eq_true rfl) ?_
    show HW g l (d + 1 + 1 + 1) 276 _ _ 0 [(0, (2, ((193 : Nat) : Int))), (1, (0, ((s' : Nat) : Int))), (2, (0, (f))), (3, (0, ((m : Nat) : Int)))] [] h
    refine w_pl (pc' := 1) (lv' := [(0, (2, ((193 : Nat) : Int))), (1, (0, ((s' : Nat) : Int))), (2, (0, (f))), (3, (0, ((m : Nat) : Int)))]) (st' := [(0, ((s' : Nat) : Int))]) (h' := h) (o276_0 hB) rfl ?_
    refine w_callS (as := [(0, ((s' : Nat) : Int))]) (rest := []) (n := 1) (pc' := 4) hB (o276_1 hB) rfl (by decide +kernel) rfl rfl (Nat.le_of_ble_eq_true rfl) (m_isFourM hB (fun f706 => ?_) (fun f707 => ?_))
    · show HW g l _ 276 _ _ 4 [(0, (2, ((193 : Nat) : Int))), (1, (0, ((s' : Nat) : Int))), (2, (0, (f))), (3, (0, ((m : Nat) : Int)))] [(0, ((1 : Nat) : Int))] h
      refine w_ifc (pt := 17) (pf := 7) (o276_2 hB) (by decide) rfl (fun e => ?_) (fun e => ?_)
      · have f708 : (((1 : Nat) : Int) = (0)) := e
        exfalso; omega
      · have f709 : ¬ (((1 : Nat) : Int) = (0)) := e
        refine w_pl (pc' := 8) (lv' := [(0, (2, ((193 : Nat) : Int))), (1, (0, ((s' : Nat) : Int))), (2, (0, (f))), (3, (0, ((m : Nat) : Int)))]) (st' := [(0, ((m : Nat) : Int))]) (h' := h) (o276_3 hB) rfl ?_
        refine w_pl (pc' := 9) (lv' := [(0, (2, ((193 : Nat) : Int))), (1, (0, ((s' : Nat) : Int))), (2, (0, (f))), (3, (0, ((m : Nat) : Int)))]) (st' := [(0, ((0 : Nat) : Int)), (0, ((m : Nat) : Int))]) (h' := h) (o276_4 hB) rfl ?_
        refine w_pl (pc' := 11) (lv' := [(0, (2, ((193 : Nat) : Int))), (1, (0, ((s' : Nat) : Int))), (2, (0, (f))), (3, (0, ((m : Nat) : Int)))]) (st' := [(0, ((6 : Nat) : Int)), (0, ((0 : Nat) : Int)), (0, ((m : Nat) : Int))]) (h' := h) (o276_5 hB) rfl ?_
        refine w_callS (as := [(0, ((m : Nat) : Int)), (0, ((0 : Nat) : Int)), (0, ((6 : Nat) : Int))]) (rest := []) (n := 3) (pc' := 14) hB (o276_6 hB) rfl (by decide +kernel) rfl rfl (Nat.le_of_ble_eq_true rfl) (m_in hB (fun f710 => ?_) (fun f711 => ?_))
        · show HW g l _ 276 _ _ 14 [(0, (2, ((193 : Nat) : Int))), (1, (0, ((s' : Nat) : Int))), (2, (0, (f))), (3, (0, ((m : Nat) : Int)))] [(0, ((1 : Nat) : Int))] h
          refine w_ifc (pt := 19) (pf := 17) (o276_7 hB) (by decide) rfl (fun e => ?_) (fun e => ?_)
          · have f712 : (((1 : Nat) : Int) ≠ (0)) := e
            refine w_pl (pc' := 20) (lv' := [(0, (2, ((193 : Nat) : Int))), (1, (0, ((s' : Nat) : Int))), (2, (0, (f))), (3, (0, ((m : Nat) : Int)))]) (st' := [(2, ((193 : Nat) : Int))]) (h' := h) (o276_10 hB) rfl ?_
            refine w_getf (A := 193) (t := 2) (z := ((205 : Nat) : Int)) (pc' := 23) (o276_11 hB) rfl (by decide +kernel) (hR (193, 35, 205) (by decide)) ?_
            refine w_pl (pc' := 24) (lv' := [(0, (2, ((193 : Nat) : Int))), (1, (0, ((s' : Nat) : Int))), (2, (0, (f))), (3, (0, ((m : Nat) : Int)))]) (st' := [(0, ((s' : Nat) : Int)), (2, ((205 : Nat) : Int))]) (h' := h) (o276_12 hB) rfl ?_
            refine w_iald (A := 205) (i := s') (n := 4) (z := ((r : Nat) : Int)) (pc' := 25) (o276_13 hB) rfl (by decide +kernel) (by omega) e_r ?_
            refine w_st (tg := 0) (j := 4) (len := 2) (pc' := 27) (lv' := [(4, (0, ((r : Nat) : Int))), (0, (2, ((193 : Nat) : Int))), (1, (0, ((s' : Nat) : Int))), (2, (0, (f))), (3, (0, ((m : Nat) : Int)))]) (o276_14 hB) rfl rfl ml276 (by decide) rfl ?_
            refine w_pl (pc' := 29) (lv' := [(4, (0, ((r : Nat) : Int))), (0, (2, ((193 : Nat) : Int))), (1, (0, ((s' : Nat) : Int))), (2, (0, (f))), (3, (0, ((m : Nat) : Int)))]) (st' := [(0, ((r : Nat) : Int))]) (h' := h) (o276_15 hB) rfl ?_
            refine w_ifc (pt := 46) (pf := 32) (o276_16 hB) (by decide) rfl (fun e => ?_) (fun e => ?_)
            · have f713 : (((r : Nat) : Int) < (0)) := e
              refine w_pl (pc' := 48) (lv' := [(4, (0, ((r : Nat) : Int))), (0, (2, ((193 : Nat) : Int))), (1, (0, ((s' : Nat) : Int))), (2, (0, (f))), (3, (0, ((m : Nat) : Int)))]) (st' := [(0, ((r : Nat) : Int))]) (h' := h) (o276_25 hB) rfl ?_
              refine w_ifc (pt := 54) (pf := 51) (o276_26 hB) (by decide) rfl (fun e => ?_) (fun e => ?_)
              · have f714 : ((0) ≤ ((r : Nat) : Int)) := e
                refine w_pl (pc' := 55) (lv' := [(4, (0, ((r : Nat) : Int))), (0, (2, ((193 : Nat) : Int))), (1, (0, ((s' : Nat) : Int))), (2, (0, (f))), (3, (0, ((m : Nat) : Int)))]) (st' := [(0, ((0 : Nat) : Int))]) (h' := h) (o276_29 hB) rfl ?_
                refine w_st (tg := 0) (j := 5) (len := 2) (pc' := 57) (lv' := [(5, (0, ((0 : Nat) : Int))), (4, (0, ((r : Nat) : Int))), (0, (2, ((193 : Nat) : Int))), (1, (0, ((s' : Nat) : Int))), (2, (0, (f))), (3, (0, ((m : Nat) : Int)))]) (o276_30 hB) rfl rfl ml276 (by decide) rfl ?_
                refine w_pl (pc' := 58) (lv' := [(5, (0, ((0 : Nat) : Int))), (4, (0, ((r : Nat) : Int))), (0, (2, ((193 : Nat) : Int))), (1, (0, ((s' : Nat) : Int))), (2, (0, (f))), (3, (0, ((m : Nat) : Int)))]) (st' := [(0, ((0 : Nat) : Int))]) (h' := h) (o276_31 hB) rfl ?_
                refine w_st (tg := 0) (j := 6) (len := 2) (pc' := 60) (lv' := [(6, (0, ((0 : Nat) : Int))), (5, (0, ((0 : Nat) : Int))), (4, (0, ((r : Nat) : Int))), (0, (2, ((193 : Nat) : Int))), (1, (0, ((s' : Nat) : Int))), (2, (0, (f))), (3, (0, ((m : Nat) : Int)))]) (o276_32 hB) rfl rfl ml276 (by decide) rfl ?_
                refine w_sub (lv' := [(6, (0, ((0 : Nat) : Int))), (5, (0, ((0 : Nat) : Int))), (4, (0, ((r : Nat) : Int))), (0, (2, ((193 : Nat) : Int))), (2, (0, (f))), (3, (0, ((m : Nat) : Int)))]) (List.forall_mem_cons.mpr ⟨(List.Mem.head _), (List.forall_mem_cons.mpr ⟨(List.Mem.tail _ (List.Mem.head _)), (List.forall_mem_cons.mpr ⟨(List.Mem.tail _ (List.Mem.tail _ (List.Mem.head _))), (List.forall_mem_cons.mpr ⟨(List.Mem.tail _ (List.Mem.tail _ (List.Mem.tail _ (List.Mem.head _)))), (List.forall_mem_cons.mpr ⟨(List.Mem.tail _ (List.Mem.tail _ (List.Mem.tail _ (List.Mem.tail _ (List.Mem.tail _ (List.Mem.head _)))))), (List.forall_mem_cons.mpr ⟨(List.Mem.tail _ (List.Mem.tail _ (List.Mem.tail _ (List.Mem.tail _ (List.Mem.tail _ (List.Mem.tail _ (List.Mem.head _))))))), (fun _ hx => by cases hx)⟩)⟩)⟩)⟩)⟩)⟩) ?_
                exact l_comM hB (by omega) z_f (by omega) m 0 0 h (by omega) ht (by omega) (by omega) (a3 (by omega))
              · have f715 : ¬ ((0) ≤ ((r : Nat) : Int)) := e
                refine w_pl (pc' := 53) (lv' := [(4, (0, ((r : Nat) : Int))), (0, (2, ((193 : Nat) : Int))), (1, (0, ((s' : Nat) : Int))), (2, (0, (f))), (3, (0, ((m : Nat) : Int)))]) (st' := [(0, (-11))]) (h' := h) (o276_27 hB) rfl ?_
                exact w_iret (o276_28 hB) mr276 (by unfold in32; omega) (a1 (by omega))
            · have f716 : ¬ (((r : Nat) : Int) < (0)) := e
              refine w_pl (pc' := 33) (lv' := [(4, (0, ((r : Nat) : Int))), (0, (2, ((193 : Nat) : Int))), (1, (0, ((s' : Nat) : Int))), (2, (0, (f))), (3, (0, ((m : Nat) : Int)))]) (st' := [(2, ((193 : Nat) : Int))]) (h' := h) (o276_17 hB) rfl ?_
              refine w_getf (A := 193) (t := 2) (z := ((206 : Nat) : Int)) (pc' := 36) (o276_18 hB) rfl (by decide +kernel) (hR (193, 36, 206) (by decide)) ?_
              refine w_pl (pc' := 38) (lv' := [(4, (0, ((r : Nat) : Int))), (0, (2, ((193 : Nat) : Int))), (1, (0, ((s' : Nat) : Int))), (2, (0, (f))), (3, (0, ((m : Nat) : Int)))]) (st' := [(0, ((r : Nat) : Int)), (2, ((206 : Nat) : Int))]) (h' := h) (o276_19 hB) rfl ?_
              have f717 := ty_206_s0 ht (j := r) (r := r) (by omega) (by omega)
              refine w_iald (A := 206) (i := r) (n := 8) (z := (h 206 r)) (pc' := 39) (o276_20 hB) rfl (by decide +kernel) (by omega) rfl ?_
              refine w_pl (pc' := 40) (lv' := [(4, (0, ((r : Nat) : Int))), (0, (2, ((193 : Nat) : Int))), (1, (0, ((s' : Nat) : Int))), (2, (0, (f))), (3, (0, ((m : Nat) : Int)))]) (st' := [(0, ((3 : Nat) : Int)), (0, (h 206 r))]) (h' := h) (o276_21 hB) rfl ?_
              refine w_icmp (pt := 46) (pf := 43) (o276_22 hB) (by decide) rfl (fun e => ?_) (fun e => ?_)
              · have f718 : ((h 206 r) = ((3 : Nat) : Int)) := e
                refine w_pl (pc' := 48) (lv' := [(4, (0, ((r : Nat) : Int))), (0, (2, ((193 : Nat) : Int))), (1, (0, ((s' : Nat) : Int))), (2, (0, (f))), (3, (0, ((m : Nat) : Int)))]) (st' := [(0, ((r : Nat) : Int))]) (h' := h) (o276_25 hB) rfl ?_
                refine w_ifc (pt := 54) (pf := 51) (o276_26 hB) (by decide) rfl (fun e => ?_) (fun e => ?_)
                · have f719 : ((0) ≤ ((r : Nat) : Int)) := e
                  refine w_pl (pc' := 55) (lv' := [(4, (0, ((r : Nat) : Int))), (0, (2, ((193 : Nat) : Int))), (1, (0, ((s' : Nat) : Int))), (2, (0, (f))), (3, (0, ((m : Nat) : Int)))]) (st' := [(0, ((0 : Nat) : Int))]) (h' := h) (o276_29 hB) rfl ?_
                  refine w_st (tg := 0) (j := 5) (len := 2) (pc' := 57) (lv' := [(5, (0, ((0 : Nat) : Int))), (4, (0, ((r : Nat) : Int))), (0, (2, ((193 : Nat) : Int))), (1, (0, ((s' : Nat) : Int))), (2, (0, (f))), (3, (0, ((m : Nat) : Int)))]) (o276_30 hB) rfl rfl ml276 (by decide) rfl ?_
                  refine w_pl (pc' := 58) (lv' := [(5, (0, ((0 : Nat) : Int))), (4, (0, ((r : Nat) : Int))), (0, (2, ((193 : Nat) : Int))), (1, (0, ((s' : Nat) : Int))), (2, (0, (f))), (3, (0, ((m : Nat) : Int)))]) (st' := [(0, ((0 : Nat) : Int))]) (h' := h) (o276_31 hB) rfl ?_
                  refine w_st (tg := 0) (j := 6) (len := 2) (pc' := 60) (lv' := [(6, (0, ((0 : Nat) : Int))), (5, (0, ((0 : Nat) : Int))), (4, (0, ((r : Nat) : Int))), (0, (2, ((193 : Nat) : Int))), (1, (0, ((s' : Nat) : Int))), (2, (0, (f))), (3, (0, ((m : Nat) : Int)))]) (o276_32 hB) rfl rfl ml276 (by decide) rfl ?_
                  refine w_sub (lv' := [(6, (0, ((0 : Nat) : Int))), (5, (0, ((0 : Nat) : Int))), (4, (0, ((r : Nat) : Int))), (0, (2, ((193 : Nat) : Int))), (2, (0, (f))), (3, (0, ((m : Nat) : Int)))]) (List.forall_mem_cons.mpr ⟨(List.Mem.head _), (List.forall_mem_cons.mpr ⟨(List.Mem.tail _ (List.Mem.head _)), (List.forall_mem_cons.mpr ⟨(List.Mem.tail _ (List.Mem.tail _ (List.Mem.head _))), (List.forall_mem_cons.mpr ⟨(List.Mem.tail _ (List.Mem.tail _ (List.Mem.tail _ (List.Mem.head _)))), (List.forall_mem_cons.mpr ⟨(List.Mem.tail _ (List.Mem.tail _ (List.Mem.tail _ (List.Mem.tail _ (List.Mem.tail _ (List.Mem.head _)))))), (List.forall_mem_cons.mpr ⟨(List.Mem.tail _ (List.Mem.tail _ (List.Mem.tail _ (List.Mem.tail _ (List.Mem.tail _ (List.Mem.tail _ (List.Mem.head _))))))), (fun _ hx => by cases hx)⟩)⟩)⟩)⟩)⟩)⟩) ?_
                  exact l_comM hB (by omega) z_f (by omega) m 0 0 h (by omega) ht (by omega) (by omega) (a3 (by omega))
                · have f720 : ¬ ((0) ≤ ((r : Nat) : Int)) := e
                  refine w_pl (pc' := 53) (lv' := [(4, (0, ((r : Nat) : Int))), (0, (2, ((193 : Nat) : Int))), (1, (0, ((s' : Nat) : Int))), (2, (0, (f))), (3, (0, ((m : Nat) : Int)))]) (st' := [(0, (-11))]) (h' := h) (o276_27 hB) rfl ?_
                  exact w_iret (o276_28 hB) mr276 (by unfold in32; omega) (a1 (by omega))
              · have f721 : ¬ ((h 206 r) = ((3 : Nat) : Int)) := e
                refine w_pl (pc' := 45) (lv' := [(4, (0, ((r : Nat) : Int))), (0, (2, ((193 : Nat) : Int))), (1, (0, ((s' : Nat) : Int))), (2, (0, (f))), (3, (0, ((m : Nat) : Int)))]) (st' := [(0, (-13))]) (h' := h) (o276_23 hB) rfl ?_
                exact w_iret (o276_24 hB) mr276 (by unfold in32; omega) (a2 (by omega))
          · have f722 : ¬ (((1 : Nat) : Int) ≠ (0)) := e
            exfalso; omega
        · show HW g l _ 276 _ _ 14 [(0, (2, ((193 : Nat) : Int))), (1, (0, ((s' : Nat) : Int))), (2, (0, (f))), (3, (0, ((m : Nat) : Int)))] [(0, ((0 : Nat) : Int))] h
          refine w_ifc (pt := 19) (pf := 17) (o276_7 hB) (by decide) rfl (fun e => ?_) (fun e => ?_)
          · have f723 : (((0 : Nat) : Int) ≠ (0)) := e
            exfalso; omega
          · have f724 : ¬ (((0 : Nat) : Int) ≠ (0)) := e
            refine w_pl (pc' := 18) (lv' := [(0, (2, ((193 : Nat) : Int))), (1, (0, ((s' : Nat) : Int))), (2, (0, (f))), (3, (0, ((m : Nat) : Int)))]) (st' := [(0, (-1))]) (h' := h) (o276_8 hB) rfl ?_
            exact w_iret (o276_9 hB) mr276 (by unfold in32; omega) (a0 (by omega))
    · show HW g l _ 276 _ _ 4 [(0, (2, ((193 : Nat) : Int))), (1, (0, ((s' : Nat) : Int))), (2, (0, (f))), (3, (0, ((m : Nat) : Int)))] [(0, ((0 : Nat) : Int))] h
      refine w_ifc (pt := 17) (pf := 7) (o276_2 hB) (by decide) rfl (fun e => ?_) (fun e => ?_)
      · have f725 : (((0 : Nat) : Int) = (0)) := e
        refine w_pl (pc' := 18) (lv' := [(0, (2, ((193 : Nat) : Int))), (1, (0, ((s' : Nat) : Int))), (2, (0, (f))), (3, (0, ((m : Nat) : Int)))]) (st' := [(0, (-1))]) (h' := h) (o276_8 hB) rfl ?_
        exact w_iret (o276_9 hB) mr276 (by unfold in32; omega) (a0 (by omega))
      · have f726 : ¬ (((0 : Nat) : Int) = (0)) := e
        exfalso; omega
def s_comesB (vs : List bV) (h : bH) (r : Option bV) (h' : bH) : Prop := TH h ∧ ∀ (s f n : Int), vs = [(2, ((0 : Nat) : Int)), (0, s), (0, f), (0, n)] → ((¬ ((0 ≤ s ∧ s ≤ 3) ∧ 0 ≤ n ∧ n ≤ 6)) ∧ r = some (0, -1) ∧ h = h') ∨ ((((0 ≤ s ∧ s ≤ 3) ∧ 0 ≤ n ∧ n ≤ 6) ∧ h 182 s.toNat < 0) ∧ r = some (0, -11) ∧ h = h') ∨ ((((0 ≤ s ∧ s ≤ 3) ∧ 0 ≤ n ∧ n ≤ 6) ∧ 0 ≤ h 182 s.toNat ∧ h 182 s.toNat ≠ 3) ∧ r = some (0, -13) ∧ h = h') ∨ ((((0 ≤ s ∧ s ≤ 3) ∧ 0 ≤ n ∧ n ≤ 6) ∧ h 182 s.toNat = 3) ∧ r = some (0, (comB s.toNat f n.toNat 0 0 h).1) ∧ h' = (comB s.toNat f n.toNat 0 0 h).2)
def q_comesB : aCt := cH 163 4 w_claimB 3 0
theorem sk_comesB (hB : BytesOK) (g : bG) (l : Launch) : SK g l gT q_comesB s_comesB := by
  intro d hd ρ h Q hcore hQ
  have hcore : core (PofW gT (some w_claimB) false) (gsc g) h ρ h (List.replicate 3 r32, [], [], 212) := hcore
  have ht := hTH hcore
  have y0 := r32_0 hcore 0 (by decide)
  have y1 := r32_0 hcore 1 (by decide)
  have y2 := r32_0 hcore 2 (by decide)
  obtain ⟨d', rfl⟩ : ∃ d', d = d' + 1 + 1 + 1 + 1 := ⟨d - 4, by have : 4 ≤ d := hd; omega⟩
  rw [show evS ρ (ctA q_comesB) = [(2, ((0 : Nat) : Int)), (0, ρ 0), (0, ρ 1), (0, ρ 2)] from evA3]
  refine m_comesB hB ht y0 y1 y2 (fun hn => ?_) (fun hn => ?_) (fun hn => ?_) (fun hn => ?_)
  · refine hQ _ _ (hpost hcore ht (fun _ _ _ => rfl) (by unfold in32; omega)) ⟨ht, fun s f n hv => ?_⟩
    have hv := (evA3 (ρ := ρ)).symm.trans hv
    obtain ⟨rfl, rfl, rfl⟩ := vsA3 hv
    exact Or.inl ⟨hn, rfl, rfl⟩
  · refine hQ _ _ (hpost hcore ht (fun _ _ _ => rfl) (by unfold in32; omega)) ⟨ht, fun s f n hv => ?_⟩
    have hv := (evA3 (ρ := ρ)).symm.trans hv
    obtain ⟨rfl, rfl, rfl⟩ := vsA3 hv
    exact Or.inr (Or.inl ⟨hn, rfl, rfl⟩)
  · refine hQ _ _ (hpost hcore ht (fun _ _ _ => rfl) (by unfold in32; omega)) ⟨ht, fun s f n hv => ?_⟩
    have hv := (evA3 (ρ := ρ)).symm.trans hv
    obtain ⟨rfl, rfl, rfl⟩ := vsA3 hv
    exact Or.inr (Or.inr (Or.inl ⟨hn, rfl, rfl⟩))
  · have r5 := trivial
    obtain ⟨u1, u2, u3, u4⟩ := comB_TH (s := (ρ 0).toNat) (f := ρ 1) (by omega) (ρ 2).toNat 0 0 h ht (by omega) (by omega) (by omega)
    refine hQ _ _ (hpost hcore u1 u2 (by unfold in32; omega)) ⟨ht, fun s f n hv => ?_⟩
    have hv := (evA3 (ρ := ρ)).symm.trans hv
    obtain ⟨rfl, rfl, rfl⟩ := vsA3 hv
    exact Or.inr (Or.inr (Or.inr (⟨hn, rfl, rfl⟩)))
def s_comesM (vs : List bV) (h : bH) (r : Option bV) (h' : bH) : Prop := TH h ∧ ∀ (s f n : Int), vs = [(2, ((193 : Nat) : Int)), (0, s), (0, f), (0, n)] → ((¬ ((0 ≤ s ∧ s ≤ 3) ∧ 0 ≤ n ∧ n ≤ 6)) ∧ r = some (0, -1) ∧ h = h') ∨ ((((0 ≤ s ∧ s ≤ 3) ∧ 0 ≤ n ∧ n ≤ 6) ∧ h 205 s.toNat < 0) ∧ r = some (0, -11) ∧ h = h') ∨ ((((0 ≤ s ∧ s ≤ 3) ∧ 0 ≤ n ∧ n ≤ 6) ∧ 0 ≤ h 205 s.toNat ∧ h 206 (h 205 s.toNat).toNat ≠ 3) ∧ r = some (0, -13) ∧ h = h') ∨ ((((0 ≤ s ∧ s ≤ 3) ∧ 0 ≤ n ∧ n ≤ 6) ∧ 0 ≤ h 205 s.toNat ∧ h 206 (h 205 s.toNat).toNat = 3) ∧ r = some (0, (comM (h 205 s.toNat).toNat f n.toNat 0 0 h).1) ∧ h' = (comM (h 205 s.toNat).toNat f n.toNat 0 0 h).2)
def q_comesM : aCt := cH 276 3 w_claimM 3 193
theorem sk_comesM (hB : BytesOK) (g : bG) (l : Launch) : SK g l gT q_comesM s_comesM := by
  intro d hd ρ h Q hcore hQ
  have hcore : core (PofW gT (some w_claimM) false) (gsc g) h ρ h (List.replicate 3 r32, [], [], 212) := hcore
  have ht := hTH hcore
  have y0 := r32_0 hcore 0 (by decide)
  have y1 := r32_0 hcore 1 (by decide)
  have y2 := r32_0 hcore 2 (by decide)
  obtain ⟨d', rfl⟩ : ∃ d', d = d' + 1 + 1 + 1 := ⟨d - 3, by have : 3 ≤ d := hd; omega⟩
  rw [show evS ρ (ctA q_comesM) = [(2, ((193 : Nat) : Int)), (0, ρ 0), (0, ρ 1), (0, ρ 2)] from evA3]
  refine m_comesM hB ht y0 y1 y2 (fun hn => ?_) (fun hn => ?_) (fun hn => ?_) (fun hn => ?_)
  · refine hQ _ _ (hpost hcore ht (fun _ _ _ => rfl) (by unfold in32; omega)) ⟨ht, fun s f n hv => ?_⟩
    have hv := (evA3 (ρ := ρ)).symm.trans hv
    obtain ⟨rfl, rfl, rfl⟩ := vsA3 hv
    exact Or.inl ⟨hn, rfl, rfl⟩
  · refine hQ _ _ (hpost hcore ht (fun _ _ _ => rfl) (by unfold in32; omega)) ⟨ht, fun s f n hv => ?_⟩
    have hv := (evA3 (ρ := ρ)).symm.trans hv
    obtain ⟨rfl, rfl, rfl⟩ := vsA3 hv
    exact Or.inr (Or.inl ⟨hn, rfl, rfl⟩)
  · refine hQ _ _ (hpost hcore ht (fun _ _ _ => rfl) (by unfold in32; omega)) ⟨ht, fun s f n hv => ?_⟩
    have hv := (evA3 (ρ := ρ)).symm.trans hv
    obtain ⟨rfl, rfl, rfl⟩ := vsA3 hv
    exact Or.inr (Or.inr (Or.inl ⟨hn, rfl, rfl⟩))
  · have r5 := ty_205_s0 ht (j := (ρ 0).toNat) (r := (ρ 0).toNat) (by omega) (by omega)
    obtain ⟨u1, u2, u3, u4⟩ := comM_TH (r := (h 205 (ρ 0).toNat).toNat) (f := ρ 1) (by omega) (ρ 2).toNat 0 0 h ht (by omega) (by omega) (by omega)
    refine hQ _ _ (hpost hcore u1 u2 (by unfold in32; omega)) ⟨ht, fun s f n hv => ?_⟩
    have hv := (evA3 (ρ := ρ)).symm.trans hv
    obtain ⟨rfl, rfl, rfl⟩ := vsA3 hv
    exact Or.inr (Or.inr (Or.inr (⟨hn, rfl, rfl⟩)))
theorem m_monthsB (hB : BytesOK) {g : bG} {l : Launch} {d : Nat} {Q : bQ} {h : bH} {n : Int} (ht : TH h) (z_n : in32 n) {w : Int} (hw : h 2 0 = w)  (a0 : ¬ (1 ≤ n ∧ n ≤ 60) → Q (some (0, (-1))) h) (a1 : (1 ≤ n ∧ n ≤ 60) ∧ 239 < w + n → Q (some (0, (-4))) h) (a2 : (1 ≤ n ∧ n ≤ 60) ∧ w + n ≤ 239 → Q (some (0, (w + n))) (hup h 2 (0) ((w) + (n)))) : MH g l d 123 212 212 [(2, ((0 : Nat) : Int)), (0, (n))] h Q := by
  have hR := ht.r
  have z0_n := z_n
  unfold in32 at z0_n
  have r_w := ty_2_c0 ht
  rw [hw] at r_w
  refine mh_go hB mg123 ml123 (Nat.le_of_ble_eq_true rfl) ?_
  show HW g l d 123 _ _ 0 [(0, (2, ((0 : Nat) : Int))), (1, (0, (n)))] [] h
  refine w_pl (pc' := 1) (lv' := [(0, (2, ((0 : Nat) : Int))), (1, (0, (n)))]) (st' := [(0, (n))]) (h' := h) (o123_0 hB) rfl ?_
  refine w_pl (pc' := 2) (lv' := [(0, (2, ((0 : Nat) : Int))), (1, (0, (n)))]) (st' := [(0, ((1 : Nat) : Int)), (0, (n))]) (h' := h) (o123_1 hB) rfl ?_
  refine w_icmp (pt := 11) (pf := 5) (o123_2 hB) (by decide) rfl (fun e => ?_) (fun e => ?_)
  · have f733 : ((n) < ((1 : Nat) : Int)) := e
    refine w_pl (pc' := 12) (lv' := [(0, (2, ((0 : Nat) : Int))), (1, (0, (n)))]) (st' := [(0, (-1))]) (h' := h) (o123_6 hB) rfl ?_
    exact w_iret (o123_7 hB) mr123 (by unfold in32; omega) (a0 (by omega))
  · have f734 : ¬ ((n) < ((1 : Nat) : Int)) := e
    refine w_pl (pc' := 6) (lv' := [(0, (2, ((0 : Nat) : Int))), (1, (0, (n)))]) (st' := [(0, (n))]) (h' := h) (o123_3 hB) rfl ?_
    refine w_pl (pc' := 8) (lv' := [(0, (2, ((0 : Nat) : Int))), (1, (0, (n)))]) (st' := [(0, ((60 : Nat) : Int)), (0, (n))]) (h' := h) (o123_4 hB) rfl ?_
    refine w_icmp (pt := 13) (pf := 11) (o123_5 hB) (by decide) rfl (fun e => ?_) (fun e => ?_)
    · have f735 : ((n) ≤ ((60 : Nat) : Int)) := e
      refine w_pl (pc' := 14) (lv' := [(0, (2, ((0 : Nat) : Int))), (1, (0, (n)))]) (st' := [(2, ((0 : Nat) : Int))]) (h' := h) (o123_8 hB) rfl ?_
      refine w_getf (A := 0) (t := 2) (z := ((1 : Nat) : Int)) (pc' := 17) (o123_9 hB) rfl (by decide +kernel) (hR (0, 0, 1) (by decide)) ?_
      refine w_getf (A := 1) (t := 2) (z := ((2 : Nat) : Int)) (pc' := 20) (o123_10 hB) rfl (by decide +kernel) (hR (1, 0, 2) (by decide)) ?_
      refine w_getf (A := 2) (t := 0) (z := (w)) (pc' := 23) (o123_11 hB) rfl (by decide +kernel) hw ?_
      refine w_pl (pc' := 24) (lv' := [(0, (2, ((0 : Nat) : Int))), (1, (0, (n)))]) (st' := [(0, (n)), (0, (w))]) (h' := h) (o123_12 hB) rfl ?_
      refine w_iadd (z := ((w) + (n))) (pc' := 25) (o123_13 hB) rfl (w32_e (by omega) (by omega)) ?_
      refine w_pl (pc' := 28) (lv' := [(0, (2, ((0 : Nat) : Int))), (1, (0, (n)))]) (st' := [(0, ((240 : Nat) : Int)), (0, ((w) + (n)))]) (h' := h) (o123_14 hB) rfl ?_
      refine w_icmp (pt := 34) (pf := 31) (o123_15 hB) (by decide) rfl (fun e => ?_) (fun e => ?_)
      · have f736 : (((w) + (n)) < ((240 : Nat) : Int)) := e
        refine w_pl (pc' := 35) (lv' := [(0, (2, ((0 : Nat) : Int))), (1, (0, (n)))]) (st' := [(2, ((0 : Nat) : Int))]) (h' := h) (o123_18 hB) rfl ?_
        refine w_getf (A := 0) (t := 2) (z := ((1 : Nat) : Int)) (pc' := 38) (o123_19 hB) rfl (by decide +kernel) (hR (0, 0, 1) (by decide)) ?_
        refine w_getf (A := 1) (t := 2) (z := ((2 : Nat) : Int)) (pc' := 41) (o123_20 hB) rfl (by decide +kernel) (hR (1, 0, 2) (by decide)) ?_
        refine w_pl (pc' := 42) (lv' := [(0, (2, ((0 : Nat) : Int))), (1, (0, (n)))]) (st' := [(2, ((2 : Nat) : Int)), (2, ((2 : Nat) : Int))]) (h' := h) (o123_21 hB) rfl ?_
        refine w_getf (A := 2) (t := 0) (z := (w)) (pc' := 45) (o123_22 hB) rfl (by decide +kernel) hw ?_
        refine w_pl (pc' := 46) (lv' := [(0, (2, ((0 : Nat) : Int))), (1, (0, (n)))]) (st' := [(0, (n)), (0, (w)), (2, ((2 : Nat) : Int))]) (h' := h) (o123_23 hB) rfl ?_
        refine w_iadd (z := ((w) + (n))) (pc' := 47) (o123_24 hB) rfl (w32_e (by omega) (by omega)) ?_
        refine w_putf (A := 2) (t := 0) (pc' := 50) (o123_25 hB) rfl (by decide +kernel) ?_
        refine w_pl (pc' := 51) (lv' := [(0, (2, ((0 : Nat) : Int))), (1, (0, (n)))]) (st' := [(2, ((0 : Nat) : Int))]) (h' := (hup h 2 (0) ((w) + (n)))) (o123_26 hB) rfl ?_
        refine w_getf (A := 0) (t := 2) (z := ((1 : Nat) : Int)) (pc' := 54) (o123_27 hB) rfl (by decide +kernel) ((hup_ne (by decide)).trans (hR (0, 0, 1) (by decide))) ?_
        refine w_getf (A := 1) (t := 2) (z := ((2 : Nat) : Int)) (pc' := 57) (o123_28 hB) rfl (by decide +kernel) ((hup_ne (by decide)).trans (hR (1, 0, 2) (by decide))) ?_
        refine w_getf (A := 2) (t := 0) (z := (((w) + (n)))) (pc' := 60) (o123_29 hB) rfl (by decide +kernel) (hup_eq) ?_
        exact w_iret (o123_30 hB) mr123 (by unfold in32; omega) (qe (a2 (by omega)) (by omega))
      · have f737 : ¬ (((w) + (n)) < ((240 : Nat) : Int)) := e
        refine w_pl (pc' := 33) (lv' := [(0, (2, ((0 : Nat) : Int))), (1, (0, (n)))]) (st' := [(0, (-4))]) (h' := h) (o123_16 hB) rfl ?_
        exact w_iret (o123_17 hB) mr123 (by unfold in32; omega) (a1 (by omega))
    · have f738 : ¬ ((n) ≤ ((60 : Nat) : Int)) := e
      refine w_pl (pc' := 12) (lv' := [(0, (2, ((0 : Nat) : Int))), (1, (0, (n)))]) (st' := [(0, (-1))]) (h' := h) (o123_6 hB) rfl ?_
      exact w_iret (o123_7 hB) mr123 (by unfold in32; omega) (a0 (by omega))
def s_monthsB (vs : List bV) (h : bH) (r : Option bV) (h' : bH) : Prop := TH h ∧ ∀ (n : Int) (w : Int) , vs = [(2, ((0 : Nat) : Int)), (0, n)] → h 2 0 = w → ((¬ (1 ≤ n ∧ n ≤ 60)) ∧ r = some (0, (-1)) ∧ h = h') ∨ (((1 ≤ n ∧ n ≤ 60) ∧ 239 < w + n) ∧ r = some (0, (-4)) ∧ h = h') ∨ (((1 ≤ n ∧ n ≤ 60) ∧ w + n ≤ 239) ∧ r = some (0, (w + n)) ∧ h' = (hup h 2 (0) ((w) + (n))))
def w_monthsB : List (Nat × Nat × Nat) := [(2, 0, 1)]
def q_monthsB : aCt := cH 123 0 w_monthsB 1 0
theorem sk_monthsB (hB : BytesOK) (g : bG) (l : Launch) : SK g l gT q_monthsB s_monthsB := by
  intro d hd ρ h Q hcore hQ
  have hcore : core (PofW gT (some w_monthsB) false) (gsc g) h ρ h (List.replicate 1 r32, [], [], 212) := hcore
  have ht := hTH hcore
  have y0 := r32_0 hcore 0 (by decide)
  have y00 := y0
  unfold in32 at y00
  have r_w := ty_2_c0 ht
  rw [show evS ρ (ctA q_monthsB) = [(2, ((0 : Nat) : Int)), (0, ρ 0)] from evA1]
  refine m_monthsB (n := ρ 0) hB ht y0 rfl (fun hn => ?_) (fun hn => ?_) (fun hn => ?_)
  · refine hQ _ _ (hpost hcore (ht) (fun _ _ _ => rfl) (by unfold in32; omega)) ⟨ht, fun n v_w hv e_w => ?_⟩
    have hv := (evA1 (ρ := ρ)).symm.trans hv
    obtain rfl := vsA1 hv
    subst e_w
    exact Or.inl ⟨hn, rfl, rfl⟩
  · refine hQ _ _ (hpost hcore (ht) (fun _ _ _ => rfl) (by unfold in32; omega)) ⟨ht, fun n v_w hv e_w => ?_⟩
    have hv := (evA1 (ρ := ρ)).symm.trans hv
    obtain rfl := vsA1 hv
    subst e_w
    exact Or.inr (Or.inl ⟨hn, rfl, rfl⟩)
  · refine hQ _ _ (hpost hcore ((ht).upc (a := 2) (j := 0) (lo := (0)) (hi := 239) (by decide +kernel) (by omega)) (fr_up (fun _ _ _ => rfl) (wr_in (lo := 0) (hi := 1) (by decide) (by omega) (by omega))) (by unfold in32; omega)) ⟨ht, fun n v_w hv e_w => ?_⟩
    have hv := (evA1 (ρ := ρ)).symm.trans hv
    obtain rfl := vsA1 hv
    subst e_w
    exact Or.inr (Or.inr (⟨hn, rfl, rfl⟩))
theorem m_monthsM (hB : BytesOK) {g : bG} {l : Launch} {d : Nat} {Q : bQ} {h : bH} {n : Int} (ht : TH h) (z_n : in32 n) {w : Int} (hw : h 194 0 = w)  (a0 : ¬ (1 ≤ n ∧ n ≤ 60) → Q (some (0, (-1))) h) (a1 : (1 ≤ n ∧ n ≤ 60) ∧ 239 < w + n → Q (some (0, (-4))) h) (a2 : (1 ≤ n ∧ n ≤ 60) ∧ w + n ≤ 239 → Q (some (0, (w + n))) (hup h 194 (0) ((w) + (n)))) : MH g l (d + 1) 189 212 212 [(2, ((193 : Nat) : Int)), (0, (n))] h Q := by
  have hR := ht.r
  have z0_n := z_n
  unfold in32 at z0_n
  have r_w := ty_194_c0 ht
  rw [hw] at r_w
  refine mh_go hB mg189 ml189 (Nat.le_of_ble_eq_true rfl) ?_
  show HW g l (d + 1) 189 _ _ 0 [(0, (2, ((193 : Nat) : Int))), (1, (0, (n)))] [] h
  refine w_pl (pc' := 1) (lv' := [(0, (2, ((193 : Nat) : Int))), (1, (0, (n)))]) (st' := [(0, (n))]) (h' := h) (o189_0 hB) rfl ?_
  refine w_pl (pc' := 2) (lv' := [(0, (2, ((193 : Nat) : Int))), (1, (0, (n)))]) (st' := [(0, ((1 : Nat) : Int)), (0, (n))]) (h' := h) (o189_1 hB) rfl ?_
  refine w_pl (pc' := 4) (lv' := [(0, (2, ((193 : Nat) : Int))), (1, (0, (n)))]) (st' := [(0, ((60 : Nat) : Int)), (0, ((1 : Nat) : Int)), (0, (n))]) (h' := h) (o189_2 hB) rfl ?_
  refine w_callS (as := [(0, (n)), (0, ((1 : Nat) : Int)), (0, ((60 : Nat) : Int))]) (rest := []) (n := 3) (pc' := 7) hB (o189_3 hB) rfl (by decide +kernel) rfl rfl (Nat.le_of_ble_eq_true rfl) (m_in hB (fun f747 => ?_) (fun f748 => ?_))
  · show HW g l _ 189 _ _ 7 [(0, (2, ((193 : Nat) : Int))), (1, (0, (n)))] [(0, ((1 : Nat) : Int))] h
    refine w_ifc (pt := 12) (pf := 10) (o189_4 hB) (by decide) rfl (fun e => ?_) (fun e => ?_)
    · have f749 : (((1 : Nat) : Int) ≠ (0)) := e
      refine w_pl (pc' := 13) (lv' := [(0, (2, ((193 : Nat) : Int))), (1, (0, (n)))]) (st' := [(2, ((193 : Nat) : Int))]) (h' := h) (o189_7 hB) rfl ?_
      refine w_getf (A := 193) (t := 2) (z := ((194 : Nat) : Int)) (pc' := 16) (o189_8 hB) rfl (by decide +kernel) (hR (193, 0, 194) (by decide)) ?_
      refine w_pl (pc' := 17) (lv' := [(0, (2, ((193 : Nat) : Int))), (1, (0, (n)))]) (st' := [(0, ((0 : Nat) : Int)), (2, ((194 : Nat) : Int))]) (h' := h) (o189_9 hB) rfl ?_
      refine w_iald (A := 194) (i := 0) (n := 1984) (z := (w)) (pc' := 18) (o189_10 hB) rfl (by decide +kernel) (by omega) hw ?_
      refine w_pl (pc' := 19) (lv' := [(0, (2, ((193 : Nat) : Int))), (1, (0, (n)))]) (st' := [(0, (n)), (0, (w))]) (h' := h) (o189_11 hB) rfl ?_
      refine w_iadd (z := ((w) + (n))) (pc' := 20) (o189_12 hB) rfl (w32_e (by omega) (by omega)) ?_
      refine w_pl (pc' := 23) (lv' := [(0, (2, ((193 : Nat) : Int))), (1, (0, (n)))]) (st' := [(0, ((239 : Nat) : Int)), (0, ((w) + (n)))]) (h' := h) (o189_13 hB) rfl ?_
      refine w_icmp (pt := 29) (pf := 26) (o189_14 hB) (by decide) rfl (fun e => ?_) (fun e => ?_)
      · have f750 : (((w) + (n)) ≤ ((239 : Nat) : Int)) := e
        refine w_pl (pc' := 30) (lv' := [(0, (2, ((193 : Nat) : Int))), (1, (0, (n)))]) (st' := [(2, ((193 : Nat) : Int))]) (h' := h) (o189_17 hB) rfl ?_
        refine w_getf (A := 193) (t := 2) (z := ((194 : Nat) : Int)) (pc' := 33) (o189_18 hB) rfl (by decide +kernel) (hR (193, 0, 194) (by decide)) ?_
        refine w_pl (pc' := 34) (lv' := [(0, (2, ((193 : Nat) : Int))), (1, (0, (n)))]) (st' := [(0, ((0 : Nat) : Int)), (2, ((194 : Nat) : Int))]) (h' := h) (o189_19 hB) rfl ?_
        refine w_pl (pc' := 35) (lv' := [(0, (2, ((193 : Nat) : Int))), (1, (0, (n)))]) (st' := [(0, ((0 : Nat) : Int)), (2, ((194 : Nat) : Int)), (0, ((0 : Nat) : Int)), (2, ((194 : Nat) : Int))]) (h' := h) (o189_20 hB) rfl ?_
        refine w_iald (A := 194) (i := 0) (n := 1984) (z := (w)) (pc' := 36) (o189_21 hB) rfl (by decide +kernel) (by omega) hw ?_
        refine w_pl (pc' := 37) (lv' := [(0, (2, ((193 : Nat) : Int))), (1, (0, (n)))]) (st' := [(0, (n)), (0, (w)), (0, ((0 : Nat) : Int)), (2, ((194 : Nat) : Int))]) (h' := h) (o189_22 hB) rfl ?_
        refine w_iadd (z := ((w) + (n))) (pc' := 38) (o189_23 hB) rfl (w32_e (by omega) (by omega)) ?_
        refine w_iast (A := 194) (i := 0) (n := 1984) (pc' := 39) (o189_24 hB) rfl (by decide +kernel) (by omega) ?_
        refine w_pl (pc' := 40) (lv' := [(0, (2, ((193 : Nat) : Int))), (1, (0, (n)))]) (st' := [(2, ((193 : Nat) : Int))]) (h' := (hup h 194 (0) ((w) + (n)))) (o189_25 hB) rfl ?_
        refine w_getf (A := 193) (t := 2) (z := ((194 : Nat) : Int)) (pc' := 43) (o189_26 hB) rfl (by decide +kernel) ((hup_ne (by decide)).trans (hR (193, 0, 194) (by decide))) ?_
        refine w_pl (pc' := 44) (lv' := [(0, (2, ((193 : Nat) : Int))), (1, (0, (n)))]) (st' := [(0, ((0 : Nat) : Int)), (2, ((194 : Nat) : Int))]) (h' := (hup h 194 (0) ((w) + (n)))) (o189_27 hB) rfl ?_
        refine w_iald (A := 194) (i := 0) (n := 1984) (z := (((w) + (n)))) (pc' := 45) (o189_28 hB) rfl (by decide +kernel) (by omega) (hup_eq) ?_
        exact w_iret (o189_29 hB) mr189 (by unfold in32; omega) (qe (a2 (by omega)) (by omega))
      · have f751 : ¬ (((w) + (n)) ≤ ((239 : Nat) : Int)) := e
        refine w_pl (pc' := 28) (lv' := [(0, (2, ((193 : Nat) : Int))), (1, (0, (n)))]) (st' := [(0, (-4))]) (h' := h) (o189_15 hB) rfl ?_
        exact w_iret (o189_16 hB) mr189 (by unfold in32; omega) (a1 (by omega))
    · have f752 : ¬ (((1 : Nat) : Int) ≠ (0)) := e
      exfalso; omega
  · show HW g l _ 189 _ _ 7 [(0, (2, ((193 : Nat) : Int))), (1, (0, (n)))] [(0, ((0 : Nat) : Int))] h
    refine w_ifc (pt := 12) (pf := 10) (o189_4 hB) (by decide) rfl (fun e => ?_) (fun e => ?_)
    · have f753 : (((0 : Nat) : Int) ≠ (0)) := e
      exfalso; omega
    · have f754 : ¬ (((0 : Nat) : Int) ≠ (0)) := e
      refine w_pl (pc' := 11) (lv' := [(0, (2, ((193 : Nat) : Int))), (1, (0, (n)))]) (st' := [(0, (-1))]) (h' := h) (o189_5 hB) rfl ?_
      exact w_iret (o189_6 hB) mr189 (by unfold in32; omega) (a0 (by omega))
def s_monthsM (vs : List bV) (h : bH) (r : Option bV) (h' : bH) : Prop := TH h ∧ ∀ (n : Int) (w : Int) , vs = [(2, ((193 : Nat) : Int)), (0, n)] → h 194 0 = w → ((¬ (1 ≤ n ∧ n ≤ 60)) ∧ r = some (0, (-1)) ∧ h = h') ∨ (((1 ≤ n ∧ n ≤ 60) ∧ 239 < w + n) ∧ r = some (0, (-4)) ∧ h = h') ∨ (((1 ≤ n ∧ n ≤ 60) ∧ w + n ≤ 239) ∧ r = some (0, (w + n)) ∧ h' = (hup h 194 (0) ((w) + (n))))
def w_monthsM : List (Nat × Nat × Nat) := [(194, 0, 1)]
def q_monthsM : aCt := cH 189 1 w_monthsM 1 193
theorem sk_monthsM (hB : BytesOK) (g : bG) (l : Launch) : SK g l gT q_monthsM s_monthsM := by
  intro d hd ρ h Q hcore hQ
  have hcore : core (PofW gT (some w_monthsM) false) (gsc g) h ρ h (List.replicate 1 r32, [], [], 212) := hcore
  have ht := hTH hcore
  have y0 := r32_0 hcore 0 (by decide)
  have y00 := y0
  unfold in32 at y00
  have r_w := ty_194_c0 ht
  obtain ⟨d', rfl⟩ : ∃ d', d = d' + 1 := ⟨d - 1, by have : 1 ≤ d := hd; omega⟩
  rw [show evS ρ (ctA q_monthsM) = [(2, ((193 : Nat) : Int)), (0, ρ 0)] from evA1]
  refine m_monthsM (n := ρ 0) hB ht y0 rfl (fun hn => ?_) (fun hn => ?_) (fun hn => ?_)
  · refine hQ _ _ (hpost hcore (ht) (fun _ _ _ => rfl) (by unfold in32; omega)) ⟨ht, fun n v_w hv e_w => ?_⟩
    have hv := (evA1 (ρ := ρ)).symm.trans hv
    obtain rfl := vsA1 hv
    subst e_w
    exact Or.inl ⟨hn, rfl, rfl⟩
  · refine hQ _ _ (hpost hcore (ht) (fun _ _ _ => rfl) (by unfold in32; omega)) ⟨ht, fun n v_w hv e_w => ?_⟩
    have hv := (evA1 (ρ := ρ)).symm.trans hv
    obtain rfl := vsA1 hv
    subst e_w
    exact Or.inr (Or.inl ⟨hn, rfl, rfl⟩)
  · refine hQ _ _ (hpost hcore ((ht).upc (a := 194) (j := 0) (lo := (0)) (hi := 239) (by decide +kernel) (by omega)) (fr_up (fun _ _ _ => rfl) (wr_in (lo := 0) (hi := 1) (by decide) (by omega) (by omega))) (by unfold in32; omega)) ⟨ht, fun n v_w hv e_w => ?_⟩
    have hv := (evA1 (ρ := ρ)).symm.trans hv
    obtain rfl := vsA1 hv
    subst e_w
    exact Or.inr (Or.inr (⟨hn, rfl, rfl⟩))
theorem m_hasClaim (hB : BytesOK) {g : bG} {l : Launch} {d : Nat} {Q : bQ} {h : bH} {x : Int} (ht : TH h) {nc : Nat} (hnc : h 2 1 = (nc : Int)) (lnc : nc ≤ 16) (h1 : 0 ≤ x ∧ x < (nc : Int) → Q (some (0, 1)) h) (h0 : ¬ (0 ≤ x ∧ x < (nc : Int)) → Q (some (0, 0)) h) : MH g l d 45 212 212 [(2, ((2 : Nat) : Int)), (0, x)] h Q := by
  have hR := ht.r
  refine mh_go hB mg45 ml45 (Nat.le_of_ble_eq_true rfl) ?_
  show HW g l d 45 _ _ 0 [(0, (2, ((2 : Nat) : Int))), (1, (0, (x)))] [] h
  refine w_pl (pc' := 1) (lv' := [(0, (2, ((2 : Nat) : Int))), (1, (0, (x)))]) (st' := [(0, (x))]) (h' := h) (o45_0 hB) rfl ?_
  refine w_ifc (pt := 16) (pf := 4) (o45_1 hB) (by decide) rfl (fun e => ?_) (fun e => ?_)
  · have f755 : ((x) < (0)) := e
    refine w_pl (pc' := 17) (lv' := [(0, (2, ((2 : Nat) : Int))), (1, (0, (x)))]) (st' := [(0, ((0 : Nat) : Int))]) (h' := h) (o45_8 hB) rfl ?_
    exact w_zret (o45_9 hB) mr45 (by decide) (h0 (by omega))
  · have f756 : ¬ ((x) < (0)) := e
    refine w_pl (pc' := 5) (lv' := [(0, (2, ((2 : Nat) : Int))), (1, (0, (x)))]) (st' := [(0, (x))]) (h' := h) (o45_2 hB) rfl ?_
    refine w_pl (pc' := 6) (lv' := [(0, (2, ((2 : Nat) : Int))), (1, (0, (x)))]) (st' := [(2, ((2 : Nat) : Int)), (0, (x))]) (h' := h) (o45_3 hB) rfl ?_
    refine w_getf (A := 2) (t := 0) (z := ((nc : Nat) : Int)) (pc' := 9) (o45_4 hB) rfl (by decide +kernel) hnc ?_
    refine w_icmp (pt := 16) (pf := 12) (o45_5 hB) (by decide) rfl (fun e => ?_) (fun e => ?_)
    · have f757 : (((nc : Nat) : Int) ≤ (x)) := e
      refine w_pl (pc' := 17) (lv' := [(0, (2, ((2 : Nat) : Int))), (1, (0, (x)))]) (st' := [(0, ((0 : Nat) : Int))]) (h' := h) (o45_8 hB) rfl ?_
      exact w_zret (o45_9 hB) mr45 (by decide) (h0 (by omega))
    · have f758 : ¬ (((nc : Nat) : Int) ≤ (x)) := e
      refine w_pl (pc' := 13) (lv' := [(0, (2, ((2 : Nat) : Int))), (1, (0, (x)))]) (st' := [(0, ((1 : Nat) : Int))]) (h' := h) (o45_6 hB) rfl ?_
      refine w_goto (pt := 17) (o45_7 hB) (by decide) ?_
      exact w_zret (o45_9 hB) mr45 (by decide) (h1 (by omega))
theorem m_isClaim (hB : BytesOK) {g : bG} {l : Launch} {d : Nat} {Q : bQ} {h : bH} {x : Int} (ht : TH h) {nc : Nat} (hnc : h 194 1 = (nc : Int)) (lnc : nc ≤ 16) (h1 : 0 ≤ x ∧ x < (nc : Int) → Q (some (0, 1)) h) (h0 : ¬ (0 ≤ x ∧ x < (nc : Int)) → Q (some (0, 0)) h) : MH g l (d + 1) 190 212 212 [(2, ((193 : Nat) : Int)), (0, x)] h Q := by
  have hR := ht.r
  refine mh_go hB mg190 ml190 (Nat.le_of_ble_eq_true rfl) ?_
  show HW g l (d + 1) 190 _ _ 0 [(0, (2, ((193 : Nat) : Int))), (1, (0, (x)))] [] h
  refine w_pl (pc' := 1) (lv' := [(0, (2, ((193 : Nat) : Int))), (1, (0, (x)))]) (st' := [(0, (x))]) (h' := h) (o190_0 hB) rfl ?_
  refine w_pl (pc' := 2) (lv' := [(0, (2, ((193 : Nat) : Int))), (1, (0, (x)))]) (st' := [(0, ((0 : Nat) : Int)), (0, (x))]) (h' := h) (o190_1 hB) rfl ?_
  refine w_pl (pc' := 3) (lv' := [(0, (2, ((193 : Nat) : Int))), (1, (0, (x)))]) (st' := [(2, ((193 : Nat) : Int)), (0, ((0 : Nat) : Int)), (0, (x))]) (h' := h) (o190_2 hB) rfl ?_
  refine w_getf (A := 193) (t := 2) (z := ((194 : Nat) : Int)) (pc' := 6) (o190_3 hB) rfl (by decide +kernel) (hR (193, 0, 194) (by decide)) ?_
  refine w_pl (pc' := 7) (lv' := [(0, (2, ((193 : Nat) : Int))), (1, (0, (x)))]) (st' := [(0, ((1 : Nat) : Int)), (2, ((194 : Nat) : Int)), (0, ((0 : Nat) : Int)), (0, (x))]) (h' := h) (o190_4 hB) rfl ?_
  refine w_iald (A := 194) (i := 1) (n := 1984) (z := ((nc : Nat) : Int)) (pc' := 8) (o190_5 hB) rfl (by decide +kernel) (by omega) hnc ?_
  refine w_pl (pc' := 9) (lv' := [(0, (2, ((193 : Nat) : Int))), (1, (0, (x)))]) (st' := [(0, ((1 : Nat) : Int)), (0, ((nc : Nat) : Int)), (0, ((0 : Nat) : Int)), (0, (x))]) (h' := h) (o190_6 hB) rfl ?_
  refine w_isub (z := (((nc : Nat) : Int) - ((1 : Nat) : Int))) (pc' := 10) (o190_7 hB) rfl (w32_e (by omega) (by omega)) ?_
  refine w_callS (as := [(0, (x)), (0, ((0 : Nat) : Int)), (0, (((nc : Nat) : Int) - ((1 : Nat) : Int)))]) (rest := []) (n := 3) (pc' := 13) hB (o190_8 hB) rfl (by decide +kernel) rfl rfl (Nat.le_of_ble_eq_true rfl) (m_in hB (fun f759 => ?_) (fun f760 => ?_))
  · show HW g l _ 190 _ _ 13 [(0, (2, ((193 : Nat) : Int))), (1, (0, (x)))] [(0, ((1 : Nat) : Int))] h
    exact w_zret (o190_9 hB) mr190 (by decide) (h1 (by omega))
  · show HW g l _ 190 _ _ 13 [(0, (2, ((193 : Nat) : Int))), (1, (0, (x)))] [(0, ((0 : Nat) : Int))] h
    exact w_zret (o190_9 hB) mr190 (by decide) (h0 (by omega))
theorem m_withBit (hB : BytesOK) {g : bG} {l : Launch} {d : Nat} {Q : bQ} {h : bH} {x i s : Int} (h1 : s ≠ 0 → Q (some (0, orI x (shlI 1 i))) h) (h0 : s = 0 → Q (some (0, andI x (xorI (shlI 1 i) (-1)))) h) : MH g l d 49 212 212 [(0, x), (0, i), (0, s)] h Q := by
  refine mh_go hB mg49 ml49 (Nat.le_of_ble_eq_true rfl) ?_
  show HW g l d 49 _ _ 0 [(0, (0, (x))), (1, (0, (i))), (2, (0, (s)))] [] h
  refine w_pl (pc' := 1) (lv' := [(0, (0, (x))), (1, (0, (i))), (2, (0, (s)))]) (st' := [(0, (s))]) (h' := h) (o49_0 hB) rfl ?_
  refine w_ifc (pt := 12) (pf := 4) (o49_1 hB) (by decide) rfl (fun e => ?_) (fun e => ?_)
  · have f761 : ((s) = (0)) := e
    refine w_pl (pc' := 13) (lv' := [(0, (0, (x))), (1, (0, (i))), (2, (0, (s)))]) (st' := [(0, (x))]) (h' := h) (o49_8 hB) rfl ?_
    refine w_pl (pc' := 14) (lv' := [(0, (0, (x))), (1, (0, (i))), (2, (0, (s)))]) (st' := [(0, ((1 : Nat) : Int)), (0, (x))]) (h' := h) (o49_9 hB) rfl ?_
    refine w_pl (pc' := 15) (lv' := [(0, (0, (x))), (1, (0, (i))), (2, (0, (s)))]) (st' := [(0, (i)), (0, ((1 : Nat) : Int)), (0, (x))]) (h' := h) (o49_10 hB) rfl ?_
    refine w_ishl (z := (shlI 1 (i))) (pc' := 16) (o49_11 hB) rfl rfl ?_
    refine w_pl (pc' := 17) (lv' := [(0, (0, (x))), (1, (0, (i))), (2, (0, (s)))]) (st' := [(0, (-1)), (0, (shlI 1 (i))), (0, (x))]) (h' := h) (o49_12 hB) rfl ?_
    refine w_ixor (z := (xorI (shlI 1 (i)) (-1))) (pc' := 18) (o49_13 hB) rfl rfl ?_
    refine w_iand (z := (andI (x) (xorI (shlI 1 (i)) (-1)))) (pc' := 19) (o49_14 hB) rfl rfl ?_
    exact w_iret (o49_15 hB) mr49 (andI_in _ _) (h0 (by omega))
  · have f762 : ¬ ((s) = (0)) := e
    refine w_pl (pc' := 5) (lv' := [(0, (0, (x))), (1, (0, (i))), (2, (0, (s)))]) (st' := [(0, (x))]) (h' := h) (o49_2 hB) rfl ?_
    refine w_pl (pc' := 6) (lv' := [(0, (0, (x))), (1, (0, (i))), (2, (0, (s)))]) (st' := [(0, ((1 : Nat) : Int)), (0, (x))]) (h' := h) (o49_3 hB) rfl ?_
    refine w_pl (pc' := 7) (lv' := [(0, (0, (x))), (1, (0, (i))), (2, (0, (s)))]) (st' := [(0, (i)), (0, ((1 : Nat) : Int)), (0, (x))]) (h' := h) (o49_4 hB) rfl ?_
    refine w_ishl (z := (shlI 1 (i))) (pc' := 8) (o49_5 hB) rfl rfl ?_
    refine w_ior (z := (orI (x) (shlI 1 (i)))) (pc' := 9) (o49_6 hB) rfl rfl ?_
    refine w_goto (pt := 19) (o49_7 hB) (by decide) ?_
    exact w_iret (o49_15 hB) mr49 (orI_in _ _) (h1 (by omega))
theorem m_addWord (hB : BytesOK) {g : bG} {l : Launch} {d : Nat} {Q : bQ} {h : bH} {x i : Int} (ht : TH h) (z_x : in32 x) (z_i : in32 i) {c : Nat} (hc : h 2 11 = (c : Int)) (lc : c ≤ 20) {nc : Nat} (hnc : h 2 1 = (nc : Int)) (lnc : nc ≤ 16) {w : Int} (hw : h 2 0 = w) {bi : Int} (hbi : h 2 12 = bi)  (a0 : ¬ (0 ≤ x ∧ x < (nc : Int)) → Q (some (0, (-1))) h) (a1 : (0 ≤ x ∧ x < (nc : Int)) ∧ c = 20 → Q (some (0, (-2))) h) (a2 : (0 ≤ x ∧ x < (nc : Int)) ∧ c < 20 ∧ i ≠ 0 → Q (some (0, (c : Int))) (hup (hup (hup (hup h 10 (c) (x)) 11 (c) (w)) 2 (12) (orI (bi) (shlI 1 ((c : Nat) : Int)))) 2 (11) (((c + 1) : Nat) : Int))) (a3 : (0 ≤ x ∧ x < (nc : Int)) ∧ c < 20 ∧ i = 0 → Q (some (0, (c : Int))) (hup (hup (hup (hup h 10 (c) (x)) 11 (c) (w)) 2 (12) (andI (bi) (xorI (shlI 1 ((c : Nat) : Int)) (-1)))) 2 (11) (((c + 1) : Nat) : Int))) : MH g l (d + 1) 47 212 212 [(2, ((2 : Nat) : Int)), (0, (x)), (0, (i))] h Q := by
  have hR := ht.r
  have z0_x := z_x
  have z0_i := z_i
  unfold in32 at z0_x
  unfold in32 at z0_i
  have r_w := ty_2_c0 ht
  rw [hw] at r_w
  have r_bi := ty_2_c12 ht
  rw [hbi] at r_bi
  refine mh_go hB mg47 ml47 (Nat.le_of_ble_eq_true rfl) ?_
  show HW g l (d + 1) 47 _ _ 0 [(0, (2, ((2 : Nat) : Int))), (1, (0, (x))), (2, (0, (i)))] [] h
  refine w_pl (pc' := 1) (lv' := [(0, (2, ((2 : Nat) : Int))), (1, (0, (x))), (2, (0, (i)))]) (st' := [(2, ((2 : Nat) : Int))]) (h' := h) (o47_0 hB) rfl ?_
  refine w_pl (pc' := 2) (lv' := [(0, (2, ((2 : Nat) : Int))), (1, (0, (x))), (2, (0, (i)))]) (st' := [(0, (x)), (2, ((2 : Nat) : Int))]) (h' := h) (o47_1 hB) rfl ?_
  refine w_callV (A := 2) (as := [(0, (x))]) (rest := []) (n := 1) (pc' := 5) 3 hB (o47_2 hB) rfl (by decide +kernel) rfl rfl (Nat.le_of_ble_eq_true rfl) (m_hasClaim hB ht hnc lnc (fun f773 => ?_) (fun f774 => ?_))
  · show HW g l _ 47 _ _ 5 [(0, (2, ((2 : Nat) : Int))), (1, (0, (x))), (2, (0, (i)))] [(0, ((1 : Nat) : Int))] h
    refine w_ifc (pt := 10) (pf := 8) (o47_3 hB) (by decide) rfl (fun e => ?_) (fun e => ?_)
    · have f775 : (((1 : Nat) : Int) ≠ (0)) := e
      refine w_pl (pc' := 11) (lv' := [(0, (2, ((2 : Nat) : Int))), (1, (0, (x))), (2, (0, (i)))]) (st' := [(2, ((2 : Nat) : Int))]) (h' := h) (o47_6 hB) rfl ?_
      refine w_getf (A := 2) (t := 0) (z := ((c : Nat) : Int)) (pc' := 14) (o47_7 hB) rfl (by decide +kernel) hc ?_
      refine w_pl (pc' := 16) (lv' := [(0, (2, ((2 : Nat) : Int))), (1, (0, (x))), (2, (0, (i)))]) (st' := [(0, ((20 : Nat) : Int)), (0, ((c : Nat) : Int))]) (h' := h) (o47_8 hB) rfl ?_
      refine w_icmp (pt := 22) (pf := 19) (o47_9 hB) (by decide) rfl (fun e => ?_) (fun e => ?_)
      · have f776 : (((c : Nat) : Int) < ((20 : Nat) : Int)) := e
        refine w_pl (pc' := 23) (lv' := [(0, (2, ((2 : Nat) : Int))), (1, (0, (x))), (2, (0, (i)))]) (st' := [(2, ((2 : Nat) : Int))]) (h' := h) (o47_12 hB) rfl ?_
        refine w_getf (A := 2) (t := 2) (z := ((10 : Nat) : Int)) (pc' := 26) (o47_13 hB) rfl (by decide +kernel) (hR (2, 13, 10) (by decide)) ?_
        refine w_pl (pc' := 27) (lv' := [(0, (2, ((2 : Nat) : Int))), (1, (0, (x))), (2, (0, (i)))]) (st' := [(2, ((2 : Nat) : Int)), (2, ((10 : Nat) : Int))]) (h' := h) (o47_14 hB) rfl ?_
        refine w_getf (A := 2) (t := 0) (z := ((c : Nat) : Int)) (pc' := 30) (o47_15 hB) rfl (by decide +kernel) hc ?_
        refine w_pl (pc' := 31) (lv' := [(0, (2, ((2 : Nat) : Int))), (1, (0, (x))), (2, (0, (i)))]) (st' := [(0, (x)), (0, ((c : Nat) : Int)), (2, ((10 : Nat) : Int))]) (h' := h) (o47_16 hB) rfl ?_
        refine w_iast (A := 10) (i := c) (n := 20) (pc' := 32) (o47_17 hB) rfl (by decide +kernel) (by omega) ?_
        refine w_pl (pc' := 33) (lv' := [(0, (2, ((2 : Nat) : Int))), (1, (0, (x))), (2, (0, (i)))]) (st' := [(2, ((2 : Nat) : Int))]) (h' := (hup h 10 (c) (x))) (o47_18 hB) rfl ?_
        refine w_getf (A := 2) (t := 2) (z := ((11 : Nat) : Int)) (pc' := 36) (o47_19 hB) rfl (by decide +kernel) ((hup_ne (by decide)).trans (hR (2, 14, 11) (by decide))) ?_
        refine w_pl (pc' := 37) (lv' := [(0, (2, ((2 : Nat) : Int))), (1, (0, (x))), (2, (0, (i)))]) (st' := [(2, ((2 : Nat) : Int)), (2, ((11 : Nat) : Int))]) (h' := (hup h 10 (c) (x))) (o47_20 hB) rfl ?_
        refine w_getf (A := 2) (t := 0) (z := ((c : Nat) : Int)) (pc' := 40) (o47_21 hB) rfl (by decide +kernel) ((hup_ne (by decide)).trans hc) ?_
        refine w_pl (pc' := 41) (lv' := [(0, (2, ((2 : Nat) : Int))), (1, (0, (x))), (2, (0, (i)))]) (st' := [(2, ((2 : Nat) : Int)), (0, ((c : Nat) : Int)), (2, ((11 : Nat) : Int))]) (h' := (hup h 10 (c) (x))) (o47_22 hB) rfl ?_
        refine w_getf (A := 2) (t := 0) (z := (w)) (pc' := 44) (o47_23 hB) rfl (by decide +kernel) ((hup_ne (by decide)).trans hw) ?_
        refine w_iast (A := 11) (i := c) (n := 20) (pc' := 45) (o47_24 hB) rfl (by decide +kernel) (by omega) ?_
        refine w_pl (pc' := 46) (lv' := [(0, (2, ((2 : Nat) : Int))), (1, (0, (x))), (2, (0, (i)))]) (st' := [(2, ((2 : Nat) : Int))]) (h' := (hup (hup h 10 (c) (x)) 11 (c) (w))) (o47_25 hB) rfl ?_
        refine w_pl (pc' := 47) (lv' := [(0, (2, ((2 : Nat) : Int))), (1, (0, (x))), (2, (0, (i)))]) (st' := [(2, ((2 : Nat) : Int)), (2, ((2 : Nat) : Int))]) (h' := (hup (hup h 10 (c) (x)) 11 (c) (w))) (o47_26 hB) rfl ?_
        refine w_getf (A := 2) (t := 0) (z := (bi)) (pc' := 50) (o47_27 hB) rfl (by decide +kernel) ((hup_ne (by decide)).trans ((hup_ne (by decide)).trans hbi)) ?_
        refine w_pl (pc' := 51) (lv' := [(0, (2, ((2 : Nat) : Int))), (1, (0, (x))), (2, (0, (i)))]) (st' := [(2, ((2 : Nat) : Int)), (0, (bi)), (2, ((2 : Nat) : Int))]) (h' := (hup (hup h 10 (c) (x)) 11 (c) (w))) (o47_28 hB) rfl ?_
        refine w_getf (A := 2) (t := 0) (z := ((c : Nat) : Int)) (pc' := 54) (o47_29 hB) rfl (by decide +kernel) ((hup_ne (by decide)).trans ((hup_ne (by decide)).trans hc)) ?_
        refine w_pl (pc' := 55) (lv' := [(0, (2, ((2 : Nat) : Int))), (1, (0, (x))), (2, (0, (i)))]) (st' := [(0, (i)), (0, ((c : Nat) : Int)), (0, (bi)), (2, ((2 : Nat) : Int))]) (h' := (hup (hup h 10 (c) (x)) 11 (c) (w))) (o47_30 hB) rfl ?_
        refine w_callS (as := [(0, (bi)), (0, ((c : Nat) : Int)), (0, (i))]) (rest := [(2, ((2 : Nat) : Int))]) (n := 3) (pc' := 58) hB (o47_31 hB) rfl (by decide +kernel) rfl rfl (Nat.le_of_ble_eq_true rfl) (m_withBit hB (fun f777 => ?_) (fun f778 => ?_))
        · show HW g l _ 47 _ _ 58 [(0, (2, ((2 : Nat) : Int))), (1, (0, (x))), (2, (0, (i)))] [(0, (orI (bi) (shlI 1 ((c : Nat) : Int)))), (2, ((2 : Nat) : Int))] (hup (hup h 10 (c) (x)) 11 (c) (w))
          refine w_putf (A := 2) (t := 0) (pc' := 61) (o47_32 hB) rfl (by decide +kernel) ?_
          refine w_pl (pc' := 62) (lv' := [(0, (2, ((2 : Nat) : Int))), (1, (0, (x))), (2, (0, (i)))]) (st' := [(2, ((2 : Nat) : Int))]) (h' := (hup (hup (hup h 10 (c) (x)) 11 (c) (w)) 2 (12) (orI (bi) (shlI 1 ((c : Nat) : Int))))) (o47_33 hB) rfl ?_
          refine w_pl (pc' := 63) (lv' := [(0, (2, ((2 : Nat) : Int))), (1, (0, (x))), (2, (0, (i)))]) (st' := [(2, ((2 : Nat) : Int)), (2, ((2 : Nat) : Int))]) (h' := (hup (hup (hup h 10 (c) (x)) 11 (c) (w)) 2 (12) (orI (bi) (shlI 1 ((c : Nat) : Int))))) (o47_34 hB) rfl ?_
          refine w_getf (A := 2) (t := 0) (z := ((c : Nat) : Int)) (pc' := 66) (o47_35 hB) rfl (by decide +kernel) ((hup_nj (by omega)).trans ((hup_ne (by decide)).trans ((hup_ne (by decide)).trans hc))) ?_
          refine w_pl (pc' := 67) (lv' := [(0, (2, ((2 : Nat) : Int))), (1, (0, (x))), (2, (0, (i)))]) (st' := [(0, ((c : Nat) : Int)), (2, ((2 : Nat) : Int)), (0, ((c : Nat) : Int))]) (h' := (hup (hup (hup h 10 (c) (x)) 11 (c) (w)) 2 (12) (orI (bi) (shlI 1 ((c : Nat) : Int))))) (o47_36 hB) rfl ?_
          refine w_pl (pc' := 68) (lv' := [(0, (2, ((2 : Nat) : Int))), (1, (0, (x))), (2, (0, (i)))]) (st' := [(0, ((1 : Nat) : Int)), (0, ((c : Nat) : Int)), (2, ((2 : Nat) : Int)), (0, ((c : Nat) : Int))]) (h' := (hup (hup (hup h 10 (c) (x)) 11 (c) (w)) 2 (12) (orI (bi) (shlI 1 ((c : Nat) : Int))))) (o47_37 hB) rfl ?_
          refine w_iadd (z := (((c + 1) : Nat) : Int)) (pc' := 69) (o47_38 hB) rfl (w32_e (by omega) (by omega)) ?_
          refine w_putf (A := 2) (t := 0) (pc' := 72) (o47_39 hB) rfl (by decide +kernel) ?_
          exact w_iret (o47_40 hB) mr47 (by unfold in32; omega) (qe (a2 (by omega)) (by omega))
        · show HW g l _ 47 _ _ 58 [(0, (2, ((2 : Nat) : Int))), (1, (0, (x))), (2, (0, (i)))] [(0, (andI (bi) (xorI (shlI 1 ((c : Nat) : Int)) (-1)))), (2, ((2 : Nat) : Int))] (hup (hup h 10 (c) (x)) 11 (c) (w))
          refine w_putf (A := 2) (t := 0) (pc' := 61) (o47_32 hB) rfl (by decide +kernel) ?_
          refine w_pl (pc' := 62) (lv' := [(0, (2, ((2 : Nat) : Int))), (1, (0, (x))), (2, (0, (i)))]) (st' := [(2, ((2 : Nat) : Int))]) (h' := (hup (hup (hup h 10 (c) (x)) 11 (c) (w)) 2 (12) (andI (bi) (xorI (shlI 1 ((c : Nat) : Int)) (-1))))) (o47_33 hB) rfl ?_
          refine w_pl (pc' := 63) (lv' := [(0, (2, ((2 : Nat) : Int))), (1, (0, (x))), (2, (0, (i)))]) (st' := [(2, ((2 : Nat) : Int)), (2, ((2 : Nat) : Int))]) (h' := (hup (hup (hup h 10 (c) (x)) 11 (c) (w)) 2 (12) (andI (bi) (xorI (shlI 1 ((c : Nat) : Int)) (-1))))) (o47_34 hB) rfl ?_
          refine w_getf (A := 2) (t := 0) (z := ((c : Nat) : Int)) (pc' := 66) (o47_35 hB) rfl (by decide +kernel) ((hup_nj (by omega)).trans ((hup_ne (by decide)).trans ((hup_ne (by decide)).trans hc))) ?_
          refine w_pl (pc' := 67) (lv' := [(0, (2, ((2 : Nat) : Int))), (1, (0, (x))), (2, (0, (i)))]) (st' := [(0, ((c : Nat) : Int)), (2, ((2 : Nat) : Int)), (0, ((c : Nat) : Int))]) (h' := (hup (hup (hup h 10 (c) (x)) 11 (c) (w)) 2 (12) (andI (bi) (xorI (shlI 1 ((c : Nat) : Int)) (-1))))) (o47_36 hB) rfl ?_
          refine w_pl (pc' := 68) (lv' := [(0, (2, ((2 : Nat) : Int))), (1, (0, (x))), (2, (0, (i)))]) (st' := [(0, ((1 : Nat) : Int)), (0, ((c : Nat) : Int)), (2, ((2 : Nat) : Int)), (0, ((c : Nat) : Int))]) (h' := (hup (hup (hup h 10 (c) (x)) 11 (c) (w)) 2 (12) (andI (bi) (xorI (shlI 1 ((c : Nat) : Int)) (-1))))) (o47_37 hB) rfl ?_
          refine w_iadd (z := (((c + 1) : Nat) : Int)) (pc' := 69) (o47_38 hB) rfl (w32_e (by omega) (by omega)) ?_
          refine w_putf (A := 2) (t := 0) (pc' := 72) (o47_39 hB) rfl (by decide +kernel) ?_
          exact w_iret (o47_40 hB) mr47 (by unfold in32; omega) (qe (a3 (by omega)) (by omega))
      · have f779 : ¬ (((c : Nat) : Int) < ((20 : Nat) : Int)) := e
        refine w_pl (pc' := 21) (lv' := [(0, (2, ((2 : Nat) : Int))), (1, (0, (x))), (2, (0, (i)))]) (st' := [(0, (-2))]) (h' := h) (o47_10 hB) rfl ?_
        exact w_iret (o47_11 hB) mr47 (by unfold in32; omega) (a1 (by omega))
    · have f780 : ¬ (((1 : Nat) : Int) ≠ (0)) := e
      exfalso; omega
  · show HW g l _ 47 _ _ 5 [(0, (2, ((2 : Nat) : Int))), (1, (0, (x))), (2, (0, (i)))] [(0, ((0 : Nat) : Int))] h
    refine w_ifc (pt := 10) (pf := 8) (o47_3 hB) (by decide) rfl (fun e => ?_) (fun e => ?_)
    · have f781 : (((0 : Nat) : Int) ≠ (0)) := e
      exfalso; omega
    · have f782 : ¬ (((0 : Nat) : Int) ≠ (0)) := e
      refine w_pl (pc' := 9) (lv' := [(0, (2, ((2 : Nat) : Int))), (1, (0, (x))), (2, (0, (i)))]) (st' := [(0, (-1))]) (h' := h) (o47_4 hB) rfl ?_
      exact w_iret (o47_5 hB) mr47 (by unfold in32; omega) (a0 (by omega))
theorem m_wordB (hB : BytesOK) {g : bG} {l : Launch} {d : Nat} {Q : bQ} {h : bH} {x i : Int} (ht : TH h) (z_x : in32 x) (z_i : in32 i) {c : Nat} (hc : h 2 11 = (c : Int)) (lc : c ≤ 20) {nc : Nat} (hnc : h 2 1 = (nc : Int)) (lnc : nc ≤ 16) {w : Int} (hw : h 2 0 = w) {bi : Int} (hbi : h 2 12 = bi)  (a0 : ¬ (0 ≤ x ∧ x < (nc : Int)) → Q (some (0, (-1))) h) (a1 : (0 ≤ x ∧ x < (nc : Int)) ∧ c = 20 → Q (some (0, (-2))) h) (a2 : (0 ≤ x ∧ x < (nc : Int)) ∧ c < 20 ∧ i ≠ 0 → Q (some (0, (c : Int))) (hup (hup (hup (hup h 10 (c) (x)) 11 (c) (w)) 2 (12) (orI (bi) (shlI 1 ((c : Nat) : Int)))) 2 (11) (((c + 1) : Nat) : Int))) (a3 : (0 ≤ x ∧ x < (nc : Int)) ∧ c < 20 ∧ i = 0 → Q (some (0, (c : Int))) (hup (hup (hup (hup h 10 (c) (x)) 11 (c) (w)) 2 (12) (andI (bi) (xorI (shlI 1 ((c : Nat) : Int)) (-1)))) 2 (11) (((c + 1) : Nat) : Int))) : MH g l (d + 1 + 1) 125 212 212 [(2, ((0 : Nat) : Int)), (0, (x)), (0, (i))] h Q := by
  have hR := ht.r
  have z0_x := z_x
  have z0_i := z_i
  unfold in32 at z0_x
  unfold in32 at z0_i
  have r_w := ty_2_c0 ht
  rw [hw] at r_w
  have r_bi := ty_2_c12 ht
  rw [hbi] at r_bi
  refine mh_go hB mg125 ml125 (Nat.le_of_ble_eq_true rfl) ?_
  show HW g l (d + 1 + 1) 125 _ _ 0 [(0, (2, ((0 : Nat) : Int))), (1, (0, (x))), (2, (0, (i)))] [] h
  refine w_pl (pc' := 1) (lv' := [(0, (2, ((0 : Nat) : Int))), (1, (0, (x))), (2, (0, (i)))]) (st' := [(2, ((0 : Nat) : Int))]) (h' := h) (o125_0 hB) rfl ?_
  refine w_getf (A := 0) (t := 2) (z := ((1 : Nat) : Int)) (pc' := 4) (o125_1 hB) rfl (by decide +kernel) (hR (0, 0, 1) (by decide)) ?_
  refine w_getf (A := 1) (t := 2) (z := ((2 : Nat) : Int)) (pc' := 7) (o125_2 hB) rfl (by decide +kernel) (hR (1, 0, 2) (by decide)) ?_
  refine w_pl (pc' := 8) (lv' := [(0, (2, ((0 : Nat) : Int))), (1, (0, (x))), (2, (0, (i)))]) (st' := [(0, (x)), (2, ((2 : Nat) : Int))]) (h' := h) (o125_3 hB) rfl ?_
  refine w_pl (pc' := 9) (lv' := [(0, (2, ((0 : Nat) : Int))), (1, (0, (x))), (2, (0, (i)))]) (st' := [(0, (i)), (0, (x)), (2, ((2 : Nat) : Int))]) (h' := h) (o125_4 hB) rfl ?_
  refine w_callV (A := 2) (as := [(0, (x)), (0, (i))]) (rest := []) (n := 2) (pc' := 12) 3 hB (o125_5 hB) rfl (by decide +kernel) rfl rfl (Nat.le_of_ble_eq_true rfl) (m_addWord hB ht z_x z_i hc lc hnc lnc hw hbi (fun f787 => ?_) (fun f788 => ?_) (fun f789 => ?_) (fun f790 => ?_))
  · show HW g l _ 125 _ _ 12 [(0, (2, ((0 : Nat) : Int))), (1, (0, (x))), (2, (0, (i)))] [(0, (-1))] h
    exact w_iret (o125_6 hB) mr125 (by unfold in32; omega) (a0 (by omega))
  · show HW g l _ 125 _ _ 12 [(0, (2, ((0 : Nat) : Int))), (1, (0, (x))), (2, (0, (i)))] [(0, (-2))] h
    exact w_iret (o125_6 hB) mr125 (by unfold in32; omega) (a1 (by omega))
  · show HW g l _ 125 _ _ 12 [(0, (2, ((0 : Nat) : Int))), (1, (0, (x))), (2, (0, (i)))] [(0, ((c : Nat) : Int))] (hup (hup (hup (hup h 10 (c) (x)) 11 (c) (w)) 2 (12) (orI (bi) (shlI 1 ((c : Nat) : Int)))) 2 (11) (((c + 1) : Nat) : Int))
    exact w_iret (o125_6 hB) mr125 (by unfold in32; omega) (qe (a2 (by omega)) (by omega))
  · show HW g l _ 125 _ _ 12 [(0, (2, ((0 : Nat) : Int))), (1, (0, (x))), (2, (0, (i)))] [(0, ((c : Nat) : Int))] (hup (hup (hup (hup h 10 (c) (x)) 11 (c) (w)) 2 (12) (andI (bi) (xorI (shlI 1 ((c : Nat) : Int)) (-1)))) 2 (11) (((c + 1) : Nat) : Int))
    exact w_iret (o125_6 hB) mr125 (by unfold in32; omega) (qe (a3 (by omega)) (by omega))
def s_wordB (vs : List bV) (h : bH) (r : Option bV) (h' : bH) : Prop := TH h ∧ ∀ (x i : Int) (c : Nat) (nc : Nat) (w : Int) (bi : Int) , vs = [(2, ((0 : Nat) : Int)), (0, x), (0, i)] → h 2 11 = (c : Int) → h 2 1 = (nc : Int) → h 2 0 = w → h 2 12 = bi → ((¬ (0 ≤ x ∧ x < (nc : Int))) ∧ r = some (0, (-1)) ∧ h = h') ∨ (((0 ≤ x ∧ x < (nc : Int)) ∧ c = 20) ∧ r = some (0, (-2)) ∧ h = h') ∨ (((0 ≤ x ∧ x < (nc : Int)) ∧ c < 20 ∧ i ≠ 0) ∧ r = some (0, (c : Int)) ∧ h' = (hup (hup (hup (hup h 10 (c) (x)) 11 (c) (w)) 2 (12) (orI (bi) (shlI 1 ((c : Nat) : Int)))) 2 (11) (((c + 1) : Nat) : Int))) ∨ (((0 ≤ x ∧ x < (nc : Int)) ∧ c < 20 ∧ i = 0) ∧ r = some (0, (c : Int)) ∧ h' = (hup (hup (hup (hup h 10 (c) (x)) 11 (c) (w)) 2 (12) (andI (bi) (xorI (shlI 1 ((c : Nat) : Int)) (-1)))) 2 (11) (((c + 1) : Nat) : Int)))
def w_wordB : List (Nat × Nat × Nat) := [(2, 11, 12), (2, 12, 13), (10, 0, 20), (11, 0, 20)]
def q_wordB : aCt := cH 125 2 w_wordB 2 0
theorem sk_wordB (hB : BytesOK) (g : bG) (l : Launch) : SK g l gT q_wordB s_wordB := by
  intro d hd ρ h Q hcore hQ
  have hcore : core (PofW gT (some w_wordB) false) (gsc g) h ρ h (List.replicate 2 r32, [], [], 212) := hcore
  have ht := hTH hcore
  have y0 := r32_0 hcore 0 (by decide)
  have y1 := r32_0 hcore 1 (by decide)
  have y00 := y0
  unfold in32 at y00
  have y01 := y1
  unfold in32 at y01
  obtain ⟨c, hc, lc⟩ := nat_to ht (a := 2) (j := 11) (n := 20) (by decide +kernel)
  obtain ⟨nc, hnc, lnc⟩ := nat_to ht (a := 2) (j := 1) (n := 16) (by decide +kernel)
  have r_w := ty_2_c0 ht
  have r_bi := ty_2_c12 ht
  obtain ⟨d', rfl⟩ : ∃ d', d = d' + 1 + 1 := ⟨d - 2, by have : 2 ≤ d := hd; omega⟩
  rw [show evS ρ (ctA q_wordB) = [(2, ((0 : Nat) : Int)), (0, ρ 0), (0, ρ 1)] from evA2]
  refine m_wordB (x := ρ 0) (i := ρ 1) hB ht y0 y1 hc lc hnc lnc rfl rfl (fun hn => ?_) (fun hn => ?_) (fun hn => ?_) (fun hn => ?_)
  · refine hQ _ _ (hpost hcore (ht) (fun _ _ _ => rfl) (by unfold in32; omega)) ⟨ht, fun x i c_c c_nc v_w v_bi hv e_c e_nc e_w e_bi => ?_⟩
    have hv := (evA2 (ρ := ρ)).symm.trans hv
    obtain ⟨rfl, rfl⟩ := vsA2 hv
    obtain rfl : c_c = c := by have := e_c.symm.trans hc; omega
    obtain rfl : c_nc = nc := by have := e_nc.symm.trans hnc; omega
    subst e_w
    subst e_bi
    exact Or.inl ⟨hn, rfl, rfl⟩
  · refine hQ _ _ (hpost hcore (ht) (fun _ _ _ => rfl) (by unfold in32; omega)) ⟨ht, fun x i c_c c_nc v_w v_bi hv e_c e_nc e_w e_bi => ?_⟩
    have hv := (evA2 (ρ := ρ)).symm.trans hv
    obtain ⟨rfl, rfl⟩ := vsA2 hv
    obtain rfl : c_c = c := by have := e_c.symm.trans hc; omega
    obtain rfl : c_nc = nc := by have := e_nc.symm.trans hnc; omega
    subst e_w
    subst e_bi
    exact Or.inr (Or.inl ⟨hn, rfl, rfl⟩)
  · refine hQ _ _ (hpost hcore (((((ht).ups2 (a := 10) (s := 0) (st := 1) (n := 20) (lo := (0)) (hi := 15) (r := c) (by decide +kernel) (by omega) (by omega) (by omega)).ups2 (a := 11) (s := 0) (st := 1) (n := 20) (lo := (0)) (hi := 239) (r := c) (by decide +kernel) (by omega) (by omega) (by omega)).upc (a := 2) (j := 12) (lo := (-2147483648)) (hi := 2147483647) (by decide +kernel) (by first | exact orI_in _ _ | exact andI_in _ _)).upc (a := 2) (j := 11) (lo := (0)) (hi := 20) (by decide +kernel) (by omega)) (fr_up (fr_up (fr_up (fr_up (fun _ _ _ => rfl) (wr_in (lo := 0) (hi := 20) (by decide) (by omega) (by omega))) (wr_in (lo := 0) (hi := 20) (by decide) (by omega) (by omega))) (wr_in (lo := 12) (hi := 13) (by decide) (by omega) (by omega))) (wr_in (lo := 11) (hi := 12) (by decide) (by omega) (by omega))) (by unfold in32; omega)) ⟨ht, fun x i c_c c_nc v_w v_bi hv e_c e_nc e_w e_bi => ?_⟩
    have hv := (evA2 (ρ := ρ)).symm.trans hv
    obtain ⟨rfl, rfl⟩ := vsA2 hv
    obtain rfl : c_c = c := by have := e_c.symm.trans hc; omega
    obtain rfl : c_nc = nc := by have := e_nc.symm.trans hnc; omega
    subst e_w
    subst e_bi
    exact Or.inr (Or.inr (Or.inl ⟨hn, rfl, rfl⟩))
  · refine hQ _ _ (hpost hcore (((((ht).ups2 (a := 10) (s := 0) (st := 1) (n := 20) (lo := (0)) (hi := 15) (r := c) (by decide +kernel) (by omega) (by omega) (by omega)).ups2 (a := 11) (s := 0) (st := 1) (n := 20) (lo := (0)) (hi := 239) (r := c) (by decide +kernel) (by omega) (by omega) (by omega)).upc (a := 2) (j := 12) (lo := (-2147483648)) (hi := 2147483647) (by decide +kernel) (by first | exact orI_in _ _ | exact andI_in _ _)).upc (a := 2) (j := 11) (lo := (0)) (hi := 20) (by decide +kernel) (by omega)) (fr_up (fr_up (fr_up (fr_up (fun _ _ _ => rfl) (wr_in (lo := 0) (hi := 20) (by decide) (by omega) (by omega))) (wr_in (lo := 0) (hi := 20) (by decide) (by omega) (by omega))) (wr_in (lo := 12) (hi := 13) (by decide) (by omega) (by omega))) (wr_in (lo := 11) (hi := 12) (by decide) (by omega) (by omega))) (by unfold in32; omega)) ⟨ht, fun x i c_c c_nc v_w v_bi hv e_c e_nc e_w e_bi => ?_⟩
    have hv := (evA2 (ρ := ρ)).symm.trans hv
    obtain ⟨rfl, rfl⟩ := vsA2 hv
    obtain rfl : c_c = c := by have := e_c.symm.trans hc; omega
    obtain rfl : c_nc = nc := by have := e_nc.symm.trans hnc; omega
    subst e_w
    subst e_bi
    exact Or.inr (Or.inr (Or.inr (⟨hn, rfl, rfl⟩)))
theorem m_wordM (hB : BytesOK) {g : bG} {l : Launch} {d : Nat} {Q : bQ} {h : bH} {x i : Int} (ht : TH h) (z_x : in32 x) (z_i : in32 i) {c : Nat} (hc : h 194 2 = (c : Int)) (lc : c ≤ 20) {nc : Nat} (hnc : h 194 1 = (nc : Int)) (lnc : nc ≤ 16) {w : Int} (hw : h 194 0 = w)  (a0 : ¬ (0 ≤ x ∧ x < (nc : Int)) → Q (some (0, (-1))) h) (a1 : (0 ≤ x ∧ x < (nc : Int)) ∧ c = 20 → Q (some (0, (-2))) h) (a2 : (0 ≤ x ∧ x < (nc : Int)) ∧ c < 20 ∧ i ≠ 0 → Q (some (0, (c : Int))) (hup (hup (hup (hup h 194 ((144 + (3 * c))) (x)) 194 (((144 + (3 * c)) + 1)) ((1 : Nat) : Int)) 194 (((144 + (3 * c)) + 2)) (w)) 194 (2) (((c + 1) : Nat) : Int))) (a3 : (0 ≤ x ∧ x < (nc : Int)) ∧ c < 20 ∧ i = 0 → Q (some (0, (c : Int))) (hup (hup (hup (hup h 194 ((144 + (3 * c))) (x)) 194 (((144 + (3 * c)) + 1)) ((0 : Nat) : Int)) 194 (((144 + (3 * c)) + 2)) (w)) 194 (2) (((c + 1) : Nat) : Int))) : MH g l (d + 1 + 1) 193 212 212 [(2, ((193 : Nat) : Int)), (0, (x)), (0, (i))] h Q := by
  have hR := ht.r
  have z0_x := z_x
  have z0_i := z_i
  unfold in32 at z0_x
  unfold in32 at z0_i
  have r_w := ty_194_c0 ht
  rw [hw] at r_w
  refine mh_go hB mg193 ml193 (Nat.le_of_ble_eq_true rfl) ?_
  show HW g l (d + 1 + 1) 193 _ _ 0 [(0, (2, ((193 : Nat) : Int))), (1, (0, (x))), (2, (0, (i)))] [] h
  refine w_pl (pc' := 1) (lv' := [(0, (2, ((193 : Nat) : Int))), (1, (0, (x))), (2, (0, (i)))]) (st' := [(2, ((193 : Nat) : Int))]) (h' := h) (o193_0 hB) rfl ?_
  refine w_pl (pc' := 2) (lv' := [(0, (2, ((193 : Nat) : Int))), (1, (0, (x))), (2, (0, (i)))]) (st' := [(0, (x)), (2, ((193 : Nat) : Int))]) (h' := h) (o193_1 hB) rfl ?_
  refine w_callV (A := 193) (as := [(0, (x))]) (rest := []) (n := 1) (pc' := 5) 11 hB (o193_2 hB) rfl (by decide +kernel) rfl rfl (Nat.le_of_ble_eq_true rfl) (m_isClaim hB ht hnc lnc (fun f801 => ?_) (fun f802 => ?_))
  · show HW g l _ 193 _ _ 5 [(0, (2, ((193 : Nat) : Int))), (1, (0, (x))), (2, (0, (i)))] [(0, ((1 : Nat) : Int))] h
    refine w_ifc (pt := 10) (pf := 8) (o193_3 hB) (by decide) rfl (fun e => ?_) (fun e => ?_)
    · have f803 : (((1 : Nat) : Int) ≠ (0)) := e
      refine w_pl (pc' := 11) (lv' := [(0, (2, ((193 : Nat) : Int))), (1, (0, (x))), (2, (0, (i)))]) (st' := [(2, ((193 : Nat) : Int))]) (h' := h) (o193_6 hB) rfl ?_
      refine w_getf (A := 193) (t := 2) (z := ((194 : Nat) : Int)) (pc' := 14) (o193_7 hB) rfl (by decide +kernel) (hR (193, 0, 194) (by decide)) ?_
      refine w_pl (pc' := 15) (lv' := [(0, (2, ((193 : Nat) : Int))), (1, (0, (x))), (2, (0, (i)))]) (st' := [(0, ((2 : Nat) : Int)), (2, ((194 : Nat) : Int))]) (h' := h) (o193_8 hB) rfl ?_
      refine w_iald (A := 194) (i := 2) (n := 1984) (z := ((c : Nat) : Int)) (pc' := 16) (o193_9 hB) rfl (by decide +kernel) (by omega) hc ?_
      refine w_pl (pc' := 18) (lv' := [(0, (2, ((193 : Nat) : Int))), (1, (0, (x))), (2, (0, (i)))]) (st' := [(0, ((20 : Nat) : Int)), (0, ((c : Nat) : Int))]) (h' := h) (o193_10 hB) rfl ?_
      refine w_icmp (pt := 24) (pf := 21) (o193_11 hB) (by decide) rfl (fun e => ?_) (fun e => ?_)
      · have f804 : (((c : Nat) : Int) ≠ ((20 : Nat) : Int)) := e
        refine w_pl (pc' := 27) (lv' := [(0, (2, ((193 : Nat) : Int))), (1, (0, (x))), (2, (0, (i)))]) (st' := [(0, ((144 : Nat) : Int))]) (h' := h) (o193_14 hB) rfl ?_
        refine w_pl (pc' := 28) (lv' := [(0, (2, ((193 : Nat) : Int))), (1, (0, (x))), (2, (0, (i)))]) (st' := [(0, ((3 : Nat) : Int)), (0, ((144 : Nat) : Int))]) (h' := h) (o193_15 hB) rfl ?_
        refine w_pl (pc' := 29) (lv' := [(0, (2, ((193 : Nat) : Int))), (1, (0, (x))), (2, (0, (i)))]) (st' := [(2, ((193 : Nat) : Int)), (0, ((3 : Nat) : Int)), (0, ((144 : Nat) : Int))]) (h' := h) (o193_16 hB) rfl ?_
        refine w_getf (A := 193) (t := 2) (z := ((194 : Nat) : Int)) (pc' := 32) (o193_17 hB) rfl (by decide +kernel) (hR (193, 0, 194) (by decide)) ?_
        refine w_pl (pc' := 33) (lv' := [(0, (2, ((193 : Nat) : Int))), (1, (0, (x))), (2, (0, (i)))]) (st' := [(0, ((2 : Nat) : Int)), (2, ((194 : Nat) : Int)), (0, ((3 : Nat) : Int)), (0, ((144 : Nat) : Int))]) (h' := h) (o193_18 hB) rfl ?_
        refine w_iald (A := 194) (i := 2) (n := 1984) (z := ((c : Nat) : Int)) (pc' := 34) (o193_19 hB) rfl (by decide +kernel) (by omega) hc ?_
        refine w_imul (z := (((3 * c) : Nat) : Int)) (pc' := 35) (o193_20 hB) rfl (w32_e (by omega) (by omega)) ?_
        refine w_iadd (z := (((144 + (3 * c)) : Nat) : Int)) (pc' := 36) (o193_21 hB) rfl (w32_e (by omega) (by omega)) ?_
        refine w_st (tg := 0) (j := 3) (len := 1) (pc' := 37) (lv' := [(3, (0, (((144 + (3 * c)) : Nat) : Int))), (0, (2, ((193 : Nat) : Int))), (1, (0, (x))), (2, (0, (i)))]) (o193_22 hB) rfl rfl ml193 (by decide) rfl ?_
        refine w_pl (pc' := 38) (lv' := [(3, (0, (((144 + (3 * c)) : Nat) : Int))), (0, (2, ((193 : Nat) : Int))), (1, (0, (x))), (2, (0, (i)))]) (st' := [(2, ((193 : Nat) : Int))]) (h' := h) (o193_23 hB) rfl ?_
        refine w_getf (A := 193) (t := 2) (z := ((194 : Nat) : Int)) (pc' := 41) (o193_24 hB) rfl (by decide +kernel) (hR (193, 0, 194) (by decide)) ?_
        refine w_pl (pc' := 42) (lv' := [(3, (0, (((144 + (3 * c)) : Nat) : Int))), (0, (2, ((193 : Nat) : Int))), (1, (0, (x))), (2, (0, (i)))]) (st' := [(0, (((144 + (3 * c)) : Nat) : Int)), (2, ((194 : Nat) : Int))]) (h' := h) (o193_25 hB) rfl ?_
        refine w_pl (pc' := 43) (lv' := [(3, (0, (((144 + (3 * c)) : Nat) : Int))), (0, (2, ((193 : Nat) : Int))), (1, (0, (x))), (2, (0, (i)))]) (st' := [(0, (x)), (0, (((144 + (3 * c)) : Nat) : Int)), (2, ((194 : Nat) : Int))]) (h' := h) (o193_26 hB) rfl ?_
        refine w_iast (A := 194) (i := (144 + (3 * c))) (n := 1984) (pc' := 44) (o193_27 hB) rfl (by decide +kernel) (by omega) ?_
        refine w_pl (pc' := 45) (lv' := [(3, (0, (((144 + (3 * c)) : Nat) : Int))), (0, (2, ((193 : Nat) : Int))), (1, (0, (x))), (2, (0, (i)))]) (st' := [(2, ((193 : Nat) : Int))]) (h' := (hup h 194 ((144 + (3 * c))) (x))) (o193_28 hB) rfl ?_
        refine w_getf (A := 193) (t := 2) (z := ((194 : Nat) : Int)) (pc' := 48) (o193_29 hB) rfl (by decide +kernel) ((hup_ne (by decide)).trans (hR (193, 0, 194) (by decide))) ?_
        refine w_pl (pc' := 49) (lv' := [(3, (0, (((144 + (3 * c)) : Nat) : Int))), (0, (2, ((193 : Nat) : Int))), (1, (0, (x))), (2, (0, (i)))]) (st' := [(0, (((144 + (3 * c)) : Nat) : Int)), (2, ((194 : Nat) : Int))]) (h' := (hup h 194 ((144 + (3 * c))) (x))) (o193_30 hB) rfl ?_
        refine w_pl (pc' := 50) (lv' := [(3, (0, (((144 + (3 * c)) : Nat) : Int))), (0, (2, ((193 : Nat) : Int))), (1, (0, (x))), (2, (0, (i)))]) (st' := [(0, ((1 : Nat) : Int)), (0, (((144 + (3 * c)) : Nat) : Int)), (2, ((194 : Nat) : Int))]) (h' := (hup h 194 ((144 + (3 * c))) (x))) (o193_31 hB) rfl ?_
        refine w_iadd (z := ((((144 + (3 * c)) + 1) : Nat) : Int)) (pc' := 51) (o193_32 hB) rfl (w32_e (by omega) (by omega)) ?_
        refine w_pl (pc' := 52) (lv' := [(3, (0, (((144 + (3 * c)) : Nat) : Int))), (0, (2, ((193 : Nat) : Int))), (1, (0, (x))), (2, (0, (i)))]) (st' := [(0, (i)), (0, ((((144 + (3 * c)) + 1) : Nat) : Int)), (2, ((194 : Nat) : Int))]) (h' := (hup h 194 ((144 + (3 * c))) (x))) (o193_33 hB) rfl ?_
        refine w_ifc (pt := 59) (pf := 55) (o193_34 hB) (by decide) rfl (fun e => ?_) (fun e => ?_)
        · have f805 : ((i) = (0)) := e
          refine w_pl (pc' := 60) (lv' := [(3, (0, (((144 + (3 * c)) : Nat) : Int))), (0, (2, ((193 : Nat) : Int))), (1, (0, (x))), (2, (0, (i)))]) (st' := [(0, ((0 : Nat) : Int)), (0, ((((144 + (3 * c)) + 1) : Nat) : Int)), (2, ((194 : Nat) : Int))]) (h' := (hup h 194 ((144 + (3 * c))) (x))) (o193_37 hB) rfl ?_
          refine w_iast (A := 194) (i := ((144 + (3 * c)) + 1)) (n := 1984) (pc' := 61) (o193_38 hB) rfl (by decide +kernel) (by omega) ?_
          refine w_pl (pc' := 62) (lv' := [(3, (0, (((144 + (3 * c)) : Nat) : Int))), (0, (2, ((193 : Nat) : Int))), (1, (0, (x))), (2, (0, (i)))]) (st' := [(2, ((193 : Nat) : Int))]) (h' := (hup (hup h 194 ((144 + (3 * c))) (x)) 194 (((144 + (3 * c)) + 1)) ((0 : Nat) : Int))) (o193_39 hB) rfl ?_
          refine w_getf (A := 193) (t := 2) (z := ((194 : Nat) : Int)) (pc' := 65) (o193_40 hB) rfl (by decide +kernel) ((hup_ne (by decide)).trans ((hup_ne (by decide)).trans (hR (193, 0, 194) (by decide)))) ?_
          refine w_pl (pc' := 66) (lv' := [(3, (0, (((144 + (3 * c)) : Nat) : Int))), (0, (2, ((193 : Nat) : Int))), (1, (0, (x))), (2, (0, (i)))]) (st' := [(0, (((144 + (3 * c)) : Nat) : Int)), (2, ((194 : Nat) : Int))]) (h' := (hup (hup h 194 ((144 + (3 * c))) (x)) 194 (((144 + (3 * c)) + 1)) ((0 : Nat) : Int))) (o193_41 hB) rfl ?_
          refine w_pl (pc' := 67) (lv' := [(3, (0, (((144 + (3 * c)) : Nat) : Int))), (0, (2, ((193 : Nat) : Int))), (1, (0, (x))), (2, (0, (i)))]) (st' := [(0, ((2 : Nat) : Int)), (0, (((144 + (3 * c)) : Nat) : Int)), (2, ((194 : Nat) : Int))]) (h' := (hup (hup h 194 ((144 + (3 * c))) (x)) 194 (((144 + (3 * c)) + 1)) ((0 : Nat) : Int))) (o193_42 hB) rfl ?_
          refine w_iadd (z := ((((144 + (3 * c)) + 2) : Nat) : Int)) (pc' := 68) (o193_43 hB) rfl (w32_e (by omega) (by omega)) ?_
          refine w_pl (pc' := 69) (lv' := [(3, (0, (((144 + (3 * c)) : Nat) : Int))), (0, (2, ((193 : Nat) : Int))), (1, (0, (x))), (2, (0, (i)))]) (st' := [(2, ((193 : Nat) : Int)), (0, ((((144 + (3 * c)) + 2) : Nat) : Int)), (2, ((194 : Nat) : Int))]) (h' := (hup (hup h 194 ((144 + (3 * c))) (x)) 194 (((144 + (3 * c)) + 1)) ((0 : Nat) : Int))) (o193_44 hB) rfl ?_
          refine w_getf (A := 193) (t := 2) (z := ((194 : Nat) : Int)) (pc' := 72) (o193_45 hB) rfl (by decide +kernel) ((hup_ne (by decide)).trans ((hup_ne (by decide)).trans (hR (193, 0, 194) (by decide)))) ?_
          refine w_pl (pc' := 73) (lv' := [(3, (0, (((144 + (3 * c)) : Nat) : Int))), (0, (2, ((193 : Nat) : Int))), (1, (0, (x))), (2, (0, (i)))]) (st' := [(0, ((0 : Nat) : Int)), (2, ((194 : Nat) : Int)), (0, ((((144 + (3 * c)) + 2) : Nat) : Int)), (2, ((194 : Nat) : Int))]) (h' := (hup (hup h 194 ((144 + (3 * c))) (x)) 194 (((144 + (3 * c)) + 1)) ((0 : Nat) : Int))) (o193_46 hB) rfl ?_
          refine w_iald (A := 194) (i := 0) (n := 1984) (z := (w)) (pc' := 74) (o193_47 hB) rfl (by decide +kernel) (by omega) ((hup_nj (by omega)).trans ((hup_nj (by omega)).trans hw)) ?_
          refine w_iast (A := 194) (i := ((144 + (3 * c)) + 2)) (n := 1984) (pc' := 75) (o193_48 hB) rfl (by decide +kernel) (by omega) ?_
          refine w_pl (pc' := 76) (lv' := [(3, (0, (((144 + (3 * c)) : Nat) : Int))), (0, (2, ((193 : Nat) : Int))), (1, (0, (x))), (2, (0, (i)))]) (st' := [(2, ((193 : Nat) : Int))]) (h' := (hup (hup (hup h 194 ((144 + (3 * c))) (x)) 194 (((144 + (3 * c)) + 1)) ((0 : Nat) : Int)) 194 (((144 + (3 * c)) + 2)) (w))) (o193_49 hB) rfl ?_
          refine w_getf (A := 193) (t := 2) (z := ((194 : Nat) : Int)) (pc' := 79) (o193_50 hB) rfl (by decide +kernel) ((hup_ne (by decide)).trans ((hup_ne (by decide)).trans ((hup_ne (by decide)).trans (hR (193, 0, 194) (by decide))))) ?_
          refine w_pl (pc' := 80) (lv' := [(3, (0, (((144 + (3 * c)) : Nat) : Int))), (0, (2, ((193 : Nat) : Int))), (1, (0, (x))), (2, (0, (i)))]) (st' := [(0, ((2 : Nat) : Int)), (2, ((194 : Nat) : Int))]) (h' := (hup (hup (hup h 194 ((144 + (3 * c))) (x)) 194 (((144 + (3 * c)) + 1)) ((0 : Nat) : Int)) 194 (((144 + (3 * c)) + 2)) (w))) (o193_51 hB) rfl ?_
          refine w_pl (pc' := 81) (lv' := [(3, (0, (((144 + (3 * c)) : Nat) : Int))), (0, (2, ((193 : Nat) : Int))), (1, (0, (x))), (2, (0, (i)))]) (st' := [(0, ((2 : Nat) : Int)), (2, ((194 : Nat) : Int)), (0, ((2 : Nat) : Int)), (2, ((194 : Nat) : Int))]) (h' := (hup (hup (hup h 194 ((144 + (3 * c))) (x)) 194 (((144 + (3 * c)) + 1)) ((0 : Nat) : Int)) 194 (((144 + (3 * c)) + 2)) (w))) (o193_52 hB) rfl ?_
          refine w_iald (A := 194) (i := 2) (n := 1984) (z := ((c : Nat) : Int)) (pc' := 82) (o193_53 hB) rfl (by decide +kernel) (by omega) ((hup_nj (by omega)).trans ((hup_nj (by omega)).trans ((hup_nj (by omega)).trans hc))) ?_
          refine w_pl (pc' := 83) (lv' := [(3, (0, (((144 + (3 * c)) : Nat) : Int))), (0, (2, ((193 : Nat) : Int))), (1, (0, (x))), (2, (0, (i)))]) (st' := [(0, ((1 : Nat) : Int)), (0, ((c : Nat) : Int)), (0, ((2 : Nat) : Int)), (2, ((194 : Nat) : Int))]) (h' := (hup (hup (hup h 194 ((144 + (3 * c))) (x)) 194 (((144 + (3 * c)) + 1)) ((0 : Nat) : Int)) 194 (((144 + (3 * c)) + 2)) (w))) (o193_54 hB) rfl ?_
          refine w_iadd (z := (((c + 1) : Nat) : Int)) (pc' := 84) (o193_55 hB) rfl (w32_e (by omega) (by omega)) ?_
          refine w_iast (A := 194) (i := 2) (n := 1984) (pc' := 85) (o193_56 hB) rfl (by decide +kernel) (by omega) ?_
          refine w_pl (pc' := 86) (lv' := [(3, (0, (((144 + (3 * c)) : Nat) : Int))), (0, (2, ((193 : Nat) : Int))), (1, (0, (x))), (2, (0, (i)))]) (st' := [(2, ((193 : Nat) : Int))]) (h' := (hup (hup (hup (hup h 194 ((144 + (3 * c))) (x)) 194 (((144 + (3 * c)) + 1)) ((0 : Nat) : Int)) 194 (((144 + (3 * c)) + 2)) (w)) 194 (2) (((c + 1) : Nat) : Int))) (o193_57 hB) rfl ?_
          refine w_getf (A := 193) (t := 2) (z := ((194 : Nat) : Int)) (pc' := 89) (o193_58 hB) rfl (by decide +kernel) ((hup_ne (by decide)).trans ((hup_ne (by decide)).trans ((hup_ne (by decide)).trans ((hup_ne (by decide)).trans (hR (193, 0, 194) (by decide)))))) ?_
          refine w_pl (pc' := 90) (lv' := [(3, (0, (((144 + (3 * c)) : Nat) : Int))), (0, (2, ((193 : Nat) : Int))), (1, (0, (x))), (2, (0, (i)))]) (st' := [(0, ((2 : Nat) : Int)), (2, ((194 : Nat) : Int))]) (h' := (hup (hup (hup (hup h 194 ((144 + (3 * c))) (x)) 194 (((144 + (3 * c)) + 1)) ((0 : Nat) : Int)) 194 (((144 + (3 * c)) + 2)) (w)) 194 (2) (((c + 1) : Nat) : Int))) (o193_59 hB) rfl ?_
          refine w_iald (A := 194) (i := 2) (n := 1984) (z := ((((c + 1) : Nat) : Int))) (pc' := 91) (o193_60 hB) rfl (by decide +kernel) (by omega) (hup_eq) ?_
          refine w_pl (pc' := 92) (lv' := [(3, (0, (((144 + (3 * c)) : Nat) : Int))), (0, (2, ((193 : Nat) : Int))), (1, (0, (x))), (2, (0, (i)))]) (st' := [(0, ((1 : Nat) : Int)), (0, ((((c + 1) : Nat) : Int)))]) (h' := (hup (hup (hup (hup h 194 ((144 + (3 * c))) (x)) 194 (((144 + (3 * c)) + 1)) ((0 : Nat) : Int)) 194 (((144 + (3 * c)) + 2)) (w)) 194 (2) (((c + 1) : Nat) : Int))) (o193_61 hB) rfl ?_
          refine w_isub (z := (((((c + 1) : Nat) : Int)) - ((1 : Nat) : Int))) (pc' := 93) (o193_62 hB) rfl (w32_e (by omega) (by omega)) ?_
          exact w_iret (o193_63 hB) mr193 (by unfold in32; omega) (qe (a3 (by omega)) (by omega))
        · have f806 : ¬ ((i) = (0)) := e
          refine w_pl (pc' := 56) (lv' := [(3, (0, (((144 + (3 * c)) : Nat) : Int))), (0, (2, ((193 : Nat) : Int))), (1, (0, (x))), (2, (0, (i)))]) (st' := [(0, ((1 : Nat) : Int)), (0, ((((144 + (3 * c)) + 1) : Nat) : Int)), (2, ((194 : Nat) : Int))]) (h' := (hup h 194 ((144 + (3 * c))) (x))) (o193_35 hB) rfl ?_
          refine w_goto (pt := 60) (o193_36 hB) (by decide) ?_
          refine w_iast (A := 194) (i := ((144 + (3 * c)) + 1)) (n := 1984) (pc' := 61) (o193_38 hB) rfl (by decide +kernel) (by omega) ?_
          refine w_pl (pc' := 62) (lv' := [(3, (0, (((144 + (3 * c)) : Nat) : Int))), (0, (2, ((193 : Nat) : Int))), (1, (0, (x))), (2, (0, (i)))]) (st' := [(2, ((193 : Nat) : Int))]) (h' := (hup (hup h 194 ((144 + (3 * c))) (x)) 194 (((144 + (3 * c)) + 1)) ((1 : Nat) : Int))) (o193_39 hB) rfl ?_
          refine w_getf (A := 193) (t := 2) (z := ((194 : Nat) : Int)) (pc' := 65) (o193_40 hB) rfl (by decide +kernel) ((hup_ne (by decide)).trans ((hup_ne (by decide)).trans (hR (193, 0, 194) (by decide)))) ?_
          refine w_pl (pc' := 66) (lv' := [(3, (0, (((144 + (3 * c)) : Nat) : Int))), (0, (2, ((193 : Nat) : Int))), (1, (0, (x))), (2, (0, (i)))]) (st' := [(0, (((144 + (3 * c)) : Nat) : Int)), (2, ((194 : Nat) : Int))]) (h' := (hup (hup h 194 ((144 + (3 * c))) (x)) 194 (((144 + (3 * c)) + 1)) ((1 : Nat) : Int))) (o193_41 hB) rfl ?_
          refine w_pl (pc' := 67) (lv' := [(3, (0, (((144 + (3 * c)) : Nat) : Int))), (0, (2, ((193 : Nat) : Int))), (1, (0, (x))), (2, (0, (i)))]) (st' := [(0, ((2 : Nat) : Int)), (0, (((144 + (3 * c)) : Nat) : Int)), (2, ((194 : Nat) : Int))]) (h' := (hup (hup h 194 ((144 + (3 * c))) (x)) 194 (((144 + (3 * c)) + 1)) ((1 : Nat) : Int))) (o193_42 hB) rfl ?_
          refine w_iadd (z := ((((144 + (3 * c)) + 2) : Nat) : Int)) (pc' := 68) (o193_43 hB) rfl (w32_e (by omega) (by omega)) ?_
          refine w_pl (pc' := 69) (lv' := [(3, (0, (((144 + (3 * c)) : Nat) : Int))), (0, (2, ((193 : Nat) : Int))), (1, (0, (x))), (2, (0, (i)))]) (st' := [(2, ((193 : Nat) : Int)), (0, ((((144 + (3 * c)) + 2) : Nat) : Int)), (2, ((194 : Nat) : Int))]) (h' := (hup (hup h 194 ((144 + (3 * c))) (x)) 194 (((144 + (3 * c)) + 1)) ((1 : Nat) : Int))) (o193_44 hB) rfl ?_
          refine w_getf (A := 193) (t := 2) (z := ((194 : Nat) : Int)) (pc' := 72) (o193_45 hB) rfl (by decide +kernel) ((hup_ne (by decide)).trans ((hup_ne (by decide)).trans (hR (193, 0, 194) (by decide)))) ?_
          refine w_pl (pc' := 73) (lv' := [(3, (0, (((144 + (3 * c)) : Nat) : Int))), (0, (2, ((193 : Nat) : Int))), (1, (0, (x))), (2, (0, (i)))]) (st' := [(0, ((0 : Nat) : Int)), (2, ((194 : Nat) : Int)), (0, ((((144 + (3 * c)) + 2) : Nat) : Int)), (2, ((194 : Nat) : Int))]) (h' := (hup (hup h 194 ((144 + (3 * c))) (x)) 194 (((144 + (3 * c)) + 1)) ((1 : Nat) : Int))) (o193_46 hB) rfl ?_
          refine w_iald (A := 194) (i := 0) (n := 1984) (z := (w)) (pc' := 74) (o193_47 hB) rfl (by decide +kernel) (by omega) ((hup_nj (by omega)).trans ((hup_nj (by omega)).trans hw)) ?_
          refine w_iast (A := 194) (i := ((144 + (3 * c)) + 2)) (n := 1984) (pc' := 75) (o193_48 hB) rfl (by decide +kernel) (by omega) ?_
          refine w_pl (pc' := 76) (lv' := [(3, (0, (((144 + (3 * c)) : Nat) : Int))), (0, (2, ((193 : Nat) : Int))), (1, (0, (x))), (2, (0, (i)))]) (st' := [(2, ((193 : Nat) : Int))]) (h' := (hup (hup (hup h 194 ((144 + (3 * c))) (x)) 194 (((144 + (3 * c)) + 1)) ((1 : Nat) : Int)) 194 (((144 + (3 * c)) + 2)) (w))) (o193_49 hB) rfl ?_
          refine w_getf (A := 193) (t := 2) (z := ((194 : Nat) : Int)) (pc' := 79) (o193_50 hB) rfl (by decide +kernel) ((hup_ne (by decide)).trans ((hup_ne (by decide)).trans ((hup_ne (by decide)).trans (hR (193, 0, 194) (by decide))))) ?_
          refine w_pl (pc' := 80) (lv' := [(3, (0, (((144 + (3 * c)) : Nat) : Int))), (0, (2, ((193 : Nat) : Int))), (1, (0, (x))), (2, (0, (i)))]) (st' := [(0, ((2 : Nat) : Int)), (2, ((194 : Nat) : Int))]) (h' := (hup (hup (hup h 194 ((144 + (3 * c))) (x)) 194 (((144 + (3 * c)) + 1)) ((1 : Nat) : Int)) 194 (((144 + (3 * c)) + 2)) (w))) (o193_51 hB) rfl ?_
          refine w_pl (pc' := 81) (lv' := [(3, (0, (((144 + (3 * c)) : Nat) : Int))), (0, (2, ((193 : Nat) : Int))), (1, (0, (x))), (2, (0, (i)))]) (st' := [(0, ((2 : Nat) : Int)), (2, ((194 : Nat) : Int)), (0, ((2 : Nat) : Int)), (2, ((194 : Nat) : Int))]) (h' := (hup (hup (hup h 194 ((144 + (3 * c))) (x)) 194 (((144 + (3 * c)) + 1)) ((1 : Nat) : Int)) 194 (((144 + (3 * c)) + 2)) (w))) (o193_52 hB) rfl ?_
          refine w_iald (A := 194) (i := 2) (n := 1984) (z := ((c : Nat) : Int)) (pc' := 82) (o193_53 hB) rfl (by decide +kernel) (by omega) ((hup_nj (by omega)).trans ((hup_nj (by omega)).trans ((hup_nj (by omega)).trans hc))) ?_
          refine w_pl (pc' := 83) (lv' := [(3, (0, (((144 + (3 * c)) : Nat) : Int))), (0, (2, ((193 : Nat) : Int))), (1, (0, (x))), (2, (0, (i)))]) (st' := [(0, ((1 : Nat) : Int)), (0, ((c : Nat) : Int)), (0, ((2 : Nat) : Int)), (2, ((194 : Nat) : Int))]) (h' := (hup (hup (hup h 194 ((144 + (3 * c))) (x)) 194 (((144 + (3 * c)) + 1)) ((1 : Nat) : Int)) 194 (((144 + (3 * c)) + 2)) (w))) (o193_54 hB) rfl ?_
          refine w_iadd (z := (((c + 1) : Nat) : Int)) (pc' := 84) (o193_55 hB) rfl (w32_e (by omega) (by omega)) ?_
          refine w_iast (A := 194) (i := 2) (n := 1984) (pc' := 85) (o193_56 hB) rfl (by decide +kernel) (by omega) ?_
          refine w_pl (pc' := 86) (lv' := [(3, (0, (((144 + (3 * c)) : Nat) : Int))), (0, (2, ((193 : Nat) : Int))), (1, (0, (x))), (2, (0, (i)))]) (st' := [(2, ((193 : Nat) : Int))]) (h' := (hup (hup (hup (hup h 194 ((144 + (3 * c))) (x)) 194 (((144 + (3 * c)) + 1)) ((1 : Nat) : Int)) 194 (((144 + (3 * c)) + 2)) (w)) 194 (2) (((c + 1) : Nat) : Int))) (o193_57 hB) rfl ?_
          refine w_getf (A := 193) (t := 2) (z := ((194 : Nat) : Int)) (pc' := 89) (o193_58 hB) rfl (by decide +kernel) ((hup_ne (by decide)).trans ((hup_ne (by decide)).trans ((hup_ne (by decide)).trans ((hup_ne (by decide)).trans (hR (193, 0, 194) (by decide)))))) ?_
          refine w_pl (pc' := 90) (lv' := [(3, (0, (((144 + (3 * c)) : Nat) : Int))), (0, (2, ((193 : Nat) : Int))), (1, (0, (x))), (2, (0, (i)))]) (st' := [(0, ((2 : Nat) : Int)), (2, ((194 : Nat) : Int))]) (h' := (hup (hup (hup (hup h 194 ((144 + (3 * c))) (x)) 194 (((144 + (3 * c)) + 1)) ((1 : Nat) : Int)) 194 (((144 + (3 * c)) + 2)) (w)) 194 (2) (((c + 1) : Nat) : Int))) (o193_59 hB) rfl ?_
          refine w_iald (A := 194) (i := 2) (n := 1984) (z := ((((c + 1) : Nat) : Int))) (pc' := 91) (o193_60 hB) rfl (by decide +kernel) (by omega) (hup_eq) ?_
          refine w_pl (pc' := 92) (lv' := [(3, (0, (((144 + (3 * c)) : Nat) : Int))), (0, (2, ((193 : Nat) : Int))), (1, (0, (x))), (2, (0, (i)))]) (st' := [(0, ((1 : Nat) : Int)), (0, ((((c + 1) : Nat) : Int)))]) (h' := (hup (hup (hup (hup h 194 ((144 + (3 * c))) (x)) 194 (((144 + (3 * c)) + 1)) ((1 : Nat) : Int)) 194 (((144 + (3 * c)) + 2)) (w)) 194 (2) (((c + 1) : Nat) : Int))) (o193_61 hB) rfl ?_
          refine w_isub (z := (((((c + 1) : Nat) : Int)) - ((1 : Nat) : Int))) (pc' := 93) (o193_62 hB) rfl (w32_e (by omega) (by omega)) ?_
          exact w_iret (o193_63 hB) mr193 (by unfold in32; omega) (qe (a2 (by omega)) (by omega))
      · have f807 : ¬ (((c : Nat) : Int) ≠ ((20 : Nat) : Int)) := e
        refine w_pl (pc' := 23) (lv' := [(0, (2, ((193 : Nat) : Int))), (1, (0, (x))), (2, (0, (i)))]) (st' := [(0, (-2))]) (h' := h) (o193_12 hB) rfl ?_
        exact w_iret (o193_13 hB) mr193 (by unfold in32; omega) (a1 (by omega))
    · have f808 : ¬ (((1 : Nat) : Int) ≠ (0)) := e
      exfalso; omega
  · show HW g l _ 193 _ _ 5 [(0, (2, ((193 : Nat) : Int))), (1, (0, (x))), (2, (0, (i)))] [(0, ((0 : Nat) : Int))] h
    refine w_ifc (pt := 10) (pf := 8) (o193_3 hB) (by decide) rfl (fun e => ?_) (fun e => ?_)
    · have f809 : (((0 : Nat) : Int) ≠ (0)) := e
      exfalso; omega
    · have f810 : ¬ (((0 : Nat) : Int) ≠ (0)) := e
      refine w_pl (pc' := 9) (lv' := [(0, (2, ((193 : Nat) : Int))), (1, (0, (x))), (2, (0, (i)))]) (st' := [(0, (-1))]) (h' := h) (o193_4 hB) rfl ?_
      exact w_iret (o193_5 hB) mr193 (by unfold in32; omega) (a0 (by omega))
def s_wordM (vs : List bV) (h : bH) (r : Option bV) (h' : bH) : Prop := TH h ∧ ∀ (x i : Int) (c : Nat) (nc : Nat) (w : Int) , vs = [(2, ((193 : Nat) : Int)), (0, x), (0, i)] → h 194 2 = (c : Int) → h 194 1 = (nc : Int) → h 194 0 = w → ((¬ (0 ≤ x ∧ x < (nc : Int))) ∧ r = some (0, (-1)) ∧ h = h') ∨ (((0 ≤ x ∧ x < (nc : Int)) ∧ c = 20) ∧ r = some (0, (-2)) ∧ h = h') ∨ (((0 ≤ x ∧ x < (nc : Int)) ∧ c < 20 ∧ i ≠ 0) ∧ r = some (0, (c : Int)) ∧ h' = (hup (hup (hup (hup h 194 ((144 + (3 * c))) (x)) 194 (((144 + (3 * c)) + 1)) ((1 : Nat) : Int)) 194 (((144 + (3 * c)) + 2)) (w)) 194 (2) (((c + 1) : Nat) : Int))) ∨ (((0 ≤ x ∧ x < (nc : Int)) ∧ c < 20 ∧ i = 0) ∧ r = some (0, (c : Int)) ∧ h' = (hup (hup (hup (hup h 194 ((144 + (3 * c))) (x)) 194 (((144 + (3 * c)) + 1)) ((0 : Nat) : Int)) 194 (((144 + (3 * c)) + 2)) (w)) 194 (2) (((c + 1) : Nat) : Int)))
def w_wordM : List (Nat × Nat × Nat) := [(194, 2, 3), (194, 144, 204)]
def q_wordM : aCt := cH 193 2 w_wordM 2 193
theorem sk_wordM (hB : BytesOK) (g : bG) (l : Launch) : SK g l gT q_wordM s_wordM := by
  intro d hd ρ h Q hcore hQ
  have hcore : core (PofW gT (some w_wordM) false) (gsc g) h ρ h (List.replicate 2 r32, [], [], 212) := hcore
  have ht := hTH hcore
  have y0 := r32_0 hcore 0 (by decide)
  have y1 := r32_0 hcore 1 (by decide)
  have y00 := y0
  unfold in32 at y00
  have y01 := y1
  unfold in32 at y01
  obtain ⟨c, hc, lc⟩ := nat_to ht (a := 194) (j := 2) (n := 20) (by decide +kernel)
  obtain ⟨nc, hnc, lnc⟩ := nat_to ht (a := 194) (j := 1) (n := 16) (by decide +kernel)
  have r_w := ty_194_c0 ht
  obtain ⟨d', rfl⟩ : ∃ d', d = d' + 1 + 1 := ⟨d - 2, by have : 2 ≤ d := hd; omega⟩
  rw [show evS ρ (ctA q_wordM) = [(2, ((193 : Nat) : Int)), (0, ρ 0), (0, ρ 1)] from evA2]
  refine m_wordM (x := ρ 0) (i := ρ 1) hB ht y0 y1 hc lc hnc lnc rfl (fun hn => ?_) (fun hn => ?_) (fun hn => ?_) (fun hn => ?_)
  · refine hQ _ _ (hpost hcore (ht) (fun _ _ _ => rfl) (by unfold in32; omega)) ⟨ht, fun x i c_c c_nc v_w hv e_c e_nc e_w => ?_⟩
    have hv := (evA2 (ρ := ρ)).symm.trans hv
    obtain ⟨rfl, rfl⟩ := vsA2 hv
    obtain rfl : c_c = c := by have := e_c.symm.trans hc; omega
    obtain rfl : c_nc = nc := by have := e_nc.symm.trans hnc; omega
    subst e_w
    exact Or.inl ⟨hn, rfl, rfl⟩
  · refine hQ _ _ (hpost hcore (ht) (fun _ _ _ => rfl) (by unfold in32; omega)) ⟨ht, fun x i c_c c_nc v_w hv e_c e_nc e_w => ?_⟩
    have hv := (evA2 (ρ := ρ)).symm.trans hv
    obtain ⟨rfl, rfl⟩ := vsA2 hv
    obtain rfl : c_c = c := by have := e_c.symm.trans hc; omega
    obtain rfl : c_nc = nc := by have := e_nc.symm.trans hnc; omega
    subst e_w
    exact Or.inr (Or.inl ⟨hn, rfl, rfl⟩)
  · refine hQ _ _ (hpost hcore (((((ht).ups2 (a := 194) (s := 144) (st := 3) (n := 20) (lo := (0)) (hi := 239) (r := c) (by decide +kernel) (by omega) (by omega) (by omega)).ups2 (a := 194) (s := 145) (st := 3) (n := 20) (lo := (0)) (hi := 239) (r := c) (by decide +kernel) (by omega) (by omega) (by omega)).ups2 (a := 194) (s := 146) (st := 3) (n := 20) (lo := (0)) (hi := 239) (r := c) (by decide +kernel) (by omega) (by omega) (by omega)).upc (a := 194) (j := 2) (lo := (0)) (hi := 20) (by decide +kernel) (by omega)) (fr_up (fr_up (fr_up (fr_up (fun _ _ _ => rfl) (wr_in (lo := 144) (hi := 204) (by decide) (by omega) (by omega))) (wr_in (lo := 144) (hi := 204) (by decide) (by omega) (by omega))) (wr_in (lo := 144) (hi := 204) (by decide) (by omega) (by omega))) (wr_in (lo := 2) (hi := 3) (by decide) (by omega) (by omega))) (by unfold in32; omega)) ⟨ht, fun x i c_c c_nc v_w hv e_c e_nc e_w => ?_⟩
    have hv := (evA2 (ρ := ρ)).symm.trans hv
    obtain ⟨rfl, rfl⟩ := vsA2 hv
    obtain rfl : c_c = c := by have := e_c.symm.trans hc; omega
    obtain rfl : c_nc = nc := by have := e_nc.symm.trans hnc; omega
    subst e_w
    exact Or.inr (Or.inr (Or.inl ⟨hn, rfl, rfl⟩))
  · refine hQ _ _ (hpost hcore (((((ht).ups2 (a := 194) (s := 144) (st := 3) (n := 20) (lo := (0)) (hi := 239) (r := c) (by decide +kernel) (by omega) (by omega) (by omega)).ups2 (a := 194) (s := 145) (st := 3) (n := 20) (lo := (0)) (hi := 239) (r := c) (by decide +kernel) (by omega) (by omega) (by omega)).ups2 (a := 194) (s := 146) (st := 3) (n := 20) (lo := (0)) (hi := 239) (r := c) (by decide +kernel) (by omega) (by omega) (by omega)).upc (a := 194) (j := 2) (lo := (0)) (hi := 20) (by decide +kernel) (by omega)) (fr_up (fr_up (fr_up (fr_up (fun _ _ _ => rfl) (wr_in (lo := 144) (hi := 204) (by decide) (by omega) (by omega))) (wr_in (lo := 144) (hi := 204) (by decide) (by omega) (by omega))) (wr_in (lo := 144) (hi := 204) (by decide) (by omega) (by omega))) (wr_in (lo := 2) (hi := 3) (by decide) (by omega) (by omega))) (by unfold in32; omega)) ⟨ht, fun x i c_c c_nc v_w hv e_c e_nc e_w => ?_⟩
    have hv := (evA2 (ρ := ρ)).symm.trans hv
    obtain ⟨rfl, rfl⟩ := vsA2 hv
    obtain rfl : c_c = c := by have := e_c.symm.trans hc; omega
    obtain rfl : c_nc = nc := by have := e_nc.symm.trans hnc; omega
    subst e_w
    exact Or.inr (Or.inr (Or.inr (⟨hn, rfl, rfl⟩)))
/-- whether the last word up to k says that a claim is dead -/
def dA (h : bH) (c k : Int) : Nat → Int
  | 0 => 0
  | w + 1 => if h 10 w = c ∧ h 11 w ≤ k then (if andI (shrI (h 2 12) ((w : Nat) : Int)) 1 = 0 then 0 else 1) else dA h c k w
theorem dA_r {h : bH} {c k : Int} : ∀ j, 0 ≤ dA h c k j ∧ dA h c k j ≤ 1
  | 0 => by simp [dA]
  | j + 1 => by
    have := dA_r (h := h) (c := c) (k := k) j
    simp only [dA]
    split
    · split <;> omega
    · exact this
def dM (h : bH) (c k : Int) : Nat → Int
  | 0 => 0
  | w + 1 => if h 194 (144 + 3 * w) = c ∧ h 194 (144 + 3 * w + 2) ≤ k then (if h 194 (144 + 3 * w + 1) = 1 then 1 else 0) else dM h c k w
theorem dM_r {h : bH} {c k : Int} : ∀ j, 0 ≤ dM h c k j ∧ dM h c k j ≤ 1
  | 0 => by simp [dM]
  | j + 1 => by
    have := dM_r (h := h) (c := c) (k := k) j
    simp only [dM]
    split
    · split <;> omega
    · exact this
theorem m_livesAt (hB : BytesOK) {g : bG} {l : Launch} {d : Nat} {Q : bQ} {h : bH} {c : Nat} {mo k : Int} (ht : TH h) {cw : Nat} (hcw : h 2 11 = (cw : Int)) (lcw : cw ≤ 20) {nc : Nat} (hnc : h 2 1 = (nc : Int)) (lnc : nc ≤ 16) (hcn : c < nc) (h1 : (h 6 c ≤ mo ∧ mo ≤ h 7 c) ∧ dA h ((c : Nat) : Int) k cw = 0 → Q (some (0, 1)) h) (h0 : ¬ ((h 6 c ≤ mo ∧ mo ≤ h 7 c) ∧ dA h ((c : Nat) : Int) k cw = 0) → Q (some (0, 0)) h) : MH g l d 50 212 212 [(2, ((2 : Nat) : Int)), (0, ((c : Nat) : Int)), (0, mo), (0, k)] h Q := by
  have hR := ht.r
  have loop : ∀ (n : Nat), n ≤ cw → (h 6 c ≤ mo ∧ mo ≤ h 7 c) → dA h ((c : Nat) : Int) k n = dA h ((c : Nat) : Int) k cw → HW g l d 50 212 Q 42 [(4, (0, (((n : Nat) : Int) + (-1)))), (0, (2, ((2 : Nat) : Int))), (1, (0, ((c : Nat) : Int))), (3, (0, (k)))] [] h := by
    intro n
    induction n with
    | zero =>
      intro hn hm he
      refine w_pl (pc' := 44) (lv' := [(4, (0, (((0 : Nat) : Int) + (-1)))), (0, (2, ((2 : Nat) : Int))), (1, (0, ((c : Nat) : Int))), (3, (0, (k)))]) (st' := [(0, (((0 : Nat) : Int) + (-1)))]) (h' := h) (o50_25 hB) rfl ?_
      refine w_ifc (pt := 93) (pf := 47) (o50_26 hB) (by decide) rfl (fun e => ?_) (fun e => ?_)
      · have f811 : ((((0 : Nat) : Int) + (-1)) < (0)) := e
        refine w_pl (pc' := 94) (lv' := [(4, (0, (((0 : Nat) : Int) + (-1)))), (0, (2, ((2 : Nat) : Int))), (1, (0, ((c : Nat) : Int))), (3, (0, (k)))]) (st' := [(0, ((1 : Nat) : Int))]) (h' := h) (o50_52 hB) rfl ?_
        have e0 : dA h ((c : Nat) : Int) k 0 = 0 := rfl
        exact w_zret (o50_53 hB) mr50 (by decide) (h1 ⟨hm, by omega⟩)
      · have f812 : ¬ ((((0 : Nat) : Int) + (-1)) < (0)) := e
        exfalso; omega
    | succ n ih =>
      intro hn hm he
      rw [show (((n + 1 : Nat) : Int) + (-1)) = ((n : Nat) : Int) from by omega]
      refine w_pl (pc' := 44) (lv' := [(4, (0, ((n : Nat) : Int))), (0, (2, ((2 : Nat) : Int))), (1, (0, ((c : Nat) : Int))), (3, (0, (k)))]) (st' := [(0, ((n : Nat) : Int))]) (h' := h) (o50_25 hB) rfl ?_
      refine w_ifc (pt := 93) (pf := 47) (o50_26 hB) (by decide) rfl (fun e => ?_) (fun e => ?_)
      · have f813 : (((n : Nat) : Int) < (0)) := e
        exfalso; omega
      · have f814 : ¬ (((n : Nat) : Int) < (0)) := e
        refine w_pl (pc' := 48) (lv' := [(4, (0, ((n : Nat) : Int))), (0, (2, ((2 : Nat) : Int))), (1, (0, ((c : Nat) : Int))), (3, (0, (k)))]) (st' := [(2, ((2 : Nat) : Int))]) (h' := h) (o50_27 hB) rfl ?_
        refine w_getf (A := 2) (t := 2) (z := ((10 : Nat) : Int)) (pc' := 51) (o50_28 hB) rfl (by decide +kernel) (hR (2, 13, 10) (by decide)) ?_
        refine w_pl (pc' := 53) (lv' := [(4, (0, ((n : Nat) : Int))), (0, (2, ((2 : Nat) : Int))), (1, (0, ((c : Nat) : Int))), (3, (0, (k)))]) (st' := [(0, ((n : Nat) : Int)), (2, ((10 : Nat) : Int))]) (h' := h) (o50_29 hB) rfl ?_
        have f815 := ty_10_s0 ht (j := n) (r := n) (by omega) (by omega)
        refine w_iald (A := 10) (i := n) (n := 20) (z := (h 10 n)) (pc' := 54) (o50_30 hB) rfl (by decide +kernel) (by omega) rfl ?_
        refine w_pl (pc' := 55) (lv' := [(4, (0, ((n : Nat) : Int))), (0, (2, ((2 : Nat) : Int))), (1, (0, ((c : Nat) : Int))), (3, (0, (k)))]) (st' := [(0, ((c : Nat) : Int)), (0, (h 10 n))]) (h' := h) (o50_31 hB) rfl ?_
        refine w_icmp (pt := 87) (pf := 58) (o50_32 hB) (by decide) rfl (fun e => ?_) (fun e => ?_)
        · have f816 : ((h 10 n) ≠ ((c : Nat) : Int)) := e
          refine w_iinc (x := ((n : Nat) : Int)) (z := (((n : Nat) : Int) + (-1))) (pc' := 90) (lv' := [(4, (0, (((n : Nat) : Int) + (-1)))), (0, (2, ((2 : Nat) : Int))), (1, (0, ((c : Nat) : Int))), (3, (0, (k)))]) (o50_50 hB) rfl rfl ml50 (by decide) (w32_e (by omega) (by omega)) rfl ?_
          refine w_goto (pt := 42) (o50_51 hB) (by decide) ?_
          refine w_sub (lv' := [(4, (0, (((n : Nat) : Int) + (-1)))), (0, (2, ((2 : Nat) : Int))), (1, (0, ((c : Nat) : Int))), (3, (0, (k)))]) (List.forall_mem_cons.mpr ⟨(List.Mem.head _), (List.forall_mem_cons.mpr ⟨(List.Mem.tail _ (List.Mem.head _)), (List.forall_mem_cons.mpr ⟨(List.Mem.tail _ (List.Mem.tail _ (List.Mem.head _))), (List.forall_mem_cons.mpr ⟨(List.Mem.tail _ (List.Mem.tail _ (List.Mem.tail _ (List.Mem.head _)))), (fun _ hx => by cases hx)⟩)⟩)⟩)⟩) ?_
          have e1 : dA h ((c : Nat) : Int) k (n + 1) = dA h ((c : Nat) : Int) k n := by
            simp only [dA]
            rw [if_neg (by omega)]
          exact ih (by omega) hm (by omega)
        · have f817 : ¬ ((h 10 n) ≠ ((c : Nat) : Int)) := e
          refine w_pl (pc' := 59) (lv' := [(4, (0, ((n : Nat) : Int))), (0, (2, ((2 : Nat) : Int))), (1, (0, ((c : Nat) : Int))), (3, (0, (k)))]) (st' := [(2, ((2 : Nat) : Int))]) (h' := h) (o50_33 hB) rfl ?_
          refine w_getf (A := 2) (t := 2) (z := ((11 : Nat) : Int)) (pc' := 62) (o50_34 hB) rfl (by decide +kernel) (hR (2, 14, 11) (by decide)) ?_
          refine w_pl (pc' := 64) (lv' := [(4, (0, ((n : Nat) : Int))), (0, (2, ((2 : Nat) : Int))), (1, (0, ((c : Nat) : Int))), (3, (0, (k)))]) (st' := [(0, ((n : Nat) : Int)), (2, ((11 : Nat) : Int))]) (h' := h) (o50_35 hB) rfl ?_
          have f818 := ty_11_s0 ht (j := n) (r := n) (by omega) (by omega)
          refine w_iald (A := 11) (i := n) (n := 20) (z := (h 11 n)) (pc' := 65) (o50_36 hB) rfl (by decide +kernel) (by omega) rfl ?_
          refine w_pl (pc' := 66) (lv' := [(4, (0, ((n : Nat) : Int))), (0, (2, ((2 : Nat) : Int))), (1, (0, ((c : Nat) : Int))), (3, (0, (k)))]) (st' := [(0, (k)), (0, (h 11 n))]) (h' := h) (o50_37 hB) rfl ?_
          refine w_icmp (pt := 87) (pf := 69) (o50_38 hB) (by decide) rfl (fun e => ?_) (fun e => ?_)
          · have f819 : ((k) < (h 11 n)) := e
            refine w_iinc (x := ((n : Nat) : Int)) (z := (((n : Nat) : Int) + (-1))) (pc' := 90) (lv' := [(4, (0, (((n : Nat) : Int) + (-1)))), (0, (2, ((2 : Nat) : Int))), (1, (0, ((c : Nat) : Int))), (3, (0, (k)))]) (o50_50 hB) rfl rfl ml50 (by decide) (w32_e (by omega) (by omega)) rfl ?_
            refine w_goto (pt := 42) (o50_51 hB) (by decide) ?_
            refine w_sub (lv' := [(4, (0, (((n : Nat) : Int) + (-1)))), (0, (2, ((2 : Nat) : Int))), (1, (0, ((c : Nat) : Int))), (3, (0, (k)))]) (List.forall_mem_cons.mpr ⟨(List.Mem.head _), (List.forall_mem_cons.mpr ⟨(List.Mem.tail _ (List.Mem.head _)), (List.forall_mem_cons.mpr ⟨(List.Mem.tail _ (List.Mem.tail _ (List.Mem.head _))), (List.forall_mem_cons.mpr ⟨(List.Mem.tail _ (List.Mem.tail _ (List.Mem.tail _ (List.Mem.head _)))), (fun _ hx => by cases hx)⟩)⟩)⟩)⟩) ?_
            have e1 : dA h ((c : Nat) : Int) k (n + 1) = dA h ((c : Nat) : Int) k n := by
              simp only [dA]
              rw [if_neg (by omega)]
            exact ih (by omega) hm (by omega)
          · have f820 : ¬ ((k) < (h 11 n)) := e
            refine w_pl (pc' := 70) (lv' := [(4, (0, ((n : Nat) : Int))), (0, (2, ((2 : Nat) : Int))), (1, (0, ((c : Nat) : Int))), (3, (0, (k)))]) (st' := [(2, ((2 : Nat) : Int))]) (h' := h) (o50_39 hB) rfl ?_
            refine w_getf (A := 2) (t := 0) (z := (h 2 12)) (pc' := 73) (o50_40 hB) rfl (by decide +kernel) rfl ?_
            refine w_pl (pc' := 75) (lv' := [(4, (0, ((n : Nat) : Int))), (0, (2, ((2 : Nat) : Int))), (1, (0, ((c : Nat) : Int))), (3, (0, (k)))]) (st' := [(0, ((n : Nat) : Int)), (0, (h 2 12))]) (h' := h) (o50_41 hB) rfl ?_
            refine w_ishr (z := (shrI (h 2 12) ((n : Nat) : Int))) (pc' := 76) (o50_42 hB) rfl rfl ?_
            refine w_pl (pc' := 77) (lv' := [(4, (0, ((n : Nat) : Int))), (0, (2, ((2 : Nat) : Int))), (1, (0, ((c : Nat) : Int))), (3, (0, (k)))]) (st' := [(0, ((1 : Nat) : Int)), (0, (shrI (h 2 12) ((n : Nat) : Int)))]) (h' := h) (o50_43 hB) rfl ?_
            refine w_iand (z := (andI (shrI (h 2 12) ((n : Nat) : Int)) 1)) (pc' := 78) (o50_44 hB) rfl rfl ?_
            refine w_ifc (pt := 85) (pf := 81) (o50_45 hB) (by decide) rfl (fun e => ?_) (fun e => ?_)
            · have f821 : ((andI (shrI (h 2 12) ((n : Nat) : Int)) 1) ≠ (0)) := e
              refine w_pl (pc' := 86) (lv' := [(4, (0, ((n : Nat) : Int))), (0, (2, ((2 : Nat) : Int))), (1, (0, ((c : Nat) : Int))), (3, (0, (k)))]) (st' := [(0, ((0 : Nat) : Int))]) (h' := h) (o50_48 hB) rfl ?_
              have e1 : dA h ((c : Nat) : Int) k (n + 1) = 1 := by
                simp only [dA]
                rw [if_pos ⟨by omega, by omega⟩, if_neg (by omega)]
              exact w_zret (o50_49 hB) mr50 (by decide) (h0 (by omega))
            · have f822 : ¬ ((andI (shrI (h 2 12) ((n : Nat) : Int)) 1) ≠ (0)) := e
              refine w_pl (pc' := 82) (lv' := [(4, (0, ((n : Nat) : Int))), (0, (2, ((2 : Nat) : Int))), (1, (0, ((c : Nat) : Int))), (3, (0, (k)))]) (st' := [(0, ((1 : Nat) : Int))]) (h' := h) (o50_46 hB) rfl ?_
              refine w_goto (pt := 86) (o50_47 hB) (by decide) ?_
              have e1 : dA h ((c : Nat) : Int) k (n + 1) = 0 := by
                simp only [dA]
                rw [if_pos ⟨by omega, by omega⟩, if_pos (by exact Decidable.not_not.mp f822)]
              exact w_zret (o50_49 hB) mr50 (by decide) (h1 ⟨hm, by omega⟩)
  refine mh_go hB mg50 ml50 (Nat.le_of_ble_eq_true rfl) ?_
  show HW g l d 50 _ _ 0 [(0, (2, ((2 : Nat) : Int))), (1, (0, ((c : Nat) : Int))), (2, (0, (mo))), (3, (0, (k)))] [] h
  refine w_pl (pc' := 1) (lv' := [(0, (2, ((2 : Nat) : Int))), (1, (0, ((c : Nat) : Int))), (2, (0, (mo))), (3, (0, (k)))]) (st' := [(0, ((c : Nat) : Int))]) (h' := h) (o50_0 hB) rfl ?_
  refine w_ifc (pt := 32) (pf := 4) (o50_1 hB) (by decide) rfl (fun e => ?_) (fun e => ?_)
  · have f823 : (((c : Nat) : Int) < (0)) := e
    refine w_pl (pc' := 33) (lv' := [(0, (2, ((2 : Nat) : Int))), (1, (0, ((c : Nat) : Int))), (2, (0, (mo))), (3, (0, (k)))]) (st' := [(0, ((0 : Nat) : Int))]) (h' := h) (o50_18 hB) rfl ?_
    exact w_zret (o50_19 hB) mr50 (by decide) (h0 (by omega))
  · have f824 : ¬ (((c : Nat) : Int) < (0)) := e
    refine w_pl (pc' := 5) (lv' := [(0, (2, ((2 : Nat) : Int))), (1, (0, ((c : Nat) : Int))), (2, (0, (mo))), (3, (0, (k)))]) (st' := [(0, ((c : Nat) : Int))]) (h' := h) (o50_2 hB) rfl ?_
    refine w_pl (pc' := 6) (lv' := [(0, (2, ((2 : Nat) : Int))), (1, (0, ((c : Nat) : Int))), (2, (0, (mo))), (3, (0, (k)))]) (st' := [(2, ((2 : Nat) : Int)), (0, ((c : Nat) : Int))]) (h' := h) (o50_3 hB) rfl ?_
    refine w_getf (A := 2) (t := 0) (z := ((nc : Nat) : Int)) (pc' := 9) (o50_4 hB) rfl (by decide +kernel) hnc ?_
    refine w_icmp (pt := 32) (pf := 12) (o50_5 hB) (by decide) rfl (fun e => ?_) (fun e => ?_)
    · have f825 : (((nc : Nat) : Int) ≤ ((c : Nat) : Int)) := e
      refine w_pl (pc' := 33) (lv' := [(0, (2, ((2 : Nat) : Int))), (1, (0, ((c : Nat) : Int))), (2, (0, (mo))), (3, (0, (k)))]) (st' := [(0, ((0 : Nat) : Int))]) (h' := h) (o50_18 hB) rfl ?_
      exact w_zret (o50_19 hB) mr50 (by decide) (h0 (by omega))
    · have f826 : ¬ (((nc : Nat) : Int) ≤ ((c : Nat) : Int)) := e
      refine w_pl (pc' := 13) (lv' := [(0, (2, ((2 : Nat) : Int))), (1, (0, ((c : Nat) : Int))), (2, (0, (mo))), (3, (0, (k)))]) (st' := [(0, (mo))]) (h' := h) (o50_6 hB) rfl ?_
      refine w_pl (pc' := 14) (lv' := [(0, (2, ((2 : Nat) : Int))), (1, (0, ((c : Nat) : Int))), (2, (0, (mo))), (3, (0, (k)))]) (st' := [(2, ((2 : Nat) : Int)), (0, (mo))]) (h' := h) (o50_7 hB) rfl ?_
      refine w_getf (A := 2) (t := 2) (z := ((6 : Nat) : Int)) (pc' := 17) (o50_8 hB) rfl (by decide +kernel) (hR (2, 5, 6) (by decide)) ?_
      refine w_pl (pc' := 18) (lv' := [(0, (2, ((2 : Nat) : Int))), (1, (0, ((c : Nat) : Int))), (2, (0, (mo))), (3, (0, (k)))]) (st' := [(0, ((c : Nat) : Int)), (2, ((6 : Nat) : Int)), (0, (mo))]) (h' := h) (o50_9 hB) rfl ?_
      refine w_iald (A := 6) (i := c) (n := 16) (z := (h 6 c)) (pc' := 19) (o50_10 hB) rfl (by decide +kernel) (by omega) rfl ?_
      refine w_icmp (pt := 32) (pf := 22) (o50_11 hB) (by decide) rfl (fun e => ?_) (fun e => ?_)
      · have f827 : ((mo) < (h 6 c)) := e
        refine w_pl (pc' := 33) (lv' := [(0, (2, ((2 : Nat) : Int))), (1, (0, ((c : Nat) : Int))), (2, (0, (mo))), (3, (0, (k)))]) (st' := [(0, ((0 : Nat) : Int))]) (h' := h) (o50_18 hB) rfl ?_
        exact w_zret (o50_19 hB) mr50 (by decide) (h0 (by omega))
      · have f828 : ¬ ((mo) < (h 6 c)) := e
        refine w_pl (pc' := 23) (lv' := [(0, (2, ((2 : Nat) : Int))), (1, (0, ((c : Nat) : Int))), (2, (0, (mo))), (3, (0, (k)))]) (st' := [(0, (mo))]) (h' := h) (o50_12 hB) rfl ?_
        refine w_pl (pc' := 24) (lv' := [(0, (2, ((2 : Nat) : Int))), (1, (0, ((c : Nat) : Int))), (2, (0, (mo))), (3, (0, (k)))]) (st' := [(2, ((2 : Nat) : Int)), (0, (mo))]) (h' := h) (o50_13 hB) rfl ?_
        refine w_getf (A := 2) (t := 2) (z := ((7 : Nat) : Int)) (pc' := 27) (o50_14 hB) rfl (by decide +kernel) (hR (2, 6, 7) (by decide)) ?_
        refine w_pl (pc' := 28) (lv' := [(0, (2, ((2 : Nat) : Int))), (1, (0, ((c : Nat) : Int))), (2, (0, (mo))), (3, (0, (k)))]) (st' := [(0, ((c : Nat) : Int)), (2, ((7 : Nat) : Int)), (0, (mo))]) (h' := h) (o50_15 hB) rfl ?_
        refine w_iald (A := 7) (i := c) (n := 16) (z := (h 7 c)) (pc' := 29) (o50_16 hB) rfl (by decide +kernel) (by omega) rfl ?_
        refine w_icmp (pt := 34) (pf := 32) (o50_17 hB) (by decide) rfl (fun e => ?_) (fun e => ?_)
        · have f829 : ((mo) ≤ (h 7 c)) := e
          refine w_pl (pc' := 35) (lv' := [(0, (2, ((2 : Nat) : Int))), (1, (0, ((c : Nat) : Int))), (2, (0, (mo))), (3, (0, (k)))]) (st' := [(2, ((2 : Nat) : Int))]) (h' := h) (o50_20 hB) rfl ?_
          refine w_getf (A := 2) (t := 0) (z := ((cw : Nat) : Int)) (pc' := 38) (o50_21 hB) rfl (by decide +kernel) hcw ?_
          refine w_pl (pc' := 39) (lv' := [(0, (2, ((2 : Nat) : Int))), (1, (0, ((c : Nat) : Int))), (2, (0, (mo))), (3, (0, (k)))]) (st' := [(0, ((1 : Nat) : Int)), (0, ((cw : Nat) : Int))]) (h' := h) (o50_22 hB) rfl ?_
          refine w_isub (z := (((cw : Nat) : Int) - ((1 : Nat) : Int))) (pc' := 40) (o50_23 hB) rfl (w32_e (by omega) (by omega)) ?_
          refine w_st (tg := 0) (j := 4) (len := 2) (pc' := 42) (lv' := [(4, (0, (((cw : Nat) : Int) - ((1 : Nat) : Int)))), (0, (2, ((2 : Nat) : Int))), (1, (0, ((c : Nat) : Int))), (2, (0, (mo))), (3, (0, (k)))]) (o50_24 hB) rfl rfl ml50 (by decide) rfl ?_
          refine w_sub (lv' := [(4, (0, (((cw : Nat) : Int) - ((1 : Nat) : Int)))), (0, (2, ((2 : Nat) : Int))), (1, (0, ((c : Nat) : Int))), (3, (0, (k)))]) (List.forall_mem_cons.mpr ⟨(List.Mem.head _), (List.forall_mem_cons.mpr ⟨(List.Mem.tail _ (List.Mem.head _)), (List.forall_mem_cons.mpr ⟨(List.Mem.tail _ (List.Mem.tail _ (List.Mem.head _))), (List.forall_mem_cons.mpr ⟨(List.Mem.tail _ (List.Mem.tail _ (List.Mem.tail _ (List.Mem.tail _ (List.Mem.head _))))), (fun _ hx => by cases hx)⟩)⟩)⟩)⟩) ?_
          rw [show ((((cw : Nat) : Int) - ((1 : Nat) : Int)) : Int) = ((cw : Nat) : Int) + (-1) from by omega]
          exact loop cw (Nat.le_refl _) ⟨by omega, by omega⟩ rfl
        · have f830 : ¬ ((mo) ≤ (h 7 c)) := e
          refine w_pl (pc' := 33) (lv' := [(0, (2, ((2 : Nat) : Int))), (1, (0, ((c : Nat) : Int))), (2, (0, (mo))), (3, (0, (k)))]) (st' := [(0, ((0 : Nat) : Int))]) (h' := h) (o50_18 hB) rfl ?_
          exact w_zret (o50_19 hB) mr50 (by decide) (h0 (by omega))
theorem m_cl (hB : BytesOK) {g : bG} {l : Launch} {d : Nat} {Q : bQ} {h : bH} {c w : Nat} (ht : TH h) (hc : c < 16) (hw : w < 8) (hq : Q (some (0, h 194 (16 + 8 * c + w))) h) (hv : in32 (h 194 (16 + 8 * c + w)))  : MH g l d 191 212 212 [(2, ((193 : Nat) : Int)), (0, ((c : Nat) : Int)), (0, ((w : Nat) : Int))] h Q := by
  have hR := ht.r
  refine mh_go hB mg191 ml191 (Nat.le_of_ble_eq_true rfl) ?_
  show HW g l d 191 _ _ 0 [(0, (2, ((193 : Nat) : Int))), (1, (0, ((c : Nat) : Int))), (2, (0, ((w : Nat) : Int)))] [] h
  refine w_pl (pc' := 1) (lv' := [(0, (2, ((193 : Nat) : Int))), (1, (0, ((c : Nat) : Int))), (2, (0, ((w : Nat) : Int)))]) (st' := [(2, ((193 : Nat) : Int))]) (h' := h) (o191_0 hB) rfl ?_
  refine w_getf (A := 193) (t := 2) (z := ((194 : Nat) : Int)) (pc' := 4) (o191_1 hB) rfl (by decide +kernel) (hR (193, 0, 194) (by decide)) ?_
  refine w_pl (pc' := 6) (lv' := [(0, (2, ((193 : Nat) : Int))), (1, (0, ((c : Nat) : Int))), (2, (0, ((w : Nat) : Int)))]) (st' := [(0, ((16 : Nat) : Int)), (2, ((194 : Nat) : Int))]) (h' := h) (o191_2 hB) rfl ?_
  refine w_pl (pc' := 8) (lv' := [(0, (2, ((193 : Nat) : Int))), (1, (0, ((c : Nat) : Int))), (2, (0, ((w : Nat) : Int)))]) (st' := [(0, ((8 : Nat) : Int)), (0, ((16 : Nat) : Int)), (2, ((194 : Nat) : Int))]) (h' := h) (o191_3 hB) rfl ?_
  refine w_pl (pc' := 9) (lv' := [(0, (2, ((193 : Nat) : Int))), (1, (0, ((c : Nat) : Int))), (2, (0, ((w : Nat) : Int)))]) (st' := [(0, ((c : Nat) : Int)), (0, ((8 : Nat) : Int)), (0, ((16 : Nat) : Int)), (2, ((194 : Nat) : Int))]) (h' := h) (o191_4 hB) rfl ?_
  refine w_imul (z := (((8 * c) : Nat) : Int)) (pc' := 10) (o191_5 hB) rfl (w32_e (by omega) (by omega)) ?_
  refine w_iadd (z := (((16 + (8 * c)) : Nat) : Int)) (pc' := 11) (o191_6 hB) rfl (w32_e (by omega) (by omega)) ?_
  refine w_pl (pc' := 12) (lv' := [(0, (2, ((193 : Nat) : Int))), (1, (0, ((c : Nat) : Int))), (2, (0, ((w : Nat) : Int)))]) (st' := [(0, ((w : Nat) : Int)), (0, (((16 + (8 * c)) : Nat) : Int)), (2, ((194 : Nat) : Int))]) (h' := h) (o191_7 hB) rfl ?_
  refine w_iadd (z := ((((16 + (8 * c)) + w) : Nat) : Int)) (pc' := 13) (o191_8 hB) rfl (w32_e (by omega) (by omega)) ?_
  refine w_iald (A := 194) (i := ((16 + (8 * c)) + w)) (n := 1984) (z := (h 194 ((16 + (8 * c)) + w))) (pc' := 14) (o191_9 hB) rfl (by decide +kernel) (by omega) rfl ?_
  exact w_iret (o191_10 hB) mr191 hv hq
theorem m_isAlive (hB : BytesOK) {g : bG} {l : Launch} {d : Nat} {Q : bQ} {h : bH} {c : Nat} {mo k : Int} (ht : TH h) {cw : Nat} (hcw : h 194 2 = (cw : Int)) (lcw : cw ≤ 20) (hc16 : c < 16) (h1 : (h 194 (16 + 8 * c + 4) ≤ mo ∧ mo ≤ h 194 (16 + 8 * c + 5)) ∧ dM h ((c : Nat) : Int) k cw = 0 → Q (some (0, 1)) h) (h0 : ¬ ((h 194 (16 + 8 * c + 4) ≤ mo ∧ mo ≤ h 194 (16 + 8 * c + 5)) ∧ dM h ((c : Nat) : Int) k cw = 0) → Q (some (0, 0)) h) : MH g l (d + 1) 194 212 212 [(2, ((193 : Nat) : Int)), (0, ((c : Nat) : Int)), (0, mo), (0, k)] h Q := by
  have hR := ht.r
  have loop : ∀ (n b : Nat), b + n = cw → HW g l (d + 1) 194 212 Q 6 [(5, (0, ((b : Nat) : Int))), (4, (0, (dM h ((c : Nat) : Int) k b))), (0, (2, ((193 : Nat) : Int))), (1, (0, ((c : Nat) : Int))), (2, (0, (mo))), (3, (0, (k)))] [] h := by
    intro n
    induction n with
    | zero =>
      intro b hb
      have rb := dM_r (h := h) (c := ((c : Nat) : Int)) (k := k) b
      refine w_pl (pc' := 8) (lv' := [(5, (0, ((b : Nat) : Int))), (4, (0, (dM h ((c : Nat) : Int) k b))), (0, (2, ((193 : Nat) : Int))), (1, (0, ((c : Nat) : Int))), (2, (0, (mo))), (3, (0, (k)))]) (st' := [(0, ((b : Nat) : Int))]) (h' := h) (o194_4 hB) rfl ?_
      refine w_pl (pc' := 9) (lv' := [(5, (0, ((b : Nat) : Int))), (4, (0, (dM h ((c : Nat) : Int) k b))), (0, (2, ((193 : Nat) : Int))), (1, (0, ((c : Nat) : Int))), (2, (0, (mo))), (3, (0, (k)))]) (st' := [(2, ((193 : Nat) : Int)), (0, ((b : Nat) : Int))]) (h' := h) (o194_5 hB) rfl ?_
      refine w_getf (A := 193) (t := 2) (z := ((194 : Nat) : Int)) (pc' := 12) (o194_6 hB) rfl (by decide +kernel) (hR (193, 0, 194) (by decide)) ?_
      refine w_pl (pc' := 13) (lv' := [(5, (0, ((b : Nat) : Int))), (4, (0, (dM h ((c : Nat) : Int) k b))), (0, (2, ((193 : Nat) : Int))), (1, (0, ((c : Nat) : Int))), (2, (0, (mo))), (3, (0, (k)))]) (st' := [(0, ((2 : Nat) : Int)), (2, ((194 : Nat) : Int)), (0, ((b : Nat) : Int))]) (h' := h) (o194_7 hB) rfl ?_
      refine w_iald (A := 194) (i := 2) (n := 1984) (z := ((cw : Nat) : Int)) (pc' := 14) (o194_8 hB) rfl (by decide +kernel) (by omega) hcw ?_
      refine w_icmp (pt := 102) (pf := 17) (o194_9 hB) (by decide) rfl (fun e => ?_) (fun e => ?_)
      · have f831 : (((cw : Nat) : Int) ≤ ((b : Nat) : Int)) := e
        refine w_pl (pc' := 104) (lv' := [(5, (0, ((b : Nat) : Int))), (4, (0, (dM h ((c : Nat) : Int) k b))), (0, (2, ((193 : Nat) : Int))), (1, (0, ((c : Nat) : Int))), (2, (0, (mo))), (3, (0, (k)))]) (st' := [(0, (dM h ((c : Nat) : Int) k b))]) (h' := h) (o194_58 hB) rfl ?_
        refine w_ifc (pt := 130) (pf := 107) (o194_59 hB) (by decide) rfl (fun e => ?_) (fun e => ?_)
        · have f832 : ((dM h ((c : Nat) : Int) k b) ≠ (0)) := e
          refine w_pl (pc' := 131) (lv' := [(5, (0, ((b : Nat) : Int))), (4, (0, (dM h ((c : Nat) : Int) k b))), (0, (2, ((193 : Nat) : Int))), (1, (0, ((c : Nat) : Int))), (2, (0, (mo))), (3, (0, (k)))]) (st' := [(0, ((0 : Nat) : Int))]) (h' := h) (o194_73 hB) rfl ?_
          obtain rfl : b = cw := by omega
          exact w_zret (o194_74 hB) mr194 (by decide) (h0 (by omega))
        · have f833 : ¬ ((dM h ((c : Nat) : Int) k b) ≠ (0)) := e
          refine w_pl (pc' := 108) (lv' := [(5, (0, ((b : Nat) : Int))), (4, (0, (dM h ((c : Nat) : Int) k b))), (0, (2, ((193 : Nat) : Int))), (1, (0, ((c : Nat) : Int))), (2, (0, (mo))), (3, (0, (k)))]) (st' := [(0, (mo))]) (h' := h) (o194_60 hB) rfl ?_
          refine w_pl (pc' := 109) (lv' := [(5, (0, ((b : Nat) : Int))), (4, (0, (dM h ((c : Nat) : Int) k b))), (0, (2, ((193 : Nat) : Int))), (1, (0, ((c : Nat) : Int))), (2, (0, (mo))), (3, (0, (k)))]) (st' := [(2, ((193 : Nat) : Int)), (0, (mo))]) (h' := h) (o194_61 hB) rfl ?_
          refine w_pl (pc' := 110) (lv' := [(5, (0, ((b : Nat) : Int))), (4, (0, (dM h ((c : Nat) : Int) k b))), (0, (2, ((193 : Nat) : Int))), (1, (0, ((c : Nat) : Int))), (2, (0, (mo))), (3, (0, (k)))]) (st' := [(0, ((c : Nat) : Int)), (2, ((193 : Nat) : Int)), (0, (mo))]) (h' := h) (o194_62 hB) rfl ?_
          refine w_pl (pc' := 111) (lv' := [(5, (0, ((b : Nat) : Int))), (4, (0, (dM h ((c : Nat) : Int) k b))), (0, (2, ((193 : Nat) : Int))), (1, (0, ((c : Nat) : Int))), (2, (0, (mo))), (3, (0, (k)))]) (st' := [(0, ((4 : Nat) : Int)), (0, ((c : Nat) : Int)), (2, ((193 : Nat) : Int)), (0, (mo))]) (h' := h) (o194_63 hB) rfl ?_
          refine w_callV (A := 193) (as := [(0, ((c : Nat) : Int)), (0, ((4 : Nat) : Int))]) (rest := [(0, (mo))]) (n := 2) (pc' := 114) 11 hB (o194_64 hB) rfl (by decide +kernel) rfl rfl (Nat.le_of_ble_eq_true rfl) (m_cl (w := 4) hB ht (by omega) (by decide) (hv := by have := ty_194_s20 ht (j := 16 + 8 * c + 4) (r := c) (by omega) (by omega); unfold in32; omega) ?_)
          show HW g l _ 194 _ _ 114 [(5, (0, ((b : Nat) : Int))), (4, (0, (dM h ((c : Nat) : Int) k b))), (0, (2, ((193 : Nat) : Int))), (1, (0, ((c : Nat) : Int))), (2, (0, (mo))), (3, (0, (k)))] [(0, (h 194 (16 + 8 * c + 4))), (0, (mo))] h
          refine w_pl (pc' := 115) (lv' := [(5, (0, ((b : Nat) : Int))), (4, (0, (dM h ((c : Nat) : Int) k b))), (0, (2, ((193 : Nat) : Int))), (1, (0, ((c : Nat) : Int))), (2, (0, (mo))), (3, (0, (k)))]) (st' := [(2, ((193 : Nat) : Int)), (0, (h 194 (16 + 8 * c + 4))), (0, (mo))]) (h' := h) (o194_65 hB) rfl ?_
          refine w_pl (pc' := 116) (lv' := [(5, (0, ((b : Nat) : Int))), (4, (0, (dM h ((c : Nat) : Int) k b))), (0, (2, ((193 : Nat) : Int))), (1, (0, ((c : Nat) : Int))), (2, (0, (mo))), (3, (0, (k)))]) (st' := [(0, ((c : Nat) : Int)), (2, ((193 : Nat) : Int)), (0, (h 194 (16 + 8 * c + 4))), (0, (mo))]) (h' := h) (o194_66 hB) rfl ?_
          refine w_pl (pc' := 117) (lv' := [(5, (0, ((b : Nat) : Int))), (4, (0, (dM h ((c : Nat) : Int) k b))), (0, (2, ((193 : Nat) : Int))), (1, (0, ((c : Nat) : Int))), (2, (0, (mo))), (3, (0, (k)))]) (st' := [(0, ((5 : Nat) : Int)), (0, ((c : Nat) : Int)), (2, ((193 : Nat) : Int)), (0, (h 194 (16 + 8 * c + 4))), (0, (mo))]) (h' := h) (o194_67 hB) rfl ?_
          refine w_callV (A := 193) (as := [(0, ((c : Nat) : Int)), (0, ((5 : Nat) : Int))]) (rest := [(0, (h 194 (16 + 8 * c + 4))), (0, (mo))]) (n := 2) (pc' := 120) 11 hB (o194_68 hB) rfl (by decide +kernel) rfl rfl (Nat.le_of_ble_eq_true rfl) (m_cl (w := 5) hB ht (by omega) (by decide) (hv := by have := ty_194_s21 ht (j := 16 + 8 * c + 5) (r := c) (by omega) (by omega); unfold in32; omega) ?_)
          show HW g l _ 194 _ _ 120 [(5, (0, ((b : Nat) : Int))), (4, (0, (dM h ((c : Nat) : Int) k b))), (0, (2, ((193 : Nat) : Int))), (1, (0, ((c : Nat) : Int))), (2, (0, (mo))), (3, (0, (k)))] [(0, (h 194 (16 + 8 * c + 5))), (0, (h 194 (16 + 8 * c + 4))), (0, (mo))] h
          refine w_callS (as := [(0, (mo)), (0, (h 194 (16 + 8 * c + 4))), (0, (h 194 (16 + 8 * c + 5)))]) (rest := []) (n := 3) (pc' := 123) hB (o194_69 hB) rfl (by decide +kernel) rfl rfl (Nat.le_of_ble_eq_true rfl) (m_in hB (fun f836 => ?_) (fun f837 => ?_))
          · show HW g l _ 194 _ _ 123 [(5, (0, ((b : Nat) : Int))), (4, (0, (dM h ((c : Nat) : Int) k b))), (0, (2, ((193 : Nat) : Int))), (1, (0, ((c : Nat) : Int))), (2, (0, (mo))), (3, (0, (k)))] [(0, ((1 : Nat) : Int))] h
            refine w_ifc (pt := 130) (pf := 126) (o194_70 hB) (by decide) rfl (fun e => ?_) (fun e => ?_)
            · have f838 : (((1 : Nat) : Int) = (0)) := e
              exfalso; omega
            · have f839 : ¬ (((1 : Nat) : Int) = (0)) := e
              refine w_pl (pc' := 127) (lv' := [(5, (0, ((b : Nat) : Int))), (4, (0, (dM h ((c : Nat) : Int) k b))), (0, (2, ((193 : Nat) : Int))), (1, (0, ((c : Nat) : Int))), (2, (0, (mo))), (3, (0, (k)))]) (st' := [(0, ((1 : Nat) : Int))]) (h' := h) (o194_71 hB) rfl ?_
              refine w_goto (pt := 131) (o194_72 hB) (by decide) ?_
              obtain rfl : b = cw := by omega
              exact w_zret (o194_74 hB) mr194 (by decide) (h1 (by omega))
          · show HW g l _ 194 _ _ 123 [(5, (0, ((b : Nat) : Int))), (4, (0, (dM h ((c : Nat) : Int) k b))), (0, (2, ((193 : Nat) : Int))), (1, (0, ((c : Nat) : Int))), (2, (0, (mo))), (3, (0, (k)))] [(0, ((0 : Nat) : Int))] h
            refine w_ifc (pt := 130) (pf := 126) (o194_70 hB) (by decide) rfl (fun e => ?_) (fun e => ?_)
            · have f840 : (((0 : Nat) : Int) = (0)) := e
              refine w_pl (pc' := 131) (lv' := [(5, (0, ((b : Nat) : Int))), (4, (0, (dM h ((c : Nat) : Int) k b))), (0, (2, ((193 : Nat) : Int))), (1, (0, ((c : Nat) : Int))), (2, (0, (mo))), (3, (0, (k)))]) (st' := [(0, ((0 : Nat) : Int))]) (h' := h) (o194_73 hB) rfl ?_
              obtain rfl : b = cw := by omega
              exact w_zret (o194_74 hB) mr194 (by decide) (h0 (by omega))
            · have f841 : ¬ (((0 : Nat) : Int) = (0)) := e
              exfalso; omega
      · have f842 : ¬ (((cw : Nat) : Int) ≤ ((b : Nat) : Int)) := e
        exfalso; omega
    | succ n ih =>
      intro b hb
      have rb := dM_r (h := h) (c := ((c : Nat) : Int)) (k := k) b
      refine w_pl (pc' := 8) (lv' := [(5, (0, ((b : Nat) : Int))), (4, (0, (dM h ((c : Nat) : Int) k b))), (0, (2, ((193 : Nat) : Int))), (1, (0, ((c : Nat) : Int))), (2, (0, (mo))), (3, (0, (k)))]) (st' := [(0, ((b : Nat) : Int))]) (h' := h) (o194_4 hB) rfl ?_
      refine w_pl (pc' := 9) (lv' := [(5, (0, ((b : Nat) : Int))), (4, (0, (dM h ((c : Nat) : Int) k b))), (0, (2, ((193 : Nat) : Int))), (1, (0, ((c : Nat) : Int))), (2, (0, (mo))), (3, (0, (k)))]) (st' := [(2, ((193 : Nat) : Int)), (0, ((b : Nat) : Int))]) (h' := h) (o194_5 hB) rfl ?_
      refine w_getf (A := 193) (t := 2) (z := ((194 : Nat) : Int)) (pc' := 12) (o194_6 hB) rfl (by decide +kernel) (hR (193, 0, 194) (by decide)) ?_
      refine w_pl (pc' := 13) (lv' := [(5, (0, ((b : Nat) : Int))), (4, (0, (dM h ((c : Nat) : Int) k b))), (0, (2, ((193 : Nat) : Int))), (1, (0, ((c : Nat) : Int))), (2, (0, (mo))), (3, (0, (k)))]) (st' := [(0, ((2 : Nat) : Int)), (2, ((194 : Nat) : Int)), (0, ((b : Nat) : Int))]) (h' := h) (o194_7 hB) rfl ?_
      refine w_iald (A := 194) (i := 2) (n := 1984) (z := ((cw : Nat) : Int)) (pc' := 14) (o194_8 hB) rfl (by decide +kernel) (by omega) hcw ?_
      refine w_icmp (pt := 102) (pf := 17) (o194_9 hB) (by decide) rfl (fun e => ?_) (fun e => ?_)
      · have f843 : (((cw : Nat) : Int) ≤ ((b : Nat) : Int)) := e
        exfalso; omega
      · have f844 : ¬ (((cw : Nat) : Int) ≤ ((b : Nat) : Int)) := e
        refine w_pl (pc' := 18) (lv' := [(5, (0, ((b : Nat) : Int))), (4, (0, (dM h ((c : Nat) : Int) k b))), (0, (2, ((193 : Nat) : Int))), (1, (0, ((c : Nat) : Int))), (2, (0, (mo))), (3, (0, (k)))]) (st' := [(2, ((193 : Nat) : Int))]) (h' := h) (o194_10 hB) rfl ?_
        refine w_getf (A := 193) (t := 2) (z := ((194 : Nat) : Int)) (pc' := 21) (o194_11 hB) rfl (by decide +kernel) (hR (193, 0, 194) (by decide)) ?_
        refine w_pl (pc' := 24) (lv' := [(5, (0, ((b : Nat) : Int))), (4, (0, (dM h ((c : Nat) : Int) k b))), (0, (2, ((193 : Nat) : Int))), (1, (0, ((c : Nat) : Int))), (2, (0, (mo))), (3, (0, (k)))]) (st' := [(0, ((144 : Nat) : Int)), (2, ((194 : Nat) : Int))]) (h' := h) (o194_12 hB) rfl ?_
        refine w_pl (pc' := 25) (lv' := [(5, (0, ((b : Nat) : Int))), (4, (0, (dM h ((c : Nat) : Int) k b))), (0, (2, ((193 : Nat) : Int))), (1, (0, ((c : Nat) : Int))), (2, (0, (mo))), (3, (0, (k)))]) (st' := [(0, ((3 : Nat) : Int)), (0, ((144 : Nat) : Int)), (2, ((194 : Nat) : Int))]) (h' := h) (o194_13 hB) rfl ?_
        refine w_pl (pc' := 27) (lv' := [(5, (0, ((b : Nat) : Int))), (4, (0, (dM h ((c : Nat) : Int) k b))), (0, (2, ((193 : Nat) : Int))), (1, (0, ((c : Nat) : Int))), (2, (0, (mo))), (3, (0, (k)))]) (st' := [(0, ((b : Nat) : Int)), (0, ((3 : Nat) : Int)), (0, ((144 : Nat) : Int)), (2, ((194 : Nat) : Int))]) (h' := h) (o194_14 hB) rfl ?_
        refine w_imul (z := (((3 * b) : Nat) : Int)) (pc' := 28) (o194_15 hB) rfl (w32_e (by omega) (by omega)) ?_
        refine w_iadd (z := (((144 + (3 * b)) : Nat) : Int)) (pc' := 29) (o194_16 hB) rfl (w32_e (by omega) (by omega)) ?_
        have f845 := ty_194_s144 ht (j := (144 + (3 * b))) (r := b) (by omega) (by omega)
        refine w_iald (A := 194) (i := (144 + (3 * b))) (n := 1984) (z := (h 194 (144 + (3 * b)))) (pc' := 30) (o194_17 hB) rfl (by decide +kernel) (by omega) rfl ?_
        refine w_pl (pc' := 31) (lv' := [(5, (0, ((b : Nat) : Int))), (4, (0, (dM h ((c : Nat) : Int) k b))), (0, (2, ((193 : Nat) : Int))), (1, (0, ((c : Nat) : Int))), (2, (0, (mo))), (3, (0, (k)))]) (st' := [(0, ((c : Nat) : Int)), (0, (h 194 (144 + (3 * b))))]) (h' := h) (o194_18 hB) rfl ?_
        refine w_icmp (pt := 57) (pf := 34) (o194_19 hB) (by decide) rfl (fun e => ?_) (fun e => ?_)
        · have f846 : ((h 194 (144 + (3 * b))) ≠ ((c : Nat) : Int)) := e
          refine w_pl (pc' := 58) (lv' := [(5, (0, ((b : Nat) : Int))), (4, (0, (dM h ((c : Nat) : Int) k b))), (0, (2, ((193 : Nat) : Int))), (1, (0, ((c : Nat) : Int))), (2, (0, (mo))), (3, (0, (k)))]) (st' := [(0, ((0 : Nat) : Int))]) (h' := h) (o194_34 hB) rfl ?_
          refine w_st (tg := 0) (j := 6) (len := 2) (pc' := 60) (lv' := [(6, (0, ((0 : Nat) : Int))), (5, (0, ((b : Nat) : Int))), (4, (0, (dM h ((c : Nat) : Int) k b))), (0, (2, ((193 : Nat) : Int))), (1, (0, ((c : Nat) : Int))), (2, (0, (mo))), (3, (0, (k)))]) (o194_35 hB) rfl rfl ml194 (by decide) rfl ?_
          refine w_pl (pc' := 62) (lv' := [(6, (0, ((0 : Nat) : Int))), (5, (0, ((b : Nat) : Int))), (4, (0, (dM h ((c : Nat) : Int) k b))), (0, (2, ((193 : Nat) : Int))), (1, (0, ((c : Nat) : Int))), (2, (0, (mo))), (3, (0, (k)))]) (st' := [(0, ((0 : Nat) : Int))]) (h' := h) (o194_36 hB) rfl ?_
          refine w_ifc (pt := 92) (pf := 65) (o194_37 hB) (by decide) rfl (fun e => ?_) (fun e => ?_)
          · have f847 : (((0 : Nat) : Int) = (0)) := e
            refine w_pl (pc' := 94) (lv' := [(6, (0, ((0 : Nat) : Int))), (5, (0, ((b : Nat) : Int))), (4, (0, (dM h ((c : Nat) : Int) k b))), (0, (2, ((193 : Nat) : Int))), (1, (0, ((c : Nat) : Int))), (2, (0, (mo))), (3, (0, (k)))]) (st' := [(0, (dM h ((c : Nat) : Int) k b))]) (h' := h) (o194_54 hB) rfl ?_
            refine w_st (tg := 0) (j := 4) (len := 2) (pc' := 96) (lv' := [(4, (0, (dM h ((c : Nat) : Int) k b))), (6, (0, ((0 : Nat) : Int))), (5, (0, ((b : Nat) : Int))), (0, (2, ((193 : Nat) : Int))), (1, (0, ((c : Nat) : Int))), (2, (0, (mo))), (3, (0, (k)))]) (o194_55 hB) rfl rfl ml194 (by decide) rfl ?_
            refine w_iinc (x := ((b : Nat) : Int)) (z := (((b + 1) : Nat) : Int)) (pc' := 99) (lv' := [(5, (0, (((b + 1) : Nat) : Int))), (4, (0, (dM h ((c : Nat) : Int) k b))), (6, (0, ((0 : Nat) : Int))), (0, (2, ((193 : Nat) : Int))), (1, (0, ((c : Nat) : Int))), (2, (0, (mo))), (3, (0, (k)))]) (o194_56 hB) rfl rfl ml194 (by decide) (w32_e (by omega) (by omega)) rfl ?_
            refine w_goto (pt := 6) (o194_57 hB) (by decide) ?_
            refine w_sub (lv' := [(5, (0, (((b + 1) : Nat) : Int))), (4, (0, (dM h ((c : Nat) : Int) k b))), (0, (2, ((193 : Nat) : Int))), (1, (0, ((c : Nat) : Int))), (2, (0, (mo))), (3, (0, (k)))]) (List.forall_mem_cons.mpr ⟨(List.Mem.head _), (List.forall_mem_cons.mpr ⟨(List.Mem.tail _ (List.Mem.head _)), (List.forall_mem_cons.mpr ⟨(List.Mem.tail _ (List.Mem.tail _ (List.Mem.tail _ (List.Mem.head _)))), (List.forall_mem_cons.mpr ⟨(List.Mem.tail _ (List.Mem.tail _ (List.Mem.tail _ (List.Mem.tail _ (List.Mem.head _))))), (List.forall_mem_cons.mpr ⟨(List.Mem.tail _ (List.Mem.tail _ (List.Mem.tail _ (List.Mem.tail _ (List.Mem.tail _ (List.Mem.head _)))))), (List.forall_mem_cons.mpr ⟨(List.Mem.tail _ (List.Mem.tail _ (List.Mem.tail _ (List.Mem.tail _ (List.Mem.tail _ (List.Mem.tail _ (List.Mem.head _))))))), (fun _ hx => by cases hx)⟩)⟩)⟩)⟩)⟩)⟩) ?_
            have e1 : (dM h ((c : Nat) : Int) k b) = dM h ((c : Nat) : Int) k (b + 1) := by
              simp only [dM]
              rw [if_neg (by omega)]
            rw [e1]
            exact ih (b + 1) (by omega)
          · have f848 : ¬ (((0 : Nat) : Int) = (0)) := e
            exfalso; omega
        · have f849 : ¬ ((h 194 (144 + (3 * b))) ≠ ((c : Nat) : Int)) := e
          refine w_pl (pc' := 35) (lv' := [(5, (0, ((b : Nat) : Int))), (4, (0, (dM h ((c : Nat) : Int) k b))), (0, (2, ((193 : Nat) : Int))), (1, (0, ((c : Nat) : Int))), (2, (0, (mo))), (3, (0, (k)))]) (st' := [(2, ((193 : Nat) : Int))]) (h' := h) (o194_20 hB) rfl ?_
          refine w_getf (A := 193) (t := 2) (z := ((194 : Nat) : Int)) (pc' := 38) (o194_21 hB) rfl (by decide +kernel) (hR (193, 0, 194) (by decide)) ?_
          refine w_pl (pc' := 41) (lv' := [(5, (0, ((b : Nat) : Int))), (4, (0, (dM h ((c : Nat) : Int) k b))), (0, (2, ((193 : Nat) : Int))), (1, (0, ((c : Nat) : Int))), (2, (0, (mo))), (3, (0, (k)))]) (st' := [(0, ((144 : Nat) : Int)), (2, ((194 : Nat) : Int))]) (h' := h) (o194_22 hB) rfl ?_
          refine w_pl (pc' := 42) (lv' := [(5, (0, ((b : Nat) : Int))), (4, (0, (dM h ((c : Nat) : Int) k b))), (0, (2, ((193 : Nat) : Int))), (1, (0, ((c : Nat) : Int))), (2, (0, (mo))), (3, (0, (k)))]) (st' := [(0, ((3 : Nat) : Int)), (0, ((144 : Nat) : Int)), (2, ((194 : Nat) : Int))]) (h' := h) (o194_23 hB) rfl ?_
          refine w_pl (pc' := 44) (lv' := [(5, (0, ((b : Nat) : Int))), (4, (0, (dM h ((c : Nat) : Int) k b))), (0, (2, ((193 : Nat) : Int))), (1, (0, ((c : Nat) : Int))), (2, (0, (mo))), (3, (0, (k)))]) (st' := [(0, ((b : Nat) : Int)), (0, ((3 : Nat) : Int)), (0, ((144 : Nat) : Int)), (2, ((194 : Nat) : Int))]) (h' := h) (o194_24 hB) rfl ?_
          refine w_imul (z := (((3 * b) : Nat) : Int)) (pc' := 45) (o194_25 hB) rfl (w32_e (by omega) (by omega)) ?_
          refine w_iadd (z := (((144 + (3 * b)) : Nat) : Int)) (pc' := 46) (o194_26 hB) rfl (w32_e (by omega) (by omega)) ?_
          refine w_pl (pc' := 47) (lv' := [(5, (0, ((b : Nat) : Int))), (4, (0, (dM h ((c : Nat) : Int) k b))), (0, (2, ((193 : Nat) : Int))), (1, (0, ((c : Nat) : Int))), (2, (0, (mo))), (3, (0, (k)))]) (st' := [(0, ((2 : Nat) : Int)), (0, (((144 + (3 * b)) : Nat) : Int)), (2, ((194 : Nat) : Int))]) (h' := h) (o194_27 hB) rfl ?_
          refine w_iadd (z := ((((144 + (3 * b)) + 2) : Nat) : Int)) (pc' := 48) (o194_28 hB) rfl (w32_e (by omega) (by omega)) ?_
          have f850 := ty_194_s146 ht (j := ((144 + (3 * b)) + 2)) (r := b) (by omega) (by omega)
          refine w_iald (A := 194) (i := ((144 + (3 * b)) + 2)) (n := 1984) (z := (h 194 ((144 + (3 * b)) + 2))) (pc' := 49) (o194_29 hB) rfl (by decide +kernel) (by omega) rfl ?_
          refine w_pl (pc' := 50) (lv' := [(5, (0, ((b : Nat) : Int))), (4, (0, (dM h ((c : Nat) : Int) k b))), (0, (2, ((193 : Nat) : Int))), (1, (0, ((c : Nat) : Int))), (2, (0, (mo))), (3, (0, (k)))]) (st' := [(0, (k)), (0, (h 194 ((144 + (3 * b)) + 2)))]) (h' := h) (o194_30 hB) rfl ?_
          refine w_icmp (pt := 57) (pf := 53) (o194_31 hB) (by decide) rfl (fun e => ?_) (fun e => ?_)
          · have f851 : ((k) < (h 194 ((144 + (3 * b)) + 2))) := e
            refine w_pl (pc' := 58) (lv' := [(5, (0, ((b : Nat) : Int))), (4, (0, (dM h ((c : Nat) : Int) k b))), (0, (2, ((193 : Nat) : Int))), (1, (0, ((c : Nat) : Int))), (2, (0, (mo))), (3, (0, (k)))]) (st' := [(0, ((0 : Nat) : Int))]) (h' := h) (o194_34 hB) rfl ?_
            refine w_st (tg := 0) (j := 6) (len := 2) (pc' := 60) (lv' := [(6, (0, ((0 : Nat) : Int))), (5, (0, ((b : Nat) : Int))), (4, (0, (dM h ((c : Nat) : Int) k b))), (0, (2, ((193 : Nat) : Int))), (1, (0, ((c : Nat) : Int))), (2, (0, (mo))), (3, (0, (k)))]) (o194_35 hB) rfl rfl ml194 (by decide) rfl ?_
            refine w_pl (pc' := 62) (lv' := [(6, (0, ((0 : Nat) : Int))), (5, (0, ((b : Nat) : Int))), (4, (0, (dM h ((c : Nat) : Int) k b))), (0, (2, ((193 : Nat) : Int))), (1, (0, ((c : Nat) : Int))), (2, (0, (mo))), (3, (0, (k)))]) (st' := [(0, ((0 : Nat) : Int))]) (h' := h) (o194_36 hB) rfl ?_
            refine w_ifc (pt := 92) (pf := 65) (o194_37 hB) (by decide) rfl (fun e => ?_) (fun e => ?_)
            · have f852 : (((0 : Nat) : Int) = (0)) := e
              refine w_pl (pc' := 94) (lv' := [(6, (0, ((0 : Nat) : Int))), (5, (0, ((b : Nat) : Int))), (4, (0, (dM h ((c : Nat) : Int) k b))), (0, (2, ((193 : Nat) : Int))), (1, (0, ((c : Nat) : Int))), (2, (0, (mo))), (3, (0, (k)))]) (st' := [(0, (dM h ((c : Nat) : Int) k b))]) (h' := h) (o194_54 hB) rfl ?_
              refine w_st (tg := 0) (j := 4) (len := 2) (pc' := 96) (lv' := [(4, (0, (dM h ((c : Nat) : Int) k b))), (6, (0, ((0 : Nat) : Int))), (5, (0, ((b : Nat) : Int))), (0, (2, ((193 : Nat) : Int))), (1, (0, ((c : Nat) : Int))), (2, (0, (mo))), (3, (0, (k)))]) (o194_55 hB) rfl rfl ml194 (by decide) rfl ?_
              refine w_iinc (x := ((b : Nat) : Int)) (z := (((b + 1) : Nat) : Int)) (pc' := 99) (lv' := [(5, (0, (((b + 1) : Nat) : Int))), (4, (0, (dM h ((c : Nat) : Int) k b))), (6, (0, ((0 : Nat) : Int))), (0, (2, ((193 : Nat) : Int))), (1, (0, ((c : Nat) : Int))), (2, (0, (mo))), (3, (0, (k)))]) (o194_56 hB) rfl rfl ml194 (by decide) (w32_e (by omega) (by omega)) rfl ?_
              refine w_goto (pt := 6) (o194_57 hB) (by decide) ?_
              refine w_sub (lv' := [(5, (0, (((b + 1) : Nat) : Int))), (4, (0, (dM h ((c : Nat) : Int) k b))), (0, (2, ((193 : Nat) : Int))), (1, (0, ((c : Nat) : Int))), (2, (0, (mo))), (3, (0, (k)))]) (List.forall_mem_cons.mpr ⟨(List.Mem.head _), (List.forall_mem_cons.mpr ⟨(List.Mem.tail _ (List.Mem.head _)), (List.forall_mem_cons.mpr ⟨(List.Mem.tail _ (List.Mem.tail _ (List.Mem.tail _ (List.Mem.head _)))), (List.forall_mem_cons.mpr ⟨(List.Mem.tail _ (List.Mem.tail _ (List.Mem.tail _ (List.Mem.tail _ (List.Mem.head _))))), (List.forall_mem_cons.mpr ⟨(List.Mem.tail _ (List.Mem.tail _ (List.Mem.tail _ (List.Mem.tail _ (List.Mem.tail _ (List.Mem.head _)))))), (List.forall_mem_cons.mpr ⟨(List.Mem.tail _ (List.Mem.tail _ (List.Mem.tail _ (List.Mem.tail _ (List.Mem.tail _ (List.Mem.tail _ (List.Mem.head _))))))), (fun _ hx => by cases hx)⟩)⟩)⟩)⟩)⟩)⟩) ?_
              have e1 : (dM h ((c : Nat) : Int) k b) = dM h ((c : Nat) : Int) k (b + 1) := by
                simp only [dM]
                rw [if_neg (by omega)]
              rw [e1]
              exact ih (b + 1) (by omega)
            · have f853 : ¬ (((0 : Nat) : Int) = (0)) := e
              exfalso; omega
          · have f854 : ¬ ((k) < (h 194 ((144 + (3 * b)) + 2))) := e
            refine w_pl (pc' := 54) (lv' := [(5, (0, ((b : Nat) : Int))), (4, (0, (dM h ((c : Nat) : Int) k b))), (0, (2, ((193 : Nat) : Int))), (1, (0, ((c : Nat) : Int))), (2, (0, (mo))), (3, (0, (k)))]) (st' := [(0, ((1 : Nat) : Int))]) (h' := h) (o194_32 hB) rfl ?_
            refine w_goto (pt := 58) (o194_33 hB) (by decide) ?_
            refine w_st (tg := 0) (j := 6) (len := 2) (pc' := 60) (lv' := [(6, (0, ((1 : Nat) : Int))), (5, (0, ((b : Nat) : Int))), (4, (0, (dM h ((c : Nat) : Int) k b))), (0, (2, ((193 : Nat) : Int))), (1, (0, ((c : Nat) : Int))), (2, (0, (mo))), (3, (0, (k)))]) (o194_35 hB) rfl rfl ml194 (by decide) rfl ?_
            refine w_pl (pc' := 62) (lv' := [(6, (0, ((1 : Nat) : Int))), (5, (0, ((b : Nat) : Int))), (4, (0, (dM h ((c : Nat) : Int) k b))), (0, (2, ((193 : Nat) : Int))), (1, (0, ((c : Nat) : Int))), (2, (0, (mo))), (3, (0, (k)))]) (st' := [(0, ((1 : Nat) : Int))]) (h' := h) (o194_36 hB) rfl ?_
            refine w_ifc (pt := 92) (pf := 65) (o194_37 hB) (by decide) rfl (fun e => ?_) (fun e => ?_)
            · have f855 : (((1 : Nat) : Int) = (0)) := e
              exfalso; omega
            · have f856 : ¬ (((1 : Nat) : Int) = (0)) := e
              refine w_pl (pc' := 66) (lv' := [(6, (0, ((1 : Nat) : Int))), (5, (0, ((b : Nat) : Int))), (4, (0, (dM h ((c : Nat) : Int) k b))), (0, (2, ((193 : Nat) : Int))), (1, (0, ((c : Nat) : Int))), (2, (0, (mo))), (3, (0, (k)))]) (st' := [(2, ((193 : Nat) : Int))]) (h' := h) (o194_38 hB) rfl ?_
              refine w_getf (A := 193) (t := 2) (z := ((194 : Nat) : Int)) (pc' := 69) (o194_39 hB) rfl (by decide +kernel) (hR (193, 0, 194) (by decide)) ?_
              refine w_pl (pc' := 72) (lv' := [(6, (0, ((1 : Nat) : Int))), (5, (0, ((b : Nat) : Int))), (4, (0, (dM h ((c : Nat) : Int) k b))), (0, (2, ((193 : Nat) : Int))), (1, (0, ((c : Nat) : Int))), (2, (0, (mo))), (3, (0, (k)))]) (st' := [(0, ((144 : Nat) : Int)), (2, ((194 : Nat) : Int))]) (h' := h) (o194_40 hB) rfl ?_
              refine w_pl (pc' := 73) (lv' := [(6, (0, ((1 : Nat) : Int))), (5, (0, ((b : Nat) : Int))), (4, (0, (dM h ((c : Nat) : Int) k b))), (0, (2, ((193 : Nat) : Int))), (1, (0, ((c : Nat) : Int))), (2, (0, (mo))), (3, (0, (k)))]) (st' := [(0, ((3 : Nat) : Int)), (0, ((144 : Nat) : Int)), (2, ((194 : Nat) : Int))]) (h' := h) (o194_41 hB) rfl ?_
              refine w_pl (pc' := 75) (lv' := [(6, (0, ((1 : Nat) : Int))), (5, (0, ((b : Nat) : Int))), (4, (0, (dM h ((c : Nat) : Int) k b))), (0, (2, ((193 : Nat) : Int))), (1, (0, ((c : Nat) : Int))), (2, (0, (mo))), (3, (0, (k)))]) (st' := [(0, ((b : Nat) : Int)), (0, ((3 : Nat) : Int)), (0, ((144 : Nat) : Int)), (2, ((194 : Nat) : Int))]) (h' := h) (o194_42 hB) rfl ?_
              refine w_imul (z := (((3 * b) : Nat) : Int)) (pc' := 76) (o194_43 hB) rfl (w32_e (by omega) (by omega)) ?_
              refine w_iadd (z := (((144 + (3 * b)) : Nat) : Int)) (pc' := 77) (o194_44 hB) rfl (w32_e (by omega) (by omega)) ?_
              refine w_pl (pc' := 78) (lv' := [(6, (0, ((1 : Nat) : Int))), (5, (0, ((b : Nat) : Int))), (4, (0, (dM h ((c : Nat) : Int) k b))), (0, (2, ((193 : Nat) : Int))), (1, (0, ((c : Nat) : Int))), (2, (0, (mo))), (3, (0, (k)))]) (st' := [(0, ((1 : Nat) : Int)), (0, (((144 + (3 * b)) : Nat) : Int)), (2, ((194 : Nat) : Int))]) (h' := h) (o194_45 hB) rfl ?_
              refine w_iadd (z := ((((144 + (3 * b)) + 1) : Nat) : Int)) (pc' := 79) (o194_46 hB) rfl (w32_e (by omega) (by omega)) ?_
              have f857 := ty_194_s145 ht (j := ((144 + (3 * b)) + 1)) (r := b) (by omega) (by omega)
              refine w_iald (A := 194) (i := ((144 + (3 * b)) + 1)) (n := 1984) (z := (h 194 ((144 + (3 * b)) + 1))) (pc' := 80) (o194_47 hB) rfl (by decide +kernel) (by omega) rfl ?_
              refine w_pl (pc' := 81) (lv' := [(6, (0, ((1 : Nat) : Int))), (5, (0, ((b : Nat) : Int))), (4, (0, (dM h ((c : Nat) : Int) k b))), (0, (2, ((193 : Nat) : Int))), (1, (0, ((c : Nat) : Int))), (2, (0, (mo))), (3, (0, (k)))]) (st' := [(0, ((1 : Nat) : Int)), (0, (h 194 ((144 + (3 * b)) + 1)))]) (h' := h) (o194_48 hB) rfl ?_
              refine w_icmp (pt := 88) (pf := 84) (o194_49 hB) (by decide) rfl (fun e => ?_) (fun e => ?_)
              · have f858 : ((h 194 ((144 + (3 * b)) + 1)) ≠ ((1 : Nat) : Int)) := e
                refine w_pl (pc' := 89) (lv' := [(6, (0, ((1 : Nat) : Int))), (5, (0, ((b : Nat) : Int))), (4, (0, (dM h ((c : Nat) : Int) k b))), (0, (2, ((193 : Nat) : Int))), (1, (0, ((c : Nat) : Int))), (2, (0, (mo))), (3, (0, (k)))]) (st' := [(0, ((0 : Nat) : Int))]) (h' := h) (o194_52 hB) rfl ?_
                refine w_goto (pt := 94) (o194_53 hB) (by decide) ?_
                refine w_st (tg := 0) (j := 4) (len := 2) (pc' := 96) (lv' := [(4, (0, ((0 : Nat) : Int))), (6, (0, ((1 : Nat) : Int))), (5, (0, ((b : Nat) : Int))), (0, (2, ((193 : Nat) : Int))), (1, (0, ((c : Nat) : Int))), (2, (0, (mo))), (3, (0, (k)))]) (o194_55 hB) rfl rfl ml194 (by decide) rfl ?_
                refine w_iinc (x := ((b : Nat) : Int)) (z := (((b + 1) : Nat) : Int)) (pc' := 99) (lv' := [(5, (0, (((b + 1) : Nat) : Int))), (4, (0, ((0 : Nat) : Int))), (6, (0, ((1 : Nat) : Int))), (0, (2, ((193 : Nat) : Int))), (1, (0, ((c : Nat) : Int))), (2, (0, (mo))), (3, (0, (k)))]) (o194_56 hB) rfl rfl ml194 (by decide) (w32_e (by omega) (by omega)) rfl ?_
                refine w_goto (pt := 6) (o194_57 hB) (by decide) ?_
                refine w_sub (lv' := [(5, (0, (((b + 1) : Nat) : Int))), (4, (0, ((0 : Nat) : Int))), (0, (2, ((193 : Nat) : Int))), (1, (0, ((c : Nat) : Int))), (2, (0, (mo))), (3, (0, (k)))]) (List.forall_mem_cons.mpr ⟨(List.Mem.head _), (List.forall_mem_cons.mpr ⟨(List.Mem.tail _ (List.Mem.head _)), (List.forall_mem_cons.mpr ⟨(List.Mem.tail _ (List.Mem.tail _ (List.Mem.tail _ (List.Mem.head _)))), (List.forall_mem_cons.mpr ⟨(List.Mem.tail _ (List.Mem.tail _ (List.Mem.tail _ (List.Mem.tail _ (List.Mem.head _))))), (List.forall_mem_cons.mpr ⟨(List.Mem.tail _ (List.Mem.tail _ (List.Mem.tail _ (List.Mem.tail _ (List.Mem.tail _ (List.Mem.head _)))))), (List.forall_mem_cons.mpr ⟨(List.Mem.tail _ (List.Mem.tail _ (List.Mem.tail _ (List.Mem.tail _ (List.Mem.tail _ (List.Mem.tail _ (List.Mem.head _))))))), (fun _ hx => by cases hx)⟩)⟩)⟩)⟩)⟩)⟩) ?_
                have e1 : ((0 : Nat) : Int) = dM h ((c : Nat) : Int) k (b + 1) := by
                  simp only [dM]
                  rw [if_pos ⟨by omega, by omega⟩, if_neg (by omega)]
                  rfl
                rw [e1]
                exact ih (b + 1) (by omega)
              · have f859 : ¬ ((h 194 ((144 + (3 * b)) + 1)) ≠ ((1 : Nat) : Int)) := e
                refine w_pl (pc' := 85) (lv' := [(6, (0, ((1 : Nat) : Int))), (5, (0, ((b : Nat) : Int))), (4, (0, (dM h ((c : Nat) : Int) k b))), (0, (2, ((193 : Nat) : Int))), (1, (0, ((c : Nat) : Int))), (2, (0, (mo))), (3, (0, (k)))]) (st' := [(0, ((1 : Nat) : Int))]) (h' := h) (o194_50 hB) rfl ?_
                refine w_goto (pt := 94) (o194_51 hB) (by decide) ?_
                refine w_st (tg := 0) (j := 4) (len := 2) (pc' := 96) (lv' := [(4, (0, ((1 : Nat) : Int))), (6, (0, ((1 : Nat) : Int))), (5, (0, ((b : Nat) : Int))), (0, (2, ((193 : Nat) : Int))), (1, (0, ((c : Nat) : Int))), (2, (0, (mo))), (3, (0, (k)))]) (o194_55 hB) rfl rfl ml194 (by decide) rfl ?_
                refine w_iinc (x := ((b : Nat) : Int)) (z := (((b + 1) : Nat) : Int)) (pc' := 99) (lv' := [(5, (0, (((b + 1) : Nat) : Int))), (4, (0, ((1 : Nat) : Int))), (6, (0, ((1 : Nat) : Int))), (0, (2, ((193 : Nat) : Int))), (1, (0, ((c : Nat) : Int))), (2, (0, (mo))), (3, (0, (k)))]) (o194_56 hB) rfl rfl ml194 (by decide) (w32_e (by omega) (by omega)) rfl ?_
                refine w_goto (pt := 6) (o194_57 hB) (by decide) ?_
                refine w_sub (lv' := [(5, (0, (((b + 1) : Nat) : Int))), (4, (0, ((1 : Nat) : Int))), (0, (2, ((193 : Nat) : Int))), (1, (0, ((c : Nat) : Int))), (2, (0, (mo))), (3, (0, (k)))]) (List.forall_mem_cons.mpr ⟨(List.Mem.head _), (List.forall_mem_cons.mpr ⟨(List.Mem.tail _ (List.Mem.head _)), (List.forall_mem_cons.mpr ⟨(List.Mem.tail _ (List.Mem.tail _ (List.Mem.tail _ (List.Mem.head _)))), (List.forall_mem_cons.mpr ⟨(List.Mem.tail _ (List.Mem.tail _ (List.Mem.tail _ (List.Mem.tail _ (List.Mem.head _))))), (List.forall_mem_cons.mpr ⟨(List.Mem.tail _ (List.Mem.tail _ (List.Mem.tail _ (List.Mem.tail _ (List.Mem.tail _ (List.Mem.head _)))))), (List.forall_mem_cons.mpr ⟨(List.Mem.tail _ (List.Mem.tail _ (List.Mem.tail _ (List.Mem.tail _ (List.Mem.tail _ (List.Mem.tail _ (List.Mem.head _))))))), (fun _ hx => by cases hx)⟩)⟩)⟩)⟩)⟩)⟩) ?_
                have e1 : ((1 : Nat) : Int) = dM h ((c : Nat) : Int) k (b + 1) := by
                  simp only [dM]
                  rw [if_pos ⟨by omega, by omega⟩, if_pos (by omega)]
                  rfl
                rw [e1]
                exact ih (b + 1) (by omega)
  refine mh_go hB mg194 ml194 (Nat.le_of_ble_eq_true rfl) ?_
  show HW g l (d + 1) 194 _ _ 0 [(0, (2, ((193 : Nat) : Int))), (1, (0, ((c : Nat) : Int))), (2, (0, (mo))), (3, (0, (k)))] [] h
  refine w_pl (pc' := 1) (lv' := [(0, (2, ((193 : Nat) : Int))), (1, (0, ((c : Nat) : Int))), (2, (0, (mo))), (3, (0, (k)))]) (st' := [(0, ((0 : Nat) : Int))]) (h' := h) (o194_0 hB) rfl ?_
  refine w_st (tg := 0) (j := 4) (len := 2) (pc' := 3) (lv' := [(4, (0, ((0 : Nat) : Int))), (0, (2, ((193 : Nat) : Int))), (1, (0, ((c : Nat) : Int))), (2, (0, (mo))), (3, (0, (k)))]) (o194_1 hB) rfl rfl ml194 (by decide) rfl ?_
  refine w_pl (pc' := 4) (lv' := [(4, (0, ((0 : Nat) : Int))), (0, (2, ((193 : Nat) : Int))), (1, (0, ((c : Nat) : Int))), (2, (0, (mo))), (3, (0, (k)))]) (st' := [(0, ((0 : Nat) : Int))]) (h' := h) (o194_2 hB) rfl ?_
  refine w_st (tg := 0) (j := 5) (len := 2) (pc' := 6) (lv' := [(5, (0, ((0 : Nat) : Int))), (4, (0, ((0 : Nat) : Int))), (0, (2, ((193 : Nat) : Int))), (1, (0, ((c : Nat) : Int))), (2, (0, (mo))), (3, (0, (k)))]) (o194_3 hB) rfl rfl ml194 (by decide) rfl ?_
  refine w_sub (lv' := [(5, (0, ((0 : Nat) : Int))), (4, (0, ((0 : Nat) : Int))), (0, (2, ((193 : Nat) : Int))), (1, (0, ((c : Nat) : Int))), (2, (0, (mo))), (3, (0, (k)))]) (List.forall_mem_cons.mpr ⟨(List.Mem.head _), (List.forall_mem_cons.mpr ⟨(List.Mem.tail _ (List.Mem.head _)), (List.forall_mem_cons.mpr ⟨(List.Mem.tail _ (List.Mem.tail _ (List.Mem.head _))), (List.forall_mem_cons.mpr ⟨(List.Mem.tail _ (List.Mem.tail _ (List.Mem.tail _ (List.Mem.head _)))), (List.forall_mem_cons.mpr ⟨(List.Mem.tail _ (List.Mem.tail _ (List.Mem.tail _ (List.Mem.tail _ (List.Mem.head _))))), (List.forall_mem_cons.mpr ⟨(List.Mem.tail _ (List.Mem.tail _ (List.Mem.tail _ (List.Mem.tail _ (List.Mem.tail _ (List.Mem.head _)))))), (fun _ hx => by cases hx)⟩)⟩)⟩)⟩)⟩)⟩) ?_
  exact loop cw 0 (by omega)
theorem m_aliveB (hB : BytesOK) {g : bG} {l : Launch} {d : Nat} {Q : bQ} {h : bH} {x mo k : Int} (ht : TH h) (z_x : in32 x) (z_mo : in32 mo) (z_k : in32 k) {nc : Nat} (hnc : h 2 1 = (nc : Int)) (lnc : nc ≤ 16) {cw : Nat} (hcw : h 2 11 = (cw : Int)) (lcw : cw ≤ 20)  (a0 : ¬ ((0 ≤ x ∧ x < (nc : Int)) ∧ (0 ≤ mo ∧ mo ≤ 239) ∧ 0 ≤ k ∧ k ≤ 239) → Q (some (0, (-1))) h) (a1 : ((0 ≤ x ∧ x < (nc : Int)) ∧ (0 ≤ mo ∧ mo ≤ 239) ∧ 0 ≤ k ∧ k ≤ 239) ∧ (h 6 x.toNat ≤ mo ∧ mo ≤ h 7 x.toNat) ∧ dA h ((x.toNat : Nat) : Int) k cw = 0 → Q (some (0, 1)) h) (a2 : ((0 ≤ x ∧ x < (nc : Int)) ∧ (0 ≤ mo ∧ mo ≤ 239) ∧ 0 ≤ k ∧ k ≤ 239) ∧ ¬ ((h 6 x.toNat ≤ mo ∧ mo ≤ h 7 x.toNat) ∧ dA h ((x.toNat : Nat) : Int) k cw = 0) → Q (some (0, 0)) h) : MH g l (d + 1) 126 212 212 [(2, ((0 : Nat) : Int)), (0, (x)), (0, (mo)), (0, (k))] h Q := by
  have hR := ht.r
  have z0_x := z_x
  have z0_mo := z_mo
  have z0_k := z_k
  unfold in32 at z0_x
  unfold in32 at z0_mo
  unfold in32 at z0_k
  rcases (by omega : ¬ (0 ≤ x ∧ x < (nc : Int)) ∨ (0 ≤ x ∧ x < (nc : Int))) with gg | gg
  · skip
    refine mh_go hB mg126 ml126 (Nat.le_of_ble_eq_true rfl) ?_
    show HW g l (d + 1) 126 _ _ 0 [(0, (2, ((0 : Nat) : Int))), (1, (0, (x))), (2, (0, (mo))), (3, (0, (k)))] [] h
    refine w_pl (pc' := 1) (lv' := [(0, (2, ((0 : Nat) : Int))), (1, (0, (x))), (2, (0, (mo))), (3, (0, (k)))]) (st' := [(2, ((0 : Nat) : Int))]) (h' := h) (o126_0 hB) rfl ?_
    refine w_getf (A := 0) (t := 2) (z := ((1 : Nat) : Int)) (pc' := 4) (o126_1 hB) rfl (by decide +kernel) (hR (0, 0, 1) (by decide)) ?_
    refine w_getf (A := 1) (t := 2) (z := ((2 : Nat) : Int)) (pc' := 7) (o126_2 hB) rfl (by decide +kernel) (hR (1, 0, 2) (by decide)) ?_
    refine w_pl (pc' := 8) (lv' := [(0, (2, ((0 : Nat) : Int))), (1, (0, (x))), (2, (0, (mo))), (3, (0, (k)))]) (st' := [(0, (x)), (2, ((2 : Nat) : Int))]) (h' := h) (o126_3 hB) rfl ?_
    refine w_callV (A := 2) (as := [(0, (x))]) (rest := []) (n := 1) (pc' := 11) 3 hB (o126_4 hB) rfl (by decide +kernel) rfl rfl (Nat.le_of_ble_eq_true rfl) (m_hasClaim hB ht hnc lnc (fun f888 => ?_) (fun f889 => ?_))
    · exfalso; omega
    · show HW g l _ 126 _ _ 11 [(0, (2, ((0 : Nat) : Int))), (1, (0, (x))), (2, (0, (mo))), (3, (0, (k)))] [(0, ((0 : Nat) : Int))] h
      refine w_ifc (pt := 28) (pf := 14) (o126_5 hB) (by decide) rfl (fun e => ?_) (fun e => ?_)
      · have f890 : (((0 : Nat) : Int) = (0)) := e
        refine w_pl (pc' := 29) (lv' := [(0, (2, ((0 : Nat) : Int))), (1, (0, (x))), (2, (0, (mo))), (3, (0, (k)))]) (st' := [(0, (-1))]) (h' := h) (o126_12 hB) rfl ?_
        exact w_iret (o126_13 hB) mr126 (by unfold in32; omega) (a0 (by omega))
      · have f891 : ¬ (((0 : Nat) : Int) = (0)) := e
        exfalso; omega
  · obtain ⟨c', e_c⟩ : ∃ q : Nat, x = q := ⟨x.toNat, by omega⟩
    subst e_c
    simp only [Int.toNat_natCast] at a1 a2
    refine mh_go hB mg126 ml126 (Nat.le_of_ble_eq_true rfl) ?_
    show HW g l (d + 1) 126 _ _ 0 [(0, (2, ((0 : Nat) : Int))), (1, (0, ((c' : Nat) : Int))), (2, (0, (mo))), (3, (0, (k)))] [] h
    refine w_pl (pc' := 1) (lv' := [(0, (2, ((0 : Nat) : Int))), (1, (0, ((c' : Nat) : Int))), (2, (0, (mo))), (3, (0, (k)))]) (st' := [(2, ((0 : Nat) : Int))]) (h' := h) (o126_0 hB) rfl ?_
    refine w_getf (A := 0) (t := 2) (z := ((1 : Nat) : Int)) (pc' := 4) (o126_1 hB) rfl (by decide +kernel) (hR (0, 0, 1) (by decide)) ?_
    refine w_getf (A := 1) (t := 2) (z := ((2 : Nat) : Int)) (pc' := 7) (o126_2 hB) rfl (by decide +kernel) (hR (1, 0, 2) (by decide)) ?_
    refine w_pl (pc' := 8) (lv' := [(0, (2, ((0 : Nat) : Int))), (1, (0, ((c' : Nat) : Int))), (2, (0, (mo))), (3, (0, (k)))]) (st' := [(0, ((c' : Nat) : Int)), (2, ((2 : Nat) : Int))]) (h' := h) (o126_3 hB) rfl ?_
    refine w_callV (A := 2) (as := [(0, ((c' : Nat) : Int))]) (rest := []) (n := 1) (pc' := 11) 3 hB (o126_4 hB) rfl (by decide +kernel) rfl rfl (Nat.le_of_ble_eq_true rfl) (m_hasClaim hB ht hnc lnc (fun f892 => ?_) (fun f893 => ?_))
    · show HW g l _ 126 _ _ 11 [(0, (2, ((0 : Nat) : Int))), (1, (0, ((c' : Nat) : Int))), (2, (0, (mo))), (3, (0, (k)))] [(0, ((1 : Nat) : Int))] h
      refine w_ifc (pt := 28) (pf := 14) (o126_5 hB) (by decide) rfl (fun e => ?_) (fun e => ?_)
      · have f894 : (((1 : Nat) : Int) = (0)) := e
        exfalso; omega
      · have f895 : ¬ (((1 : Nat) : Int) = (0)) := e
        refine w_pl (pc' := 15) (lv' := [(0, (2, ((0 : Nat) : Int))), (1, (0, ((c' : Nat) : Int))), (2, (0, (mo))), (3, (0, (k)))]) (st' := [(0, (mo))]) (h' := h) (o126_6 hB) rfl ?_
        refine w_callS (as := [(0, (mo))]) (rest := []) (n := 1) (pc' := 18) hB (o126_7 hB) rfl (by decide +kernel) rfl rfl (Nat.le_of_ble_eq_true rfl) (m_isMonthB hB (fun f896 => ?_) (fun f897 => ?_))
        · show HW g l _ 126 _ _ 18 [(0, (2, ((0 : Nat) : Int))), (1, (0, ((c' : Nat) : Int))), (2, (0, (mo))), (3, (0, (k)))] [(0, ((1 : Nat) : Int))] h
          refine w_ifc (pt := 28) (pf := 21) (o126_8 hB) (by decide) rfl (fun e => ?_) (fun e => ?_)
          · have f898 : (((1 : Nat) : Int) = (0)) := e
            exfalso; omega
          · have f899 : ¬ (((1 : Nat) : Int) = (0)) := e
            refine w_pl (pc' := 22) (lv' := [(0, (2, ((0 : Nat) : Int))), (1, (0, ((c' : Nat) : Int))), (2, (0, (mo))), (3, (0, (k)))]) (st' := [(0, (k))]) (h' := h) (o126_9 hB) rfl ?_
            refine w_callS (as := [(0, (k))]) (rest := []) (n := 1) (pc' := 25) hB (o126_10 hB) rfl (by decide +kernel) rfl rfl (Nat.le_of_ble_eq_true rfl) (m_isMonthB hB (fun f900 => ?_) (fun f901 => ?_))
            · show HW g l _ 126 _ _ 25 [(0, (2, ((0 : Nat) : Int))), (1, (0, ((c' : Nat) : Int))), (2, (0, (mo))), (3, (0, (k)))] [(0, ((1 : Nat) : Int))] h
              refine w_ifc (pt := 30) (pf := 28) (o126_11 hB) (by decide) rfl (fun e => ?_) (fun e => ?_)
              · have f902 : (((1 : Nat) : Int) ≠ (0)) := e
                refine w_pl (pc' := 31) (lv' := [(0, (2, ((0 : Nat) : Int))), (1, (0, ((c' : Nat) : Int))), (2, (0, (mo))), (3, (0, (k)))]) (st' := [(2, ((0 : Nat) : Int))]) (h' := h) (o126_14 hB) rfl ?_
                refine w_getf (A := 0) (t := 2) (z := ((1 : Nat) : Int)) (pc' := 34) (o126_15 hB) rfl (by decide +kernel) (hR (0, 0, 1) (by decide)) ?_
                refine w_getf (A := 1) (t := 2) (z := ((2 : Nat) : Int)) (pc' := 37) (o126_16 hB) rfl (by decide +kernel) (hR (1, 0, 2) (by decide)) ?_
                refine w_pl (pc' := 38) (lv' := [(0, (2, ((0 : Nat) : Int))), (1, (0, ((c' : Nat) : Int))), (2, (0, (mo))), (3, (0, (k)))]) (st' := [(0, ((c' : Nat) : Int)), (2, ((2 : Nat) : Int))]) (h' := h) (o126_17 hB) rfl ?_
                refine w_pl (pc' := 39) (lv' := [(0, (2, ((0 : Nat) : Int))), (1, (0, ((c' : Nat) : Int))), (2, (0, (mo))), (3, (0, (k)))]) (st' := [(0, (mo)), (0, ((c' : Nat) : Int)), (2, ((2 : Nat) : Int))]) (h' := h) (o126_18 hB) rfl ?_
                refine w_pl (pc' := 40) (lv' := [(0, (2, ((0 : Nat) : Int))), (1, (0, ((c' : Nat) : Int))), (2, (0, (mo))), (3, (0, (k)))]) (st' := [(0, (k)), (0, (mo)), (0, ((c' : Nat) : Int)), (2, ((2 : Nat) : Int))]) (h' := h) (o126_19 hB) rfl ?_
                refine w_callV (A := 2) (as := [(0, ((c' : Nat) : Int)), (0, (mo)), (0, (k))]) (rest := []) (n := 3) (pc' := 43) 3 hB (o126_20 hB) rfl (by decide +kernel) rfl rfl (Nat.le_of_ble_eq_true rfl) (m_livesAt hB ht hcw lcw hnc lnc (by omega) (fun f903 => ?_) (fun f904 => ?_))
                · show HW g l _ 126 _ _ 43 [(0, (2, ((0 : Nat) : Int))), (1, (0, ((c' : Nat) : Int))), (2, (0, (mo))), (3, (0, (k)))] [(0, ((1 : Nat) : Int))] h
                  refine w_ifc (pt := 50) (pf := 46) (o126_21 hB) (by decide) rfl (fun e => ?_) (fun e => ?_)
                  · have f905 : (((1 : Nat) : Int) = (0)) := e
                    exfalso; omega
                  · have f906 : ¬ (((1 : Nat) : Int) = (0)) := e
                    refine w_pl (pc' := 47) (lv' := [(0, (2, ((0 : Nat) : Int))), (1, (0, ((c' : Nat) : Int))), (2, (0, (mo))), (3, (0, (k)))]) (st' := [(0, ((1 : Nat) : Int))]) (h' := h) (o126_22 hB) rfl ?_
                    refine w_goto (pt := 51) (o126_23 hB) (by decide) ?_
                    exact w_iret (o126_25 hB) mr126 (by unfold in32; omega) (a1 (by omega))
                · show HW g l _ 126 _ _ 43 [(0, (2, ((0 : Nat) : Int))), (1, (0, ((c' : Nat) : Int))), (2, (0, (mo))), (3, (0, (k)))] [(0, ((0 : Nat) : Int))] h
                  refine w_ifc (pt := 50) (pf := 46) (o126_21 hB) (by decide) rfl (fun e => ?_) (fun e => ?_)
                  · have f907 : (((0 : Nat) : Int) = (0)) := e
                    refine w_pl (pc' := 51) (lv' := [(0, (2, ((0 : Nat) : Int))), (1, (0, ((c' : Nat) : Int))), (2, (0, (mo))), (3, (0, (k)))]) (st' := [(0, ((0 : Nat) : Int))]) (h' := h) (o126_24 hB) rfl ?_
                    exact w_iret (o126_25 hB) mr126 (by unfold in32; omega) (a2 (by omega))
                  · have f908 : ¬ (((0 : Nat) : Int) = (0)) := e
                    exfalso; omega
              · have f909 : ¬ (((1 : Nat) : Int) ≠ (0)) := e
                exfalso; omega
            · show HW g l _ 126 _ _ 25 [(0, (2, ((0 : Nat) : Int))), (1, (0, ((c' : Nat) : Int))), (2, (0, (mo))), (3, (0, (k)))] [(0, ((0 : Nat) : Int))] h
              refine w_ifc (pt := 30) (pf := 28) (o126_11 hB) (by decide) rfl (fun e => ?_) (fun e => ?_)
              · have f910 : (((0 : Nat) : Int) ≠ (0)) := e
                exfalso; omega
              · have f911 : ¬ (((0 : Nat) : Int) ≠ (0)) := e
                refine w_pl (pc' := 29) (lv' := [(0, (2, ((0 : Nat) : Int))), (1, (0, ((c' : Nat) : Int))), (2, (0, (mo))), (3, (0, (k)))]) (st' := [(0, (-1))]) (h' := h) (o126_12 hB) rfl ?_
                exact w_iret (o126_13 hB) mr126 (by unfold in32; omega) (a0 (by omega))
        · show HW g l _ 126 _ _ 18 [(0, (2, ((0 : Nat) : Int))), (1, (0, ((c' : Nat) : Int))), (2, (0, (mo))), (3, (0, (k)))] [(0, ((0 : Nat) : Int))] h
          refine w_ifc (pt := 28) (pf := 21) (o126_8 hB) (by decide) rfl (fun e => ?_) (fun e => ?_)
          · have f912 : (((0 : Nat) : Int) = (0)) := e
            refine w_pl (pc' := 29) (lv' := [(0, (2, ((0 : Nat) : Int))), (1, (0, ((c' : Nat) : Int))), (2, (0, (mo))), (3, (0, (k)))]) (st' := [(0, (-1))]) (h' := h) (o126_12 hB) rfl ?_
            exact w_iret (o126_13 hB) mr126 (by unfold in32; omega) (a0 (by omega))
          · have f913 : ¬ (((0 : Nat) : Int) = (0)) := e
            exfalso; omega
    · show HW g l _ 126 _ _ 11 [(0, (2, ((0 : Nat) : Int))), (1, (0, ((c' : Nat) : Int))), (2, (0, (mo))), (3, (0, (k)))] [(0, ((0 : Nat) : Int))] h
      refine w_ifc (pt := 28) (pf := 14) (o126_5 hB) (by decide) rfl (fun e => ?_) (fun e => ?_)
      · have f914 : (((0 : Nat) : Int) = (0)) := e
        refine w_pl (pc' := 29) (lv' := [(0, (2, ((0 : Nat) : Int))), (1, (0, ((c' : Nat) : Int))), (2, (0, (mo))), (3, (0, (k)))]) (st' := [(0, (-1))]) (h' := h) (o126_12 hB) rfl ?_
        exact w_iret (o126_13 hB) mr126 (by unfold in32; omega) (a0 (by omega))
      · have f915 : ¬ (((0 : Nat) : Int) = (0)) := e
        exfalso; omega
def s_aliveB (vs : List bV) (h : bH) (r : Option bV) (h' : bH) : Prop := TH h ∧ ∀ (x mo k : Int) (nc : Nat) (cw : Nat) , vs = [(2, ((0 : Nat) : Int)), (0, x), (0, mo), (0, k)] → h 2 1 = (nc : Int) → h 2 11 = (cw : Int) → ((¬ ((0 ≤ x ∧ x < (nc : Int)) ∧ (0 ≤ mo ∧ mo ≤ 239) ∧ 0 ≤ k ∧ k ≤ 239)) ∧ r = some (0, (-1)) ∧ h = h') ∨ ((((0 ≤ x ∧ x < (nc : Int)) ∧ (0 ≤ mo ∧ mo ≤ 239) ∧ 0 ≤ k ∧ k ≤ 239) ∧ (h 6 x.toNat ≤ mo ∧ mo ≤ h 7 x.toNat) ∧ dA h ((x.toNat : Nat) : Int) k cw = 0) ∧ r = some (0, 1) ∧ h = h') ∨ ((((0 ≤ x ∧ x < (nc : Int)) ∧ (0 ≤ mo ∧ mo ≤ 239) ∧ 0 ≤ k ∧ k ≤ 239) ∧ ¬ ((h 6 x.toNat ≤ mo ∧ mo ≤ h 7 x.toNat) ∧ dA h ((x.toNat : Nat) : Int) k cw = 0)) ∧ r = some (0, 0) ∧ h = h')
def w_aliveB : List (Nat × Nat × Nat) := []
def q_aliveB : aCt := cH 126 1 w_aliveB 3 0
theorem sk_aliveB (hB : BytesOK) (g : bG) (l : Launch) : SK g l gT q_aliveB s_aliveB := by
  intro d hd ρ h Q hcore hQ
  have hcore : core (PofW gT (some w_aliveB) false) (gsc g) h ρ h (List.replicate 3 r32, [], [], 212) := hcore
  have ht := hTH hcore
  have y0 := r32_0 hcore 0 (by decide)
  have y1 := r32_0 hcore 1 (by decide)
  have y2 := r32_0 hcore 2 (by decide)
  have y00 := y0
  unfold in32 at y00
  have y01 := y1
  unfold in32 at y01
  have y02 := y2
  unfold in32 at y02
  obtain ⟨nc, hnc, lnc⟩ := nat_to ht (a := 2) (j := 1) (n := 16) (by decide +kernel)
  obtain ⟨cw, hcw, lcw⟩ := nat_to ht (a := 2) (j := 11) (n := 20) (by decide +kernel)
  obtain ⟨d', rfl⟩ : ∃ d', d = d' + 1 := ⟨d - 1, by have : 1 ≤ d := hd; omega⟩
  rw [show evS ρ (ctA q_aliveB) = [(2, ((0 : Nat) : Int)), (0, ρ 0), (0, ρ 1), (0, ρ 2)] from evA3]
  refine m_aliveB (x := ρ 0) (mo := ρ 1) (k := ρ 2) hB ht y0 y1 y2 hnc lnc hcw lcw (fun hn => ?_) (fun hn => ?_) (fun hn => ?_)
  · refine hQ _ _ (hpost hcore (ht) (fun _ _ _ => rfl) (by unfold in32; omega)) ⟨ht, fun x mo k c_nc c_cw hv e_nc e_cw => ?_⟩
    have hv := (evA3 (ρ := ρ)).symm.trans hv
    obtain ⟨rfl, rfl, rfl⟩ := vsA3 hv
    obtain rfl : c_nc = nc := by have := e_nc.symm.trans hnc; omega
    obtain rfl : c_cw = cw := by have := e_cw.symm.trans hcw; omega
    exact Or.inl ⟨hn, rfl, rfl⟩
  · refine hQ _ _ (hpost hcore (ht) (fun _ _ _ => rfl) (by unfold in32; omega)) ⟨ht, fun x mo k c_nc c_cw hv e_nc e_cw => ?_⟩
    have hv := (evA3 (ρ := ρ)).symm.trans hv
    obtain ⟨rfl, rfl, rfl⟩ := vsA3 hv
    obtain rfl : c_nc = nc := by have := e_nc.symm.trans hnc; omega
    obtain rfl : c_cw = cw := by have := e_cw.symm.trans hcw; omega
    exact Or.inr (Or.inl ⟨hn, rfl, rfl⟩)
  · refine hQ _ _ (hpost hcore (ht) (fun _ _ _ => rfl) (by unfold in32; omega)) ⟨ht, fun x mo k c_nc c_cw hv e_nc e_cw => ?_⟩
    have hv := (evA3 (ρ := ρ)).symm.trans hv
    obtain ⟨rfl, rfl, rfl⟩ := vsA3 hv
    obtain rfl : c_nc = nc := by have := e_nc.symm.trans hnc; omega
    obtain rfl : c_cw = cw := by have := e_cw.symm.trans hcw; omega
    exact Or.inr (Or.inr (⟨hn, rfl, rfl⟩))
theorem m_aliveM (hB : BytesOK) {g : bG} {l : Launch} {d : Nat} {Q : bQ} {h : bH} {x mo k : Int} (ht : TH h) (z_x : in32 x) (z_mo : in32 mo) (z_k : in32 k) {nc : Nat} (hnc : h 194 1 = (nc : Int)) (lnc : nc ≤ 16) {cw : Nat} (hcw : h 194 2 = (cw : Int)) (lcw : cw ≤ 20)  (a0 : ¬ ((0 ≤ x ∧ x < (nc : Int)) ∧ (0 ≤ mo ∧ mo ≤ 239) ∧ 0 ≤ k ∧ k ≤ 239) → Q (some (0, (-1))) h) (a1 : ((0 ≤ x ∧ x < (nc : Int)) ∧ (0 ≤ mo ∧ mo ≤ 239) ∧ 0 ≤ k ∧ k ≤ 239) ∧ (h 194 (16 + 8 * x.toNat + 4) ≤ mo ∧ mo ≤ h 194 (16 + 8 * x.toNat + 5)) ∧ dM h ((x.toNat : Nat) : Int) k cw = 0 → Q (some (0, 1)) h) (a2 : ((0 ≤ x ∧ x < (nc : Int)) ∧ (0 ≤ mo ∧ mo ≤ 239) ∧ 0 ≤ k ∧ k ≤ 239) ∧ ¬ ((h 194 (16 + 8 * x.toNat + 4) ≤ mo ∧ mo ≤ h 194 (16 + 8 * x.toNat + 5)) ∧ dM h ((x.toNat : Nat) : Int) k cw = 0) → Q (some (0, 0)) h) : MH g l (d + 1 + 1) 195 212 212 [(2, ((193 : Nat) : Int)), (0, (x)), (0, (mo)), (0, (k))] h Q := by
  have hR := ht.r
  have z0_x := z_x
  have z0_mo := z_mo
  have z0_k := z_k
  unfold in32 at z0_x
  unfold in32 at z0_mo
  unfold in32 at z0_k
  rcases (by omega : ¬ (0 ≤ x ∧ x < (nc : Int)) ∨ (0 ≤ x ∧ x < (nc : Int))) with gg | gg
  · skip
    refine mh_go hB mg195 ml195 (Nat.le_of_ble_eq_true rfl) ?_
    show HW g l (d + 1 + 1) 195 _ _ 0 [(0, (2, ((193 : Nat) : Int))), (1, (0, (x))), (2, (0, (mo))), (3, (0, (k)))] [] h
    refine w_pl (pc' := 1) (lv' := [(0, (2, ((193 : Nat) : Int))), (1, (0, (x))), (2, (0, (mo))), (3, (0, (k)))]) (st' := [(2, ((193 : Nat) : Int))]) (h' := h) (o195_0 hB) rfl ?_
    refine w_pl (pc' := 2) (lv' := [(0, (2, ((193 : Nat) : Int))), (1, (0, (x))), (2, (0, (mo))), (3, (0, (k)))]) (st' := [(0, (x)), (2, ((193 : Nat) : Int))]) (h' := h) (o195_1 hB) rfl ?_
    refine w_callV (A := 193) (as := [(0, (x))]) (rest := []) (n := 1) (pc' := 5) 11 hB (o195_2 hB) rfl (by decide +kernel) rfl rfl (Nat.le_of_ble_eq_true rfl) (m_isClaim hB ht hnc lnc (fun f944 => ?_) (fun f945 => ?_))
    · exfalso; omega
    · show HW g l _ 195 _ _ 5 [(0, (2, ((193 : Nat) : Int))), (1, (0, (x))), (2, (0, (mo))), (3, (0, (k)))] [(0, ((0 : Nat) : Int))] h
      refine w_ifc (pt := 22) (pf := 8) (o195_3 hB) (by decide) rfl (fun e => ?_) (fun e => ?_)
      · have f946 : (((0 : Nat) : Int) = (0)) := e
        refine w_pl (pc' := 23) (lv' := [(0, (2, ((193 : Nat) : Int))), (1, (0, (x))), (2, (0, (mo))), (3, (0, (k)))]) (st' := [(0, (-1))]) (h' := h) (o195_10 hB) rfl ?_
        exact w_iret (o195_11 hB) mr195 (by unfold in32; omega) (a0 (by omega))
      · have f947 : ¬ (((0 : Nat) : Int) = (0)) := e
        exfalso; omega
  · obtain ⟨c', e_c⟩ : ∃ q : Nat, x = q := ⟨x.toNat, by omega⟩
    subst e_c
    simp only [Int.toNat_natCast] at a1 a2
    refine mh_go hB mg195 ml195 (Nat.le_of_ble_eq_true rfl) ?_
    show HW g l (d + 1 + 1) 195 _ _ 0 [(0, (2, ((193 : Nat) : Int))), (1, (0, ((c' : Nat) : Int))), (2, (0, (mo))), (3, (0, (k)))] [] h
    refine w_pl (pc' := 1) (lv' := [(0, (2, ((193 : Nat) : Int))), (1, (0, ((c' : Nat) : Int))), (2, (0, (mo))), (3, (0, (k)))]) (st' := [(2, ((193 : Nat) : Int))]) (h' := h) (o195_0 hB) rfl ?_
    refine w_pl (pc' := 2) (lv' := [(0, (2, ((193 : Nat) : Int))), (1, (0, ((c' : Nat) : Int))), (2, (0, (mo))), (3, (0, (k)))]) (st' := [(0, ((c' : Nat) : Int)), (2, ((193 : Nat) : Int))]) (h' := h) (o195_1 hB) rfl ?_
    refine w_callV (A := 193) (as := [(0, ((c' : Nat) : Int))]) (rest := []) (n := 1) (pc' := 5) 11 hB (o195_2 hB) rfl (by decide +kernel) rfl rfl (Nat.le_of_ble_eq_true rfl) (m_isClaim hB ht hnc lnc (fun f948 => ?_) (fun f949 => ?_))
    · show HW g l _ 195 _ _ 5 [(0, (2, ((193 : Nat) : Int))), (1, (0, ((c' : Nat) : Int))), (2, (0, (mo))), (3, (0, (k)))] [(0, ((1 : Nat) : Int))] h
      refine w_ifc (pt := 22) (pf := 8) (o195_3 hB) (by decide) rfl (fun e => ?_) (fun e => ?_)
      · have f950 : (((1 : Nat) : Int) = (0)) := e
        exfalso; omega
      · have f951 : ¬ (((1 : Nat) : Int) = (0)) := e
        refine w_pl (pc' := 9) (lv' := [(0, (2, ((193 : Nat) : Int))), (1, (0, ((c' : Nat) : Int))), (2, (0, (mo))), (3, (0, (k)))]) (st' := [(0, (mo))]) (h' := h) (o195_4 hB) rfl ?_
        refine w_callS (as := [(0, (mo))]) (rest := []) (n := 1) (pc' := 12) hB (o195_5 hB) rfl (by decide +kernel) rfl rfl (Nat.le_of_ble_eq_true rfl) (m_isMonthM hB (fun f952 => ?_) (fun f953 => ?_))
        · show HW g l _ 195 _ _ 12 [(0, (2, ((193 : Nat) : Int))), (1, (0, ((c' : Nat) : Int))), (2, (0, (mo))), (3, (0, (k)))] [(0, ((1 : Nat) : Int))] h
          refine w_ifc (pt := 22) (pf := 15) (o195_6 hB) (by decide) rfl (fun e => ?_) (fun e => ?_)
          · have f954 : (((1 : Nat) : Int) = (0)) := e
            exfalso; omega
          · have f955 : ¬ (((1 : Nat) : Int) = (0)) := e
            refine w_pl (pc' := 16) (lv' := [(0, (2, ((193 : Nat) : Int))), (1, (0, ((c' : Nat) : Int))), (2, (0, (mo))), (3, (0, (k)))]) (st' := [(0, (k))]) (h' := h) (o195_7 hB) rfl ?_
            refine w_callS (as := [(0, (k))]) (rest := []) (n := 1) (pc' := 19) hB (o195_8 hB) rfl (by decide +kernel) rfl rfl (Nat.le_of_ble_eq_true rfl) (m_isMonthM hB (fun f956 => ?_) (fun f957 => ?_))
            · show HW g l _ 195 _ _ 19 [(0, (2, ((193 : Nat) : Int))), (1, (0, ((c' : Nat) : Int))), (2, (0, (mo))), (3, (0, (k)))] [(0, ((1 : Nat) : Int))] h
              refine w_ifc (pt := 24) (pf := 22) (o195_9 hB) (by decide) rfl (fun e => ?_) (fun e => ?_)
              · have f958 : (((1 : Nat) : Int) ≠ (0)) := e
                refine w_pl (pc' := 25) (lv' := [(0, (2, ((193 : Nat) : Int))), (1, (0, ((c' : Nat) : Int))), (2, (0, (mo))), (3, (0, (k)))]) (st' := [(2, ((193 : Nat) : Int))]) (h' := h) (o195_12 hB) rfl ?_
                refine w_pl (pc' := 26) (lv' := [(0, (2, ((193 : Nat) : Int))), (1, (0, ((c' : Nat) : Int))), (2, (0, (mo))), (3, (0, (k)))]) (st' := [(0, ((c' : Nat) : Int)), (2, ((193 : Nat) : Int))]) (h' := h) (o195_13 hB) rfl ?_
                refine w_pl (pc' := 27) (lv' := [(0, (2, ((193 : Nat) : Int))), (1, (0, ((c' : Nat) : Int))), (2, (0, (mo))), (3, (0, (k)))]) (st' := [(0, (mo)), (0, ((c' : Nat) : Int)), (2, ((193 : Nat) : Int))]) (h' := h) (o195_14 hB) rfl ?_
                refine w_pl (pc' := 28) (lv' := [(0, (2, ((193 : Nat) : Int))), (1, (0, ((c' : Nat) : Int))), (2, (0, (mo))), (3, (0, (k)))]) (st' := [(0, (k)), (0, (mo)), (0, ((c' : Nat) : Int)), (2, ((193 : Nat) : Int))]) (h' := h) (o195_15 hB) rfl ?_
                refine w_callV (A := 193) (as := [(0, ((c' : Nat) : Int)), (0, (mo)), (0, (k))]) (rest := []) (n := 3) (pc' := 31) 11 hB (o195_16 hB) rfl (by decide +kernel) rfl rfl (Nat.le_of_ble_eq_true rfl) (m_isAlive hB ht hcw lcw (by omega) (fun f959 => ?_) (fun f960 => ?_))
                · show HW g l _ 195 _ _ 31 [(0, (2, ((193 : Nat) : Int))), (1, (0, ((c' : Nat) : Int))), (2, (0, (mo))), (3, (0, (k)))] [(0, ((1 : Nat) : Int))] h
                  refine w_ifc (pt := 38) (pf := 34) (o195_17 hB) (by decide) rfl (fun e => ?_) (fun e => ?_)
                  · have f961 : (((1 : Nat) : Int) = (0)) := e
                    exfalso; omega
                  · have f962 : ¬ (((1 : Nat) : Int) = (0)) := e
                    refine w_pl (pc' := 35) (lv' := [(0, (2, ((193 : Nat) : Int))), (1, (0, ((c' : Nat) : Int))), (2, (0, (mo))), (3, (0, (k)))]) (st' := [(0, ((1 : Nat) : Int))]) (h' := h) (o195_18 hB) rfl ?_
                    refine w_goto (pt := 39) (o195_19 hB) (by decide) ?_
                    exact w_iret (o195_21 hB) mr195 (by unfold in32; omega) (a1 (by omega))
                · show HW g l _ 195 _ _ 31 [(0, (2, ((193 : Nat) : Int))), (1, (0, ((c' : Nat) : Int))), (2, (0, (mo))), (3, (0, (k)))] [(0, ((0 : Nat) : Int))] h
                  refine w_ifc (pt := 38) (pf := 34) (o195_17 hB) (by decide) rfl (fun e => ?_) (fun e => ?_)
                  · have f963 : (((0 : Nat) : Int) = (0)) := e
                    refine w_pl (pc' := 39) (lv' := [(0, (2, ((193 : Nat) : Int))), (1, (0, ((c' : Nat) : Int))), (2, (0, (mo))), (3, (0, (k)))]) (st' := [(0, ((0 : Nat) : Int))]) (h' := h) (o195_20 hB) rfl ?_
                    exact w_iret (o195_21 hB) mr195 (by unfold in32; omega) (a2 (by omega))
                  · have f964 : ¬ (((0 : Nat) : Int) = (0)) := e
                    exfalso; omega
              · have f965 : ¬ (((1 : Nat) : Int) ≠ (0)) := e
                exfalso; omega
            · show HW g l _ 195 _ _ 19 [(0, (2, ((193 : Nat) : Int))), (1, (0, ((c' : Nat) : Int))), (2, (0, (mo))), (3, (0, (k)))] [(0, ((0 : Nat) : Int))] h
              refine w_ifc (pt := 24) (pf := 22) (o195_9 hB) (by decide) rfl (fun e => ?_) (fun e => ?_)
              · have f966 : (((0 : Nat) : Int) ≠ (0)) := e
                exfalso; omega
              · have f967 : ¬ (((0 : Nat) : Int) ≠ (0)) := e
                refine w_pl (pc' := 23) (lv' := [(0, (2, ((193 : Nat) : Int))), (1, (0, ((c' : Nat) : Int))), (2, (0, (mo))), (3, (0, (k)))]) (st' := [(0, (-1))]) (h' := h) (o195_10 hB) rfl ?_
                exact w_iret (o195_11 hB) mr195 (by unfold in32; omega) (a0 (by omega))
        · show HW g l _ 195 _ _ 12 [(0, (2, ((193 : Nat) : Int))), (1, (0, ((c' : Nat) : Int))), (2, (0, (mo))), (3, (0, (k)))] [(0, ((0 : Nat) : Int))] h
          refine w_ifc (pt := 22) (pf := 15) (o195_6 hB) (by decide) rfl (fun e => ?_) (fun e => ?_)
          · have f968 : (((0 : Nat) : Int) = (0)) := e
            refine w_pl (pc' := 23) (lv' := [(0, (2, ((193 : Nat) : Int))), (1, (0, ((c' : Nat) : Int))), (2, (0, (mo))), (3, (0, (k)))]) (st' := [(0, (-1))]) (h' := h) (o195_10 hB) rfl ?_
            exact w_iret (o195_11 hB) mr195 (by unfold in32; omega) (a0 (by omega))
          · have f969 : ¬ (((0 : Nat) : Int) = (0)) := e
            exfalso; omega
    · show HW g l _ 195 _ _ 5 [(0, (2, ((193 : Nat) : Int))), (1, (0, ((c' : Nat) : Int))), (2, (0, (mo))), (3, (0, (k)))] [(0, ((0 : Nat) : Int))] h
      refine w_ifc (pt := 22) (pf := 8) (o195_3 hB) (by decide) rfl (fun e => ?_) (fun e => ?_)
      · have f970 : (((0 : Nat) : Int) = (0)) := e
        refine w_pl (pc' := 23) (lv' := [(0, (2, ((193 : Nat) : Int))), (1, (0, ((c' : Nat) : Int))), (2, (0, (mo))), (3, (0, (k)))]) (st' := [(0, (-1))]) (h' := h) (o195_10 hB) rfl ?_
        exact w_iret (o195_11 hB) mr195 (by unfold in32; omega) (a0 (by omega))
      · have f971 : ¬ (((0 : Nat) : Int) = (0)) := e
        exfalso; omega
def s_aliveM (vs : List bV) (h : bH) (r : Option bV) (h' : bH) : Prop := TH h ∧ ∀ (x mo k : Int) (nc : Nat) (cw : Nat) , vs = [(2, ((193 : Nat) : Int)), (0, x), (0, mo), (0, k)] → h 194 1 = (nc : Int) → h 194 2 = (cw : Int) → ((¬ ((0 ≤ x ∧ x < (nc : Int)) ∧ (0 ≤ mo ∧ mo ≤ 239) ∧ 0 ≤ k ∧ k ≤ 239)) ∧ r = some (0, (-1)) ∧ h = h') ∨ ((((0 ≤ x ∧ x < (nc : Int)) ∧ (0 ≤ mo ∧ mo ≤ 239) ∧ 0 ≤ k ∧ k ≤ 239) ∧ (h 194 (16 + 8 * x.toNat + 4) ≤ mo ∧ mo ≤ h 194 (16 + 8 * x.toNat + 5)) ∧ dM h ((x.toNat : Nat) : Int) k cw = 0) ∧ r = some (0, 1) ∧ h = h') ∨ ((((0 ≤ x ∧ x < (nc : Int)) ∧ (0 ≤ mo ∧ mo ≤ 239) ∧ 0 ≤ k ∧ k ≤ 239) ∧ ¬ ((h 194 (16 + 8 * x.toNat + 4) ≤ mo ∧ mo ≤ h 194 (16 + 8 * x.toNat + 5)) ∧ dM h ((x.toNat : Nat) : Int) k cw = 0)) ∧ r = some (0, 0) ∧ h = h')
def w_aliveM : List (Nat × Nat × Nat) := []
def q_aliveM : aCt := cH 195 2 w_aliveM 3 193
theorem sk_aliveM (hB : BytesOK) (g : bG) (l : Launch) : SK g l gT q_aliveM s_aliveM := by
  intro d hd ρ h Q hcore hQ
  have hcore : core (PofW gT (some w_aliveM) false) (gsc g) h ρ h (List.replicate 3 r32, [], [], 212) := hcore
  have ht := hTH hcore
  have y0 := r32_0 hcore 0 (by decide)
  have y1 := r32_0 hcore 1 (by decide)
  have y2 := r32_0 hcore 2 (by decide)
  have y00 := y0
  unfold in32 at y00
  have y01 := y1
  unfold in32 at y01
  have y02 := y2
  unfold in32 at y02
  obtain ⟨nc, hnc, lnc⟩ := nat_to ht (a := 194) (j := 1) (n := 16) (by decide +kernel)
  obtain ⟨cw, hcw, lcw⟩ := nat_to ht (a := 194) (j := 2) (n := 20) (by decide +kernel)
  obtain ⟨d', rfl⟩ : ∃ d', d = d' + 1 + 1 := ⟨d - 2, by have : 2 ≤ d := hd; omega⟩
  rw [show evS ρ (ctA q_aliveM) = [(2, ((193 : Nat) : Int)), (0, ρ 0), (0, ρ 1), (0, ρ 2)] from evA3]
  refine m_aliveM (x := ρ 0) (mo := ρ 1) (k := ρ 2) hB ht y0 y1 y2 hnc lnc hcw lcw (fun hn => ?_) (fun hn => ?_) (fun hn => ?_)
  · refine hQ _ _ (hpost hcore (ht) (fun _ _ _ => rfl) (by unfold in32; omega)) ⟨ht, fun x mo k c_nc c_cw hv e_nc e_cw => ?_⟩
    have hv := (evA3 (ρ := ρ)).symm.trans hv
    obtain ⟨rfl, rfl, rfl⟩ := vsA3 hv
    obtain rfl : c_nc = nc := by have := e_nc.symm.trans hnc; omega
    obtain rfl : c_cw = cw := by have := e_cw.symm.trans hcw; omega
    exact Or.inl ⟨hn, rfl, rfl⟩
  · refine hQ _ _ (hpost hcore (ht) (fun _ _ _ => rfl) (by unfold in32; omega)) ⟨ht, fun x mo k c_nc c_cw hv e_nc e_cw => ?_⟩
    have hv := (evA3 (ρ := ρ)).symm.trans hv
    obtain ⟨rfl, rfl, rfl⟩ := vsA3 hv
    obtain rfl : c_nc = nc := by have := e_nc.symm.trans hnc; omega
    obtain rfl : c_cw = cw := by have := e_cw.symm.trans hcw; omega
    exact Or.inr (Or.inl ⟨hn, rfl, rfl⟩)
  · refine hQ _ _ (hpost hcore (ht) (fun _ _ _ => rfl) (by unfold in32; omega)) ⟨ht, fun x mo k c_nc c_cw hv e_nc e_cw => ?_⟩
    have hv := (evA3 (ρ := ρ)).symm.trans hv
    obtain ⟨rfl, rfl, rfl⟩ := vsA3 hv
    obtain rfl : c_nc = nc := by have := e_nc.symm.trans hnc; omega
    obtain rfl : c_cw = cw := by have := e_cw.symm.trans hcw; omega
    exact Or.inr (Or.inr (⟨hn, rfl, rfl⟩))
theorem m_isSworn (hB : BytesOK) {g : bG} {l : Launch} {d : Nat} {Q : bQ} {h : bH} {c : Nat} {bb : Int} (ht : TH h) (hbb : h 2 9 = bb) (h1 : andI (shrI bb ((c : Nat) : Int)) 1 ≠ 0 → Q (some (0, 1)) h) (h0 : ¬ (andI (shrI bb ((c : Nat) : Int)) 1 ≠ 0) → Q (some (0, 0)) h) : MH g l d 53 212 212 [(2, ((2 : Nat) : Int)), (0, ((c : Nat) : Int))] h Q := by
  have hR := ht.r
  refine mh_go hB mg53 ml53 (Nat.le_of_ble_eq_true rfl) ?_
  show HW g l d 53 _ _ 0 [(0, (2, ((2 : Nat) : Int))), (1, (0, ((c : Nat) : Int)))] [] h
  refine w_pl (pc' := 1) (lv' := [(0, (2, ((2 : Nat) : Int))), (1, (0, ((c : Nat) : Int)))]) (st' := [(2, ((2 : Nat) : Int))]) (h' := h) (o53_0 hB) rfl ?_
  refine w_getf (A := 2) (t := 0) (z := (bb)) (pc' := 4) (o53_1 hB) rfl (by decide +kernel) hbb ?_
  refine w_pl (pc' := 5) (lv' := [(0, (2, ((2 : Nat) : Int))), (1, (0, ((c : Nat) : Int)))]) (st' := [(0, ((c : Nat) : Int)), (0, (bb))]) (h' := h) (o53_2 hB) rfl ?_
  refine w_ishr (z := (shrI (bb) ((c : Nat) : Int))) (pc' := 6) (o53_3 hB) rfl rfl ?_
  refine w_pl (pc' := 7) (lv' := [(0, (2, ((2 : Nat) : Int))), (1, (0, ((c : Nat) : Int)))]) (st' := [(0, ((1 : Nat) : Int)), (0, (shrI (bb) ((c : Nat) : Int)))]) (h' := h) (o53_4 hB) rfl ?_
  refine w_iand (z := (andI (shrI (bb) ((c : Nat) : Int)) 1)) (pc' := 8) (o53_5 hB) rfl rfl ?_
  refine w_ifc (pt := 15) (pf := 11) (o53_6 hB) (by decide) rfl (fun e => ?_) (fun e => ?_)
  · have f972 : ((andI (shrI (bb) ((c : Nat) : Int)) 1) = (0)) := e
    refine w_pl (pc' := 16) (lv' := [(0, (2, ((2 : Nat) : Int))), (1, (0, ((c : Nat) : Int)))]) (st' := [(0, ((0 : Nat) : Int))]) (h' := h) (o53_9 hB) rfl ?_
    exact w_zret (o53_10 hB) mr53 (by decide) (h0 (by omega))
  · have f973 : ¬ ((andI (shrI (bb) ((c : Nat) : Int)) 1) = (0)) := e
    refine w_pl (pc' := 12) (lv' := [(0, (2, ((2 : Nat) : Int))), (1, (0, ((c : Nat) : Int)))]) (st' := [(0, ((1 : Nat) : Int))]) (h' := h) (o53_7 hB) rfl ?_
    refine w_goto (pt := 16) (o53_8 hB) (by decide) ?_
    exact w_zret (o53_10 hB) mr53 (by decide) (h1 (by omega))
theorem m_isLookedAt (hB : BytesOK) {g : bG} {l : Launch} {d : Nat} {Q : bQ} {h : bH} {c : Nat} {bb : Int} (ht : TH h) (hbb : h 2 10 = bb) (h1 : andI (shrI bb ((c : Nat) : Int)) 1 ≠ 0 → Q (some (0, 1)) h) (h0 : ¬ (andI (shrI bb ((c : Nat) : Int)) 1 ≠ 0) → Q (some (0, 0)) h) : MH g l d 54 212 212 [(2, ((2 : Nat) : Int)), (0, ((c : Nat) : Int))] h Q := by
  have hR := ht.r
  refine mh_go hB mg54 ml54 (Nat.le_of_ble_eq_true rfl) ?_
  show HW g l d 54 _ _ 0 [(0, (2, ((2 : Nat) : Int))), (1, (0, ((c : Nat) : Int)))] [] h
  refine w_pl (pc' := 1) (lv' := [(0, (2, ((2 : Nat) : Int))), (1, (0, ((c : Nat) : Int)))]) (st' := [(2, ((2 : Nat) : Int))]) (h' := h) (o54_0 hB) rfl ?_
  refine w_getf (A := 2) (t := 0) (z := (bb)) (pc' := 4) (o54_1 hB) rfl (by decide +kernel) hbb ?_
  refine w_pl (pc' := 5) (lv' := [(0, (2, ((2 : Nat) : Int))), (1, (0, ((c : Nat) : Int)))]) (st' := [(0, ((c : Nat) : Int)), (0, (bb))]) (h' := h) (o54_2 hB) rfl ?_
  refine w_ishr (z := (shrI (bb) ((c : Nat) : Int))) (pc' := 6) (o54_3 hB) rfl rfl ?_
  refine w_pl (pc' := 7) (lv' := [(0, (2, ((2 : Nat) : Int))), (1, (0, ((c : Nat) : Int)))]) (st' := [(0, ((1 : Nat) : Int)), (0, (shrI (bb) ((c : Nat) : Int)))]) (h' := h) (o54_4 hB) rfl ?_
  refine w_iand (z := (andI (shrI (bb) ((c : Nat) : Int)) 1)) (pc' := 8) (o54_5 hB) rfl rfl ?_
  refine w_ifc (pt := 15) (pf := 11) (o54_6 hB) (by decide) rfl (fun e => ?_) (fun e => ?_)
  · have f974 : ((andI (shrI (bb) ((c : Nat) : Int)) 1) = (0)) := e
    refine w_pl (pc' := 16) (lv' := [(0, (2, ((2 : Nat) : Int))), (1, (0, ((c : Nat) : Int)))]) (st' := [(0, ((0 : Nat) : Int))]) (h' := h) (o54_9 hB) rfl ?_
    exact w_zret (o54_10 hB) mr54 (by decide) (h0 (by omega))
  · have f975 : ¬ ((andI (shrI (bb) ((c : Nat) : Int)) 1) = (0)) := e
    refine w_pl (pc' := 12) (lv' := [(0, (2, ((2 : Nat) : Int))), (1, (0, ((c : Nat) : Int)))]) (st' := [(0, ((1 : Nat) : Int))]) (h' := h) (o54_7 hB) rfl ?_
    refine w_goto (pt := 16) (o54_8 hB) (by decide) ?_
    exact w_zret (o54_10 hB) mr54 (by decide) (h1 (by omega))
theorem m_swearTo (hB : BytesOK) {g : bG} {l : Launch} {d : Nat} {Q : bQ} {h : bH} {c : Nat} {sb lb : Int} (ht : TH h) (lc : c < 16) (hsb : h 2 9 = sb) (hlb : h 2 10 = lb) (a0 : andI (shrI sb ((c : Nat) : Int)) 1 ≠ 0 → Q (some (0, 0)) h) (a1 : andI (shrI sb ((c : Nat) : Int)) 1 = 0 → Q (some (0, 1)) (hup h 2 (9) (orI sb (shlI 1 ((c : Nat) : Int))))) : MH g l (d + 1) 55 212 212 [(2, ((2 : Nat) : Int)), (0, ((c : Nat) : Int))] h Q := by
  have hR := ht.r
  refine mh_go hB mg55 ml55 (Nat.le_of_ble_eq_true rfl) ?_
  show HW g l (d + 1) 55 _ _ 0 [(0, (2, ((2 : Nat) : Int))), (1, (0, ((c : Nat) : Int)))] [] h
  refine w_pl (pc' := 1) (lv' := [(0, (2, ((2 : Nat) : Int))), (1, (0, ((c : Nat) : Int)))]) (st' := [(2, ((2 : Nat) : Int))]) (h' := h) (o55_0 hB) rfl ?_
  refine w_pl (pc' := 2) (lv' := [(0, (2, ((2 : Nat) : Int))), (1, (0, ((c : Nat) : Int)))]) (st' := [(0, ((c : Nat) : Int)), (2, ((2 : Nat) : Int))]) (h' := h) (o55_1 hB) rfl ?_
  refine w_callV (A := 2) (as := [(0, ((c : Nat) : Int))]) (rest := []) (n := 1) (pc' := 5) 3 hB (o55_2 hB) rfl (by decide +kernel) rfl rfl (Nat.le_of_ble_eq_true rfl) (m_isSworn hB ht hsb (fun f976 => ?_) (fun f977 => ?_))
  · show HW g l _ 55 _ _ 5 [(0, (2, ((2 : Nat) : Int))), (1, (0, ((c : Nat) : Int)))] [(0, ((1 : Nat) : Int))] h
    refine w_ifc (pt := 10) (pf := 8) (o55_3 hB) (by decide) rfl (fun e => ?_) (fun e => ?_)
    · have f978 : (((1 : Nat) : Int) = (0)) := e
      exfalso; omega
    · have f979 : ¬ (((1 : Nat) : Int) = (0)) := e
      refine w_pl (pc' := 9) (lv' := [(0, (2, ((2 : Nat) : Int))), (1, (0, ((c : Nat) : Int)))]) (st' := [(0, ((0 : Nat) : Int))]) (h' := h) (o55_4 hB) rfl ?_
      exact w_iret (o55_5 hB) mr55 (by unfold in32; omega) (a0 (by omega))
  · show HW g l _ 55 _ _ 5 [(0, (2, ((2 : Nat) : Int))), (1, (0, ((c : Nat) : Int)))] [(0, ((0 : Nat) : Int))] h
    refine w_ifc (pt := 10) (pf := 8) (o55_3 hB) (by decide) rfl (fun e => ?_) (fun e => ?_)
    · have f980 : (((0 : Nat) : Int) = (0)) := e
      refine w_pl (pc' := 11) (lv' := [(0, (2, ((2 : Nat) : Int))), (1, (0, ((c : Nat) : Int)))]) (st' := [(2, ((2 : Nat) : Int))]) (h' := h) (o55_6 hB) rfl ?_
      refine w_pl (pc' := 12) (lv' := [(0, (2, ((2 : Nat) : Int))), (1, (0, ((c : Nat) : Int)))]) (st' := [(2, ((2 : Nat) : Int)), (2, ((2 : Nat) : Int))]) (h' := h) (o55_7 hB) rfl ?_
      refine w_getf (A := 2) (t := 0) (z := (sb)) (pc' := 15) (o55_8 hB) rfl (by decide +kernel) hsb ?_
      refine w_pl (pc' := 16) (lv' := [(0, (2, ((2 : Nat) : Int))), (1, (0, ((c : Nat) : Int)))]) (st' := [(0, ((1 : Nat) : Int)), (0, (sb)), (2, ((2 : Nat) : Int))]) (h' := h) (o55_9 hB) rfl ?_
      refine w_pl (pc' := 17) (lv' := [(0, (2, ((2 : Nat) : Int))), (1, (0, ((c : Nat) : Int)))]) (st' := [(0, ((c : Nat) : Int)), (0, ((1 : Nat) : Int)), (0, (sb)), (2, ((2 : Nat) : Int))]) (h' := h) (o55_10 hB) rfl ?_
      refine w_ishl (z := (shlI 1 ((c : Nat) : Int))) (pc' := 18) (o55_11 hB) rfl rfl ?_
      refine w_ior (z := (orI (sb) (shlI 1 ((c : Nat) : Int)))) (pc' := 19) (o55_12 hB) rfl rfl ?_
      refine w_putf (A := 2) (t := 0) (pc' := 22) (o55_13 hB) rfl (by decide +kernel) ?_
      refine w_pl (pc' := 23) (lv' := [(0, (2, ((2 : Nat) : Int))), (1, (0, ((c : Nat) : Int)))]) (st' := [(0, ((1 : Nat) : Int))]) (h' := (hup h 2 (9) (orI (sb) (shlI 1 ((c : Nat) : Int))))) (o55_14 hB) rfl ?_
      exact w_iret (o55_15 hB) mr55 (by unfold in32; omega) (a1 (by omega))
    · have f981 : ¬ (((0 : Nat) : Int) = (0)) := e
      exfalso; omega
theorem m_lookAt (hB : BytesOK) {g : bG} {l : Launch} {d : Nat} {Q : bQ} {h : bH} {c : Nat} {sb lb : Int} (ht : TH h) (lc : c < 16) (hsb : h 2 9 = sb) (hlb : h 2 10 = lb) (a0 : andI (shrI sb ((c : Nat) : Int)) 1 = 0 → Q (some (0, (-4))) h) (a1 : andI (shrI sb ((c : Nat) : Int)) 1 ≠ 0 ∧ andI (shrI lb ((c : Nat) : Int)) 1 ≠ 0 → Q (some (0, 0)) h) (a2 : andI (shrI sb ((c : Nat) : Int)) 1 ≠ 0 ∧ andI (shrI lb ((c : Nat) : Int)) 1 = 0 → Q (some (0, 1)) (hup h 2 (10) (orI lb (shlI 1 ((c : Nat) : Int))))) : MH g l (d + 1) 56 212 212 [(2, ((2 : Nat) : Int)), (0, ((c : Nat) : Int))] h Q := by
  have hR := ht.r
  refine mh_go hB mg56 ml56 (Nat.le_of_ble_eq_true rfl) ?_
  show HW g l (d + 1) 56 _ _ 0 [(0, (2, ((2 : Nat) : Int))), (1, (0, ((c : Nat) : Int)))] [] h
  refine w_pl (pc' := 1) (lv' := [(0, (2, ((2 : Nat) : Int))), (1, (0, ((c : Nat) : Int)))]) (st' := [(2, ((2 : Nat) : Int))]) (h' := h) (o56_0 hB) rfl ?_
  refine w_pl (pc' := 2) (lv' := [(0, (2, ((2 : Nat) : Int))), (1, (0, ((c : Nat) : Int)))]) (st' := [(0, ((c : Nat) : Int)), (2, ((2 : Nat) : Int))]) (h' := h) (o56_1 hB) rfl ?_
  refine w_callV (A := 2) (as := [(0, ((c : Nat) : Int))]) (rest := []) (n := 1) (pc' := 5) 3 hB (o56_2 hB) rfl (by decide +kernel) rfl rfl (Nat.le_of_ble_eq_true rfl) (m_isSworn hB ht hsb (fun f982 => ?_) (fun f983 => ?_))
  · show HW g l _ 56 _ _ 5 [(0, (2, ((2 : Nat) : Int))), (1, (0, ((c : Nat) : Int)))] [(0, ((1 : Nat) : Int))] h
    refine w_ifc (pt := 11) (pf := 8) (o56_3 hB) (by decide) rfl (fun e => ?_) (fun e => ?_)
    · have f984 : (((1 : Nat) : Int) ≠ (0)) := e
      refine w_pl (pc' := 12) (lv' := [(0, (2, ((2 : Nat) : Int))), (1, (0, ((c : Nat) : Int)))]) (st' := [(2, ((2 : Nat) : Int))]) (h' := h) (o56_6 hB) rfl ?_
      refine w_pl (pc' := 13) (lv' := [(0, (2, ((2 : Nat) : Int))), (1, (0, ((c : Nat) : Int)))]) (st' := [(0, ((c : Nat) : Int)), (2, ((2 : Nat) : Int))]) (h' := h) (o56_7 hB) rfl ?_
      refine w_callV (A := 2) (as := [(0, ((c : Nat) : Int))]) (rest := []) (n := 1) (pc' := 16) 3 hB (o56_8 hB) rfl (by decide +kernel) rfl rfl (Nat.le_of_ble_eq_true rfl) (m_isLookedAt hB ht hlb (fun f985 => ?_) (fun f986 => ?_))
      · show HW g l _ 56 _ _ 16 [(0, (2, ((2 : Nat) : Int))), (1, (0, ((c : Nat) : Int)))] [(0, ((1 : Nat) : Int))] h
        refine w_ifc (pt := 21) (pf := 19) (o56_9 hB) (by decide) rfl (fun e => ?_) (fun e => ?_)
        · have f987 : (((1 : Nat) : Int) = (0)) := e
          exfalso; omega
        · have f988 : ¬ (((1 : Nat) : Int) = (0)) := e
          refine w_pl (pc' := 20) (lv' := [(0, (2, ((2 : Nat) : Int))), (1, (0, ((c : Nat) : Int)))]) (st' := [(0, ((0 : Nat) : Int))]) (h' := h) (o56_10 hB) rfl ?_
          exact w_iret (o56_11 hB) mr56 (by unfold in32; omega) (a1 (by omega))
      · show HW g l _ 56 _ _ 16 [(0, (2, ((2 : Nat) : Int))), (1, (0, ((c : Nat) : Int)))] [(0, ((0 : Nat) : Int))] h
        refine w_ifc (pt := 21) (pf := 19) (o56_9 hB) (by decide) rfl (fun e => ?_) (fun e => ?_)
        · have f989 : (((0 : Nat) : Int) = (0)) := e
          refine w_pl (pc' := 22) (lv' := [(0, (2, ((2 : Nat) : Int))), (1, (0, ((c : Nat) : Int)))]) (st' := [(2, ((2 : Nat) : Int))]) (h' := h) (o56_12 hB) rfl ?_
          refine w_pl (pc' := 23) (lv' := [(0, (2, ((2 : Nat) : Int))), (1, (0, ((c : Nat) : Int)))]) (st' := [(2, ((2 : Nat) : Int)), (2, ((2 : Nat) : Int))]) (h' := h) (o56_13 hB) rfl ?_
          refine w_getf (A := 2) (t := 0) (z := (lb)) (pc' := 26) (o56_14 hB) rfl (by decide +kernel) hlb ?_
          refine w_pl (pc' := 27) (lv' := [(0, (2, ((2 : Nat) : Int))), (1, (0, ((c : Nat) : Int)))]) (st' := [(0, ((1 : Nat) : Int)), (0, (lb)), (2, ((2 : Nat) : Int))]) (h' := h) (o56_15 hB) rfl ?_
          refine w_pl (pc' := 28) (lv' := [(0, (2, ((2 : Nat) : Int))), (1, (0, ((c : Nat) : Int)))]) (st' := [(0, ((c : Nat) : Int)), (0, ((1 : Nat) : Int)), (0, (lb)), (2, ((2 : Nat) : Int))]) (h' := h) (o56_16 hB) rfl ?_
          refine w_ishl (z := (shlI 1 ((c : Nat) : Int))) (pc' := 29) (o56_17 hB) rfl rfl ?_
          refine w_ior (z := (orI (lb) (shlI 1 ((c : Nat) : Int)))) (pc' := 30) (o56_18 hB) rfl rfl ?_
          refine w_putf (A := 2) (t := 0) (pc' := 33) (o56_19 hB) rfl (by decide +kernel) ?_
          refine w_pl (pc' := 34) (lv' := [(0, (2, ((2 : Nat) : Int))), (1, (0, ((c : Nat) : Int)))]) (st' := [(0, ((1 : Nat) : Int))]) (h' := (hup h 2 (10) (orI (lb) (shlI 1 ((c : Nat) : Int))))) (o56_20 hB) rfl ?_
          exact w_iret (o56_21 hB) mr56 (by unfold in32; omega) (a2 (by omega))
        · have f990 : ¬ (((0 : Nat) : Int) = (0)) := e
          exfalso; omega
    · have f991 : ¬ (((1 : Nat) : Int) ≠ (0)) := e
      exfalso; omega
  · show HW g l _ 56 _ _ 5 [(0, (2, ((2 : Nat) : Int))), (1, (0, ((c : Nat) : Int)))] [(0, ((0 : Nat) : Int))] h
    refine w_ifc (pt := 11) (pf := 8) (o56_3 hB) (by decide) rfl (fun e => ?_) (fun e => ?_)
    · have f992 : (((0 : Nat) : Int) ≠ (0)) := e
      exfalso; omega
    · have f993 : ¬ (((0 : Nat) : Int) ≠ (0)) := e
      refine w_pl (pc' := 10) (lv' := [(0, (2, ((2 : Nat) : Int))), (1, (0, ((c : Nat) : Int)))]) (st' := [(0, (-4))]) (h' := h) (o56_4 hB) rfl ?_
      exact w_iret (o56_5 hB) mr56 (by unfold in32; omega) (a0 (by omega))
theorem m_swearB (hB : BytesOK) {g : bG} {l : Launch} {d : Nat} {Q : bQ} {h : bH} {x w : Int} (ht : TH h) (z_x : in32 x) (z_w : in32 w) {nc : Nat} (hnc : h 2 1 = (nc : Int)) (lnc : nc ≤ 16) {sb : Int} (hsb : h 2 9 = sb) {lb : Int} (hlb : h 2 10 = lb)  (a0 : ¬ ((0 ≤ x ∧ x < (nc : Int)) ∧ 0 ≤ w ∧ w ≤ 1) → Q (some (0, (-1))) h) (a1 : ((0 ≤ x ∧ x < (nc : Int)) ∧ 0 ≤ w ∧ w ≤ 1) ∧ w = 0 ∧ andI (shrI sb x) 1 ≠ 0 → Q (some (0, 0)) h) (a2 : ((0 ≤ x ∧ x < (nc : Int)) ∧ 0 ≤ w ∧ w ≤ 1) ∧ w = 0 ∧ andI (shrI sb x) 1 = 0 → Q (some (0, 1)) (hup h 2 (9) (orI sb (shlI 1 x)))) (a3 : ((0 ≤ x ∧ x < (nc : Int)) ∧ 0 ≤ w ∧ w ≤ 1) ∧ w = 1 ∧ andI (shrI sb x) 1 = 0 → Q (some (0, (-4))) h) (a4 : ((0 ≤ x ∧ x < (nc : Int)) ∧ 0 ≤ w ∧ w ≤ 1) ∧ w = 1 ∧ andI (shrI sb x) 1 ≠ 0 ∧ andI (shrI lb x) 1 ≠ 0 → Q (some (0, 0)) h) (a5 : ((0 ≤ x ∧ x < (nc : Int)) ∧ 0 ≤ w ∧ w ≤ 1) ∧ w = 1 ∧ andI (shrI sb x) 1 ≠ 0 ∧ andI (shrI lb x) 1 = 0 → Q (some (0, 1)) (hup h 2 (10) (orI lb (shlI 1 x)))) : MH g l (d + 1 + 1) 133 212 212 [(2, ((0 : Nat) : Int)), (0, (x)), (0, (w))] h Q := by
  have hR := ht.r
  have z0_x := z_x
  have z0_w := z_w
  unfold in32 at z0_x
  unfold in32 at z0_w
  have r_sb := ty_2_c9 ht
  rw [hsb] at r_sb
  have r_lb := ty_2_c10 ht
  rw [hlb] at r_lb
  rcases (by omega : ¬ (0 ≤ x ∧ x < (nc : Int)) ∨ (0 ≤ x ∧ x < (nc : Int))) with gg | gg
  · skip
    refine mh_go hB mg133 ml133 (Nat.le_of_ble_eq_true rfl) ?_
    show HW g l (d + 1 + 1) 133 _ _ 0 [(0, (2, ((0 : Nat) : Int))), (1, (0, (x))), (2, (0, (w)))] [] h
    refine w_pl (pc' := 1) (lv' := [(0, (2, ((0 : Nat) : Int))), (1, (0, (x))), (2, (0, (w)))]) (st' := [(2, ((0 : Nat) : Int))]) (h' := h) (o133_0 hB) rfl ?_
    refine w_getf (A := 0) (t := 2) (z := ((1 : Nat) : Int)) (pc' := 4) (o133_1 hB) rfl (by decide +kernel) (hR (0, 0, 1) (by decide)) ?_
    refine w_getf (A := 1) (t := 2) (z := ((2 : Nat) : Int)) (pc' := 7) (o133_2 hB) rfl (by decide +kernel) (hR (1, 0, 2) (by decide)) ?_
    refine w_pl (pc' := 8) (lv' := [(0, (2, ((0 : Nat) : Int))), (1, (0, (x))), (2, (0, (w)))]) (st' := [(0, (x)), (2, ((2 : Nat) : Int))]) (h' := h) (o133_3 hB) rfl ?_
    refine w_callV (A := 2) (as := [(0, (x))]) (rest := []) (n := 1) (pc' := 11) 3 hB (o133_4 hB) rfl (by decide +kernel) rfl rfl (Nat.le_of_ble_eq_true rfl) (m_hasClaim hB ht hnc lnc (fun f1015 => ?_) (fun f1016 => ?_))
    · exfalso; omega
    · show HW g l _ 133 _ _ 11 [(0, (2, ((0 : Nat) : Int))), (1, (0, (x))), (2, (0, (w)))] [(0, ((0 : Nat) : Int))] h
      refine w_ifc (pt := 23) (pf := 14) (o133_5 hB) (by decide) rfl (fun e => ?_) (fun e => ?_)
      · have f1017 : (((0 : Nat) : Int) = (0)) := e
        refine w_pl (pc' := 24) (lv' := [(0, (2, ((0 : Nat) : Int))), (1, (0, (x))), (2, (0, (w)))]) (st' := [(0, (-1))]) (h' := h) (o133_11 hB) rfl ?_
        exact w_iret (o133_12 hB) mr133 (by unfold in32; omega) (a0 (by omega))
      · have f1018 : ¬ (((0 : Nat) : Int) = (0)) := e
        exfalso; omega
  · obtain ⟨c', e_c⟩ : ∃ q : Nat, x = q := ⟨x.toNat, by omega⟩
    subst e_c
    refine mh_go hB mg133 ml133 (Nat.le_of_ble_eq_true rfl) ?_
    show HW g l (d + 1 + 1) 133 _ _ 0 [(0, (2, ((0 : Nat) : Int))), (1, (0, ((c' : Nat) : Int))), (2, (0, (w)))] [] h
    refine w_pl (pc' := 1) (lv' := [(0, (2, ((0 : Nat) : Int))), (1, (0, ((c' : Nat) : Int))), (2, (0, (w)))]) (st' := [(2, ((0 : Nat) : Int))]) (h' := h) (o133_0 hB) rfl ?_
    refine w_getf (A := 0) (t := 2) (z := ((1 : Nat) : Int)) (pc' := 4) (o133_1 hB) rfl (by decide +kernel) (hR (0, 0, 1) (by decide)) ?_
    refine w_getf (A := 1) (t := 2) (z := ((2 : Nat) : Int)) (pc' := 7) (o133_2 hB) rfl (by decide +kernel) (hR (1, 0, 2) (by decide)) ?_
    refine w_pl (pc' := 8) (lv' := [(0, (2, ((0 : Nat) : Int))), (1, (0, ((c' : Nat) : Int))), (2, (0, (w)))]) (st' := [(0, ((c' : Nat) : Int)), (2, ((2 : Nat) : Int))]) (h' := h) (o133_3 hB) rfl ?_
    refine w_callV (A := 2) (as := [(0, ((c' : Nat) : Int))]) (rest := []) (n := 1) (pc' := 11) 3 hB (o133_4 hB) rfl (by decide +kernel) rfl rfl (Nat.le_of_ble_eq_true rfl) (m_hasClaim hB ht hnc lnc (fun f1019 => ?_) (fun f1020 => ?_))
    · show HW g l _ 133 _ _ 11 [(0, (2, ((0 : Nat) : Int))), (1, (0, ((c' : Nat) : Int))), (2, (0, (w)))] [(0, ((1 : Nat) : Int))] h
      refine w_ifc (pt := 23) (pf := 14) (o133_5 hB) (by decide) rfl (fun e => ?_) (fun e => ?_)
      · have f1021 : (((1 : Nat) : Int) = (0)) := e
        exfalso; omega
      · have f1022 : ¬ (((1 : Nat) : Int) = (0)) := e
        refine w_pl (pc' := 15) (lv' := [(0, (2, ((0 : Nat) : Int))), (1, (0, ((c' : Nat) : Int))), (2, (0, (w)))]) (st' := [(0, (w))]) (h' := h) (o133_6 hB) rfl ?_
        refine w_ifc (pt := 23) (pf := 18) (o133_7 hB) (by decide) rfl (fun e => ?_) (fun e => ?_)
        · have f1023 : ((w) < (0)) := e
          refine w_pl (pc' := 24) (lv' := [(0, (2, ((0 : Nat) : Int))), (1, (0, ((c' : Nat) : Int))), (2, (0, (w)))]) (st' := [(0, (-1))]) (h' := h) (o133_11 hB) rfl ?_
          exact w_iret (o133_12 hB) mr133 (by unfold in32; omega) (a0 (by omega))
        · have f1024 : ¬ ((w) < (0)) := e
          refine w_pl (pc' := 19) (lv' := [(0, (2, ((0 : Nat) : Int))), (1, (0, ((c' : Nat) : Int))), (2, (0, (w)))]) (st' := [(0, (w))]) (h' := h) (o133_8 hB) rfl ?_
          refine w_pl (pc' := 20) (lv' := [(0, (2, ((0 : Nat) : Int))), (1, (0, ((c' : Nat) : Int))), (2, (0, (w)))]) (st' := [(0, ((1 : Nat) : Int)), (0, (w))]) (h' := h) (o133_9 hB) rfl ?_
          refine w_icmp (pt := 25) (pf := 23) (o133_10 hB) (by decide) rfl (fun e => ?_) (fun e => ?_)
          · have f1025 : ((w) ≤ ((1 : Nat) : Int)) := e
            refine w_pl (pc' := 26) (lv' := [(0, (2, ((0 : Nat) : Int))), (1, (0, ((c' : Nat) : Int))), (2, (0, (w)))]) (st' := [(0, (w))]) (h' := h) (o133_13 hB) rfl ?_
            refine w_ifc (pt := 43) (pf := 29) (o133_14 hB) (by decide) rfl (fun e => ?_) (fun e => ?_)
            · have f1026 : ((w) ≠ (0)) := e
              refine w_pl (pc' := 44) (lv' := [(0, (2, ((0 : Nat) : Int))), (1, (0, ((c' : Nat) : Int))), (2, (0, (w)))]) (st' := [(2, ((0 : Nat) : Int))]) (h' := h) (o133_21 hB) rfl ?_
              refine w_getf (A := 0) (t := 2) (z := ((1 : Nat) : Int)) (pc' := 47) (o133_22 hB) rfl (by decide +kernel) (hR (0, 0, 1) (by decide)) ?_
              refine w_getf (A := 1) (t := 2) (z := ((2 : Nat) : Int)) (pc' := 50) (o133_23 hB) rfl (by decide +kernel) (hR (1, 0, 2) (by decide)) ?_
              refine w_pl (pc' := 51) (lv' := [(0, (2, ((0 : Nat) : Int))), (1, (0, ((c' : Nat) : Int))), (2, (0, (w)))]) (st' := [(0, ((c' : Nat) : Int)), (2, ((2 : Nat) : Int))]) (h' := h) (o133_24 hB) rfl ?_
              refine w_callV (A := 2) (as := [(0, ((c' : Nat) : Int))]) (rest := []) (n := 1) (pc' := 54) 3 hB (o133_25 hB) rfl (by decide +kernel) rfl rfl (Nat.le_of_ble_eq_true rfl) (m_lookAt hB ht (by omega) hsb hlb (fun f1027 => ?_) (fun f1028 => ?_) (fun f1029 => ?_))
              · show HW g l _ 133 _ _ 54 [(0, (2, ((0 : Nat) : Int))), (1, (0, ((c' : Nat) : Int))), (2, (0, (w)))] [(0, (-4))] h
                exact w_iret (o133_26 hB) mr133 (by unfold in32; omega) (a3 (by omega))
              · show HW g l _ 133 _ _ 54 [(0, (2, ((0 : Nat) : Int))), (1, (0, ((c' : Nat) : Int))), (2, (0, (w)))] [(0, ((0 : Nat) : Int))] h
                exact w_iret (o133_26 hB) mr133 (by unfold in32; omega) (a4 (by omega))
              · show HW g l _ 133 _ _ 54 [(0, (2, ((0 : Nat) : Int))), (1, (0, ((c' : Nat) : Int))), (2, (0, (w)))] [(0, ((1 : Nat) : Int))] (hup h 2 (10) (orI lb (shlI 1 ((c' : Nat) : Int))))
                exact w_iret (o133_26 hB) mr133 (by unfold in32; omega) (a5 (by omega))
            · have f1030 : ¬ ((w) ≠ (0)) := e
              refine w_pl (pc' := 30) (lv' := [(0, (2, ((0 : Nat) : Int))), (1, (0, ((c' : Nat) : Int))), (2, (0, (w)))]) (st' := [(2, ((0 : Nat) : Int))]) (h' := h) (o133_15 hB) rfl ?_
              refine w_getf (A := 0) (t := 2) (z := ((1 : Nat) : Int)) (pc' := 33) (o133_16 hB) rfl (by decide +kernel) (hR (0, 0, 1) (by decide)) ?_
              refine w_getf (A := 1) (t := 2) (z := ((2 : Nat) : Int)) (pc' := 36) (o133_17 hB) rfl (by decide +kernel) (hR (1, 0, 2) (by decide)) ?_
              refine w_pl (pc' := 37) (lv' := [(0, (2, ((0 : Nat) : Int))), (1, (0, ((c' : Nat) : Int))), (2, (0, (w)))]) (st' := [(0, ((c' : Nat) : Int)), (2, ((2 : Nat) : Int))]) (h' := h) (o133_18 hB) rfl ?_
              refine w_callV (A := 2) (as := [(0, ((c' : Nat) : Int))]) (rest := []) (n := 1) (pc' := 40) 3 hB (o133_19 hB) rfl (by decide +kernel) rfl rfl (Nat.le_of_ble_eq_true rfl) (m_swearTo hB ht (by omega) hsb hlb (fun f1031 => ?_) (fun f1032 => ?_))
              · show HW g l _ 133 _ _ 40 [(0, (2, ((0 : Nat) : Int))), (1, (0, ((c' : Nat) : Int))), (2, (0, (w)))] [(0, ((0 : Nat) : Int))] h
                refine w_goto (pt := 54) (o133_20 hB) (by decide) ?_
                exact w_iret (o133_26 hB) mr133 (by unfold in32; omega) (a1 (by omega))
              · show HW g l _ 133 _ _ 40 [(0, (2, ((0 : Nat) : Int))), (1, (0, ((c' : Nat) : Int))), (2, (0, (w)))] [(0, ((1 : Nat) : Int))] (hup h 2 (9) (orI sb (shlI 1 ((c' : Nat) : Int))))
                refine w_goto (pt := 54) (o133_20 hB) (by decide) ?_
                exact w_iret (o133_26 hB) mr133 (by unfold in32; omega) (a2 (by omega))
          · have f1033 : ¬ ((w) ≤ ((1 : Nat) : Int)) := e
            refine w_pl (pc' := 24) (lv' := [(0, (2, ((0 : Nat) : Int))), (1, (0, ((c' : Nat) : Int))), (2, (0, (w)))]) (st' := [(0, (-1))]) (h' := h) (o133_11 hB) rfl ?_
            exact w_iret (o133_12 hB) mr133 (by unfold in32; omega) (a0 (by omega))
    · show HW g l _ 133 _ _ 11 [(0, (2, ((0 : Nat) : Int))), (1, (0, ((c' : Nat) : Int))), (2, (0, (w)))] [(0, ((0 : Nat) : Int))] h
      refine w_ifc (pt := 23) (pf := 14) (o133_5 hB) (by decide) rfl (fun e => ?_) (fun e => ?_)
      · have f1034 : (((0 : Nat) : Int) = (0)) := e
        refine w_pl (pc' := 24) (lv' := [(0, (2, ((0 : Nat) : Int))), (1, (0, ((c' : Nat) : Int))), (2, (0, (w)))]) (st' := [(0, (-1))]) (h' := h) (o133_11 hB) rfl ?_
        exact w_iret (o133_12 hB) mr133 (by unfold in32; omega) (a0 (by omega))
      · have f1035 : ¬ (((0 : Nat) : Int) = (0)) := e
        exfalso; omega
def s_swearB (vs : List bV) (h : bH) (r : Option bV) (h' : bH) : Prop := TH h ∧ ∀ (x w : Int) (nc : Nat) (sb : Int) (lb : Int) , vs = [(2, ((0 : Nat) : Int)), (0, x), (0, w)] → h 2 1 = (nc : Int) → h 2 9 = sb → h 2 10 = lb → ((¬ ((0 ≤ x ∧ x < (nc : Int)) ∧ 0 ≤ w ∧ w ≤ 1)) ∧ r = some (0, (-1)) ∧ h = h') ∨ ((((0 ≤ x ∧ x < (nc : Int)) ∧ 0 ≤ w ∧ w ≤ 1) ∧ w = 0 ∧ andI (shrI sb x) 1 ≠ 0) ∧ r = some (0, 0) ∧ h = h') ∨ ((((0 ≤ x ∧ x < (nc : Int)) ∧ 0 ≤ w ∧ w ≤ 1) ∧ w = 0 ∧ andI (shrI sb x) 1 = 0) ∧ r = some (0, 1) ∧ h' = (hup h 2 (9) (orI sb (shlI 1 x)))) ∨ ((((0 ≤ x ∧ x < (nc : Int)) ∧ 0 ≤ w ∧ w ≤ 1) ∧ w = 1 ∧ andI (shrI sb x) 1 = 0) ∧ r = some (0, (-4)) ∧ h = h') ∨ ((((0 ≤ x ∧ x < (nc : Int)) ∧ 0 ≤ w ∧ w ≤ 1) ∧ w = 1 ∧ andI (shrI sb x) 1 ≠ 0 ∧ andI (shrI lb x) 1 ≠ 0) ∧ r = some (0, 0) ∧ h = h') ∨ ((((0 ≤ x ∧ x < (nc : Int)) ∧ 0 ≤ w ∧ w ≤ 1) ∧ w = 1 ∧ andI (shrI sb x) 1 ≠ 0 ∧ andI (shrI lb x) 1 = 0) ∧ r = some (0, 1) ∧ h' = (hup h 2 (10) (orI lb (shlI 1 x))))
def w_swearB : List (Nat × Nat × Nat) := [(2, 9, 10), (2, 10, 11)]
def q_swearB : aCt := cH 133 2 w_swearB 2 0
theorem sk_swearB (hB : BytesOK) (g : bG) (l : Launch) : SK g l gT q_swearB s_swearB := by
  intro d hd ρ h Q hcore hQ
  have hcore : core (PofW gT (some w_swearB) false) (gsc g) h ρ h (List.replicate 2 r32, [], [], 212) := hcore
  have ht := hTH hcore
  have y0 := r32_0 hcore 0 (by decide)
  have y1 := r32_0 hcore 1 (by decide)
  have y00 := y0
  unfold in32 at y00
  have y01 := y1
  unfold in32 at y01
  obtain ⟨nc, hnc, lnc⟩ := nat_to ht (a := 2) (j := 1) (n := 16) (by decide +kernel)
  have r_sb := ty_2_c9 ht
  have r_lb := ty_2_c10 ht
  obtain ⟨d', rfl⟩ : ∃ d', d = d' + 1 + 1 := ⟨d - 2, by have : 2 ≤ d := hd; omega⟩
  rw [show evS ρ (ctA q_swearB) = [(2, ((0 : Nat) : Int)), (0, ρ 0), (0, ρ 1)] from evA2]
  refine m_swearB (x := ρ 0) (w := ρ 1) hB ht y0 y1 hnc lnc rfl rfl (fun hn => ?_) (fun hn => ?_) (fun hn => ?_) (fun hn => ?_) (fun hn => ?_) (fun hn => ?_)
  · refine hQ _ _ (hpost hcore (ht) (fun _ _ _ => rfl) (by unfold in32; omega)) ⟨ht, fun x w c_nc v_sb v_lb hv e_nc e_sb e_lb => ?_⟩
    have hv := (evA2 (ρ := ρ)).symm.trans hv
    obtain ⟨rfl, rfl⟩ := vsA2 hv
    obtain rfl : c_nc = nc := by have := e_nc.symm.trans hnc; omega
    subst e_sb
    subst e_lb
    exact Or.inl ⟨hn, rfl, rfl⟩
  · refine hQ _ _ (hpost hcore (ht) (fun _ _ _ => rfl) (by unfold in32; omega)) ⟨ht, fun x w c_nc v_sb v_lb hv e_nc e_sb e_lb => ?_⟩
    have hv := (evA2 (ρ := ρ)).symm.trans hv
    obtain ⟨rfl, rfl⟩ := vsA2 hv
    obtain rfl : c_nc = nc := by have := e_nc.symm.trans hnc; omega
    subst e_sb
    subst e_lb
    exact Or.inr (Or.inl ⟨hn, rfl, rfl⟩)
  · refine hQ _ _ (hpost hcore ((ht).upc (a := 2) (j := 9) (lo := (-2147483648)) (hi := 2147483647) (by decide +kernel) (orI_in _ _)) (fr_up (fun _ _ _ => rfl) (wr_in (lo := 9) (hi := 10) (by decide) (by omega) (by omega))) (by unfold in32; omega)) ⟨ht, fun x w c_nc v_sb v_lb hv e_nc e_sb e_lb => ?_⟩
    have hv := (evA2 (ρ := ρ)).symm.trans hv
    obtain ⟨rfl, rfl⟩ := vsA2 hv
    obtain rfl : c_nc = nc := by have := e_nc.symm.trans hnc; omega
    subst e_sb
    subst e_lb
    exact Or.inr (Or.inr (Or.inl ⟨hn, rfl, rfl⟩))
  · refine hQ _ _ (hpost hcore (ht) (fun _ _ _ => rfl) (by unfold in32; omega)) ⟨ht, fun x w c_nc v_sb v_lb hv e_nc e_sb e_lb => ?_⟩
    have hv := (evA2 (ρ := ρ)).symm.trans hv
    obtain ⟨rfl, rfl⟩ := vsA2 hv
    obtain rfl : c_nc = nc := by have := e_nc.symm.trans hnc; omega
    subst e_sb
    subst e_lb
    exact Or.inr (Or.inr (Or.inr (Or.inl ⟨hn, rfl, rfl⟩)))
  · refine hQ _ _ (hpost hcore (ht) (fun _ _ _ => rfl) (by unfold in32; omega)) ⟨ht, fun x w c_nc v_sb v_lb hv e_nc e_sb e_lb => ?_⟩
    have hv := (evA2 (ρ := ρ)).symm.trans hv
    obtain ⟨rfl, rfl⟩ := vsA2 hv
    obtain rfl : c_nc = nc := by have := e_nc.symm.trans hnc; omega
    subst e_sb
    subst e_lb
    exact Or.inr (Or.inr (Or.inr (Or.inr (Or.inl ⟨hn, rfl, rfl⟩))))
  · refine hQ _ _ (hpost hcore ((ht).upc (a := 2) (j := 10) (lo := (-2147483648)) (hi := 2147483647) (by decide +kernel) (orI_in _ _)) (fr_up (fun _ _ _ => rfl) (wr_in (lo := 10) (hi := 11) (by decide) (by omega) (by omega))) (by unfold in32; omega)) ⟨ht, fun x w c_nc v_sb v_lb hv e_nc e_sb e_lb => ?_⟩
    have hv := (evA2 (ρ := ρ)).symm.trans hv
    obtain ⟨rfl, rfl⟩ := vsA2 hv
    obtain rfl : c_nc = nc := by have := e_nc.symm.trans hnc; omega
    subst e_sb
    subst e_lb
    exact Or.inr (Or.inr (Or.inr (Or.inr (Or.inr (⟨hn, rfl, rfl⟩)))))
theorem m_swearM (hB : BytesOK) {g : bG} {l : Launch} {d : Nat} {Q : bQ} {h : bH} {x w : Int} (ht : TH h) (z_x : in32 x) (z_w : in32 w) {nc : Nat} (hnc : h 194 1 = (nc : Int)) (lnc : nc ≤ 16) {yy : Int} (hyy : h 194 (16 + 8 * x.toNat + 7) = yy)  (a0 : ¬ ((0 ≤ x ∧ x < (nc : Int)) ∧ 0 ≤ w ∧ w ≤ 1) → Q (some (0, (-1))) h) (a1 : ((0 ≤ x ∧ x < (nc : Int)) ∧ 0 ≤ w ∧ w ≤ 1) ∧ w = 1 ∧ andI yy 1 = 0 → Q (some (0, (-4))) h) (a2 : ((0 ≤ x ∧ x < (nc : Int)) ∧ 0 ≤ w ∧ w ≤ 1) ∧ ¬ (w = 1 ∧ andI yy 1 = 0) ∧ yy = orI yy (shlI 1 w) → Q (some (0, 0)) (hup h 194 (16 + 8 * (x.toNat) + 7) (orI yy (shlI 1 w)))) (a3 : ((0 ≤ x ∧ x < (nc : Int)) ∧ 0 ≤ w ∧ w ≤ 1) ∧ ¬ (w = 1 ∧ andI yy 1 = 0) ∧ yy ≠ orI yy (shlI 1 w) → Q (some (0, 1)) (hup h 194 (16 + 8 * (x.toNat) + 7) (orI yy (shlI 1 w)))) : MH g l (d + 1 + 1) 208 212 212 [(2, ((193 : Nat) : Int)), (0, (x)), (0, (w))] h Q := by
  have hR := ht.r
  have z0_x := z_x
  have z0_w := z_w
  unfold in32 at z0_x
  unfold in32 at z0_w
  rcases (by omega : ¬ (0 ≤ x ∧ x < (nc : Int)) ∨ (0 ≤ x ∧ x < (nc : Int))) with gg | gg
  · skip
    refine mh_go hB mg208 ml208 (Nat.le_of_ble_eq_true rfl) ?_
    show HW g l (d + 1 + 1) 208 _ _ 0 [(0, (2, ((193 : Nat) : Int))), (1, (0, (x))), (2, (0, (w)))] [] h
    refine w_pl (pc' := 1) (lv' := [(0, (2, ((193 : Nat) : Int))), (1, (0, (x))), (2, (0, (w)))]) (st' := [(2, ((193 : Nat) : Int))]) (h' := h) (o208_0 hB) rfl ?_
    refine w_pl (pc' := 2) (lv' := [(0, (2, ((193 : Nat) : Int))), (1, (0, (x))), (2, (0, (w)))]) (st' := [(0, (x)), (2, ((193 : Nat) : Int))]) (h' := h) (o208_1 hB) rfl ?_
    refine w_callV (A := 193) (as := [(0, (x))]) (rest := []) (n := 1) (pc' := 5) 11 hB (o208_2 hB) rfl (by decide +kernel) rfl rfl (Nat.le_of_ble_eq_true rfl) (m_isClaim hB ht hnc lnc (fun f1060 => ?_) (fun f1061 => ?_))
    · exfalso; omega
    · show HW g l _ 208 _ _ 5 [(0, (2, ((193 : Nat) : Int))), (1, (0, (x))), (2, (0, (w)))] [(0, ((0 : Nat) : Int))] h
      refine w_ifc (pt := 17) (pf := 8) (o208_3 hB) (by decide) rfl (fun e => ?_) (fun e => ?_)
      · have f1062 : (((0 : Nat) : Int) = (0)) := e
        refine w_pl (pc' := 18) (lv' := [(0, (2, ((193 : Nat) : Int))), (1, (0, (x))), (2, (0, (w)))]) (st' := [(0, (-1))]) (h' := h) (o208_9 hB) rfl ?_
        exact w_iret (o208_10 hB) mr208 (by unfold in32; omega) (a0 (by omega))
      · have f1063 : ¬ (((0 : Nat) : Int) = (0)) := e
        exfalso; omega
  · obtain ⟨c', e_c⟩ : ∃ q : Nat, x = q := ⟨x.toNat, by omega⟩
    subst e_c
    simp only [Int.toNat_natCast] at hyy a2 a3
    refine mh_go hB mg208 ml208 (Nat.le_of_ble_eq_true rfl) ?_
    show HW g l (d + 1 + 1) 208 _ _ 0 [(0, (2, ((193 : Nat) : Int))), (1, (0, ((c' : Nat) : Int))), (2, (0, (w)))] [] h
    refine w_pl (pc' := 1) (lv' := [(0, (2, ((193 : Nat) : Int))), (1, (0, ((c' : Nat) : Int))), (2, (0, (w)))]) (st' := [(2, ((193 : Nat) : Int))]) (h' := h) (o208_0 hB) rfl ?_
    refine w_pl (pc' := 2) (lv' := [(0, (2, ((193 : Nat) : Int))), (1, (0, ((c' : Nat) : Int))), (2, (0, (w)))]) (st' := [(0, ((c' : Nat) : Int)), (2, ((193 : Nat) : Int))]) (h' := h) (o208_1 hB) rfl ?_
    refine w_callV (A := 193) (as := [(0, ((c' : Nat) : Int))]) (rest := []) (n := 1) (pc' := 5) 11 hB (o208_2 hB) rfl (by decide +kernel) rfl rfl (Nat.le_of_ble_eq_true rfl) (m_isClaim hB ht hnc lnc (fun f1064 => ?_) (fun f1065 => ?_))
    · show HW g l _ 208 _ _ 5 [(0, (2, ((193 : Nat) : Int))), (1, (0, ((c' : Nat) : Int))), (2, (0, (w)))] [(0, ((1 : Nat) : Int))] h
      refine w_ifc (pt := 17) (pf := 8) (o208_3 hB) (by decide) rfl (fun e => ?_) (fun e => ?_)
      · have f1066 : (((1 : Nat) : Int) = (0)) := e
        exfalso; omega
      · have f1067 : ¬ (((1 : Nat) : Int) = (0)) := e
        refine w_pl (pc' := 9) (lv' := [(0, (2, ((193 : Nat) : Int))), (1, (0, ((c' : Nat) : Int))), (2, (0, (w)))]) (st' := [(0, (w))]) (h' := h) (o208_4 hB) rfl ?_
        refine w_pl (pc' := 10) (lv' := [(0, (2, ((193 : Nat) : Int))), (1, (0, ((c' : Nat) : Int))), (2, (0, (w)))]) (st' := [(0, ((0 : Nat) : Int)), (0, (w))]) (h' := h) (o208_5 hB) rfl ?_
        refine w_pl (pc' := 11) (lv' := [(0, (2, ((193 : Nat) : Int))), (1, (0, ((c' : Nat) : Int))), (2, (0, (w)))]) (st' := [(0, ((1 : Nat) : Int)), (0, ((0 : Nat) : Int)), (0, (w))]) (h' := h) (o208_6 hB) rfl ?_
        refine w_callS (as := [(0, (w)), (0, ((0 : Nat) : Int)), (0, ((1 : Nat) : Int))]) (rest := []) (n := 3) (pc' := 14) hB (o208_7 hB) rfl (by decide +kernel) rfl rfl (Nat.le_of_ble_eq_true rfl) (m_in hB (fun f1068 => ?_) (fun f1069 => ?_))
        · show HW g l _ 208 _ _ 14 [(0, (2, ((193 : Nat) : Int))), (1, (0, ((c' : Nat) : Int))), (2, (0, (w)))] [(0, ((1 : Nat) : Int))] h
          refine w_ifc (pt := 19) (pf := 17) (o208_8 hB) (by decide) rfl (fun e => ?_) (fun e => ?_)
          · have f1070 : (((1 : Nat) : Int) ≠ (0)) := e
            refine w_pl (pc' := 21) (lv' := [(0, (2, ((193 : Nat) : Int))), (1, (0, ((c' : Nat) : Int))), (2, (0, (w)))]) (st' := [(0, ((16 : Nat) : Int))]) (h' := h) (o208_11 hB) rfl ?_
            refine w_pl (pc' := 23) (lv' := [(0, (2, ((193 : Nat) : Int))), (1, (0, ((c' : Nat) : Int))), (2, (0, (w)))]) (st' := [(0, ((8 : Nat) : Int)), (0, ((16 : Nat) : Int))]) (h' := h) (o208_12 hB) rfl ?_
            refine w_pl (pc' := 24) (lv' := [(0, (2, ((193 : Nat) : Int))), (1, (0, ((c' : Nat) : Int))), (2, (0, (w)))]) (st' := [(0, ((c' : Nat) : Int)), (0, ((8 : Nat) : Int)), (0, ((16 : Nat) : Int))]) (h' := h) (o208_13 hB) rfl ?_
            refine w_imul (z := (((8 * c') : Nat) : Int)) (pc' := 25) (o208_14 hB) rfl (w32_e (by omega) (by omega)) ?_
            refine w_iadd (z := (((16 + (8 * c')) : Nat) : Int)) (pc' := 26) (o208_15 hB) rfl (w32_e (by omega) (by omega)) ?_
            refine w_pl (pc' := 28) (lv' := [(0, (2, ((193 : Nat) : Int))), (1, (0, ((c' : Nat) : Int))), (2, (0, (w)))]) (st' := [(0, ((7 : Nat) : Int)), (0, (((16 + (8 * c')) : Nat) : Int))]) (h' := h) (o208_16 hB) rfl ?_
            refine w_iadd (z := ((((16 + (8 * c')) + 7) : Nat) : Int)) (pc' := 29) (o208_17 hB) rfl (w32_e (by omega) (by omega)) ?_
            refine w_st (tg := 0) (j := 3) (len := 1) (pc' := 30) (lv' := [(3, (0, ((((16 + (8 * c')) + 7) : Nat) : Int))), (0, (2, ((193 : Nat) : Int))), (1, (0, ((c' : Nat) : Int))), (2, (0, (w)))]) (o208_18 hB) rfl rfl ml208 (by decide) rfl ?_
            refine w_pl (pc' := 31) (lv' := [(3, (0, ((((16 + (8 * c')) + 7) : Nat) : Int))), (0, (2, ((193 : Nat) : Int))), (1, (0, ((c' : Nat) : Int))), (2, (0, (w)))]) (st' := [(0, (w))]) (h' := h) (o208_19 hB) rfl ?_
            refine w_pl (pc' := 32) (lv' := [(3, (0, ((((16 + (8 * c')) + 7) : Nat) : Int))), (0, (2, ((193 : Nat) : Int))), (1, (0, ((c' : Nat) : Int))), (2, (0, (w)))]) (st' := [(0, ((1 : Nat) : Int)), (0, (w))]) (h' := h) (o208_20 hB) rfl ?_
            refine w_icmp (pt := 49) (pf := 35) (o208_21 hB) (by decide) rfl (fun e => ?_) (fun e => ?_)
            · have f1071 : ((w) ≠ ((1 : Nat) : Int)) := e
              refine w_pl (pc' := 50) (lv' := [(3, (0, ((((16 + (8 * c')) + 7) : Nat) : Int))), (0, (2, ((193 : Nat) : Int))), (1, (0, ((c' : Nat) : Int))), (2, (0, (w)))]) (st' := [(2, ((193 : Nat) : Int))]) (h' := h) (o208_31 hB) rfl ?_
              refine w_getf (A := 193) (t := 2) (z := ((194 : Nat) : Int)) (pc' := 53) (o208_32 hB) rfl (by decide +kernel) (hR (193, 0, 194) (by decide)) ?_
              refine w_pl (pc' := 54) (lv' := [(3, (0, ((((16 + (8 * c')) + 7) : Nat) : Int))), (0, (2, ((193 : Nat) : Int))), (1, (0, ((c' : Nat) : Int))), (2, (0, (w)))]) (st' := [(0, ((((16 + (8 * c')) + 7) : Nat) : Int)), (2, ((194 : Nat) : Int))]) (h' := h) (o208_33 hB) rfl ?_
              refine w_iald (A := 194) (i := ((16 + (8 * c')) + 7)) (n := 1984) (z := (yy)) (pc' := 55) (o208_34 hB) rfl (by decide +kernel) (by omega) hyy ?_
              refine w_st (tg := 0) (j := 4) (len := 2) (pc' := 57) (lv' := [(4, (0, (yy))), (3, (0, ((((16 + (8 * c')) + 7) : Nat) : Int))), (0, (2, ((193 : Nat) : Int))), (1, (0, ((c' : Nat) : Int))), (2, (0, (w)))]) (o208_35 hB) rfl rfl ml208 (by decide) rfl ?_
              refine w_pl (pc' := 58) (lv' := [(4, (0, (yy))), (3, (0, ((((16 + (8 * c')) + 7) : Nat) : Int))), (0, (2, ((193 : Nat) : Int))), (1, (0, ((c' : Nat) : Int))), (2, (0, (w)))]) (st' := [(2, ((193 : Nat) : Int))]) (h' := h) (o208_36 hB) rfl ?_
              refine w_getf (A := 193) (t := 2) (z := ((194 : Nat) : Int)) (pc' := 61) (o208_37 hB) rfl (by decide +kernel) (hR (193, 0, 194) (by decide)) ?_
              refine w_pl (pc' := 62) (lv' := [(4, (0, (yy))), (3, (0, ((((16 + (8 * c')) + 7) : Nat) : Int))), (0, (2, ((193 : Nat) : Int))), (1, (0, ((c' : Nat) : Int))), (2, (0, (w)))]) (st' := [(0, ((((16 + (8 * c')) + 7) : Nat) : Int)), (2, ((194 : Nat) : Int))]) (h' := h) (o208_38 hB) rfl ?_
              refine w_pl (pc' := 63) (lv' := [(4, (0, (yy))), (3, (0, ((((16 + (8 * c')) + 7) : Nat) : Int))), (0, (2, ((193 : Nat) : Int))), (1, (0, ((c' : Nat) : Int))), (2, (0, (w)))]) (st' := [(0, ((((16 + (8 * c')) + 7) : Nat) : Int)), (2, ((194 : Nat) : Int)), (0, ((((16 + (8 * c')) + 7) : Nat) : Int)), (2, ((194 : Nat) : Int))]) (h' := h) (o208_39 hB) rfl ?_
              refine w_iald (A := 194) (i := ((16 + (8 * c')) + 7)) (n := 1984) (z := (yy)) (pc' := 64) (o208_40 hB) rfl (by decide +kernel) (by omega) hyy ?_
              refine w_pl (pc' := 65) (lv' := [(4, (0, (yy))), (3, (0, ((((16 + (8 * c')) + 7) : Nat) : Int))), (0, (2, ((193 : Nat) : Int))), (1, (0, ((c' : Nat) : Int))), (2, (0, (w)))]) (st' := [(0, ((1 : Nat) : Int)), (0, (yy)), (0, ((((16 + (8 * c')) + 7) : Nat) : Int)), (2, ((194 : Nat) : Int))]) (h' := h) (o208_41 hB) rfl ?_
              refine w_pl (pc' := 66) (lv' := [(4, (0, (yy))), (3, (0, ((((16 + (8 * c')) + 7) : Nat) : Int))), (0, (2, ((193 : Nat) : Int))), (1, (0, ((c' : Nat) : Int))), (2, (0, (w)))]) (st' := [(0, (w)), (0, ((1 : Nat) : Int)), (0, (yy)), (0, ((((16 + (8 * c')) + 7) : Nat) : Int)), (2, ((194 : Nat) : Int))]) (h' := h) (o208_42 hB) rfl ?_
              refine w_ishl (z := (shlI 1 (w))) (pc' := 67) (o208_43 hB) rfl rfl ?_
              refine w_ior (z := (orI (yy) (shlI 1 (w)))) (pc' := 68) (o208_44 hB) rfl rfl ?_
              refine w_iast (A := 194) (i := ((16 + (8 * c')) + 7)) (n := 1984) (pc' := 69) (o208_45 hB) rfl (by decide +kernel) (by omega) ?_
              refine w_pl (pc' := 71) (lv' := [(4, (0, (yy))), (3, (0, ((((16 + (8 * c')) + 7) : Nat) : Int))), (0, (2, ((193 : Nat) : Int))), (1, (0, ((c' : Nat) : Int))), (2, (0, (w)))]) (st' := [(0, (yy))]) (h' := (hup h 194 (((16 + (8 * c')) + 7)) (orI (yy) (shlI 1 (w))))) (o208_46 hB) rfl ?_
              refine w_pl (pc' := 72) (lv' := [(4, (0, (yy))), (3, (0, ((((16 + (8 * c')) + 7) : Nat) : Int))), (0, (2, ((193 : Nat) : Int))), (1, (0, ((c' : Nat) : Int))), (2, (0, (w)))]) (st' := [(2, ((193 : Nat) : Int)), (0, (yy))]) (h' := (hup h 194 (((16 + (8 * c')) + 7)) (orI (yy) (shlI 1 (w))))) (o208_47 hB) rfl ?_
              refine w_getf (A := 193) (t := 2) (z := ((194 : Nat) : Int)) (pc' := 75) (o208_48 hB) rfl (by decide +kernel) ((hup_ne (by decide)).trans (hR (193, 0, 194) (by decide))) ?_
              refine w_pl (pc' := 76) (lv' := [(4, (0, (yy))), (3, (0, ((((16 + (8 * c')) + 7) : Nat) : Int))), (0, (2, ((193 : Nat) : Int))), (1, (0, ((c' : Nat) : Int))), (2, (0, (w)))]) (st' := [(0, ((((16 + (8 * c')) + 7) : Nat) : Int)), (2, ((194 : Nat) : Int)), (0, (yy))]) (h' := (hup h 194 (((16 + (8 * c')) + 7)) (orI (yy) (shlI 1 (w))))) (o208_49 hB) rfl ?_
              refine w_iald (A := 194) (i := ((16 + (8 * c')) + 7)) (n := 1984) (z := ((orI (yy) (shlI 1 (w))))) (pc' := 77) (o208_50 hB) rfl (by decide +kernel) (by omega) (hup_eq) ?_
              refine w_icmp (pt := 84) (pf := 80) (o208_51 hB) (by decide) rfl (fun e => ?_) (fun e => ?_)
              · have f1072 : ((yy) ≠ ((orI (yy) (shlI 1 (w))))) := e
                refine w_pl (pc' := 85) (lv' := [(4, (0, (yy))), (3, (0, ((((16 + (8 * c')) + 7) : Nat) : Int))), (0, (2, ((193 : Nat) : Int))), (1, (0, ((c' : Nat) : Int))), (2, (0, (w)))]) (st' := [(0, ((1 : Nat) : Int))]) (h' := (hup h 194 (((16 + (8 * c')) + 7)) (orI (yy) (shlI 1 (w))))) (o208_54 hB) rfl ?_
                exact w_iret (o208_55 hB) mr208 (by unfold in32; omega) (a3 (by omega))
              · have f1073 : ¬ ((yy) ≠ ((orI (yy) (shlI 1 (w))))) := e
                refine w_pl (pc' := 81) (lv' := [(4, (0, (yy))), (3, (0, ((((16 + (8 * c')) + 7) : Nat) : Int))), (0, (2, ((193 : Nat) : Int))), (1, (0, ((c' : Nat) : Int))), (2, (0, (w)))]) (st' := [(0, ((0 : Nat) : Int))]) (h' := (hup h 194 (((16 + (8 * c')) + 7)) (orI (yy) (shlI 1 (w))))) (o208_52 hB) rfl ?_
                refine w_goto (pt := 85) (o208_53 hB) (by decide) ?_
                exact w_iret (o208_55 hB) mr208 (by unfold in32; omega) (a2 (by omega))
            · have f1074 : ¬ ((w) ≠ ((1 : Nat) : Int)) := e
              refine w_pl (pc' := 36) (lv' := [(3, (0, ((((16 + (8 * c')) + 7) : Nat) : Int))), (0, (2, ((193 : Nat) : Int))), (1, (0, ((c' : Nat) : Int))), (2, (0, (w)))]) (st' := [(2, ((193 : Nat) : Int))]) (h' := h) (o208_22 hB) rfl ?_
              refine w_getf (A := 193) (t := 2) (z := ((194 : Nat) : Int)) (pc' := 39) (o208_23 hB) rfl (by decide +kernel) (hR (193, 0, 194) (by decide)) ?_
              refine w_pl (pc' := 40) (lv' := [(3, (0, ((((16 + (8 * c')) + 7) : Nat) : Int))), (0, (2, ((193 : Nat) : Int))), (1, (0, ((c' : Nat) : Int))), (2, (0, (w)))]) (st' := [(0, ((((16 + (8 * c')) + 7) : Nat) : Int)), (2, ((194 : Nat) : Int))]) (h' := h) (o208_24 hB) rfl ?_
              refine w_iald (A := 194) (i := ((16 + (8 * c')) + 7)) (n := 1984) (z := (yy)) (pc' := 41) (o208_25 hB) rfl (by decide +kernel) (by omega) hyy ?_
              refine w_pl (pc' := 42) (lv' := [(3, (0, ((((16 + (8 * c')) + 7) : Nat) : Int))), (0, (2, ((193 : Nat) : Int))), (1, (0, ((c' : Nat) : Int))), (2, (0, (w)))]) (st' := [(0, ((1 : Nat) : Int)), (0, (yy))]) (h' := h) (o208_26 hB) rfl ?_
              refine w_iand (z := (andI (yy) 1)) (pc' := 43) (o208_27 hB) rfl rfl ?_
              refine w_ifc (pt := 49) (pf := 46) (o208_28 hB) (by decide) rfl (fun e => ?_) (fun e => ?_)
              · have f1075 : ((andI (yy) 1) ≠ (0)) := e
                refine w_pl (pc' := 50) (lv' := [(3, (0, ((((16 + (8 * c')) + 7) : Nat) : Int))), (0, (2, ((193 : Nat) : Int))), (1, (0, ((c' : Nat) : Int))), (2, (0, (w)))]) (st' := [(2, ((193 : Nat) : Int))]) (h' := h) (o208_31 hB) rfl ?_
                refine w_getf (A := 193) (t := 2) (z := ((194 : Nat) : Int)) (pc' := 53) (o208_32 hB) rfl (by decide +kernel) (hR (193, 0, 194) (by decide)) ?_
                refine w_pl (pc' := 54) (lv' := [(3, (0, ((((16 + (8 * c')) + 7) : Nat) : Int))), (0, (2, ((193 : Nat) : Int))), (1, (0, ((c' : Nat) : Int))), (2, (0, (w)))]) (st' := [(0, ((((16 + (8 * c')) + 7) : Nat) : Int)), (2, ((194 : Nat) : Int))]) (h' := h) (o208_33 hB) rfl ?_
                refine w_iald (A := 194) (i := ((16 + (8 * c')) + 7)) (n := 1984) (z := (yy)) (pc' := 55) (o208_34 hB) rfl (by decide +kernel) (by omega) hyy ?_
                refine w_st (tg := 0) (j := 4) (len := 2) (pc' := 57) (lv' := [(4, (0, (yy))), (3, (0, ((((16 + (8 * c')) + 7) : Nat) : Int))), (0, (2, ((193 : Nat) : Int))), (1, (0, ((c' : Nat) : Int))), (2, (0, (w)))]) (o208_35 hB) rfl rfl ml208 (by decide) rfl ?_
                refine w_pl (pc' := 58) (lv' := [(4, (0, (yy))), (3, (0, ((((16 + (8 * c')) + 7) : Nat) : Int))), (0, (2, ((193 : Nat) : Int))), (1, (0, ((c' : Nat) : Int))), (2, (0, (w)))]) (st' := [(2, ((193 : Nat) : Int))]) (h' := h) (o208_36 hB) rfl ?_
                refine w_getf (A := 193) (t := 2) (z := ((194 : Nat) : Int)) (pc' := 61) (o208_37 hB) rfl (by decide +kernel) (hR (193, 0, 194) (by decide)) ?_
                refine w_pl (pc' := 62) (lv' := [(4, (0, (yy))), (3, (0, ((((16 + (8 * c')) + 7) : Nat) : Int))), (0, (2, ((193 : Nat) : Int))), (1, (0, ((c' : Nat) : Int))), (2, (0, (w)))]) (st' := [(0, ((((16 + (8 * c')) + 7) : Nat) : Int)), (2, ((194 : Nat) : Int))]) (h' := h) (o208_38 hB) rfl ?_
                refine w_pl (pc' := 63) (lv' := [(4, (0, (yy))), (3, (0, ((((16 + (8 * c')) + 7) : Nat) : Int))), (0, (2, ((193 : Nat) : Int))), (1, (0, ((c' : Nat) : Int))), (2, (0, (w)))]) (st' := [(0, ((((16 + (8 * c')) + 7) : Nat) : Int)), (2, ((194 : Nat) : Int)), (0, ((((16 + (8 * c')) + 7) : Nat) : Int)), (2, ((194 : Nat) : Int))]) (h' := h) (o208_39 hB) rfl ?_
                refine w_iald (A := 194) (i := ((16 + (8 * c')) + 7)) (n := 1984) (z := (yy)) (pc' := 64) (o208_40 hB) rfl (by decide +kernel) (by omega) hyy ?_
                refine w_pl (pc' := 65) (lv' := [(4, (0, (yy))), (3, (0, ((((16 + (8 * c')) + 7) : Nat) : Int))), (0, (2, ((193 : Nat) : Int))), (1, (0, ((c' : Nat) : Int))), (2, (0, (w)))]) (st' := [(0, ((1 : Nat) : Int)), (0, (yy)), (0, ((((16 + (8 * c')) + 7) : Nat) : Int)), (2, ((194 : Nat) : Int))]) (h' := h) (o208_41 hB) rfl ?_
                refine w_pl (pc' := 66) (lv' := [(4, (0, (yy))), (3, (0, ((((16 + (8 * c')) + 7) : Nat) : Int))), (0, (2, ((193 : Nat) : Int))), (1, (0, ((c' : Nat) : Int))), (2, (0, (w)))]) (st' := [(0, (w)), (0, ((1 : Nat) : Int)), (0, (yy)), (0, ((((16 + (8 * c')) + 7) : Nat) : Int)), (2, ((194 : Nat) : Int))]) (h' := h) (o208_42 hB) rfl ?_
                refine w_ishl (z := (shlI 1 (w))) (pc' := 67) (o208_43 hB) rfl rfl ?_
                refine w_ior (z := (orI (yy) (shlI 1 (w)))) (pc' := 68) (o208_44 hB) rfl rfl ?_
                refine w_iast (A := 194) (i := ((16 + (8 * c')) + 7)) (n := 1984) (pc' := 69) (o208_45 hB) rfl (by decide +kernel) (by omega) ?_
                refine w_pl (pc' := 71) (lv' := [(4, (0, (yy))), (3, (0, ((((16 + (8 * c')) + 7) : Nat) : Int))), (0, (2, ((193 : Nat) : Int))), (1, (0, ((c' : Nat) : Int))), (2, (0, (w)))]) (st' := [(0, (yy))]) (h' := (hup h 194 (((16 + (8 * c')) + 7)) (orI (yy) (shlI 1 (w))))) (o208_46 hB) rfl ?_
                refine w_pl (pc' := 72) (lv' := [(4, (0, (yy))), (3, (0, ((((16 + (8 * c')) + 7) : Nat) : Int))), (0, (2, ((193 : Nat) : Int))), (1, (0, ((c' : Nat) : Int))), (2, (0, (w)))]) (st' := [(2, ((193 : Nat) : Int)), (0, (yy))]) (h' := (hup h 194 (((16 + (8 * c')) + 7)) (orI (yy) (shlI 1 (w))))) (o208_47 hB) rfl ?_
                refine w_getf (A := 193) (t := 2) (z := ((194 : Nat) : Int)) (pc' := 75) (o208_48 hB) rfl (by decide +kernel) ((hup_ne (by decide)).trans (hR (193, 0, 194) (by decide))) ?_
                refine w_pl (pc' := 76) (lv' := [(4, (0, (yy))), (3, (0, ((((16 + (8 * c')) + 7) : Nat) : Int))), (0, (2, ((193 : Nat) : Int))), (1, (0, ((c' : Nat) : Int))), (2, (0, (w)))]) (st' := [(0, ((((16 + (8 * c')) + 7) : Nat) : Int)), (2, ((194 : Nat) : Int)), (0, (yy))]) (h' := (hup h 194 (((16 + (8 * c')) + 7)) (orI (yy) (shlI 1 (w))))) (o208_49 hB) rfl ?_
                refine w_iald (A := 194) (i := ((16 + (8 * c')) + 7)) (n := 1984) (z := ((orI (yy) (shlI 1 (w))))) (pc' := 77) (o208_50 hB) rfl (by decide +kernel) (by omega) (hup_eq) ?_
                refine w_icmp (pt := 84) (pf := 80) (o208_51 hB) (by decide) rfl (fun e => ?_) (fun e => ?_)
                · have f1076 : ((yy) ≠ ((orI (yy) (shlI 1 (w))))) := e
                  refine w_pl (pc' := 85) (lv' := [(4, (0, (yy))), (3, (0, ((((16 + (8 * c')) + 7) : Nat) : Int))), (0, (2, ((193 : Nat) : Int))), (1, (0, ((c' : Nat) : Int))), (2, (0, (w)))]) (st' := [(0, ((1 : Nat) : Int))]) (h' := (hup h 194 (((16 + (8 * c')) + 7)) (orI (yy) (shlI 1 (w))))) (o208_54 hB) rfl ?_
                  exact w_iret (o208_55 hB) mr208 (by unfold in32; omega) (a3 (by omega))
                · have f1077 : ¬ ((yy) ≠ ((orI (yy) (shlI 1 (w))))) := e
                  refine w_pl (pc' := 81) (lv' := [(4, (0, (yy))), (3, (0, ((((16 + (8 * c')) + 7) : Nat) : Int))), (0, (2, ((193 : Nat) : Int))), (1, (0, ((c' : Nat) : Int))), (2, (0, (w)))]) (st' := [(0, ((0 : Nat) : Int))]) (h' := (hup h 194 (((16 + (8 * c')) + 7)) (orI (yy) (shlI 1 (w))))) (o208_52 hB) rfl ?_
                  refine w_goto (pt := 85) (o208_53 hB) (by decide) ?_
                  exact w_iret (o208_55 hB) mr208 (by unfold in32; omega) (a2 (by omega))
              · have f1078 : ¬ ((andI (yy) 1) ≠ (0)) := e
                refine w_pl (pc' := 48) (lv' := [(3, (0, ((((16 + (8 * c')) + 7) : Nat) : Int))), (0, (2, ((193 : Nat) : Int))), (1, (0, ((c' : Nat) : Int))), (2, (0, (w)))]) (st' := [(0, (-4))]) (h' := h) (o208_29 hB) rfl ?_
                exact w_iret (o208_30 hB) mr208 (by unfold in32; omega) (a1 (by omega))
          · have f1079 : ¬ (((1 : Nat) : Int) ≠ (0)) := e
            exfalso; omega
        · show HW g l _ 208 _ _ 14 [(0, (2, ((193 : Nat) : Int))), (1, (0, ((c' : Nat) : Int))), (2, (0, (w)))] [(0, ((0 : Nat) : Int))] h
          refine w_ifc (pt := 19) (pf := 17) (o208_8 hB) (by decide) rfl (fun e => ?_) (fun e => ?_)
          · have f1080 : (((0 : Nat) : Int) ≠ (0)) := e
            exfalso; omega
          · have f1081 : ¬ (((0 : Nat) : Int) ≠ (0)) := e
            refine w_pl (pc' := 18) (lv' := [(0, (2, ((193 : Nat) : Int))), (1, (0, ((c' : Nat) : Int))), (2, (0, (w)))]) (st' := [(0, (-1))]) (h' := h) (o208_9 hB) rfl ?_
            exact w_iret (o208_10 hB) mr208 (by unfold in32; omega) (a0 (by omega))
    · show HW g l _ 208 _ _ 5 [(0, (2, ((193 : Nat) : Int))), (1, (0, ((c' : Nat) : Int))), (2, (0, (w)))] [(0, ((0 : Nat) : Int))] h
      refine w_ifc (pt := 17) (pf := 8) (o208_3 hB) (by decide) rfl (fun e => ?_) (fun e => ?_)
      · have f1082 : (((0 : Nat) : Int) = (0)) := e
        refine w_pl (pc' := 18) (lv' := [(0, (2, ((193 : Nat) : Int))), (1, (0, ((c' : Nat) : Int))), (2, (0, (w)))]) (st' := [(0, (-1))]) (h' := h) (o208_9 hB) rfl ?_
        exact w_iret (o208_10 hB) mr208 (by unfold in32; omega) (a0 (by omega))
      · have f1083 : ¬ (((0 : Nat) : Int) = (0)) := e
        exfalso; omega
def s_swearM (vs : List bV) (h : bH) (r : Option bV) (h' : bH) : Prop := TH h ∧ ∀ (x w : Int) (nc : Nat) (yy : Int) , vs = [(2, ((193 : Nat) : Int)), (0, x), (0, w)] → h 194 1 = (nc : Int) → h 194 (16 + 8 * x.toNat + 7) = yy → ((¬ ((0 ≤ x ∧ x < (nc : Int)) ∧ 0 ≤ w ∧ w ≤ 1)) ∧ r = some (0, (-1)) ∧ h = h') ∨ ((((0 ≤ x ∧ x < (nc : Int)) ∧ 0 ≤ w ∧ w ≤ 1) ∧ w = 1 ∧ andI yy 1 = 0) ∧ r = some (0, (-4)) ∧ h = h') ∨ ((((0 ≤ x ∧ x < (nc : Int)) ∧ 0 ≤ w ∧ w ≤ 1) ∧ ¬ (w = 1 ∧ andI yy 1 = 0) ∧ yy = orI yy (shlI 1 w)) ∧ r = some (0, 0) ∧ h' = (hup h 194 (16 + 8 * (x.toNat) + 7) (orI yy (shlI 1 w)))) ∨ ((((0 ≤ x ∧ x < (nc : Int)) ∧ 0 ≤ w ∧ w ≤ 1) ∧ ¬ (w = 1 ∧ andI yy 1 = 0) ∧ yy ≠ orI yy (shlI 1 w)) ∧ r = some (0, 1) ∧ h' = (hup h 194 (16 + 8 * (x.toNat) + 7) (orI yy (shlI 1 w))))
def w_swearM : List (Nat × Nat × Nat) := [(194, 16, 144)]
def q_swearM : aCt := cH 208 2 w_swearM 2 193
theorem sk_swearM (hB : BytesOK) (g : bG) (l : Launch) : SK g l gT q_swearM s_swearM := by
  intro d hd ρ h Q hcore hQ
  have hcore : core (PofW gT (some w_swearM) false) (gsc g) h ρ h (List.replicate 2 r32, [], [], 212) := hcore
  have ht := hTH hcore
  have y0 := r32_0 hcore 0 (by decide)
  have y1 := r32_0 hcore 1 (by decide)
  have y00 := y0
  unfold in32 at y00
  have y01 := y1
  unfold in32 at y01
  obtain ⟨nc, hnc, lnc⟩ := nat_to ht (a := 194) (j := 1) (n := 16) (by decide +kernel)
  obtain ⟨d', rfl⟩ : ∃ d', d = d' + 1 + 1 := ⟨d - 2, by have : 2 ≤ d := hd; omega⟩
  rw [show evS ρ (ctA q_swearM) = [(2, ((193 : Nat) : Int)), (0, ρ 0), (0, ρ 1)] from evA2]
  refine m_swearM (x := ρ 0) (w := ρ 1) hB ht y0 y1 hnc lnc rfl (fun hn => ?_) (fun hn => ?_) (fun hn => ?_) (fun hn => ?_)
  · refine hQ _ _ (hpost hcore (ht) (fun _ _ _ => rfl) (by unfold in32; omega)) ⟨ht, fun x w c_nc v_yy hv e_nc e_yy => ?_⟩
    have hv := (evA2 (ρ := ρ)).symm.trans hv
    obtain ⟨rfl, rfl⟩ := vsA2 hv
    obtain rfl : c_nc = nc := by have := e_nc.symm.trans hnc; omega
    subst e_yy
    exact Or.inl ⟨hn, rfl, rfl⟩
  · refine hQ _ _ (hpost hcore (ht) (fun _ _ _ => rfl) (by unfold in32; omega)) ⟨ht, fun x w c_nc v_yy hv e_nc e_yy => ?_⟩
    have hv := (evA2 (ρ := ρ)).symm.trans hv
    obtain ⟨rfl, rfl⟩ := vsA2 hv
    obtain rfl : c_nc = nc := by have := e_nc.symm.trans hnc; omega
    subst e_yy
    exact Or.inr (Or.inl ⟨hn, rfl, rfl⟩)
  · skip
    obtain ⟨c', e_c9⟩ : ∃ q : Nat, (ρ 0).toNat = q := ⟨_, rfl⟩
    rw [e_c9]
    refine hQ _ _ (hpost hcore ((ht).ups2 (a := 194) (s := 23) (st := 8) (n := 16) (lo := (-2147483648)) (hi := 2147483647) (r := c') (by decide +kernel) (by omega) (by omega) (orI_in _ _)) (fr_up (fun _ _ _ => rfl) (wr_in (lo := 16) (hi := 144) (by decide) (by omega) (by omega))) (by unfold in32; omega)) ⟨ht, fun x w c_nc v_yy hv e_nc e_yy => ?_⟩
    have hv := (evA2 (ρ := ρ)).symm.trans hv
    obtain ⟨rfl, rfl⟩ := vsA2 hv
    obtain rfl : c_nc = nc := by have := e_nc.symm.trans hnc; omega
    subst e_yy
    exact Or.inr (Or.inr (Or.inl ⟨hn, by first | rfl | (rw [e_c9]; done), by rw [e_c9]⟩))
  · skip
    obtain ⟨c', e_c9⟩ : ∃ q : Nat, (ρ 0).toNat = q := ⟨_, rfl⟩
    rw [e_c9]
    refine hQ _ _ (hpost hcore ((ht).ups2 (a := 194) (s := 23) (st := 8) (n := 16) (lo := (-2147483648)) (hi := 2147483647) (r := c') (by decide +kernel) (by omega) (by omega) (orI_in _ _)) (fr_up (fun _ _ _ => rfl) (wr_in (lo := 16) (hi := 144) (by decide) (by omega) (by omega))) (by unfold in32; omega)) ⟨ht, fun x w c_nc v_yy hv e_nc e_yy => ?_⟩
    have hv := (evA2 (ρ := ρ)).symm.trans hv
    obtain ⟨rfl, rfl⟩ := vsA2 hv
    obtain rfl : c_nc = nc := by have := e_nc.symm.trans hnc; omega
    subst e_yy
    exact Or.inr (Or.inr (Or.inr (⟨hn, by first | rfl | (rw [e_c9]; done), by rw [e_c9]⟩)))
