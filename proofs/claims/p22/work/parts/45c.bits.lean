/-! BITS OF A FORM: shifts right, one bit read, set, cleared, where the form parts at that bit -/
theorem i32_nat {x : Int} (h0 : 0 ≤ x) (h1 : x ≤ 2147483647) : (Int32.ofInt x).toBitVec.toNat = x.toNat := by
  have h := i32_ti (x := x) (by unfold in32; omega)
  rw [show (Int32.ofInt x).toInt = (Int32.ofInt x).toBitVec.toInt from rfl, BitVec.toInt_eq_toNat_cond] at h
  split at h <;> omega
theorem i32_of_bv {y : Int32} {n : Nat} (h : y.toBitVec.toNat = n) (hn : n < 2147483648) : y.toInt = (n : Int) := by
  rw [show y.toInt = y.toBitVec.toInt from rfl, BitVec.toInt_eq_toNat_cond, h]
  rw [if_pos (by omega)]
theorem sm31 : ∀ i : Fin 31, ((Int32.ofInt ((i.val : Nat) : Int) &&& 31).toBitVec.smod 32).toNat = i.val := by decide +kernel
theorem shrI_q {x : Int} {i : Nat} (h0 : 0 ≤ x) (h1 : x ≤ 2147483647) (hi : i < 31) : shrI x (i : Int) = x / (2 : Int) ^ i := by
  unfold shrI
  show (BitVec.sshiftRight' (Int32.ofInt x).toBitVec ((Int32.ofInt (i : Int) &&& 31).toBitVec.smod 32)).toInt = _
  rw [BitVec.toInt_sshiftRight', sm31 ⟨i, hi⟩]
  rw [show (Int32.ofInt x).toBitVec.toInt = (Int32.ofInt x).toInt from rfl, i32_ti (by unfold in32; omega), Int.shiftRight_eq_div_pow, show ((2 ^ i : Nat) : Int) = (2 : Int) ^ i by norm_cast]
theorem bv_bit {X : BitVec 32} {i : Nat} (hi : i < 31) : (X &&& BitVec.twoPow 32 i).toNat = if X.toNat / 2 ^ i % 2 = 1 then 2 ^ i else 0 := by
  rw [BitVec.and_twoPow]
  have hb : X.getLsbD i = decide (X.toNat / 2 ^ i % 2 = 1) := by
    rw [← BitVec.testBit_toNat, Nat.testBit_eq_decide_div_mod_eq]
  rw [hb]
  by_cases h : X.toNat / 2 ^ i % 2 = 1
  · rw [if_pos h, if_pos (by simpa using h), BitVec.toNat_twoPow_of_lt (by omega)]
  · rw [if_neg h, if_neg (by simpa using h)]
    rfl
theorem p31 {i : Nat} (hi : i < 31) : ∃ m : Nat, (2 : Int) ^ i = (m : Int) ∧ 2 ^ i = m ∧ m < 2147483648 ∧ 0 < m := by
  refine ⟨2 ^ i, by norm_cast, rfl, ?_, Nat.pow_pos (by decide)⟩
  have : 2 ^ i < 2 ^ 31 := Nat.pow_lt_pow_right (by decide) hi
  simpa using this
theorem i32_pow {i : Nat} (hi : i < 31) : (Int32.ofInt ((2 : Int) ^ i)).toBitVec = BitVec.twoPow 32 i := by
  apply BitVec.eq_of_toNat_eq
  obtain ⟨m, e, em, l, l0⟩ := p31 hi
  rw [e, i32_nat (by omega) (by omega), BitVec.toNat_twoPow_of_lt (by omega), em]
  omega
theorem andI_bit {x : Int} {i : Nat} (h0 : 0 ≤ x) (h1 : x ≤ 2147483647) (hi : i < 31) : andI x ((2 : Int) ^ i) = (2 : Int) ^ i * (x / (2 : Int) ^ i % 2) := by
  unfold andI
  obtain ⟨m, em1, em, l, l0⟩ := p31 hi
  have hx := i32_nat h0 h1
  have hb := bv_bit (X := (Int32.ofInt x).toBitVec) hi
  rw [hx] at hb
  have e : (x / (2 : Int) ^ i % 2) = ((x.toNat / 2 ^ i % 2 : Nat) : Int) := by
    have : x = ((x.toNat : Nat) : Int) := by omega
    rw [this]
    norm_cast
  rw [e]
  have hy : (Int32.ofInt x &&& Int32.ofInt ((2 : Int) ^ i)).toBitVec.toNat = if x.toNat / 2 ^ i % 2 = 1 then 2 ^ i else 0 := by
    show ((Int32.ofInt x).toBitVec &&& (Int32.ofInt ((2 : Int) ^ i)).toBitVec).toNat = _
    rw [i32_pow hi]
    exact hb
  rw [i32_of_bv hy (by rw [em]; split <;> omega)]
  have hm : x.toNat / 2 ^ i % 2 < 2 := Nat.mod_lt _ (by decide)
  by_cases c : x.toNat / 2 ^ i % 2 = 1
  · rw [if_pos c, c, show ((2 ^ i : Nat) : Int) = (2 : Int) ^ i by norm_cast]
    simp
  · have c0 : x.toNat / 2 ^ i % 2 = 0 := by omega
    rw [if_neg c, c0]
    simp
theorem bv_clr {X M : BitVec 32} : (X &&& ~~~M) + (X &&& M) = X := by
  rw [BitVec.add_eq_or_of_and_eq_zero]
  · ext j hj
    simp
    cases X[j] <;> cases M[j] <;> rfl
  · ext j hj
    simp
    cases X[j] <;> cases M[j] <;> simp
theorem bv_set {X M : BitVec 32} : (X ||| M) = (X &&& ~~~M) + M := by
  rw [BitVec.add_eq_or_of_and_eq_zero]
  · ext j hj
    simp
    cases X[j] <;> cases M[j] <;> rfl
  · ext j hj
    simp
theorem clr_nat {x : Int} {i : Nat} (h0 : 0 ≤ x) (h1 : x ≤ 2147483647) (hi : i < 31) : ((Int32.ofInt x).toBitVec &&& ~~~(BitVec.twoPow 32 i)).toNat + (if x.toNat / 2 ^ i % 2 = 1 then 2 ^ i else 0) = x.toNat := by
  have hx := i32_nat h0 h1
  have hb := bv_bit (X := (Int32.ofInt x).toBitVec) hi
  rw [hx] at hb
  have hc := congrArg BitVec.toNat (bv_clr (X := (Int32.ofInt x).toBitVec) (M := BitVec.twoPow 32 i))
  rw [BitVec.toNat_add, hb, hx] at hc
  have l1 : ((Int32.ofInt x).toBitVec &&& ~~~(BitVec.twoPow 32 i)).toNat ≤ x.toNat := by
    rw [BitVec.toNat_and, hx]
    exact Nat.and_le_left
  obtain ⟨m, em1, em, l, l0⟩ := p31 hi
  rw [em] at hc ⊢
  rw [Nat.mod_eq_of_lt (by split <;> omega)] at hc
  exact hc
theorem bit_int {x : Int} {i : Nat} (h0 : 0 ≤ x) : (2 : Int) ^ i * (x / (2 : Int) ^ i % 2) = ((if x.toNat / 2 ^ i % 2 = 1 then 2 ^ i else 0 : Nat) : Int) := by
  have e : (x / (2 : Int) ^ i % 2) = ((x.toNat / 2 ^ i % 2 : Nat) : Int) := by
    have : x = ((x.toNat : Nat) : Int) := by omega
    rw [this]
    norm_cast
  rw [e]
  have hm : x.toNat / 2 ^ i % 2 < 2 := Nat.mod_lt _ (by decide)
  by_cases c : x.toNat / 2 ^ i % 2 = 1
  · rw [if_pos c, c, show ((2 ^ i : Nat) : Int) = (2 : Int) ^ i by norm_cast]
    simp
  · have c0 : x.toNat / 2 ^ i % 2 = 0 := by omega
    rw [if_neg c, c0]
    simp
theorem andI_clr {x : Int} {i : Nat} (h0 : 0 ≤ x) (h1 : x ≤ 2147483647) (hi : i < 31) : andI x (-1 - (2 : Int) ^ i) = x - (2 : Int) ^ i * (x / (2 : Int) ^ i % 2) := by
  unfold andI
  obtain ⟨m, em1, em, l, l0⟩ := p31 hi
  have e1 : Int32.ofInt (-1 - (2 : Int) ^ i) = ~~~(Int32.ofInt ((2 : Int) ^ i)) := by
    rw [em1]
    apply Int32.toInt_inj.mp
    rw [Int32.toInt_not, i32_ti (by unfold in32; omega), i32_ti (by unfold in32; omega)]
    show _ = Int.bmod (-(m : Int) - 1) 4294967296
    rw [Int.bmod_eq_of_le (by omega) (by omega)]
    omega
  rw [e1]
  have hc := clr_nat h0 h1 hi
  have hy : (Int32.ofInt x &&& ~~~(Int32.ofInt ((2 : Int) ^ i))).toBitVec.toNat = x.toNat - (if x.toNat / 2 ^ i % 2 = 1 then 2 ^ i else 0) := by
    show ((Int32.ofInt x).toBitVec &&& ~~~(Int32.ofInt ((2 : Int) ^ i)).toBitVec).toNat = _
    rw [i32_pow hi]
    omega
  rw [i32_of_bv hy (by omega), bit_int h0]
  omega
theorem orI_bit {x : Int} {i : Nat} (h0 : 0 ≤ x) (h1 : x ≤ 2147483647) (hi : i < 31) : orI x ((2 : Int) ^ i) = x + ((2 : Int) ^ i - (2 : Int) ^ i * (x / (2 : Int) ^ i % 2)) := by
  unfold orI
  obtain ⟨m, em1, em, l, l0⟩ := p31 hi
  have hc := clr_nat h0 h1 hi
  have hxl : ((Int32.ofInt x).toBitVec ||| BitVec.twoPow 32 i).toNat < 2147483648 := by
    rw [BitVec.toNat_or, i32_nat h0 h1, BitVec.toNat_twoPow_of_lt (by omega)]
    exact Nat.or_lt_two_pow (n := 31) (by omega) (by rw [em]; omega)
  have e := congrArg BitVec.toNat (bv_set (X := (Int32.ofInt x).toBitVec) (M := BitVec.twoPow 32 i))
  rw [BitVec.toNat_add, BitVec.toNat_twoPow_of_lt (by omega), Nat.mod_eq_of_lt (by rw [em]; omega)] at e
  have hy : (Int32.ofInt x ||| Int32.ofInt ((2 : Int) ^ i)).toBitVec.toNat = x.toNat - (if x.toNat / 2 ^ i % 2 = 1 then 2 ^ i else 0) + 2 ^ i := by
    show ((Int32.ofInt x).toBitVec ||| (Int32.ofInt ((2 : Int) ^ i)).toBitVec).toNat = _
    rw [i32_pow hi, e]
    omega
  rw [i32_of_bv hy (by rw [← hy]; show ((Int32.ofInt x).toBitVec ||| (Int32.ofInt ((2 : Int) ^ i)).toBitVec).toNat < _; rw [i32_pow hi]; exact hxl), bit_int h0]
  rw [em1]
  rw [em] at hc ⊢
  omega
/-- the form's quotient at a bit, the bit -/
def bq (i : Nat) (x : Fm) : Fm := fqt ((2 : Int) ^ i) x
def bb (i : Nat) (x : Fm) : Fm := frm 2 (bq i x)
def bqB (env : REnv) (i : Nat) (x : Fm) : Bool := decide (i < 31) && (isIn 0 2147483647 (iv env x) && isIn 0 ((2 : Int) ^ i - 1) (iv env (frm ((2 : Int) ^ i) x)))
def bbB (env : REnv) (i : Nat) (x : Fm) : Bool := bqB env i x && isIn 0 1 (iv env (bb i x))
theorem pow_pos2 (i : Nat) : (0 : Int) < (2 : Int) ^ i := Int.pow_pos (by decide)
theorem bq_ok {ρ : Nat → Int} {env : REnv} {i : Nat} {x : Fm} (he : eOK ρ env) (hx : wfF env.length x) (h : bqB env i x = true) : i < 31 ∧ 0 ≤ ev ρ x ∧ ev ρ x ≤ 2147483647 ∧ ev ρ (bq i x) = ev ρ x / (2 : Int) ^ i := by
  unfold bqB at h
  simp only [Bool.and_eq_true, decide_eq_true_eq] at h
  obtain ⟨a, b, c⟩ := h
  have b := isIn_x b
  have v := iv_ok he hx
  have q := fdm_ok he hx (by omega) (pow_pos2 i) c
  refine ⟨a, by omega, by omega, ?_⟩
  rw [Int.tdiv_eq_ediv_of_nonneg (by omega)] at q
  exact q.1.symm
theorem bb_ok {ρ : Nat → Int} {env : REnv} {i : Nat} {x : Fm} (he : eOK ρ env) (hx : wfF env.length x) (h : bbB env i x = true) : i < 31 ∧ 0 ≤ ev ρ x ∧ ev ρ x ≤ 2147483647 ∧ ev ρ (bb i x) = ev ρ x / (2 : Int) ^ i % 2 := by
  unfold bbB at h
  rw [Bool.and_eq_true] at h
  obtain ⟨h1, h2⟩ := h
  obtain ⟨a, b, c, d⟩ := bq_ok he hx h1
  have hq : 0 ≤ ev ρ (bq i x) := by rw [d]; exact Int.ediv_nonneg b (Int.le_of_lt (pow_pos2 i))
  have q := fdm_ok (c := 2) he (wf_fqt (c := (2 : Int) ^ i) hx) hq (by decide) h2
  refine ⟨a, b, c, ?_⟩
  have q2 : (ev ρ (bq i x)).tmod 2 = ev ρ (bb i x) := q.2
  rw [Int.tmod_eq_emod_of_nonneg hq] at q2
  rw [← d]
  exact q2.symm
/-- what a bit instruction with a known number answers -/
def abitF (env : REnv) (ins : Instr) (c : Int) (x : Fm) : Option Fm := match ins with
  | .ishr => if 0 ≤ c ∧ bqB env c.toNat x = true then some (bq c.toNat x) else none
  | .iand => if 0 < c then (if c = (2 : Int) ^ c.toNat.log2 ∧ bbB env c.toNat.log2 x = true then some (fscale c (bb c.toNat.log2 x)) else none) else if -1 - c = (2 : Int) ^ (-1 - c).toNat.log2 ∧ bbB env (-1 - c).toNat.log2 x = true then some (fsub x (fscale (-1 - c) (bb (-1 - c).toNat.log2 x))) else none
  | .ior => if c = (2 : Int) ^ c.toNat.log2 ∧ bbB env c.toNat.log2 x = true then some (fadd x (fsub (fcon c) (fscale c (bb c.toNat.log2 x)))) else none
  | _ => none
theorem wf_bq {m i : Nat} {x : Fm} (h : wfF m x) : wfF m (bq i x) := wf_fqt h
theorem wf_bb {m i : Nat} {x : Fm} (h : wfF m x) : wfF m (bb i x) := wf_frm (wf_fqt h)
/-- the machine's own answer -/
def abitI (ins : Instr) (x c : Int) : Int := match ins with
  | .ishr => shrI x c
  | .iand => andI x c
  | _ => orI x c
theorem abitF_ok {ρ : Nat → Int} {env : REnv} {ins : Instr} {c : Int} {x f : Fm} (he : eOK ρ env) (hx : wfF env.length x) (h : abitF env ins c x = some f) : ev ρ f = abitI ins (ev ρ x) c ∧ wfF env.length f ∧ (ins = .ishr ∨ ins = .iand ∨ ins = .ior) := by
  unfold abitF at h
  split at h
  · split at h
    case isFalse => cases h
    rename_i e
    cases h
    obtain ⟨a, b, d, q⟩ := bq_ok he hx e.2
    refine ⟨?_, wf_bq hx, Or.inl rfl⟩
    have := shrI_q b d a
    rw [q, ← this]
    show _ = shrI (ev ρ x) c
    rw [show ((c.toNat : Nat) : Int) = c by omega]
  · split at h
    · rename_i h0
      split at h
      case isFalse => cases h
      rename_i e
      cases h
      obtain ⟨a, b, d, q⟩ := bb_ok he hx e.2
      refine ⟨?_, wf_scale (wf_bb hx), Or.inr (Or.inl rfl)⟩
      have := andI_bit b d a
      rw [← e.1] at this q
      rw [fscale_ev, q]
      show _ = andI (ev ρ x) c
      rw [this]
    · split at h
      case isFalse => cases h
      rename_i e
      cases h
      obtain ⟨a, b, d, q⟩ := bb_ok he hx e.2
      refine ⟨?_, wf_sub hx (wf_scale (wf_bb hx)), Or.inr (Or.inl rfl)⟩
      have := andI_clr b d a
      rw [← e.1] at this q
      rw [fsub_ev, fscale_ev, q]
      show _ = andI (ev ρ x) c
      rw [show -1 - (-1 - c) = c by omega] at this
      rw [this]
  · split at h
    case isFalse => cases h
    rename_i e
    cases h
    obtain ⟨a, b, d, q⟩ := bb_ok he hx e.2
    refine ⟨?_, wf_add hx (wf_sub (wf_con _ _) (wf_scale (wf_bb hx))), Or.inr (Or.inr rfl)⟩
    have := orI_bit b d a
    rw [← e.1] at this q
    rw [fadd_ev, fsub_ev, fcon_ev, fscale_ev, q]
    show _ = orI (ev ρ x) c
    rw [this]
  · cases h
def abK (k : Nat) : Bool := kBit.contains k
def abit (k : Nat) (t : Tok) (S : aS) : Option aS := if abK k = true then (match S with
  | (lv, y :: x :: r, C) => if x.1 = 0 ∧ y.1 = 0 then (match fone C y.2 with
    | some c => (match abitF (eC C) t.1 c x.2 with
      | some f => some (lv, (0, f) :: r, C)
      | none => none)
    | none => none) else none
  | _ => none) else none
theorem abit_ok {P : aP} {L : bC} {sc : bC} {k : Nat} {t : Tok} {h0 h : bH} {ρ : Nat → Int} {S S' : aS} {pc : Nat} (q : aIn P L h0 ρ h S) (hs : abit k t S = some S') : ilen t.1 = 1 ∧ aOut P L h0 ρ S S' (cst sc k t (conc ρ pc (nC S.2.2) h S)) (pc + 1) := by
  obtain ⟨ins, rr⟩ := t
  unfold abit at hs
  split at hs
  case isFalse => cases hs
  split at hs
  case h_2 => cases hs
  rename_i _ lv y x r C
  split at hs
  case isFalse => cases hs
  rename_i e
  obtain ⟨e1, e2⟩ := e
  split at hs
  case h_2 => cases hs
  rename_i c hc
  split at hs
  case h_2 => cases hs
  rename_i f hf
  cases hs
  have q1 : core P L h0 ρ h C := q.1
  obtain ⟨wy, w⟩ := wfS_x q.2.2
  have w := wfS_x w
  have ec := fone_ok q1 wy hc
  obtain ⟨a1, a2, a3⟩ := abitF_ok q1.1 (show wfF (eC C).length x.2 from w.1) hf
  have hl : ilen ins = 1 := by rcases a3 with rfl | rfl | rfl <;> rfl
  refine ⟨hl, ρ, h, fun _ _ => rfl, Nat.le_refl _, ⟨q1, q.2.1, wfS_c a2 w.2⟩, rfl, ?_⟩
  unfold conc
  rcases a3 with rfl | rfl | rfl
  · show (if x.1 = 0 ∧ y.1 = 0 then (some (shrI (ev ρ x.2) (ev ρ y.2))).map _ else none) = _
    rw [if_pos ⟨e1, e2⟩, ec, show shrI (ev ρ x.2) c = ev ρ f from a1.symm]
    rfl
  · show (if x.1 = 0 ∧ y.1 = 0 then (some (andI (ev ρ x.2) (ev ρ y.2))).map _ else none) = _
    rw [if_pos ⟨e1, e2⟩, ec, show andI (ev ρ x.2) c = ev ρ f from a1.symm]
    rfl
  · show (if x.1 = 0 ∧ y.1 = 0 then (some (orI (ev ρ x.2) (ev ρ y.2))).map _ else none) = _
    rw [if_pos ⟨e1, e2⟩, ec, show orI (ev ρ x.2) c = ev ρ f from a1.symm]
    rfl
