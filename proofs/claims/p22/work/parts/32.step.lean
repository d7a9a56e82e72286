/-- and with something that is 0 at least -/
def aand (env : REnv) (x y : Fm) (full : Int × Int) : Ar :=
  let a := iv env x
  let b := iv env y
  if 0 ≤ b.1 ∧ b.2 ≤ full.2 then .inr (0, b.2) else if 0 ≤ a.1 ∧ a.2 ≤ full.2 then .inr (0, a.2) else .inr full
theorem bv_nn {w : Nat} {x y : BitVec w} (h : 0 ≤ y.toInt) : 0 ≤ (x &&& y).toInt ∧ (x &&& y).toInt ≤ y.toInt := by
  rw [BitVec.toInt_eq_toNat_cond] at h ⊢
  rw [BitVec.toInt_eq_toNat_cond, BitVec.toNat_and]
  have hl : x.toNat &&& y.toNat ≤ y.toNat := Nat.and_le_right
  have hy := y.isLt
  split at h
  · rename_i h2
    rw [if_pos h2, if_pos (by omega)]
    omega
  · omega
theorem and32_nn {x y : Int32} (h : 0 ≤ y.toInt) : 0 ≤ (x &&& y).toInt ∧ (x &&& y).toInt ≤ y.toInt := bv_nn h
theorem and64_nn {x y : Int64} (h : 0 ≤ y.toInt) : 0 ≤ (x &&& y).toInt ∧ (x &&& y).toInt ≤ y.toInt := bv_nn h
theorem andI_nn {x y : Int} (hy : in32 y) (h : 0 ≤ y) : 0 ≤ andI x y ∧ andI x y ≤ y := by
  unfold andI
  have := and32_nn (x := Int32.ofInt x) (y := Int32.ofInt y) (by rw [i32_ti hy]; exact h)
  rw [i32_ti hy] at this
  exact this
theorem andI_comm (x y : Int) : andI x y = andI y x := by
  unfold andI
  rw [Int32.and_comm]
theorem andL_nn {x y : Int} (hy : in64 y) (h : 0 ≤ y) : 0 ≤ andL x y ∧ andL x y ≤ y := by
  unfold andL
  have := and64_nn (x := Int64.ofInt x) (y := Int64.ofInt y) (by rw [i64_ti hy]; exact h)
  rw [i64_ti hy] at this
  exact this
theorem andL_comm (x y : Int) : andL x y = andL y x := by
  unfold andL
  rw [Int64.and_comm]
theorem aand_ok {ρ : Nat → Int} {env : REnv} {x y : Fm} (he : eOK ρ env) (hx : wfF env.length x) (hy : wfF env.length y) : arOK ρ env.length (aand env x y r32) (andI (ev ρ x) (ev ρ y)) := by
  have vx := iv_ok he hx
  have vy := iv_ok he hy
  unfold aand
  dsimp only
  split
  · have := andI_nn (x := ev ρ x) (y := ev ρ y) (by unfold in32; omega) (by omega)
    show _ ≤ _ ∧ _ ≤ _
    dsimp only
    omega
  · split
    · have := andI_nn (x := ev ρ y) (y := ev ρ x) (by unfold in32; omega) (by omega)
      rw [andI_comm]
      show _ ≤ _ ∧ _ ≤ _
      dsimp only
      omega
    · exact i32_in _
theorem aandL_ok {ρ : Nat → Int} {env : REnv} {x y : Fm} (he : eOK ρ env) (hx : wfF env.length x) (hy : wfF env.length y) : arOK ρ env.length (aand env x y r64) (andL (ev ρ x) (ev ρ y)) := by
  have vx := iv_ok he hx
  have vy := iv_ok he hy
  unfold aand
  dsimp only
  split
  · have := andL_nn (x := ev ρ x) (y := ev ρ y) (by unfold in64; omega) (by omega)
    show _ ≤ _ ∧ _ ≤ _
    dsimp only
    omega
  · split
    · have := andL_nn (x := ev ρ y) (y := ev ρ x) (by unfold in64; omega) (by omega)
      rw [andL_comm]
      show _ ≤ _ ∧ _ ≤ _
      dsimp only
      omega
    · exact i64_in _
/-- and, exact where both are known, the other where one is all bits -/
def aandX (env : REnv) (x y : Fm) (f : Int → Int → Int) (full : Int × Int) : Ar := match one (iv env x), one (iv env y) with
  | some a, some b => .inl (fcon (f a b))
  | _, o => if o = some (-1) ∧ isIn full.1 full.2 (iv env x) = true then .inl x else aand env x y full
theorem andI_m1 {x : Int} (h : in32 x) : andI x (-1) = x := by
  unfold andI
  rw [show Int32.ofInt (-1) = -1 from rfl, Int32.and_neg_one, i32_ti h]
theorem andL_m1 {x : Int} (h : in64 x) : andL x (-1) = x := by
  unfold andL
  rw [show Int64.ofInt (-1) = -1 from rfl, Int64.and_neg_one, i64_ti h]
theorem aandX_ok {ρ : Nat → Int} {env : REnv} {x y : Fm} {f : Int → Int → Int} {full : Int × Int} (he : eOK ρ env) (hx : wfF env.length x) (hy : wfF env.length y) (hm : ∀ z, full.1 ≤ z → z ≤ full.2 → f z (-1) = z) (hA : arOK ρ env.length (aand env x y full) (f (ev ρ x) (ev ρ y))) : arOK ρ env.length (aandX env x y f full) (f (ev ρ x) (ev ρ y)) := by
  have vx := iv_ok he hx
  have vy := iv_ok he hy
  unfold aandX
  split
  · rename_i a b ha hb
    rw [one_x ha vx.1 vx.2, one_x hb vy.1 vy.2]
    exact ⟨fcon_ev _ _, wf_con _ _⟩
  · rename_i o _ ho
    split
    · rename_i e
      have hi := isIn_x e.2
      rw [one_x e.1 vy.1 vy.2]
      exact ⟨(hm _ (by omega) (by omega)).symm, hx⟩
    · exact hA
theorem bv_or {w k : Nat} {x y : BitVec w} (hk : k < w) (hx0 : 0 ≤ x.toInt) (hx : x.toInt < 2 ^ k) (hy0 : 0 ≤ y.toInt) (hy : y.toInt < 2 ^ k) : 0 ≤ (x ||| y).toInt ∧ (x ||| y).toInt < 2 ^ k := by
  have hp : 2 ^ (k + 1) ≤ 2 ^ w := Nat.pow_le_pow_right (by decide) hk
  rw [Nat.pow_succ] at hp
  have hc : ((2 ^ k : Nat) : Int) = (2 : Int) ^ k := by norm_cast
  rw [BitVec.toInt_eq_toNat_cond] at hx0 hx hy0 hy ⊢
  rw [BitVec.toNat_or]
  have lx := x.isLt
  have ly := y.isLt
  have ex : x.toNat < 2 ^ k := by
    split at hx0
    · rename_i h2; rw [if_pos h2] at hx; omega
    · omega
  have ey : y.toNat < 2 ^ k := by
    split at hy0
    · rename_i h2; rw [if_pos h2] at hy; omega
    · omega
  have := Nat.or_lt_two_pow ex ey
  rw [if_pos (by omega)]
  omega
theorem orI_nn {x y : Int} (k : Nat) (hk : k < 32) (hx : in32 x) (hy : in32 y) (hx0 : 0 ≤ x) (hx1 : x < 2 ^ k) (hy0 : 0 ≤ y) (hy1 : y < 2 ^ k) : 0 ≤ orI x y ∧ orI x y < 2 ^ k := by
  unfold orI
  have hx' := i32_ti hx
  have hy' := i32_ti hy
  exact bv_or (x := (Int32.ofInt x).toBitVec) (y := (Int32.ofInt y).toBitVec) hk (by rw [show (Int32.ofInt x).toBitVec.toInt = (Int32.ofInt x).toInt from rfl, hx']; exact hx0) (by rw [show (Int32.ofInt x).toBitVec.toInt = (Int32.ofInt x).toInt from rfl, hx']; exact hx1) (by rw [show (Int32.ofInt y).toBitVec.toInt = (Int32.ofInt y).toInt from rfl, hy']; exact hy0) (by rw [show (Int32.ofInt y).toBitVec.toInt = (Int32.ofInt y).toInt from rfl, hy']; exact hy1)
/-- or of what is 0 at least, within some bits -/
def aorB (a b : Int × Int) : Option (Int × Int) := if 0 ≤ a.1 ∧ 0 ≤ b.1 then (if a.2 ≤ 1 ∧ b.2 ≤ 1 then some (0, 1) else if a.2 ≤ 255 ∧ b.2 ≤ 255 then some (0, 255) else if a.2 ≤ 65535 ∧ b.2 ≤ 65535 then some (0, 65535) else none) else none
/-- both known: the number itself -/
def aex (env : REnv) (x y : Fm) (f : Int → Int → Int) (full : Int × Int) : Ar := match one (iv env x), one (iv env y) with
  | some a, some b => .inl (fcon (f a b))
  | _, _ => .inr full
theorem aex_ok {ρ : Nat → Int} {env : REnv} {x y : Fm} {f : Int → Int → Int} {full : Int × Int} (he : eOK ρ env) (hx : wfF env.length x) (hy : wfF env.length y) (hf : full.1 ≤ f (ev ρ x) (ev ρ y) ∧ f (ev ρ x) (ev ρ y) ≤ full.2) : arOK ρ env.length (aex env x y f full) (f (ev ρ x) (ev ρ y)) := by
  have vx := iv_ok he hx
  have vy := iv_ok he hy
  unfold aex
  split
  · rename_i a b ha hb
    rw [one_x ha vx.1 vx.2, one_x hb vy.1 vy.2]
    exact ⟨fcon_ev _ _, wf_con _ _⟩
  · exact hf
def aorX (env : REnv) (x y : Fm) : Ar := match aorB (iv env x) (iv env y) with
  | some b => aex env x y orI b
  | none => aex env x y orI r32
theorem aorX_ok {ρ : Nat → Int} {env : REnv} {x y : Fm} (he : eOK ρ env) (hx : wfF env.length x) (hy : wfF env.length y) : arOK ρ env.length (aorX env x y) (orI (ev ρ x) (ev ρ y)) := by
  have vx := iv_ok he hx
  have vy := iv_ok he hy
  unfold aorX
  split
  · rename_i b hb
    refine aex_ok he hx hy ?_
    unfold aorB at hb
    split at hb
    case isFalse => cases hb
    rename_i h0
    split at hb
    · rename_i h1
      cases hb
      have := orI_nn (x := ev ρ x) (y := ev ρ y) 1 (by decide) (by unfold in32; omega) (by unfold in32; omega) (by omega) (by omega) (by omega) (by omega)
      dsimp only
      omega
    · split at hb
      · rename_i h1
        cases hb
        have := orI_nn (x := ev ρ x) (y := ev ρ y) 8 (by decide) (by unfold in32; omega) (by unfold in32; omega) (by omega) (by omega) (by omega) (by omega)
        dsimp only
        omega
      · split at hb
        · rename_i h1
          cases hb
          have := orI_nn (x := ev ρ x) (y := ev ρ y) 16 (by decide) (by unfold in32; omega) (by unfold in32; omega) (by omega) (by omega) (by omega) (by omega)
          dsimp only
          omega
        · cases hb
  · exact aex_ok (f := orI) he hx hy (i32_in _)
def abm (env : REnv) (x : Fm) (lo hi : Int) : Ar := if isIn lo hi (iv env x) then .inl x else .inr (lo, hi)
theorem abm_ok {ρ : Nat → Int} {env : REnv} {x : Fm} {b : Nat} (he : eOK ρ env) (hx : wfF env.length x) {lo hi : Int} (hl : lo = -(b : Int)) (hh : hi = b - 1) (hb : 0 < b) : arOK ρ env.length (abm env x lo hi) (Int.bmod (ev ρ x) (2 * b)) := by
  have vx := iv_ok he hx
  unfold abm
  split
  · rename_i h
    have h1 := isIn_x h
    refine ⟨(Int.bmod_eq_of_le (by omega) (by omega)).symm, hx⟩
  · have h1 := Int.le_bmod (x := ev ρ x) (m := 2 * b) (by omega)
    have h2 := Int.bmod_lt (x := ev ρ x) (m := 2 * b) (by omega)
    show _ ≤ _ ∧ _ ≤ _
    dsimp only
    omega
/-- two in, one out -/
def aop2 (env : REnv) (i : Instr) (x y : Fm) : Option Ar := match i with
  | .iadd => some (ar32 env (fadd x y))
  | .isub => some (ar32 env (fsub x y))
  | .imul => some (amul env x y).1
  | .idiv => if isIn (-2147483648) 2147483647 (iv env x) then adiv env x y r32 else none
  | .irem => arem env x y
  | .iand => some (aandX env x y andI r32)
  | .ior => some (aorX env x y)
  | .ixor => some (aex env x y xorI r32)
  | .ishl => some (aex env x y shlI r32)
  | .ishr => some (aex env x y shrI r32)
  | .iushr => some (aex env x y ushrI r32)
  | .ladd => some (ar64 env (fadd x y))
  | .lsub => some (ar64 env (fsub x y))
  | .lmul => some (amul env x y).2
  | .ldiv => if isIn (-9223372036854775808) 9223372036854775807 (iv env x) then adiv env x y r64 else none
  | .lrem => arem env x y
  | .land => some (aandX env x y andL r64)
  | .lor => some (aex env x y orL r64)
  | .lshl => some (aex env x y shlL r64)
  | .lshr => some (aex env x y shrL r64)
  | .lcmp => some (.inr (-1, 1))
  | _ => none
/-- the instruction's own function and kinds -/
def cop2 (i : Instr) : Option (Nat × Nat × Nat × (Int → Int → Option Int)) := match i with
  | .iadd => some (0, 0, 0, fun x y => some (w32 (x + y)))
  | .isub => some (0, 0, 0, fun x y => some (w32 (x - y)))
  | .imul => some (0, 0, 0, fun x y => some (w32 (x * y)))
  | .idiv => some (0, 0, 0, divI)
  | .irem => some (0, 0, 0, remI)
  | .iand => some (0, 0, 0, fun x y => some (andI x y))
  | .ior => some (0, 0, 0, fun x y => some (orI x y))
  | .ixor => some (0, 0, 0, fun x y => some (xorI x y))
  | .ishl => some (0, 0, 0, fun x y => some (shlI x y))
  | .ishr => some (0, 0, 0, fun x y => some (shrI x y))
  | .iushr => some (0, 0, 0, fun x y => some (ushrI x y))
  | .ladd => some (1, 1, 1, fun x y => some (w64 (x + y)))
  | .lsub => some (1, 1, 1, fun x y => some (w64 (x - y)))
  | .lmul => some (1, 1, 1, fun x y => some (w64 (x * y)))
  | .ldiv => some (1, 1, 1, divL)
  | .lrem => some (1, 1, 1, remL)
  | .land => some (1, 1, 1, fun x y => some (andL x y))
  | .lor => some (1, 1, 1, fun x y => some (orL x y))
  | .lshl => some (1, 0, 1, fun x y => some (shlL x y))
  | .lshr => some (1, 0, 1, fun x y => some (shrL x y))
  | .lcmp => some (1, 1, 0, fun x y => some (cmpL x y))
  | _ => none
theorem cop2_cst {sc : bC} {k : Nat} {t : Tok} {ta tb tr : Nat} {f : Int → Int → Option Int} (h : cop2 t.1 = some (ta, tb, tr, f)) (S : bS) : cst sc k t S = b2 ta tb tr f S 1 := by
  obtain ⟨i, r⟩ := t
  cases i <;> first | (cases h; done) | (cases h; rfl)
theorem aop2_ok {ρ : Nat → Int} {env : REnv} {i : Instr} {x y : Fm} {r : Ar} {ta tb tr : Nat} {f : Int → Int → Option Int} (he : eOK ρ env) (hx : wfF env.length x) (hy : wfF env.length y) (h : aop2 env i x y = some r) (hc : cop2 i = some (ta, tb, tr, f)) : ∃ z, f (ev ρ x) (ev ρ y) = some z ∧ arOK ρ env.length r z := by
  cases i <;> first | (cases hc; done) | cases hc
  case iadd => cases h; exact ⟨_, rfl, by rw [← fadd_ev]; exact ar32_ok he (wf_add hx hy)⟩
  case isub => cases h; exact ⟨_, rfl, by rw [← fsub_ev]; exact ar32_ok he (wf_sub hx hy)⟩
  case imul => cases h; exact ⟨_, rfl, (amul_ok he hx hy).1⟩
  case idiv =>
    have vx := iv_ok he hx
    simp only [aop2] at h
    split at h
    case isFalse => cases h
    rename_i hin
    have hb := isIn_x hin
    obtain ⟨h0, h1⟩ := adiv_ok he hx hy h
    refine ⟨w32 ((ev ρ x).tdiv (ev ρ y)), by unfold divI; rw [if_neg h0], ?_⟩
    rcases h1 with rfl | ⟨h1, h2⟩
    · exact w32_in _
    · have e : w32 ((ev ρ x).tdiv (ev ρ y)) = (ev ρ x).tdiv (ev ρ y) := w32_id (tdiv_rng h1 (by omega) (by omega) (by omega) (by omega))
      rw [e]; exact h2
  case irem =>
    obtain ⟨h0, h1⟩ := arem_ok he hx hy h
    exact ⟨_, by unfold remI; rw [if_neg h0], h1⟩
  case iand => cases h; exact ⟨_, rfl, aandX_ok (f := andI) he hx hy (fun z h1 h2 => andI_m1 ⟨h1, h2⟩) (aand_ok he hx hy)⟩
  case ior => cases h; exact ⟨_, rfl, aorX_ok he hx hy⟩
  case ixor => cases h; exact ⟨_, rfl, aex_ok (f := xorI) he hx hy (i32_in _)⟩
  case ishl => cases h; exact ⟨_, rfl, aex_ok (f := shlI) he hx hy (i32_in _)⟩
  case ishr => cases h; exact ⟨_, rfl, aex_ok (f := shrI) he hx hy (i32_in _)⟩
  case iushr => cases h; exact ⟨_, rfl, aex_ok (f := ushrI) he hx hy (i32_in _)⟩
  case ladd => cases h; exact ⟨_, rfl, by rw [← fadd_ev]; exact ar64_ok he (wf_add hx hy)⟩
  case lsub => cases h; exact ⟨_, rfl, by rw [← fsub_ev]; exact ar64_ok he (wf_sub hx hy)⟩
  case lmul => cases h; exact ⟨_, rfl, (amul_ok he hx hy).2⟩
  case ldiv =>
    have vx := iv_ok he hx
    simp only [aop2] at h
    split at h
    case isFalse => cases h
    rename_i hin
    have hb := isIn_x hin
    obtain ⟨h0, h1⟩ := adiv_ok he hx hy h
    refine ⟨w64 ((ev ρ x).tdiv (ev ρ y)), by unfold divL; rw [if_neg h0], ?_⟩
    rcases h1 with rfl | ⟨h1, h2⟩
    · exact w64_in _
    · have e : w64 ((ev ρ x).tdiv (ev ρ y)) = (ev ρ x).tdiv (ev ρ y) := w64_id (tdiv_rng h1 (by omega) (by omega) (by omega) (by omega))
      rw [e]; exact h2
  case lrem =>
    obtain ⟨h0, h1⟩ := arem_ok he hx hy h
    exact ⟨_, by unfold remL; rw [if_neg h0], h1⟩
  case land => cases h; exact ⟨_, rfl, aandX_ok (f := andL) he hx hy (fun z h1 h2 => andL_m1 ⟨h1, h2⟩) (aandL_ok he hx hy)⟩
  case lor => cases h; exact ⟨_, rfl, aex_ok (f := orL) he hx hy (i64_in _)⟩
  case lshl => cases h; exact ⟨_, rfl, aex_ok (f := shlL) he hx hy (i64_in _)⟩
  case lshr => cases h; exact ⟨_, rfl, aex_ok (f := shrL) he hx hy (i64_in _)⟩
  case lcmp =>
    cases h
    refine ⟨_, rfl, ?_⟩
    show (-1 : Int) ≤ cmpL _ _ ∧ cmpL _ _ ≤ 1
    unfold cmpL
    split
    · omega
    · split <;> omega
/-- one in, one out -/
def aop1 (env : REnv) (i : Instr) (x : Fm) : Option Ar := match i with
  | .ineg => some (ar32 env (fscale (-1) x))
  | .i2l => some (.inl x)
  | .l2i => some (ar32 env x)
  | .i2b => some (abm env x (-128) 127)
  | .i2s => some (abm env x (-32768) 32767)
  | _ => none
def cop1 (i : Instr) : Option (Nat × Nat × (Int → Option Int)) := match i with
  | .ineg => some (0, 0, fun x => some (w32 (-x)))
  | .i2l => some (0, 1, fun x => some x)
  | .l2i => some (1, 0, fun x => some (w32 x))
  | .i2b => some (0, 0, fun x => some (Int.bmod x 256))
  | .i2s => some (0, 0, fun x => some (Int.bmod x 65536))
  | _ => none
theorem cop1_cst {sc : bC} {k : Nat} {t : Tok} {ta tr : Nat} {f : Int → Option Int} (h : cop1 t.1 = some (ta, tr, f)) (S : bS) : cst sc k t S = b1 ta tr f S 1 := by
  obtain ⟨i, r⟩ := t
  cases i <;> first | (cases h; done) | (cases h; rfl)
theorem aop1_ok {ρ : Nat → Int} {env : REnv} {i : Instr} {x : Fm} {r : Ar} {ta tr : Nat} {f : Int → Option Int} (he : eOK ρ env) (hx : wfF env.length x) (h : aop1 env i x = some r) (hc : cop1 i = some (ta, tr, f)) : ∃ z, f (ev ρ x) = some z ∧ arOK ρ env.length r z := by
  cases i <;> first | (cases hc; done) | cases hc
  case ineg => cases h; exact ⟨_, rfl, by rw [show -ev ρ x = ev ρ (fscale (-1) x) by rw [fscale_ev]; omega]; exact ar32_ok he (wf_scale hx)⟩
  case i2l => cases h; exact ⟨_, rfl, rfl, hx⟩
  case l2i => cases h; exact ⟨_, rfl, ar32_ok he hx⟩
  case i2b => cases h; exact ⟨_, rfl, abm_ok (b := 128) he hx rfl rfl (by omega)⟩
  case i2s => cases h; exact ⟨_, rfl, abm_ok (b := 32768) he hx rfl rfl (by omega)⟩
