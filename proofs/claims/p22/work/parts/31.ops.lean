/-! WHAT AN INSTRUCTION ANSWERS: a form, or a range -/
abbrev Ar : Type := Fm ⊕ (Int × Int)
def isIn (lo hi : Int) (b : Int × Int) : Bool := decide (lo ≤ b.1) && decide (b.2 ≤ hi)
abbrev r32 : Int × Int := (-2147483648, 2147483647)
abbrev r64 : Int × Int := (-9223372036854775808, 9223372036854775807)
/-- a form, if it keeps within 32 bits -/
def ar32 (env : REnv) (f : Fm) : Ar := if isIn (-2147483648) 2147483647 (iv env f) then .inl f else .inr r32
def ar64 (env : REnv) (f : Fm) : Ar := if isIn (-9223372036854775808) 9223372036854775807 (iv env f) then .inl f else .inr r64
/-- an answer says of a number what it may -/
def arOK (ρ : Nat → Int) (m : Nat) (r : Ar) (z : Int) : Prop := match r with
  | .inl f => ev ρ f = z ∧ wfF m f
  | .inr b => b.1 ≤ z ∧ z ≤ b.2
theorem isIn_x {lo hi : Int} {b : Int × Int} (h : isIn lo hi b = true) : lo ≤ b.1 ∧ b.2 ≤ hi := by
  unfold isIn at h
  simpa using h
theorem ar32_ok {ρ : Nat → Int} {env : REnv} {f : Fm} (he : eOK ρ env) (hw : wfF env.length f) : arOK ρ env.length (ar32 env f) (w32 (ev ρ f)) := by
  unfold ar32
  split
  · rename_i h
    have hb := isIn_x h
    have hi := iv_ok he hw
    exact ⟨(w32_id (by unfold in32; omega)).symm, hw⟩
  · exact w32_in _
theorem ar64_ok {ρ : Nat → Int} {env : REnv} {f : Fm} (he : eOK ρ env) (hw : wfF env.length f) : arOK ρ env.length (ar64 env f) (w64 (ev ρ f)) := by
  unfold ar64
  split
  · rename_i h
    have hb := isIn_x h
    have hi := iv_ok he hw
    exact ⟨(w64_id (by unfold in64; omega)).symm, hw⟩
  · exact w64_in _
/-- the one number of a range -/
def one (b : Int × Int) : Option Int := if b.1 = b.2 then some b.1 else none
theorem one_x {b : Int × Int} {c x : Int} (h : one b = some c) (h1 : b.1 ≤ x) (h2 : x ≤ b.2) : x = c := by
  unfold one at h
  split at h
  · cases h; omega
  · cases h
def amul (env : REnv) (x y : Fm) : Ar × Ar := match one (iv env y) with
  | some c => (ar32 env (fscale c x), ar64 env (fscale c x))
  | none => match one (iv env x) with
    | some c => (ar32 env (fscale c y), ar64 env (fscale c y))
    | none =>
      let a := iv env x
      let b := iv env y
      if 0 ≤ a.1 ∧ 0 ≤ b.1 then (if a.2 * b.2 ≤ 2147483647 then .inr (a.1 * b.1, a.2 * b.2) else .inr r32, if a.2 * b.2 ≤ 9223372036854775807 then .inr (a.1 * b.1, a.2 * b.2) else .inr r64) else (.inr r32, .inr r64)
theorem mul_rng {a b : Int × Int} {x y : Int} (ha : 0 ≤ a.1) (hb : 0 ≤ b.1) (h1 : a.1 ≤ x) (h2 : x ≤ a.2) (h3 : b.1 ≤ y) (h4 : y ≤ b.2) : a.1 * b.1 ≤ x * y ∧ x * y ≤ a.2 * b.2 :=
  ⟨Int.mul_le_mul h1 h3 hb (by omega), Int.mul_le_mul h2 h4 (by omega) (by omega)⟩
theorem amul_ok {ρ : Nat → Int} {env : REnv} {x y : Fm} (he : eOK ρ env) (hx : wfF env.length x) (hy : wfF env.length y) : arOK ρ env.length (amul env x y).1 (w32 (ev ρ x * ev ρ y)) ∧ arOK ρ env.length (amul env x y).2 (w64 (ev ρ x * ev ρ y)) := by
  have ix := iv_ok he hx
  have iy := iv_ok he hy
  unfold amul
  split
  · rename_i c hc
    have := one_x hc iy.1 iy.2
    rw [this, Int.mul_comm, ← fscale_ev]
    exact ⟨ar32_ok he (wf_scale hx), ar64_ok he (wf_scale hx)⟩
  · split
    · rename_i c hc
      have := one_x hc ix.1 ix.2
      rw [this, ← fscale_ev]
      exact ⟨ar32_ok he (wf_scale hy), ar64_ok he (wf_scale hy)⟩
    · dsimp only
      split
      · rename_i h
        have hm := mul_rng h.1 h.2 ix.1 ix.2 iy.1 iy.2
        have h0 : 0 ≤ (iv env x).1 * (iv env y).1 := Int.mul_nonneg h.1 h.2
        refine ⟨?_, ?_⟩
        · show arOK ρ env.length (if (iv env x).2 * (iv env y).2 ≤ 2147483647 then Sum.inr ((iv env x).1 * (iv env y).1, (iv env x).2 * (iv env y).2) else Sum.inr r32) _
          split
          · have e : w32 (ev ρ x * ev ρ y) = ev ρ x * ev ρ y := w32_id (by unfold in32; omega)
            rw [e]; exact hm
          · exact w32_in _
        · show arOK ρ env.length (if (iv env x).2 * (iv env y).2 ≤ 9223372036854775807 then Sum.inr ((iv env x).1 * (iv env y).1, (iv env x).2 * (iv env y).2) else Sum.inr r64) _
          split
          · have e : w64 (ev ρ x * ev ρ y) = ev ρ x * ev ρ y := w64_id (by unfold in64; omega)
            rw [e]; exact hm
          · exact w64_in _
      · exact ⟨w32_in _, w64_in _⟩
/-- quotient and rest of a form by a constant, term by term -/
def fqt (c : Int) (f : Fm) : Fm := (f.1 / c, (f.2.filter fun t => t.2 % c == 0).map fun t => (t.1, t.2 / c))
def frm (c : Int) (f : Fm) : Fm := (f.1 % c, f.2.filter fun t => !(t.2 % c == 0))
theorem fdmT_ev (ρ : Nat → Int) (c : Int) : ∀ ts : List (Nat × Int), evT ρ ts = c * evT ρ ((ts.filter fun t => t.2 % c == 0).map fun t => (t.1, t.2 / c)) + evT ρ (ts.filter fun t => !(t.2 % c == 0))
  | [] => by simp [evT]
  | t :: r => by
    have ih := fdmT_ev ρ c r
    by_cases e : t.2 % c = 0
    · rw [List.filter_cons_of_pos (by simp [e]), List.filter_cons_of_neg (by simp [e]), List.map_cons]
      have h1 := Int.emod_add_mul_ediv t.2 c
      rw [e, Int.zero_add] at h1
      show t.2 * ρ t.1 + evT ρ r = c * (t.2 / c * ρ t.1 + evT ρ ((r.filter fun t => t.2 % c == 0).map fun t => (t.1, t.2 / c))) + _
      rw [Int.mul_add, ← Int.mul_assoc, h1, ih, Int.add_assoc]
    · rw [List.filter_cons_of_neg (by simp [e]), List.filter_cons_of_pos (by simp [e])]
      show t.2 * ρ t.1 + evT ρ r = _ + (t.2 * ρ t.1 + evT ρ (r.filter fun t => !(t.2 % c == 0)))
      rw [ih]
      omega
theorem fdm_ev (ρ : Nat → Int) (c : Int) (f : Fm) : ev ρ f = c * ev ρ (fqt c f) + ev ρ (frm c f) := by
  unfold ev fqt frm
  dsimp only
  have h1 := Int.emod_add_mul_ediv f.1 c
  have h2 := fdmT_ev ρ c f.2
  rw [Int.mul_add]
  omega
theorem wf_fqt {m : Nat} {c : Int} {f : Fm} (h : wfF m f) : wfF m (fqt c f) := by
  intro t ht
  obtain ⟨u, hu, rfl⟩ := List.mem_map.mp ht
  exact h u (List.mem_filter.mp hu).1
theorem wf_frm {m : Nat} {c : Int} {f : Fm} (h : wfF m f) : wfF m (frm c f) := fun t ht => h t (List.mem_filter.mp ht).1
theorem fdm_ok {ρ : Nat → Int} {env : REnv} {c : Int} {x : Fm} (he : eOK ρ env) (hx : wfF env.length x) (h0 : 0 ≤ ev ρ x) (hc : 0 < c) (hr : isIn 0 (c - 1) (iv env (frm c x)) = true) : (ev ρ x).tdiv c = ev ρ (fqt c x) ∧ (ev ρ x).tmod c = ev ρ (frm c x) := by
  have hb := isIn_x hr
  have hi := iv_ok he (wf_frm (c := c) hx)
  have e := fdm_ev ρ c x
  have g1 : 0 ≤ ev ρ (frm c x) := by omega
  have g2 : ev ρ (frm c x) < c := by omega
  rw [Int.tdiv_eq_ediv_of_nonneg h0, Int.tmod_eq_emod_of_nonneg h0, e, Int.add_comm]
  refine ⟨?_, ?_⟩
  · rw [Int.add_mul_ediv_left _ _ (by omega), Int.ediv_eq_zero_of_lt g1 g2, Int.zero_add]
  · rw [Int.add_mul_emod_self_left, Int.emod_eq_of_lt g1 g2]
/-- quotient of what is 0 at least by what is 1 at least; or of any by a constant above 0 -/
def adiv (env : REnv) (x y : Fm) (full : Int × Int) : Option Ar :=
  let a := iv env x
  let b := iv env y
  if 0 < b.1 then (if a.1 = a.2 ∧ b.1 = b.2 then some (.inl (fcon (a.1.tdiv b.1))) else if b.1 = b.2 ∧ 0 ≤ a.1 ∧ isIn 0 (b.1 - 1) (iv env (frm b.1 x)) = true then some (.inl (fqt b.1 x)) else if 0 ≤ a.1 then some (.inr (a.1 / b.2, a.2 / b.1)) else some (.inr (min a.1 0, max a.2 0))) else if b.2 < 0 then some (.inr full) else none
theorem tdiv_abs {x y m : Int} (hy : 0 < y) (h1 : -m ≤ x) (h2 : x ≤ m) : -m ≤ x.tdiv y ∧ x.tdiv y ≤ m := by
  by_cases h : 0 ≤ x
  · rw [Int.tdiv_eq_ediv_of_nonneg h]
    have a1 := Int.ediv_nonneg h (Int.le_of_lt hy)
    have a2 := Int.ediv_le_self y h
    omega
  · have e : x.tdiv y = -((-x).tdiv y) := by rw [Int.neg_tdiv, Int.neg_neg]
    have hx : 0 ≤ -x := by omega
    rw [e, Int.tdiv_eq_ediv_of_nonneg hx]
    have a1 := Int.ediv_nonneg hx (Int.le_of_lt hy)
    have a2 := Int.ediv_le_self y hx
    omega
theorem tdiv_rng {x y lo hi : Int} (hy : 0 < y) (hl : lo ≤ 0) (hh : 0 ≤ hi) (h1 : lo ≤ x) (h2 : x ≤ hi) : lo ≤ x.tdiv y ∧ x.tdiv y ≤ hi := by
  by_cases h : 0 ≤ x
  · rw [Int.tdiv_eq_ediv_of_nonneg h]
    have a1 := Int.ediv_nonneg h (Int.le_of_lt hy)
    have a2 := Int.ediv_le_self y h
    omega
  · have e : x.tdiv y = -((-x).tdiv y) := by rw [Int.neg_tdiv, Int.neg_neg]
    have hx : 0 ≤ -x := by omega
    rw [e, Int.tdiv_eq_ediv_of_nonneg hx]
    have a1 := Int.ediv_nonneg hx (Int.le_of_lt hy)
    have a2 := Int.ediv_le_self y hx
    omega
theorem adiv_ok {ρ : Nat → Int} {env : REnv} {x y : Fm} {full : Int × Int} {r : Ar} (he : eOK ρ env) (hx : wfF env.length x) (hy : wfF env.length y) (h : adiv env x y full = some r) : ev ρ y ≠ 0 ∧ (r = .inr full ∨ (0 < ev ρ y ∧ arOK ρ env.length r ((ev ρ x).tdiv (ev ρ y)))) := by
  have ix := iv_ok he hx
  have iy := iv_ok he hy
  unfold adiv at h
  dsimp only at h
  by_cases hb : 0 < (iv env y).1
  · rw [if_pos hb] at h
    refine ⟨by omega, Or.inr ⟨by omega, ?_⟩⟩
    by_cases hc : (iv env x).1 = (iv env x).2 ∧ (iv env y).1 = (iv env y).2
    · rw [if_pos hc] at h
      cases h
      have e1 : ev ρ x = (iv env x).1 := by omega
      have e2 : ev ρ y = (iv env y).1 := by omega
      rw [e1, e2]
      exact ⟨fcon_ev _ _, wf_con _ _⟩
    · rw [if_neg hc] at h
      by_cases hq : (iv env y).1 = (iv env y).2 ∧ 0 ≤ (iv env x).1 ∧ isIn 0 ((iv env y).1 - 1) (iv env (frm (iv env y).1 x)) = true
      · rw [if_pos hq] at h
        cases h
        have e2 : ev ρ y = (iv env y).1 := by omega
        rw [e2]
        exact ⟨(fdm_ok he hx (by omega) hb hq.2.2).1.symm, wf_fqt hx⟩
      rw [if_neg hq] at h
      by_cases ha : 0 ≤ (iv env x).1
      · rw [if_pos ha] at h
        cases h
        show _ ≤ _ ∧ _ ≤ _
        rw [Int.tdiv_eq_ediv_of_nonneg (by omega)]
        refine ⟨?_, ?_⟩
        · refine Int.le_trans (Int.ediv_le_ediv (c := (iv env y).2) (by omega) ix.1) ?_
          refine (Int.le_ediv_iff_mul_le (by omega)).mpr ?_
          have h1 := Int.ediv_mul_le (ev ρ x) (show (iv env y).2 ≠ 0 by omega)
          have h2 : 0 ≤ ev ρ x / (iv env y).2 := Int.ediv_nonneg (by omega) (by omega)
          have h3 := Int.mul_le_mul_of_nonneg_left iy.2 h2
          omega
        · refine Int.le_trans (Int.ediv_le_ediv (c := ev ρ y) (by omega) ix.2) ?_
          refine (Int.le_ediv_iff_mul_le (by omega)).mpr ?_
          have h1 := Int.ediv_mul_le (iv env x).2 (show ev ρ y ≠ 0 by omega)
          have h2 : 0 ≤ (iv env x).2 / ev ρ y := Int.ediv_nonneg (by omega) (by omega)
          have h3 := Int.mul_le_mul_of_nonneg_left iy.1 h2
          omega
      · rw [if_neg ha] at h
        cases h
        exact tdiv_rng (lo := min (iv env x).1 0) (hi := max (iv env x).2 0) (by omega) (by omega) (by omega) (by omega) (by omega)
  · rw [if_neg hb] at h
    by_cases hn : (iv env y).2 < 0
    · rw [if_pos hn] at h
      cases h
      exact ⟨by omega, Or.inl rfl⟩
    · rw [if_neg hn] at h; cases h
def arem (env : REnv) (x y : Fm) : Option Ar :=
  let a := iv env x
  let b := iv env y
  if 0 < b.1 then (if b.1 = b.2 ∧ 0 ≤ a.1 ∧ isIn 0 (b.1 - 1) (iv env (frm b.1 x)) = true then some (.inl (frm b.1 x)) else if 0 ≤ a.1 then (if a.2 < b.1 then some (.inl x) else some (.inr (0, min a.2 (b.2 - 1)))) else some (.inr (-(b.2 - 1), b.2 - 1))) else none
theorem tmod_abs {x y : Int} (hy : 0 < y) : -(y - 1) ≤ x.tmod y ∧ x.tmod y ≤ y - 1 := by
  have := tmod_bounds (a := x) hy
  omega
theorem arem_ok {ρ : Nat → Int} {env : REnv} {x y : Fm} {r : Ar} (he : eOK ρ env) (hx : wfF env.length x) (hy : wfF env.length y) (h : arem env x y = some r) : ev ρ y ≠ 0 ∧ arOK ρ env.length r ((ev ρ x).tmod (ev ρ y)) := by
  have ix := iv_ok he hx
  have iy := iv_ok he hy
  unfold arem at h
  dsimp only at h
  by_cases hb : 0 < (iv env y).1
  · rw [if_pos hb] at h
    refine ⟨by omega, ?_⟩
    have hab := tmod_abs (x := ev ρ x) (y := ev ρ y) (by omega)
    by_cases hq : (iv env y).1 = (iv env y).2 ∧ 0 ≤ (iv env x).1 ∧ isIn 0 ((iv env y).1 - 1) (iv env (frm (iv env y).1 x)) = true
    · rw [if_pos hq] at h
      cases h
      have e2 : ev ρ y = (iv env y).1 := by omega
      rw [e2]
      exact ⟨(fdm_ok he hx (by omega) hb hq.2.2).2.symm, wf_frm hx⟩
    rw [if_neg hq] at h
    by_cases ha : 0 ≤ (iv env x).1
    · rw [if_pos ha] at h
      have hn := Int.tmod_nonneg (ev ρ y) (show 0 ≤ ev ρ x by omega)
      have he2 : (ev ρ x).tmod (ev ρ y) = ev ρ x % ev ρ y := Int.tmod_eq_emod_of_nonneg (by omega)
      by_cases hc : (iv env x).2 < (iv env y).1
      · rw [if_pos hc] at h
        cases h
        refine ⟨?_, hx⟩
        rw [he2]
        exact (Int.emod_eq_of_lt (by omega) (by omega)).symm
      · rw [if_neg hc] at h
        cases h
        have hle : ev ρ x % ev ρ y ≤ ev ρ x := by
          have h1 := Int.emod_add_mul_ediv (ev ρ x) (ev ρ y)
          have h2 := Int.ediv_nonneg (show 0 ≤ ev ρ x by omega) (show 0 ≤ ev ρ y by omega)
          have h3 := Int.mul_nonneg (show 0 ≤ ev ρ y by omega) h2
          omega
        show _ ≤ _ ∧ _ ≤ _
        rw [he2] at hab hn ⊢
        omega
    · rw [if_neg ha] at h
      cases h
      show _ ≤ _ ∧ _ ≤ _
      dsimp only
      omega
  · rw [if_neg hb] at h; cases h
