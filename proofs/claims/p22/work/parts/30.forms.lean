/-! THE CHECKER: linear forms over numbered unknowns, with ranges -/
abbrev Fm : Type := Int × List (Nat × Int)
abbrev REnv : Type := List (Int × Int)
def evT (ρ : Nat → Int) : List (Nat × Int) → Int
  | [] => 0
  | t :: r => t.2 * ρ t.1 + evT ρ r
def ev (ρ : Nat → Int) (f : Fm) : Int := f.1 + evT ρ f.2
def tins (i : Nat) (a : Int) : List (Nat × Int) → List (Nat × Int)
  | [] => if a = 0 then [] else [(i, a)]
  | t :: r => if i < t.1 then (if a = 0 then t :: r else (i, a) :: t :: r) else if i = t.1 then (if a + t.2 = 0 then r else (i, a + t.2) :: r) else t :: tins i a r
theorem tins_ev (ρ : Nat → Int) (i : Nat) (a : Int) : ∀ ts, evT ρ (tins i a ts) = a * ρ i + evT ρ ts
  | [] => by
    unfold tins
    split
    · rename_i h; subst h; simp [evT]
    · simp [evT]
  | t :: r => by
    unfold tins
    split
    · split
      · rename_i h; subst h; simp
      · simp [evT]
    · split
      · rename_i h2
        subst h2
        split
        · rename_i h
          simp only [evT]
          have : a * ρ t.1 + t.2 * ρ t.1 = 0 := by rw [← Int.add_mul, h]; simp
          omega
        · simp only [evT]
          rw [Int.add_mul]; omega
      · simp only [evT]
        rw [tins_ev ρ i a r]; omega
def tadd : List (Nat × Int) → List (Nat × Int) → List (Nat × Int)
  | [], y => y
  | t :: r, y => tins t.1 t.2 (tadd r y)
theorem tadd_ev (ρ : Nat → Int) : ∀ x y, evT ρ (tadd x y) = evT ρ x + evT ρ y
  | [], y => by simp [tadd, evT]
  | t :: r, y => by
    simp only [tadd, evT]
    rw [tins_ev, tadd_ev ρ r y]; omega
def tscale (c : Int) : List (Nat × Int) → List (Nat × Int)
  | [] => []
  | t :: r => (t.1, c * t.2) :: tscale c r
theorem tscale_ev (ρ : Nat → Int) (c : Int) : ∀ ts, evT ρ (tscale c ts) = c * evT ρ ts
  | [] => by simp [tscale, evT]
  | t :: r => by
    simp only [tscale, evT]
    rw [tscale_ev ρ c r, Int.mul_add, Int.mul_assoc]
def fcon (c : Int) : Fm := (c, [])
def fid (i : Nat) : Fm := (0, [(i, 1)])
def fadd (x y : Fm) : Fm := (x.1 + y.1, tadd x.2 y.2)
def fscale (c : Int) (x : Fm) : Fm := if c = 0 then (0, []) else (c * x.1, tscale c x.2)
def fsub (x y : Fm) : Fm := fadd x (fscale (-1) y)
theorem fcon_ev (ρ : Nat → Int) (c : Int) : ev ρ (fcon c) = c := by simp [ev, fcon, evT]
theorem fid_ev (ρ : Nat → Int) (i : Nat) : ev ρ (fid i) = ρ i := by simp [ev, fid, evT]
theorem fadd_ev (ρ : Nat → Int) (x y : Fm) : ev ρ (fadd x y) = ev ρ x + ev ρ y := by
  simp only [ev, fadd]; rw [tadd_ev]; omega
theorem fscale_ev (ρ : Nat → Int) (c : Int) (x : Fm) : ev ρ (fscale c x) = c * ev ρ x := by
  unfold fscale
  split
  · rename_i h; subst h; simp [ev, evT]
  · simp only [ev]; rw [tscale_ev, Int.mul_add]
theorem fsub_ev (ρ : Nat → Int) (x y : Fm) : ev ρ (fsub x y) = ev ρ x - ev ρ y := by
  unfold fsub; rw [fadd_ev, fscale_ev]; omega
/-- all unknowns below m -/
def wfT (m : Nat) (ts : List (Nat × Int)) : Prop := ∀ t ∈ ts, t.1 < m
abbrev wfF (m : Nat) (f : Fm) : Prop := wfT m f.2
theorem wf_tins {m i : Nat} {a : Int} (hi : i < m) : ∀ {ts}, wfT m ts → wfT m (tins i a ts)
  | [], _ => by
    unfold tins
    split
    · intro t ht; cases ht
    · intro t ht; rw [List.mem_singleton] at ht; subst ht; exact hi
  | t :: r, h => by
    have hr : wfT m r := fun x hx => h x (List.mem_cons_of_mem _ hx)
    have ht : t.1 < m := h t List.mem_cons_self
    unfold tins
    split
    · split
      · exact h
      · intro x hx
        rcases List.mem_cons.mp hx with rfl | hx
        · exact hi
        · exact h x hx
    · split
      · split
        · exact hr
        · intro x hx
          rcases List.mem_cons.mp hx with rfl | hx
          · exact hi
          · exact hr x hx
      · intro x hx
        rcases List.mem_cons.mp hx with rfl | hx
        · exact ht
        · exact wf_tins hi hr x hx
theorem wf_tadd {m : Nat} {y : List (Nat × Int)} (hy : wfT m y) : ∀ {x}, wfT m x → wfT m (tadd x y)
  | [], _ => hy
  | t :: r, h => wf_tins (h t List.mem_cons_self) (wf_tadd hy (fun x hx => h x (List.mem_cons_of_mem _ hx)))
theorem wf_tscale {m : Nat} {c : Int} : ∀ {ts}, wfT m ts → wfT m (tscale c ts)
  | [], _ => fun t ht => by cases ht
  | t :: r, h => by
    intro x hx
    rcases List.mem_cons.mp hx with rfl | hx
    · exact h t List.mem_cons_self
    · exact wf_tscale (fun x hx => h x (List.mem_cons_of_mem _ hx)) x hx
theorem wf_con (m : Nat) (c : Int) : wfF m (fcon c) := fun t ht => by cases ht
theorem wf_id {m i : Nat} (h : i < m) : wfF m (fid i) := fun t ht => by
  have : t = (i, 1) := by simpa [fid] using ht
  subst this; exact h
theorem wf_add {m : Nat} {x y : Fm} (hx : wfF m x) (hy : wfF m y) : wfF m (fadd x y) := wf_tadd hy hx
theorem wf_scale {m : Nat} {c : Int} {x : Fm} (hx : wfF m x) : wfF m (fscale c x) := by
  unfold fscale
  split
  · intro t ht; cases ht
  · exact wf_tscale hx
theorem wf_sub {m : Nat} {x y : Fm} (hx : wfF m x) (hy : wfF m y) : wfF m (fsub x y) := wf_add hx (wf_scale hy)
theorem wf_mono {m m' : Nat} {f : Fm} (h : wfF m f) (hm : m ≤ m') : wfF m' f := fun t ht => Nat.lt_of_lt_of_le (h t ht) hm
/-- a valuation within the ranges -/
def eOK (ρ : Nat → Int) (env : REnv) : Prop := ∀ i, i < env.length → (env.getD i (0, 0)).1 ≤ ρ i ∧ ρ i ≤ (env.getD i (0, 0)).2
def ivT (env : REnv) : List (Nat × Int) → Int × Int
  | [] => (0, 0)
  | t :: r => if 0 ≤ t.2 then (t.2 * (env.getD t.1 (0, 0)).1 + (ivT env r).1, t.2 * (env.getD t.1 (0, 0)).2 + (ivT env r).2) else (t.2 * (env.getD t.1 (0, 0)).2 + (ivT env r).1, t.2 * (env.getD t.1 (0, 0)).1 + (ivT env r).2)
theorem ivT_ok {ρ : Nat → Int} {env : REnv} (he : eOK ρ env) : ∀ {ts}, wfT env.length ts → (ivT env ts).1 ≤ evT ρ ts ∧ evT ρ ts ≤ (ivT env ts).2
  | [], _ => by simp [ivT, evT]
  | t :: r, h => by
    have ih := ivT_ok he (fun x hx => h x (List.mem_cons_of_mem _ hx) : wfT env.length r)
    have hb := he t.1 (h t List.mem_cons_self)
    unfold ivT
    simp only [evT]
    split
    · rename_i h0
      have h1 := Int.mul_le_mul_of_nonneg_left hb.1 h0
      have h2 := Int.mul_le_mul_of_nonneg_left hb.2 h0
      dsimp only
      omega
    · rename_i h0
      have h1 := Int.mul_le_mul_of_nonpos_left (a := t.2) (by omega) hb.1
      have h2 := Int.mul_le_mul_of_nonpos_left (a := t.2) (by omega) hb.2
      dsimp only
      omega
def iv (env : REnv) (f : Fm) : Int × Int := (f.1 + (ivT env f.2).1, f.1 + (ivT env f.2).2)
theorem iv_ok {ρ : Nat → Int} {env : REnv} {f : Fm} (he : eOK ρ env) (hw : wfF env.length f) : (iv env f).1 ≤ ev ρ f ∧ ev ρ f ≤ (iv env f).2 := by
  have := ivT_ok he hw
  unfold iv ev
  dsimp only
  omega
def rup (ρ : Nat → Int) (i : Nat) (x : Int) : Nat → Int := fun j => if j = i then x else ρ j
theorem evT_same {ρ ρ' : Nat → Int} {m : Nat} (h : ∀ i, i < m → ρ' i = ρ i) : ∀ {ts}, wfT m ts → evT ρ' ts = evT ρ ts
  | [], _ => rfl
  | t :: r, hw => by
    simp only [evT]
    rw [h t.1 (hw t List.mem_cons_self), evT_same h (fun x hx => hw x (List.mem_cons_of_mem _ hx))]
theorem ev_same {ρ ρ' : Nat → Int} {m : Nat} {f : Fm} (h : ∀ i, i < m → ρ' i = ρ i) (hw : wfF m f) : ev ρ' f = ev ρ f := by
  unfold ev; rw [evT_same h hw]
theorem rup_old {ρ : Nat → Int} {m : Nat} {x : Int} : ∀ i, i < m → rup ρ m x i = ρ i := fun i hi => if_neg (by omega)
theorem eOK_push {ρ : Nat → Int} {env : REnv} {lo hi x : Int} (he : eOK ρ env) (h1 : lo ≤ x) (h2 : x ≤ hi) : eOK (rup ρ env.length x) (env ++ [(lo, hi)]) := by
  intro i hl
  rw [List.length_append, List.length_singleton] at hl
  by_cases e : i = env.length
  · subst e
    unfold rup
    rw [if_pos rfl, List.getD_eq_getElem?_getD, List.getElem?_append_right (Nat.le_refl _), Nat.sub_self]
    exact ⟨h1, h2⟩
  · unfold rup
    rw [if_neg e, List.getD_eq_getElem?_getD, List.getElem?_append_left (by omega), ← List.getD_eq_getElem?_getD]
    exact he i (by omega)
/-- narrowing one unknown's range -/
def esetHi (env : REnv) (i : Nat) (x : Int) : REnv := if x < (env.getD i (0, 0)).2 then env.set i ((env.getD i (0, 0)).1, x) else env
def esetLo (env : REnv) (i : Nat) (x : Int) : REnv := if (env.getD i (0, 0)).1 < x then env.set i (x, (env.getD i (0, 0)).2) else env
theorem getD_set {env : REnv} {i j : Nat} {v : Int × Int} : (env.set i v).getD j (0, 0) = if i = j ∧ j < env.length then v else env.getD j (0, 0) := by
  rw [List.getD_eq_getElem?_getD, List.getElem?_set, List.getD_eq_getElem?_getD]
  by_cases h : i = j
  · subst h
    by_cases h2 : i < env.length
    · simp [h2]
    · simp [h2]
  · simp [h]
theorem eOK_hi {ρ : Nat → Int} {env : REnv} {i : Nat} {x : Int} (he : eOK ρ env) (hx : ρ i ≤ x) : eOK ρ (esetHi env i x) ∧ (esetHi env i x).length = env.length := by
  unfold esetHi
  split
  · refine ⟨fun j hj => ?_, by simp⟩
    rw [List.length_set] at hj
    rw [getD_set]
    split
    · rename_i h; obtain ⟨rfl, -⟩ := h
      exact ⟨(he i hj).1, hx⟩
    · exact he j hj
  · exact ⟨he, rfl⟩
theorem eOK_lo {ρ : Nat → Int} {env : REnv} {i : Nat} {x : Int} (he : eOK ρ env) (hx : x ≤ ρ i) : eOK ρ (esetLo env i x) ∧ (esetLo env i x).length = env.length := by
  unfold esetLo
  split
  · refine ⟨fun j hj => ?_, by simp⟩
    rw [List.length_set] at hj
    rw [getD_set]
    split
    · rename_i h; obtain ⟨rfl, -⟩ := h
      exact ⟨hx, (he i hj).2⟩
    · exact he j hj
  · exact ⟨he, rfl⟩
/-- what 'd ≤ 0' says of each unknown of d, the others within e0 -/
def rle (e0 : REnv) (d : Fm) : List (Nat × Int) → REnv → REnv
  | [], env => env
  | t :: r, env =>
    let lo := (iv e0 d).1 - (if 0 ≤ t.2 then t.2 * (e0.getD t.1 (0, 0)).1 else t.2 * (e0.getD t.1 (0, 0)).2)
    rle e0 d r (if 0 < t.2 then esetHi env t.1 ((-lo) / t.2) else if t.2 < 0 then esetLo env t.1 (-((-lo) / (-t.2))) else env)
theorem evT_mem {ρ : Nat → Int} {e0 : REnv} (he : eOK ρ e0) : ∀ {ts : List (Nat × Int)} {t : Nat × Int}, wfT e0.length ts → t ∈ ts → (ivT e0 ts).1 - (if 0 ≤ t.2 then t.2 * (e0.getD t.1 (0, 0)).1 else t.2 * (e0.getD t.1 (0, 0)).2) ≤ evT ρ ts - t.2 * ρ t.1
  | [], t, _, ht => by cases ht
  | q :: r, t, hw, ht => by
    have hr : wfT e0.length r := fun x hx => hw x (List.mem_cons_of_mem _ hx)
    rcases List.mem_cons.mp ht with rfl | ht
    · have := (ivT_ok he hr).1
      unfold ivT
      simp only [evT]
      split
      · dsimp only; omega
      · dsimp only; omega
    · have ih := evT_mem he hr ht
      have hb := he q.1 (hw q List.mem_cons_self)
      unfold ivT
      simp only [evT]
      split
      · rename_i h0
        have h1 := Int.mul_le_mul_of_nonneg_left hb.1 h0
        dsimp only
        omega
      · rename_i h0
        have h1 := Int.mul_le_mul_of_nonpos_left (a := q.2) (by omega) hb.2
        dsimp only
        omega
theorem rle_ok {ρ : Nat → Int} {e0 : REnv} {d : Fm} (he : eOK ρ e0) (hw : wfF e0.length d) (hd : ev ρ d ≤ 0) : ∀ {ts : List (Nat × Int)} {env : REnv}, (∀ t ∈ ts, t ∈ d.2) → eOK ρ env → eOK ρ (rle e0 d ts env) ∧ (rle e0 d ts env).length = env.length
  | [], env, _, h => ⟨h, rfl⟩
  | t :: r, env, hs, h => by
    have hm := evT_mem he hw (hs t List.mem_cons_self)
    have key : t.2 * ρ t.1 ≤ -((iv e0 d).1 - (if 0 ≤ t.2 then t.2 * (e0.getD t.1 (0, 0)).1 else t.2 * (e0.getD t.1 (0, 0)).2)) := by
      unfold iv
      unfold ev at hd
      dsimp only
      omega
    unfold rle
    dsimp only
    generalize (iv e0 d).1 - (if 0 ≤ t.2 then t.2 * (e0.getD t.1 (0, 0)).1 else t.2 * (e0.getD t.1 (0, 0)).2) = lo at key ⊢
    have hrs : ∀ x ∈ r, x ∈ d.2 := fun x hx => hs x (List.mem_cons_of_mem _ hx)
    split
    · rename_i h0
      have hx : ρ t.1 ≤ (-lo) / t.2 := (Int.le_ediv_iff_mul_le h0).mpr (by rw [Int.mul_comm]; exact key)
      obtain ⟨q1, q2⟩ := eOK_hi (i := t.1) h hx
      obtain ⟨q3, q4⟩ := rle_ok he hw hd hrs q1
      exact ⟨q3, q4.trans q2⟩
    · split
      · rename_i h0
        have hx : -((-lo) / (-t.2)) ≤ ρ t.1 := by
          have h1 : -ρ t.1 ≤ (-lo) / (-t.2) := (Int.le_ediv_iff_mul_le (by omega)).mpr (by rw [Int.neg_mul_neg, Int.mul_comm]; exact key)
          omega
        obtain ⟨q1, q2⟩ := eOK_lo (i := t.1) h hx
        obtain ⟨q3, q4⟩ := rle_ok he hw hd hrs q1
        exact ⟨q3, q4.trans q2⟩
      · exact rle_ok he hw hd hrs h
