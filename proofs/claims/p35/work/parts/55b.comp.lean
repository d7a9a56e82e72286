/-! RELATIONS KEPT BY HAND, IN PIECES -/
def inD (df : List (Nat × Nat)) (j : Nat) : Bool := df.any fun q => decide (q.1 ≤ j) && decide (j < q.2)
/-- a piece: what it says of a pool (the class's cells from t on, the reference's array D), the class's cells at t = 0, the reference's numbers -/
abbrev Pc : Type := (bH → Nat → Nat → Prop) × List (Nat × Nat × Nat) × List (Nat × Nat)
/-- a piece that is not kept -/
abbrev Gc : Type := (bH → Prop) × List (Nat × Nat × Nat)
def PcOK (c : Pc) : Prop := ∀ (h h' : bH) (t t' D D' : Nat), (∀ a j, wrF (some c.2.1) a j = true → h' (a + t') j = h (a + t) j) → (∀ j, inD c.2.2 j = true → h' D' j = h D j) → c.1 h t D → c.1 h' t' D'
def GcOK (c : Gc) : Prop := ∀ h h' : bH, (∀ a j, wrF (some c.2) a j = true → h' a j = h a j) → c.1 h → c.1 h'
def fpP (c : Pc) (t D : Nat) : List (Nat × Nat × Nat) := c.2.1.map (fun q => (q.1 + t, q.2.1, q.2.2)) ++ c.2.2.map (fun q => (D, q.1, q.2))
theorem wr_x {l : List (Nat × Nat × Nat)} {a j : Nat} (h : wrF (some l) a j = true) : ∃ q ∈ l, q.1 = a ∧ q.2.1 ≤ j ∧ j < q.2.2 := by
  unfold wrF at h
  dsimp only at h
  rw [List.any_eq_true] at h
  obtain ⟨q, hq, e⟩ := h
  simp only [Bool.and_eq_true, beq_iff_eq, decide_eq_true_eq] at e
  exact ⟨q, hq, e.1, e.2.1, e.2.2⟩
theorem wr_i {l : List (Nat × Nat × Nat)} {a j : Nat} {q : Nat × Nat × Nat} (hq : q ∈ l) (e1 : q.1 = a) (e2 : q.2.1 ≤ j) (e3 : j < q.2.2) : wrF (some l) a j = true := by
  unfold wrF
  dsimp only
  rw [List.any_eq_true]
  exact ⟨q, hq, by simp [e1, e2, e3]⟩
theorem wr_in {fp : List (Nat × Nat × Nat)} {a lo hi j : Nat} (hm : (a, lo, hi) ∈ fp) (h1 : lo ≤ j) (h2 : j < hi) : wrF (some fp) a j = true := wr_i hm rfl h1 h2
theorem wr_sub {l l' : List (Nat × Nat × Nat)} (hs : ∀ q ∈ l, q ∈ l') {a j : Nat} (h : wrF (some l) a j = true) : wrF (some l') a j = true := by
  obtain ⟨q, hq, e1, e2, e3⟩ := wr_x h
  exact wr_i (hs q hq) e1 e2 e3
theorem fpP_c {c : Pc} {t D a j : Nat} (h : wrF (some c.2.1) a j = true) : wrF (some (fpP c t D)) (a + t) j = true := by
  obtain ⟨q, hq, e1, e2, e3⟩ := wr_x h
  exact wr_i (q := (q.1 + t, q.2.1, q.2.2)) (List.mem_append_left _ (List.mem_map.mpr ⟨q, hq, rfl⟩)) (by rw [e1]) e2 e3
theorem fpP_d {c : Pc} {t D j : Nat} (h : inD c.2.2 j = true) : wrF (some (fpP c t D)) D j = true := by
  unfold inD at h
  rw [List.any_eq_true] at h
  obtain ⟨q, hq, e⟩ := h
  simp only [Bool.and_eq_true, decide_eq_true_eq] at e
  exact wr_i (q := (D, q.1, q.2)) (List.mem_append_right _ (List.mem_map.mpr ⟨q, hq, rfl⟩)) rfl e.1 e.2
theorem Pc_tr {c : Pc} (hc : PcOK c) {h h' : bH} {t D : Nat} (hf : ∀ a j, wrF (some (fpP c t D)) a j = true → h' a j = h a j) (q : c.1 h t D) : c.1 h' t D := hc h h' t t D D (fun _ _ e => hf _ _ (fpP_c e)) (fun _ e => hf _ _ (fpP_d e)) q
def fpF : List (Nat × Nat × Nat) := [(0, 2, 3), (193, 2, 3)]
def RR (ps : List Pc) (gs : List Gc) (h : bH) : Prop := h 0 2 = h 193 2 ∧ (∀ c ∈ ps, c.1 h 0 194 ∧ c.1 h 84 195) ∧ ∀ c ∈ gs, c.1 h
def fpR (ps : List Pc) (gs : List Gc) : List (Nat × Nat × Nat) := fpF ++ (ps.flatMap (fun c => fpP c 0 194 ++ fpP c 84 195) ++ gs.flatMap (fun c => c.2))
theorem fpR_p {ps : List Pc} {gs : List Gc} {c : Pc} (hc : c ∈ ps) {a j : Nat} (h : wrF (some (fpP c 0 194)) a j = true) : wrF (some (fpR ps gs)) a j = true := wr_sub (fun _ hq => List.mem_append_right _ (List.mem_append_left _ (List.mem_flatMap.mpr ⟨c, hc, List.mem_append_left _ hq⟩))) h
theorem fpR_s {ps : List Pc} {gs : List Gc} {c : Pc} (hc : c ∈ ps) {a j : Nat} (h : wrF (some (fpP c 84 195)) a j = true) : wrF (some (fpR ps gs)) a j = true := wr_sub (fun _ hq => List.mem_append_right _ (List.mem_append_left _ (List.mem_flatMap.mpr ⟨c, hc, List.mem_append_right _ hq⟩))) h
theorem fpR_g {ps : List Pc} {gs : List Gc} {c : Gc} (hc : c ∈ gs) {a j : Nat} (h : wrF (some c.2) a j = true) : wrF (some (fpR ps gs)) a j = true := wr_sub (fun _ hq => List.mem_append_right _ (List.mem_append_right _ (List.mem_flatMap.mpr ⟨c, hc, hq⟩))) h
theorem RR_fr {ps : List Pc} {gs : List Gc} (hps : ∀ c ∈ ps, PcOK c) (hgs : ∀ c ∈ gs, GcOK c) (h h' : bH) (hf : ∀ a j, wrF (some (fpR ps gs)) a j = true → h' a j = h a j) (q : RR ps gs h) : RR ps gs h' := by
  obtain ⟨q1, q2, q3⟩ := q
  have f1 : wrF (some (fpR ps gs)) 0 2 = true := wr_sub (l := fpF) (fun _ hq => List.mem_append_left _ hq) (by decide)
  have f2 : wrF (some (fpR ps gs)) 193 2 = true := wr_sub (l := fpF) (fun _ hq => List.mem_append_left _ hq) (by decide)
  refine ⟨by rw [hf _ _ f1, hf _ _ f2, q1], fun c hc => ⟨?_, ?_⟩, fun c hc => ?_⟩
  · exact Pc_tr (hps c hc) (fun a j e => hf a j (fpR_p hc e)) (q2 c hc).1
  · exact Pc_tr (hps c hc) (fun a j e => hf a j (fpR_s hc e)) (q2 c hc).2
  · exact hgs c hc h h' (fun a j e => hf a j (fpR_g hc e)) (q3 c hc)
/-- an op that touches some pieces of the pool -/
theorem RR_op {ps : List Pc} {gs : List Gc} {h h' : bH} {w : List (Nat × Nat × Nat)} (hps : ∀ c ∈ ps, PcOK c) (hgs : ∀ c ∈ gs, GcOK c) (hw : ∀ a j, wrF (some w) a j = false → h' a j = h a j) (h0 : wdis w fpF = true) (hP : ∀ c ∈ ps, wdis w (fpP c 84 195) = true ∧ (wdis w (fpP c 0 194) = true ∨ c.1 h' 0 194)) (hG : ∀ c ∈ gs, wdis w c.2 = true ∨ c.1 h') (q : RR ps gs h) : RR ps gs h' := by
  obtain ⟨q1, q2, q3⟩ := q
  refine ⟨by rw [hw _ _ (wdis_ok h0 (by decide)), hw _ _ (wdis_ok h0 (by decide)), q1], fun c hc => ⟨?_, ?_⟩, fun c hc => ?_⟩
  · rcases (hP c hc).2 with e | e
    · exact Pc_tr (hps c hc) (fun a j f => hw a j (wdis_ok e f)) (q2 c hc).1
    · exact e
  · exact Pc_tr (hps c hc) (fun a j f => hw a j (wdis_ok (hP c hc).1 f)) (q2 c hc).2
  · rcases hG c hc with e | e
    · exact hgs c hc h h' (fun a j f => hw a j (wdis_ok e f)) (q3 c hc)
    · exact e
/-- the places of the pool that the class's keep and again move -/
def poolL : List (Nat × Nat × Nat) := [(2, 0, 2), (3, 0, 16), (4, 0, 16), (5, 0, 16), (6, 0, 16), (7, 0, 16), (8, 0, 16), (9, 0, 16), (2, 9, 13), (10, 0, 20), (11, 0, 20), (2, 15, 17), (12, 0, 24), (13, 0, 24), (14, 0, 1), (15, 0, 6), (16, 0, 24), (17, 0, 1), (17, 4, 6), (17, 10, 11), (17, 14, 15), (18, 0, 24), (19, 0, 24), (20, 0, 24), (21, 0, 8), (22, 0, 8), (23, 0, 8), (24, 0, 8), (25, 0, 16), (26, 0, 16), (27, 0, 16), (28, 0, 12), (29, 0, 12), (30, 3, 6), (31, 0, 8), (32, 0, 6), (33, 0, 8)]
def wsub (l l' : List (Nat × Nat × Nat)) : Bool := l.all fun q => l'.any fun p => p.1 == q.1 && (decide (p.2.1 ≤ q.2.1) && decide (q.2.2 ≤ p.2.2))
theorem wsub_ok {l l' : List (Nat × Nat × Nat)} (h : wsub l l' = true) {a j : Nat} (hw : wrF (some l) a j = true) : wrF (some l') a j = true := by
  obtain ⟨q, hq, e1, e2, e3⟩ := wr_x hw
  have := List.all_eq_true.mp h q hq
  rw [List.any_eq_true] at this
  obtain ⟨p, hp, e⟩ := this
  simp only [Bool.and_eq_true, beq_iff_eq, decide_eq_true_eq] at e
  exact wr_i hp (e.1.trans e1) (Nat.le_trans e.2.1 e2) (Nat.lt_of_lt_of_le e3 e.2.2)
def wKM : List (Nat × Nat × Nat) := [(195, 0, 1984), (193, 2, 3)]
def wAM : List (Nat × Nat × Nat) := [(194, 0, 1984)]
def kcpB (w wm : List (Nat × Nat × Nat)) (t D t' D' : Nat) (c : Pc) : Bool := wsub c.2.1 poolL && ((c.2.2.all fun q => decide (q.2 ≤ 1984)) && (wdis (w ++ wm) (fpP c t D) && (wdis wm (fpP c t' D) && wdis w (c.2.2.map fun q => (D, q.1, q.2)))))
theorem inD_lt {df : List (Nat × Nat)} (h : (df.all fun q => decide (q.2 ≤ 1984)) = true) {j : Nat} (hj : inD df j = true) : j < 1984 := by
  unfold inD at hj
  rw [List.any_eq_true] at hj
  obtain ⟨q, hq, e⟩ := hj
  simp only [Bool.and_eq_true, decide_eq_true_eq] at e
  have := of_decide_eq_true (List.all_eq_true.mp h q hq)
  omega
theorem wr_app {l l' : List (Nat × Nat × Nat)} {a j : Nat} (h : wrF (some (l ++ l')) a j = false) : wrF (some l) a j = false ∧ wrF (some l') a j = false := by
  constructor
  · cases e : wrF (some l) a j with
    | false => rfl
    | true => rw [wr_sub (l' := l ++ l') (fun _ hq => List.mem_append_left _ hq) e] at h; cases h
  · cases e : wrF (some l') a j with
    | false => rfl
    | true => rw [wr_sub (l' := l ++ l') (fun _ hq => List.mem_append_right _ hq) e] at h; cases h
/-- a copy of all of a pool's pieces from (t, D) to (t', D') -/
theorem RR_copy {c : Pc} {h h1 h2 : bH} {w wm : List (Nat × Nat × Nat)} {t D t' D' : Nat} (hc : PcOK c) (hk : kcpB w wm t D t' D' c = true) (k1 : ∀ a j, wrF (some poolL) a j = true → h1 (a + t') j = h (a + t) j) (k1w : ∀ a j, wrF (some w) a j = false → h1 a j = h a j) (k2 : ∀ j, j < 1984 → h2 D' j = h1 D j) (k2w : ∀ a j, wrF (some wm) a j = false → h2 a j = h1 a j) (q : c.1 h t D) : c.1 h2 t D ∧ c.1 h2 t' D' := by
  unfold kcpB at hk
  simp only [Bool.and_eq_true] at hk
  obtain ⟨b1, b2, b3, b4, b5⟩ := hk
  constructor
  · refine Pc_tr hc (fun a j f => ?_) q
    have := wr_app (wdis_ok b3 f)
    rw [k2w a j this.2, k1w a j this.1]
  · refine hc h h2 t t' D D' (fun a j f => ?_) (fun j f => ?_) q
    · rw [k2w _ _ (wdis_ok b4 (fpP_c (t := t') (D := D) f)), k1 a j (wsub_ok b1 f)]
    · have hl := inD_lt b2 f
      have : wrF (some (c.2.2.map fun q => (D, q.1, q.2))) D j = true := by
        unfold inD at f
        rw [List.any_eq_true] at f
        obtain ⟨q, hq, e⟩ := f
        simp only [Bool.and_eq_true, decide_eq_true_eq] at e
        exact wr_i (q := (D, q.1, q.2)) (List.mem_map.mpr ⟨q, hq, rfl⟩) rfl e.1 e.2
      rw [k2 j hl, k1w _ _ (wdis_ok b5 this)]
def semKB (w : List (Nat × Nat × Nat)) (_ : List bV) (h : bH) (r : Option bV) (h' : bH) : Prop := r = some (0, 1) ∧ (∀ a j, wrF (some poolL) a j = true → h' (a + 84) j = h a j) ∧ h' 0 2 = 1 ∧ ∀ a j, wrF (some w) a j = false → h' a j = h a j
def semAB (w : List (Nat × Nat × Nat)) (_ : List bV) (h : bH) (r : Option bV) (h' : bH) : Prop := (h 0 2 = 0 ∧ r = some (0, -3) ∧ h' = h) ∨ (h 0 2 ≠ 0 ∧ r = some (0, 1) ∧ (∀ a j, wrF (some poolL) a j = true → h' a j = h (a + 84) j) ∧ ∀ a j, wrF (some w) a j = false → h' a j = h a j)
theorem RR_keep {ps : List Pc} {gs : List Gc} {h h1 h2 : bH} {w : List (Nat × Nat × Nat)} {vs vs' : List bV} {r1 r2 : Option bV} (hps : ∀ c ∈ ps, PcOK c) (hgs : ∀ c ∈ gs, GcOK c) (hk : (ps.all (kcpB w wKM 0 194 84 195) && gs.all fun c => wdis (w ++ wKM) c.2) = true) (s1 : semKB w vs h r1 h1) (s2 : semKM vs' h1 r2 h2) (q : RR ps gs h) : RR ps gs h2 := by
  rw [Bool.and_eq_true] at hk
  obtain ⟨q1, q2, q3⟩ := q
  obtain ⟨-, k1, kf, k1w⟩ := s1
  obtain ⟨k2, kg, k2w⟩ := s2
  have k2w' : ∀ a j, wrF (some wKM) a j = false → h2 a j = h1 a j := fun a j e => k2w a j (fun z => by rw [z.1, wr_in (lo := 0) (hi := 1984) (by decide) (Nat.zero_le _) z.2] at e; cases e) (fun z => by rw [z.1, z.2] at e; exact absurd e (by decide))
  refine ⟨?_, fun c hc => ?_, fun c hc => ?_⟩
  · rw [k2w' 0 2 (by decide), kf, kg]
  · exact RR_copy (t' := 84) (t := 0) (hps c hc) (List.all_eq_true.mp hk.1 c hc) k1 k1w k2 k2w' (q2 c hc).1
  · refine hgs c hc h h2 (fun a j f => ?_) (q3 c hc)
    have := wr_app (wdis_ok (List.all_eq_true.mp hk.2 c hc) f)
    rw [k2w' a j this.2, k1w a j this.1]
theorem RR_again {ps : List Pc} {gs : List Gc} {h h1 h2 : bH} {w : List (Nat × Nat × Nat)} {vs vs' : List bV} {r1 r2 : Option bV} (hps : ∀ c ∈ ps, PcOK c) (hgs : ∀ c ∈ gs, GcOK c) (h0 : wdis (w ++ wAM) fpF = true) (hk : (ps.all (kcpB w wAM 84 195 0 194) && gs.all fun c => wdis (w ++ wAM) c.2) = true) (s1 : semAB w vs h r1 h1) (s2 : semAM vs' h1 r2 h2) (q : RR ps gs h) : RR ps gs h2 := by
  rw [Bool.and_eq_true] at hk
  have q0 := q
  obtain ⟨q1, q2, q3⟩ := q
  rcases s1 with ⟨f1, -, rfl⟩ | ⟨f1, -, k1, k1w⟩
  · rcases s2 with ⟨g1, rfl⟩ | ⟨g1, -, -⟩
    · exact q0
    · omega
  · have w0 : h1 0 2 = h 0 2 := k1w _ _ (wr_app (wdis_ok h0 (by decide))).1
    have w1 : h1 193 2 = h 193 2 := k1w _ _ (wr_app (wdis_ok h0 (by decide))).1
    rcases s2 with ⟨g1, rfl⟩ | ⟨g1, k2, k2w⟩
    · rw [w1] at g1
      omega
    · have k2w' : ∀ a j, wrF (some wAM) a j = false → h2 a j = h1 a j := fun a j e => k2w a j (fun z => by rw [z.1, wr_in (lo := 0) (hi := 1984) (by decide) (Nat.zero_le _) z.2] at e; cases e)
      refine ⟨?_, fun c hc => ?_, fun c hc => ?_⟩
      · rw [k2w' 0 2 (by decide), k2w' 193 2 (by decide), w0, w1, q1]
      · exact (RR_copy (t := 84) (t' := 0) (hps c hc) (List.all_eq_true.mp hk.1 c hc) (fun a j e => k1 a j e) k1w k2 k2w' (q2 c hc).2).symm
      · refine hgs c hc h h2 (fun a j f => ?_) (q3 c hc)
        have := wr_app (wdis_ok (List.all_eq_true.mp hk.2 c hc) f)
        rw [k2w' a j this.2, k1w a j this.1]
/-- rows of one sort: a count on both sides, the class's columns, the reference's rows -/
def recX (cn : Nat × Nat) (n0 N B s : Nat) (As : List Nat) (zs : List (Nat × Nat)) (F : Nat → (Nat → Int) → (Nat → Int) → (Nat → Int) → Prop) : Pc := (fun h t D => ∃ c : Nat, h (cn.1 + t) cn.2 = (c : Int) ∧ h D n0 = (c : Int) ∧ c ≤ N ∧ ∀ b, b < c → F b (fun i => h ((zs.getD i (0, 0)).1 + t) (zs.getD i (0, 0)).2) (fun i => h (As.getD i 0 + t) b) (fun k => h D (B + s * b + k)), (cn.1, cn.2, cn.2 + 1) :: (As.map (fun a => (a, 0, N)) ++ zs.map (fun z => (z.1, z.2, z.2 + 1))), [(n0, n0 + 1), (B, B + s * N)])
/-- F asks for the columns of As and s numbers alone -/
def recF (nA nz s : Nat) (F : Nat → (Nat → Int) → (Nat → Int) → (Nat → Int) → Prop) : Prop := ∀ b z z' x x' y y', (∀ i, i < nz → z' i = z i) → (∀ i, i < nA → x' i = x i) → (∀ k, k < s → y' k = y k) → F b z x y → F b z' x' y'
theorem recX_ok {cn : Nat × Nat} {n0 N B s : Nat} {As : List Nat} {zs : List (Nat × Nat)} {F : Nat → (Nat → Int) → (Nat → Int) → (Nat → Int) → Prop} (hF : recF As.length zs.length s F) : PcOK (recX cn n0 N B s As zs F) := by
  intro h h' t t' D D' hc hd q
  obtain ⟨c, q1, q2, q3, q4⟩ := q
  refine ⟨c, ?_, ?_, q3, fun b hb => ?_⟩
  · rw [hc cn.1 cn.2 (wr_i List.mem_cons_self rfl (Nat.le_refl _) (Nat.lt_succ_self _)), q1]
  · rw [hd n0 (List.any_eq_true.mpr ⟨(n0, n0 + 1), List.mem_cons_self, by simp⟩), q2]
  · refine hF b _ _ _ _ _ _ (fun i hi => ?_) (fun i hi => ?_) (fun k hk => ?_) (q4 b hb)
    · have e : zs.getD i (0, 0) = zs[i] := by rw [List.getD_eq_getElem?_getD, List.getElem?_eq_getElem hi]; rfl
      rw [e]
      exact hc _ _ (wr_i (q := (zs[i].1, zs[i].2, zs[i].2 + 1)) (List.mem_cons_of_mem _ (List.mem_append_right _ (List.mem_map.mpr ⟨zs[i], List.getElem_mem hi, rfl⟩))) rfl (Nat.le_refl _) (Nat.lt_succ_self _))
    · have e : As.getD i 0 = As[i] := by rw [List.getD_eq_getElem?_getD, List.getElem?_eq_getElem hi]; rfl
      rw [e]
      exact hc _ _ (wr_i (q := (As[i], 0, N)) (List.mem_cons_of_mem _ (List.mem_append_left _ (List.mem_map.mpr ⟨As[i], List.getElem_mem hi, rfl⟩))) rfl (Nat.zero_le _) (by show b < N; omega))
    · refine hd _ (List.any_eq_true.mpr ⟨(B, B + s * N), List.mem_cons_of_mem _ List.mem_cons_self, ?_⟩)
      have h1 : s * b + s ≤ s * N := by
        have := Nat.mul_le_mul_left s (show b + 1 ≤ N by omega)
        rw [Nat.mul_add, Nat.mul_one] at this
        exact this
      have h2 : B ≤ B + s * b + k := by omega
      have h3 : B + s * b + k < B + s * N := by omega
      simp [h2, h3]
/-- one row more -/
theorem recX_push {cn : Nat × Nat} {n0 N B s : Nat} {As : List Nat} {zs : List (Nat × Nat)} {F : Nat → (Nat → Int) → (Nat → Int) → (Nat → Int) → Prop} (hF : recF As.length zs.length s F) {h h' : bH} {t D c : Nat} (q1 : h (cn.1 + t) cn.2 = (c : Int)) (q : (recX cn n0 N B s As zs F).1 h t D) (hN : c < N) (p1 : h' (cn.1 + t) cn.2 = ((c + 1 : Nat) : Int)) (p2 : h' D n0 = ((c + 1 : Nat) : Int)) (p3 : ∀ i, i < As.length → ∀ b, b < c → h' (As.getD i 0 + t) b = h (As.getD i 0 + t) b) (p4 : ∀ j, B ≤ j → j < B + s * c → h' D j = h D j) (p5 : ∀ b x y, b < c → F b (fun i => h ((zs.getD i (0, 0)).1 + t) (zs.getD i (0, 0)).2) x y → F b (fun i => h' ((zs.getD i (0, 0)).1 + t) (zs.getD i (0, 0)).2) x y) (p6 : F c (fun i => h' ((zs.getD i (0, 0)).1 + t) (zs.getD i (0, 0)).2) (fun i => h' (As.getD i 0 + t) c) (fun k => h' D (B + s * c + k))) : (recX cn n0 N B s As zs F).1 h' t D := by
  obtain ⟨c', q1', q2, q3, q4⟩ := q
  have e : c' = c := by have := q1'.symm.trans q1; omega
  subst e
  refine ⟨c' + 1, p1, p2, hN, fun b hb => ?_⟩
  by_cases e : b = c'
  · subst e
    exact p6
  · have hb' : b < c' := by omega
    refine hF b _ _ _ _ _ _ (fun _ _ => rfl) (fun i hi => p3 i hi b hb') (fun k hk => ?_) (p5 b _ _ hb' (q4 b hb'))
    have h1 : s * b + s ≤ s * c' := by
      have := Nat.mul_le_mul_left s (show b + 1 ≤ c' by omega)
      rw [Nat.mul_add, Nat.mul_one] at this
      exact this
    exact p4 _ (by omega) (by omega)
/-- an op's contract: its ints are unknowns -/
def cH (k lev : Nat) (w : List (Nat × Nat × Nat)) (n ref : Nat) : aCt := (k, lev, some w, false, (List.replicate n r32, [], [], 212), (2, fcon (ref : Int)) :: (List.range n).map (fun i => (0, fid i)), [((List.replicate n r32 ++ [r32], [], [], 212), some (0, fid (List.replicate n r32).length))])
theorem r32_0 {w : aW} {n : Nat} {L : bC} {h : bH} {ρ : Nat → Int} (q : core (PofW gT w false) L h ρ h (List.replicate n r32, [], [], 212)) (i : Nat) (hi : i < n) : in32 (ρ i) := by
  have := q.1 i (show i < (List.replicate n r32).length from by rw [List.length_replicate]; exact hi)
  rw [show (eC (List.replicate n r32, ([] : List Fm), ([] : Ca), 212)).getD i (0, 0) = r32 by
    show (List.replicate n r32).getD i (0, 0) = r32
    rw [List.getD_eq_getElem?_getD, List.getElem?_replicate, if_pos hi]
    rfl] at this
  exact this
theorem nat_to {h : bH} (ht : TH h) {a j n : Nat} (hb : cB a j 0 (n : Int) = true) : ∃ c : Nat, h a j = (c : Int) ∧ c ≤ n := ⟨(h a j).toNat, by have := ht.c hb; omega, by have := ht.c hb; omega⟩
theorem fr_up {w : aW} {h h1 : bH} {A J : Nat} {v : Int} (hq : ∀ a j, wrF w a j = false → h1 a j = h a j) (hi : wrF w A J = true) : ∀ a j, wrF w a j = false → hup h1 A J v a j = h a j := fun a j e => by
  rw [show hup h1 A J v a j = h1 a j from if_neg (fun q => by rw [q.1, q.2, hi] at e; cases e)]
  exact hq a j e

theorem evA0 {ρ : Nat → Int} {k lev ref : Nat} {w : List (Nat × Nat × Nat)} : evS ρ (ctA (cH k lev w 0 ref)) = [(2, (ref : Int))] := by
  show [((2 : Nat), ev ρ (fcon (ref : Int)))] = _
  rw [fcon_ev]
theorem evA1 {ρ : Nat → Int} {k lev ref : Nat} {w : List (Nat × Nat × Nat)} : evS ρ (ctA (cH k lev w 1 ref)) = [(2, (ref : Int)), (0, ρ 0)] := by
  show [((2 : Nat), ev ρ (fcon (ref : Int))), (0, ev ρ (fid 0))] = _
  rw [fcon_ev, fid_ev]
theorem vsA1 {ref : Int} {x0 y0 : Int} (h : [((2 : Nat), ref), ((0 : Nat), x0)] = [((2 : Nat), ref), ((0 : Nat), y0)]) : y0 = x0 := (congrArg (fun q : List bV => (q.getD 1 (0, 0)).2) h).symm
theorem evA2 {ρ : Nat → Int} {k lev ref : Nat} {w : List (Nat × Nat × Nat)} : evS ρ (ctA (cH k lev w 2 ref)) = [(2, (ref : Int)), (0, ρ 0), (0, ρ 1)] := by
  show [((2 : Nat), ev ρ (fcon (ref : Int))), (0, ev ρ (fid 0)), (0, ev ρ (fid 1))] = _
  rw [fcon_ev, fid_ev, fid_ev]
theorem vsA2 {ref : Int} {x0 x1 y0 y1 : Int} (h : [((2 : Nat), ref), ((0 : Nat), x0), ((0 : Nat), x1)] = [((2 : Nat), ref), ((0 : Nat), y0), ((0 : Nat), y1)]) : y0 = x0 ∧ y1 = x1 := ⟨(congrArg (fun q : List bV => (q.getD 1 (0, 0)).2) h).symm, (congrArg (fun q : List bV => (q.getD 2 (0, 0)).2) h).symm⟩
theorem evA3 {ρ : Nat → Int} {k lev ref : Nat} {w : List (Nat × Nat × Nat)} : evS ρ (ctA (cH k lev w 3 ref)) = [(2, (ref : Int)), (0, ρ 0), (0, ρ 1), (0, ρ 2)] := by
  show [((2 : Nat), ev ρ (fcon (ref : Int))), (0, ev ρ (fid 0)), (0, ev ρ (fid 1)), (0, ev ρ (fid 2))] = _
  rw [fcon_ev, fid_ev, fid_ev, fid_ev]
theorem vsA3 {ref : Int} {x0 x1 x2 y0 y1 y2 : Int} (h : [((2 : Nat), ref), ((0 : Nat), x0), ((0 : Nat), x1), ((0 : Nat), x2)] = [((2 : Nat), ref), ((0 : Nat), y0), ((0 : Nat), y1), ((0 : Nat), y2)]) : y0 = x0 ∧ y1 = x1 ∧ y2 = x2 := ⟨(congrArg (fun q : List bV => (q.getD 1 (0, 0)).2) h).symm, (congrArg (fun q : List bV => (q.getD 2 (0, 0)).2) h).symm, (congrArg (fun q : List bV => (q.getD 3 (0, 0)).2) h).symm⟩
theorem evA4 {ρ : Nat → Int} {k lev ref : Nat} {w : List (Nat × Nat × Nat)} : evS ρ (ctA (cH k lev w 4 ref)) = [(2, (ref : Int)), (0, ρ 0), (0, ρ 1), (0, ρ 2), (0, ρ 3)] := by
  show [((2 : Nat), ev ρ (fcon (ref : Int))), (0, ev ρ (fid 0)), (0, ev ρ (fid 1)), (0, ev ρ (fid 2)), (0, ev ρ (fid 3))] = _
  rw [fcon_ev, fid_ev, fid_ev, fid_ev, fid_ev]
theorem vsA4 {ref : Int} {x0 x1 x2 x3 y0 y1 y2 y3 : Int} (h : [((2 : Nat), ref), ((0 : Nat), x0), ((0 : Nat), x1), ((0 : Nat), x2), ((0 : Nat), x3)] = [((2 : Nat), ref), ((0 : Nat), y0), ((0 : Nat), y1), ((0 : Nat), y2), ((0 : Nat), y3)]) : y0 = x0 ∧ y1 = x1 ∧ y2 = x2 ∧ y3 = x3 := ⟨(congrArg (fun q : List bV => (q.getD 1 (0, 0)).2) h).symm, (congrArg (fun q : List bV => (q.getD 2 (0, 0)).2) h).symm, (congrArg (fun q : List bV => (q.getD 3 (0, 0)).2) h).symm, (congrArg (fun q : List bV => (q.getD 4 (0, 0)).2) h).symm⟩
