/-! RANGES OF PLACES, AS THEY ARE ASKED FOR -/
theorem ty_2_c0 {h : bH} (ht : TH h) : (0) ≤ h 2 0 ∧ h 2 0 ≤ 239 := ht.c (by decide +kernel)
theorem ty_18_s0 {h : bH} (ht : TH h) {j r : Nat} (e : j = 0 + 1 * r) (hr : r < 24) : (0) ≤ h 18 j ∧ h 18 j ≤ 2147483647 := by
  subst e
  exact ht.s2 (s := 0) (st := 1) (n := 24) (by decide +kernel) hr
theorem ty_19_s0 {h : bH} (ht : TH h) {j r : Nat} (e : j = 0 + 1 * r) (hr : r < 24) : (0) ≤ h 19 j ∧ h 19 j ≤ 999 := by
  subst e
  exact ht.s2 (s := 0) (st := 1) (n := 24) (by decide +kernel) hr
theorem ty_20_s0 {h : bH} (ht : TH h) {j r : Nat} (e : j = 0 + 1 * r) (hr : r < 24) : (0) ≤ h 20 j ∧ h 20 j ≤ 239 := by
  subst e
  exact ht.s2 (s := 0) (st := 1) (n := 24) (by decide +kernel) hr
theorem ty_194_c0 {h : bH} (ht : TH h) : (0) ≤ h 194 0 ∧ h 194 0 ≤ 239 := ht.c (by decide +kernel)
theorem ty_194_s306 {h : bH} (ht : TH h) {j r : Nat} (e : j = 306 + 5 * r) (hr : r < 24) : (0) ≤ h 194 j ∧ h 194 j ≤ 999 := by
  subst e
  exact ht.s2 (s := 306) (st := 5) (n := 24) (by decide +kernel) hr
theorem ty_194_s307 {h : bH} (ht : TH h) {j r : Nat} (e : j = 307 + 5 * r) (hr : r < 24) : (0) ≤ h 194 j ∧ h 194 j ≤ 999 := by
  subst e
  exact ht.s2 (s := 307) (st := 5) (n := 24) (by decide +kernel) hr
theorem ty_194_s308 {h : bH} (ht : TH h) {j r : Nat} (e : j = 308 + 5 * r) (hr : r < 24) : (0) ≤ h 194 j ∧ h 194 j ≤ 999 := by
  subst e
  exact ht.s2 (s := 308) (st := 5) (n := 24) (by decide +kernel) hr
theorem ty_194_s309 {h : bH} (ht : TH h) {j r : Nat} (e : j = 309 + 5 * r) (hr : r < 24) : (0) ≤ h 194 j ∧ h 194 j ≤ 999 := by
  subst e
  exact ht.s2 (s := 309) (st := 5) (n := 24) (by decide +kernel) hr
theorem ty_194_s310 {h : bH} (ht : TH h) {j r : Nat} (e : j = 310 + 5 * r) (hr : r < 24) : (0) ≤ h 194 j ∧ h 194 j ≤ 999 := by
  subst e
  exact ht.s2 (s := 310) (st := 5) (n := 24) (by decide +kernel) hr
theorem ty_29_s0 {h : bH} (ht : TH h) {j r : Nat} (e : j = 0 + 1 * r) (hr : r < 12) : (0) ≤ h 29 j ∧ h 29 j ≤ 9999 := by
  subst e
  exact ht.s2 (s := 0) (st := 1) (n := 12) (by decide +kernel) hr
theorem ty_28_s0 {h : bH} (ht : TH h) {j r : Nat} (e : j = 0 + 1 * r) (hr : r < 12) : (0) ≤ h 28 j ∧ h 28 j ≤ 2147483647 := by
  subst e
  exact ht.s2 (s := 0) (st := 1) (n := 12) (by decide +kernel) hr
theorem ty_194_s517 {h : bH} (ht : TH h) {j r : Nat} (e : j = 517 + 5 * r) (hr : r < 12) : (0) ≤ h 194 j ∧ h 194 j ≤ 9999 := by
  subst e
  exact ht.s2 (s := 517) (st := 5) (n := 12) (by decide +kernel) hr
theorem ty_194_s514 {h : bH} (ht : TH h) {j r : Nat} (e : j = 514 + 5 * r) (hr : r < 12) : (0) ≤ h 194 j ∧ h 194 j ≤ 9999 := by
  subst e
  exact ht.s2 (s := 514) (st := 5) (n := 12) (by decide +kernel) hr
theorem ty_194_s515 {h : bH} (ht : TH h) {j r : Nat} (e : j = 515 + 5 * r) (hr : r < 12) : (0) ≤ h 194 j ∧ h 194 j ≤ 9999 := by
  subst e
  exact ht.s2 (s := 515) (st := 5) (n := 12) (by decide +kernel) hr
theorem ty_194_s516 {h : bH} (ht : TH h) {j r : Nat} (e : j = 516 + 5 * r) (hr : r < 12) : (0) ≤ h 194 j ∧ h 194 j ≤ 9999 := by
  subst e
  exact ht.s2 (s := 516) (st := 5) (n := 12) (by decide +kernel) hr
theorem ty_194_s518 {h : bH} (ht : TH h) {j r : Nat} (e : j = 518 + 5 * r) (hr : r < 12) : (0) ≤ h 194 j ∧ h 194 j ≤ 9999 := by
  subst e
  exact ht.s2 (s := 518) (st := 5) (n := 12) (by decide +kernel) hr
theorem ty_0_c2 {h : bH} (ht : TH h) : (0) ≤ h 0 2 ∧ h 0 2 ≤ 1 := ht.c (by decide +kernel)
/-! SUMS: the same values, counted at one draw of each kind -/
def smI (g : Nat → Int) : Nat → Int
  | 0 => 0
  | n + 1 => smI g n + g n
theorem smI_congr {g g' : Nat → Int} : ∀ n, (∀ i, i < n → g i = g' i) → smI g n = smI g' n
  | 0, _ => rfl
  | n + 1, h => by
    simp only [smI]
    rw [smI_congr n (fun i hi => h i (by omega)), h n (by omega)]
theorem smI_add {g g' : Nat → Int} : ∀ n, smI (fun i => g i + g' i) n = smI g n + smI g' n
  | 0 => rfl
  | n + 1 => by
    simp only [smI]
    rw [smI_add n]
    omega
theorem smI_0 : ∀ n, smI (fun _ => 0) n = 0
  | 0 => rfl
  | n + 1 => by
    simp only [smI]
    rw [smI_0 n]
    rfl
theorem smI_swap {g : Nat → Nat → Int} (m : Nat) : ∀ n, smI (fun i => smI (g i) m) n = smI (fun j => smI (fun i => g i j) n) m
  | 0 => by
    simp only [smI]
    exact (smI_0 m).symm
  | n + 1 => by
    simp only [smI]
    rw [smI_swap m n, ← smI_add]
/-- one place alone -/
theorem smI_one {g : Nat → Int} {k : Nat} : ∀ n, k < n → (∀ i, i < n → i ≠ k → g i = 0) → smI g n = g k
  | 0, h, _ => by omega
  | n + 1, h, z => by
    simp only [smI]
    by_cases e : k = n
    · subst e
      rw [smI_congr (g' := fun _ => 0) k (fun i hi => z i (by omega) (by omega)), smI_0]
      omega
    · rw [smI_one n (by omega) (fun i hi hk => z i (by omega) hk), z n (by omega) (by omega)]
      omega
/-- the sum of f over the places told by P is the sum over the kinds that stand, if P tells one of each -/
theorem smI_kind {w : Nat → Nat} {f : Nat → Int} {P : Nat → Prop} [DecidablePred P] {n N : Nat} (hw : ∀ d, d < n → w d < N) (h1 : ∀ d, d < n → ∃ e, e < n ∧ w e = w d ∧ P e) (h2 : ∀ d e, d < n → e < n → w d = w e → P d → P e → d = e) : smI (fun d => if P d then f (w d) else 0) n = smI (fun v => if ∃ d, d < n ∧ w d = v then f v else 0) N := by
  have a : smI (fun d => if P d then f (w d) else 0) n = smI (fun d => smI (fun v => if P d ∧ w d = v then f v else 0) N) n := smI_congr n (fun d hd => by
    by_cases p : P d
    · rw [if_pos p, smI_one (k := w d) N (hw d hd) (fun v hv hn => if_neg (fun q => hn q.2.symm)), if_pos ⟨p, rfl⟩]
    · rw [if_neg p, smI_congr (g' := fun _ => 0) N (fun v hv => if_neg (fun q => p q.1)), smI_0])
  rw [a, smI_swap]
  refine smI_congr N (fun v hv => ?_)
  by_cases e : ∃ d, d < n ∧ w d = v
  · rw [if_pos e]
    obtain ⟨d, hd, hv⟩ := e
    obtain ⟨k, hk, hk2, hP⟩ := h1 d hd
    rw [smI_one (k := k) n hk (fun i hi hn => if_neg (fun q => hn (h2 i k hi hk (q.2.trans (hv.symm.trans hk2.symm)) q.1 hP)))]
    exact if_pos ⟨hP, hk2.trans hv⟩
  · rw [if_neg e, smI_congr (g' := fun _ => 0) n (fun d hd => if_neg (fun q => e ⟨d, hd, q.2⟩)), smI_0]
theorem smI_kinds {w : Nat → Nat} {f : Nat → Int} {P P' : Nat → Prop} [DecidablePred P] [DecidablePred P'] {n N : Nat} (hw : ∀ d, d < n → w d < N) (h1 : ∀ d, d < n → ∃ e, e < n ∧ w e = w d ∧ P e) (h2 : ∀ d e, d < n → e < n → w d = w e → P d → P e → d = e) (h1' : ∀ d, d < n → ∃ e, e < n ∧ w e = w d ∧ P' e) (h2' : ∀ d e, d < n → e < n → w d = w e → P' d → P' e → d = e) : smI (fun d => if P d then f (w d) else 0) n = smI (fun d => if P' d then f (w d) else 0) n := (smI_kind hw h1 h2).trans (smI_kind hw h1' h2').symm
/-- the first of each kind -/
def fstP (w : Nat → Nat) (d : Nat) : Prop := ∀ e, e < d → w e ≠ w d
/-- the greatest of each kind, the first of those -/
def topP (w : Nat → Nat) (x : Nat → Int) (n d : Nat) : Prop := ∀ e, e < n → w e = w d → ¬ (x d < x e ∨ (x e = x d ∧ e < d))
theorem fst_ex {w : Nat → Nat} : ∀ d, ∃ e, e ≤ d ∧ w e = w d ∧ fstP w e := by
  intro d
  induction d using Nat.strongRecOn with
  | _ d ih =>
    by_cases h : fstP w d
    · exact ⟨d, Nat.le_refl _, rfl, h⟩
    · have : ∃ e, e < d ∧ w e = w d := by
        apply Classical.byContradiction
        intro hc
        exact h (fun e he q => hc ⟨e, he, q⟩)
      obtain ⟨e, he, q⟩ := this
      obtain ⟨k, k1, k2, k3⟩ := ih e he
      exact ⟨k, by omega, k2.trans q, k3⟩
theorem fst_un {w : Nat → Nat} {d e : Nat} (q : w d = w e) (a : fstP w d) (b : fstP w e) : d = e := by
  rcases Nat.lt_trichotomy d e with h | h | h
  · exact absurd q (b d h)
  · exact h
  · exact absurd q.symm (a e h)
theorem top_un {w : Nat → Nat} {x : Nat → Int} {n d e : Nat} (hd : d < n) (he : e < n) (q : w d = w e) (a : topP w x n d) (b : topP w x n e) : d = e := by
  have p := a e he q.symm
  have r := b d hd q
  omega
/-- among the first k there is one of d's kind that none of them beats -/
theorem top_ex0 {w : Nat → Nat} {x : Nat → Int} {d : Nat} : ∀ k, d < k → ∃ e, e < k ∧ w e = w d ∧ topP w x k e
  | 0, h => by omega
  | k + 1, h => by
    by_cases hd : d < k
    · obtain ⟨e, e1, e2, e3⟩ := top_ex0 (x := x) k hd
      by_cases hb : w k = w d ∧ x e < x k
      · refine ⟨k, by omega, hb.1, fun i hi hw => ?_⟩
        by_cases e : i = k
        · subst e; omega
        · have := e3 i (by omega) (hw.trans (hb.1.trans e2.symm))
          omega
      · refine ⟨e, by omega, e2, fun i hi hw => ?_⟩
        by_cases ek : i = k
        · subst ek
          have : ¬ x e < x i := fun q => hb ⟨hw.trans e2, q⟩
          omega
        · exact e3 i (by omega) hw
    · obtain rfl : d = k := by omega
      by_cases hp : ∃ e, e < d ∧ w e = w d
      · obtain ⟨c, c1, c2⟩ := hp
        obtain ⟨e, e1, e2, e3⟩ := top_ex0 (d := c) (x := x) d c1
        by_cases hb : x e < x d
        · refine ⟨d, by omega, rfl, fun i hi hw => ?_⟩
          by_cases ek : i = d
          · subst ek; omega
          · have := e3 i (by omega) (hw.trans (c2.symm.trans e2.symm))
            omega
        · refine ⟨e, by omega, e2.trans c2, fun i hi hw => ?_⟩
          by_cases ek : i = d
          · subst ek; omega
          · exact e3 i (by omega) hw
      · refine ⟨d, by omega, rfl, fun i hi hw => ?_⟩
        by_cases ek : i = d
        · subst ek; omega
        · exact absurd ⟨i, by omega, hw⟩ hp

theorem m_in (hB : BytesOK) {g : bG} {l : Launch} {d : Nat} {Q : bQ} {h : bH} {x lo hi : Int} (h1 : lo ≤ x ∧ x ≤ hi → Q (some (0, 1)) h) (h0 : ¬ (lo ≤ x ∧ x ≤ hi) → Q (some (0, 0)) h) : MH g l d 184 212 212 [(0, x), (0, lo), (0, hi)] h Q := by
  refine mh_go hB mg184 ml184 (Nat.le_of_ble_eq_true rfl) ?_
  show HW g l d 184 _ _ 0 [(0, (0, (x))), (1, (0, (lo))), (2, (0, (hi)))] [] h
  refine w_pl (pc' := 1) (lv' := [(0, (0, (x))), (1, (0, (lo))), (2, (0, (hi)))]) (st' := [(0, (x))]) (h' := h) (o184_0 hB) rfl ?_
  refine w_pl (pc' := 2) (lv' := [(0, (0, (x))), (1, (0, (lo))), (2, (0, (hi)))]) (st' := [(0, (lo)), (0, (x))]) (h' := h) (o184_1 hB) rfl ?_
  refine w_icmp (pt := 14) (pf := 5) (o184_2 hB) (by decide) rfl (fun e => ?_) (fun e => ?_)
  · have f1 : ((x) < (lo)) := e
    refine w_pl (pc' := 15) (lv' := [(0, (0, (x))), (1, (0, (lo))), (2, (0, (hi)))]) (st' := [(0, ((0 : Nat) : Int))]) (h' := h) (o184_8 hB) rfl ?_
    exact w_zret (o184_9 hB) mr184 (by decide) (h0 (by omega))
  · have f2 : ¬ ((x) < (lo)) := e
    refine w_pl (pc' := 6) (lv' := [(0, (0, (x))), (1, (0, (lo))), (2, (0, (hi)))]) (st' := [(0, (x))]) (h' := h) (o184_3 hB) rfl ?_
    refine w_pl (pc' := 7) (lv' := [(0, (0, (x))), (1, (0, (lo))), (2, (0, (hi)))]) (st' := [(0, (hi)), (0, (x))]) (h' := h) (o184_4 hB) rfl ?_
    refine w_icmp (pt := 14) (pf := 10) (o184_5 hB) (by decide) rfl (fun e => ?_) (fun e => ?_)
    · have f3 : ((hi) < (x)) := e
      refine w_pl (pc' := 15) (lv' := [(0, (0, (x))), (1, (0, (lo))), (2, (0, (hi)))]) (st' := [(0, ((0 : Nat) : Int))]) (h' := h) (o184_8 hB) rfl ?_
      exact w_zret (o184_9 hB) mr184 (by decide) (h0 (by omega))
    · have f4 : ¬ ((hi) < (x)) := e
      refine w_pl (pc' := 11) (lv' := [(0, (0, (x))), (1, (0, (lo))), (2, (0, (hi)))]) (st' := [(0, ((1 : Nat) : Int))]) (h' := h) (o184_6 hB) rfl ?_
      refine w_goto (pt := 15) (o184_7 hB) (by decide) ?_
      exact w_zret (o184_9 hB) mr184 (by decide) (h1 (by omega))
theorem m_isMonthM (hB : BytesOK) {g : bG} {l : Launch} {d : Nat} {Q : bQ} {h : bH} {x : Int} (h1 : 0 ≤ x ∧ x ≤ 239 → Q (some (0, 1)) h) (h0 : ¬ (0 ≤ x ∧ x ≤ 239) → Q (some (0, 0)) h) : MH g l (d + 1) 185 212 212 [(0, x)] h Q := by
  refine mh_go hB mg185 ml185 (Nat.le_of_ble_eq_true rfl) ?_
  show HW g l (d + 1) 185 _ _ 0 [(0, (0, (x)))] [] h
  refine w_pl (pc' := 1) (lv' := [(0, (0, (x)))]) (st' := [(0, (x))]) (h' := h) (o185_0 hB) rfl ?_
  refine w_pl (pc' := 2) (lv' := [(0, (0, (x)))]) (st' := [(0, ((0 : Nat) : Int)), (0, (x))]) (h' := h) (o185_1 hB) rfl ?_
  refine w_pl (pc' := 5) (lv' := [(0, (0, (x)))]) (st' := [(0, ((239 : Nat) : Int)), (0, ((0 : Nat) : Int)), (0, (x))]) (h' := h) (o185_2 hB) rfl ?_
  refine w_callS (as := [(0, (x)), (0, ((0 : Nat) : Int)), (0, ((239 : Nat) : Int))]) (rest := []) (n := 3) (pc' := 8) hB (o185_3 hB) rfl (by decide +kernel) rfl rfl (Nat.le_of_ble_eq_true rfl) (m_in hB (fun f5 => ?_) (fun f6 => ?_))
  · show HW g l _ 185 _ _ 8 [(0, (0, (x)))] [(0, ((1 : Nat) : Int))] h
    exact w_zret (o185_4 hB) mr185 (by decide) (h1 (by omega))
  · show HW g l _ 185 _ _ 8 [(0, (0, (x)))] [(0, ((0 : Nat) : Int))] h
    exact w_zret (o185_4 hB) mr185 (by decide) (h0 (by omega))
theorem m_isMonthB (hB : BytesOK) {g : bG} {l : Launch} {d : Nat} {Q : bQ} {h : bH} {x : Int} (h1 : 0 ≤ x ∧ x ≤ 239 → Q (some (0, 1)) h) (h0 : ¬ (0 ≤ x ∧ x ≤ 239) → Q (some (0, 0)) h) : MH g l d 171 212 212 [(0, x)] h Q := by
  refine mh_go hB mg171 ml171 (Nat.le_of_ble_eq_true rfl) ?_
  show HW g l d 171 _ _ 0 [(0, (0, (x)))] [] h
  refine w_pl (pc' := 1) (lv' := [(0, (0, (x)))]) (st' := [(0, (x))]) (h' := h) (o171_0 hB) rfl ?_
  refine w_ifc (pt := 15) (pf := 4) (o171_1 hB) (by decide) rfl (fun e => ?_) (fun e => ?_)
  · have f7 : ((x) < (0)) := e
    refine w_pl (pc' := 16) (lv' := [(0, (0, (x)))]) (st' := [(0, ((0 : Nat) : Int))]) (h' := h) (o171_7 hB) rfl ?_
    exact w_zret (o171_8 hB) mr171 (by decide) (h0 (by omega))
  · have f8 : ¬ ((x) < (0)) := e
    refine w_pl (pc' := 5) (lv' := [(0, (0, (x)))]) (st' := [(0, (x))]) (h' := h) (o171_2 hB) rfl ?_
    refine w_pl (pc' := 8) (lv' := [(0, (0, (x)))]) (st' := [(0, ((240 : Nat) : Int)), (0, (x))]) (h' := h) (o171_3 hB) rfl ?_
    refine w_icmp (pt := 15) (pf := 11) (o171_4 hB) (by decide) rfl (fun e => ?_) (fun e => ?_)
    · have f9 : (((240 : Nat) : Int) ≤ (x)) := e
      refine w_pl (pc' := 16) (lv' := [(0, (0, (x)))]) (st' := [(0, ((0 : Nat) : Int))]) (h' := h) (o171_7 hB) rfl ?_
      exact w_zret (o171_8 hB) mr171 (by decide) (h0 (by omega))
    · have f10 : ¬ (((240 : Nat) : Int) ≤ (x)) := e
      refine w_pl (pc' := 12) (lv' := [(0, (0, (x)))]) (st' := [(0, ((1 : Nat) : Int))]) (h' := h) (o171_5 hB) rfl ?_
      refine w_goto (pt := 16) (o171_6 hB) (by decide) ?_
      exact w_zret (o171_8 hB) mr171 (by decide) (h1 (by omega))
theorem m_isWhereM (hB : BytesOK) {g : bG} {l : Launch} {d : Nat} {Q : bQ} {h : bH} {x : Int} (z_x : in32 x) (h1 : 0 ≤ x ∧ x / 10000 < 6 ∧ x / 1000 % 10 < 4 ∧ x % 1000 < 240 → Q (some (0, 1)) h) (h0 : ¬ (0 ≤ x ∧ x / 10000 < 6 ∧ x / 1000 % 10 < 4 ∧ x % 1000 < 240) → Q (some (0, 0)) h) : MH g l (d + 1 + 1) 229 212 212 [(0, x)] h Q := by
  have z0_x := z_x
  unfold in32 at z0_x
  refine mh_go hB mg229 ml229 (Nat.le_of_ble_eq_true rfl) ?_
  show HW g l (d + 1 + 1) 229 _ _ 0 [(0, (0, (x)))] [] h
  refine w_pl (pc' := 1) (lv' := [(0, (0, (x)))]) (st' := [(0, (x))]) (h' := h) (o229_0 hB) rfl ?_
  refine w_pl (pc' := 2) (lv' := [(0, (0, (x)))]) (st' := [(0, ((0 : Nat) : Int)), (0, (x))]) (h' := h) (o229_1 hB) rfl ?_
  refine w_pl (pc' := 4) (lv' := [(0, (0, (x)))]) (st' := [(0, ((53239 : Nat) : Int)), (0, ((0 : Nat) : Int)), (0, (x))]) (h' := h) (o229_2 hB) rfl ?_
  refine w_callS (as := [(0, (x)), (0, ((0 : Nat) : Int)), (0, ((53239 : Nat) : Int))]) (rest := []) (n := 3) (pc' := 7) hB (o229_3 hB) rfl (by decide +kernel) rfl rfl (Nat.le_of_ble_eq_true rfl) (m_in hB (fun f11 => ?_) (fun f12 => ?_))
  · show HW g l _ 229 _ _ 7 [(0, (0, (x)))] [(0, ((1 : Nat) : Int))] h
    refine w_ifc (pt := 37) (pf := 10) (o229_4 hB) (by decide) rfl (fun e => ?_) (fun e => ?_)
    · have f13 : (((1 : Nat) : Int) = (0)) := e
      exfalso; omega
    · have f14 : ¬ (((1 : Nat) : Int) = (0)) := e
      refine w_pl (pc' := 11) (lv' := [(0, (0, (x)))]) (st' := [(0, (x))]) (h' := h) (o229_5 hB) rfl ?_
      refine w_pl (pc' := 14) (lv' := [(0, (0, (x)))]) (st' := [(0, ((1000 : Nat) : Int)), (0, (x))]) (h' := h) (o229_6 hB) rfl ?_
      refine w_idiv (z := ((x) / 1000)) (pc' := 15) (o229_7 hB) rfl (divI_p (by omega) (by omega) (by decide)) ?_
      refine w_pl (pc' := 17) (lv' := [(0, (0, (x)))]) (st' := [(0, ((10 : Nat) : Int)), (0, ((x) / 1000))]) (h' := h) (o229_8 hB) rfl ?_
      refine w_irem (z := (((x) / 1000) % 10)) (pc' := 18) (o229_9 hB) rfl (remI_p (by omega) (by decide)) ?_
      refine w_pl (pc' := 19) (lv' := [(0, (0, (x)))]) (st' := [(0, ((4 : Nat) : Int)), (0, (((x) / 1000) % 10))]) (h' := h) (o229_10 hB) rfl ?_
      refine w_icmp (pt := 37) (pf := 22) (o229_11 hB) (by decide) rfl (fun e => ?_) (fun e => ?_)
      · have f15 : (((4 : Nat) : Int) ≤ (((x) / 1000) % 10)) := e
        refine w_pl (pc' := 38) (lv' := [(0, (0, (x)))]) (st' := [(0, ((0 : Nat) : Int))]) (h' := h) (o229_19 hB) rfl ?_
        exact w_zret (o229_20 hB) mr229 (by decide) (h0 (by omega))
      · have f16 : ¬ (((4 : Nat) : Int) ≤ (((x) / 1000) % 10)) := e
        refine w_pl (pc' := 23) (lv' := [(0, (0, (x)))]) (st' := [(0, (x))]) (h' := h) (o229_12 hB) rfl ?_
        refine w_pl (pc' := 26) (lv' := [(0, (0, (x)))]) (st' := [(0, ((1000 : Nat) : Int)), (0, (x))]) (h' := h) (o229_13 hB) rfl ?_
        refine w_irem (z := ((x) % 1000)) (pc' := 27) (o229_14 hB) rfl (remI_p (by omega) (by decide)) ?_
        refine w_callS (as := [(0, ((x) % 1000))]) (rest := []) (n := 1) (pc' := 30) hB (o229_15 hB) rfl (by decide +kernel) rfl rfl (Nat.le_of_ble_eq_true rfl) (m_isMonthM hB (fun f17 => ?_) (fun f18 => ?_))
        · show HW g l _ 229 _ _ 30 [(0, (0, (x)))] [(0, ((1 : Nat) : Int))] h
          refine w_ifc (pt := 37) (pf := 33) (o229_16 hB) (by decide) rfl (fun e => ?_) (fun e => ?_)
          · have f19 : (((1 : Nat) : Int) = (0)) := e
            exfalso; omega
          · have f20 : ¬ (((1 : Nat) : Int) = (0)) := e
            refine w_pl (pc' := 34) (lv' := [(0, (0, (x)))]) (st' := [(0, ((1 : Nat) : Int))]) (h' := h) (o229_17 hB) rfl ?_
            refine w_goto (pt := 38) (o229_18 hB) (by decide) ?_
            exact w_zret (o229_20 hB) mr229 (by decide) (h1 (by omega))
        · show HW g l _ 229 _ _ 30 [(0, (0, (x)))] [(0, ((0 : Nat) : Int))] h
          refine w_ifc (pt := 37) (pf := 33) (o229_16 hB) (by decide) rfl (fun e => ?_) (fun e => ?_)
          · have f21 : (((0 : Nat) : Int) = (0)) := e
            refine w_pl (pc' := 38) (lv' := [(0, (0, (x)))]) (st' := [(0, ((0 : Nat) : Int))]) (h' := h) (o229_19 hB) rfl ?_
            exact w_zret (o229_20 hB) mr229 (by decide) (h0 (by omega))
          · have f22 : ¬ (((0 : Nat) : Int) = (0)) := e
            exfalso; omega
  · show HW g l _ 229 _ _ 7 [(0, (0, (x)))] [(0, ((0 : Nat) : Int))] h
    refine w_ifc (pt := 37) (pf := 10) (o229_4 hB) (by decide) rfl (fun e => ?_) (fun e => ?_)
    · have f23 : (((0 : Nat) : Int) = (0)) := e
      refine w_pl (pc' := 38) (lv' := [(0, (0, (x)))]) (st' := [(0, ((0 : Nat) : Int))]) (h' := h) (o229_19 hB) rfl ?_
      exact w_zret (o229_20 hB) mr229 (by decide) (h0 (by omega))
    · have f24 : ¬ (((0 : Nat) : Int) = (0)) := e
      exfalso; omega
theorem m_isWhereB (hB : BytesOK) {g : bG} {l : Launch} {d : Nat} {Q : bQ} {h : bH} {x : Int} (z_x : in32 x) (h1 : 0 ≤ x ∧ x / 10000 < 6 ∧ x / 1000 % 10 < 4 ∧ x % 1000 < 240 → Q (some (0, 1)) h) (h0 : ¬ (0 ≤ x ∧ x / 10000 < 6 ∧ x / 1000 % 10 < 4 ∧ x % 1000 < 240) → Q (some (0, 0)) h) : MH g l d 177 212 212 [(0, x)] h Q := by
  have z0_x := z_x
  unfold in32 at z0_x
  refine mh_go hB mg177 ml177 (Nat.le_of_ble_eq_true rfl) ?_
  show HW g l d 177 _ _ 0 [(0, (0, (x)))] [] h
  refine w_pl (pc' := 1) (lv' := [(0, (0, (x)))]) (st' := [(0, (x))]) (h' := h) (o177_0 hB) rfl ?_
  refine w_ifc (pt := 41) (pf := 4) (o177_1 hB) (by decide) rfl (fun e => ?_) (fun e => ?_)
  · have f25 : ((x) < (0)) := e
    refine w_pl (pc' := 42) (lv' := [(0, (0, (x)))]) (st' := [(0, ((0 : Nat) : Int))]) (h' := h) (o177_21 hB) rfl ?_
    exact w_zret (o177_22 hB) mr177 (by decide) (h0 (by omega))
  · have f26 : ¬ ((x) < (0)) := e
    refine w_pl (pc' := 5) (lv' := [(0, (0, (x)))]) (st' := [(0, (x))]) (h' := h) (o177_2 hB) rfl ?_
    refine w_pl (pc' := 8) (lv' := [(0, (0, (x)))]) (st' := [(0, ((10000 : Nat) : Int)), (0, (x))]) (h' := h) (o177_3 hB) rfl ?_
    refine w_idiv (z := ((x) / 10000)) (pc' := 9) (o177_4 hB) rfl (divI_p (by omega) (by omega) (by decide)) ?_
    refine w_pl (pc' := 11) (lv' := [(0, (0, (x)))]) (st' := [(0, ((6 : Nat) : Int)), (0, ((x) / 10000))]) (h' := h) (o177_5 hB) rfl ?_
    refine w_icmp (pt := 41) (pf := 14) (o177_6 hB) (by decide) rfl (fun e => ?_) (fun e => ?_)
    · have f27 : (((6 : Nat) : Int) ≤ ((x) / 10000)) := e
      refine w_pl (pc' := 42) (lv' := [(0, (0, (x)))]) (st' := [(0, ((0 : Nat) : Int))]) (h' := h) (o177_21 hB) rfl ?_
      exact w_zret (o177_22 hB) mr177 (by decide) (h0 (by omega))
    · have f28 : ¬ (((6 : Nat) : Int) ≤ ((x) / 10000)) := e
      refine w_pl (pc' := 15) (lv' := [(0, (0, (x)))]) (st' := [(0, (x))]) (h' := h) (o177_7 hB) rfl ?_
      refine w_pl (pc' := 18) (lv' := [(0, (0, (x)))]) (st' := [(0, ((1000 : Nat) : Int)), (0, (x))]) (h' := h) (o177_8 hB) rfl ?_
      refine w_idiv (z := ((x) / 1000)) (pc' := 19) (o177_9 hB) rfl (divI_p (by omega) (by omega) (by decide)) ?_
      refine w_pl (pc' := 21) (lv' := [(0, (0, (x)))]) (st' := [(0, ((10 : Nat) : Int)), (0, ((x) / 1000))]) (h' := h) (o177_10 hB) rfl ?_
      refine w_irem (z := (((x) / 1000) % 10)) (pc' := 22) (o177_11 hB) rfl (remI_p (by omega) (by decide)) ?_
      refine w_pl (pc' := 23) (lv' := [(0, (0, (x)))]) (st' := [(0, ((4 : Nat) : Int)), (0, (((x) / 1000) % 10))]) (h' := h) (o177_12 hB) rfl ?_
      refine w_icmp (pt := 41) (pf := 26) (o177_13 hB) (by decide) rfl (fun e => ?_) (fun e => ?_)
      · have f29 : (((4 : Nat) : Int) ≤ (((x) / 1000) % 10)) := e
        refine w_pl (pc' := 42) (lv' := [(0, (0, (x)))]) (st' := [(0, ((0 : Nat) : Int))]) (h' := h) (o177_21 hB) rfl ?_
        exact w_zret (o177_22 hB) mr177 (by decide) (h0 (by omega))
      · have f30 : ¬ (((4 : Nat) : Int) ≤ (((x) / 1000) % 10)) := e
        refine w_pl (pc' := 27) (lv' := [(0, (0, (x)))]) (st' := [(0, (x))]) (h' := h) (o177_14 hB) rfl ?_
        refine w_pl (pc' := 30) (lv' := [(0, (0, (x)))]) (st' := [(0, ((1000 : Nat) : Int)), (0, (x))]) (h' := h) (o177_15 hB) rfl ?_
        refine w_irem (z := ((x) % 1000)) (pc' := 31) (o177_16 hB) rfl (remI_p (by omega) (by decide)) ?_
        refine w_pl (pc' := 34) (lv' := [(0, (0, (x)))]) (st' := [(0, ((240 : Nat) : Int)), (0, ((x) % 1000))]) (h' := h) (o177_17 hB) rfl ?_
        refine w_icmp (pt := 41) (pf := 37) (o177_18 hB) (by decide) rfl (fun e => ?_) (fun e => ?_)
        · have f31 : (((240 : Nat) : Int) ≤ ((x) % 1000)) := e
          refine w_pl (pc' := 42) (lv' := [(0, (0, (x)))]) (st' := [(0, ((0 : Nat) : Int))]) (h' := h) (o177_21 hB) rfl ?_
          exact w_zret (o177_22 hB) mr177 (by decide) (h0 (by omega))
        · have f32 : ¬ (((240 : Nat) : Int) ≤ ((x) % 1000)) := e
          refine w_pl (pc' := 38) (lv' := [(0, (0, (x)))]) (st' := [(0, ((1 : Nat) : Int))]) (h' := h) (o177_19 hB) rfl ?_
          refine w_goto (pt := 42) (o177_20 hB) (by decide) ?_
          exact w_zret (o177_22 hB) mr177 (by decide) (h1 (by omega))
theorem m_addBoxes (hB : BytesOK) {g : bG} {l : Launch} {d : Nat} {Q : bQ} {h : bH} {x n m : Int} (ht : TH h) (z_x : in32 x) (z_n : in32 n) (z_m : in32 m) {c : Nat} (hc : h 17 0 = (c : Int)) (lc : c ≤ 24)  (a0 : ¬ (1 ≤ n ∧ n ≤ 999) → Q (some (0, (-1))) h) (a1 : (1 ≤ n ∧ n ≤ 999) ∧ c = 24 → Q (some (0, (-2))) h) (a2 : (1 ≤ n ∧ n ≤ 999) ∧ c < 24 → Q (some (0, (c : Int))) (hup (hup (hup (hup h 18 (c) (x)) 19 (c) (n)) 20 (c) (m)) 17 (0) (((c + 1) : Nat) : Int))) : MH g l d 107 212 212 [(2, ((17 : Nat) : Int)), (0, (x)), (0, (n)), (0, (m))] h Q := by
  have hR := ht.r
  have z0_x := z_x
  have z0_n := z_n
  have z0_m := z_m
  unfold in32 at z0_x
  unfold in32 at z0_n
  unfold in32 at z0_m
  refine mh_go hB mg107 ml107 (Nat.le_of_ble_eq_true rfl) ?_
  show HW g l d 107 _ _ 0 [(0, (2, ((17 : Nat) : Int))), (1, (0, (x))), (2, (0, (n))), (3, (0, (m)))] [] h
  refine w_pl (pc' := 1) (lv' := [(0, (2, ((17 : Nat) : Int))), (1, (0, (x))), (2, (0, (n))), (3, (0, (m)))]) (st' := [(0, (n))]) (h' := h) (o107_0 hB) rfl ?_
  refine w_pl (pc' := 2) (lv' := [(0, (2, ((17 : Nat) : Int))), (1, (0, (x))), (2, (0, (n))), (3, (0, (m)))]) (st' := [(0, ((1 : Nat) : Int)), (0, (n))]) (h' := h) (o107_1 hB) rfl ?_
  refine w_icmp (pt := 12) (pf := 5) (o107_2 hB) (by decide) rfl (fun e => ?_) (fun e => ?_)
  · have f39 : ((n) < ((1 : Nat) : Int)) := e
    refine w_pl (pc' := 13) (lv' := [(0, (2, ((17 : Nat) : Int))), (1, (0, (x))), (2, (0, (n))), (3, (0, (m)))]) (st' := [(0, (-1))]) (h' := h) (o107_6 hB) rfl ?_
    exact w_iret (o107_7 hB) mr107 (by unfold in32; omega) (a0 (by omega))
  · have f40 : ¬ ((n) < ((1 : Nat) : Int)) := e
    refine w_pl (pc' := 6) (lv' := [(0, (2, ((17 : Nat) : Int))), (1, (0, (x))), (2, (0, (n))), (3, (0, (m)))]) (st' := [(0, (n))]) (h' := h) (o107_3 hB) rfl ?_
    refine w_pl (pc' := 9) (lv' := [(0, (2, ((17 : Nat) : Int))), (1, (0, (x))), (2, (0, (n))), (3, (0, (m)))]) (st' := [(0, ((999 : Nat) : Int)), (0, (n))]) (h' := h) (o107_4 hB) rfl ?_
    refine w_icmp (pt := 14) (pf := 12) (o107_5 hB) (by decide) rfl (fun e => ?_) (fun e => ?_)
    · have f41 : ((n) ≤ ((999 : Nat) : Int)) := e
      refine w_pl (pc' := 15) (lv' := [(0, (2, ((17 : Nat) : Int))), (1, (0, (x))), (2, (0, (n))), (3, (0, (m)))]) (st' := [(2, ((17 : Nat) : Int))]) (h' := h) (o107_8 hB) rfl ?_
      refine w_getf (A := 17) (t := 0) (z := ((c : Nat) : Int)) (pc' := 18) (o107_9 hB) rfl (by decide +kernel) hc ?_
      refine w_pl (pc' := 20) (lv' := [(0, (2, ((17 : Nat) : Int))), (1, (0, (x))), (2, (0, (n))), (3, (0, (m)))]) (st' := [(0, ((24 : Nat) : Int)), (0, ((c : Nat) : Int))]) (h' := h) (o107_10 hB) rfl ?_
      refine w_icmp (pt := 26) (pf := 23) (o107_11 hB) (by decide) rfl (fun e => ?_) (fun e => ?_)
      · have f42 : (((c : Nat) : Int) < ((24 : Nat) : Int)) := e
        refine w_pl (pc' := 27) (lv' := [(0, (2, ((17 : Nat) : Int))), (1, (0, (x))), (2, (0, (n))), (3, (0, (m)))]) (st' := [(2, ((17 : Nat) : Int))]) (h' := h) (o107_14 hB) rfl ?_
        refine w_getf (A := 17) (t := 2) (z := ((18 : Nat) : Int)) (pc' := 30) (o107_15 hB) rfl (by decide +kernel) (hR (17, 1, 18) (by decide)) ?_
        refine w_pl (pc' := 31) (lv' := [(0, (2, ((17 : Nat) : Int))), (1, (0, (x))), (2, (0, (n))), (3, (0, (m)))]) (st' := [(2, ((17 : Nat) : Int)), (2, ((18 : Nat) : Int))]) (h' := h) (o107_16 hB) rfl ?_
        refine w_getf (A := 17) (t := 0) (z := ((c : Nat) : Int)) (pc' := 34) (o107_17 hB) rfl (by decide +kernel) hc ?_
        refine w_pl (pc' := 35) (lv' := [(0, (2, ((17 : Nat) : Int))), (1, (0, (x))), (2, (0, (n))), (3, (0, (m)))]) (st' := [(0, (x)), (0, ((c : Nat) : Int)), (2, ((18 : Nat) : Int))]) (h' := h) (o107_18 hB) rfl ?_
        refine w_iast (A := 18) (i := c) (n := 24) (pc' := 36) (o107_19 hB) rfl (by decide +kernel) (by omega) ?_
        refine w_pl (pc' := 37) (lv' := [(0, (2, ((17 : Nat) : Int))), (1, (0, (x))), (2, (0, (n))), (3, (0, (m)))]) (st' := [(2, ((17 : Nat) : Int))]) (h' := (hup h 18 (c) (x))) (o107_20 hB) rfl ?_
        refine w_getf (A := 17) (t := 2) (z := ((19 : Nat) : Int)) (pc' := 40) (o107_21 hB) rfl (by decide +kernel) ((hup_ne (by decide)).trans (hR (17, 2, 19) (by decide))) ?_
        refine w_pl (pc' := 41) (lv' := [(0, (2, ((17 : Nat) : Int))), (1, (0, (x))), (2, (0, (n))), (3, (0, (m)))]) (st' := [(2, ((17 : Nat) : Int)), (2, ((19 : Nat) : Int))]) (h' := (hup h 18 (c) (x))) (o107_22 hB) rfl ?_
        refine w_getf (A := 17) (t := 0) (z := ((c : Nat) : Int)) (pc' := 44) (o107_23 hB) rfl (by decide +kernel) ((hup_ne (by decide)).trans hc) ?_
        refine w_pl (pc' := 45) (lv' := [(0, (2, ((17 : Nat) : Int))), (1, (0, (x))), (2, (0, (n))), (3, (0, (m)))]) (st' := [(0, (n)), (0, ((c : Nat) : Int)), (2, ((19 : Nat) : Int))]) (h' := (hup h 18 (c) (x))) (o107_24 hB) rfl ?_
        refine w_iast (A := 19) (i := c) (n := 24) (pc' := 46) (o107_25 hB) rfl (by decide +kernel) (by omega) ?_
        refine w_pl (pc' := 47) (lv' := [(0, (2, ((17 : Nat) : Int))), (1, (0, (x))), (2, (0, (n))), (3, (0, (m)))]) (st' := [(2, ((17 : Nat) : Int))]) (h' := (hup (hup h 18 (c) (x)) 19 (c) (n))) (o107_26 hB) rfl ?_
        refine w_getf (A := 17) (t := 2) (z := ((20 : Nat) : Int)) (pc' := 50) (o107_27 hB) rfl (by decide +kernel) ((hup_ne (by decide)).trans ((hup_ne (by decide)).trans (hR (17, 3, 20) (by decide)))) ?_
        refine w_pl (pc' := 51) (lv' := [(0, (2, ((17 : Nat) : Int))), (1, (0, (x))), (2, (0, (n))), (3, (0, (m)))]) (st' := [(2, ((17 : Nat) : Int)), (2, ((20 : Nat) : Int))]) (h' := (hup (hup h 18 (c) (x)) 19 (c) (n))) (o107_28 hB) rfl ?_
        refine w_getf (A := 17) (t := 0) (z := ((c : Nat) : Int)) (pc' := 54) (o107_29 hB) rfl (by decide +kernel) ((hup_ne (by decide)).trans ((hup_ne (by decide)).trans hc)) ?_
        refine w_pl (pc' := 55) (lv' := [(0, (2, ((17 : Nat) : Int))), (1, (0, (x))), (2, (0, (n))), (3, (0, (m)))]) (st' := [(0, (m)), (0, ((c : Nat) : Int)), (2, ((20 : Nat) : Int))]) (h' := (hup (hup h 18 (c) (x)) 19 (c) (n))) (o107_30 hB) rfl ?_
        refine w_iast (A := 20) (i := c) (n := 24) (pc' := 56) (o107_31 hB) rfl (by decide +kernel) (by omega) ?_
        refine w_pl (pc' := 57) (lv' := [(0, (2, ((17 : Nat) : Int))), (1, (0, (x))), (2, (0, (n))), (3, (0, (m)))]) (st' := [(2, ((17 : Nat) : Int))]) (h' := (hup (hup (hup h 18 (c) (x)) 19 (c) (n)) 20 (c) (m))) (o107_32 hB) rfl ?_
        refine w_pl (pc' := 58) (lv' := [(0, (2, ((17 : Nat) : Int))), (1, (0, (x))), (2, (0, (n))), (3, (0, (m)))]) (st' := [(2, ((17 : Nat) : Int)), (2, ((17 : Nat) : Int))]) (h' := (hup (hup (hup h 18 (c) (x)) 19 (c) (n)) 20 (c) (m))) (o107_33 hB) rfl ?_
        refine w_getf (A := 17) (t := 0) (z := ((c : Nat) : Int)) (pc' := 61) (o107_34 hB) rfl (by decide +kernel) ((hup_ne (by decide)).trans ((hup_ne (by decide)).trans ((hup_ne (by decide)).trans hc))) ?_
        refine w_pl (pc' := 62) (lv' := [(0, (2, ((17 : Nat) : Int))), (1, (0, (x))), (2, (0, (n))), (3, (0, (m)))]) (st' := [(0, ((c : Nat) : Int)), (2, ((17 : Nat) : Int)), (0, ((c : Nat) : Int))]) (h' := (hup (hup (hup h 18 (c) (x)) 19 (c) (n)) 20 (c) (m))) (o107_35 hB) rfl ?_
        refine w_pl (pc' := 63) (lv' := [(0, (2, ((17 : Nat) : Int))), (1, (0, (x))), (2, (0, (n))), (3, (0, (m)))]) (st' := [(0, ((1 : Nat) : Int)), (0, ((c : Nat) : Int)), (2, ((17 : Nat) : Int)), (0, ((c : Nat) : Int))]) (h' := (hup (hup (hup h 18 (c) (x)) 19 (c) (n)) 20 (c) (m))) (o107_36 hB) rfl ?_
        refine w_iadd (z := (((c + 1) : Nat) : Int)) (pc' := 64) (o107_37 hB) rfl (w32_e (by omega) (by omega)) ?_
        refine w_putf (A := 17) (t := 0) (pc' := 67) (o107_38 hB) rfl (by decide +kernel) ?_
        exact w_iret (o107_39 hB) mr107 (by unfold in32; omega) (qe (a2 (by omega)) (by omega))
      · have f43 : ¬ (((c : Nat) : Int) < ((24 : Nat) : Int)) := e
        refine w_pl (pc' := 25) (lv' := [(0, (2, ((17 : Nat) : Int))), (1, (0, (x))), (2, (0, (n))), (3, (0, (m)))]) (st' := [(0, (-2))]) (h' := h) (o107_12 hB) rfl ?_
        exact w_iret (o107_13 hB) mr107 (by unfold in32; omega) (a1 (by omega))
    · have f44 : ¬ ((n) ≤ ((999 : Nat) : Int)) := e
      refine w_pl (pc' := 13) (lv' := [(0, (2, ((17 : Nat) : Int))), (1, (0, (x))), (2, (0, (n))), (3, (0, (m)))]) (st' := [(0, (-1))]) (h' := h) (o107_6 hB) rfl ?_
      exact w_iret (o107_7 hB) mr107 (by unfold in32; omega) (a0 (by omega))
theorem m_boxesB (hB : BytesOK) {g : bG} {l : Launch} {d : Nat} {Q : bQ} {h : bH} {x n : Int} (ht : TH h) (z_x : in32 x) (z_n : in32 n) {c : Nat} (hc : h 17 0 = (c : Int)) (lc : c ≤ 24) {w : Int} (hw : h 2 0 = w)  (a0 : ¬ ((0 ≤ x ∧ x / 10000 < 6 ∧ x / 1000 % 10 < 4 ∧ x % 1000 < 240) ∧ x % 1000 ≤ w ∧ 1 ≤ n ∧ n ≤ 999) → Q (some (0, (-1))) h) (a1 : ((0 ≤ x ∧ x / 10000 < 6 ∧ x / 1000 % 10 < 4 ∧ x % 1000 < 240) ∧ x % 1000 ≤ w ∧ 1 ≤ n ∧ n ≤ 999) ∧ c = 24 → Q (some (0, (-2))) h) (a2 : ((0 ≤ x ∧ x / 10000 < 6 ∧ x / 1000 % 10 < 4 ∧ x % 1000 < 240) ∧ x % 1000 ≤ w ∧ 1 ≤ n ∧ n ≤ 999) ∧ c < 24 → Q (some (0, (c : Int))) (hup (hup (hup (hup h 18 (c) ((x))) 19 (c) ((n))) 20 (c) ((w))) 17 (0) (((c + 1) : Nat) : Int))) : MH g l (d + 1) 138 212 212 [(2, ((0 : Nat) : Int)), (0, (x)), (0, (n))] h Q := by
  have hR := ht.r
  have z0_x := z_x
  have z0_n := z_n
  unfold in32 at z0_x
  unfold in32 at z0_n
  have r_w := ty_2_c0 ht
  rw [hw] at r_w
  refine mh_go hB mg138 ml138 (Nat.le_of_ble_eq_true rfl) ?_
  show HW g l (d + 1) 138 _ _ 0 [(0, (2, ((0 : Nat) : Int))), (1, (0, (x))), (2, (0, (n)))] [] h
  refine w_pl (pc' := 1) (lv' := [(0, (2, ((0 : Nat) : Int))), (1, (0, (x))), (2, (0, (n)))]) (st' := [(0, (x))]) (h' := h) (o138_0 hB) rfl ?_
  refine w_callS (as := [(0, (x))]) (rest := []) (n := 1) (pc' := 4) hB (o138_1 hB) rfl (by decide +kernel) rfl rfl (Nat.le_of_ble_eq_true rfl) (m_isWhereB hB z_x (fun f56 => ?_) (fun f57 => ?_))
  · show HW g l _ 138 _ _ 4 [(0, (2, ((0 : Nat) : Int))), (1, (0, (x))), (2, (0, (n)))] [(0, ((1 : Nat) : Int))] h
    refine w_ifc (pt := 25) (pf := 7) (o138_2 hB) (by decide) rfl (fun e => ?_) (fun e => ?_)
    · have f58 : (((1 : Nat) : Int) = (0)) := e
      exfalso; omega
    · have f59 : ¬ (((1 : Nat) : Int) = (0)) := e
      refine w_pl (pc' := 8) (lv' := [(0, (2, ((0 : Nat) : Int))), (1, (0, (x))), (2, (0, (n)))]) (st' := [(0, (x))]) (h' := h) (o138_3 hB) rfl ?_
      refine w_pl (pc' := 11) (lv' := [(0, (2, ((0 : Nat) : Int))), (1, (0, (x))), (2, (0, (n)))]) (st' := [(0, ((1000 : Nat) : Int)), (0, (x))]) (h' := h) (o138_4 hB) rfl ?_
      refine w_irem (z := ((x) % 1000)) (pc' := 12) (o138_5 hB) rfl (remI_p (by omega) (by decide)) ?_
      refine w_pl (pc' := 13) (lv' := [(0, (2, ((0 : Nat) : Int))), (1, (0, (x))), (2, (0, (n)))]) (st' := [(2, ((0 : Nat) : Int)), (0, ((x) % 1000))]) (h' := h) (o138_6 hB) rfl ?_
      refine w_getf (A := 0) (t := 2) (z := ((1 : Nat) : Int)) (pc' := 16) (o138_7 hB) rfl (by decide +kernel) (hR (0, 0, 1) (by decide)) ?_
      refine w_getf (A := 1) (t := 2) (z := ((2 : Nat) : Int)) (pc' := 19) (o138_8 hB) rfl (by decide +kernel) (hR (1, 0, 2) (by decide)) ?_
      refine w_getf (A := 2) (t := 0) (z := (w)) (pc' := 22) (o138_9 hB) rfl (by decide +kernel) hw ?_
      refine w_icmp (pt := 27) (pf := 25) (o138_10 hB) (by decide) rfl (fun e => ?_) (fun e => ?_)
      · have f60 : (((x) % 1000) ≤ (w)) := e
        refine w_pl (pc' := 28) (lv' := [(0, (2, ((0 : Nat) : Int))), (1, (0, (x))), (2, (0, (n)))]) (st' := [(2, ((0 : Nat) : Int))]) (h' := h) (o138_13 hB) rfl ?_
        refine w_getf (A := 0) (t := 2) (z := ((1 : Nat) : Int)) (pc' := 31) (o138_14 hB) rfl (by decide +kernel) (hR (0, 0, 1) (by decide)) ?_
        refine w_getf (A := 1) (t := 2) (z := ((17 : Nat) : Int)) (pc' := 34) (o138_15 hB) rfl (by decide +kernel) (hR (1, 2, 17) (by decide)) ?_
        refine w_pl (pc' := 35) (lv' := [(0, (2, ((0 : Nat) : Int))), (1, (0, (x))), (2, (0, (n)))]) (st' := [(0, (x)), (2, ((17 : Nat) : Int))]) (h' := h) (o138_16 hB) rfl ?_
        refine w_pl (pc' := 36) (lv' := [(0, (2, ((0 : Nat) : Int))), (1, (0, (x))), (2, (0, (n)))]) (st' := [(0, (n)), (0, (x)), (2, ((17 : Nat) : Int))]) (h' := h) (o138_17 hB) rfl ?_
        refine w_pl (pc' := 37) (lv' := [(0, (2, ((0 : Nat) : Int))), (1, (0, (x))), (2, (0, (n)))]) (st' := [(2, ((0 : Nat) : Int)), (0, (n)), (0, (x)), (2, ((17 : Nat) : Int))]) (h' := h) (o138_18 hB) rfl ?_
        refine w_getf (A := 0) (t := 2) (z := ((1 : Nat) : Int)) (pc' := 40) (o138_19 hB) rfl (by decide +kernel) (hR (0, 0, 1) (by decide)) ?_
        refine w_getf (A := 1) (t := 2) (z := ((2 : Nat) : Int)) (pc' := 43) (o138_20 hB) rfl (by decide +kernel) (hR (1, 0, 2) (by decide)) ?_
        refine w_getf (A := 2) (t := 0) (z := (w)) (pc' := 46) (o138_21 hB) rfl (by decide +kernel) hw ?_
        refine w_callV (A := 17) (as := [(0, (x)), (0, (n)), (0, (w))]) (rest := []) (n := 3) (pc' := 49) 9 hB (o138_22 hB) rfl (by decide +kernel) rfl rfl (Nat.le_of_ble_eq_true rfl) (m_addBoxes hB ht z_x z_n (by unfold in32; omega) hc lc (fun f61 => ?_) (fun f62 => ?_) (fun f63 => ?_))
        · show HW g l _ 138 _ _ 49 [(0, (2, ((0 : Nat) : Int))), (1, (0, (x))), (2, (0, (n)))] [(0, (-1))] h
          exact w_iret (o138_23 hB) mr138 (by unfold in32; omega) (a0 (by omega))
        · show HW g l _ 138 _ _ 49 [(0, (2, ((0 : Nat) : Int))), (1, (0, (x))), (2, (0, (n)))] [(0, (-2))] h
          exact w_iret (o138_23 hB) mr138 (by unfold in32; omega) (a1 (by omega))
        · show HW g l _ 138 _ _ 49 [(0, (2, ((0 : Nat) : Int))), (1, (0, (x))), (2, (0, (n)))] [(0, ((c : Nat) : Int))] (hup (hup (hup (hup h 18 (c) ((x))) 19 (c) ((n))) 20 (c) ((w))) 17 (0) (((c + 1) : Nat) : Int))
          exact w_iret (o138_23 hB) mr138 (by unfold in32; omega) (qe (a2 (by omega)) (by omega))
      · have f64 : ¬ (((x) % 1000) ≤ (w)) := e
        refine w_pl (pc' := 26) (lv' := [(0, (2, ((0 : Nat) : Int))), (1, (0, (x))), (2, (0, (n)))]) (st' := [(0, (-1))]) (h' := h) (o138_11 hB) rfl ?_
        exact w_iret (o138_12 hB) mr138 (by unfold in32; omega) (a0 (by omega))
  · show HW g l _ 138 _ _ 4 [(0, (2, ((0 : Nat) : Int))), (1, (0, (x))), (2, (0, (n)))] [(0, ((0 : Nat) : Int))] h
    refine w_ifc (pt := 25) (pf := 7) (o138_2 hB) (by decide) rfl (fun e => ?_) (fun e => ?_)
    · have f65 : (((0 : Nat) : Int) = (0)) := e
      refine w_pl (pc' := 26) (lv' := [(0, (2, ((0 : Nat) : Int))), (1, (0, (x))), (2, (0, (n)))]) (st' := [(0, (-1))]) (h' := h) (o138_11 hB) rfl ?_
      exact w_iret (o138_12 hB) mr138 (by unfold in32; omega) (a0 (by omega))
    · have f66 : ¬ (((0 : Nat) : Int) = (0)) := e
      exfalso; omega
def s_boxesB (vs : List bV) (h : bH) (r : Option bV) (h' : bH) : Prop := TH h ∧ ∀ (x n : Int) (c : Nat) (w : Int) , vs = [(2, ((0 : Nat) : Int)), (0, x), (0, n)] → h 17 0 = (c : Int) → h 2 0 = w → ((¬ ((0 ≤ x ∧ x / 10000 < 6 ∧ x / 1000 % 10 < 4 ∧ x % 1000 < 240) ∧ x % 1000 ≤ w ∧ 1 ≤ n ∧ n ≤ 999)) ∧ r = some (0, (-1)) ∧ h = h') ∨ ((((0 ≤ x ∧ x / 10000 < 6 ∧ x / 1000 % 10 < 4 ∧ x % 1000 < 240) ∧ x % 1000 ≤ w ∧ 1 ≤ n ∧ n ≤ 999) ∧ c = 24) ∧ r = some (0, (-2)) ∧ h = h') ∨ ((((0 ≤ x ∧ x / 10000 < 6 ∧ x / 1000 % 10 < 4 ∧ x % 1000 < 240) ∧ x % 1000 ≤ w ∧ 1 ≤ n ∧ n ≤ 999) ∧ c < 24) ∧ r = some (0, (c : Int)) ∧ h' = (hup (hup (hup (hup h 18 (c) ((x))) 19 (c) ((n))) 20 (c) ((w))) 17 (0) (((c + 1) : Nat) : Int)))
def w_boxesB : List (Nat × Nat × Nat) := [(17, 0, 1), (18, 0, 24), (19, 0, 24), (20, 0, 24)]
def q_boxesB : aCt := cH 138 1 w_boxesB 2 0
theorem sk_boxesB (hB : BytesOK) (g : bG) (l : Launch) : SK g l gT q_boxesB s_boxesB := by
  intro d hd ρ h Q hcore hQ
  have hcore : core (PofW gT (some w_boxesB) false) (gsc g) h ρ h (List.replicate 2 r32, [], [], 212) := hcore
  have ht := hTH hcore
  have y0 := r32_0 hcore 0 (by decide)
  have y1 := r32_0 hcore 1 (by decide)
  have y00 := y0
  unfold in32 at y00
  have y01 := y1
  unfold in32 at y01
  obtain ⟨c, hc, lc⟩ := nat_to ht (a := 17) (j := 0) (n := 24) (by decide +kernel)
  have r_w := ty_2_c0 ht
  obtain ⟨d', rfl⟩ : ∃ d', d = d' + 1 := ⟨d - 1, by have : 1 ≤ d := hd; omega⟩
  rw [show evS ρ (ctA q_boxesB) = [(2, ((0 : Nat) : Int)), (0, ρ 0), (0, ρ 1)] from evA2]
  refine m_boxesB (x := ρ 0) (n := ρ 1) hB ht y0 y1 hc lc rfl (fun hn => ?_) (fun hn => ?_) (fun hn => ?_)
  · refine hQ _ _ (hpost hcore (ht) (fun _ _ _ => rfl) (by unfold in32; omega)) ⟨ht, fun x n c_c v_w hv e_c e_w => ?_⟩
    have hv := (evA2 (ρ := ρ)).symm.trans hv
    obtain ⟨rfl, rfl⟩ := vsA2 hv
    obtain rfl : c_c = c := by have := e_c.symm.trans hc; omega
    subst e_w
    exact Or.inl ⟨hn, rfl, rfl⟩
  · refine hQ _ _ (hpost hcore (ht) (fun _ _ _ => rfl) (by unfold in32; omega)) ⟨ht, fun x n c_c v_w hv e_c e_w => ?_⟩
    have hv := (evA2 (ρ := ρ)).symm.trans hv
    obtain ⟨rfl, rfl⟩ := vsA2 hv
    obtain rfl : c_c = c := by have := e_c.symm.trans hc; omega
    subst e_w
    exact Or.inr (Or.inl ⟨hn, rfl, rfl⟩)
  · refine hQ _ _ (hpost hcore (((((ht).ups2 (a := 18) (s := 0) (st := 1) (n := 24) (lo := (0)) (hi := 2147483647) (r := c) (by decide +kernel) (by omega) (by omega) (by omega)).ups2 (a := 19) (s := 0) (st := 1) (n := 24) (lo := (0)) (hi := 999) (r := c) (by decide +kernel) (by omega) (by omega) (by omega)).ups2 (a := 20) (s := 0) (st := 1) (n := 24) (lo := (0)) (hi := 239) (r := c) (by decide +kernel) (by omega) (by omega) (by omega)).upc (a := 17) (j := 0) (lo := (0)) (hi := 24) (by decide +kernel) (by omega)) (fr_up (fr_up (fr_up (fr_up (fun _ _ _ => rfl) (wr_in (lo := 0) (hi := 24) (by decide) (by omega) (by omega))) (wr_in (lo := 0) (hi := 24) (by decide) (by omega) (by omega))) (wr_in (lo := 0) (hi := 24) (by decide) (by omega) (by omega))) (wr_in (lo := 0) (hi := 1) (by decide) (by omega) (by omega))) (by unfold in32; omega)) ⟨ht, fun x n c_c v_w hv e_c e_w => ?_⟩
    have hv := (evA2 (ρ := ρ)).symm.trans hv
    obtain ⟨rfl, rfl⟩ := vsA2 hv
    obtain rfl : c_c = c := by have := e_c.symm.trans hc; omega
    subst e_w
    exact Or.inr (Or.inr (⟨hn, rfl, rfl⟩))
theorem m_boxesM (hB : BytesOK) {g : bG} {l : Launch} {d : Nat} {Q : bQ} {h : bH} {x n : Int} (ht : TH h) (z_x : in32 x) (z_n : in32 n) {c : Nat} (hc : h 194 5 = (c : Int)) (lc : c ≤ 24) {w : Int} (hw : h 194 0 = w)  (a0 : ¬ ((0 ≤ x ∧ x / 10000 < 6 ∧ x / 1000 % 10 < 4 ∧ x % 1000 < 240) ∧ x % 1000 ≤ w ∧ 1 ≤ n ∧ n ≤ 999) → Q (some (0, (-1))) h) (a1 : ((0 ≤ x ∧ x / 10000 < 6 ∧ x / 1000 % 10 < 4 ∧ x % 1000 < 240) ∧ x % 1000 ≤ w ∧ 1 ≤ n ∧ n ≤ 999) ∧ c = 24 → Q (some (0, (-2))) h) (a2 : ((0 ≤ x ∧ x / 10000 < 6 ∧ x / 1000 % 10 < 4 ∧ x % 1000 < 240) ∧ x % 1000 ≤ w ∧ 1 ≤ n ∧ n ≤ 999) ∧ c < 24 → Q (some (0, (c : Int))) (hup (hup (hup (hup (hup (hup h 194 ((306 + (5 * c))) ((x) / 10000)) 194 (((306 + (5 * c)) + 1)) (((x) / 1000) % 10)) 194 (((306 + (5 * c)) + 2)) ((x) % 1000)) 194 (((306 + (5 * c)) + 3)) (n)) 194 (((306 + (5 * c)) + 4)) (w)) 194 (5) (((c + 1) : Nat) : Int))) : MH g l (d + 1 + 1 + 1) 230 212 212 [(2, ((193 : Nat) : Int)), (0, (x)), (0, (n))] h Q := by
  have hR := ht.r
  have z0_x := z_x
  have z0_n := z_n
  unfold in32 at z0_x
  unfold in32 at z0_n
  have r_w := ty_194_c0 ht
  rw [hw] at r_w
  refine mh_go hB mg230 ml230 (Nat.le_of_ble_eq_true rfl) ?_
  show HW g l (d + 1 + 1 + 1) 230 _ _ 0 [(0, (2, ((193 : Nat) : Int))), (1, (0, (x))), (2, (0, (n)))] [] h
  refine w_pl (pc' := 1) (lv' := [(0, (2, ((193 : Nat) : Int))), (1, (0, (x))), (2, (0, (n)))]) (st' := [(0, (x))]) (h' := h) (o230_0 hB) rfl ?_
  refine w_callS (as := [(0, (x))]) (rest := []) (n := 1) (pc' := 4) hB (o230_1 hB) rfl (by decide +kernel) rfl rfl (Nat.le_of_ble_eq_true rfl) (m_isWhereM hB z_x (fun f83 => ?_) (fun f84 => ?_))
  · show HW g l _ 230 _ _ 4 [(0, (2, ((193 : Nat) : Int))), (1, (0, (x))), (2, (0, (n)))] [(0, ((1 : Nat) : Int))] h
    refine w_ifc (pt := 32) (pf := 7) (o230_2 hB) (by decide) rfl (fun e => ?_) (fun e => ?_)
    · have f85 : (((1 : Nat) : Int) = (0)) := e
      exfalso; omega
    · have f86 : ¬ (((1 : Nat) : Int) = (0)) := e
      refine w_pl (pc' := 8) (lv' := [(0, (2, ((193 : Nat) : Int))), (1, (0, (x))), (2, (0, (n)))]) (st' := [(0, (x))]) (h' := h) (o230_3 hB) rfl ?_
      refine w_pl (pc' := 11) (lv' := [(0, (2, ((193 : Nat) : Int))), (1, (0, (x))), (2, (0, (n)))]) (st' := [(0, ((1000 : Nat) : Int)), (0, (x))]) (h' := h) (o230_4 hB) rfl ?_
      refine w_irem (z := ((x) % 1000)) (pc' := 12) (o230_5 hB) rfl (remI_p (by omega) (by decide)) ?_
      refine w_pl (pc' := 13) (lv' := [(0, (2, ((193 : Nat) : Int))), (1, (0, (x))), (2, (0, (n)))]) (st' := [(2, ((193 : Nat) : Int)), (0, ((x) % 1000))]) (h' := h) (o230_6 hB) rfl ?_
      refine w_getf (A := 193) (t := 2) (z := ((194 : Nat) : Int)) (pc' := 16) (o230_7 hB) rfl (by decide +kernel) (hR (193, 0, 194) (by decide)) ?_
      refine w_pl (pc' := 17) (lv' := [(0, (2, ((193 : Nat) : Int))), (1, (0, (x))), (2, (0, (n)))]) (st' := [(0, ((0 : Nat) : Int)), (2, ((194 : Nat) : Int)), (0, ((x) % 1000))]) (h' := h) (o230_8 hB) rfl ?_
      refine w_iald (A := 194) (i := 0) (n := 1984) (z := (w)) (pc' := 18) (o230_9 hB) rfl (by decide +kernel) (by omega) hw ?_
      refine w_icmp (pt := 32) (pf := 21) (o230_10 hB) (by decide) rfl (fun e => ?_) (fun e => ?_)
      · have f87 : ((w) < ((x) % 1000)) := e
        refine w_pl (pc' := 33) (lv' := [(0, (2, ((193 : Nat) : Int))), (1, (0, (x))), (2, (0, (n)))]) (st' := [(0, (-1))]) (h' := h) (o230_16 hB) rfl ?_
        exact w_iret (o230_17 hB) mr230 (by unfold in32; omega) (a0 (by omega))
      · have f88 : ¬ ((w) < ((x) % 1000)) := e
        refine w_pl (pc' := 22) (lv' := [(0, (2, ((193 : Nat) : Int))), (1, (0, (x))), (2, (0, (n)))]) (st' := [(0, (n))]) (h' := h) (o230_11 hB) rfl ?_
        refine w_pl (pc' := 23) (lv' := [(0, (2, ((193 : Nat) : Int))), (1, (0, (x))), (2, (0, (n)))]) (st' := [(0, ((1 : Nat) : Int)), (0, (n))]) (h' := h) (o230_12 hB) rfl ?_
        refine w_pl (pc' := 26) (lv' := [(0, (2, ((193 : Nat) : Int))), (1, (0, (x))), (2, (0, (n)))]) (st' := [(0, ((999 : Nat) : Int)), (0, ((1 : Nat) : Int)), (0, (n))]) (h' := h) (o230_13 hB) rfl ?_
        refine w_callS (as := [(0, (n)), (0, ((1 : Nat) : Int)), (0, ((999 : Nat) : Int))]) (rest := []) (n := 3) (pc' := 29) hB (o230_14 hB) rfl (by decide +kernel) rfl rfl (Nat.le_of_ble_eq_true rfl) (m_in hB (fun f89 => ?_) (fun f90 => ?_))
        · show HW g l _ 230 _ _ 29 [(0, (2, ((193 : Nat) : Int))), (1, (0, (x))), (2, (0, (n)))] [(0, ((1 : Nat) : Int))] h
          refine w_ifc (pt := 34) (pf := 32) (o230_15 hB) (by decide) rfl (fun e => ?_) (fun e => ?_)
          · have f91 : (((1 : Nat) : Int) ≠ (0)) := e
            refine w_pl (pc' := 35) (lv' := [(0, (2, ((193 : Nat) : Int))), (1, (0, (x))), (2, (0, (n)))]) (st' := [(2, ((193 : Nat) : Int))]) (h' := h) (o230_18 hB) rfl ?_
            refine w_getf (A := 193) (t := 2) (z := ((194 : Nat) : Int)) (pc' := 38) (o230_19 hB) rfl (by decide +kernel) (hR (193, 0, 194) (by decide)) ?_
            refine w_pl (pc' := 39) (lv' := [(0, (2, ((193 : Nat) : Int))), (1, (0, (x))), (2, (0, (n)))]) (st' := [(0, ((5 : Nat) : Int)), (2, ((194 : Nat) : Int))]) (h' := h) (o230_20 hB) rfl ?_
            refine w_iald (A := 194) (i := 5) (n := 1984) (z := ((c : Nat) : Int)) (pc' := 40) (o230_21 hB) rfl (by decide +kernel) (by omega) hc ?_
            refine w_pl (pc' := 42) (lv' := [(0, (2, ((193 : Nat) : Int))), (1, (0, (x))), (2, (0, (n)))]) (st' := [(0, ((24 : Nat) : Int)), (0, ((c : Nat) : Int))]) (h' := h) (o230_22 hB) rfl ?_
            refine w_icmp (pt := 48) (pf := 45) (o230_23 hB) (by decide) rfl (fun e => ?_) (fun e => ?_)
            · have f92 : (((c : Nat) : Int) ≠ ((24 : Nat) : Int)) := e
              refine w_pl (pc' := 51) (lv' := [(0, (2, ((193 : Nat) : Int))), (1, (0, (x))), (2, (0, (n)))]) (st' := [(0, ((306 : Nat) : Int))]) (h' := h) (o230_26 hB) rfl ?_
              refine w_pl (pc' := 52) (lv' := [(0, (2, ((193 : Nat) : Int))), (1, (0, (x))), (2, (0, (n)))]) (st' := [(0, ((5 : Nat) : Int)), (0, ((306 : Nat) : Int))]) (h' := h) (o230_27 hB) rfl ?_
              refine w_pl (pc' := 53) (lv' := [(0, (2, ((193 : Nat) : Int))), (1, (0, (x))), (2, (0, (n)))]) (st' := [(2, ((193 : Nat) : Int)), (0, ((5 : Nat) : Int)), (0, ((306 : Nat) : Int))]) (h' := h) (o230_28 hB) rfl ?_
              refine w_getf (A := 193) (t := 2) (z := ((194 : Nat) : Int)) (pc' := 56) (o230_29 hB) rfl (by decide +kernel) (hR (193, 0, 194) (by decide)) ?_
              refine w_pl (pc' := 57) (lv' := [(0, (2, ((193 : Nat) : Int))), (1, (0, (x))), (2, (0, (n)))]) (st' := [(0, ((5 : Nat) : Int)), (2, ((194 : Nat) : Int)), (0, ((5 : Nat) : Int)), (0, ((306 : Nat) : Int))]) (h' := h) (o230_30 hB) rfl ?_
              refine w_iald (A := 194) (i := 5) (n := 1984) (z := ((c : Nat) : Int)) (pc' := 58) (o230_31 hB) rfl (by decide +kernel) (by omega) hc ?_
              refine w_imul (z := (((5 * c) : Nat) : Int)) (pc' := 59) (o230_32 hB) rfl (w32_e (by omega) (by omega)) ?_
              refine w_iadd (z := (((306 + (5 * c)) : Nat) : Int)) (pc' := 60) (o230_33 hB) rfl (w32_e (by omega) (by omega)) ?_
              refine w_st (tg := 0) (j := 3) (len := 1) (pc' := 61) (lv' := [(3, (0, (((306 + (5 * c)) : Nat) : Int))), (0, (2, ((193 : Nat) : Int))), (1, (0, (x))), (2, (0, (n)))]) (o230_34 hB) rfl rfl ml230 (by decide) rfl ?_
              refine w_pl (pc' := 62) (lv' := [(3, (0, (((306 + (5 * c)) : Nat) : Int))), (0, (2, ((193 : Nat) : Int))), (1, (0, (x))), (2, (0, (n)))]) (st' := [(2, ((193 : Nat) : Int))]) (h' := h) (o230_35 hB) rfl ?_
              refine w_getf (A := 193) (t := 2) (z := ((194 : Nat) : Int)) (pc' := 65) (o230_36 hB) rfl (by decide +kernel) (hR (193, 0, 194) (by decide)) ?_
              refine w_pl (pc' := 66) (lv' := [(3, (0, (((306 + (5 * c)) : Nat) : Int))), (0, (2, ((193 : Nat) : Int))), (1, (0, (x))), (2, (0, (n)))]) (st' := [(0, (((306 + (5 * c)) : Nat) : Int)), (2, ((194 : Nat) : Int))]) (h' := h) (o230_37 hB) rfl ?_
              refine w_pl (pc' := 67) (lv' := [(3, (0, (((306 + (5 * c)) : Nat) : Int))), (0, (2, ((193 : Nat) : Int))), (1, (0, (x))), (2, (0, (n)))]) (st' := [(0, (x)), (0, (((306 + (5 * c)) : Nat) : Int)), (2, ((194 : Nat) : Int))]) (h' := h) (o230_38 hB) rfl ?_
              refine w_pl (pc' := 70) (lv' := [(3, (0, (((306 + (5 * c)) : Nat) : Int))), (0, (2, ((193 : Nat) : Int))), (1, (0, (x))), (2, (0, (n)))]) (st' := [(0, ((10000 : Nat) : Int)), (0, (x)), (0, (((306 + (5 * c)) : Nat) : Int)), (2, ((194 : Nat) : Int))]) (h' := h) (o230_39 hB) rfl ?_
              refine w_idiv (z := ((x) / 10000)) (pc' := 71) (o230_40 hB) rfl (divI_p (by omega) (by omega) (by decide)) ?_
              refine w_iast (A := 194) (i := (306 + (5 * c))) (n := 1984) (pc' := 72) (o230_41 hB) rfl (by decide +kernel) (by omega) ?_
              refine w_pl (pc' := 73) (lv' := [(3, (0, (((306 + (5 * c)) : Nat) : Int))), (0, (2, ((193 : Nat) : Int))), (1, (0, (x))), (2, (0, (n)))]) (st' := [(2, ((193 : Nat) : Int))]) (h' := (hup h 194 ((306 + (5 * c))) ((x) / 10000))) (o230_42 hB) rfl ?_
              refine w_getf (A := 193) (t := 2) (z := ((194 : Nat) : Int)) (pc' := 76) (o230_43 hB) rfl (by decide +kernel) ((hup_ne (by decide)).trans (hR (193, 0, 194) (by decide))) ?_
              refine w_pl (pc' := 77) (lv' := [(3, (0, (((306 + (5 * c)) : Nat) : Int))), (0, (2, ((193 : Nat) : Int))), (1, (0, (x))), (2, (0, (n)))]) (st' := [(0, (((306 + (5 * c)) : Nat) : Int)), (2, ((194 : Nat) : Int))]) (h' := (hup h 194 ((306 + (5 * c))) ((x) / 10000))) (o230_44 hB) rfl ?_
              refine w_pl (pc' := 78) (lv' := [(3, (0, (((306 + (5 * c)) : Nat) : Int))), (0, (2, ((193 : Nat) : Int))), (1, (0, (x))), (2, (0, (n)))]) (st' := [(0, ((1 : Nat) : Int)), (0, (((306 + (5 * c)) : Nat) : Int)), (2, ((194 : Nat) : Int))]) (h' := (hup h 194 ((306 + (5 * c))) ((x) / 10000))) (o230_45 hB) rfl ?_
              refine w_iadd (z := ((((306 + (5 * c)) + 1) : Nat) : Int)) (pc' := 79) (o230_46 hB) rfl (w32_e (by omega) (by omega)) ?_
              refine w_pl (pc' := 80) (lv' := [(3, (0, (((306 + (5 * c)) : Nat) : Int))), (0, (2, ((193 : Nat) : Int))), (1, (0, (x))), (2, (0, (n)))]) (st' := [(0, (x)), (0, ((((306 + (5 * c)) + 1) : Nat) : Int)), (2, ((194 : Nat) : Int))]) (h' := (hup h 194 ((306 + (5 * c))) ((x) / 10000))) (o230_47 hB) rfl ?_
              refine w_pl (pc' := 83) (lv' := [(3, (0, (((306 + (5 * c)) : Nat) : Int))), (0, (2, ((193 : Nat) : Int))), (1, (0, (x))), (2, (0, (n)))]) (st' := [(0, ((1000 : Nat) : Int)), (0, (x)), (0, ((((306 + (5 * c)) + 1) : Nat) : Int)), (2, ((194 : Nat) : Int))]) (h' := (hup h 194 ((306 + (5 * c))) ((x) / 10000))) (o230_48 hB) rfl ?_
              refine w_idiv (z := ((x) / 1000)) (pc' := 84) (o230_49 hB) rfl (divI_p (by omega) (by omega) (by decide)) ?_
              refine w_pl (pc' := 86) (lv' := [(3, (0, (((306 + (5 * c)) : Nat) : Int))), (0, (2, ((193 : Nat) : Int))), (1, (0, (x))), (2, (0, (n)))]) (st' := [(0, ((10 : Nat) : Int)), (0, ((x) / 1000)), (0, ((((306 + (5 * c)) + 1) : Nat) : Int)), (2, ((194 : Nat) : Int))]) (h' := (hup h 194 ((306 + (5 * c))) ((x) / 10000))) (o230_50 hB) rfl ?_
              refine w_irem (z := (((x) / 1000) % 10)) (pc' := 87) (o230_51 hB) rfl (remI_p (by omega) (by decide)) ?_
              refine w_iast (A := 194) (i := ((306 + (5 * c)) + 1)) (n := 1984) (pc' := 88) (o230_52 hB) rfl (by decide +kernel) (by omega) ?_
              refine w_pl (pc' := 89) (lv' := [(3, (0, (((306 + (5 * c)) : Nat) : Int))), (0, (2, ((193 : Nat) : Int))), (1, (0, (x))), (2, (0, (n)))]) (st' := [(2, ((193 : Nat) : Int))]) (h' := (hup (hup h 194 ((306 + (5 * c))) ((x) / 10000)) 194 (((306 + (5 * c)) + 1)) (((x) / 1000) % 10))) (o230_53 hB) rfl ?_
              refine w_getf (A := 193) (t := 2) (z := ((194 : Nat) : Int)) (pc' := 92) (o230_54 hB) rfl (by decide +kernel) ((hup_ne (by decide)).trans ((hup_ne (by decide)).trans (hR (193, 0, 194) (by decide)))) ?_
              refine w_pl (pc' := 93) (lv' := [(3, (0, (((306 + (5 * c)) : Nat) : Int))), (0, (2, ((193 : Nat) : Int))), (1, (0, (x))), (2, (0, (n)))]) (st' := [(0, (((306 + (5 * c)) : Nat) : Int)), (2, ((194 : Nat) : Int))]) (h' := (hup (hup h 194 ((306 + (5 * c))) ((x) / 10000)) 194 (((306 + (5 * c)) + 1)) (((x) / 1000) % 10))) (o230_55 hB) rfl ?_
              refine w_pl (pc' := 94) (lv' := [(3, (0, (((306 + (5 * c)) : Nat) : Int))), (0, (2, ((193 : Nat) : Int))), (1, (0, (x))), (2, (0, (n)))]) (st' := [(0, ((2 : Nat) : Int)), (0, (((306 + (5 * c)) : Nat) : Int)), (2, ((194 : Nat) : Int))]) (h' := (hup (hup h 194 ((306 + (5 * c))) ((x) / 10000)) 194 (((306 + (5 * c)) + 1)) (((x) / 1000) % 10))) (o230_56 hB) rfl ?_
              refine w_iadd (z := ((((306 + (5 * c)) + 2) : Nat) : Int)) (pc' := 95) (o230_57 hB) rfl (w32_e (by omega) (by omega)) ?_
              refine w_pl (pc' := 96) (lv' := [(3, (0, (((306 + (5 * c)) : Nat) : Int))), (0, (2, ((193 : Nat) : Int))), (1, (0, (x))), (2, (0, (n)))]) (st' := [(0, (x)), (0, ((((306 + (5 * c)) + 2) : Nat) : Int)), (2, ((194 : Nat) : Int))]) (h' := (hup (hup h 194 ((306 + (5 * c))) ((x) / 10000)) 194 (((306 + (5 * c)) + 1)) (((x) / 1000) % 10))) (o230_58 hB) rfl ?_
              refine w_pl (pc' := 99) (lv' := [(3, (0, (((306 + (5 * c)) : Nat) : Int))), (0, (2, ((193 : Nat) : Int))), (1, (0, (x))), (2, (0, (n)))]) (st' := [(0, ((1000 : Nat) : Int)), (0, (x)), (0, ((((306 + (5 * c)) + 2) : Nat) : Int)), (2, ((194 : Nat) : Int))]) (h' := (hup (hup h 194 ((306 + (5 * c))) ((x) / 10000)) 194 (((306 + (5 * c)) + 1)) (((x) / 1000) % 10))) (o230_59 hB) rfl ?_
              refine w_irem (z := ((x) % 1000)) (pc' := 100) (o230_60 hB) rfl (remI_p (by omega) (by decide)) ?_
              refine w_iast (A := 194) (i := ((306 + (5 * c)) + 2)) (n := 1984) (pc' := 101) (o230_61 hB) rfl (by decide +kernel) (by omega) ?_
              refine w_pl (pc' := 102) (lv' := [(3, (0, (((306 + (5 * c)) : Nat) : Int))), (0, (2, ((193 : Nat) : Int))), (1, (0, (x))), (2, (0, (n)))]) (st' := [(2, ((193 : Nat) : Int))]) (h' := (hup (hup (hup h 194 ((306 + (5 * c))) ((x) / 10000)) 194 (((306 + (5 * c)) + 1)) (((x) / 1000) % 10)) 194 (((306 + (5 * c)) + 2)) ((x) % 1000))) (o230_62 hB) rfl ?_
              refine w_getf (A := 193) (t := 2) (z := ((194 : Nat) : Int)) (pc' := 105) (o230_63 hB) rfl (by decide +kernel) ((hup_ne (by decide)).trans ((hup_ne (by decide)).trans ((hup_ne (by decide)).trans (hR (193, 0, 194) (by decide))))) ?_
              refine w_pl (pc' := 106) (lv' := [(3, (0, (((306 + (5 * c)) : Nat) : Int))), (0, (2, ((193 : Nat) : Int))), (1, (0, (x))), (2, (0, (n)))]) (st' := [(0, (((306 + (5 * c)) : Nat) : Int)), (2, ((194 : Nat) : Int))]) (h' := (hup (hup (hup h 194 ((306 + (5 * c))) ((x) / 10000)) 194 (((306 + (5 * c)) + 1)) (((x) / 1000) % 10)) 194 (((306 + (5 * c)) + 2)) ((x) % 1000))) (o230_64 hB) rfl ?_
              refine w_pl (pc' := 107) (lv' := [(3, (0, (((306 + (5 * c)) : Nat) : Int))), (0, (2, ((193 : Nat) : Int))), (1, (0, (x))), (2, (0, (n)))]) (st' := [(0, ((3 : Nat) : Int)), (0, (((306 + (5 * c)) : Nat) : Int)), (2, ((194 : Nat) : Int))]) (h' := (hup (hup (hup h 194 ((306 + (5 * c))) ((x) / 10000)) 194 (((306 + (5 * c)) + 1)) (((x) / 1000) % 10)) 194 (((306 + (5 * c)) + 2)) ((x) % 1000))) (o230_65 hB) rfl ?_
              refine w_iadd (z := ((((306 + (5 * c)) + 3) : Nat) : Int)) (pc' := 108) (o230_66 hB) rfl (w32_e (by omega) (by omega)) ?_
              refine w_pl (pc' := 109) (lv' := [(3, (0, (((306 + (5 * c)) : Nat) : Int))), (0, (2, ((193 : Nat) : Int))), (1, (0, (x))), (2, (0, (n)))]) (st' := [(0, (n)), (0, ((((306 + (5 * c)) + 3) : Nat) : Int)), (2, ((194 : Nat) : Int))]) (h' := (hup (hup (hup h 194 ((306 + (5 * c))) ((x) / 10000)) 194 (((306 + (5 * c)) + 1)) (((x) / 1000) % 10)) 194 (((306 + (5 * c)) + 2)) ((x) % 1000))) (o230_67 hB) rfl ?_
              refine w_iast (A := 194) (i := ((306 + (5 * c)) + 3)) (n := 1984) (pc' := 110) (o230_68 hB) rfl (by decide +kernel) (by omega) ?_
              refine w_pl (pc' := 111) (lv' := [(3, (0, (((306 + (5 * c)) : Nat) : Int))), (0, (2, ((193 : Nat) : Int))), (1, (0, (x))), (2, (0, (n)))]) (st' := [(2, ((193 : Nat) : Int))]) (h' := (hup (hup (hup (hup h 194 ((306 + (5 * c))) ((x) / 10000)) 194 (((306 + (5 * c)) + 1)) (((x) / 1000) % 10)) 194 (((306 + (5 * c)) + 2)) ((x) % 1000)) 194 (((306 + (5 * c)) + 3)) (n))) (o230_69 hB) rfl ?_
              refine w_getf (A := 193) (t := 2) (z := ((194 : Nat) : Int)) (pc' := 114) (o230_70 hB) rfl (by decide +kernel) ((hup_ne (by decide)).trans ((hup_ne (by decide)).trans ((hup_ne (by decide)).trans ((hup_ne (by decide)).trans (hR (193, 0, 194) (by decide)))))) ?_
              refine w_pl (pc' := 115) (lv' := [(3, (0, (((306 + (5 * c)) : Nat) : Int))), (0, (2, ((193 : Nat) : Int))), (1, (0, (x))), (2, (0, (n)))]) (st' := [(0, (((306 + (5 * c)) : Nat) : Int)), (2, ((194 : Nat) : Int))]) (h' := (hup (hup (hup (hup h 194 ((306 + (5 * c))) ((x) / 10000)) 194 (((306 + (5 * c)) + 1)) (((x) / 1000) % 10)) 194 (((306 + (5 * c)) + 2)) ((x) % 1000)) 194 (((306 + (5 * c)) + 3)) (n))) (o230_71 hB) rfl ?_
              refine w_pl (pc' := 116) (lv' := [(3, (0, (((306 + (5 * c)) : Nat) : Int))), (0, (2, ((193 : Nat) : Int))), (1, (0, (x))), (2, (0, (n)))]) (st' := [(0, ((4 : Nat) : Int)), (0, (((306 + (5 * c)) : Nat) : Int)), (2, ((194 : Nat) : Int))]) (h' := (hup (hup (hup (hup h 194 ((306 + (5 * c))) ((x) / 10000)) 194 (((306 + (5 * c)) + 1)) (((x) / 1000) % 10)) 194 (((306 + (5 * c)) + 2)) ((x) % 1000)) 194 (((306 + (5 * c)) + 3)) (n))) (o230_72 hB) rfl ?_
              refine w_iadd (z := ((((306 + (5 * c)) + 4) : Nat) : Int)) (pc' := 117) (o230_73 hB) rfl (w32_e (by omega) (by omega)) ?_
              refine w_pl (pc' := 118) (lv' := [(3, (0, (((306 + (5 * c)) : Nat) : Int))), (0, (2, ((193 : Nat) : Int))), (1, (0, (x))), (2, (0, (n)))]) (st' := [(2, ((193 : Nat) : Int)), (0, ((((306 + (5 * c)) + 4) : Nat) : Int)), (2, ((194 : Nat) : Int))]) (h' := (hup (hup (hup (hup h 194 ((306 + (5 * c))) ((x) / 10000)) 194 (((306 + (5 * c)) + 1)) (((x) / 1000) % 10)) 194 (((306 + (5 * c)) + 2)) ((x) % 1000)) 194 (((306 + (5 * c)) + 3)) (n))) (o230_74 hB) rfl ?_
              refine w_getf (A := 193) (t := 2) (z := ((194 : Nat) : Int)) (pc' := 121) (o230_75 hB) rfl (by decide +kernel) ((hup_ne (by decide)).trans ((hup_ne (by decide)).trans ((hup_ne (by decide)).trans ((hup_ne (by decide)).trans (hR (193, 0, 194) (by decide)))))) ?_
              refine w_pl (pc' := 122) (lv' := [(3, (0, (((306 + (5 * c)) : Nat) : Int))), (0, (2, ((193 : Nat) : Int))), (1, (0, (x))), (2, (0, (n)))]) (st' := [(0, ((0 : Nat) : Int)), (2, ((194 : Nat) : Int)), (0, ((((306 + (5 * c)) + 4) : Nat) : Int)), (2, ((194 : Nat) : Int))]) (h' := (hup (hup (hup (hup h 194 ((306 + (5 * c))) ((x) / 10000)) 194 (((306 + (5 * c)) + 1)) (((x) / 1000) % 10)) 194 (((306 + (5 * c)) + 2)) ((x) % 1000)) 194 (((306 + (5 * c)) + 3)) (n))) (o230_76 hB) rfl ?_
              refine w_iald (A := 194) (i := 0) (n := 1984) (z := (w)) (pc' := 123) (o230_77 hB) rfl (by decide +kernel) (by omega) ((hup_nj (by omega)).trans ((hup_nj (by omega)).trans ((hup_nj (by omega)).trans ((hup_nj (by omega)).trans hw)))) ?_
              refine w_iast (A := 194) (i := ((306 + (5 * c)) + 4)) (n := 1984) (pc' := 124) (o230_78 hB) rfl (by decide +kernel) (by omega) ?_
              refine w_pl (pc' := 125) (lv' := [(3, (0, (((306 + (5 * c)) : Nat) : Int))), (0, (2, ((193 : Nat) : Int))), (1, (0, (x))), (2, (0, (n)))]) (st' := [(2, ((193 : Nat) : Int))]) (h' := (hup (hup (hup (hup (hup h 194 ((306 + (5 * c))) ((x) / 10000)) 194 (((306 + (5 * c)) + 1)) (((x) / 1000) % 10)) 194 (((306 + (5 * c)) + 2)) ((x) % 1000)) 194 (((306 + (5 * c)) + 3)) (n)) 194 (((306 + (5 * c)) + 4)) (w))) (o230_79 hB) rfl ?_
              refine w_getf (A := 193) (t := 2) (z := ((194 : Nat) : Int)) (pc' := 128) (o230_80 hB) rfl (by decide +kernel) ((hup_ne (by decide)).trans ((hup_ne (by decide)).trans ((hup_ne (by decide)).trans ((hup_ne (by decide)).trans ((hup_ne (by decide)).trans (hR (193, 0, 194) (by decide))))))) ?_
              refine w_pl (pc' := 129) (lv' := [(3, (0, (((306 + (5 * c)) : Nat) : Int))), (0, (2, ((193 : Nat) : Int))), (1, (0, (x))), (2, (0, (n)))]) (st' := [(0, ((5 : Nat) : Int)), (2, ((194 : Nat) : Int))]) (h' := (hup (hup (hup (hup (hup h 194 ((306 + (5 * c))) ((x) / 10000)) 194 (((306 + (5 * c)) + 1)) (((x) / 1000) % 10)) 194 (((306 + (5 * c)) + 2)) ((x) % 1000)) 194 (((306 + (5 * c)) + 3)) (n)) 194 (((306 + (5 * c)) + 4)) (w))) (o230_81 hB) rfl ?_
              refine w_pl (pc' := 130) (lv' := [(3, (0, (((306 + (5 * c)) : Nat) : Int))), (0, (2, ((193 : Nat) : Int))), (1, (0, (x))), (2, (0, (n)))]) (st' := [(0, ((5 : Nat) : Int)), (2, ((194 : Nat) : Int)), (0, ((5 : Nat) : Int)), (2, ((194 : Nat) : Int))]) (h' := (hup (hup (hup (hup (hup h 194 ((306 + (5 * c))) ((x) / 10000)) 194 (((306 + (5 * c)) + 1)) (((x) / 1000) % 10)) 194 (((306 + (5 * c)) + 2)) ((x) % 1000)) 194 (((306 + (5 * c)) + 3)) (n)) 194 (((306 + (5 * c)) + 4)) (w))) (o230_82 hB) rfl ?_
              refine w_iald (A := 194) (i := 5) (n := 1984) (z := ((c : Nat) : Int)) (pc' := 131) (o230_83 hB) rfl (by decide +kernel) (by omega) ((hup_nj (by omega)).trans ((hup_nj (by omega)).trans ((hup_nj (by omega)).trans ((hup_nj (by omega)).trans ((hup_nj (by omega)).trans hc))))) ?_
              refine w_pl (pc' := 132) (lv' := [(3, (0, (((306 + (5 * c)) : Nat) : Int))), (0, (2, ((193 : Nat) : Int))), (1, (0, (x))), (2, (0, (n)))]) (st' := [(0, ((1 : Nat) : Int)), (0, ((c : Nat) : Int)), (0, ((5 : Nat) : Int)), (2, ((194 : Nat) : Int))]) (h' := (hup (hup (hup (hup (hup h 194 ((306 + (5 * c))) ((x) / 10000)) 194 (((306 + (5 * c)) + 1)) (((x) / 1000) % 10)) 194 (((306 + (5 * c)) + 2)) ((x) % 1000)) 194 (((306 + (5 * c)) + 3)) (n)) 194 (((306 + (5 * c)) + 4)) (w))) (o230_84 hB) rfl ?_
              refine w_iadd (z := (((c + 1) : Nat) : Int)) (pc' := 133) (o230_85 hB) rfl (w32_e (by omega) (by omega)) ?_
              refine w_iast (A := 194) (i := 5) (n := 1984) (pc' := 134) (o230_86 hB) rfl (by decide +kernel) (by omega) ?_
              refine w_pl (pc' := 135) (lv' := [(3, (0, (((306 + (5 * c)) : Nat) : Int))), (0, (2, ((193 : Nat) : Int))), (1, (0, (x))), (2, (0, (n)))]) (st' := [(2, ((193 : Nat) : Int))]) (h' := (hup (hup (hup (hup (hup (hup h 194 ((306 + (5 * c))) ((x) / 10000)) 194 (((306 + (5 * c)) + 1)) (((x) / 1000) % 10)) 194 (((306 + (5 * c)) + 2)) ((x) % 1000)) 194 (((306 + (5 * c)) + 3)) (n)) 194 (((306 + (5 * c)) + 4)) (w)) 194 (5) (((c + 1) : Nat) : Int))) (o230_87 hB) rfl ?_
              refine w_getf (A := 193) (t := 2) (z := ((194 : Nat) : Int)) (pc' := 138) (o230_88 hB) rfl (by decide +kernel) ((hup_ne (by decide)).trans ((hup_ne (by decide)).trans ((hup_ne (by decide)).trans ((hup_ne (by decide)).trans ((hup_ne (by decide)).trans ((hup_ne (by decide)).trans (hR (193, 0, 194) (by decide)))))))) ?_
              refine w_pl (pc' := 139) (lv' := [(3, (0, (((306 + (5 * c)) : Nat) : Int))), (0, (2, ((193 : Nat) : Int))), (1, (0, (x))), (2, (0, (n)))]) (st' := [(0, ((5 : Nat) : Int)), (2, ((194 : Nat) : Int))]) (h' := (hup (hup (hup (hup (hup (hup h 194 ((306 + (5 * c))) ((x) / 10000)) 194 (((306 + (5 * c)) + 1)) (((x) / 1000) % 10)) 194 (((306 + (5 * c)) + 2)) ((x) % 1000)) 194 (((306 + (5 * c)) + 3)) (n)) 194 (((306 + (5 * c)) + 4)) (w)) 194 (5) (((c + 1) : Nat) : Int))) (o230_89 hB) rfl ?_
              refine w_iald (A := 194) (i := 5) (n := 1984) (z := ((((c + 1) : Nat) : Int))) (pc' := 140) (o230_90 hB) rfl (by decide +kernel) (by omega) (hup_eq) ?_
              refine w_pl (pc' := 141) (lv' := [(3, (0, (((306 + (5 * c)) : Nat) : Int))), (0, (2, ((193 : Nat) : Int))), (1, (0, (x))), (2, (0, (n)))]) (st' := [(0, ((1 : Nat) : Int)), (0, ((((c + 1) : Nat) : Int)))]) (h' := (hup (hup (hup (hup (hup (hup h 194 ((306 + (5 * c))) ((x) / 10000)) 194 (((306 + (5 * c)) + 1)) (((x) / 1000) % 10)) 194 (((306 + (5 * c)) + 2)) ((x) % 1000)) 194 (((306 + (5 * c)) + 3)) (n)) 194 (((306 + (5 * c)) + 4)) (w)) 194 (5) (((c + 1) : Nat) : Int))) (o230_91 hB) rfl ?_
              refine w_isub (z := (((((c + 1) : Nat) : Int)) - ((1 : Nat) : Int))) (pc' := 142) (o230_92 hB) rfl (w32_e (by omega) (by omega)) ?_
              exact w_iret (o230_93 hB) mr230 (by unfold in32; omega) (qe (a2 (by omega)) (by omega))
            · have f93 : ¬ (((c : Nat) : Int) ≠ ((24 : Nat) : Int)) := e
              refine w_pl (pc' := 47) (lv' := [(0, (2, ((193 : Nat) : Int))), (1, (0, (x))), (2, (0, (n)))]) (st' := [(0, (-2))]) (h' := h) (o230_24 hB) rfl ?_
              exact w_iret (o230_25 hB) mr230 (by unfold in32; omega) (a1 (by omega))
          · have f94 : ¬ (((1 : Nat) : Int) ≠ (0)) := e
            exfalso; omega
        · show HW g l _ 230 _ _ 29 [(0, (2, ((193 : Nat) : Int))), (1, (0, (x))), (2, (0, (n)))] [(0, ((0 : Nat) : Int))] h
          refine w_ifc (pt := 34) (pf := 32) (o230_15 hB) (by decide) rfl (fun e => ?_) (fun e => ?_)
          · have f95 : (((0 : Nat) : Int) ≠ (0)) := e
            exfalso; omega
          · have f96 : ¬ (((0 : Nat) : Int) ≠ (0)) := e
            refine w_pl (pc' := 33) (lv' := [(0, (2, ((193 : Nat) : Int))), (1, (0, (x))), (2, (0, (n)))]) (st' := [(0, (-1))]) (h' := h) (o230_16 hB) rfl ?_
            exact w_iret (o230_17 hB) mr230 (by unfold in32; omega) (a0 (by omega))
  · show HW g l _ 230 _ _ 4 [(0, (2, ((193 : Nat) : Int))), (1, (0, (x))), (2, (0, (n)))] [(0, ((0 : Nat) : Int))] h
    refine w_ifc (pt := 32) (pf := 7) (o230_2 hB) (by decide) rfl (fun e => ?_) (fun e => ?_)
    · have f97 : (((0 : Nat) : Int) = (0)) := e
      refine w_pl (pc' := 33) (lv' := [(0, (2, ((193 : Nat) : Int))), (1, (0, (x))), (2, (0, (n)))]) (st' := [(0, (-1))]) (h' := h) (o230_16 hB) rfl ?_
      exact w_iret (o230_17 hB) mr230 (by unfold in32; omega) (a0 (by omega))
    · have f98 : ¬ (((0 : Nat) : Int) = (0)) := e
      exfalso; omega
def s_boxesM (vs : List bV) (h : bH) (r : Option bV) (h' : bH) : Prop := TH h ∧ ∀ (x n : Int) (c : Nat) (w : Int) , vs = [(2, ((193 : Nat) : Int)), (0, x), (0, n)] → h 194 5 = (c : Int) → h 194 0 = w → ((¬ ((0 ≤ x ∧ x / 10000 < 6 ∧ x / 1000 % 10 < 4 ∧ x % 1000 < 240) ∧ x % 1000 ≤ w ∧ 1 ≤ n ∧ n ≤ 999)) ∧ r = some (0, (-1)) ∧ h = h') ∨ ((((0 ≤ x ∧ x / 10000 < 6 ∧ x / 1000 % 10 < 4 ∧ x % 1000 < 240) ∧ x % 1000 ≤ w ∧ 1 ≤ n ∧ n ≤ 999) ∧ c = 24) ∧ r = some (0, (-2)) ∧ h = h') ∨ ((((0 ≤ x ∧ x / 10000 < 6 ∧ x / 1000 % 10 < 4 ∧ x % 1000 < 240) ∧ x % 1000 ≤ w ∧ 1 ≤ n ∧ n ≤ 999) ∧ c < 24) ∧ r = some (0, (c : Int)) ∧ h' = (hup (hup (hup (hup (hup (hup h 194 ((306 + (5 * c))) ((x) / 10000)) 194 (((306 + (5 * c)) + 1)) (((x) / 1000) % 10)) 194 (((306 + (5 * c)) + 2)) ((x) % 1000)) 194 (((306 + (5 * c)) + 3)) (n)) 194 (((306 + (5 * c)) + 4)) (w)) 194 (5) (((c + 1) : Nat) : Int)))
def w_boxesM : List (Nat × Nat × Nat) := [(194, 5, 6), (194, 306, 426)]
def q_boxesM : aCt := cH 230 3 w_boxesM 2 193
theorem sk_boxesM (hB : BytesOK) (g : bG) (l : Launch) : SK g l gT q_boxesM s_boxesM := by
  intro d hd ρ h Q hcore hQ
  have hcore : core (PofW gT (some w_boxesM) false) (gsc g) h ρ h (List.replicate 2 r32, [], [], 212) := hcore
  have ht := hTH hcore
  have y0 := r32_0 hcore 0 (by decide)
  have y1 := r32_0 hcore 1 (by decide)
  have y00 := y0
  unfold in32 at y00
  have y01 := y1
  unfold in32 at y01
  obtain ⟨c, hc, lc⟩ := nat_to ht (a := 194) (j := 5) (n := 24) (by decide +kernel)
  have r_w := ty_194_c0 ht
  obtain ⟨d', rfl⟩ : ∃ d', d = d' + 1 + 1 + 1 := ⟨d - 3, by have : 3 ≤ d := hd; omega⟩
  rw [show evS ρ (ctA q_boxesM) = [(2, ((193 : Nat) : Int)), (0, ρ 0), (0, ρ 1)] from evA2]
  refine m_boxesM (x := ρ 0) (n := ρ 1) hB ht y0 y1 hc lc rfl (fun hn => ?_) (fun hn => ?_) (fun hn => ?_)
  · refine hQ _ _ (hpost hcore (ht) (fun _ _ _ => rfl) (by unfold in32; omega)) ⟨ht, fun x n c_c v_w hv e_c e_w => ?_⟩
    have hv := (evA2 (ρ := ρ)).symm.trans hv
    obtain ⟨rfl, rfl⟩ := vsA2 hv
    obtain rfl : c_c = c := by have := e_c.symm.trans hc; omega
    subst e_w
    exact Or.inl ⟨hn, rfl, rfl⟩
  · refine hQ _ _ (hpost hcore (ht) (fun _ _ _ => rfl) (by unfold in32; omega)) ⟨ht, fun x n c_c v_w hv e_c e_w => ?_⟩
    have hv := (evA2 (ρ := ρ)).symm.trans hv
    obtain ⟨rfl, rfl⟩ := vsA2 hv
    obtain rfl : c_c = c := by have := e_c.symm.trans hc; omega
    subst e_w
    exact Or.inr (Or.inl ⟨hn, rfl, rfl⟩)
  · refine hQ _ _ (hpost hcore (((((((ht).ups2 (a := 194) (s := 306) (st := 5) (n := 24) (lo := (0)) (hi := 999) (r := c) (by decide +kernel) (by omega) (by omega) (by omega)).ups2 (a := 194) (s := 307) (st := 5) (n := 24) (lo := (0)) (hi := 999) (r := c) (by decide +kernel) (by omega) (by omega) (by omega)).ups2 (a := 194) (s := 308) (st := 5) (n := 24) (lo := (0)) (hi := 999) (r := c) (by decide +kernel) (by omega) (by omega) (by omega)).ups2 (a := 194) (s := 309) (st := 5) (n := 24) (lo := (0)) (hi := 999) (r := c) (by decide +kernel) (by omega) (by omega) (by omega)).ups2 (a := 194) (s := 310) (st := 5) (n := 24) (lo := (0)) (hi := 999) (r := c) (by decide +kernel) (by omega) (by omega) (by omega)).upc (a := 194) (j := 5) (lo := (0)) (hi := 24) (by decide +kernel) (by omega)) (fr_up (fr_up (fr_up (fr_up (fr_up (fr_up (fun _ _ _ => rfl) (wr_in (lo := 306) (hi := 426) (by decide) (by omega) (by omega))) (wr_in (lo := 306) (hi := 426) (by decide) (by omega) (by omega))) (wr_in (lo := 306) (hi := 426) (by decide) (by omega) (by omega))) (wr_in (lo := 306) (hi := 426) (by decide) (by omega) (by omega))) (wr_in (lo := 306) (hi := 426) (by decide) (by omega) (by omega))) (wr_in (lo := 5) (hi := 6) (by decide) (by omega) (by omega))) (by unfold in32; omega)) ⟨ht, fun x n c_c v_w hv e_c e_w => ?_⟩
    have hv := (evA2 (ρ := ρ)).symm.trans hv
    obtain ⟨rfl, rfl⟩ := vsA2 hv
    obtain rfl : c_c = c := by have := e_c.symm.trans hc; omega
    subst e_w
    exact Or.inr (Or.inr (⟨hn, rfl, rfl⟩))
/-- the class's count over the first b, the reference's -/
def cntA (h : bH) (w kk : Int) : Nat → Int
  | 0 => 0
  | b + 1 => cntA h w kk b + (if h 18 b = w ∧ h 20 b ≤ kk then h 19 b else 0)
def cntM (h : bH) (mk ld mo kk : Int) : Nat → Int
  | 0 => 0
  | b + 1 => cntM h mk ld mo kk b + (if h 194 (306 + 5 * b) = mk ∧ h 194 (306 + 5 * b + 1) = ld ∧ h 194 (306 + 5 * b + 2) = mo ∧ h 194 (306 + 5 * b + 4) ≤ kk then h 194 (306 + 5 * b + 3) else 0)
theorem cntA_r {h : bH} (ht : TH h) {w kk : Int} : ∀ b, b ≤ 24 → 0 ≤ cntA h w kk b ∧ cntA h w kk b ≤ 999 * b
  | 0, _ => by simp [cntA]
  | b + 1, hb => by
    have := cntA_r ht (w := w) (kk := kk) b (by omega)
    have := ty_19_s0 ht (j := b) (r := b) (by omega) (by omega)
    simp only [cntA]
    split <;> omega
theorem cntM_r {h : bH} (ht : TH h) {mk ld mo kk : Int} : ∀ b, b ≤ 24 → 0 ≤ cntM h mk ld mo kk b ∧ cntM h mk ld mo kk b ≤ 999 * b
  | 0, _ => by simp [cntM]
  | b + 1, hb => by
    have := cntM_r ht (mk := mk) (ld := ld) (mo := mo) (kk := kk) b (by omega)
    have := ty_194_s309 ht (j := 306 + 5 * b + 3) (r := b) (by omega) (by omega)
    simp only [cntM]
    split <;> omega
theorem m_countAt (hB : BytesOK) {g : bG} {l : Launch} {d : Nat} {Q : bQ} {h : bH} {w kk : Int} {c : Nat} (ht : TH h) (hc : h 17 0 = (c : Int)) (lc : c ≤ 24) (hq : Q (some (0, cntA h w kk c)) h) : MH g l d 108 212 212 [(2, ((17 : Nat) : Int)), (0, w), (0, kk)] h Q := by
  have hR := ht.r
  have loop : ∀ (n b : Nat), b + n = c → HW g l d 108 212 Q 5 [(4, (0, ((b : Nat) : Int))), (3, (0, (cntA h w kk b))), (0, (2, ((17 : Nat) : Int))), (1, (0, (w))), (2, (0, (kk)))] [] h := by
    intro n
    induction n with
    | zero =>
      intro b hb
      have rb := cntA_r ht (w := w) (kk := kk) b (by omega)
      refine w_pl (pc' := 7) (lv' := [(4, (0, ((b : Nat) : Int))), (3, (0, (cntA h w kk b))), (0, (2, ((17 : Nat) : Int))), (1, (0, (w))), (2, (0, (kk)))]) (st' := [(0, ((b : Nat) : Int))]) (h' := h) (o108_4 hB) rfl ?_
      refine w_pl (pc' := 8) (lv' := [(4, (0, ((b : Nat) : Int))), (3, (0, (cntA h w kk b))), (0, (2, ((17 : Nat) : Int))), (1, (0, (w))), (2, (0, (kk)))]) (st' := [(2, ((17 : Nat) : Int)), (0, ((b : Nat) : Int))]) (h' := h) (o108_5 hB) rfl ?_
      refine w_getf (A := 17) (t := 0) (z := ((c : Nat) : Int)) (pc' := 11) (o108_6 hB) rfl (by decide +kernel) hc ?_
      refine w_icmp (pt := 52) (pf := 14) (o108_7 hB) (by decide) rfl (fun e => ?_) (fun e => ?_)
      · have f99 : (((c : Nat) : Int) ≤ ((b : Nat) : Int)) := e
        refine w_pl (pc' := 53) (lv' := [(4, (0, ((b : Nat) : Int))), (3, (0, (cntA h w kk b))), (0, (2, ((17 : Nat) : Int))), (1, (0, (w))), (2, (0, (kk)))]) (st' := [(0, (cntA h w kk b))]) (h' := h) (o108_29 hB) rfl ?_
        have e0 : b = c := by omega
        subst e0
        exact w_iret (o108_30 hB) mr108 (by have := cntA_r ht (w := w) (kk := kk) b (by omega); unfold in32; omega) hq
      · have f100 : ¬ (((c : Nat) : Int) ≤ ((b : Nat) : Int)) := e
        exfalso; omega
    | succ n ih =>
      intro b hb
      have rb := cntA_r ht (w := w) (kk := kk) b (by omega)
      refine w_pl (pc' := 7) (lv' := [(4, (0, ((b : Nat) : Int))), (3, (0, (cntA h w kk b))), (0, (2, ((17 : Nat) : Int))), (1, (0, (w))), (2, (0, (kk)))]) (st' := [(0, ((b : Nat) : Int))]) (h' := h) (o108_4 hB) rfl ?_
      refine w_pl (pc' := 8) (lv' := [(4, (0, ((b : Nat) : Int))), (3, (0, (cntA h w kk b))), (0, (2, ((17 : Nat) : Int))), (1, (0, (w))), (2, (0, (kk)))]) (st' := [(2, ((17 : Nat) : Int)), (0, ((b : Nat) : Int))]) (h' := h) (o108_5 hB) rfl ?_
      refine w_getf (A := 17) (t := 0) (z := ((c : Nat) : Int)) (pc' := 11) (o108_6 hB) rfl (by decide +kernel) hc ?_
      refine w_icmp (pt := 52) (pf := 14) (o108_7 hB) (by decide) rfl (fun e => ?_) (fun e => ?_)
      · have f101 : (((c : Nat) : Int) ≤ ((b : Nat) : Int)) := e
        exfalso; omega
      · have f102 : ¬ (((c : Nat) : Int) ≤ ((b : Nat) : Int)) := e
        refine w_pl (pc' := 15) (lv' := [(4, (0, ((b : Nat) : Int))), (3, (0, (cntA h w kk b))), (0, (2, ((17 : Nat) : Int))), (1, (0, (w))), (2, (0, (kk)))]) (st' := [(2, ((17 : Nat) : Int))]) (h' := h) (o108_8 hB) rfl ?_
        refine w_getf (A := 17) (t := 2) (z := ((18 : Nat) : Int)) (pc' := 18) (o108_9 hB) rfl (by decide +kernel) (hR (17, 1, 18) (by decide)) ?_
        refine w_pl (pc' := 20) (lv' := [(4, (0, ((b : Nat) : Int))), (3, (0, (cntA h w kk b))), (0, (2, ((17 : Nat) : Int))), (1, (0, (w))), (2, (0, (kk)))]) (st' := [(0, ((b : Nat) : Int)), (2, ((18 : Nat) : Int))]) (h' := h) (o108_10 hB) rfl ?_
        have f103 := ty_18_s0 ht (j := b) (r := b) (by omega) (by omega)
        refine w_iald (A := 18) (i := b) (n := 24) (z := (h 18 b)) (pc' := 21) (o108_11 hB) rfl (by decide +kernel) (by omega) rfl ?_
        refine w_pl (pc' := 22) (lv' := [(4, (0, ((b : Nat) : Int))), (3, (0, (cntA h w kk b))), (0, (2, ((17 : Nat) : Int))), (1, (0, (w))), (2, (0, (kk)))]) (st' := [(0, (w)), (0, (h 18 b))]) (h' := h) (o108_12 hB) rfl ?_
        refine w_icmp (pt := 46) (pf := 25) (o108_13 hB) (by decide) rfl (fun e => ?_) (fun e => ?_)
        · have f104 : ((h 18 b) ≠ (w)) := e
          refine w_iinc (x := ((b : Nat) : Int)) (z := (((b + 1) : Nat) : Int)) (pc' := 49) (lv' := [(4, (0, (((b + 1) : Nat) : Int))), (3, (0, (cntA h w kk b))), (0, (2, ((17 : Nat) : Int))), (1, (0, (w))), (2, (0, (kk)))]) (o108_27 hB) rfl rfl ml108 (by decide) (w32_e (by omega) (by omega)) rfl ?_
          refine w_goto (pt := 5) (o108_28 hB) (by decide) ?_
          refine w_sub (lv' := [(4, (0, (((b + 1) : Nat) : Int))), (3, (0, (cntA h w kk b))), (0, (2, ((17 : Nat) : Int))), (1, (0, (w))), (2, (0, (kk)))]) (List.forall_mem_cons.mpr ⟨(List.Mem.head _), (List.forall_mem_cons.mpr ⟨(List.Mem.tail _ (List.Mem.head _)), (List.forall_mem_cons.mpr ⟨(List.Mem.tail _ (List.Mem.tail _ (List.Mem.head _))), (List.forall_mem_cons.mpr ⟨(List.Mem.tail _ (List.Mem.tail _ (List.Mem.tail _ (List.Mem.head _)))), (List.forall_mem_cons.mpr ⟨(List.Mem.tail _ (List.Mem.tail _ (List.Mem.tail _ (List.Mem.tail _ (List.Mem.head _))))), (fun _ hx => by cases hx)⟩)⟩)⟩)⟩)⟩) ?_
          have e1 : (cntA h w kk b) = cntA h w kk (b + 1) := by
            simp only [cntA]
            rw [if_neg (by omega)]; omega
          rw [e1]
          exact ih (b + 1) (by omega)
        · have f105 : ¬ ((h 18 b) ≠ (w)) := e
          refine w_pl (pc' := 26) (lv' := [(4, (0, ((b : Nat) : Int))), (3, (0, (cntA h w kk b))), (0, (2, ((17 : Nat) : Int))), (1, (0, (w))), (2, (0, (kk)))]) (st' := [(2, ((17 : Nat) : Int))]) (h' := h) (o108_14 hB) rfl ?_
          refine w_getf (A := 17) (t := 2) (z := ((20 : Nat) : Int)) (pc' := 29) (o108_15 hB) rfl (by decide +kernel) (hR (17, 3, 20) (by decide)) ?_
          refine w_pl (pc' := 31) (lv' := [(4, (0, ((b : Nat) : Int))), (3, (0, (cntA h w kk b))), (0, (2, ((17 : Nat) : Int))), (1, (0, (w))), (2, (0, (kk)))]) (st' := [(0, ((b : Nat) : Int)), (2, ((20 : Nat) : Int))]) (h' := h) (o108_16 hB) rfl ?_
          have f106 := ty_20_s0 ht (j := b) (r := b) (by omega) (by omega)
          refine w_iald (A := 20) (i := b) (n := 24) (z := (h 20 b)) (pc' := 32) (o108_17 hB) rfl (by decide +kernel) (by omega) rfl ?_
          refine w_pl (pc' := 33) (lv' := [(4, (0, ((b : Nat) : Int))), (3, (0, (cntA h w kk b))), (0, (2, ((17 : Nat) : Int))), (1, (0, (w))), (2, (0, (kk)))]) (st' := [(0, (kk)), (0, (h 20 b))]) (h' := h) (o108_18 hB) rfl ?_
          refine w_icmp (pt := 46) (pf := 36) (o108_19 hB) (by decide) rfl (fun e => ?_) (fun e => ?_)
          · have f107 : ((kk) < (h 20 b)) := e
            refine w_iinc (x := ((b : Nat) : Int)) (z := (((b + 1) : Nat) : Int)) (pc' := 49) (lv' := [(4, (0, (((b + 1) : Nat) : Int))), (3, (0, (cntA h w kk b))), (0, (2, ((17 : Nat) : Int))), (1, (0, (w))), (2, (0, (kk)))]) (o108_27 hB) rfl rfl ml108 (by decide) (w32_e (by omega) (by omega)) rfl ?_
            refine w_goto (pt := 5) (o108_28 hB) (by decide) ?_
            refine w_sub (lv' := [(4, (0, (((b + 1) : Nat) : Int))), (3, (0, (cntA h w kk b))), (0, (2, ((17 : Nat) : Int))), (1, (0, (w))), (2, (0, (kk)))]) (List.forall_mem_cons.mpr ⟨(List.Mem.head _), (List.forall_mem_cons.mpr ⟨(List.Mem.tail _ (List.Mem.head _)), (List.forall_mem_cons.mpr ⟨(List.Mem.tail _ (List.Mem.tail _ (List.Mem.head _))), (List.forall_mem_cons.mpr ⟨(List.Mem.tail _ (List.Mem.tail _ (List.Mem.tail _ (List.Mem.head _)))), (List.forall_mem_cons.mpr ⟨(List.Mem.tail _ (List.Mem.tail _ (List.Mem.tail _ (List.Mem.tail _ (List.Mem.head _))))), (fun _ hx => by cases hx)⟩)⟩)⟩)⟩)⟩) ?_
            have e1 : (cntA h w kk b) = cntA h w kk (b + 1) := by
              simp only [cntA]
              rw [if_neg (by omega)]; omega
            rw [e1]
            exact ih (b + 1) (by omega)
          · have f108 : ¬ ((kk) < (h 20 b)) := e
            refine w_pl (pc' := 37) (lv' := [(4, (0, ((b : Nat) : Int))), (3, (0, (cntA h w kk b))), (0, (2, ((17 : Nat) : Int))), (1, (0, (w))), (2, (0, (kk)))]) (st' := [(0, (cntA h w kk b))]) (h' := h) (o108_20 hB) rfl ?_
            refine w_pl (pc' := 38) (lv' := [(4, (0, ((b : Nat) : Int))), (3, (0, (cntA h w kk b))), (0, (2, ((17 : Nat) : Int))), (1, (0, (w))), (2, (0, (kk)))]) (st' := [(2, ((17 : Nat) : Int)), (0, (cntA h w kk b))]) (h' := h) (o108_21 hB) rfl ?_
            refine w_getf (A := 17) (t := 2) (z := ((19 : Nat) : Int)) (pc' := 41) (o108_22 hB) rfl (by decide +kernel) (hR (17, 2, 19) (by decide)) ?_
            refine w_pl (pc' := 43) (lv' := [(4, (0, ((b : Nat) : Int))), (3, (0, (cntA h w kk b))), (0, (2, ((17 : Nat) : Int))), (1, (0, (w))), (2, (0, (kk)))]) (st' := [(0, ((b : Nat) : Int)), (2, ((19 : Nat) : Int)), (0, (cntA h w kk b))]) (h' := h) (o108_23 hB) rfl ?_
            have f109 := ty_19_s0 ht (j := b) (r := b) (by omega) (by omega)
            refine w_iald (A := 19) (i := b) (n := 24) (z := (h 19 b)) (pc' := 44) (o108_24 hB) rfl (by decide +kernel) (by omega) rfl ?_
            refine w_iadd (z := ((cntA h w kk b) + (h 19 b))) (pc' := 45) (o108_25 hB) rfl (w32_e (by omega) (by omega)) ?_
            refine w_st (tg := 0) (j := 3) (len := 1) (pc' := 46) (lv' := [(3, (0, ((cntA h w kk b) + (h 19 b)))), (4, (0, ((b : Nat) : Int))), (0, (2, ((17 : Nat) : Int))), (1, (0, (w))), (2, (0, (kk)))]) (o108_26 hB) rfl rfl ml108 (by decide) rfl ?_
            refine w_iinc (x := ((b : Nat) : Int)) (z := (((b + 1) : Nat) : Int)) (pc' := 49) (lv' := [(4, (0, (((b + 1) : Nat) : Int))), (3, (0, ((cntA h w kk b) + (h 19 b)))), (0, (2, ((17 : Nat) : Int))), (1, (0, (w))), (2, (0, (kk)))]) (o108_27 hB) rfl rfl ml108 (by decide) (w32_e (by omega) (by omega)) rfl ?_
            refine w_goto (pt := 5) (o108_28 hB) (by decide) ?_
            refine w_sub (lv' := [(4, (0, (((b + 1) : Nat) : Int))), (3, (0, ((cntA h w kk b) + (h 19 b)))), (0, (2, ((17 : Nat) : Int))), (1, (0, (w))), (2, (0, (kk)))]) (List.forall_mem_cons.mpr ⟨(List.Mem.head _), (List.forall_mem_cons.mpr ⟨(List.Mem.tail _ (List.Mem.head _)), (List.forall_mem_cons.mpr ⟨(List.Mem.tail _ (List.Mem.tail _ (List.Mem.head _))), (List.forall_mem_cons.mpr ⟨(List.Mem.tail _ (List.Mem.tail _ (List.Mem.tail _ (List.Mem.head _)))), (List.forall_mem_cons.mpr ⟨(List.Mem.tail _ (List.Mem.tail _ (List.Mem.tail _ (List.Mem.tail _ (List.Mem.head _))))), (fun _ hx => by cases hx)⟩)⟩)⟩)⟩)⟩) ?_
            have e1 : ((cntA h w kk b) + (h 19 b)) = cntA h w kk (b + 1) := by
              simp only [cntA]
              rw [if_pos ⟨by omega, by omega⟩]
            rw [e1]
            exact ih (b + 1) (by omega)
  refine mh_go hB mg108 ml108 (Nat.le_of_ble_eq_true rfl) ?_
  show HW g l d 108 _ _ 0 [(0, (2, ((17 : Nat) : Int))), (1, (0, (w))), (2, (0, (kk)))] [] h
  refine w_pl (pc' := 1) (lv' := [(0, (2, ((17 : Nat) : Int))), (1, (0, (w))), (2, (0, (kk)))]) (st' := [(0, ((0 : Nat) : Int))]) (h' := h) (o108_0 hB) rfl ?_
  refine w_st (tg := 0) (j := 3) (len := 1) (pc' := 2) (lv' := [(3, (0, ((0 : Nat) : Int))), (0, (2, ((17 : Nat) : Int))), (1, (0, (w))), (2, (0, (kk)))]) (o108_1 hB) rfl rfl ml108 (by decide) rfl ?_
  refine w_pl (pc' := 3) (lv' := [(3, (0, ((0 : Nat) : Int))), (0, (2, ((17 : Nat) : Int))), (1, (0, (w))), (2, (0, (kk)))]) (st' := [(0, ((0 : Nat) : Int))]) (h' := h) (o108_2 hB) rfl ?_
  refine w_st (tg := 0) (j := 4) (len := 2) (pc' := 5) (lv' := [(4, (0, ((0 : Nat) : Int))), (3, (0, ((0 : Nat) : Int))), (0, (2, ((17 : Nat) : Int))), (1, (0, (w))), (2, (0, (kk)))]) (o108_3 hB) rfl rfl ml108 (by decide) rfl ?_
  refine w_sub (lv' := [(4, (0, ((0 : Nat) : Int))), (3, (0, ((0 : Nat) : Int))), (0, (2, ((17 : Nat) : Int))), (1, (0, (w))), (2, (0, (kk)))]) (List.forall_mem_cons.mpr ⟨(List.Mem.head _), (List.forall_mem_cons.mpr ⟨(List.Mem.tail _ (List.Mem.head _)), (List.forall_mem_cons.mpr ⟨(List.Mem.tail _ (List.Mem.tail _ (List.Mem.head _))), (List.forall_mem_cons.mpr ⟨(List.Mem.tail _ (List.Mem.tail _ (List.Mem.tail _ (List.Mem.head _)))), (List.forall_mem_cons.mpr ⟨(List.Mem.tail _ (List.Mem.tail _ (List.Mem.tail _ (List.Mem.tail _ (List.Mem.head _))))), (fun _ hx => by cases hx)⟩)⟩)⟩)⟩)⟩) ?_
  exact loop c 0 (by omega)
theorem m_countOf (hB : BytesOK) {g : bG} {l : Launch} {d : Nat} {Q : bQ} {h : bH} {mk ld mo kk : Int} {c : Nat} (ht : TH h) (hc : h 194 5 = (c : Int)) (lc : c ≤ 24) (hq : Q (some (0, cntM h mk ld mo kk c)) h) : MH g l d 231 212 212 [(2, ((193 : Nat) : Int)), (0, mk), (0, ld), (0, mo), (0, kk)] h Q := by
  have hR := ht.r
  have loop : ∀ (n b : Nat), b + n = c → HW g l d 231 212 Q 6 [(6, (0, ((b : Nat) : Int))), (5, (0, (cntM h mk ld mo kk b))), (0, (2, ((193 : Nat) : Int))), (1, (0, (mk))), (2, (0, (ld))), (3, (0, (mo))), (4, (0, (kk)))] [] h := by
    intro n
    induction n with
    | zero =>
      intro b hb
      have rb := cntM_r ht (mk := mk) (ld := ld) (mo := mo) (kk := kk) b (by omega)
      refine w_pl (pc' := 8) (lv' := [(6, (0, ((b : Nat) : Int))), (5, (0, (cntM h mk ld mo kk b))), (0, (2, ((193 : Nat) : Int))), (1, (0, (mk))), (2, (0, (ld))), (3, (0, (mo))), (4, (0, (kk)))]) (st' := [(0, ((b : Nat) : Int))]) (h' := h) (o231_4 hB) rfl ?_
      refine w_pl (pc' := 9) (lv' := [(6, (0, ((b : Nat) : Int))), (5, (0, (cntM h mk ld mo kk b))), (0, (2, ((193 : Nat) : Int))), (1, (0, (mk))), (2, (0, (ld))), (3, (0, (mo))), (4, (0, (kk)))]) (st' := [(2, ((193 : Nat) : Int)), (0, ((b : Nat) : Int))]) (h' := h) (o231_5 hB) rfl ?_
      refine w_getf (A := 193) (t := 2) (z := ((194 : Nat) : Int)) (pc' := 12) (o231_6 hB) rfl (by decide +kernel) (hR (193, 0, 194) (by decide)) ?_
      refine w_pl (pc' := 13) (lv' := [(6, (0, ((b : Nat) : Int))), (5, (0, (cntM h mk ld mo kk b))), (0, (2, ((193 : Nat) : Int))), (1, (0, (mk))), (2, (0, (ld))), (3, (0, (mo))), (4, (0, (kk)))]) (st' := [(0, ((5 : Nat) : Int)), (2, ((194 : Nat) : Int)), (0, ((b : Nat) : Int))]) (h' := h) (o231_7 hB) rfl ?_
      refine w_iald (A := 194) (i := 5) (n := 1984) (z := ((c : Nat) : Int)) (pc' := 14) (o231_8 hB) rfl (by decide +kernel) (by omega) hc ?_
      refine w_icmp (pt := 102) (pf := 17) (o231_9 hB) (by decide) rfl (fun e => ?_) (fun e => ?_)
      · have f110 : (((c : Nat) : Int) ≤ ((b : Nat) : Int)) := e
        refine w_pl (pc' := 104) (lv' := [(6, (0, ((b : Nat) : Int))), (5, (0, (cntM h mk ld mo kk b))), (0, (2, ((193 : Nat) : Int))), (1, (0, (mk))), (2, (0, (ld))), (3, (0, (mo))), (4, (0, (kk)))]) (st' := [(0, (cntM h mk ld mo kk b))]) (h' := h) (o231_59 hB) rfl ?_
        have e0 : b = c := by omega
        subst e0
        exact w_iret (o231_60 hB) mr231 (by have := cntM_r ht (mk := mk) (ld := ld) (mo := mo) (kk := kk) b (by omega); unfold in32; omega) hq
      · have f111 : ¬ (((c : Nat) : Int) ≤ ((b : Nat) : Int)) := e
        exfalso; omega
    | succ n ih =>
      intro b hb
      have rb := cntM_r ht (mk := mk) (ld := ld) (mo := mo) (kk := kk) b (by omega)
      refine w_pl (pc' := 8) (lv' := [(6, (0, ((b : Nat) : Int))), (5, (0, (cntM h mk ld mo kk b))), (0, (2, ((193 : Nat) : Int))), (1, (0, (mk))), (2, (0, (ld))), (3, (0, (mo))), (4, (0, (kk)))]) (st' := [(0, ((b : Nat) : Int))]) (h' := h) (o231_4 hB) rfl ?_
      refine w_pl (pc' := 9) (lv' := [(6, (0, ((b : Nat) : Int))), (5, (0, (cntM h mk ld mo kk b))), (0, (2, ((193 : Nat) : Int))), (1, (0, (mk))), (2, (0, (ld))), (3, (0, (mo))), (4, (0, (kk)))]) (st' := [(2, ((193 : Nat) : Int)), (0, ((b : Nat) : Int))]) (h' := h) (o231_5 hB) rfl ?_
      refine w_getf (A := 193) (t := 2) (z := ((194 : Nat) : Int)) (pc' := 12) (o231_6 hB) rfl (by decide +kernel) (hR (193, 0, 194) (by decide)) ?_
      refine w_pl (pc' := 13) (lv' := [(6, (0, ((b : Nat) : Int))), (5, (0, (cntM h mk ld mo kk b))), (0, (2, ((193 : Nat) : Int))), (1, (0, (mk))), (2, (0, (ld))), (3, (0, (mo))), (4, (0, (kk)))]) (st' := [(0, ((5 : Nat) : Int)), (2, ((194 : Nat) : Int)), (0, ((b : Nat) : Int))]) (h' := h) (o231_7 hB) rfl ?_
      refine w_iald (A := 194) (i := 5) (n := 1984) (z := ((c : Nat) : Int)) (pc' := 14) (o231_8 hB) rfl (by decide +kernel) (by omega) hc ?_
      refine w_icmp (pt := 102) (pf := 17) (o231_9 hB) (by decide) rfl (fun e => ?_) (fun e => ?_)
      · have f112 : (((c : Nat) : Int) ≤ ((b : Nat) : Int)) := e
        exfalso; omega
      · have f113 : ¬ (((c : Nat) : Int) ≤ ((b : Nat) : Int)) := e
        refine w_pl (pc' := 20) (lv' := [(6, (0, ((b : Nat) : Int))), (5, (0, (cntM h mk ld mo kk b))), (0, (2, ((193 : Nat) : Int))), (1, (0, (mk))), (2, (0, (ld))), (3, (0, (mo))), (4, (0, (kk)))]) (st' := [(0, ((306 : Nat) : Int))]) (h' := h) (o231_10 hB) rfl ?_
        refine w_pl (pc' := 21) (lv' := [(6, (0, ((b : Nat) : Int))), (5, (0, (cntM h mk ld mo kk b))), (0, (2, ((193 : Nat) : Int))), (1, (0, (mk))), (2, (0, (ld))), (3, (0, (mo))), (4, (0, (kk)))]) (st' := [(0, ((5 : Nat) : Int)), (0, ((306 : Nat) : Int))]) (h' := h) (o231_11 hB) rfl ?_
        refine w_pl (pc' := 23) (lv' := [(6, (0, ((b : Nat) : Int))), (5, (0, (cntM h mk ld mo kk b))), (0, (2, ((193 : Nat) : Int))), (1, (0, (mk))), (2, (0, (ld))), (3, (0, (mo))), (4, (0, (kk)))]) (st' := [(0, ((b : Nat) : Int)), (0, ((5 : Nat) : Int)), (0, ((306 : Nat) : Int))]) (h' := h) (o231_12 hB) rfl ?_
        refine w_imul (z := (((5 * b) : Nat) : Int)) (pc' := 24) (o231_13 hB) rfl (w32_e (by omega) (by omega)) ?_
        refine w_iadd (z := (((306 + (5 * b)) : Nat) : Int)) (pc' := 25) (o231_14 hB) rfl (w32_e (by omega) (by omega)) ?_
        refine w_st (tg := 0) (j := 7) (len := 2) (pc' := 27) (lv' := [(7, (0, (((306 + (5 * b)) : Nat) : Int))), (6, (0, ((b : Nat) : Int))), (5, (0, (cntM h mk ld mo kk b))), (0, (2, ((193 : Nat) : Int))), (1, (0, (mk))), (2, (0, (ld))), (3, (0, (mo))), (4, (0, (kk)))]) (o231_15 hB) rfl rfl ml231 (by decide) rfl ?_
        refine w_pl (pc' := 29) (lv' := [(7, (0, (((306 + (5 * b)) : Nat) : Int))), (6, (0, ((b : Nat) : Int))), (5, (0, (cntM h mk ld mo kk b))), (0, (2, ((193 : Nat) : Int))), (1, (0, (mk))), (2, (0, (ld))), (3, (0, (mo))), (4, (0, (kk)))]) (st' := [(0, (cntM h mk ld mo kk b))]) (h' := h) (o231_16 hB) rfl ?_
        refine w_pl (pc' := 30) (lv' := [(7, (0, (((306 + (5 * b)) : Nat) : Int))), (6, (0, ((b : Nat) : Int))), (5, (0, (cntM h mk ld mo kk b))), (0, (2, ((193 : Nat) : Int))), (1, (0, (mk))), (2, (0, (ld))), (3, (0, (mo))), (4, (0, (kk)))]) (st' := [(2, ((193 : Nat) : Int)), (0, (cntM h mk ld mo kk b))]) (h' := h) (o231_17 hB) rfl ?_
        refine w_getf (A := 193) (t := 2) (z := ((194 : Nat) : Int)) (pc' := 33) (o231_18 hB) rfl (by decide +kernel) (hR (193, 0, 194) (by decide)) ?_
        refine w_pl (pc' := 35) (lv' := [(7, (0, (((306 + (5 * b)) : Nat) : Int))), (6, (0, ((b : Nat) : Int))), (5, (0, (cntM h mk ld mo kk b))), (0, (2, ((193 : Nat) : Int))), (1, (0, (mk))), (2, (0, (ld))), (3, (0, (mo))), (4, (0, (kk)))]) (st' := [(0, (((306 + (5 * b)) : Nat) : Int)), (2, ((194 : Nat) : Int)), (0, (cntM h mk ld mo kk b))]) (h' := h) (o231_19 hB) rfl ?_
        have f114 := ty_194_s306 ht (j := (306 + (5 * b))) (r := b) (by omega) (by omega)
        refine w_iald (A := 194) (i := (306 + (5 * b))) (n := 1984) (z := (h 194 (306 + (5 * b)))) (pc' := 36) (o231_20 hB) rfl (by decide +kernel) (by omega) rfl ?_
        refine w_pl (pc' := 37) (lv' := [(7, (0, (((306 + (5 * b)) : Nat) : Int))), (6, (0, ((b : Nat) : Int))), (5, (0, (cntM h mk ld mo kk b))), (0, (2, ((193 : Nat) : Int))), (1, (0, (mk))), (2, (0, (ld))), (3, (0, (mo))), (4, (0, (kk)))]) (st' := [(0, (mk)), (0, (h 194 (306 + (5 * b)))), (0, (cntM h mk ld mo kk b))]) (h' := h) (o231_21 hB) rfl ?_
        refine w_icmp (pt := 92) (pf := 40) (o231_22 hB) (by decide) rfl (fun e => ?_) (fun e => ?_)
        · have f115 : ((h 194 (306 + (5 * b))) ≠ (mk)) := e
          refine w_pl (pc' := 93) (lv' := [(7, (0, (((306 + (5 * b)) : Nat) : Int))), (6, (0, ((b : Nat) : Int))), (5, (0, (cntM h mk ld mo kk b))), (0, (2, ((193 : Nat) : Int))), (1, (0, (mk))), (2, (0, (ld))), (3, (0, (mo))), (4, (0, (kk)))]) (st' := [(0, ((0 : Nat) : Int)), (0, (cntM h mk ld mo kk b))]) (h' := h) (o231_54 hB) rfl ?_
          refine w_iadd (z := ((cntM h mk ld mo kk b) + ((0 : Nat) : Int))) (pc' := 94) (o231_55 hB) rfl (w32_e (by omega) (by omega)) ?_
          refine w_st (tg := 0) (j := 5) (len := 2) (pc' := 96) (lv' := [(5, (0, ((cntM h mk ld mo kk b) + ((0 : Nat) : Int)))), (7, (0, (((306 + (5 * b)) : Nat) : Int))), (6, (0, ((b : Nat) : Int))), (0, (2, ((193 : Nat) : Int))), (1, (0, (mk))), (2, (0, (ld))), (3, (0, (mo))), (4, (0, (kk)))]) (o231_56 hB) rfl rfl ml231 (by decide) rfl ?_
          refine w_iinc (x := ((b : Nat) : Int)) (z := (((b + 1) : Nat) : Int)) (pc' := 99) (lv' := [(6, (0, (((b + 1) : Nat) : Int))), (5, (0, ((cntM h mk ld mo kk b) + ((0 : Nat) : Int)))), (7, (0, (((306 + (5 * b)) : Nat) : Int))), (0, (2, ((193 : Nat) : Int))), (1, (0, (mk))), (2, (0, (ld))), (3, (0, (mo))), (4, (0, (kk)))]) (o231_57 hB) rfl rfl ml231 (by decide) (w32_e (by omega) (by omega)) rfl ?_
          refine w_goto (pt := 6) (o231_58 hB) (by decide) ?_
          refine w_sub (lv' := [(6, (0, (((b + 1) : Nat) : Int))), (5, (0, ((cntM h mk ld mo kk b) + ((0 : Nat) : Int)))), (0, (2, ((193 : Nat) : Int))), (1, (0, (mk))), (2, (0, (ld))), (3, (0, (mo))), (4, (0, (kk)))]) (List.forall_mem_cons.mpr ⟨(List.Mem.head _), (List.forall_mem_cons.mpr ⟨(List.Mem.tail _ (List.Mem.head _)), (List.forall_mem_cons.mpr ⟨(List.Mem.tail _ (List.Mem.tail _ (List.Mem.tail _ (List.Mem.head _)))), (List.forall_mem_cons.mpr ⟨(List.Mem.tail _ (List.Mem.tail _ (List.Mem.tail _ (List.Mem.tail _ (List.Mem.head _))))), (List.forall_mem_cons.mpr ⟨(List.Mem.tail _ (List.Mem.tail _ (List.Mem.tail _ (List.Mem.tail _ (List.Mem.tail _ (List.Mem.head _)))))), (List.forall_mem_cons.mpr ⟨(List.Mem.tail _ (List.Mem.tail _ (List.Mem.tail _ (List.Mem.tail _ (List.Mem.tail _ (List.Mem.tail _ (List.Mem.head _))))))), (List.forall_mem_cons.mpr ⟨(List.Mem.tail _ (List.Mem.tail _ (List.Mem.tail _ (List.Mem.tail _ (List.Mem.tail _ (List.Mem.tail _ (List.Mem.tail _ (List.Mem.head _)))))))), (fun _ hx => by cases hx)⟩)⟩)⟩)⟩)⟩)⟩)⟩) ?_
          have e1 : ((cntM h mk ld mo kk b) + ((0 : Nat) : Int)) = cntM h mk ld mo kk (b + 1) := by
            simp only [cntM]
            rw [if_neg (by omega)]; omega
          rw [e1]
          exact ih (b + 1) (by omega)
        · have f116 : ¬ ((h 194 (306 + (5 * b))) ≠ (mk)) := e
          refine w_pl (pc' := 41) (lv' := [(7, (0, (((306 + (5 * b)) : Nat) : Int))), (6, (0, ((b : Nat) : Int))), (5, (0, (cntM h mk ld mo kk b))), (0, (2, ((193 : Nat) : Int))), (1, (0, (mk))), (2, (0, (ld))), (3, (0, (mo))), (4, (0, (kk)))]) (st' := [(2, ((193 : Nat) : Int)), (0, (cntM h mk ld mo kk b))]) (h' := h) (o231_23 hB) rfl ?_
          refine w_getf (A := 193) (t := 2) (z := ((194 : Nat) : Int)) (pc' := 44) (o231_24 hB) rfl (by decide +kernel) (hR (193, 0, 194) (by decide)) ?_
          refine w_pl (pc' := 46) (lv' := [(7, (0, (((306 + (5 * b)) : Nat) : Int))), (6, (0, ((b : Nat) : Int))), (5, (0, (cntM h mk ld mo kk b))), (0, (2, ((193 : Nat) : Int))), (1, (0, (mk))), (2, (0, (ld))), (3, (0, (mo))), (4, (0, (kk)))]) (st' := [(0, (((306 + (5 * b)) : Nat) : Int)), (2, ((194 : Nat) : Int)), (0, (cntM h mk ld mo kk b))]) (h' := h) (o231_25 hB) rfl ?_
          refine w_pl (pc' := 47) (lv' := [(7, (0, (((306 + (5 * b)) : Nat) : Int))), (6, (0, ((b : Nat) : Int))), (5, (0, (cntM h mk ld mo kk b))), (0, (2, ((193 : Nat) : Int))), (1, (0, (mk))), (2, (0, (ld))), (3, (0, (mo))), (4, (0, (kk)))]) (st' := [(0, ((1 : Nat) : Int)), (0, (((306 + (5 * b)) : Nat) : Int)), (2, ((194 : Nat) : Int)), (0, (cntM h mk ld mo kk b))]) (h' := h) (o231_26 hB) rfl ?_
          refine w_iadd (z := ((((306 + (5 * b)) + 1) : Nat) : Int)) (pc' := 48) (o231_27 hB) rfl (w32_e (by omega) (by omega)) ?_
          have f117 := ty_194_s307 ht (j := ((306 + (5 * b)) + 1)) (r := b) (by omega) (by omega)
          refine w_iald (A := 194) (i := ((306 + (5 * b)) + 1)) (n := 1984) (z := (h 194 ((306 + (5 * b)) + 1))) (pc' := 49) (o231_28 hB) rfl (by decide +kernel) (by omega) rfl ?_
          refine w_pl (pc' := 50) (lv' := [(7, (0, (((306 + (5 * b)) : Nat) : Int))), (6, (0, ((b : Nat) : Int))), (5, (0, (cntM h mk ld mo kk b))), (0, (2, ((193 : Nat) : Int))), (1, (0, (mk))), (2, (0, (ld))), (3, (0, (mo))), (4, (0, (kk)))]) (st' := [(0, (ld)), (0, (h 194 ((306 + (5 * b)) + 1))), (0, (cntM h mk ld mo kk b))]) (h' := h) (o231_29 hB) rfl ?_
          refine w_icmp (pt := 92) (pf := 53) (o231_30 hB) (by decide) rfl (fun e => ?_) (fun e => ?_)
          · have f118 : ((h 194 ((306 + (5 * b)) + 1)) ≠ (ld)) := e
            refine w_pl (pc' := 93) (lv' := [(7, (0, (((306 + (5 * b)) : Nat) : Int))), (6, (0, ((b : Nat) : Int))), (5, (0, (cntM h mk ld mo kk b))), (0, (2, ((193 : Nat) : Int))), (1, (0, (mk))), (2, (0, (ld))), (3, (0, (mo))), (4, (0, (kk)))]) (st' := [(0, ((0 : Nat) : Int)), (0, (cntM h mk ld mo kk b))]) (h' := h) (o231_54 hB) rfl ?_
            refine w_iadd (z := ((cntM h mk ld mo kk b) + ((0 : Nat) : Int))) (pc' := 94) (o231_55 hB) rfl (w32_e (by omega) (by omega)) ?_
            refine w_st (tg := 0) (j := 5) (len := 2) (pc' := 96) (lv' := [(5, (0, ((cntM h mk ld mo kk b) + ((0 : Nat) : Int)))), (7, (0, (((306 + (5 * b)) : Nat) : Int))), (6, (0, ((b : Nat) : Int))), (0, (2, ((193 : Nat) : Int))), (1, (0, (mk))), (2, (0, (ld))), (3, (0, (mo))), (4, (0, (kk)))]) (o231_56 hB) rfl rfl ml231 (by decide) rfl ?_
            refine w_iinc (x := ((b : Nat) : Int)) (z := (((b + 1) : Nat) : Int)) (pc' := 99) (lv' := [(6, (0, (((b + 1) : Nat) : Int))), (5, (0, ((cntM h mk ld mo kk b) + ((0 : Nat) : Int)))), (7, (0, (((306 + (5 * b)) : Nat) : Int))), (0, (2, ((193 : Nat) : Int))), (1, (0, (mk))), (2, (0, (ld))), (3, (0, (mo))), (4, (0, (kk)))]) (o231_57 hB) rfl rfl ml231 (by decide) (w32_e (by omega) (by omega)) rfl ?_
            refine w_goto (pt := 6) (o231_58 hB) (by decide) ?_
            refine w_sub (lv' := [(6, (0, (((b + 1) : Nat) : Int))), (5, (0, ((cntM h mk ld mo kk b) + ((0 : Nat) : Int)))), (0, (2, ((193 : Nat) : Int))), (1, (0, (mk))), (2, (0, (ld))), (3, (0, (mo))), (4, (0, (kk)))]) (List.forall_mem_cons.mpr ⟨(List.Mem.head _), (List.forall_mem_cons.mpr ⟨(List.Mem.tail _ (List.Mem.head _)), (List.forall_mem_cons.mpr ⟨(List.Mem.tail _ (List.Mem.tail _ (List.Mem.tail _ (List.Mem.head _)))), (List.forall_mem_cons.mpr ⟨(List.Mem.tail _ (List.Mem.tail _ (List.Mem.tail _ (List.Mem.tail _ (List.Mem.head _))))), (List.forall_mem_cons.mpr ⟨(List.Mem.tail _ (List.Mem.tail _ (List.Mem.tail _ (List.Mem.tail _ (List.Mem.tail _ (List.Mem.head _)))))), (List.forall_mem_cons.mpr ⟨(List.Mem.tail _ (List.Mem.tail _ (List.Mem.tail _ (List.Mem.tail _ (List.Mem.tail _ (List.Mem.tail _ (List.Mem.head _))))))), (List.forall_mem_cons.mpr ⟨(List.Mem.tail _ (List.Mem.tail _ (List.Mem.tail _ (List.Mem.tail _ (List.Mem.tail _ (List.Mem.tail _ (List.Mem.tail _ (List.Mem.head _)))))))), (fun _ hx => by cases hx)⟩)⟩)⟩)⟩)⟩)⟩)⟩) ?_
            have e1 : ((cntM h mk ld mo kk b) + ((0 : Nat) : Int)) = cntM h mk ld mo kk (b + 1) := by
              simp only [cntM]
              rw [if_neg (by omega)]; omega
            rw [e1]
            exact ih (b + 1) (by omega)
          · have f119 : ¬ ((h 194 ((306 + (5 * b)) + 1)) ≠ (ld)) := e
            refine w_pl (pc' := 54) (lv' := [(7, (0, (((306 + (5 * b)) : Nat) : Int))), (6, (0, ((b : Nat) : Int))), (5, (0, (cntM h mk ld mo kk b))), (0, (2, ((193 : Nat) : Int))), (1, (0, (mk))), (2, (0, (ld))), (3, (0, (mo))), (4, (0, (kk)))]) (st' := [(2, ((193 : Nat) : Int)), (0, (cntM h mk ld mo kk b))]) (h' := h) (o231_31 hB) rfl ?_
            refine w_getf (A := 193) (t := 2) (z := ((194 : Nat) : Int)) (pc' := 57) (o231_32 hB) rfl (by decide +kernel) (hR (193, 0, 194) (by decide)) ?_
            refine w_pl (pc' := 59) (lv' := [(7, (0, (((306 + (5 * b)) : Nat) : Int))), (6, (0, ((b : Nat) : Int))), (5, (0, (cntM h mk ld mo kk b))), (0, (2, ((193 : Nat) : Int))), (1, (0, (mk))), (2, (0, (ld))), (3, (0, (mo))), (4, (0, (kk)))]) (st' := [(0, (((306 + (5 * b)) : Nat) : Int)), (2, ((194 : Nat) : Int)), (0, (cntM h mk ld mo kk b))]) (h' := h) (o231_33 hB) rfl ?_
            refine w_pl (pc' := 60) (lv' := [(7, (0, (((306 + (5 * b)) : Nat) : Int))), (6, (0, ((b : Nat) : Int))), (5, (0, (cntM h mk ld mo kk b))), (0, (2, ((193 : Nat) : Int))), (1, (0, (mk))), (2, (0, (ld))), (3, (0, (mo))), (4, (0, (kk)))]) (st' := [(0, ((2 : Nat) : Int)), (0, (((306 + (5 * b)) : Nat) : Int)), (2, ((194 : Nat) : Int)), (0, (cntM h mk ld mo kk b))]) (h' := h) (o231_34 hB) rfl ?_
            refine w_iadd (z := ((((306 + (5 * b)) + 2) : Nat) : Int)) (pc' := 61) (o231_35 hB) rfl (w32_e (by omega) (by omega)) ?_
            have f120 := ty_194_s308 ht (j := ((306 + (5 * b)) + 2)) (r := b) (by omega) (by omega)
            refine w_iald (A := 194) (i := ((306 + (5 * b)) + 2)) (n := 1984) (z := (h 194 ((306 + (5 * b)) + 2))) (pc' := 62) (o231_36 hB) rfl (by decide +kernel) (by omega) rfl ?_
            refine w_pl (pc' := 63) (lv' := [(7, (0, (((306 + (5 * b)) : Nat) : Int))), (6, (0, ((b : Nat) : Int))), (5, (0, (cntM h mk ld mo kk b))), (0, (2, ((193 : Nat) : Int))), (1, (0, (mk))), (2, (0, (ld))), (3, (0, (mo))), (4, (0, (kk)))]) (st' := [(0, (mo)), (0, (h 194 ((306 + (5 * b)) + 2))), (0, (cntM h mk ld mo kk b))]) (h' := h) (o231_37 hB) rfl ?_
            refine w_icmp (pt := 92) (pf := 66) (o231_38 hB) (by decide) rfl (fun e => ?_) (fun e => ?_)
            · have f121 : ((h 194 ((306 + (5 * b)) + 2)) ≠ (mo)) := e
              refine w_pl (pc' := 93) (lv' := [(7, (0, (((306 + (5 * b)) : Nat) : Int))), (6, (0, ((b : Nat) : Int))), (5, (0, (cntM h mk ld mo kk b))), (0, (2, ((193 : Nat) : Int))), (1, (0, (mk))), (2, (0, (ld))), (3, (0, (mo))), (4, (0, (kk)))]) (st' := [(0, ((0 : Nat) : Int)), (0, (cntM h mk ld mo kk b))]) (h' := h) (o231_54 hB) rfl ?_
              refine w_iadd (z := ((cntM h mk ld mo kk b) + ((0 : Nat) : Int))) (pc' := 94) (o231_55 hB) rfl (w32_e (by omega) (by omega)) ?_
              refine w_st (tg := 0) (j := 5) (len := 2) (pc' := 96) (lv' := [(5, (0, ((cntM h mk ld mo kk b) + ((0 : Nat) : Int)))), (7, (0, (((306 + (5 * b)) : Nat) : Int))), (6, (0, ((b : Nat) : Int))), (0, (2, ((193 : Nat) : Int))), (1, (0, (mk))), (2, (0, (ld))), (3, (0, (mo))), (4, (0, (kk)))]) (o231_56 hB) rfl rfl ml231 (by decide) rfl ?_
              refine w_iinc (x := ((b : Nat) : Int)) (z := (((b + 1) : Nat) : Int)) (pc' := 99) (lv' := [(6, (0, (((b + 1) : Nat) : Int))), (5, (0, ((cntM h mk ld mo kk b) + ((0 : Nat) : Int)))), (7, (0, (((306 + (5 * b)) : Nat) : Int))), (0, (2, ((193 : Nat) : Int))), (1, (0, (mk))), (2, (0, (ld))), (3, (0, (mo))), (4, (0, (kk)))]) (o231_57 hB) rfl rfl ml231 (by decide) (w32_e (by omega) (by omega)) rfl ?_
              refine w_goto (pt := 6) (o231_58 hB) (by decide) ?_
              refine w_sub (lv' := [(6, (0, (((b + 1) : Nat) : Int))), (5, (0, ((cntM h mk ld mo kk b) + ((0 : Nat) : Int)))), (0, (2, ((193 : Nat) : Int))), (1, (0, (mk))), (2, (0, (ld))), (3, (0, (mo))), (4, (0, (kk)))]) (List.forall_mem_cons.mpr ⟨(List.Mem.head _), (List.forall_mem_cons.mpr ⟨(List.Mem.tail _ (List.Mem.head _)), (List.forall_mem_cons.mpr ⟨(List.Mem.tail _ (List.Mem.tail _ (List.Mem.tail _ (List.Mem.head _)))), (List.forall_mem_cons.mpr ⟨(List.Mem.tail _ (List.Mem.tail _ (List.Mem.tail _ (List.Mem.tail _ (List.Mem.head _))))), (List.forall_mem_cons.mpr ⟨(List.Mem.tail _ (List.Mem.tail _ (List.Mem.tail _ (List.Mem.tail _ (List.Mem.tail _ (List.Mem.head _)))))), (List.forall_mem_cons.mpr ⟨(List.Mem.tail _ (List.Mem.tail _ (List.Mem.tail _ (List.Mem.tail _ (List.Mem.tail _ (List.Mem.tail _ (List.Mem.head _))))))), (List.forall_mem_cons.mpr ⟨(List.Mem.tail _ (List.Mem.tail _ (List.Mem.tail _ (List.Mem.tail _ (List.Mem.tail _ (List.Mem.tail _ (List.Mem.tail _ (List.Mem.head _)))))))), (fun _ hx => by cases hx)⟩)⟩)⟩)⟩)⟩)⟩)⟩) ?_
              have e1 : ((cntM h mk ld mo kk b) + ((0 : Nat) : Int)) = cntM h mk ld mo kk (b + 1) := by
                simp only [cntM]
                rw [if_neg (by omega)]; omega
              rw [e1]
              exact ih (b + 1) (by omega)
            · have f122 : ¬ ((h 194 ((306 + (5 * b)) + 2)) ≠ (mo)) := e
              refine w_pl (pc' := 67) (lv' := [(7, (0, (((306 + (5 * b)) : Nat) : Int))), (6, (0, ((b : Nat) : Int))), (5, (0, (cntM h mk ld mo kk b))), (0, (2, ((193 : Nat) : Int))), (1, (0, (mk))), (2, (0, (ld))), (3, (0, (mo))), (4, (0, (kk)))]) (st' := [(2, ((193 : Nat) : Int)), (0, (cntM h mk ld mo kk b))]) (h' := h) (o231_39 hB) rfl ?_
              refine w_getf (A := 193) (t := 2) (z := ((194 : Nat) : Int)) (pc' := 70) (o231_40 hB) rfl (by decide +kernel) (hR (193, 0, 194) (by decide)) ?_
              refine w_pl (pc' := 72) (lv' := [(7, (0, (((306 + (5 * b)) : Nat) : Int))), (6, (0, ((b : Nat) : Int))), (5, (0, (cntM h mk ld mo kk b))), (0, (2, ((193 : Nat) : Int))), (1, (0, (mk))), (2, (0, (ld))), (3, (0, (mo))), (4, (0, (kk)))]) (st' := [(0, (((306 + (5 * b)) : Nat) : Int)), (2, ((194 : Nat) : Int)), (0, (cntM h mk ld mo kk b))]) (h' := h) (o231_41 hB) rfl ?_
              refine w_pl (pc' := 73) (lv' := [(7, (0, (((306 + (5 * b)) : Nat) : Int))), (6, (0, ((b : Nat) : Int))), (5, (0, (cntM h mk ld mo kk b))), (0, (2, ((193 : Nat) : Int))), (1, (0, (mk))), (2, (0, (ld))), (3, (0, (mo))), (4, (0, (kk)))]) (st' := [(0, ((4 : Nat) : Int)), (0, (((306 + (5 * b)) : Nat) : Int)), (2, ((194 : Nat) : Int)), (0, (cntM h mk ld mo kk b))]) (h' := h) (o231_42 hB) rfl ?_
              refine w_iadd (z := ((((306 + (5 * b)) + 4) : Nat) : Int)) (pc' := 74) (o231_43 hB) rfl (w32_e (by omega) (by omega)) ?_
              have f123 := ty_194_s310 ht (j := ((306 + (5 * b)) + 4)) (r := b) (by omega) (by omega)
              refine w_iald (A := 194) (i := ((306 + (5 * b)) + 4)) (n := 1984) (z := (h 194 ((306 + (5 * b)) + 4))) (pc' := 75) (o231_44 hB) rfl (by decide +kernel) (by omega) rfl ?_
              refine w_pl (pc' := 77) (lv' := [(7, (0, (((306 + (5 * b)) : Nat) : Int))), (6, (0, ((b : Nat) : Int))), (5, (0, (cntM h mk ld mo kk b))), (0, (2, ((193 : Nat) : Int))), (1, (0, (mk))), (2, (0, (ld))), (3, (0, (mo))), (4, (0, (kk)))]) (st' := [(0, (kk)), (0, (h 194 ((306 + (5 * b)) + 4))), (0, (cntM h mk ld mo kk b))]) (h' := h) (o231_45 hB) rfl ?_
              refine w_icmp (pt := 92) (pf := 80) (o231_46 hB) (by decide) rfl (fun e => ?_) (fun e => ?_)
              · have f124 : ((kk) < (h 194 ((306 + (5 * b)) + 4))) := e
                refine w_pl (pc' := 93) (lv' := [(7, (0, (((306 + (5 * b)) : Nat) : Int))), (6, (0, ((b : Nat) : Int))), (5, (0, (cntM h mk ld mo kk b))), (0, (2, ((193 : Nat) : Int))), (1, (0, (mk))), (2, (0, (ld))), (3, (0, (mo))), (4, (0, (kk)))]) (st' := [(0, ((0 : Nat) : Int)), (0, (cntM h mk ld mo kk b))]) (h' := h) (o231_54 hB) rfl ?_
                refine w_iadd (z := ((cntM h mk ld mo kk b) + ((0 : Nat) : Int))) (pc' := 94) (o231_55 hB) rfl (w32_e (by omega) (by omega)) ?_
                refine w_st (tg := 0) (j := 5) (len := 2) (pc' := 96) (lv' := [(5, (0, ((cntM h mk ld mo kk b) + ((0 : Nat) : Int)))), (7, (0, (((306 + (5 * b)) : Nat) : Int))), (6, (0, ((b : Nat) : Int))), (0, (2, ((193 : Nat) : Int))), (1, (0, (mk))), (2, (0, (ld))), (3, (0, (mo))), (4, (0, (kk)))]) (o231_56 hB) rfl rfl ml231 (by decide) rfl ?_
                refine w_iinc (x := ((b : Nat) : Int)) (z := (((b + 1) : Nat) : Int)) (pc' := 99) (lv' := [(6, (0, (((b + 1) : Nat) : Int))), (5, (0, ((cntM h mk ld mo kk b) + ((0 : Nat) : Int)))), (7, (0, (((306 + (5 * b)) : Nat) : Int))), (0, (2, ((193 : Nat) : Int))), (1, (0, (mk))), (2, (0, (ld))), (3, (0, (mo))), (4, (0, (kk)))]) (o231_57 hB) rfl rfl ml231 (by decide) (w32_e (by omega) (by omega)) rfl ?_
                refine w_goto (pt := 6) (o231_58 hB) (by decide) ?_
                refine w_sub (lv' := [(6, (0, (((b + 1) : Nat) : Int))), (5, (0, ((cntM h mk ld mo kk b) + ((0 : Nat) : Int)))), (0, (2, ((193 : Nat) : Int))), (1, (0, (mk))), (2, (0, (ld))), (3, (0, (mo))), (4, (0, (kk)))]) (List.forall_mem_cons.mpr ⟨(List.Mem.head _), (List.forall_mem_cons.mpr ⟨(List.Mem.tail _ (List.Mem.head _)), (List.forall_mem_cons.mpr ⟨(List.Mem.tail _ (List.Mem.tail _ (List.Mem.tail _ (List.Mem.head _)))), (List.forall_mem_cons.mpr ⟨(List.Mem.tail _ (List.Mem.tail _ (List.Mem.tail _ (List.Mem.tail _ (List.Mem.head _))))), (List.forall_mem_cons.mpr ⟨(List.Mem.tail _ (List.Mem.tail _ (List.Mem.tail _ (List.Mem.tail _ (List.Mem.tail _ (List.Mem.head _)))))), (List.forall_mem_cons.mpr ⟨(List.Mem.tail _ (List.Mem.tail _ (List.Mem.tail _ (List.Mem.tail _ (List.Mem.tail _ (List.Mem.tail _ (List.Mem.head _))))))), (List.forall_mem_cons.mpr ⟨(List.Mem.tail _ (List.Mem.tail _ (List.Mem.tail _ (List.Mem.tail _ (List.Mem.tail _ (List.Mem.tail _ (List.Mem.tail _ (List.Mem.head _)))))))), (fun _ hx => by cases hx)⟩)⟩)⟩)⟩)⟩)⟩)⟩) ?_
                have e1 : ((cntM h mk ld mo kk b) + ((0 : Nat) : Int)) = cntM h mk ld mo kk (b + 1) := by
                  simp only [cntM]
                  rw [if_neg (by omega)]; omega
                rw [e1]
                exact ih (b + 1) (by omega)
              · have f125 : ¬ ((kk) < (h 194 ((306 + (5 * b)) + 4))) := e
                refine w_pl (pc' := 81) (lv' := [(7, (0, (((306 + (5 * b)) : Nat) : Int))), (6, (0, ((b : Nat) : Int))), (5, (0, (cntM h mk ld mo kk b))), (0, (2, ((193 : Nat) : Int))), (1, (0, (mk))), (2, (0, (ld))), (3, (0, (mo))), (4, (0, (kk)))]) (st' := [(2, ((193 : Nat) : Int)), (0, (cntM h mk ld mo kk b))]) (h' := h) (o231_47 hB) rfl ?_
                refine w_getf (A := 193) (t := 2) (z := ((194 : Nat) : Int)) (pc' := 84) (o231_48 hB) rfl (by decide +kernel) (hR (193, 0, 194) (by decide)) ?_
                refine w_pl (pc' := 86) (lv' := [(7, (0, (((306 + (5 * b)) : Nat) : Int))), (6, (0, ((b : Nat) : Int))), (5, (0, (cntM h mk ld mo kk b))), (0, (2, ((193 : Nat) : Int))), (1, (0, (mk))), (2, (0, (ld))), (3, (0, (mo))), (4, (0, (kk)))]) (st' := [(0, (((306 + (5 * b)) : Nat) : Int)), (2, ((194 : Nat) : Int)), (0, (cntM h mk ld mo kk b))]) (h' := h) (o231_49 hB) rfl ?_
                refine w_pl (pc' := 87) (lv' := [(7, (0, (((306 + (5 * b)) : Nat) : Int))), (6, (0, ((b : Nat) : Int))), (5, (0, (cntM h mk ld mo kk b))), (0, (2, ((193 : Nat) : Int))), (1, (0, (mk))), (2, (0, (ld))), (3, (0, (mo))), (4, (0, (kk)))]) (st' := [(0, ((3 : Nat) : Int)), (0, (((306 + (5 * b)) : Nat) : Int)), (2, ((194 : Nat) : Int)), (0, (cntM h mk ld mo kk b))]) (h' := h) (o231_50 hB) rfl ?_
                refine w_iadd (z := ((((306 + (5 * b)) + 3) : Nat) : Int)) (pc' := 88) (o231_51 hB) rfl (w32_e (by omega) (by omega)) ?_
                have f126 := ty_194_s309 ht (j := ((306 + (5 * b)) + 3)) (r := b) (by omega) (by omega)
                refine w_iald (A := 194) (i := ((306 + (5 * b)) + 3)) (n := 1984) (z := (h 194 ((306 + (5 * b)) + 3))) (pc' := 89) (o231_52 hB) rfl (by decide +kernel) (by omega) rfl ?_
                refine w_goto (pt := 93) (o231_53 hB) (by decide) ?_
                refine w_iadd (z := ((cntM h mk ld mo kk b) + (h 194 ((306 + (5 * b)) + 3)))) (pc' := 94) (o231_55 hB) rfl (w32_e (by omega) (by omega)) ?_
                refine w_st (tg := 0) (j := 5) (len := 2) (pc' := 96) (lv' := [(5, (0, ((cntM h mk ld mo kk b) + (h 194 ((306 + (5 * b)) + 3))))), (7, (0, (((306 + (5 * b)) : Nat) : Int))), (6, (0, ((b : Nat) : Int))), (0, (2, ((193 : Nat) : Int))), (1, (0, (mk))), (2, (0, (ld))), (3, (0, (mo))), (4, (0, (kk)))]) (o231_56 hB) rfl rfl ml231 (by decide) rfl ?_
                refine w_iinc (x := ((b : Nat) : Int)) (z := (((b + 1) : Nat) : Int)) (pc' := 99) (lv' := [(6, (0, (((b + 1) : Nat) : Int))), (5, (0, ((cntM h mk ld mo kk b) + (h 194 ((306 + (5 * b)) + 3))))), (7, (0, (((306 + (5 * b)) : Nat) : Int))), (0, (2, ((193 : Nat) : Int))), (1, (0, (mk))), (2, (0, (ld))), (3, (0, (mo))), (4, (0, (kk)))]) (o231_57 hB) rfl rfl ml231 (by decide) (w32_e (by omega) (by omega)) rfl ?_
                refine w_goto (pt := 6) (o231_58 hB) (by decide) ?_
                refine w_sub (lv' := [(6, (0, (((b + 1) : Nat) : Int))), (5, (0, ((cntM h mk ld mo kk b) + (h 194 ((306 + (5 * b)) + 3))))), (0, (2, ((193 : Nat) : Int))), (1, (0, (mk))), (2, (0, (ld))), (3, (0, (mo))), (4, (0, (kk)))]) (List.forall_mem_cons.mpr ⟨(List.Mem.head _), (List.forall_mem_cons.mpr ⟨(List.Mem.tail _ (List.Mem.head _)), (List.forall_mem_cons.mpr ⟨(List.Mem.tail _ (List.Mem.tail _ (List.Mem.tail _ (List.Mem.head _)))), (List.forall_mem_cons.mpr ⟨(List.Mem.tail _ (List.Mem.tail _ (List.Mem.tail _ (List.Mem.tail _ (List.Mem.head _))))), (List.forall_mem_cons.mpr ⟨(List.Mem.tail _ (List.Mem.tail _ (List.Mem.tail _ (List.Mem.tail _ (List.Mem.tail _ (List.Mem.head _)))))), (List.forall_mem_cons.mpr ⟨(List.Mem.tail _ (List.Mem.tail _ (List.Mem.tail _ (List.Mem.tail _ (List.Mem.tail _ (List.Mem.tail _ (List.Mem.head _))))))), (List.forall_mem_cons.mpr ⟨(List.Mem.tail _ (List.Mem.tail _ (List.Mem.tail _ (List.Mem.tail _ (List.Mem.tail _ (List.Mem.tail _ (List.Mem.tail _ (List.Mem.head _)))))))), (fun _ hx => by cases hx)⟩)⟩)⟩)⟩)⟩)⟩)⟩) ?_
                have e1 : ((cntM h mk ld mo kk b) + (h 194 ((306 + (5 * b)) + 3))) = cntM h mk ld mo kk (b + 1) := by
                  simp only [cntM]
                  rw [if_pos ⟨by omega, by omega, by omega, by omega⟩]
                rw [e1]
                exact ih (b + 1) (by omega)
  refine mh_go hB mg231 ml231 (Nat.le_of_ble_eq_true rfl) ?_
  show HW g l d 231 _ _ 0 [(0, (2, ((193 : Nat) : Int))), (1, (0, (mk))), (2, (0, (ld))), (3, (0, (mo))), (4, (0, (kk)))] [] h
  refine w_pl (pc' := 1) (lv' := [(0, (2, ((193 : Nat) : Int))), (1, (0, (mk))), (2, (0, (ld))), (3, (0, (mo))), (4, (0, (kk)))]) (st' := [(0, ((0 : Nat) : Int))]) (h' := h) (o231_0 hB) rfl ?_
  refine w_st (tg := 0) (j := 5) (len := 2) (pc' := 3) (lv' := [(5, (0, ((0 : Nat) : Int))), (0, (2, ((193 : Nat) : Int))), (1, (0, (mk))), (2, (0, (ld))), (3, (0, (mo))), (4, (0, (kk)))]) (o231_1 hB) rfl rfl ml231 (by decide) rfl ?_
  refine w_pl (pc' := 4) (lv' := [(5, (0, ((0 : Nat) : Int))), (0, (2, ((193 : Nat) : Int))), (1, (0, (mk))), (2, (0, (ld))), (3, (0, (mo))), (4, (0, (kk)))]) (st' := [(0, ((0 : Nat) : Int))]) (h' := h) (o231_2 hB) rfl ?_
  refine w_st (tg := 0) (j := 6) (len := 2) (pc' := 6) (lv' := [(6, (0, ((0 : Nat) : Int))), (5, (0, ((0 : Nat) : Int))), (0, (2, ((193 : Nat) : Int))), (1, (0, (mk))), (2, (0, (ld))), (3, (0, (mo))), (4, (0, (kk)))]) (o231_3 hB) rfl rfl ml231 (by decide) rfl ?_
  refine w_sub (lv' := [(6, (0, ((0 : Nat) : Int))), (5, (0, ((0 : Nat) : Int))), (0, (2, ((193 : Nat) : Int))), (1, (0, (mk))), (2, (0, (ld))), (3, (0, (mo))), (4, (0, (kk)))]) (List.forall_mem_cons.mpr ⟨(List.Mem.head _), (List.forall_mem_cons.mpr ⟨(List.Mem.tail _ (List.Mem.head _)), (List.forall_mem_cons.mpr ⟨(List.Mem.tail _ (List.Mem.tail _ (List.Mem.head _))), (List.forall_mem_cons.mpr ⟨(List.Mem.tail _ (List.Mem.tail _ (List.Mem.tail _ (List.Mem.head _)))), (List.forall_mem_cons.mpr ⟨(List.Mem.tail _ (List.Mem.tail _ (List.Mem.tail _ (List.Mem.tail _ (List.Mem.head _))))), (List.forall_mem_cons.mpr ⟨(List.Mem.tail _ (List.Mem.tail _ (List.Mem.tail _ (List.Mem.tail _ (List.Mem.tail _ (List.Mem.head _)))))), (List.forall_mem_cons.mpr ⟨(List.Mem.tail _ (List.Mem.tail _ (List.Mem.tail _ (List.Mem.tail _ (List.Mem.tail _ (List.Mem.tail _ (List.Mem.head _))))))), (fun _ hx => by cases hx)⟩)⟩)⟩)⟩)⟩)⟩)⟩) ?_
  exact loop c 0 (by omega)
theorem m_countB (hB : BytesOK) {g : bG} {l : Launch} {d : Nat} {Q : bQ} {h : bH} {x kk : Int} (ht : TH h) (z_x : in32 x) (z_kk : in32 kk) {c : Nat} (hc : h 17 0 = (c : Int)) (lc : c ≤ 24)  (a0 : ¬ ((0 ≤ x ∧ x / 10000 < 6 ∧ x / 1000 % 10 < 4 ∧ x % 1000 < 240) ∧ 0 ≤ kk ∧ kk ≤ 239) → Q (some (0, (-1))) h) (a1 : (0 ≤ x ∧ x / 10000 < 6 ∧ x / 1000 % 10 < 4 ∧ x % 1000 < 240) ∧ 0 ≤ kk ∧ kk ≤ 239 → Q (some (0, (cntA h x kk c))) h) : MH g l (d + 1) 139 212 212 [(2, ((0 : Nat) : Int)), (0, (x)), (0, (kk))] h Q := by
  have hR := ht.r
  have z0_x := z_x
  have z0_kk := z_kk
  unfold in32 at z0_x
  unfold in32 at z0_kk
  refine mh_go hB mg139 ml139 (Nat.le_of_ble_eq_true rfl) ?_
  show HW g l (d + 1) 139 _ _ 0 [(0, (2, ((0 : Nat) : Int))), (1, (0, (x))), (2, (0, (kk)))] [] h
  refine w_pl (pc' := 1) (lv' := [(0, (2, ((0 : Nat) : Int))), (1, (0, (x))), (2, (0, (kk)))]) (st' := [(0, (x))]) (h' := h) (o139_0 hB) rfl ?_
  refine w_callS (as := [(0, (x))]) (rest := []) (n := 1) (pc' := 4) hB (o139_1 hB) rfl (by decide +kernel) rfl rfl (Nat.le_of_ble_eq_true rfl) (m_isWhereB hB z_x (fun f140 => ?_) (fun f141 => ?_))
  · show HW g l _ 139 _ _ 4 [(0, (2, ((0 : Nat) : Int))), (1, (0, (x))), (2, (0, (kk)))] [(0, ((1 : Nat) : Int))] h
    refine w_ifc (pt := 14) (pf := 7) (o139_2 hB) (by decide) rfl (fun e => ?_) (fun e => ?_)
    · have f142 : (((1 : Nat) : Int) = (0)) := e
      exfalso; omega
    · have f143 : ¬ (((1 : Nat) : Int) = (0)) := e
      refine w_pl (pc' := 8) (lv' := [(0, (2, ((0 : Nat) : Int))), (1, (0, (x))), (2, (0, (kk)))]) (st' := [(0, (kk))]) (h' := h) (o139_3 hB) rfl ?_
      refine w_callS (as := [(0, (kk))]) (rest := []) (n := 1) (pc' := 11) hB (o139_4 hB) rfl (by decide +kernel) rfl rfl (Nat.le_of_ble_eq_true rfl) (m_isMonthB hB (fun f144 => ?_) (fun f145 => ?_))
      · show HW g l _ 139 _ _ 11 [(0, (2, ((0 : Nat) : Int))), (1, (0, (x))), (2, (0, (kk)))] [(0, ((1 : Nat) : Int))] h
        refine w_ifc (pt := 16) (pf := 14) (o139_5 hB) (by decide) rfl (fun e => ?_) (fun e => ?_)
        · have f146 : (((1 : Nat) : Int) ≠ (0)) := e
          refine w_pl (pc' := 17) (lv' := [(0, (2, ((0 : Nat) : Int))), (1, (0, (x))), (2, (0, (kk)))]) (st' := [(2, ((0 : Nat) : Int))]) (h' := h) (o139_8 hB) rfl ?_
          refine w_getf (A := 0) (t := 2) (z := ((1 : Nat) : Int)) (pc' := 20) (o139_9 hB) rfl (by decide +kernel) (hR (0, 0, 1) (by decide)) ?_
          refine w_getf (A := 1) (t := 2) (z := ((17 : Nat) : Int)) (pc' := 23) (o139_10 hB) rfl (by decide +kernel) (hR (1, 2, 17) (by decide)) ?_
          refine w_pl (pc' := 24) (lv' := [(0, (2, ((0 : Nat) : Int))), (1, (0, (x))), (2, (0, (kk)))]) (st' := [(0, (x)), (2, ((17 : Nat) : Int))]) (h' := h) (o139_11 hB) rfl ?_
          refine w_pl (pc' := 25) (lv' := [(0, (2, ((0 : Nat) : Int))), (1, (0, (x))), (2, (0, (kk)))]) (st' := [(0, (kk)), (0, (x)), (2, ((17 : Nat) : Int))]) (h' := h) (o139_12 hB) rfl ?_
          refine w_callV (A := 17) (as := [(0, (x)), (0, (kk))]) (rest := []) (n := 2) (pc' := 28) 9 hB (o139_13 hB) rfl (by decide +kernel) rfl rfl (Nat.le_of_ble_eq_true rfl) (m_countAt hB ht hc lc ?_)
          show HW g l _ 139 _ _ 28 [(0, (2, ((0 : Nat) : Int))), (1, (0, (x))), (2, (0, (kk)))] [(0, (cntA h x kk c))] h
          exact w_iret (o139_14 hB) mr139 (by have := cntA_r ht (w := x) (kk := kk) c lc; unfold in32; omega) (a1 (by omega))
        · have f148 : ¬ (((1 : Nat) : Int) ≠ (0)) := e
          exfalso; omega
      · show HW g l _ 139 _ _ 11 [(0, (2, ((0 : Nat) : Int))), (1, (0, (x))), (2, (0, (kk)))] [(0, ((0 : Nat) : Int))] h
        refine w_ifc (pt := 16) (pf := 14) (o139_5 hB) (by decide) rfl (fun e => ?_) (fun e => ?_)
        · have f149 : (((0 : Nat) : Int) ≠ (0)) := e
          exfalso; omega
        · have f150 : ¬ (((0 : Nat) : Int) ≠ (0)) := e
          refine w_pl (pc' := 15) (lv' := [(0, (2, ((0 : Nat) : Int))), (1, (0, (x))), (2, (0, (kk)))]) (st' := [(0, (-1))]) (h' := h) (o139_6 hB) rfl ?_
          exact w_iret (o139_7 hB) mr139 (by unfold in32; omega) (a0 (by omega))
  · show HW g l _ 139 _ _ 4 [(0, (2, ((0 : Nat) : Int))), (1, (0, (x))), (2, (0, (kk)))] [(0, ((0 : Nat) : Int))] h
    refine w_ifc (pt := 14) (pf := 7) (o139_2 hB) (by decide) rfl (fun e => ?_) (fun e => ?_)
    · have f151 : (((0 : Nat) : Int) = (0)) := e
      refine w_pl (pc' := 15) (lv' := [(0, (2, ((0 : Nat) : Int))), (1, (0, (x))), (2, (0, (kk)))]) (st' := [(0, (-1))]) (h' := h) (o139_6 hB) rfl ?_
      exact w_iret (o139_7 hB) mr139 (by unfold in32; omega) (a0 (by omega))
    · have f152 : ¬ (((0 : Nat) : Int) = (0)) := e
      exfalso; omega
def s_countB (vs : List bV) (h : bH) (r : Option bV) (h' : bH) : Prop := TH h ∧ ∀ (x kk : Int) (c : Nat) , vs = [(2, ((0 : Nat) : Int)), (0, x), (0, kk)] → h 17 0 = (c : Int) → ((¬ ((0 ≤ x ∧ x / 10000 < 6 ∧ x / 1000 % 10 < 4 ∧ x % 1000 < 240) ∧ 0 ≤ kk ∧ kk ≤ 239)) ∧ r = some (0, (-1)) ∧ h = h') ∨ (((0 ≤ x ∧ x / 10000 < 6 ∧ x / 1000 % 10 < 4 ∧ x % 1000 < 240) ∧ 0 ≤ kk ∧ kk ≤ 239) ∧ r = some (0, (cntA h x kk c)) ∧ h = h')
def w_countB : List (Nat × Nat × Nat) := []
def q_countB : aCt := cH 139 1 w_countB 2 0
theorem sk_countB (hB : BytesOK) (g : bG) (l : Launch) : SK g l gT q_countB s_countB := by
  intro d hd ρ h Q hcore hQ
  have hcore : core (PofW gT (some w_countB) false) (gsc g) h ρ h (List.replicate 2 r32, [], [], 212) := hcore
  have ht := hTH hcore
  have y0 := r32_0 hcore 0 (by decide)
  have y1 := r32_0 hcore 1 (by decide)
  have y00 := y0
  unfold in32 at y00
  have y01 := y1
  unfold in32 at y01
  obtain ⟨c, hc, lc⟩ := nat_to ht (a := 17) (j := 0) (n := 24) (by decide +kernel)
  obtain ⟨d', rfl⟩ : ∃ d', d = d' + 1 := ⟨d - 1, by have : 1 ≤ d := hd; omega⟩
  rw [show evS ρ (ctA q_countB) = [(2, ((0 : Nat) : Int)), (0, ρ 0), (0, ρ 1)] from evA2]
  refine m_countB (x := ρ 0) (kk := ρ 1) hB ht y0 y1 hc lc (fun hn => ?_) (fun hn => ?_)
  · refine hQ _ _ (hpost hcore (ht) (fun _ _ _ => rfl) (by unfold in32; omega)) ⟨ht, fun x kk c_c hv e_c => ?_⟩
    have hv := (evA2 (ρ := ρ)).symm.trans hv
    obtain ⟨rfl, rfl⟩ := vsA2 hv
    obtain rfl : c_c = c := by have := e_c.symm.trans hc; omega
    exact Or.inl ⟨hn, rfl, rfl⟩
  · refine hQ _ _ (hpost hcore (ht) (fun _ _ _ => rfl) (by have := cntA_r ht (w := ρ 0) (kk := ρ 1) c lc; unfold in32; omega)) ⟨ht, fun x kk c_c hv e_c => ?_⟩
    have hv := (evA2 (ρ := ρ)).symm.trans hv
    obtain ⟨rfl, rfl⟩ := vsA2 hv
    obtain rfl : c_c = c := by have := e_c.symm.trans hc; omega
    exact Or.inr (⟨hn, rfl, rfl⟩)
theorem m_countM (hB : BytesOK) {g : bG} {l : Launch} {d : Nat} {Q : bQ} {h : bH} {x kk : Int} (ht : TH h) (z_x : in32 x) (z_kk : in32 kk) {c : Nat} (hc : h 194 5 = (c : Int)) (lc : c ≤ 24)  (a0 : ¬ ((0 ≤ x ∧ x / 10000 < 6 ∧ x / 1000 % 10 < 4 ∧ x % 1000 < 240) ∧ 0 ≤ kk ∧ kk ≤ 239) → Q (some (0, (-1))) h) (a1 : (0 ≤ x ∧ x / 10000 < 6 ∧ x / 1000 % 10 < 4 ∧ x % 1000 < 240) ∧ 0 ≤ kk ∧ kk ≤ 239 → Q (some (0, (cntM h (x / 10000) (x / 1000 % 10) (x % 1000) kk c))) h) : MH g l (d + 1 + 1 + 1) 232 212 212 [(2, ((193 : Nat) : Int)), (0, (x)), (0, (kk))] h Q := by
  have hR := ht.r
  have z0_x := z_x
  have z0_kk := z_kk
  unfold in32 at z0_x
  unfold in32 at z0_kk
  refine mh_go hB mg232 ml232 (Nat.le_of_ble_eq_true rfl) ?_
  show HW g l (d + 1 + 1 + 1) 232 _ _ 0 [(0, (2, ((193 : Nat) : Int))), (1, (0, (x))), (2, (0, (kk)))] [] h
  refine w_pl (pc' := 1) (lv' := [(0, (2, ((193 : Nat) : Int))), (1, (0, (x))), (2, (0, (kk)))]) (st' := [(0, (x))]) (h' := h) (o232_0 hB) rfl ?_
  refine w_callS (as := [(0, (x))]) (rest := []) (n := 1) (pc' := 4) hB (o232_1 hB) rfl (by decide +kernel) rfl rfl (Nat.le_of_ble_eq_true rfl) (m_isWhereM hB z_x (fun f166 => ?_) (fun f167 => ?_))
  · show HW g l _ 232 _ _ 4 [(0, (2, ((193 : Nat) : Int))), (1, (0, (x))), (2, (0, (kk)))] [(0, ((1 : Nat) : Int))] h
    refine w_ifc (pt := 14) (pf := 7) (o232_2 hB) (by decide) rfl (fun e => ?_) (fun e => ?_)
    · have f168 : (((1 : Nat) : Int) = (0)) := e
      exfalso; omega
    · have f169 : ¬ (((1 : Nat) : Int) = (0)) := e
      refine w_pl (pc' := 8) (lv' := [(0, (2, ((193 : Nat) : Int))), (1, (0, (x))), (2, (0, (kk)))]) (st' := [(0, (kk))]) (h' := h) (o232_3 hB) rfl ?_
      refine w_callS (as := [(0, (kk))]) (rest := []) (n := 1) (pc' := 11) hB (o232_4 hB) rfl (by decide +kernel) rfl rfl (Nat.le_of_ble_eq_true rfl) (m_isMonthM hB (fun f170 => ?_) (fun f171 => ?_))
      · show HW g l _ 232 _ _ 11 [(0, (2, ((193 : Nat) : Int))), (1, (0, (x))), (2, (0, (kk)))] [(0, ((1 : Nat) : Int))] h
        refine w_ifc (pt := 16) (pf := 14) (o232_5 hB) (by decide) rfl (fun e => ?_) (fun e => ?_)
        · have f172 : (((1 : Nat) : Int) ≠ (0)) := e
          refine w_pl (pc' := 17) (lv' := [(0, (2, ((193 : Nat) : Int))), (1, (0, (x))), (2, (0, (kk)))]) (st' := [(2, ((193 : Nat) : Int))]) (h' := h) (o232_8 hB) rfl ?_
          refine w_pl (pc' := 18) (lv' := [(0, (2, ((193 : Nat) : Int))), (1, (0, (x))), (2, (0, (kk)))]) (st' := [(0, (x)), (2, ((193 : Nat) : Int))]) (h' := h) (o232_9 hB) rfl ?_
          refine w_pl (pc' := 21) (lv' := [(0, (2, ((193 : Nat) : Int))), (1, (0, (x))), (2, (0, (kk)))]) (st' := [(0, ((10000 : Nat) : Int)), (0, (x)), (2, ((193 : Nat) : Int))]) (h' := h) (o232_10 hB) rfl ?_
          refine w_idiv (z := ((x) / 10000)) (pc' := 22) (o232_11 hB) rfl (divI_p (by omega) (by omega) (by decide)) ?_
          refine w_pl (pc' := 23) (lv' := [(0, (2, ((193 : Nat) : Int))), (1, (0, (x))), (2, (0, (kk)))]) (st' := [(0, (x)), (0, ((x) / 10000)), (2, ((193 : Nat) : Int))]) (h' := h) (o232_12 hB) rfl ?_
          refine w_pl (pc' := 26) (lv' := [(0, (2, ((193 : Nat) : Int))), (1, (0, (x))), (2, (0, (kk)))]) (st' := [(0, ((1000 : Nat) : Int)), (0, (x)), (0, ((x) / 10000)), (2, ((193 : Nat) : Int))]) (h' := h) (o232_13 hB) rfl ?_
          refine w_idiv (z := ((x) / 1000)) (pc' := 27) (o232_14 hB) rfl (divI_p (by omega) (by omega) (by decide)) ?_
          refine w_pl (pc' := 29) (lv' := [(0, (2, ((193 : Nat) : Int))), (1, (0, (x))), (2, (0, (kk)))]) (st' := [(0, ((10 : Nat) : Int)), (0, ((x) / 1000)), (0, ((x) / 10000)), (2, ((193 : Nat) : Int))]) (h' := h) (o232_15 hB) rfl ?_
          refine w_irem (z := (((x) / 1000) % 10)) (pc' := 30) (o232_16 hB) rfl (remI_p (by omega) (by decide)) ?_
          refine w_pl (pc' := 31) (lv' := [(0, (2, ((193 : Nat) : Int))), (1, (0, (x))), (2, (0, (kk)))]) (st' := [(0, (x)), (0, (((x) / 1000) % 10)), (0, ((x) / 10000)), (2, ((193 : Nat) : Int))]) (h' := h) (o232_17 hB) rfl ?_
          refine w_pl (pc' := 34) (lv' := [(0, (2, ((193 : Nat) : Int))), (1, (0, (x))), (2, (0, (kk)))]) (st' := [(0, ((1000 : Nat) : Int)), (0, (x)), (0, (((x) / 1000) % 10)), (0, ((x) / 10000)), (2, ((193 : Nat) : Int))]) (h' := h) (o232_18 hB) rfl ?_
          refine w_irem (z := ((x) % 1000)) (pc' := 35) (o232_19 hB) rfl (remI_p (by omega) (by decide)) ?_
          refine w_pl (pc' := 36) (lv' := [(0, (2, ((193 : Nat) : Int))), (1, (0, (x))), (2, (0, (kk)))]) (st' := [(0, (kk)), (0, ((x) % 1000)), (0, (((x) / 1000) % 10)), (0, ((x) / 10000)), (2, ((193 : Nat) : Int))]) (h' := h) (o232_20 hB) rfl ?_
          refine w_callV (A := 193) (as := [(0, ((x) / 10000)), (0, (((x) / 1000) % 10)), (0, ((x) % 1000)), (0, (kk))]) (rest := []) (n := 4) (pc' := 39) 11 hB (o232_21 hB) rfl (by decide +kernel) rfl rfl (Nat.le_of_ble_eq_true rfl) (m_countOf hB ht hc lc ?_)
          show HW g l _ 232 _ _ 39 [(0, (2, ((193 : Nat) : Int))), (1, (0, (x))), (2, (0, (kk)))] [(0, (cntM h (x / 10000) (x / 1000 % 10) (x % 1000) kk c))] h
          exact w_iret (o232_22 hB) mr232 (by have := cntM_r ht (mk := x / 10000) (ld := x / 1000 % 10) (mo := x % 1000) (kk := kk) c lc; unfold in32; omega) (a1 (by omega))
        · have f174 : ¬ (((1 : Nat) : Int) ≠ (0)) := e
          exfalso; omega
      · show HW g l _ 232 _ _ 11 [(0, (2, ((193 : Nat) : Int))), (1, (0, (x))), (2, (0, (kk)))] [(0, ((0 : Nat) : Int))] h
        refine w_ifc (pt := 16) (pf := 14) (o232_5 hB) (by decide) rfl (fun e => ?_) (fun e => ?_)
        · have f175 : (((0 : Nat) : Int) ≠ (0)) := e
          exfalso; omega
        · have f176 : ¬ (((0 : Nat) : Int) ≠ (0)) := e
          refine w_pl (pc' := 15) (lv' := [(0, (2, ((193 : Nat) : Int))), (1, (0, (x))), (2, (0, (kk)))]) (st' := [(0, (-1))]) (h' := h) (o232_6 hB) rfl ?_
          exact w_iret (o232_7 hB) mr232 (by unfold in32; omega) (a0 (by omega))
  · show HW g l _ 232 _ _ 4 [(0, (2, ((193 : Nat) : Int))), (1, (0, (x))), (2, (0, (kk)))] [(0, ((0 : Nat) : Int))] h
    refine w_ifc (pt := 14) (pf := 7) (o232_2 hB) (by decide) rfl (fun e => ?_) (fun e => ?_)
    · have f177 : (((0 : Nat) : Int) = (0)) := e
      refine w_pl (pc' := 15) (lv' := [(0, (2, ((193 : Nat) : Int))), (1, (0, (x))), (2, (0, (kk)))]) (st' := [(0, (-1))]) (h' := h) (o232_6 hB) rfl ?_
      exact w_iret (o232_7 hB) mr232 (by unfold in32; omega) (a0 (by omega))
    · have f178 : ¬ (((0 : Nat) : Int) = (0)) := e
      exfalso; omega
def s_countM (vs : List bV) (h : bH) (r : Option bV) (h' : bH) : Prop := TH h ∧ ∀ (x kk : Int) (c : Nat) , vs = [(2, ((193 : Nat) : Int)), (0, x), (0, kk)] → h 194 5 = (c : Int) → ((¬ ((0 ≤ x ∧ x / 10000 < 6 ∧ x / 1000 % 10 < 4 ∧ x % 1000 < 240) ∧ 0 ≤ kk ∧ kk ≤ 239)) ∧ r = some (0, (-1)) ∧ h = h') ∨ (((0 ≤ x ∧ x / 10000 < 6 ∧ x / 1000 % 10 < 4 ∧ x % 1000 < 240) ∧ 0 ≤ kk ∧ kk ≤ 239) ∧ r = some (0, (cntM h (x / 10000) (x / 1000 % 10) (x % 1000) kk c)) ∧ h = h')
def w_countM : List (Nat × Nat × Nat) := []
def q_countM : aCt := cH 232 3 w_countM 2 193
theorem sk_countM (hB : BytesOK) (g : bG) (l : Launch) : SK g l gT q_countM s_countM := by
  intro d hd ρ h Q hcore hQ
  have hcore : core (PofW gT (some w_countM) false) (gsc g) h ρ h (List.replicate 2 r32, [], [], 212) := hcore
  have ht := hTH hcore
  have y0 := r32_0 hcore 0 (by decide)
  have y1 := r32_0 hcore 1 (by decide)
  have y00 := y0
  unfold in32 at y00
  have y01 := y1
  unfold in32 at y01
  obtain ⟨c, hc, lc⟩ := nat_to ht (a := 194) (j := 5) (n := 24) (by decide +kernel)
  obtain ⟨d', rfl⟩ : ∃ d', d = d' + 1 + 1 + 1 := ⟨d - 3, by have : 3 ≤ d := hd; omega⟩
  rw [show evS ρ (ctA q_countM) = [(2, ((193 : Nat) : Int)), (0, ρ 0), (0, ρ 1)] from evA2]
  refine m_countM (x := ρ 0) (kk := ρ 1) hB ht y0 y1 hc lc (fun hn => ?_) (fun hn => ?_)
  · refine hQ _ _ (hpost hcore (ht) (fun _ _ _ => rfl) (by unfold in32; omega)) ⟨ht, fun x kk c_c hv e_c => ?_⟩
    have hv := (evA2 (ρ := ρ)).symm.trans hv
    obtain ⟨rfl, rfl⟩ := vsA2 hv
    obtain rfl : c_c = c := by have := e_c.symm.trans hc; omega
    exact Or.inl ⟨hn, rfl, rfl⟩
  · refine hQ _ _ (hpost hcore (ht) (fun _ _ _ => rfl) (by have := cntM_r ht (mk := ρ 0 / 10000) (ld := ρ 0 / 1000 % 10) (mo := ρ 0 % 1000) (kk := ρ 1) c lc; unfold in32; omega)) ⟨ht, fun x kk c_c hv e_c => ?_⟩
    have hv := (evA2 (ρ := ρ)).symm.trans hv
    obtain ⟨rfl, rfl⟩ := vsA2 hv
    obtain rfl : c_c = c := by have := e_c.symm.trans hc; omega
    exact Or.inr (⟨hn, rfl, rfl⟩)
theorem m_monthsB (hB : BytesOK) {g : bG} {l : Launch} {d : Nat} {Q : bQ} {h : bH} {n : Int} (ht : TH h) (z_n : in32 n) {w : Int} (hw : h 2 0 = w)  (a0 : ¬ (1 ≤ n ∧ n ≤ 60) → Q (some (0, (-1))) h) (a1 : (1 ≤ n ∧ n ≤ 60) ∧ 239 < w + n → Q (some (0, (-4))) h) (a2 : (1 ≤ n ∧ n ≤ 60) ∧ w + n ≤ 239 → Q (some (0, (w + n))) (hup h 2 (0) ((w) + (n)))) : MH g l d 123 212 212 [(2, ((0 : Nat) : Int)), (0, (n))] h Q := by
  have hR := ht.r
  have z0_n := z_n
  unfold in32 at z0_n
  have r_w := ty_2_c0 ht
  rw [hw] at r_w
  refine mh_go hB mg123 ml123 (Nat.le_of_ble_eq_true rfl) ?_
  show HW g l d 123 _ _ 0 [(0, (2, ((0 : Nat) : Int))), (1, (0, (n)))] [] h
  refine w_pl (pc' := 1) (lv' := [(0, (2, ((0 : Nat) : Int))), (1, (0, (n)))]) (st' := [(0, (n))]) (h' := h) (o123_0 hB) rfl ?_
  refine w_pl (pc' := 2) (lv' := [(0, (2, ((0 : Nat) : Int))), (1, (0, (n)))]) (st' := [(0, ((1 : Nat) : Int)), (0, (n))]) (h' := h) (o123_1 hB) rfl ?_
  refine w_icmp (pt := 11) (pf := 5) (o123_2 hB) (by decide) rfl (fun e => ?_) (fun e => ?_)
  · have f185 : ((n) < ((1 : Nat) : Int)) := e
    refine w_pl (pc' := 12) (lv' := [(0, (2, ((0 : Nat) : Int))), (1, (0, (n)))]) (st' := [(0, (-1))]) (h' := h) (o123_6 hB) rfl ?_
    exact w_iret (o123_7 hB) mr123 (by unfold in32; omega) (a0 (by omega))
  · have f186 : ¬ ((n) < ((1 : Nat) : Int)) := e
    refine w_pl (pc' := 6) (lv' := [(0, (2, ((0 : Nat) : Int))), (1, (0, (n)))]) (st' := [(0, (n))]) (h' := h) (o123_3 hB) rfl ?_
    refine w_pl (pc' := 8) (lv' := [(0, (2, ((0 : Nat) : Int))), (1, (0, (n)))]) (st' := [(0, ((60 : Nat) : Int)), (0, (n))]) (h' := h) (o123_4 hB) rfl ?_
    refine w_icmp (pt := 13) (pf := 11) (o123_5 hB) (by decide) rfl (fun e => ?_) (fun e => ?_)
    · have f187 : ((n) ≤ ((60 : Nat) : Int)) := e
      refine w_pl (pc' := 14) (lv' := [(0, (2, ((0 : Nat) : Int))), (1, (0, (n)))]) (st' := [(2, ((0 : Nat) : Int))]) (h' := h) (o123_8 hB) rfl ?_
      refine w_getf (A := 0) (t := 2) (z := ((1 : Nat) : Int)) (pc' := 17) (o123_9 hB) rfl (by decide +kernel) (hR (0, 0, 1) (by decide)) ?_
      refine w_getf (A := 1) (t := 2) (z := ((2 : Nat) : Int)) (pc' := 20) (o123_10 hB) rfl (by decide +kernel) (hR (1, 0, 2) (by decide)) ?_
      refine w_getf (A := 2) (t := 0) (z := (w)) (pc' := 23) (o123_11 hB) rfl (by decide +kernel) hw ?_
      refine w_pl (pc' := 24) (lv' := [(0, (2, ((0 : Nat) : Int))), (1, (0, (n)))]) (st' := [(0, (n)), (0, (w))]) (h' := h) (o123_12 hB) rfl ?_
      refine w_iadd (z := ((w) + (n))) (pc' := 25) (o123_13 hB) rfl (w32_e (by omega) (by omega)) ?_
      refine w_pl (pc' := 28) (lv' := [(0, (2, ((0 : Nat) : Int))), (1, (0, (n)))]) (st' := [(0, ((240 : Nat) : Int)), (0, ((w) + (n)))]) (h' := h) (o123_14 hB) rfl ?_
      refine w_icmp (pt := 34) (pf := 31) (o123_15 hB) (by decide) rfl (fun e => ?_) (fun e => ?_)
      · have f188 : (((w) + (n)) < ((240 : Nat) : Int)) := e
        refine w_pl (pc' := 35) (lv' := [(0, (2, ((0 : Nat) : Int))), (1, (0, (n)))]) (st' := [(2, ((0 : Nat) : Int))]) (h' := h) (o123_18 hB) rfl ?_
        refine w_getf (A := 0) (t := 2) (z := ((1 : Nat) : Int)) (pc' := 38) (o123_19 hB) rfl (by decide +kernel) (hR (0, 0, 1) (by decide)) ?_
        refine w_getf (A := 1) (t := 2) (z := ((2 : Nat) : Int)) (pc' := 41) (o123_20 hB) rfl (by decide +kernel) (hR (1, 0, 2) (by decide)) ?_
        refine w_pl (pc' := 42) (lv' := [(0, (2, ((0 : Nat) : Int))), (1, (0, (n)))]) (st' := [(2, ((2 : Nat) : Int)), (2, ((2 : Nat) : Int))]) (h' := h) (o123_21 hB) rfl ?_
        refine w_getf (A := 2) (t := 0) (z := (w)) (pc' := 45) (o123_22 hB) rfl (by decide +kernel) hw ?_
        refine w_pl (pc' := 46) (lv' := [(0, (2, ((0 : Nat) : Int))), (1, (0, (n)))]) (st' := [(0, (n)), (0, (w)), (2, ((2 : Nat) : Int))]) (h' := h) (o123_23 hB) rfl ?_
        refine w_iadd (z := ((w) + (n))) (pc' := 47) (o123_24 hB) rfl (w32_e (by omega) (by omega)) ?_
        refine w_putf (A := 2) (t := 0) (pc' := 50) (o123_25 hB) rfl (by decide +kernel) ?_
        refine w_pl (pc' := 51) (lv' := [(0, (2, ((0 : Nat) : Int))), (1, (0, (n)))]) (st' := [(2, ((0 : Nat) : Int))]) (h' := (hup h 2 (0) ((w) + (n)))) (o123_26 hB) rfl ?_
        refine w_getf (A := 0) (t := 2) (z := ((1 : Nat) : Int)) (pc' := 54) (o123_27 hB) rfl (by decide +kernel) ((hup_ne (by decide)).trans (hR (0, 0, 1) (by decide))) ?_
        refine w_getf (A := 1) (t := 2) (z := ((2 : Nat) : Int)) (pc' := 57) (o123_28 hB) rfl (by decide +kernel) ((hup_ne (by decide)).trans (hR (1, 0, 2) (by decide))) ?_
        refine w_getf (A := 2) (t := 0) (z := (((w) + (n)))) (pc' := 60) (o123_29 hB) rfl (by decide +kernel) (hup_eq) ?_
        exact w_iret (o123_30 hB) mr123 (by unfold in32; omega) (qe (a2 (by omega)) (by omega))
      · have f189 : ¬ (((w) + (n)) < ((240 : Nat) : Int)) := e
        refine w_pl (pc' := 33) (lv' := [(0, (2, ((0 : Nat) : Int))), (1, (0, (n)))]) (st' := [(0, (-4))]) (h' := h) (o123_16 hB) rfl ?_
        exact w_iret (o123_17 hB) mr123 (by unfold in32; omega) (a1 (by omega))
    · have f190 : ¬ ((n) ≤ ((60 : Nat) : Int)) := e
      refine w_pl (pc' := 12) (lv' := [(0, (2, ((0 : Nat) : Int))), (1, (0, (n)))]) (st' := [(0, (-1))]) (h' := h) (o123_6 hB) rfl ?_
      exact w_iret (o123_7 hB) mr123 (by unfold in32; omega) (a0 (by omega))
def s_monthsB (vs : List bV) (h : bH) (r : Option bV) (h' : bH) : Prop := TH h ∧ ∀ (n : Int) (w : Int) , vs = [(2, ((0 : Nat) : Int)), (0, n)] → h 2 0 = w → ((¬ (1 ≤ n ∧ n ≤ 60)) ∧ r = some (0, (-1)) ∧ h = h') ∨ (((1 ≤ n ∧ n ≤ 60) ∧ 239 < w + n) ∧ r = some (0, (-4)) ∧ h = h') ∨ (((1 ≤ n ∧ n ≤ 60) ∧ w + n ≤ 239) ∧ r = some (0, (w + n)) ∧ h' = (hup h 2 (0) ((w) + (n))))
def w_monthsB : List (Nat × Nat × Nat) := [(2, 0, 1)]
def q_monthsB : aCt := cH 123 0 w_monthsB 1 0
theorem sk_monthsB (hB : BytesOK) (g : bG) (l : Launch) : SK g l gT q_monthsB s_monthsB := by
  intro d hd ρ h Q hcore hQ
  have hcore : core (PofW gT (some w_monthsB) false) (gsc g) h ρ h (List.replicate 1 r32, [], [], 212) := hcore
  have ht := hTH hcore
  have y0 := r32_0 hcore 0 (by decide)
  have y00 := y0
  unfold in32 at y00
  have r_w := ty_2_c0 ht
  rw [show evS ρ (ctA q_monthsB) = [(2, ((0 : Nat) : Int)), (0, ρ 0)] from evA1]
  refine m_monthsB (n := ρ 0) hB ht y0 rfl (fun hn => ?_) (fun hn => ?_) (fun hn => ?_)
  · refine hQ _ _ (hpost hcore (ht) (fun _ _ _ => rfl) (by unfold in32; omega)) ⟨ht, fun n v_w hv e_w => ?_⟩
    have hv := (evA1 (ρ := ρ)).symm.trans hv
    obtain rfl := vsA1 hv
    subst e_w
    exact Or.inl ⟨hn, rfl, rfl⟩
  · refine hQ _ _ (hpost hcore (ht) (fun _ _ _ => rfl) (by unfold in32; omega)) ⟨ht, fun n v_w hv e_w => ?_⟩
    have hv := (evA1 (ρ := ρ)).symm.trans hv
    obtain rfl := vsA1 hv
    subst e_w
    exact Or.inr (Or.inl ⟨hn, rfl, rfl⟩)
  · refine hQ _ _ (hpost hcore ((ht).upc (a := 2) (j := 0) (lo := (0)) (hi := 239) (by decide +kernel) (by omega)) (fr_up (fun _ _ _ => rfl) (wr_in (lo := 0) (hi := 1) (by decide) (by omega) (by omega))) (by unfold in32; omega)) ⟨ht, fun n v_w hv e_w => ?_⟩
    have hv := (evA1 (ρ := ρ)).symm.trans hv
    obtain rfl := vsA1 hv
    subst e_w
    exact Or.inr (Or.inr (⟨hn, rfl, rfl⟩))
theorem m_monthsM (hB : BytesOK) {g : bG} {l : Launch} {d : Nat} {Q : bQ} {h : bH} {n : Int} (ht : TH h) (z_n : in32 n) {w : Int} (hw : h 194 0 = w)  (a0 : ¬ (1 ≤ n ∧ n ≤ 60) → Q (some (0, (-1))) h) (a1 : (1 ≤ n ∧ n ≤ 60) ∧ 239 < w + n → Q (some (0, (-4))) h) (a2 : (1 ≤ n ∧ n ≤ 60) ∧ w + n ≤ 239 → Q (some (0, (w + n))) (hup h 194 (0) ((w) + (n)))) : MH g l (d + 1) 189 212 212 [(2, ((193 : Nat) : Int)), (0, (n))] h Q := by
  have hR := ht.r
  have z0_n := z_n
  unfold in32 at z0_n
  have r_w := ty_194_c0 ht
  rw [hw] at r_w
  refine mh_go hB mg189 ml189 (Nat.le_of_ble_eq_true rfl) ?_
  show HW g l (d + 1) 189 _ _ 0 [(0, (2, ((193 : Nat) : Int))), (1, (0, (n)))] [] h
  refine w_pl (pc' := 1) (lv' := [(0, (2, ((193 : Nat) : Int))), (1, (0, (n)))]) (st' := [(0, (n))]) (h' := h) (o189_0 hB) rfl ?_
  refine w_pl (pc' := 2) (lv' := [(0, (2, ((193 : Nat) : Int))), (1, (0, (n)))]) (st' := [(0, ((1 : Nat) : Int)), (0, (n))]) (h' := h) (o189_1 hB) rfl ?_
  refine w_pl (pc' := 4) (lv' := [(0, (2, ((193 : Nat) : Int))), (1, (0, (n)))]) (st' := [(0, ((60 : Nat) : Int)), (0, ((1 : Nat) : Int)), (0, (n))]) (h' := h) (o189_2 hB) rfl ?_
  refine w_callS (as := [(0, (n)), (0, ((1 : Nat) : Int)), (0, ((60 : Nat) : Int))]) (rest := []) (n := 3) (pc' := 7) hB (o189_3 hB) rfl (by decide +kernel) rfl rfl (Nat.le_of_ble_eq_true rfl) (m_in hB (fun f199 => ?_) (fun f200 => ?_))
  · show HW g l _ 189 _ _ 7 [(0, (2, ((193 : Nat) : Int))), (1, (0, (n)))] [(0, ((1 : Nat) : Int))] h
    refine w_ifc (pt := 12) (pf := 10) (o189_4 hB) (by decide) rfl (fun e => ?_) (fun e => ?_)
    · have f201 : (((1 : Nat) : Int) ≠ (0)) := e
      refine w_pl (pc' := 13) (lv' := [(0, (2, ((193 : Nat) : Int))), (1, (0, (n)))]) (st' := [(2, ((193 : Nat) : Int))]) (h' := h) (o189_7 hB) rfl ?_
      refine w_getf (A := 193) (t := 2) (z := ((194 : Nat) : Int)) (pc' := 16) (o189_8 hB) rfl (by decide +kernel) (hR (193, 0, 194) (by decide)) ?_
      refine w_pl (pc' := 17) (lv' := [(0, (2, ((193 : Nat) : Int))), (1, (0, (n)))]) (st' := [(0, ((0 : Nat) : Int)), (2, ((194 : Nat) : Int))]) (h' := h) (o189_9 hB) rfl ?_
      refine w_iald (A := 194) (i := 0) (n := 1984) (z := (w)) (pc' := 18) (o189_10 hB) rfl (by decide +kernel) (by omega) hw ?_
      refine w_pl (pc' := 19) (lv' := [(0, (2, ((193 : Nat) : Int))), (1, (0, (n)))]) (st' := [(0, (n)), (0, (w))]) (h' := h) (o189_11 hB) rfl ?_
      refine w_iadd (z := ((w) + (n))) (pc' := 20) (o189_12 hB) rfl (w32_e (by omega) (by omega)) ?_
      refine w_pl (pc' := 23) (lv' := [(0, (2, ((193 : Nat) : Int))), (1, (0, (n)))]) (st' := [(0, ((239 : Nat) : Int)), (0, ((w) + (n)))]) (h' := h) (o189_13 hB) rfl ?_
      refine w_icmp (pt := 29) (pf := 26) (o189_14 hB) (by decide) rfl (fun e => ?_) (fun e => ?_)
      · have f202 : (((w) + (n)) ≤ ((239 : Nat) : Int)) := e
        refine w_pl (pc' := 30) (lv' := [(0, (2, ((193 : Nat) : Int))), (1, (0, (n)))]) (st' := [(2, ((193 : Nat) : Int))]) (h' := h) (o189_17 hB) rfl ?_
        refine w_getf (A := 193) (t := 2) (z := ((194 : Nat) : Int)) (pc' := 33) (o189_18 hB) rfl (by decide +kernel) (hR (193, 0, 194) (by decide)) ?_
        refine w_pl (pc' := 34) (lv' := [(0, (2, ((193 : Nat) : Int))), (1, (0, (n)))]) (st' := [(0, ((0 : Nat) : Int)), (2, ((194 : Nat) : Int))]) (h' := h) (o189_19 hB) rfl ?_
        refine w_pl (pc' := 35) (lv' := [(0, (2, ((193 : Nat) : Int))), (1, (0, (n)))]) (st' := [(0, ((0 : Nat) : Int)), (2, ((194 : Nat) : Int)), (0, ((0 : Nat) : Int)), (2, ((194 : Nat) : Int))]) (h' := h) (o189_20 hB) rfl ?_
        refine w_iald (A := 194) (i := 0) (n := 1984) (z := (w)) (pc' := 36) (o189_21 hB) rfl (by decide +kernel) (by omega) hw ?_
        refine w_pl (pc' := 37) (lv' := [(0, (2, ((193 : Nat) : Int))), (1, (0, (n)))]) (st' := [(0, (n)), (0, (w)), (0, ((0 : Nat) : Int)), (2, ((194 : Nat) : Int))]) (h' := h) (o189_22 hB) rfl ?_
        refine w_iadd (z := ((w) + (n))) (pc' := 38) (o189_23 hB) rfl (w32_e (by omega) (by omega)) ?_
        refine w_iast (A := 194) (i := 0) (n := 1984) (pc' := 39) (o189_24 hB) rfl (by decide +kernel) (by omega) ?_
        refine w_pl (pc' := 40) (lv' := [(0, (2, ((193 : Nat) : Int))), (1, (0, (n)))]) (st' := [(2, ((193 : Nat) : Int))]) (h' := (hup h 194 (0) ((w) + (n)))) (o189_25 hB) rfl ?_
        refine w_getf (A := 193) (t := 2) (z := ((194 : Nat) : Int)) (pc' := 43) (o189_26 hB) rfl (by decide +kernel) ((hup_ne (by decide)).trans (hR (193, 0, 194) (by decide))) ?_
        refine w_pl (pc' := 44) (lv' := [(0, (2, ((193 : Nat) : Int))), (1, (0, (n)))]) (st' := [(0, ((0 : Nat) : Int)), (2, ((194 : Nat) : Int))]) (h' := (hup h 194 (0) ((w) + (n)))) (o189_27 hB) rfl ?_
        refine w_iald (A := 194) (i := 0) (n := 1984) (z := (((w) + (n)))) (pc' := 45) (o189_28 hB) rfl (by decide +kernel) (by omega) (hup_eq) ?_
        exact w_iret (o189_29 hB) mr189 (by unfold in32; omega) (qe (a2 (by omega)) (by omega))
      · have f203 : ¬ (((w) + (n)) ≤ ((239 : Nat) : Int)) := e
        refine w_pl (pc' := 28) (lv' := [(0, (2, ((193 : Nat) : Int))), (1, (0, (n)))]) (st' := [(0, (-4))]) (h' := h) (o189_15 hB) rfl ?_
        exact w_iret (o189_16 hB) mr189 (by unfold in32; omega) (a1 (by omega))
    · have f204 : ¬ (((1 : Nat) : Int) ≠ (0)) := e
      exfalso; omega
  · show HW g l _ 189 _ _ 7 [(0, (2, ((193 : Nat) : Int))), (1, (0, (n)))] [(0, ((0 : Nat) : Int))] h
    refine w_ifc (pt := 12) (pf := 10) (o189_4 hB) (by decide) rfl (fun e => ?_) (fun e => ?_)
    · have f205 : (((0 : Nat) : Int) ≠ (0)) := e
      exfalso; omega
    · have f206 : ¬ (((0 : Nat) : Int) ≠ (0)) := e
      refine w_pl (pc' := 11) (lv' := [(0, (2, ((193 : Nat) : Int))), (1, (0, (n)))]) (st' := [(0, (-1))]) (h' := h) (o189_5 hB) rfl ?_
      exact w_iret (o189_6 hB) mr189 (by unfold in32; omega) (a0 (by omega))
def s_monthsM (vs : List bV) (h : bH) (r : Option bV) (h' : bH) : Prop := TH h ∧ ∀ (n : Int) (w : Int) , vs = [(2, ((193 : Nat) : Int)), (0, n)] → h 194 0 = w → ((¬ (1 ≤ n ∧ n ≤ 60)) ∧ r = some (0, (-1)) ∧ h = h') ∨ (((1 ≤ n ∧ n ≤ 60) ∧ 239 < w + n) ∧ r = some (0, (-4)) ∧ h = h') ∨ (((1 ≤ n ∧ n ≤ 60) ∧ w + n ≤ 239) ∧ r = some (0, (w + n)) ∧ h' = (hup h 194 (0) ((w) + (n))))
def w_monthsM : List (Nat × Nat × Nat) := [(194, 0, 1)]
def q_monthsM : aCt := cH 189 1 w_monthsM 1 193
theorem sk_monthsM (hB : BytesOK) (g : bG) (l : Launch) : SK g l gT q_monthsM s_monthsM := by
  intro d hd ρ h Q hcore hQ
  have hcore : core (PofW gT (some w_monthsM) false) (gsc g) h ρ h (List.replicate 1 r32, [], [], 212) := hcore
  have ht := hTH hcore
  have y0 := r32_0 hcore 0 (by decide)
  have y00 := y0
  unfold in32 at y00
  have r_w := ty_194_c0 ht
  obtain ⟨d', rfl⟩ : ∃ d', d = d' + 1 := ⟨d - 1, by have : 1 ≤ d := hd; omega⟩
  rw [show evS ρ (ctA q_monthsM) = [(2, ((193 : Nat) : Int)), (0, ρ 0)] from evA1]
  refine m_monthsM (n := ρ 0) hB ht y0 rfl (fun hn => ?_) (fun hn => ?_) (fun hn => ?_)
  · refine hQ _ _ (hpost hcore (ht) (fun _ _ _ => rfl) (by unfold in32; omega)) ⟨ht, fun n v_w hv e_w => ?_⟩
    have hv := (evA1 (ρ := ρ)).symm.trans hv
    obtain rfl := vsA1 hv
    subst e_w
    exact Or.inl ⟨hn, rfl, rfl⟩
  · refine hQ _ _ (hpost hcore (ht) (fun _ _ _ => rfl) (by unfold in32; omega)) ⟨ht, fun n v_w hv e_w => ?_⟩
    have hv := (evA1 (ρ := ρ)).symm.trans hv
    obtain rfl := vsA1 hv
    subst e_w
    exact Or.inr (Or.inl ⟨hn, rfl, rfl⟩)
  · refine hQ _ _ (hpost hcore ((ht).upc (a := 194) (j := 0) (lo := (0)) (hi := 239) (by decide +kernel) (by omega)) (fr_up (fun _ _ _ => rfl) (wr_in (lo := 0) (hi := 1) (by decide) (by omega) (by omega))) (by unfold in32; omega)) ⟨ht, fun n v_w hv e_w => ?_⟩
    have hv := (evA1 (ρ := ρ)).symm.trans hv
    obtain rfl := vsA1 hv
    subst e_w
    exact Or.inr (Or.inr (⟨hn, rfl, rfl⟩))
/-- the class's greatest from of a kind over the first b, and what lies below -/
def gfA (h : bH) (w : Int) : Nat → Int
  | 0 => 0
  | b + 1 => if h 28 b = w then (if gfA h w b ≤ h 29 b then h 29 b else gfA h w b) else gfA h w b
abbrev frA (h : bH) (d : Nat) : Prop := ∀ e, e < d → h 28 e ≠ h 28 d
def blA (h : bH) (w kk : Int) (n c : Nat) : Int := if cntA h w kk c < gfA h w n then gfA h w n - cntA h w kk c else 0
def bdA (h : bH) (mk kk : Int) (n c : Nat) : Nat → Int
  | 0 => 0
  | b + 1 => bdA h mk kk n c b + (if h 28 b / 10000 = mk ∧ frA h b then blA h (h 28 b) kk n c else 0)
theorem gfA_r {h : bH} (ht : TH h) {w : Int} : ∀ b, b ≤ 12 → 0 ≤ gfA h w b ∧ gfA h w b ≤ 9999
  | 0, _ => by simp [gfA]
  | b + 1, hb => by
    have := gfA_r ht (w := w) b (by omega)
    have := ty_29_s0 ht (j := b) (r := b) (by omega) (by omega)
    simp only [gfA]
    split
    · split <;> omega
    · omega
theorem blA_r {h : bH} (ht : TH h) {w kk : Int} {n c : Nat} (hn : n ≤ 12) (hc : c ≤ 24) : 0 ≤ blA h w kk n c ∧ blA h w kk n c ≤ 9999 := by
  have := gfA_r ht (w := w) n hn
  have := cntA_r ht (w := w) (kk := kk) c hc
  unfold blA
  split <;> omega
theorem bdA_r {h : bH} (ht : TH h) {mk kk : Int} {n c : Nat} (hn : n ≤ 12) (hc : c ≤ 24) : ∀ b, b ≤ 12 → 0 ≤ bdA h mk kk n c b ∧ bdA h mk kk n c b ≤ 9999 * b
  | 0, _ => by simp [bdA]
  | b + 1, hb => by
    have := bdA_r ht (mk := mk) (kk := kk) hn hc b (by omega)
    have := blA_r ht (w := h 28 b) (kk := kk) hn hc
    simp only [bdA]
    split <;> omega
theorem m_max (hB : BytesOK) {g : bG} {l : Launch} {d : Nat} {Q : bQ} {h : bH} {x y : Int} (z_x : in32 x) (z_y : in32 y) (h1 : y ≤ x → Q (some (0, x)) h) (h0 : x < y → Q (some (0, y)) h) : MH g l d 298 212 212 [(0, x), (0, y)] h Q := by
  unfold in32 at z_x z_y
  refine mh_go hB mg298 ml298 (Nat.le_of_ble_eq_true rfl) ?_
  show HW g l d 298 _ _ 0 [(0, (0, (x))), (1, (0, (y)))] [] h
  refine w_pl (pc' := 1) (lv' := [(0, (0, (x))), (1, (0, (y)))]) (st' := [(0, (x))]) (h' := h) (o298_0 hB) rfl ?_
  refine w_pl (pc' := 2) (lv' := [(0, (0, (x))), (1, (0, (y)))]) (st' := [(0, (y)), (0, (x))]) (h' := h) (o298_1 hB) rfl ?_
  refine w_icmp (pt := 9) (pf := 5) (o298_2 hB) (by decide) rfl (fun e => ?_) (fun e => ?_)
  · have f207 : ((x) < (y)) := e
    refine w_pl (pc' := 10) (lv' := [(0, (0, (x))), (1, (0, (y)))]) (st' := [(0, (y))]) (h' := h) (o298_5 hB) rfl ?_
    exact w_iret (o298_6 hB) mr298 (by unfold in32; omega) (h0 (by omega))
  · have f208 : ¬ ((x) < (y)) := e
    refine w_pl (pc' := 6) (lv' := [(0, (0, (x))), (1, (0, (y)))]) (st' := [(0, (x))]) (h' := h) (o298_3 hB) rfl ?_
    refine w_goto (pt := 10) (o298_4 hB) (by decide) ?_
    exact w_iret (o298_6 hB) mr298 (by unfold in32; omega) (h1 (by omega))
theorem m_isFirst (hB : BytesOK) {g : bG} {l : Launch} {d : Nat} {Q : bQ} {h : bH} {n : Nat} (ht : TH h) (hn : n < 12) (h1 : frA h n → Q (some (0, 1)) h) (h0 : ¬ frA h n → Q (some (0, 0)) h) : MH g l d 119 212 212 [(2, ((17 : Nat) : Int)), (0, ((n : Nat) : Int))] h Q := by
  have hR := ht.r
  have loop : ∀ (q b : Nat), b + q = n → (∀ e, e < b → h 28 e ≠ h 28 n) → HW g l d 119 212 Q 2 [(2, (0, ((b : Nat) : Int))), (0, (2, ((17 : Nat) : Int))), (1, (0, ((n : Nat) : Int)))] [] h := by
    intro q
    induction q with
    | zero =>
      intro b hb hb0
      refine w_pl (pc' := 3) (lv' := [(2, (0, ((b : Nat) : Int))), (0, (2, ((17 : Nat) : Int))), (1, (0, ((n : Nat) : Int)))]) (st' := [(0, ((b : Nat) : Int))]) (h' := h) (o119_2 hB) rfl ?_
      refine w_pl (pc' := 4) (lv' := [(2, (0, ((b : Nat) : Int))), (0, (2, ((17 : Nat) : Int))), (1, (0, ((n : Nat) : Int)))]) (st' := [(0, ((n : Nat) : Int)), (0, ((b : Nat) : Int))]) (h' := h) (o119_3 hB) rfl ?_
      refine w_icmp (pt := 30) (pf := 7) (o119_4 hB) (by decide) rfl (fun e => ?_) (fun e => ?_)
      · have f209 : (((n : Nat) : Int) ≤ ((b : Nat) : Int)) := e
        refine w_pl (pc' := 31) (lv' := [(2, (0, ((b : Nat) : Int))), (0, (2, ((17 : Nat) : Int))), (1, (0, ((n : Nat) : Int)))]) (st' := [(0, ((1 : Nat) : Int))]) (h' := h) (o119_18 hB) rfl ?_
        exact w_zret (o119_19 hB) mr119 (by decide) (h1 (fun e he => hb0 e (by omega)))
      · have f210 : ¬ (((n : Nat) : Int) ≤ ((b : Nat) : Int)) := e
        exfalso; omega
    | succ q ih =>
      intro b hb hb0
      refine w_pl (pc' := 3) (lv' := [(2, (0, ((b : Nat) : Int))), (0, (2, ((17 : Nat) : Int))), (1, (0, ((n : Nat) : Int)))]) (st' := [(0, ((b : Nat) : Int))]) (h' := h) (o119_2 hB) rfl ?_
      refine w_pl (pc' := 4) (lv' := [(2, (0, ((b : Nat) : Int))), (0, (2, ((17 : Nat) : Int))), (1, (0, ((n : Nat) : Int)))]) (st' := [(0, ((n : Nat) : Int)), (0, ((b : Nat) : Int))]) (h' := h) (o119_3 hB) rfl ?_
      refine w_icmp (pt := 30) (pf := 7) (o119_4 hB) (by decide) rfl (fun e => ?_) (fun e => ?_)
      · have f211 : (((n : Nat) : Int) ≤ ((b : Nat) : Int)) := e
        exfalso; omega
      · have f212 : ¬ (((n : Nat) : Int) ≤ ((b : Nat) : Int)) := e
        refine w_pl (pc' := 8) (lv' := [(2, (0, ((b : Nat) : Int))), (0, (2, ((17 : Nat) : Int))), (1, (0, ((n : Nat) : Int)))]) (st' := [(2, ((17 : Nat) : Int))]) (h' := h) (o119_5 hB) rfl ?_
        refine w_getf (A := 17) (t := 2) (z := ((28 : Nat) : Int)) (pc' := 11) (o119_6 hB) rfl (by decide +kernel) (hR (17, 15, 28) (by decide)) ?_
        refine w_pl (pc' := 12) (lv' := [(2, (0, ((b : Nat) : Int))), (0, (2, ((17 : Nat) : Int))), (1, (0, ((n : Nat) : Int)))]) (st' := [(0, ((b : Nat) : Int)), (2, ((28 : Nat) : Int))]) (h' := h) (o119_7 hB) rfl ?_
        have f213 := ty_28_s0 ht (j := b) (r := b) (by omega) (by omega)
        refine w_iald (A := 28) (i := b) (n := 12) (z := (h 28 b)) (pc' := 13) (o119_8 hB) rfl (by decide +kernel) (by omega) rfl ?_
        refine w_pl (pc' := 14) (lv' := [(2, (0, ((b : Nat) : Int))), (0, (2, ((17 : Nat) : Int))), (1, (0, ((n : Nat) : Int)))]) (st' := [(2, ((17 : Nat) : Int)), (0, (h 28 b))]) (h' := h) (o119_9 hB) rfl ?_
        refine w_getf (A := 17) (t := 2) (z := ((28 : Nat) : Int)) (pc' := 17) (o119_10 hB) rfl (by decide +kernel) (hR (17, 15, 28) (by decide)) ?_
        refine w_pl (pc' := 18) (lv' := [(2, (0, ((b : Nat) : Int))), (0, (2, ((17 : Nat) : Int))), (1, (0, ((n : Nat) : Int)))]) (st' := [(0, ((n : Nat) : Int)), (2, ((28 : Nat) : Int)), (0, (h 28 b))]) (h' := h) (o119_11 hB) rfl ?_
        have f214 := ty_28_s0 ht (j := n) (r := n) (by omega) (by omega)
        refine w_iald (A := 28) (i := n) (n := 12) (z := (h 28 n)) (pc' := 19) (o119_12 hB) rfl (by decide +kernel) (by omega) rfl ?_
        refine w_icmp (pt := 24) (pf := 22) (o119_13 hB) (by decide) rfl (fun e => ?_) (fun e => ?_)
        · have f215 : ((h 28 b) ≠ (h 28 n)) := e
          refine w_iinc (x := ((b : Nat) : Int)) (z := (((b + 1) : Nat) : Int)) (pc' := 27) (lv' := [(2, (0, (((b + 1) : Nat) : Int))), (0, (2, ((17 : Nat) : Int))), (1, (0, ((n : Nat) : Int)))]) (o119_16 hB) rfl rfl ml119 (by decide) (w32_e (by omega) (by omega)) rfl ?_
          refine w_goto (pt := 2) (o119_17 hB) (by decide) ?_
          refine w_sub (lv' := [(2, (0, (((b + 1) : Nat) : Int))), (0, (2, ((17 : Nat) : Int))), (1, (0, ((n : Nat) : Int)))]) (List.forall_mem_cons.mpr ⟨(List.Mem.head _), (List.forall_mem_cons.mpr ⟨(List.Mem.tail _ (List.Mem.head _)), (List.forall_mem_cons.mpr ⟨(List.Mem.tail _ (List.Mem.tail _ (List.Mem.head _))), (fun _ hx => by cases hx)⟩)⟩)⟩) ?_
          exact ih (b + 1) (by omega) (fun e he => by
            by_cases eb : e = b
            · subst eb; omega
            · exact hb0 e (by omega))
        · have f216 : ¬ ((h 28 b) ≠ (h 28 n)) := e
          refine w_pl (pc' := 23) (lv' := [(2, (0, ((b : Nat) : Int))), (0, (2, ((17 : Nat) : Int))), (1, (0, ((n : Nat) : Int)))]) (st' := [(0, ((0 : Nat) : Int))]) (h' := h) (o119_14 hB) rfl ?_
          exact w_zret (o119_15 hB) mr119 (by decide) (h0 (fun q => q b (by omega) (by omega)))
  refine mh_go hB mg119 ml119 (Nat.le_of_ble_eq_true rfl) ?_
  show HW g l d 119 _ _ 0 [(0, (2, ((17 : Nat) : Int))), (1, (0, ((n : Nat) : Int)))] [] h
  refine w_pl (pc' := 1) (lv' := [(0, (2, ((17 : Nat) : Int))), (1, (0, ((n : Nat) : Int)))]) (st' := [(0, ((0 : Nat) : Int))]) (h' := h) (o119_0 hB) rfl ?_
  refine w_st (tg := 0) (j := 2) (len := 1) (pc' := 2) (lv' := [(2, (0, ((0 : Nat) : Int))), (0, (2, ((17 : Nat) : Int))), (1, (0, ((n : Nat) : Int)))]) (o119_1 hB) rfl rfl ml119 (by decide) rfl ?_
  refine w_sub (lv' := [(2, (0, ((0 : Nat) : Int))), (0, (2, ((17 : Nat) : Int))), (1, (0, ((n : Nat) : Int)))]) (List.forall_mem_cons.mpr ⟨(List.Mem.head _), (List.forall_mem_cons.mpr ⟨(List.Mem.tail _ (List.Mem.head _)), (List.forall_mem_cons.mpr ⟨(List.Mem.tail _ (List.Mem.tail _ (List.Mem.head _))), (fun _ hx => by cases hx)⟩)⟩)⟩) ?_
  exact loop n 0 (by omega) (fun e he => absurd he (Nat.not_lt_zero e))
theorem m_greatest (hB : BytesOK) {g : bG} {l : Launch} {d : Nat} {Q : bQ} {h : bH} {w : Int} {u : Nat} (ht : TH h) (hu : h 17 14 = (u : Int)) (lu : u ≤ 12) (hq : Q (some (0, gfA h w u)) h) : MH g l (d + 1) 120 212 212 [(2, ((17 : Nat) : Int)), (0, w)] h Q := by
  have hR := ht.r
  have loop : ∀ (n b : Nat), b + n = u → HW g l (d + 1) 120 212 Q 4 [(3, (0, ((b : Nat) : Int))), (2, (0, (gfA h w b))), (0, (2, ((17 : Nat) : Int))), (1, (0, (w)))] [] h := by
    intro n
    induction n with
    | zero =>
      intro b hb
      have rb := gfA_r ht (w := w) b (by omega)
      refine w_pl (pc' := 5) (lv' := [(3, (0, ((b : Nat) : Int))), (2, (0, (gfA h w b))), (0, (2, ((17 : Nat) : Int))), (1, (0, (w)))]) (st' := [(0, ((b : Nat) : Int))]) (h' := h) (o120_4 hB) rfl ?_
      refine w_pl (pc' := 6) (lv' := [(3, (0, ((b : Nat) : Int))), (2, (0, (gfA h w b))), (0, (2, ((17 : Nat) : Int))), (1, (0, (w)))]) (st' := [(2, ((17 : Nat) : Int)), (0, ((b : Nat) : Int))]) (h' := h) (o120_5 hB) rfl ?_
      refine w_getf (A := 17) (t := 0) (z := ((u : Nat) : Int)) (pc' := 9) (o120_6 hB) rfl (by decide +kernel) hu ?_
      refine w_icmp (pt := 39) (pf := 12) (o120_7 hB) (by decide) rfl (fun e => ?_) (fun e => ?_)
      · have f217 : (((u : Nat) : Int) ≤ ((b : Nat) : Int)) := e
        refine w_pl (pc' := 40) (lv' := [(3, (0, ((b : Nat) : Int))), (2, (0, (gfA h w b))), (0, (2, ((17 : Nat) : Int))), (1, (0, (w)))]) (st' := [(0, (gfA h w b))]) (h' := h) (o120_23 hB) rfl ?_
        obtain rfl : b = u := by omega
        exact w_iret (o120_24 hB) mr120 (by unfold in32; omega) hq
      · have f218 : ¬ (((u : Nat) : Int) ≤ ((b : Nat) : Int)) := e
        exfalso; omega
    | succ n ih =>
      intro b hb
      have rb := gfA_r ht (w := w) b (by omega)
      refine w_pl (pc' := 5) (lv' := [(3, (0, ((b : Nat) : Int))), (2, (0, (gfA h w b))), (0, (2, ((17 : Nat) : Int))), (1, (0, (w)))]) (st' := [(0, ((b : Nat) : Int))]) (h' := h) (o120_4 hB) rfl ?_
      refine w_pl (pc' := 6) (lv' := [(3, (0, ((b : Nat) : Int))), (2, (0, (gfA h w b))), (0, (2, ((17 : Nat) : Int))), (1, (0, (w)))]) (st' := [(2, ((17 : Nat) : Int)), (0, ((b : Nat) : Int))]) (h' := h) (o120_5 hB) rfl ?_
      refine w_getf (A := 17) (t := 0) (z := ((u : Nat) : Int)) (pc' := 9) (o120_6 hB) rfl (by decide +kernel) hu ?_
      refine w_icmp (pt := 39) (pf := 12) (o120_7 hB) (by decide) rfl (fun e => ?_) (fun e => ?_)
      · have f219 : (((u : Nat) : Int) ≤ ((b : Nat) : Int)) := e
        exfalso; omega
      · have f220 : ¬ (((u : Nat) : Int) ≤ ((b : Nat) : Int)) := e
        refine w_pl (pc' := 13) (lv' := [(3, (0, ((b : Nat) : Int))), (2, (0, (gfA h w b))), (0, (2, ((17 : Nat) : Int))), (1, (0, (w)))]) (st' := [(2, ((17 : Nat) : Int))]) (h' := h) (o120_8 hB) rfl ?_
        refine w_getf (A := 17) (t := 2) (z := ((28 : Nat) : Int)) (pc' := 16) (o120_9 hB) rfl (by decide +kernel) (hR (17, 15, 28) (by decide)) ?_
        refine w_pl (pc' := 17) (lv' := [(3, (0, ((b : Nat) : Int))), (2, (0, (gfA h w b))), (0, (2, ((17 : Nat) : Int))), (1, (0, (w)))]) (st' := [(0, ((b : Nat) : Int)), (2, ((28 : Nat) : Int))]) (h' := h) (o120_10 hB) rfl ?_
        have f221 := ty_28_s0 ht (j := b) (r := b) (by omega) (by omega)
        refine w_iald (A := 28) (i := b) (n := 12) (z := (h 28 b)) (pc' := 18) (o120_11 hB) rfl (by decide +kernel) (by omega) rfl ?_
        refine w_pl (pc' := 19) (lv' := [(3, (0, ((b : Nat) : Int))), (2, (0, (gfA h w b))), (0, (2, ((17 : Nat) : Int))), (1, (0, (w)))]) (st' := [(0, (w)), (0, (h 28 b))]) (h' := h) (o120_12 hB) rfl ?_
        refine w_icmp (pt := 33) (pf := 22) (o120_13 hB) (by decide) rfl (fun e => ?_) (fun e => ?_)
        · have f222 : ((h 28 b) ≠ (w)) := e
          refine w_iinc (x := ((b : Nat) : Int)) (z := (((b + 1) : Nat) : Int)) (pc' := 36) (lv' := [(3, (0, (((b + 1) : Nat) : Int))), (2, (0, (gfA h w b))), (0, (2, ((17 : Nat) : Int))), (1, (0, (w)))]) (o120_21 hB) rfl rfl ml120 (by decide) (w32_e (by omega) (by omega)) rfl ?_
          refine w_goto (pt := 4) (o120_22 hB) (by decide) ?_
          refine w_sub (lv' := [(3, (0, (((b + 1) : Nat) : Int))), (2, (0, (gfA h w b))), (0, (2, ((17 : Nat) : Int))), (1, (0, (w)))]) (List.forall_mem_cons.mpr ⟨(List.Mem.head _), (List.forall_mem_cons.mpr ⟨(List.Mem.tail _ (List.Mem.head _)), (List.forall_mem_cons.mpr ⟨(List.Mem.tail _ (List.Mem.tail _ (List.Mem.head _))), (List.forall_mem_cons.mpr ⟨(List.Mem.tail _ (List.Mem.tail _ (List.Mem.tail _ (List.Mem.head _)))), (fun _ hx => by cases hx)⟩)⟩)⟩)⟩) ?_
          have e1 : (gfA h w b) = gfA h w (b + 1) := by
            simp only [gfA]
            first | (rw [if_pos (by omega), if_pos (by omega)]; done) | (rw [if_pos (by omega), if_neg (by omega)]; done) | (rw [if_pos (by omega)]; split <;> omega) | (rw [if_neg (by omega)]; done)
          rw [e1]
          exact ih (b + 1) (by omega)
        · have f223 : ¬ ((h 28 b) ≠ (w)) := e
          refine w_pl (pc' := 23) (lv' := [(3, (0, ((b : Nat) : Int))), (2, (0, (gfA h w b))), (0, (2, ((17 : Nat) : Int))), (1, (0, (w)))]) (st' := [(0, (gfA h w b))]) (h' := h) (o120_14 hB) rfl ?_
          refine w_pl (pc' := 24) (lv' := [(3, (0, ((b : Nat) : Int))), (2, (0, (gfA h w b))), (0, (2, ((17 : Nat) : Int))), (1, (0, (w)))]) (st' := [(2, ((17 : Nat) : Int)), (0, (gfA h w b))]) (h' := h) (o120_15 hB) rfl ?_
          refine w_getf (A := 17) (t := 2) (z := ((29 : Nat) : Int)) (pc' := 27) (o120_16 hB) rfl (by decide +kernel) (hR (17, 16, 29) (by decide)) ?_
          refine w_pl (pc' := 28) (lv' := [(3, (0, ((b : Nat) : Int))), (2, (0, (gfA h w b))), (0, (2, ((17 : Nat) : Int))), (1, (0, (w)))]) (st' := [(0, ((b : Nat) : Int)), (2, ((29 : Nat) : Int)), (0, (gfA h w b))]) (h' := h) (o120_17 hB) rfl ?_
          have f224 := ty_29_s0 ht (j := b) (r := b) (by omega) (by omega)
          refine w_iald (A := 29) (i := b) (n := 12) (z := (h 29 b)) (pc' := 29) (o120_18 hB) rfl (by decide +kernel) (by omega) rfl ?_
          refine w_callS (as := [(0, (gfA h w b)), (0, (h 29 b))]) (rest := []) (n := 2) (pc' := 32) hB (o120_19 hB) rfl (by decide +kernel) rfl rfl (Nat.le_of_ble_eq_true rfl) (m_max hB (by unfold in32; omega) (by unfold in32; omega) (fun f225 => ?_) (fun f226 => ?_))
          · show HW g l _ 120 _ _ 32 [(3, (0, ((b : Nat) : Int))), (2, (0, (gfA h w b))), (0, (2, ((17 : Nat) : Int))), (1, (0, (w)))] [(0, (gfA h w b))] h
            refine w_st (tg := 0) (j := 2) (len := 1) (pc' := 33) (lv' := [(2, (0, (gfA h w b))), (3, (0, ((b : Nat) : Int))), (0, (2, ((17 : Nat) : Int))), (1, (0, (w)))]) (o120_20 hB) rfl rfl ml120 (by decide) rfl ?_
            refine w_iinc (x := ((b : Nat) : Int)) (z := (((b + 1) : Nat) : Int)) (pc' := 36) (lv' := [(3, (0, (((b + 1) : Nat) : Int))), (2, (0, (gfA h w b))), (0, (2, ((17 : Nat) : Int))), (1, (0, (w)))]) (o120_21 hB) rfl rfl ml120 (by decide) (w32_e (by omega) (by omega)) rfl ?_
            refine w_goto (pt := 4) (o120_22 hB) (by decide) ?_
            refine w_sub (lv' := [(3, (0, (((b + 1) : Nat) : Int))), (2, (0, (gfA h w b))), (0, (2, ((17 : Nat) : Int))), (1, (0, (w)))]) (List.forall_mem_cons.mpr ⟨(List.Mem.head _), (List.forall_mem_cons.mpr ⟨(List.Mem.tail _ (List.Mem.head _)), (List.forall_mem_cons.mpr ⟨(List.Mem.tail _ (List.Mem.tail _ (List.Mem.head _))), (List.forall_mem_cons.mpr ⟨(List.Mem.tail _ (List.Mem.tail _ (List.Mem.tail _ (List.Mem.head _)))), (fun _ hx => by cases hx)⟩)⟩)⟩)⟩) ?_
            have e1 : (gfA h w b) = gfA h w (b + 1) := by
              simp only [gfA]
              first | (rw [if_pos (by omega), if_pos (by omega)]; done) | (rw [if_pos (by omega), if_neg (by omega)]; done) | (rw [if_pos (by omega)]; split <;> omega) | (rw [if_neg (by omega)]; done)
            rw [e1]
            exact ih (b + 1) (by omega)
          · show HW g l _ 120 _ _ 32 [(3, (0, ((b : Nat) : Int))), (2, (0, (gfA h w b))), (0, (2, ((17 : Nat) : Int))), (1, (0, (w)))] [(0, (h 29 b))] h
            refine w_st (tg := 0) (j := 2) (len := 1) (pc' := 33) (lv' := [(2, (0, (h 29 b))), (3, (0, ((b : Nat) : Int))), (0, (2, ((17 : Nat) : Int))), (1, (0, (w)))]) (o120_20 hB) rfl rfl ml120 (by decide) rfl ?_
            refine w_iinc (x := ((b : Nat) : Int)) (z := (((b + 1) : Nat) : Int)) (pc' := 36) (lv' := [(3, (0, (((b + 1) : Nat) : Int))), (2, (0, (h 29 b))), (0, (2, ((17 : Nat) : Int))), (1, (0, (w)))]) (o120_21 hB) rfl rfl ml120 (by decide) (w32_e (by omega) (by omega)) rfl ?_
            refine w_goto (pt := 4) (o120_22 hB) (by decide) ?_
            refine w_sub (lv' := [(3, (0, (((b + 1) : Nat) : Int))), (2, (0, (h 29 b))), (0, (2, ((17 : Nat) : Int))), (1, (0, (w)))]) (List.forall_mem_cons.mpr ⟨(List.Mem.head _), (List.forall_mem_cons.mpr ⟨(List.Mem.tail _ (List.Mem.head _)), (List.forall_mem_cons.mpr ⟨(List.Mem.tail _ (List.Mem.tail _ (List.Mem.head _))), (List.forall_mem_cons.mpr ⟨(List.Mem.tail _ (List.Mem.tail _ (List.Mem.tail _ (List.Mem.head _)))), (fun _ hx => by cases hx)⟩)⟩)⟩)⟩) ?_
            have e1 : (h 29 b) = gfA h w (b + 1) := by
              simp only [gfA]
              first | (rw [if_pos (by omega), if_pos (by omega)]; done) | (rw [if_pos (by omega), if_neg (by omega)]; done) | (rw [if_pos (by omega)]; split <;> omega) | (rw [if_neg (by omega)]; done)
            rw [e1]
            exact ih (b + 1) (by omega)
  refine mh_go hB mg120 ml120 (Nat.le_of_ble_eq_true rfl) ?_
  show HW g l (d + 1) 120 _ _ 0 [(0, (2, ((17 : Nat) : Int))), (1, (0, (w)))] [] h
  refine w_pl (pc' := 1) (lv' := [(0, (2, ((17 : Nat) : Int))), (1, (0, (w)))]) (st' := [(0, ((0 : Nat) : Int))]) (h' := h) (o120_0 hB) rfl ?_
  refine w_st (tg := 0) (j := 2) (len := 1) (pc' := 2) (lv' := [(2, (0, ((0 : Nat) : Int))), (0, (2, ((17 : Nat) : Int))), (1, (0, (w)))]) (o120_1 hB) rfl rfl ml120 (by decide) rfl ?_
  refine w_pl (pc' := 3) (lv' := [(2, (0, ((0 : Nat) : Int))), (0, (2, ((17 : Nat) : Int))), (1, (0, (w)))]) (st' := [(0, ((0 : Nat) : Int))]) (h' := h) (o120_2 hB) rfl ?_
  refine w_st (tg := 0) (j := 3) (len := 1) (pc' := 4) (lv' := [(3, (0, ((0 : Nat) : Int))), (2, (0, ((0 : Nat) : Int))), (0, (2, ((17 : Nat) : Int))), (1, (0, (w)))]) (o120_3 hB) rfl rfl ml120 (by decide) rfl ?_
  refine w_sub (lv' := [(3, (0, ((0 : Nat) : Int))), (2, (0, ((0 : Nat) : Int))), (0, (2, ((17 : Nat) : Int))), (1, (0, (w)))]) (List.forall_mem_cons.mpr ⟨(List.Mem.head _), (List.forall_mem_cons.mpr ⟨(List.Mem.tail _ (List.Mem.head _)), (List.forall_mem_cons.mpr ⟨(List.Mem.tail _ (List.Mem.tail _ (List.Mem.head _))), (List.forall_mem_cons.mpr ⟨(List.Mem.tail _ (List.Mem.tail _ (List.Mem.tail _ (List.Mem.head _)))), (fun _ hx => by cases hx)⟩)⟩)⟩)⟩) ?_
  exact loop u 0 (by omega)
theorem m_belowDrawn (hB : BytesOK) {g : bG} {l : Launch} {d : Nat} {Q : bQ} {h : bH} {mk kk : Int} {u c : Nat} (ht : TH h) (hu : h 17 14 = (u : Int)) (lu : u ≤ 12) (hc : h 17 0 = (c : Int)) (lc : c ≤ 24) (hq : Q (some (0, bdA h mk kk u c u)) h) : MH g l (d + 1 + 1) 118 212 212 [(2, ((17 : Nat) : Int)), (0, mk), (0, kk)] h Q := by
  have hR := ht.r
  have loop : ∀ (n b : Nat), b + n = u → HW g l (d + 1 + 1) 118 212 Q 5 [(4, (0, ((b : Nat) : Int))), (3, (0, (bdA h mk kk u c b))), (0, (2, ((17 : Nat) : Int))), (1, (0, (mk))), (2, (0, (kk)))] [] h := by
    intro n
    induction n with
    | zero =>
      intro b hb
      have rb := bdA_r ht (mk := mk) (kk := kk) lu lc b (by omega)
      have rg := gfA_r ht (w := h 28 b) u lu
      have rc := cntA_r ht (w := h 28 b) (kk := kk) c lc
      refine w_pl (pc' := 7) (lv' := [(4, (0, ((b : Nat) : Int))), (3, (0, (bdA h mk kk u c b))), (0, (2, ((17 : Nat) : Int))), (1, (0, (mk))), (2, (0, (kk)))]) (st' := [(0, ((b : Nat) : Int))]) (h' := h) (o118_4 hB) rfl ?_
      refine w_pl (pc' := 8) (lv' := [(4, (0, ((b : Nat) : Int))), (3, (0, (bdA h mk kk u c b))), (0, (2, ((17 : Nat) : Int))), (1, (0, (mk))), (2, (0, (kk)))]) (st' := [(2, ((17 : Nat) : Int)), (0, ((b : Nat) : Int))]) (h' := h) (o118_5 hB) rfl ?_
      refine w_getf (A := 17) (t := 0) (z := ((u : Nat) : Int)) (pc' := 11) (o118_6 hB) rfl (by decide +kernel) hu ?_
      refine w_icmp (pt := 75) (pf := 14) (o118_7 hB) (by decide) rfl (fun e => ?_) (fun e => ?_)
      · have f227 : (((u : Nat) : Int) ≤ ((b : Nat) : Int)) := e
        refine w_pl (pc' := 76) (lv' := [(4, (0, ((b : Nat) : Int))), (3, (0, (bdA h mk kk u c b))), (0, (2, ((17 : Nat) : Int))), (1, (0, (mk))), (2, (0, (kk)))]) (st' := [(0, (bdA h mk kk u c b))]) (h' := h) (o118_41 hB) rfl ?_
        obtain rfl : b = u := by omega
        exact w_iret (o118_42 hB) mr118 (by unfold in32; omega) hq
      · have f228 : ¬ (((u : Nat) : Int) ≤ ((b : Nat) : Int)) := e
        exfalso; omega
    | succ n ih =>
      intro b hb
      have rb := bdA_r ht (mk := mk) (kk := kk) lu lc b (by omega)
      have rg := gfA_r ht (w := h 28 b) u lu
      have rc := cntA_r ht (w := h 28 b) (kk := kk) c lc
      refine w_pl (pc' := 7) (lv' := [(4, (0, ((b : Nat) : Int))), (3, (0, (bdA h mk kk u c b))), (0, (2, ((17 : Nat) : Int))), (1, (0, (mk))), (2, (0, (kk)))]) (st' := [(0, ((b : Nat) : Int))]) (h' := h) (o118_4 hB) rfl ?_
      refine w_pl (pc' := 8) (lv' := [(4, (0, ((b : Nat) : Int))), (3, (0, (bdA h mk kk u c b))), (0, (2, ((17 : Nat) : Int))), (1, (0, (mk))), (2, (0, (kk)))]) (st' := [(2, ((17 : Nat) : Int)), (0, ((b : Nat) : Int))]) (h' := h) (o118_5 hB) rfl ?_
      refine w_getf (A := 17) (t := 0) (z := ((u : Nat) : Int)) (pc' := 11) (o118_6 hB) rfl (by decide +kernel) hu ?_
      refine w_icmp (pt := 75) (pf := 14) (o118_7 hB) (by decide) rfl (fun e => ?_) (fun e => ?_)
      · have f229 : (((u : Nat) : Int) ≤ ((b : Nat) : Int)) := e
        exfalso; omega
      · have f230 : ¬ (((u : Nat) : Int) ≤ ((b : Nat) : Int)) := e
        refine w_pl (pc' := 15) (lv' := [(4, (0, ((b : Nat) : Int))), (3, (0, (bdA h mk kk u c b))), (0, (2, ((17 : Nat) : Int))), (1, (0, (mk))), (2, (0, (kk)))]) (st' := [(2, ((17 : Nat) : Int))]) (h' := h) (o118_8 hB) rfl ?_
        refine w_getf (A := 17) (t := 2) (z := ((28 : Nat) : Int)) (pc' := 18) (o118_9 hB) rfl (by decide +kernel) (hR (17, 15, 28) (by decide)) ?_
        refine w_pl (pc' := 20) (lv' := [(4, (0, ((b : Nat) : Int))), (3, (0, (bdA h mk kk u c b))), (0, (2, ((17 : Nat) : Int))), (1, (0, (mk))), (2, (0, (kk)))]) (st' := [(0, ((b : Nat) : Int)), (2, ((28 : Nat) : Int))]) (h' := h) (o118_10 hB) rfl ?_
        have f231 := ty_28_s0 ht (j := b) (r := b) (by omega) (by omega)
        refine w_iald (A := 28) (i := b) (n := 12) (z := (h 28 b)) (pc' := 21) (o118_11 hB) rfl (by decide +kernel) (by omega) rfl ?_
        refine w_pl (pc' := 24) (lv' := [(4, (0, ((b : Nat) : Int))), (3, (0, (bdA h mk kk u c b))), (0, (2, ((17 : Nat) : Int))), (1, (0, (mk))), (2, (0, (kk)))]) (st' := [(0, ((10000 : Nat) : Int)), (0, (h 28 b))]) (h' := h) (o118_12 hB) rfl ?_
        refine w_idiv (z := ((h 28 b) / 10000)) (pc' := 25) (o118_13 hB) rfl (divI_p (by omega) (by omega) (by decide)) ?_
        refine w_pl (pc' := 26) (lv' := [(4, (0, ((b : Nat) : Int))), (3, (0, (bdA h mk kk u c b))), (0, (2, ((17 : Nat) : Int))), (1, (0, (mk))), (2, (0, (kk)))]) (st' := [(0, (mk)), (0, ((h 28 b) / 10000))]) (h' := h) (o118_14 hB) rfl ?_
        refine w_icmp (pt := 69) (pf := 29) (o118_15 hB) (by decide) rfl (fun e => ?_) (fun e => ?_)
        · have f232 : (((h 28 b) / 10000) ≠ (mk)) := e
          refine w_iinc (x := ((b : Nat) : Int)) (z := (((b + 1) : Nat) : Int)) (pc' := 72) (lv' := [(4, (0, (((b + 1) : Nat) : Int))), (3, (0, (bdA h mk kk u c b))), (0, (2, ((17 : Nat) : Int))), (1, (0, (mk))), (2, (0, (kk)))]) (o118_39 hB) rfl rfl ml118 (by decide) (w32_e (by omega) (by omega)) rfl ?_
          refine w_goto (pt := 5) (o118_40 hB) (by decide) ?_
          refine w_sub (lv' := [(4, (0, (((b + 1) : Nat) : Int))), (3, (0, (bdA h mk kk u c b))), (0, (2, ((17 : Nat) : Int))), (1, (0, (mk))), (2, (0, (kk)))]) (List.forall_mem_cons.mpr ⟨(List.Mem.head _), (List.forall_mem_cons.mpr ⟨(List.Mem.tail _ (List.Mem.head _)), (List.forall_mem_cons.mpr ⟨(List.Mem.tail _ (List.Mem.tail _ (List.Mem.head _))), (List.forall_mem_cons.mpr ⟨(List.Mem.tail _ (List.Mem.tail _ (List.Mem.tail _ (List.Mem.head _)))), (List.forall_mem_cons.mpr ⟨(List.Mem.tail _ (List.Mem.tail _ (List.Mem.tail _ (List.Mem.tail _ (List.Mem.head _))))), (fun _ hx => by cases hx)⟩)⟩)⟩)⟩)⟩) ?_
          have e1 : (bdA h mk kk u c b) = bdA h mk kk u c (b + 1) := by
            simp only [bdA]
            rw [if_neg (fun q => absurd q.1 (by omega))]
            omega
          rw [e1]
          exact ih (b + 1) (by omega)
        · have f233 : ¬ (((h 28 b) / 10000) ≠ (mk)) := e
          refine w_pl (pc' := 30) (lv' := [(4, (0, ((b : Nat) : Int))), (3, (0, (bdA h mk kk u c b))), (0, (2, ((17 : Nat) : Int))), (1, (0, (mk))), (2, (0, (kk)))]) (st' := [(2, ((17 : Nat) : Int))]) (h' := h) (o118_16 hB) rfl ?_
          refine w_pl (pc' := 32) (lv' := [(4, (0, ((b : Nat) : Int))), (3, (0, (bdA h mk kk u c b))), (0, (2, ((17 : Nat) : Int))), (1, (0, (mk))), (2, (0, (kk)))]) (st' := [(0, ((b : Nat) : Int)), (2, ((17 : Nat) : Int))]) (h' := h) (o118_17 hB) rfl ?_
          refine w_callV (A := 17) (as := [(0, ((b : Nat) : Int))]) (rest := []) (n := 1) (pc' := 35) 9 hB (o118_18 hB) rfl (by decide +kernel) rfl rfl (Nat.le_of_ble_eq_true rfl) (m_isFirst hB ht (by omega) (fun f234 => ?_) (fun f235 => ?_))
          · show HW g l _ 118 _ _ 35 [(4, (0, ((b : Nat) : Int))), (3, (0, (bdA h mk kk u c b))), (0, (2, ((17 : Nat) : Int))), (1, (0, (mk))), (2, (0, (kk)))] [(0, ((1 : Nat) : Int))] h
            refine w_ifc (pt := 69) (pf := 38) (o118_19 hB) (by decide) rfl (fun e => ?_) (fun e => ?_)
            · have f236 : (((1 : Nat) : Int) = (0)) := e
              exfalso; omega
            · have f237 : ¬ (((1 : Nat) : Int) = (0)) := e
              refine w_pl (pc' := 39) (lv' := [(4, (0, ((b : Nat) : Int))), (3, (0, (bdA h mk kk u c b))), (0, (2, ((17 : Nat) : Int))), (1, (0, (mk))), (2, (0, (kk)))]) (st' := [(0, (bdA h mk kk u c b))]) (h' := h) (o118_20 hB) rfl ?_
              refine w_pl (pc' := 40) (lv' := [(4, (0, ((b : Nat) : Int))), (3, (0, (bdA h mk kk u c b))), (0, (2, ((17 : Nat) : Int))), (1, (0, (mk))), (2, (0, (kk)))]) (st' := [(0, ((0 : Nat) : Int)), (0, (bdA h mk kk u c b))]) (h' := h) (o118_21 hB) rfl ?_
              refine w_pl (pc' := 41) (lv' := [(4, (0, ((b : Nat) : Int))), (3, (0, (bdA h mk kk u c b))), (0, (2, ((17 : Nat) : Int))), (1, (0, (mk))), (2, (0, (kk)))]) (st' := [(2, ((17 : Nat) : Int)), (0, ((0 : Nat) : Int)), (0, (bdA h mk kk u c b))]) (h' := h) (o118_22 hB) rfl ?_
              refine w_pl (pc' := 42) (lv' := [(4, (0, ((b : Nat) : Int))), (3, (0, (bdA h mk kk u c b))), (0, (2, ((17 : Nat) : Int))), (1, (0, (mk))), (2, (0, (kk)))]) (st' := [(2, ((17 : Nat) : Int)), (2, ((17 : Nat) : Int)), (0, ((0 : Nat) : Int)), (0, (bdA h mk kk u c b))]) (h' := h) (o118_23 hB) rfl ?_
              refine w_getf (A := 17) (t := 2) (z := ((28 : Nat) : Int)) (pc' := 45) (o118_24 hB) rfl (by decide +kernel) (hR (17, 15, 28) (by decide)) ?_
              refine w_pl (pc' := 47) (lv' := [(4, (0, ((b : Nat) : Int))), (3, (0, (bdA h mk kk u c b))), (0, (2, ((17 : Nat) : Int))), (1, (0, (mk))), (2, (0, (kk)))]) (st' := [(0, ((b : Nat) : Int)), (2, ((28 : Nat) : Int)), (2, ((17 : Nat) : Int)), (0, ((0 : Nat) : Int)), (0, (bdA h mk kk u c b))]) (h' := h) (o118_25 hB) rfl ?_
              have f238 := ty_28_s0 ht (j := b) (r := b) (by omega) (by omega)
              refine w_iald (A := 28) (i := b) (n := 12) (z := (h 28 b)) (pc' := 48) (o118_26 hB) rfl (by decide +kernel) (by omega) rfl ?_
              refine w_callV (A := 17) (as := [(0, (h 28 b))]) (rest := [(0, ((0 : Nat) : Int)), (0, (bdA h mk kk u c b))]) (n := 1) (pc' := 51) 9 hB (o118_27 hB) rfl (by decide +kernel) rfl rfl (Nat.le_of_ble_eq_true rfl) (m_greatest hB ht hu lu ?_)
              show HW g l _ 118 _ _ 51 [(4, (0, ((b : Nat) : Int))), (3, (0, (bdA h mk kk u c b))), (0, (2, ((17 : Nat) : Int))), (1, (0, (mk))), (2, (0, (kk)))] [(0, (gfA h (h 28 b) u)), (0, ((0 : Nat) : Int)), (0, (bdA h mk kk u c b))] h
              refine w_pl (pc' := 52) (lv' := [(4, (0, ((b : Nat) : Int))), (3, (0, (bdA h mk kk u c b))), (0, (2, ((17 : Nat) : Int))), (1, (0, (mk))), (2, (0, (kk)))]) (st' := [(2, ((17 : Nat) : Int)), (0, (gfA h (h 28 b) u)), (0, ((0 : Nat) : Int)), (0, (bdA h mk kk u c b))]) (h' := h) (o118_28 hB) rfl ?_
              refine w_pl (pc' := 53) (lv' := [(4, (0, ((b : Nat) : Int))), (3, (0, (bdA h mk kk u c b))), (0, (2, ((17 : Nat) : Int))), (1, (0, (mk))), (2, (0, (kk)))]) (st' := [(2, ((17 : Nat) : Int)), (2, ((17 : Nat) : Int)), (0, (gfA h (h 28 b) u)), (0, ((0 : Nat) : Int)), (0, (bdA h mk kk u c b))]) (h' := h) (o118_29 hB) rfl ?_
              refine w_getf (A := 17) (t := 2) (z := ((28 : Nat) : Int)) (pc' := 56) (o118_30 hB) rfl (by decide +kernel) (hR (17, 15, 28) (by decide)) ?_
              refine w_pl (pc' := 58) (lv' := [(4, (0, ((b : Nat) : Int))), (3, (0, (bdA h mk kk u c b))), (0, (2, ((17 : Nat) : Int))), (1, (0, (mk))), (2, (0, (kk)))]) (st' := [(0, ((b : Nat) : Int)), (2, ((28 : Nat) : Int)), (2, ((17 : Nat) : Int)), (0, (gfA h (h 28 b) u)), (0, ((0 : Nat) : Int)), (0, (bdA h mk kk u c b))]) (h' := h) (o118_31 hB) rfl ?_
              have f240 := ty_28_s0 ht (j := b) (r := b) (by omega) (by omega)
              refine w_iald (A := 28) (i := b) (n := 12) (z := (h 28 b)) (pc' := 59) (o118_32 hB) rfl (by decide +kernel) (by omega) rfl ?_
              refine w_pl (pc' := 60) (lv' := [(4, (0, ((b : Nat) : Int))), (3, (0, (bdA h mk kk u c b))), (0, (2, ((17 : Nat) : Int))), (1, (0, (mk))), (2, (0, (kk)))]) (st' := [(0, (kk)), (0, (h 28 b)), (2, ((17 : Nat) : Int)), (0, (gfA h (h 28 b) u)), (0, ((0 : Nat) : Int)), (0, (bdA h mk kk u c b))]) (h' := h) (o118_33 hB) rfl ?_
              refine w_callV (A := 17) (as := [(0, (h 28 b)), (0, (kk))]) (rest := [(0, (gfA h (h 28 b) u)), (0, ((0 : Nat) : Int)), (0, (bdA h mk kk u c b))]) (n := 2) (pc' := 63) 9 hB (o118_34 hB) rfl (by decide +kernel) rfl rfl (Nat.le_of_ble_eq_true rfl) (m_countAt hB ht hc lc ?_)
              show HW g l _ 118 _ _ 63 [(4, (0, ((b : Nat) : Int))), (3, (0, (bdA h mk kk u c b))), (0, (2, ((17 : Nat) : Int))), (1, (0, (mk))), (2, (0, (kk)))] [(0, (cntA h (h 28 b) kk c)), (0, (gfA h (h 28 b) u)), (0, ((0 : Nat) : Int)), (0, (bdA h mk kk u c b))] h
              refine w_isub (z := ((gfA h (h 28 b) u) - (cntA h (h 28 b) kk c))) (pc' := 64) (o118_35 hB) rfl (w32_e (by omega) (by omega)) ?_
              refine w_callS (as := [(0, ((0 : Nat) : Int)), (0, ((gfA h (h 28 b) u) - (cntA h (h 28 b) kk c)))]) (rest := [(0, (bdA h mk kk u c b))]) (n := 2) (pc' := 67) hB (o118_36 hB) rfl (by decide +kernel) rfl rfl (Nat.le_of_ble_eq_true rfl) (m_max hB (by unfold in32; omega) (by unfold in32; omega) (fun f242 => ?_) (fun f243 => ?_))
              · show HW g l _ 118 _ _ 67 [(4, (0, ((b : Nat) : Int))), (3, (0, (bdA h mk kk u c b))), (0, (2, ((17 : Nat) : Int))), (1, (0, (mk))), (2, (0, (kk)))] [(0, ((0 : Nat) : Int)), (0, (bdA h mk kk u c b))] h
                refine w_iadd (z := ((bdA h mk kk u c b) + ((0 : Nat) : Int))) (pc' := 68) (o118_37 hB) rfl (w32_e (by omega) (by omega)) ?_
                refine w_st (tg := 0) (j := 3) (len := 1) (pc' := 69) (lv' := [(3, (0, ((bdA h mk kk u c b) + ((0 : Nat) : Int)))), (4, (0, ((b : Nat) : Int))), (0, (2, ((17 : Nat) : Int))), (1, (0, (mk))), (2, (0, (kk)))]) (o118_38 hB) rfl rfl ml118 (by decide) rfl ?_
                refine w_iinc (x := ((b : Nat) : Int)) (z := (((b + 1) : Nat) : Int)) (pc' := 72) (lv' := [(4, (0, (((b + 1) : Nat) : Int))), (3, (0, ((bdA h mk kk u c b) + ((0 : Nat) : Int)))), (0, (2, ((17 : Nat) : Int))), (1, (0, (mk))), (2, (0, (kk)))]) (o118_39 hB) rfl rfl ml118 (by decide) (w32_e (by omega) (by omega)) rfl ?_
                refine w_goto (pt := 5) (o118_40 hB) (by decide) ?_
                refine w_sub (lv' := [(4, (0, (((b + 1) : Nat) : Int))), (3, (0, ((bdA h mk kk u c b) + ((0 : Nat) : Int)))), (0, (2, ((17 : Nat) : Int))), (1, (0, (mk))), (2, (0, (kk)))]) (List.forall_mem_cons.mpr ⟨(List.Mem.head _), (List.forall_mem_cons.mpr ⟨(List.Mem.tail _ (List.Mem.head _)), (List.forall_mem_cons.mpr ⟨(List.Mem.tail _ (List.Mem.tail _ (List.Mem.head _))), (List.forall_mem_cons.mpr ⟨(List.Mem.tail _ (List.Mem.tail _ (List.Mem.tail _ (List.Mem.head _)))), (List.forall_mem_cons.mpr ⟨(List.Mem.tail _ (List.Mem.tail _ (List.Mem.tail _ (List.Mem.tail _ (List.Mem.head _))))), (fun _ hx => by cases hx)⟩)⟩)⟩)⟩)⟩) ?_
                have e1 : ((bdA h mk kk u c b) + ((0 : Nat) : Int)) = bdA h mk kk u c (b + 1) := by
                  simp only [bdA]
                  rw [if_pos ⟨by omega, f234⟩]
                  unfold blA
                  first | (rw [if_pos (by omega)]; done) | (rw [if_neg (by omega)]; done) | (split <;> omega)
                rw [e1]
                exact ih (b + 1) (by omega)
              · show HW g l _ 118 _ _ 67 [(4, (0, ((b : Nat) : Int))), (3, (0, (bdA h mk kk u c b))), (0, (2, ((17 : Nat) : Int))), (1, (0, (mk))), (2, (0, (kk)))] [(0, ((gfA h (h 28 b) u) - (cntA h (h 28 b) kk c))), (0, (bdA h mk kk u c b))] h
                refine w_iadd (z := ((bdA h mk kk u c b) + ((gfA h (h 28 b) u) - (cntA h (h 28 b) kk c)))) (pc' := 68) (o118_37 hB) rfl (w32_e (by omega) (by omega)) ?_
                refine w_st (tg := 0) (j := 3) (len := 1) (pc' := 69) (lv' := [(3, (0, ((bdA h mk kk u c b) + ((gfA h (h 28 b) u) - (cntA h (h 28 b) kk c))))), (4, (0, ((b : Nat) : Int))), (0, (2, ((17 : Nat) : Int))), (1, (0, (mk))), (2, (0, (kk)))]) (o118_38 hB) rfl rfl ml118 (by decide) rfl ?_
                refine w_iinc (x := ((b : Nat) : Int)) (z := (((b + 1) : Nat) : Int)) (pc' := 72) (lv' := [(4, (0, (((b + 1) : Nat) : Int))), (3, (0, ((bdA h mk kk u c b) + ((gfA h (h 28 b) u) - (cntA h (h 28 b) kk c))))), (0, (2, ((17 : Nat) : Int))), (1, (0, (mk))), (2, (0, (kk)))]) (o118_39 hB) rfl rfl ml118 (by decide) (w32_e (by omega) (by omega)) rfl ?_
                refine w_goto (pt := 5) (o118_40 hB) (by decide) ?_
                refine w_sub (lv' := [(4, (0, (((b + 1) : Nat) : Int))), (3, (0, ((bdA h mk kk u c b) + ((gfA h (h 28 b) u) - (cntA h (h 28 b) kk c))))), (0, (2, ((17 : Nat) : Int))), (1, (0, (mk))), (2, (0, (kk)))]) (List.forall_mem_cons.mpr ⟨(List.Mem.head _), (List.forall_mem_cons.mpr ⟨(List.Mem.tail _ (List.Mem.head _)), (List.forall_mem_cons.mpr ⟨(List.Mem.tail _ (List.Mem.tail _ (List.Mem.head _))), (List.forall_mem_cons.mpr ⟨(List.Mem.tail _ (List.Mem.tail _ (List.Mem.tail _ (List.Mem.head _)))), (List.forall_mem_cons.mpr ⟨(List.Mem.tail _ (List.Mem.tail _ (List.Mem.tail _ (List.Mem.tail _ (List.Mem.head _))))), (fun _ hx => by cases hx)⟩)⟩)⟩)⟩)⟩) ?_
                have e1 : ((bdA h mk kk u c b) + ((gfA h (h 28 b) u) - (cntA h (h 28 b) kk c))) = bdA h mk kk u c (b + 1) := by
                  simp only [bdA]
                  rw [if_pos ⟨by omega, f234⟩]
                  unfold blA
                  first | (rw [if_pos (by omega)]; done) | (rw [if_neg (by omega)]; done) | (split <;> omega)
                rw [e1]
                exact ih (b + 1) (by omega)
          · show HW g l _ 118 _ _ 35 [(4, (0, ((b : Nat) : Int))), (3, (0, (bdA h mk kk u c b))), (0, (2, ((17 : Nat) : Int))), (1, (0, (mk))), (2, (0, (kk)))] [(0, ((0 : Nat) : Int))] h
            refine w_ifc (pt := 69) (pf := 38) (o118_19 hB) (by decide) rfl (fun e => ?_) (fun e => ?_)
            · have f244 : (((0 : Nat) : Int) = (0)) := e
              refine w_iinc (x := ((b : Nat) : Int)) (z := (((b + 1) : Nat) : Int)) (pc' := 72) (lv' := [(4, (0, (((b + 1) : Nat) : Int))), (3, (0, (bdA h mk kk u c b))), (0, (2, ((17 : Nat) : Int))), (1, (0, (mk))), (2, (0, (kk)))]) (o118_39 hB) rfl rfl ml118 (by decide) (w32_e (by omega) (by omega)) rfl ?_
              refine w_goto (pt := 5) (o118_40 hB) (by decide) ?_
              refine w_sub (lv' := [(4, (0, (((b + 1) : Nat) : Int))), (3, (0, (bdA h mk kk u c b))), (0, (2, ((17 : Nat) : Int))), (1, (0, (mk))), (2, (0, (kk)))]) (List.forall_mem_cons.mpr ⟨(List.Mem.head _), (List.forall_mem_cons.mpr ⟨(List.Mem.tail _ (List.Mem.head _)), (List.forall_mem_cons.mpr ⟨(List.Mem.tail _ (List.Mem.tail _ (List.Mem.head _))), (List.forall_mem_cons.mpr ⟨(List.Mem.tail _ (List.Mem.tail _ (List.Mem.tail _ (List.Mem.head _)))), (List.forall_mem_cons.mpr ⟨(List.Mem.tail _ (List.Mem.tail _ (List.Mem.tail _ (List.Mem.tail _ (List.Mem.head _))))), (fun _ hx => by cases hx)⟩)⟩)⟩)⟩)⟩) ?_
              have e1 : (bdA h mk kk u c b) = bdA h mk kk u c (b + 1) := by
                simp only [bdA]
                rw [if_neg (fun q => f235 q.2)]
                omega
              rw [e1]
              exact ih (b + 1) (by omega)
            · have f245 : ¬ (((0 : Nat) : Int) = (0)) := e
              exfalso; omega
  refine mh_go hB mg118 ml118 (Nat.le_of_ble_eq_true rfl) ?_
  show HW g l (d + 1 + 1) 118 _ _ 0 [(0, (2, ((17 : Nat) : Int))), (1, (0, (mk))), (2, (0, (kk)))] [] h
  refine w_pl (pc' := 1) (lv' := [(0, (2, ((17 : Nat) : Int))), (1, (0, (mk))), (2, (0, (kk)))]) (st' := [(0, ((0 : Nat) : Int))]) (h' := h) (o118_0 hB) rfl ?_
  refine w_st (tg := 0) (j := 3) (len := 1) (pc' := 2) (lv' := [(3, (0, ((0 : Nat) : Int))), (0, (2, ((17 : Nat) : Int))), (1, (0, (mk))), (2, (0, (kk)))]) (o118_1 hB) rfl rfl ml118 (by decide) rfl ?_
  refine w_pl (pc' := 3) (lv' := [(3, (0, ((0 : Nat) : Int))), (0, (2, ((17 : Nat) : Int))), (1, (0, (mk))), (2, (0, (kk)))]) (st' := [(0, ((0 : Nat) : Int))]) (h' := h) (o118_2 hB) rfl ?_
  refine w_st (tg := 0) (j := 4) (len := 2) (pc' := 5) (lv' := [(4, (0, ((0 : Nat) : Int))), (3, (0, ((0 : Nat) : Int))), (0, (2, ((17 : Nat) : Int))), (1, (0, (mk))), (2, (0, (kk)))]) (o118_3 hB) rfl rfl ml118 (by decide) rfl ?_
  refine w_sub (lv' := [(4, (0, ((0 : Nat) : Int))), (3, (0, ((0 : Nat) : Int))), (0, (2, ((17 : Nat) : Int))), (1, (0, (mk))), (2, (0, (kk)))]) (List.forall_mem_cons.mpr ⟨(List.Mem.head _), (List.forall_mem_cons.mpr ⟨(List.Mem.tail _ (List.Mem.head _)), (List.forall_mem_cons.mpr ⟨(List.Mem.tail _ (List.Mem.tail _ (List.Mem.head _))), (List.forall_mem_cons.mpr ⟨(List.Mem.tail _ (List.Mem.tail _ (List.Mem.tail _ (List.Mem.head _)))), (List.forall_mem_cons.mpr ⟨(List.Mem.tail _ (List.Mem.tail _ (List.Mem.tail _ (List.Mem.tail _ (List.Mem.head _))))), (fun _ hx => by cases hx)⟩)⟩)⟩)⟩)⟩) ?_
  exact loop u 0 (by omega)
/-- the reference's: whether a draw counts, as far as the first b tell, and the sum -/
def flM (h : bH) (mk : Int) (d : Nat) : Nat → Int
  | 0 => if h 194 (514 + 5 * d) = mk then 1 else 0
  | b + 1 => if flM h mk d b ≠ 0 ∧ ¬ ((h 194 (514 + 5 * d) = h 194 (514 + 5 * b) ∧ h 194 (514 + 5 * d + 1) = h 194 (514 + 5 * b + 1) ∧ h 194 (514 + 5 * d + 2) = h 194 (514 + 5 * b + 2)) ∧ (h 194 (514 + 5 * d + 3) < h 194 (514 + 5 * b + 3) ∨ (h 194 (514 + 5 * b + 3) = h 194 (514 + 5 * d + 3) ∧ b < d))) then 1 else 0
def duM (h : bH) (mk kk : Int) (u c b : Nat) : Int := if flM h mk b u ≠ 0 ∧ cntM h mk (h 194 (514 + 5 * b + 1)) (h 194 (514 + 5 * b + 2)) kk c < h 194 (514 + 5 * b + 3) then h 194 (514 + 5 * b + 3) - cntM h mk (h 194 (514 + 5 * b + 1)) (h 194 (514 + 5 * b + 2)) kk c else 0
def unM (h : bH) (mk kk : Int) (u c : Nat) : Nat → Int
  | 0 => 0
  | b + 1 => unM h mk kk u c b + duM h mk kk u c b
theorem duM_r {h : bH} (ht : TH h) {mk kk : Int} {u c b : Nat} (hb : b < 12) (hc : c ≤ 24) : 0 ≤ duM h mk kk u c b ∧ duM h mk kk u c b ≤ 9999 := by
  have := ty_194_s517 ht (j := 514 + 5 * b + 3) (r := b) (by omega) (by omega)
  have := cntM_r ht (mk := mk) (ld := h 194 (514 + 5 * b + 1)) (mo := h 194 (514 + 5 * b + 2)) (kk := kk) c hc
  unfold duM
  split <;> omega
theorem unM_r {h : bH} (ht : TH h) {mk kk : Int} {u c : Nat} (hc : c ≤ 24) : ∀ b, b ≤ 12 → 0 ≤ unM h mk kk u c b ∧ unM h mk kk u c b ≤ 9999 * b
  | 0, _ => by simp [unM]
  | b + 1, hb => by
    have := unM_r ht (mk := mk) (kk := kk) (u := u) hc b (by omega)
    have := duM_r ht (mk := mk) (kk := kk) (u := u) (b := b) (by omega) hc
    simp only [unM]
    omega
theorem m_areAlike (hB : BytesOK) {g : bG} {l : Launch} {d : Nat} {Q : bQ} {h : bH} {d1 d2 : Nat} (ht : TH h) (l1 : d1 < 12) (l2 : d2 < 12) (h1 : (h 194 (514 + 5 * d1) = h 194 (514 + 5 * d2) ∧ h 194 (514 + 5 * d1 + 1) = h 194 (514 + 5 * d2 + 1) ∧ h 194 (514 + 5 * d1 + 2) = h 194 (514 + 5 * d2 + 2)) → Q (some (0, 1)) h) (h0 : ¬ (h 194 (514 + 5 * d1) = h 194 (514 + 5 * d2) ∧ h 194 (514 + 5 * d1 + 1) = h 194 (514 + 5 * d2 + 1) ∧ h 194 (514 + 5 * d1 + 2) = h 194 (514 + 5 * d2 + 2)) → Q (some (0, 0)) h) : MH g l d 245 212 212 [(2, ((193 : Nat) : Int)), (0, ((d1 : Nat) : Int)), (0, ((d2 : Nat) : Int))] h Q := by
  have hR := ht.r
  refine mh_go hB mg245 ml245 (Nat.le_of_ble_eq_true rfl) ?_
  show HW g l d 245 _ _ 0 [(0, (2, ((193 : Nat) : Int))), (1, (0, ((d1 : Nat) : Int))), (2, (0, ((d2 : Nat) : Int)))] [] h
  refine w_pl (pc' := 1) (lv' := [(0, (2, ((193 : Nat) : Int))), (1, (0, ((d1 : Nat) : Int))), (2, (0, ((d2 : Nat) : Int)))]) (st' := [(2, ((193 : Nat) : Int))]) (h' := h) (o245_0 hB) rfl ?_
  refine w_getf (A := 193) (t := 2) (z := ((194 : Nat) : Int)) (pc' := 4) (o245_1 hB) rfl (by decide +kernel) (hR (193, 0, 194) (by decide)) ?_
  refine w_pl (pc' := 7) (lv' := [(0, (2, ((193 : Nat) : Int))), (1, (0, ((d1 : Nat) : Int))), (2, (0, ((d2 : Nat) : Int)))]) (st' := [(0, ((514 : Nat) : Int)), (2, ((194 : Nat) : Int))]) (h' := h) (o245_2 hB) rfl ?_
  refine w_pl (pc' := 8) (lv' := [(0, (2, ((193 : Nat) : Int))), (1, (0, ((d1 : Nat) : Int))), (2, (0, ((d2 : Nat) : Int)))]) (st' := [(0, ((5 : Nat) : Int)), (0, ((514 : Nat) : Int)), (2, ((194 : Nat) : Int))]) (h' := h) (o245_3 hB) rfl ?_
  refine w_pl (pc' := 9) (lv' := [(0, (2, ((193 : Nat) : Int))), (1, (0, ((d1 : Nat) : Int))), (2, (0, ((d2 : Nat) : Int)))]) (st' := [(0, ((d1 : Nat) : Int)), (0, ((5 : Nat) : Int)), (0, ((514 : Nat) : Int)), (2, ((194 : Nat) : Int))]) (h' := h) (o245_4 hB) rfl ?_
  refine w_imul (z := (((5 * d1) : Nat) : Int)) (pc' := 10) (o245_5 hB) rfl (w32_e (by omega) (by omega)) ?_
  refine w_iadd (z := (((514 + (5 * d1)) : Nat) : Int)) (pc' := 11) (o245_6 hB) rfl (w32_e (by omega) (by omega)) ?_
  have f246 := ty_194_s514 ht (j := (514 + (5 * d1))) (r := d1) (by omega) (by omega)
  refine w_iald (A := 194) (i := (514 + (5 * d1))) (n := 1984) (z := (h 194 (514 + (5 * d1)))) (pc' := 12) (o245_7 hB) rfl (by decide +kernel) (by omega) rfl ?_
  refine w_pl (pc' := 13) (lv' := [(0, (2, ((193 : Nat) : Int))), (1, (0, ((d1 : Nat) : Int))), (2, (0, ((d2 : Nat) : Int)))]) (st' := [(2, ((193 : Nat) : Int)), (0, (h 194 (514 + (5 * d1))))]) (h' := h) (o245_8 hB) rfl ?_
  refine w_getf (A := 193) (t := 2) (z := ((194 : Nat) : Int)) (pc' := 16) (o245_9 hB) rfl (by decide +kernel) (hR (193, 0, 194) (by decide)) ?_
  refine w_pl (pc' := 19) (lv' := [(0, (2, ((193 : Nat) : Int))), (1, (0, ((d1 : Nat) : Int))), (2, (0, ((d2 : Nat) : Int)))]) (st' := [(0, ((514 : Nat) : Int)), (2, ((194 : Nat) : Int)), (0, (h 194 (514 + (5 * d1))))]) (h' := h) (o245_10 hB) rfl ?_
  refine w_pl (pc' := 20) (lv' := [(0, (2, ((193 : Nat) : Int))), (1, (0, ((d1 : Nat) : Int))), (2, (0, ((d2 : Nat) : Int)))]) (st' := [(0, ((5 : Nat) : Int)), (0, ((514 : Nat) : Int)), (2, ((194 : Nat) : Int)), (0, (h 194 (514 + (5 * d1))))]) (h' := h) (o245_11 hB) rfl ?_
  refine w_pl (pc' := 21) (lv' := [(0, (2, ((193 : Nat) : Int))), (1, (0, ((d1 : Nat) : Int))), (2, (0, ((d2 : Nat) : Int)))]) (st' := [(0, ((d2 : Nat) : Int)), (0, ((5 : Nat) : Int)), (0, ((514 : Nat) : Int)), (2, ((194 : Nat) : Int)), (0, (h 194 (514 + (5 * d1))))]) (h' := h) (o245_12 hB) rfl ?_
  refine w_imul (z := (((5 * d2) : Nat) : Int)) (pc' := 22) (o245_13 hB) rfl (w32_e (by omega) (by omega)) ?_
  refine w_iadd (z := (((514 + (5 * d2)) : Nat) : Int)) (pc' := 23) (o245_14 hB) rfl (w32_e (by omega) (by omega)) ?_
  have f247 := ty_194_s514 ht (j := (514 + (5 * d2))) (r := d2) (by omega) (by omega)
  refine w_iald (A := 194) (i := (514 + (5 * d2))) (n := 1984) (z := (h 194 (514 + (5 * d2)))) (pc' := 24) (o245_15 hB) rfl (by decide +kernel) (by omega) rfl ?_
  refine w_icmp (pt := 93) (pf := 27) (o245_16 hB) (by decide) rfl (fun e => ?_) (fun e => ?_)
  · have f248 : ((h 194 (514 + (5 * d1))) ≠ (h 194 (514 + (5 * d2)))) := e
    refine w_pl (pc' := 94) (lv' := [(0, (2, ((193 : Nat) : Int))), (1, (0, ((d1 : Nat) : Int))), (2, (0, ((d2 : Nat) : Int)))]) (st' := [(0, ((0 : Nat) : Int))]) (h' := h) (o245_61 hB) rfl ?_
    exact w_zret (o245_62 hB) mr245 (by decide) (h0 (by omega))
  · have f249 : ¬ ((h 194 (514 + (5 * d1))) ≠ (h 194 (514 + (5 * d2)))) := e
    refine w_pl (pc' := 28) (lv' := [(0, (2, ((193 : Nat) : Int))), (1, (0, ((d1 : Nat) : Int))), (2, (0, ((d2 : Nat) : Int)))]) (st' := [(2, ((193 : Nat) : Int))]) (h' := h) (o245_17 hB) rfl ?_
    refine w_getf (A := 193) (t := 2) (z := ((194 : Nat) : Int)) (pc' := 31) (o245_18 hB) rfl (by decide +kernel) (hR (193, 0, 194) (by decide)) ?_
    refine w_pl (pc' := 34) (lv' := [(0, (2, ((193 : Nat) : Int))), (1, (0, ((d1 : Nat) : Int))), (2, (0, ((d2 : Nat) : Int)))]) (st' := [(0, ((514 : Nat) : Int)), (2, ((194 : Nat) : Int))]) (h' := h) (o245_19 hB) rfl ?_
    refine w_pl (pc' := 35) (lv' := [(0, (2, ((193 : Nat) : Int))), (1, (0, ((d1 : Nat) : Int))), (2, (0, ((d2 : Nat) : Int)))]) (st' := [(0, ((5 : Nat) : Int)), (0, ((514 : Nat) : Int)), (2, ((194 : Nat) : Int))]) (h' := h) (o245_20 hB) rfl ?_
    refine w_pl (pc' := 36) (lv' := [(0, (2, ((193 : Nat) : Int))), (1, (0, ((d1 : Nat) : Int))), (2, (0, ((d2 : Nat) : Int)))]) (st' := [(0, ((d1 : Nat) : Int)), (0, ((5 : Nat) : Int)), (0, ((514 : Nat) : Int)), (2, ((194 : Nat) : Int))]) (h' := h) (o245_21 hB) rfl ?_
    refine w_imul (z := (((5 * d1) : Nat) : Int)) (pc' := 37) (o245_22 hB) rfl (w32_e (by omega) (by omega)) ?_
    refine w_iadd (z := (((514 + (5 * d1)) : Nat) : Int)) (pc' := 38) (o245_23 hB) rfl (w32_e (by omega) (by omega)) ?_
    refine w_pl (pc' := 39) (lv' := [(0, (2, ((193 : Nat) : Int))), (1, (0, ((d1 : Nat) : Int))), (2, (0, ((d2 : Nat) : Int)))]) (st' := [(0, ((1 : Nat) : Int)), (0, (((514 + (5 * d1)) : Nat) : Int)), (2, ((194 : Nat) : Int))]) (h' := h) (o245_24 hB) rfl ?_
    refine w_iadd (z := ((((514 + (5 * d1)) + 1) : Nat) : Int)) (pc' := 40) (o245_25 hB) rfl (w32_e (by omega) (by omega)) ?_
    have f250 := ty_194_s515 ht (j := ((514 + (5 * d1)) + 1)) (r := d1) (by omega) (by omega)
    refine w_iald (A := 194) (i := ((514 + (5 * d1)) + 1)) (n := 1984) (z := (h 194 ((514 + (5 * d1)) + 1))) (pc' := 41) (o245_26 hB) rfl (by decide +kernel) (by omega) rfl ?_
    refine w_pl (pc' := 42) (lv' := [(0, (2, ((193 : Nat) : Int))), (1, (0, ((d1 : Nat) : Int))), (2, (0, ((d2 : Nat) : Int)))]) (st' := [(2, ((193 : Nat) : Int)), (0, (h 194 ((514 + (5 * d1)) + 1)))]) (h' := h) (o245_27 hB) rfl ?_
    refine w_getf (A := 193) (t := 2) (z := ((194 : Nat) : Int)) (pc' := 45) (o245_28 hB) rfl (by decide +kernel) (hR (193, 0, 194) (by decide)) ?_
    refine w_pl (pc' := 48) (lv' := [(0, (2, ((193 : Nat) : Int))), (1, (0, ((d1 : Nat) : Int))), (2, (0, ((d2 : Nat) : Int)))]) (st' := [(0, ((514 : Nat) : Int)), (2, ((194 : Nat) : Int)), (0, (h 194 ((514 + (5 * d1)) + 1)))]) (h' := h) (o245_29 hB) rfl ?_
    refine w_pl (pc' := 49) (lv' := [(0, (2, ((193 : Nat) : Int))), (1, (0, ((d1 : Nat) : Int))), (2, (0, ((d2 : Nat) : Int)))]) (st' := [(0, ((5 : Nat) : Int)), (0, ((514 : Nat) : Int)), (2, ((194 : Nat) : Int)), (0, (h 194 ((514 + (5 * d1)) + 1)))]) (h' := h) (o245_30 hB) rfl ?_
    refine w_pl (pc' := 50) (lv' := [(0, (2, ((193 : Nat) : Int))), (1, (0, ((d1 : Nat) : Int))), (2, (0, ((d2 : Nat) : Int)))]) (st' := [(0, ((d2 : Nat) : Int)), (0, ((5 : Nat) : Int)), (0, ((514 : Nat) : Int)), (2, ((194 : Nat) : Int)), (0, (h 194 ((514 + (5 * d1)) + 1)))]) (h' := h) (o245_31 hB) rfl ?_
    refine w_imul (z := (((5 * d2) : Nat) : Int)) (pc' := 51) (o245_32 hB) rfl (w32_e (by omega) (by omega)) ?_
    refine w_iadd (z := (((514 + (5 * d2)) : Nat) : Int)) (pc' := 52) (o245_33 hB) rfl (w32_e (by omega) (by omega)) ?_
    refine w_pl (pc' := 53) (lv' := [(0, (2, ((193 : Nat) : Int))), (1, (0, ((d1 : Nat) : Int))), (2, (0, ((d2 : Nat) : Int)))]) (st' := [(0, ((1 : Nat) : Int)), (0, (((514 + (5 * d2)) : Nat) : Int)), (2, ((194 : Nat) : Int)), (0, (h 194 ((514 + (5 * d1)) + 1)))]) (h' := h) (o245_34 hB) rfl ?_
    refine w_iadd (z := ((((514 + (5 * d2)) + 1) : Nat) : Int)) (pc' := 54) (o245_35 hB) rfl (w32_e (by omega) (by omega)) ?_
    have f251 := ty_194_s515 ht (j := ((514 + (5 * d2)) + 1)) (r := d2) (by omega) (by omega)
    refine w_iald (A := 194) (i := ((514 + (5 * d2)) + 1)) (n := 1984) (z := (h 194 ((514 + (5 * d2)) + 1))) (pc' := 55) (o245_36 hB) rfl (by decide +kernel) (by omega) rfl ?_
    refine w_icmp (pt := 93) (pf := 58) (o245_37 hB) (by decide) rfl (fun e => ?_) (fun e => ?_)
    · have f252 : ((h 194 ((514 + (5 * d1)) + 1)) ≠ (h 194 ((514 + (5 * d2)) + 1))) := e
      refine w_pl (pc' := 94) (lv' := [(0, (2, ((193 : Nat) : Int))), (1, (0, ((d1 : Nat) : Int))), (2, (0, ((d2 : Nat) : Int)))]) (st' := [(0, ((0 : Nat) : Int))]) (h' := h) (o245_61 hB) rfl ?_
      exact w_zret (o245_62 hB) mr245 (by decide) (h0 (by omega))
    · have f253 : ¬ ((h 194 ((514 + (5 * d1)) + 1)) ≠ (h 194 ((514 + (5 * d2)) + 1))) := e
      refine w_pl (pc' := 59) (lv' := [(0, (2, ((193 : Nat) : Int))), (1, (0, ((d1 : Nat) : Int))), (2, (0, ((d2 : Nat) : Int)))]) (st' := [(2, ((193 : Nat) : Int))]) (h' := h) (o245_38 hB) rfl ?_
      refine w_getf (A := 193) (t := 2) (z := ((194 : Nat) : Int)) (pc' := 62) (o245_39 hB) rfl (by decide +kernel) (hR (193, 0, 194) (by decide)) ?_
      refine w_pl (pc' := 65) (lv' := [(0, (2, ((193 : Nat) : Int))), (1, (0, ((d1 : Nat) : Int))), (2, (0, ((d2 : Nat) : Int)))]) (st' := [(0, ((514 : Nat) : Int)), (2, ((194 : Nat) : Int))]) (h' := h) (o245_40 hB) rfl ?_
      refine w_pl (pc' := 66) (lv' := [(0, (2, ((193 : Nat) : Int))), (1, (0, ((d1 : Nat) : Int))), (2, (0, ((d2 : Nat) : Int)))]) (st' := [(0, ((5 : Nat) : Int)), (0, ((514 : Nat) : Int)), (2, ((194 : Nat) : Int))]) (h' := h) (o245_41 hB) rfl ?_
      refine w_pl (pc' := 67) (lv' := [(0, (2, ((193 : Nat) : Int))), (1, (0, ((d1 : Nat) : Int))), (2, (0, ((d2 : Nat) : Int)))]) (st' := [(0, ((d1 : Nat) : Int)), (0, ((5 : Nat) : Int)), (0, ((514 : Nat) : Int)), (2, ((194 : Nat) : Int))]) (h' := h) (o245_42 hB) rfl ?_
      refine w_imul (z := (((5 * d1) : Nat) : Int)) (pc' := 68) (o245_43 hB) rfl (w32_e (by omega) (by omega)) ?_
      refine w_iadd (z := (((514 + (5 * d1)) : Nat) : Int)) (pc' := 69) (o245_44 hB) rfl (w32_e (by omega) (by omega)) ?_
      refine w_pl (pc' := 70) (lv' := [(0, (2, ((193 : Nat) : Int))), (1, (0, ((d1 : Nat) : Int))), (2, (0, ((d2 : Nat) : Int)))]) (st' := [(0, ((2 : Nat) : Int)), (0, (((514 + (5 * d1)) : Nat) : Int)), (2, ((194 : Nat) : Int))]) (h' := h) (o245_45 hB) rfl ?_
      refine w_iadd (z := ((((514 + (5 * d1)) + 2) : Nat) : Int)) (pc' := 71) (o245_46 hB) rfl (w32_e (by omega) (by omega)) ?_
      have f254 := ty_194_s516 ht (j := ((514 + (5 * d1)) + 2)) (r := d1) (by omega) (by omega)
      refine w_iald (A := 194) (i := ((514 + (5 * d1)) + 2)) (n := 1984) (z := (h 194 ((514 + (5 * d1)) + 2))) (pc' := 72) (o245_47 hB) rfl (by decide +kernel) (by omega) rfl ?_
      refine w_pl (pc' := 73) (lv' := [(0, (2, ((193 : Nat) : Int))), (1, (0, ((d1 : Nat) : Int))), (2, (0, ((d2 : Nat) : Int)))]) (st' := [(2, ((193 : Nat) : Int)), (0, (h 194 ((514 + (5 * d1)) + 2)))]) (h' := h) (o245_48 hB) rfl ?_
      refine w_getf (A := 193) (t := 2) (z := ((194 : Nat) : Int)) (pc' := 76) (o245_49 hB) rfl (by decide +kernel) (hR (193, 0, 194) (by decide)) ?_
      refine w_pl (pc' := 79) (lv' := [(0, (2, ((193 : Nat) : Int))), (1, (0, ((d1 : Nat) : Int))), (2, (0, ((d2 : Nat) : Int)))]) (st' := [(0, ((514 : Nat) : Int)), (2, ((194 : Nat) : Int)), (0, (h 194 ((514 + (5 * d1)) + 2)))]) (h' := h) (o245_50 hB) rfl ?_
      refine w_pl (pc' := 80) (lv' := [(0, (2, ((193 : Nat) : Int))), (1, (0, ((d1 : Nat) : Int))), (2, (0, ((d2 : Nat) : Int)))]) (st' := [(0, ((5 : Nat) : Int)), (0, ((514 : Nat) : Int)), (2, ((194 : Nat) : Int)), (0, (h 194 ((514 + (5 * d1)) + 2)))]) (h' := h) (o245_51 hB) rfl ?_
      refine w_pl (pc' := 81) (lv' := [(0, (2, ((193 : Nat) : Int))), (1, (0, ((d1 : Nat) : Int))), (2, (0, ((d2 : Nat) : Int)))]) (st' := [(0, ((d2 : Nat) : Int)), (0, ((5 : Nat) : Int)), (0, ((514 : Nat) : Int)), (2, ((194 : Nat) : Int)), (0, (h 194 ((514 + (5 * d1)) + 2)))]) (h' := h) (o245_52 hB) rfl ?_
      refine w_imul (z := (((5 * d2) : Nat) : Int)) (pc' := 82) (o245_53 hB) rfl (w32_e (by omega) (by omega)) ?_
      refine w_iadd (z := (((514 + (5 * d2)) : Nat) : Int)) (pc' := 83) (o245_54 hB) rfl (w32_e (by omega) (by omega)) ?_
      refine w_pl (pc' := 84) (lv' := [(0, (2, ((193 : Nat) : Int))), (1, (0, ((d1 : Nat) : Int))), (2, (0, ((d2 : Nat) : Int)))]) (st' := [(0, ((2 : Nat) : Int)), (0, (((514 + (5 * d2)) : Nat) : Int)), (2, ((194 : Nat) : Int)), (0, (h 194 ((514 + (5 * d1)) + 2)))]) (h' := h) (o245_55 hB) rfl ?_
      refine w_iadd (z := ((((514 + (5 * d2)) + 2) : Nat) : Int)) (pc' := 85) (o245_56 hB) rfl (w32_e (by omega) (by omega)) ?_
      have f255 := ty_194_s516 ht (j := ((514 + (5 * d2)) + 2)) (r := d2) (by omega) (by omega)
      refine w_iald (A := 194) (i := ((514 + (5 * d2)) + 2)) (n := 1984) (z := (h 194 ((514 + (5 * d2)) + 2))) (pc' := 86) (o245_57 hB) rfl (by decide +kernel) (by omega) rfl ?_
      refine w_icmp (pt := 93) (pf := 89) (o245_58 hB) (by decide) rfl (fun e => ?_) (fun e => ?_)
      · have f256 : ((h 194 ((514 + (5 * d1)) + 2)) ≠ (h 194 ((514 + (5 * d2)) + 2))) := e
        refine w_pl (pc' := 94) (lv' := [(0, (2, ((193 : Nat) : Int))), (1, (0, ((d1 : Nat) : Int))), (2, (0, ((d2 : Nat) : Int)))]) (st' := [(0, ((0 : Nat) : Int))]) (h' := h) (o245_61 hB) rfl ?_
        exact w_zret (o245_62 hB) mr245 (by decide) (h0 (by omega))
      · have f257 : ¬ ((h 194 ((514 + (5 * d1)) + 2)) ≠ (h 194 ((514 + (5 * d2)) + 2))) := e
        refine w_pl (pc' := 90) (lv' := [(0, (2, ((193 : Nat) : Int))), (1, (0, ((d1 : Nat) : Int))), (2, (0, ((d2 : Nat) : Int)))]) (st' := [(0, ((1 : Nat) : Int))]) (h' := h) (o245_59 hB) rfl ?_
        refine w_goto (pt := 94) (o245_60 hB) (by decide) ?_
        exact w_zret (o245_62 hB) mr245 (by decide) (h1 (by omega))
theorem l_unM (hB : BytesOK) {g : bG} {l : Launch} {d : Nat} {Q : bQ} {h : bH} (ht : TH h) {mk kk s : Int} {u d1 : Nat} (hu : h 194 8 = (u : Int)) (lu : u ≤ 12) (hd : d1 < u) (he : HW g l (d + 1) 246 212 Q 178 [(6, (0, (flM h mk d1 u))), (5, (0, (((514 + 5 * d1) : Nat) : Int))), (4, (0, ((d1 : Nat) : Int))), (3, (0, (s))), (0, (2, ((193 : Nat) : Int))), (1, (0, (mk))), (2, (0, (kk)))] [] h) : ∀ q b, b + q = u → HW g l (d + 1) 246 212 Q 64 [(7, (0, ((b : Nat) : Int))), (6, (0, (flM h mk d1 b))), (5, (0, (((514 + 5 * d1) : Nat) : Int))), (4, (0, ((d1 : Nat) : Int))), (3, (0, (s))), (0, (2, ((193 : Nat) : Int))), (1, (0, (mk))), (2, (0, (kk)))] [] h := by
  have hR := ht.r
  intro q
  induction q with
  | zero =>
    intro b hb
    refine w_pl (pc' := 66) (lv' := [(7, (0, ((b : Nat) : Int))), (6, (0, (flM h mk d1 b))), (5, (0, (((514 + 5 * d1) : Nat) : Int))), (4, (0, ((d1 : Nat) : Int))), (3, (0, (s))), (0, (2, ((193 : Nat) : Int))), (1, (0, (mk))), (2, (0, (kk)))]) (st' := [(0, ((b : Nat) : Int))]) (h' := h) (o246_36 hB) rfl ?_
    refine w_pl (pc' := 67) (lv' := [(7, (0, ((b : Nat) : Int))), (6, (0, (flM h mk d1 b))), (5, (0, (((514 + 5 * d1) : Nat) : Int))), (4, (0, ((d1 : Nat) : Int))), (3, (0, (s))), (0, (2, ((193 : Nat) : Int))), (1, (0, (mk))), (2, (0, (kk)))]) (st' := [(2, ((193 : Nat) : Int)), (0, ((b : Nat) : Int))]) (h' := h) (o246_37 hB) rfl ?_
    refine w_getf (A := 193) (t := 2) (z := ((194 : Nat) : Int)) (pc' := 70) (o246_38 hB) rfl (by decide +kernel) (hR (193, 0, 194) (by decide)) ?_
    refine w_pl (pc' := 72) (lv' := [(7, (0, ((b : Nat) : Int))), (6, (0, (flM h mk d1 b))), (5, (0, (((514 + 5 * d1) : Nat) : Int))), (4, (0, ((d1 : Nat) : Int))), (3, (0, (s))), (0, (2, ((193 : Nat) : Int))), (1, (0, (mk))), (2, (0, (kk)))]) (st' := [(0, ((8 : Nat) : Int)), (2, ((194 : Nat) : Int)), (0, ((b : Nat) : Int))]) (h' := h) (o246_39 hB) rfl ?_
    refine w_iald (A := 194) (i := 8) (n := 1984) (z := ((u : Nat) : Int)) (pc' := 73) (o246_40 hB) rfl (by decide +kernel) (by omega) hu ?_
    refine w_icmp (pt := 178) (pf := 76) (o246_41 hB) (by decide) rfl (fun e => ?_) (fun e => ?_)
    · have f258 : (((u : Nat) : Int) ≤ ((b : Nat) : Int)) := e
      refine w_sub (lv' := [(6, (0, (flM h mk d1 b))), (5, (0, (((514 + 5 * d1) : Nat) : Int))), (4, (0, ((d1 : Nat) : Int))), (3, (0, (s))), (0, (2, ((193 : Nat) : Int))), (1, (0, (mk))), (2, (0, (kk)))]) (List.forall_mem_cons.mpr ⟨(List.Mem.tail _ (List.Mem.head _)), (List.forall_mem_cons.mpr ⟨(List.Mem.tail _ (List.Mem.tail _ (List.Mem.head _))), (List.forall_mem_cons.mpr ⟨(List.Mem.tail _ (List.Mem.tail _ (List.Mem.tail _ (List.Mem.head _)))), (List.forall_mem_cons.mpr ⟨(List.Mem.tail _ (List.Mem.tail _ (List.Mem.tail _ (List.Mem.tail _ (List.Mem.head _))))), (List.forall_mem_cons.mpr ⟨(List.Mem.tail _ (List.Mem.tail _ (List.Mem.tail _ (List.Mem.tail _ (List.Mem.tail _ (List.Mem.head _)))))), (List.forall_mem_cons.mpr ⟨(List.Mem.tail _ (List.Mem.tail _ (List.Mem.tail _ (List.Mem.tail _ (List.Mem.tail _ (List.Mem.tail _ (List.Mem.head _))))))), (List.forall_mem_cons.mpr ⟨(List.Mem.tail _ (List.Mem.tail _ (List.Mem.tail _ (List.Mem.tail _ (List.Mem.tail _ (List.Mem.tail _ (List.Mem.tail _ (List.Mem.head _)))))))), (fun _ hx => by cases hx)⟩)⟩)⟩)⟩)⟩)⟩)⟩) ?_
      obtain rfl : b = u := by omega
      exact he
    · have f259 : ¬ (((u : Nat) : Int) ≤ ((b : Nat) : Int)) := e
      exfalso; omega
  | succ q ih =>
    intro b hb
    refine w_pl (pc' := 66) (lv' := [(7, (0, ((b : Nat) : Int))), (6, (0, (flM h mk d1 b))), (5, (0, (((514 + 5 * d1) : Nat) : Int))), (4, (0, ((d1 : Nat) : Int))), (3, (0, (s))), (0, (2, ((193 : Nat) : Int))), (1, (0, (mk))), (2, (0, (kk)))]) (st' := [(0, ((b : Nat) : Int))]) (h' := h) (o246_36 hB) rfl ?_
    refine w_pl (pc' := 67) (lv' := [(7, (0, ((b : Nat) : Int))), (6, (0, (flM h mk d1 b))), (5, (0, (((514 + 5 * d1) : Nat) : Int))), (4, (0, ((d1 : Nat) : Int))), (3, (0, (s))), (0, (2, ((193 : Nat) : Int))), (1, (0, (mk))), (2, (0, (kk)))]) (st' := [(2, ((193 : Nat) : Int)), (0, ((b : Nat) : Int))]) (h' := h) (o246_37 hB) rfl ?_
    refine w_getf (A := 193) (t := 2) (z := ((194 : Nat) : Int)) (pc' := 70) (o246_38 hB) rfl (by decide +kernel) (hR (193, 0, 194) (by decide)) ?_
    refine w_pl (pc' := 72) (lv' := [(7, (0, ((b : Nat) : Int))), (6, (0, (flM h mk d1 b))), (5, (0, (((514 + 5 * d1) : Nat) : Int))), (4, (0, ((d1 : Nat) : Int))), (3, (0, (s))), (0, (2, ((193 : Nat) : Int))), (1, (0, (mk))), (2, (0, (kk)))]) (st' := [(0, ((8 : Nat) : Int)), (2, ((194 : Nat) : Int)), (0, ((b : Nat) : Int))]) (h' := h) (o246_39 hB) rfl ?_
    refine w_iald (A := 194) (i := 8) (n := 1984) (z := ((u : Nat) : Int)) (pc' := 73) (o246_40 hB) rfl (by decide +kernel) (by omega) hu ?_
    refine w_icmp (pt := 178) (pf := 76) (o246_41 hB) (by decide) rfl (fun e => ?_) (fun e => ?_)
    · have f260 : (((u : Nat) : Int) ≤ ((b : Nat) : Int)) := e
      exfalso; omega
    · have f261 : ¬ (((u : Nat) : Int) ≤ ((b : Nat) : Int)) := e
      refine w_pl (pc' := 77) (lv' := [(7, (0, ((b : Nat) : Int))), (6, (0, (flM h mk d1 b))), (5, (0, (((514 + 5 * d1) : Nat) : Int))), (4, (0, ((d1 : Nat) : Int))), (3, (0, (s))), (0, (2, ((193 : Nat) : Int))), (1, (0, (mk))), (2, (0, (kk)))]) (st' := [(2, ((193 : Nat) : Int))]) (h' := h) (o246_42 hB) rfl ?_
      refine w_getf (A := 193) (t := 2) (z := ((194 : Nat) : Int)) (pc' := 80) (o246_43 hB) rfl (by decide +kernel) (hR (193, 0, 194) (by decide)) ?_
      refine w_pl (pc' := 83) (lv' := [(7, (0, ((b : Nat) : Int))), (6, (0, (flM h mk d1 b))), (5, (0, (((514 + 5 * d1) : Nat) : Int))), (4, (0, ((d1 : Nat) : Int))), (3, (0, (s))), (0, (2, ((193 : Nat) : Int))), (1, (0, (mk))), (2, (0, (kk)))]) (st' := [(0, ((514 : Nat) : Int)), (2, ((194 : Nat) : Int))]) (h' := h) (o246_44 hB) rfl ?_
      refine w_pl (pc' := 84) (lv' := [(7, (0, ((b : Nat) : Int))), (6, (0, (flM h mk d1 b))), (5, (0, (((514 + 5 * d1) : Nat) : Int))), (4, (0, ((d1 : Nat) : Int))), (3, (0, (s))), (0, (2, ((193 : Nat) : Int))), (1, (0, (mk))), (2, (0, (kk)))]) (st' := [(0, ((5 : Nat) : Int)), (0, ((514 : Nat) : Int)), (2, ((194 : Nat) : Int))]) (h' := h) (o246_45 hB) rfl ?_
      refine w_pl (pc' := 86) (lv' := [(7, (0, ((b : Nat) : Int))), (6, (0, (flM h mk d1 b))), (5, (0, (((514 + 5 * d1) : Nat) : Int))), (4, (0, ((d1 : Nat) : Int))), (3, (0, (s))), (0, (2, ((193 : Nat) : Int))), (1, (0, (mk))), (2, (0, (kk)))]) (st' := [(0, ((b : Nat) : Int)), (0, ((5 : Nat) : Int)), (0, ((514 : Nat) : Int)), (2, ((194 : Nat) : Int))]) (h' := h) (o246_46 hB) rfl ?_
      refine w_imul (z := (((5 * b) : Nat) : Int)) (pc' := 87) (o246_47 hB) rfl (w32_e (by omega) (by omega)) ?_
      refine w_iadd (z := (((514 + (5 * b)) : Nat) : Int)) (pc' := 88) (o246_48 hB) rfl (w32_e (by omega) (by omega)) ?_
      refine w_pl (pc' := 89) (lv' := [(7, (0, ((b : Nat) : Int))), (6, (0, (flM h mk d1 b))), (5, (0, (((514 + 5 * d1) : Nat) : Int))), (4, (0, ((d1 : Nat) : Int))), (3, (0, (s))), (0, (2, ((193 : Nat) : Int))), (1, (0, (mk))), (2, (0, (kk)))]) (st' := [(0, ((3 : Nat) : Int)), (0, (((514 + (5 * b)) : Nat) : Int)), (2, ((194 : Nat) : Int))]) (h' := h) (o246_49 hB) rfl ?_
      refine w_iadd (z := ((((514 + (5 * b)) + 3) : Nat) : Int)) (pc' := 90) (o246_50 hB) rfl (w32_e (by omega) (by omega)) ?_
      have f262 := ty_194_s517 ht (j := ((514 + (5 * b)) + 3)) (r := b) (by omega) (by omega)
      refine w_iald (A := 194) (i := ((514 + (5 * b)) + 3)) (n := 1984) (z := (h 194 ((514 + (5 * b)) + 3))) (pc' := 91) (o246_51 hB) rfl (by decide +kernel) (by omega) rfl ?_
      refine w_pl (pc' := 92) (lv' := [(7, (0, ((b : Nat) : Int))), (6, (0, (flM h mk d1 b))), (5, (0, (((514 + 5 * d1) : Nat) : Int))), (4, (0, ((d1 : Nat) : Int))), (3, (0, (s))), (0, (2, ((193 : Nat) : Int))), (1, (0, (mk))), (2, (0, (kk)))]) (st' := [(2, ((193 : Nat) : Int)), (0, (h 194 ((514 + (5 * b)) + 3)))]) (h' := h) (o246_52 hB) rfl ?_
      refine w_getf (A := 193) (t := 2) (z := ((194 : Nat) : Int)) (pc' := 95) (o246_53 hB) rfl (by decide +kernel) (hR (193, 0, 194) (by decide)) ?_
      refine w_pl (pc' := 97) (lv' := [(7, (0, ((b : Nat) : Int))), (6, (0, (flM h mk d1 b))), (5, (0, (((514 + 5 * d1) : Nat) : Int))), (4, (0, ((d1 : Nat) : Int))), (3, (0, (s))), (0, (2, ((193 : Nat) : Int))), (1, (0, (mk))), (2, (0, (kk)))]) (st' := [(0, (((514 + 5 * d1) : Nat) : Int)), (2, ((194 : Nat) : Int)), (0, (h 194 ((514 + (5 * b)) + 3)))]) (h' := h) (o246_54 hB) rfl ?_
      refine w_pl (pc' := 98) (lv' := [(7, (0, ((b : Nat) : Int))), (6, (0, (flM h mk d1 b))), (5, (0, (((514 + 5 * d1) : Nat) : Int))), (4, (0, ((d1 : Nat) : Int))), (3, (0, (s))), (0, (2, ((193 : Nat) : Int))), (1, (0, (mk))), (2, (0, (kk)))]) (st' := [(0, ((3 : Nat) : Int)), (0, (((514 + 5 * d1) : Nat) : Int)), (2, ((194 : Nat) : Int)), (0, (h 194 ((514 + (5 * b)) + 3)))]) (h' := h) (o246_55 hB) rfl ?_
      refine w_iadd (z := ((((514 + 5 * d1) + 3) : Nat) : Int)) (pc' := 99) (o246_56 hB) rfl (w32_e (by omega) (by omega)) ?_
      have f263 := ty_194_s517 ht (j := ((514 + 5 * d1) + 3)) (r := d1) (by omega) (by omega)
      refine w_iald (A := 194) (i := ((514 + 5 * d1) + 3)) (n := 1984) (z := (h 194 ((514 + 5 * d1) + 3))) (pc' := 100) (o246_57 hB) rfl (by decide +kernel) (by omega) rfl ?_
      refine w_icmp (pt := 137) (pf := 103) (o246_58 hB) (by decide) rfl (fun e => ?_) (fun e => ?_)
      · have f264 : ((h 194 ((514 + 5 * d1) + 3)) < (h 194 ((514 + (5 * b)) + 3))) := e
        refine w_pl (pc' := 138) (lv' := [(7, (0, ((b : Nat) : Int))), (6, (0, (flM h mk d1 b))), (5, (0, (((514 + 5 * d1) : Nat) : Int))), (4, (0, ((d1 : Nat) : Int))), (3, (0, (s))), (0, (2, ((193 : Nat) : Int))), (1, (0, (mk))), (2, (0, (kk)))]) (st' := [(0, ((1 : Nat) : Int))]) (h' := h) (o246_79 hB) rfl ?_
        refine w_goto (pt := 142) (o246_80 hB) (by decide) ?_
        refine w_st (tg := 0) (j := 8) (len := 2) (pc' := 144) (lv' := [(8, (0, ((1 : Nat) : Int))), (7, (0, ((b : Nat) : Int))), (6, (0, (flM h mk d1 b))), (5, (0, (((514 + 5 * d1) : Nat) : Int))), (4, (0, ((d1 : Nat) : Int))), (3, (0, (s))), (0, (2, ((193 : Nat) : Int))), (1, (0, (mk))), (2, (0, (kk)))]) (o246_82 hB) rfl rfl ml246 (by decide) rfl ?_
        refine w_pl (pc' := 146) (lv' := [(8, (0, ((1 : Nat) : Int))), (7, (0, ((b : Nat) : Int))), (6, (0, (flM h mk d1 b))), (5, (0, (((514 + 5 * d1) : Nat) : Int))), (4, (0, ((d1 : Nat) : Int))), (3, (0, (s))), (0, (2, ((193 : Nat) : Int))), (1, (0, (mk))), (2, (0, (kk)))]) (st' := [(0, (flM h mk d1 b))]) (h' := h) (o246_83 hB) rfl ?_
        refine w_ifc (pt := 169) (pf := 149) (o246_84 hB) (by decide) rfl (fun e => ?_) (fun e => ?_)
        · have f265 : ((flM h mk d1 b) = (0)) := e
          refine w_pl (pc' := 170) (lv' := [(8, (0, ((1 : Nat) : Int))), (7, (0, ((b : Nat) : Int))), (6, (0, (flM h mk d1 b))), (5, (0, (((514 + 5 * d1) : Nat) : Int))), (4, (0, ((d1 : Nat) : Int))), (3, (0, (s))), (0, (2, ((193 : Nat) : Int))), (1, (0, (mk))), (2, (0, (kk)))]) (st' := [(0, ((0 : Nat) : Int))]) (h' := h) (o246_94 hB) rfl ?_
          refine w_st (tg := 0) (j := 6) (len := 2) (pc' := 172) (lv' := [(6, (0, ((0 : Nat) : Int))), (8, (0, ((1 : Nat) : Int))), (7, (0, ((b : Nat) : Int))), (5, (0, (((514 + 5 * d1) : Nat) : Int))), (4, (0, ((d1 : Nat) : Int))), (3, (0, (s))), (0, (2, ((193 : Nat) : Int))), (1, (0, (mk))), (2, (0, (kk)))]) (o246_95 hB) rfl rfl ml246 (by decide) rfl ?_
          refine w_iinc (x := ((b : Nat) : Int)) (z := (((b + 1) : Nat) : Int)) (pc' := 175) (lv' := [(7, (0, (((b + 1) : Nat) : Int))), (6, (0, ((0 : Nat) : Int))), (8, (0, ((1 : Nat) : Int))), (5, (0, (((514 + 5 * d1) : Nat) : Int))), (4, (0, ((d1 : Nat) : Int))), (3, (0, (s))), (0, (2, ((193 : Nat) : Int))), (1, (0, (mk))), (2, (0, (kk)))]) (o246_96 hB) rfl rfl ml246 (by decide) (w32_e (by omega) (by omega)) rfl ?_
          refine w_goto (pt := 64) (o246_97 hB) (by decide) ?_
          refine w_sub (lv' := [(7, (0, (((b + 1) : Nat) : Int))), (6, (0, ((0 : Nat) : Int))), (5, (0, (((514 + 5 * d1) : Nat) : Int))), (4, (0, ((d1 : Nat) : Int))), (3, (0, (s))), (0, (2, ((193 : Nat) : Int))), (1, (0, (mk))), (2, (0, (kk)))]) (List.forall_mem_cons.mpr ⟨(List.Mem.head _), (List.forall_mem_cons.mpr ⟨(List.Mem.tail _ (List.Mem.head _)), (List.forall_mem_cons.mpr ⟨(List.Mem.tail _ (List.Mem.tail _ (List.Mem.tail _ (List.Mem.head _)))), (List.forall_mem_cons.mpr ⟨(List.Mem.tail _ (List.Mem.tail _ (List.Mem.tail _ (List.Mem.tail _ (List.Mem.head _))))), (List.forall_mem_cons.mpr ⟨(List.Mem.tail _ (List.Mem.tail _ (List.Mem.tail _ (List.Mem.tail _ (List.Mem.tail _ (List.Mem.head _)))))), (List.forall_mem_cons.mpr ⟨(List.Mem.tail _ (List.Mem.tail _ (List.Mem.tail _ (List.Mem.tail _ (List.Mem.tail _ (List.Mem.tail _ (List.Mem.head _))))))), (List.forall_mem_cons.mpr ⟨(List.Mem.tail _ (List.Mem.tail _ (List.Mem.tail _ (List.Mem.tail _ (List.Mem.tail _ (List.Mem.tail _ (List.Mem.tail _ (List.Mem.head _)))))))), (List.forall_mem_cons.mpr ⟨(List.Mem.tail _ (List.Mem.tail _ (List.Mem.tail _ (List.Mem.tail _ (List.Mem.tail _ (List.Mem.tail _ (List.Mem.tail _ (List.Mem.tail _ (List.Mem.head _))))))))), (fun _ hx => by cases hx)⟩)⟩)⟩)⟩)⟩)⟩)⟩)⟩) ?_
          have e1 : ((0 : Nat) : Int) = flM h mk d1 (b + 1) := by
            simp only [flM]
            rw [if_neg (by omega)]
            first | rfl | omega
          rw [e1]
          exact ih (b + 1) (by omega)
        · have f266 : ¬ ((flM h mk d1 b) = (0)) := e
          refine w_pl (pc' := 150) (lv' := [(8, (0, ((1 : Nat) : Int))), (7, (0, ((b : Nat) : Int))), (6, (0, (flM h mk d1 b))), (5, (0, (((514 + 5 * d1) : Nat) : Int))), (4, (0, ((d1 : Nat) : Int))), (3, (0, (s))), (0, (2, ((193 : Nat) : Int))), (1, (0, (mk))), (2, (0, (kk)))]) (st' := [(2, ((193 : Nat) : Int))]) (h' := h) (o246_85 hB) rfl ?_
          refine w_pl (pc' := 152) (lv' := [(8, (0, ((1 : Nat) : Int))), (7, (0, ((b : Nat) : Int))), (6, (0, (flM h mk d1 b))), (5, (0, (((514 + 5 * d1) : Nat) : Int))), (4, (0, ((d1 : Nat) : Int))), (3, (0, (s))), (0, (2, ((193 : Nat) : Int))), (1, (0, (mk))), (2, (0, (kk)))]) (st' := [(0, ((d1 : Nat) : Int)), (2, ((193 : Nat) : Int))]) (h' := h) (o246_86 hB) rfl ?_
          refine w_pl (pc' := 154) (lv' := [(8, (0, ((1 : Nat) : Int))), (7, (0, ((b : Nat) : Int))), (6, (0, (flM h mk d1 b))), (5, (0, (((514 + 5 * d1) : Nat) : Int))), (4, (0, ((d1 : Nat) : Int))), (3, (0, (s))), (0, (2, ((193 : Nat) : Int))), (1, (0, (mk))), (2, (0, (kk)))]) (st' := [(0, ((b : Nat) : Int)), (0, ((d1 : Nat) : Int)), (2, ((193 : Nat) : Int))]) (h' := h) (o246_87 hB) rfl ?_
          refine w_callV (A := 193) (as := [(0, ((d1 : Nat) : Int)), (0, ((b : Nat) : Int))]) (rest := []) (n := 2) (pc' := 157) 11 hB (o246_88 hB) rfl (by decide +kernel) rfl rfl (Nat.le_of_ble_eq_true rfl) (m_areAlike hB ht (by omega) (by omega) (fun f267 => ?_) (fun f268 => ?_))
          · show HW g l _ 246 _ _ 157 [(8, (0, ((1 : Nat) : Int))), (7, (0, ((b : Nat) : Int))), (6, (0, (flM h mk d1 b))), (5, (0, (((514 + 5 * d1) : Nat) : Int))), (4, (0, ((d1 : Nat) : Int))), (3, (0, (s))), (0, (2, ((193 : Nat) : Int))), (1, (0, (mk))), (2, (0, (kk)))] [(0, ((1 : Nat) : Int))] h
            refine w_ifc (pt := 165) (pf := 160) (o246_89 hB) (by decide) rfl (fun e => ?_) (fun e => ?_)
            · have f269 : (((1 : Nat) : Int) = (0)) := e
              exfalso; omega
            · have f270 : ¬ (((1 : Nat) : Int) = (0)) := e
              refine w_pl (pc' := 162) (lv' := [(8, (0, ((1 : Nat) : Int))), (7, (0, ((b : Nat) : Int))), (6, (0, (flM h mk d1 b))), (5, (0, (((514 + 5 * d1) : Nat) : Int))), (4, (0, ((d1 : Nat) : Int))), (3, (0, (s))), (0, (2, ((193 : Nat) : Int))), (1, (0, (mk))), (2, (0, (kk)))]) (st' := [(0, ((1 : Nat) : Int))]) (h' := h) (o246_90 hB) rfl ?_
              refine w_ifc (pt := 169) (pf := 165) (o246_91 hB) (by decide) rfl (fun e => ?_) (fun e => ?_)
              · have f271 : (((1 : Nat) : Int) ≠ (0)) := e
                refine w_pl (pc' := 170) (lv' := [(8, (0, ((1 : Nat) : Int))), (7, (0, ((b : Nat) : Int))), (6, (0, (flM h mk d1 b))), (5, (0, (((514 + 5 * d1) : Nat) : Int))), (4, (0, ((d1 : Nat) : Int))), (3, (0, (s))), (0, (2, ((193 : Nat) : Int))), (1, (0, (mk))), (2, (0, (kk)))]) (st' := [(0, ((0 : Nat) : Int))]) (h' := h) (o246_94 hB) rfl ?_
                refine w_st (tg := 0) (j := 6) (len := 2) (pc' := 172) (lv' := [(6, (0, ((0 : Nat) : Int))), (8, (0, ((1 : Nat) : Int))), (7, (0, ((b : Nat) : Int))), (5, (0, (((514 + 5 * d1) : Nat) : Int))), (4, (0, ((d1 : Nat) : Int))), (3, (0, (s))), (0, (2, ((193 : Nat) : Int))), (1, (0, (mk))), (2, (0, (kk)))]) (o246_95 hB) rfl rfl ml246 (by decide) rfl ?_
                refine w_iinc (x := ((b : Nat) : Int)) (z := (((b + 1) : Nat) : Int)) (pc' := 175) (lv' := [(7, (0, (((b + 1) : Nat) : Int))), (6, (0, ((0 : Nat) : Int))), (8, (0, ((1 : Nat) : Int))), (5, (0, (((514 + 5 * d1) : Nat) : Int))), (4, (0, ((d1 : Nat) : Int))), (3, (0, (s))), (0, (2, ((193 : Nat) : Int))), (1, (0, (mk))), (2, (0, (kk)))]) (o246_96 hB) rfl rfl ml246 (by decide) (w32_e (by omega) (by omega)) rfl ?_
                refine w_goto (pt := 64) (o246_97 hB) (by decide) ?_
                refine w_sub (lv' := [(7, (0, (((b + 1) : Nat) : Int))), (6, (0, ((0 : Nat) : Int))), (5, (0, (((514 + 5 * d1) : Nat) : Int))), (4, (0, ((d1 : Nat) : Int))), (3, (0, (s))), (0, (2, ((193 : Nat) : Int))), (1, (0, (mk))), (2, (0, (kk)))]) (List.forall_mem_cons.mpr ⟨(List.Mem.head _), (List.forall_mem_cons.mpr ⟨(List.Mem.tail _ (List.Mem.head _)), (List.forall_mem_cons.mpr ⟨(List.Mem.tail _ (List.Mem.tail _ (List.Mem.tail _ (List.Mem.head _)))), (List.forall_mem_cons.mpr ⟨(List.Mem.tail _ (List.Mem.tail _ (List.Mem.tail _ (List.Mem.tail _ (List.Mem.head _))))), (List.forall_mem_cons.mpr ⟨(List.Mem.tail _ (List.Mem.tail _ (List.Mem.tail _ (List.Mem.tail _ (List.Mem.tail _ (List.Mem.head _)))))), (List.forall_mem_cons.mpr ⟨(List.Mem.tail _ (List.Mem.tail _ (List.Mem.tail _ (List.Mem.tail _ (List.Mem.tail _ (List.Mem.tail _ (List.Mem.head _))))))), (List.forall_mem_cons.mpr ⟨(List.Mem.tail _ (List.Mem.tail _ (List.Mem.tail _ (List.Mem.tail _ (List.Mem.tail _ (List.Mem.tail _ (List.Mem.tail _ (List.Mem.head _)))))))), (List.forall_mem_cons.mpr ⟨(List.Mem.tail _ (List.Mem.tail _ (List.Mem.tail _ (List.Mem.tail _ (List.Mem.tail _ (List.Mem.tail _ (List.Mem.tail _ (List.Mem.tail _ (List.Mem.head _))))))))), (fun _ hx => by cases hx)⟩)⟩)⟩)⟩)⟩)⟩)⟩)⟩) ?_
                have e1 : ((0 : Nat) : Int) = flM h mk d1 (b + 1) := by
                  simp only [flM]
                  rw [if_neg (by omega)]
                  first | rfl | omega
                rw [e1]
                exact ih (b + 1) (by omega)
              · have f272 : ¬ (((1 : Nat) : Int) ≠ (0)) := e
                exfalso; omega
          · show HW g l _ 246 _ _ 157 [(8, (0, ((1 : Nat) : Int))), (7, (0, ((b : Nat) : Int))), (6, (0, (flM h mk d1 b))), (5, (0, (((514 + 5 * d1) : Nat) : Int))), (4, (0, ((d1 : Nat) : Int))), (3, (0, (s))), (0, (2, ((193 : Nat) : Int))), (1, (0, (mk))), (2, (0, (kk)))] [(0, ((0 : Nat) : Int))] h
            refine w_ifc (pt := 165) (pf := 160) (o246_89 hB) (by decide) rfl (fun e => ?_) (fun e => ?_)
            · have f273 : (((0 : Nat) : Int) = (0)) := e
              refine w_pl (pc' := 166) (lv' := [(8, (0, ((1 : Nat) : Int))), (7, (0, ((b : Nat) : Int))), (6, (0, (flM h mk d1 b))), (5, (0, (((514 + 5 * d1) : Nat) : Int))), (4, (0, ((d1 : Nat) : Int))), (3, (0, (s))), (0, (2, ((193 : Nat) : Int))), (1, (0, (mk))), (2, (0, (kk)))]) (st' := [(0, ((1 : Nat) : Int))]) (h' := h) (o246_92 hB) rfl ?_
              refine w_goto (pt := 170) (o246_93 hB) (by decide) ?_
              refine w_st (tg := 0) (j := 6) (len := 2) (pc' := 172) (lv' := [(6, (0, ((1 : Nat) : Int))), (8, (0, ((1 : Nat) : Int))), (7, (0, ((b : Nat) : Int))), (5, (0, (((514 + 5 * d1) : Nat) : Int))), (4, (0, ((d1 : Nat) : Int))), (3, (0, (s))), (0, (2, ((193 : Nat) : Int))), (1, (0, (mk))), (2, (0, (kk)))]) (o246_95 hB) rfl rfl ml246 (by decide) rfl ?_
              refine w_iinc (x := ((b : Nat) : Int)) (z := (((b + 1) : Nat) : Int)) (pc' := 175) (lv' := [(7, (0, (((b + 1) : Nat) : Int))), (6, (0, ((1 : Nat) : Int))), (8, (0, ((1 : Nat) : Int))), (5, (0, (((514 + 5 * d1) : Nat) : Int))), (4, (0, ((d1 : Nat) : Int))), (3, (0, (s))), (0, (2, ((193 : Nat) : Int))), (1, (0, (mk))), (2, (0, (kk)))]) (o246_96 hB) rfl rfl ml246 (by decide) (w32_e (by omega) (by omega)) rfl ?_
              refine w_goto (pt := 64) (o246_97 hB) (by decide) ?_
              refine w_sub (lv' := [(7, (0, (((b + 1) : Nat) : Int))), (6, (0, ((1 : Nat) : Int))), (5, (0, (((514 + 5 * d1) : Nat) : Int))), (4, (0, ((d1 : Nat) : Int))), (3, (0, (s))), (0, (2, ((193 : Nat) : Int))), (1, (0, (mk))), (2, (0, (kk)))]) (List.forall_mem_cons.mpr ⟨(List.Mem.head _), (List.forall_mem_cons.mpr ⟨(List.Mem.tail _ (List.Mem.head _)), (List.forall_mem_cons.mpr ⟨(List.Mem.tail _ (List.Mem.tail _ (List.Mem.tail _ (List.Mem.head _)))), (List.forall_mem_cons.mpr ⟨(List.Mem.tail _ (List.Mem.tail _ (List.Mem.tail _ (List.Mem.tail _ (List.Mem.head _))))), (List.forall_mem_cons.mpr ⟨(List.Mem.tail _ (List.Mem.tail _ (List.Mem.tail _ (List.Mem.tail _ (List.Mem.tail _ (List.Mem.head _)))))), (List.forall_mem_cons.mpr ⟨(List.Mem.tail _ (List.Mem.tail _ (List.Mem.tail _ (List.Mem.tail _ (List.Mem.tail _ (List.Mem.tail _ (List.Mem.head _))))))), (List.forall_mem_cons.mpr ⟨(List.Mem.tail _ (List.Mem.tail _ (List.Mem.tail _ (List.Mem.tail _ (List.Mem.tail _ (List.Mem.tail _ (List.Mem.tail _ (List.Mem.head _)))))))), (List.forall_mem_cons.mpr ⟨(List.Mem.tail _ (List.Mem.tail _ (List.Mem.tail _ (List.Mem.tail _ (List.Mem.tail _ (List.Mem.tail _ (List.Mem.tail _ (List.Mem.tail _ (List.Mem.head _))))))))), (fun _ hx => by cases hx)⟩)⟩)⟩)⟩)⟩)⟩)⟩)⟩) ?_
              have e1 : ((1 : Nat) : Int) = flM h mk d1 (b + 1) := by
                simp only [flM]
                rw [if_pos (by omega)]
                first | rfl | omega
              rw [e1]
              exact ih (b + 1) (by omega)
            · have f274 : ¬ (((0 : Nat) : Int) = (0)) := e
              exfalso; omega
      · have f275 : ¬ ((h 194 ((514 + 5 * d1) + 3)) < (h 194 ((514 + (5 * b)) + 3))) := e
        refine w_pl (pc' := 104) (lv' := [(7, (0, ((b : Nat) : Int))), (6, (0, (flM h mk d1 b))), (5, (0, (((514 + 5 * d1) : Nat) : Int))), (4, (0, ((d1 : Nat) : Int))), (3, (0, (s))), (0, (2, ((193 : Nat) : Int))), (1, (0, (mk))), (2, (0, (kk)))]) (st' := [(2, ((193 : Nat) : Int))]) (h' := h) (o246_59 hB) rfl ?_
        refine w_getf (A := 193) (t := 2) (z := ((194 : Nat) : Int)) (pc' := 107) (o246_60 hB) rfl (by decide +kernel) (hR (193, 0, 194) (by decide)) ?_
        refine w_pl (pc' := 110) (lv' := [(7, (0, ((b : Nat) : Int))), (6, (0, (flM h mk d1 b))), (5, (0, (((514 + 5 * d1) : Nat) : Int))), (4, (0, ((d1 : Nat) : Int))), (3, (0, (s))), (0, (2, ((193 : Nat) : Int))), (1, (0, (mk))), (2, (0, (kk)))]) (st' := [(0, ((514 : Nat) : Int)), (2, ((194 : Nat) : Int))]) (h' := h) (o246_61 hB) rfl ?_
        refine w_pl (pc' := 111) (lv' := [(7, (0, ((b : Nat) : Int))), (6, (0, (flM h mk d1 b))), (5, (0, (((514 + 5 * d1) : Nat) : Int))), (4, (0, ((d1 : Nat) : Int))), (3, (0, (s))), (0, (2, ((193 : Nat) : Int))), (1, (0, (mk))), (2, (0, (kk)))]) (st' := [(0, ((5 : Nat) : Int)), (0, ((514 : Nat) : Int)), (2, ((194 : Nat) : Int))]) (h' := h) (o246_62 hB) rfl ?_
        refine w_pl (pc' := 113) (lv' := [(7, (0, ((b : Nat) : Int))), (6, (0, (flM h mk d1 b))), (5, (0, (((514 + 5 * d1) : Nat) : Int))), (4, (0, ((d1 : Nat) : Int))), (3, (0, (s))), (0, (2, ((193 : Nat) : Int))), (1, (0, (mk))), (2, (0, (kk)))]) (st' := [(0, ((b : Nat) : Int)), (0, ((5 : Nat) : Int)), (0, ((514 : Nat) : Int)), (2, ((194 : Nat) : Int))]) (h' := h) (o246_63 hB) rfl ?_
        refine w_imul (z := (((5 * b) : Nat) : Int)) (pc' := 114) (o246_64 hB) rfl (w32_e (by omega) (by omega)) ?_
        refine w_iadd (z := (((514 + (5 * b)) : Nat) : Int)) (pc' := 115) (o246_65 hB) rfl (w32_e (by omega) (by omega)) ?_
        refine w_pl (pc' := 116) (lv' := [(7, (0, ((b : Nat) : Int))), (6, (0, (flM h mk d1 b))), (5, (0, (((514 + 5 * d1) : Nat) : Int))), (4, (0, ((d1 : Nat) : Int))), (3, (0, (s))), (0, (2, ((193 : Nat) : Int))), (1, (0, (mk))), (2, (0, (kk)))]) (st' := [(0, ((3 : Nat) : Int)), (0, (((514 + (5 * b)) : Nat) : Int)), (2, ((194 : Nat) : Int))]) (h' := h) (o246_66 hB) rfl ?_
        refine w_iadd (z := ((((514 + (5 * b)) + 3) : Nat) : Int)) (pc' := 117) (o246_67 hB) rfl (w32_e (by omega) (by omega)) ?_
        have f276 := ty_194_s517 ht (j := ((514 + (5 * b)) + 3)) (r := b) (by omega) (by omega)
        refine w_iald (A := 194) (i := ((514 + (5 * b)) + 3)) (n := 1984) (z := (h 194 ((514 + (5 * b)) + 3))) (pc' := 118) (o246_68 hB) rfl (by decide +kernel) (by omega) rfl ?_
        refine w_pl (pc' := 119) (lv' := [(7, (0, ((b : Nat) : Int))), (6, (0, (flM h mk d1 b))), (5, (0, (((514 + 5 * d1) : Nat) : Int))), (4, (0, ((d1 : Nat) : Int))), (3, (0, (s))), (0, (2, ((193 : Nat) : Int))), (1, (0, (mk))), (2, (0, (kk)))]) (st' := [(2, ((193 : Nat) : Int)), (0, (h 194 ((514 + (5 * b)) + 3)))]) (h' := h) (o246_69 hB) rfl ?_
        refine w_getf (A := 193) (t := 2) (z := ((194 : Nat) : Int)) (pc' := 122) (o246_70 hB) rfl (by decide +kernel) (hR (193, 0, 194) (by decide)) ?_
        refine w_pl (pc' := 124) (lv' := [(7, (0, ((b : Nat) : Int))), (6, (0, (flM h mk d1 b))), (5, (0, (((514 + 5 * d1) : Nat) : Int))), (4, (0, ((d1 : Nat) : Int))), (3, (0, (s))), (0, (2, ((193 : Nat) : Int))), (1, (0, (mk))), (2, (0, (kk)))]) (st' := [(0, (((514 + 5 * d1) : Nat) : Int)), (2, ((194 : Nat) : Int)), (0, (h 194 ((514 + (5 * b)) + 3)))]) (h' := h) (o246_71 hB) rfl ?_
        refine w_pl (pc' := 125) (lv' := [(7, (0, ((b : Nat) : Int))), (6, (0, (flM h mk d1 b))), (5, (0, (((514 + 5 * d1) : Nat) : Int))), (4, (0, ((d1 : Nat) : Int))), (3, (0, (s))), (0, (2, ((193 : Nat) : Int))), (1, (0, (mk))), (2, (0, (kk)))]) (st' := [(0, ((3 : Nat) : Int)), (0, (((514 + 5 * d1) : Nat) : Int)), (2, ((194 : Nat) : Int)), (0, (h 194 ((514 + (5 * b)) + 3)))]) (h' := h) (o246_72 hB) rfl ?_
        refine w_iadd (z := ((((514 + 5 * d1) + 3) : Nat) : Int)) (pc' := 126) (o246_73 hB) rfl (w32_e (by omega) (by omega)) ?_
        have f277 := ty_194_s517 ht (j := ((514 + 5 * d1) + 3)) (r := d1) (by omega) (by omega)
        refine w_iald (A := 194) (i := ((514 + 5 * d1) + 3)) (n := 1984) (z := (h 194 ((514 + 5 * d1) + 3))) (pc' := 127) (o246_74 hB) rfl (by decide +kernel) (by omega) rfl ?_
        refine w_icmp (pt := 141) (pf := 130) (o246_75 hB) (by decide) rfl (fun e => ?_) (fun e => ?_)
        · have f278 : ((h 194 ((514 + (5 * b)) + 3)) ≠ (h 194 ((514 + 5 * d1) + 3))) := e
          refine w_pl (pc' := 142) (lv' := [(7, (0, ((b : Nat) : Int))), (6, (0, (flM h mk d1 b))), (5, (0, (((514 + 5 * d1) : Nat) : Int))), (4, (0, ((d1 : Nat) : Int))), (3, (0, (s))), (0, (2, ((193 : Nat) : Int))), (1, (0, (mk))), (2, (0, (kk)))]) (st' := [(0, ((0 : Nat) : Int))]) (h' := h) (o246_81 hB) rfl ?_
          refine w_st (tg := 0) (j := 8) (len := 2) (pc' := 144) (lv' := [(8, (0, ((0 : Nat) : Int))), (7, (0, ((b : Nat) : Int))), (6, (0, (flM h mk d1 b))), (5, (0, (((514 + 5 * d1) : Nat) : Int))), (4, (0, ((d1 : Nat) : Int))), (3, (0, (s))), (0, (2, ((193 : Nat) : Int))), (1, (0, (mk))), (2, (0, (kk)))]) (o246_82 hB) rfl rfl ml246 (by decide) rfl ?_
          refine w_pl (pc' := 146) (lv' := [(8, (0, ((0 : Nat) : Int))), (7, (0, ((b : Nat) : Int))), (6, (0, (flM h mk d1 b))), (5, (0, (((514 + 5 * d1) : Nat) : Int))), (4, (0, ((d1 : Nat) : Int))), (3, (0, (s))), (0, (2, ((193 : Nat) : Int))), (1, (0, (mk))), (2, (0, (kk)))]) (st' := [(0, (flM h mk d1 b))]) (h' := h) (o246_83 hB) rfl ?_
          refine w_ifc (pt := 169) (pf := 149) (o246_84 hB) (by decide) rfl (fun e => ?_) (fun e => ?_)
          · have f279 : ((flM h mk d1 b) = (0)) := e
            refine w_pl (pc' := 170) (lv' := [(8, (0, ((0 : Nat) : Int))), (7, (0, ((b : Nat) : Int))), (6, (0, (flM h mk d1 b))), (5, (0, (((514 + 5 * d1) : Nat) : Int))), (4, (0, ((d1 : Nat) : Int))), (3, (0, (s))), (0, (2, ((193 : Nat) : Int))), (1, (0, (mk))), (2, (0, (kk)))]) (st' := [(0, ((0 : Nat) : Int))]) (h' := h) (o246_94 hB) rfl ?_
            refine w_st (tg := 0) (j := 6) (len := 2) (pc' := 172) (lv' := [(6, (0, ((0 : Nat) : Int))), (8, (0, ((0 : Nat) : Int))), (7, (0, ((b : Nat) : Int))), (5, (0, (((514 + 5 * d1) : Nat) : Int))), (4, (0, ((d1 : Nat) : Int))), (3, (0, (s))), (0, (2, ((193 : Nat) : Int))), (1, (0, (mk))), (2, (0, (kk)))]) (o246_95 hB) rfl rfl ml246 (by decide) rfl ?_
            refine w_iinc (x := ((b : Nat) : Int)) (z := (((b + 1) : Nat) : Int)) (pc' := 175) (lv' := [(7, (0, (((b + 1) : Nat) : Int))), (6, (0, ((0 : Nat) : Int))), (8, (0, ((0 : Nat) : Int))), (5, (0, (((514 + 5 * d1) : Nat) : Int))), (4, (0, ((d1 : Nat) : Int))), (3, (0, (s))), (0, (2, ((193 : Nat) : Int))), (1, (0, (mk))), (2, (0, (kk)))]) (o246_96 hB) rfl rfl ml246 (by decide) (w32_e (by omega) (by omega)) rfl ?_
            refine w_goto (pt := 64) (o246_97 hB) (by decide) ?_
            refine w_sub (lv' := [(7, (0, (((b + 1) : Nat) : Int))), (6, (0, ((0 : Nat) : Int))), (5, (0, (((514 + 5 * d1) : Nat) : Int))), (4, (0, ((d1 : Nat) : Int))), (3, (0, (s))), (0, (2, ((193 : Nat) : Int))), (1, (0, (mk))), (2, (0, (kk)))]) (List.forall_mem_cons.mpr ⟨(List.Mem.head _), (List.forall_mem_cons.mpr ⟨(List.Mem.tail _ (List.Mem.head _)), (List.forall_mem_cons.mpr ⟨(List.Mem.tail _ (List.Mem.tail _ (List.Mem.tail _ (List.Mem.head _)))), (List.forall_mem_cons.mpr ⟨(List.Mem.tail _ (List.Mem.tail _ (List.Mem.tail _ (List.Mem.tail _ (List.Mem.head _))))), (List.forall_mem_cons.mpr ⟨(List.Mem.tail _ (List.Mem.tail _ (List.Mem.tail _ (List.Mem.tail _ (List.Mem.tail _ (List.Mem.head _)))))), (List.forall_mem_cons.mpr ⟨(List.Mem.tail _ (List.Mem.tail _ (List.Mem.tail _ (List.Mem.tail _ (List.Mem.tail _ (List.Mem.tail _ (List.Mem.head _))))))), (List.forall_mem_cons.mpr ⟨(List.Mem.tail _ (List.Mem.tail _ (List.Mem.tail _ (List.Mem.tail _ (List.Mem.tail _ (List.Mem.tail _ (List.Mem.tail _ (List.Mem.head _)))))))), (List.forall_mem_cons.mpr ⟨(List.Mem.tail _ (List.Mem.tail _ (List.Mem.tail _ (List.Mem.tail _ (List.Mem.tail _ (List.Mem.tail _ (List.Mem.tail _ (List.Mem.tail _ (List.Mem.head _))))))))), (fun _ hx => by cases hx)⟩)⟩)⟩)⟩)⟩)⟩)⟩)⟩) ?_
            have e1 : ((0 : Nat) : Int) = flM h mk d1 (b + 1) := by
              simp only [flM]
              rw [if_neg (by omega)]
              first | rfl | omega
            rw [e1]
            exact ih (b + 1) (by omega)
          · have f280 : ¬ ((flM h mk d1 b) = (0)) := e
            refine w_pl (pc' := 150) (lv' := [(8, (0, ((0 : Nat) : Int))), (7, (0, ((b : Nat) : Int))), (6, (0, (flM h mk d1 b))), (5, (0, (((514 + 5 * d1) : Nat) : Int))), (4, (0, ((d1 : Nat) : Int))), (3, (0, (s))), (0, (2, ((193 : Nat) : Int))), (1, (0, (mk))), (2, (0, (kk)))]) (st' := [(2, ((193 : Nat) : Int))]) (h' := h) (o246_85 hB) rfl ?_
            refine w_pl (pc' := 152) (lv' := [(8, (0, ((0 : Nat) : Int))), (7, (0, ((b : Nat) : Int))), (6, (0, (flM h mk d1 b))), (5, (0, (((514 + 5 * d1) : Nat) : Int))), (4, (0, ((d1 : Nat) : Int))), (3, (0, (s))), (0, (2, ((193 : Nat) : Int))), (1, (0, (mk))), (2, (0, (kk)))]) (st' := [(0, ((d1 : Nat) : Int)), (2, ((193 : Nat) : Int))]) (h' := h) (o246_86 hB) rfl ?_
            refine w_pl (pc' := 154) (lv' := [(8, (0, ((0 : Nat) : Int))), (7, (0, ((b : Nat) : Int))), (6, (0, (flM h mk d1 b))), (5, (0, (((514 + 5 * d1) : Nat) : Int))), (4, (0, ((d1 : Nat) : Int))), (3, (0, (s))), (0, (2, ((193 : Nat) : Int))), (1, (0, (mk))), (2, (0, (kk)))]) (st' := [(0, ((b : Nat) : Int)), (0, ((d1 : Nat) : Int)), (2, ((193 : Nat) : Int))]) (h' := h) (o246_87 hB) rfl ?_
            refine w_callV (A := 193) (as := [(0, ((d1 : Nat) : Int)), (0, ((b : Nat) : Int))]) (rest := []) (n := 2) (pc' := 157) 11 hB (o246_88 hB) rfl (by decide +kernel) rfl rfl (Nat.le_of_ble_eq_true rfl) (m_areAlike hB ht (by omega) (by omega) (fun f281 => ?_) (fun f282 => ?_))
            · show HW g l _ 246 _ _ 157 [(8, (0, ((0 : Nat) : Int))), (7, (0, ((b : Nat) : Int))), (6, (0, (flM h mk d1 b))), (5, (0, (((514 + 5 * d1) : Nat) : Int))), (4, (0, ((d1 : Nat) : Int))), (3, (0, (s))), (0, (2, ((193 : Nat) : Int))), (1, (0, (mk))), (2, (0, (kk)))] [(0, ((1 : Nat) : Int))] h
              refine w_ifc (pt := 165) (pf := 160) (o246_89 hB) (by decide) rfl (fun e => ?_) (fun e => ?_)
              · have f283 : (((1 : Nat) : Int) = (0)) := e
                exfalso; omega
              · have f284 : ¬ (((1 : Nat) : Int) = (0)) := e
                refine w_pl (pc' := 162) (lv' := [(8, (0, ((0 : Nat) : Int))), (7, (0, ((b : Nat) : Int))), (6, (0, (flM h mk d1 b))), (5, (0, (((514 + 5 * d1) : Nat) : Int))), (4, (0, ((d1 : Nat) : Int))), (3, (0, (s))), (0, (2, ((193 : Nat) : Int))), (1, (0, (mk))), (2, (0, (kk)))]) (st' := [(0, ((0 : Nat) : Int))]) (h' := h) (o246_90 hB) rfl ?_
                refine w_ifc (pt := 169) (pf := 165) (o246_91 hB) (by decide) rfl (fun e => ?_) (fun e => ?_)
                · have f285 : (((0 : Nat) : Int) ≠ (0)) := e
                  exfalso; omega
                · have f286 : ¬ (((0 : Nat) : Int) ≠ (0)) := e
                  refine w_pl (pc' := 166) (lv' := [(8, (0, ((0 : Nat) : Int))), (7, (0, ((b : Nat) : Int))), (6, (0, (flM h mk d1 b))), (5, (0, (((514 + 5 * d1) : Nat) : Int))), (4, (0, ((d1 : Nat) : Int))), (3, (0, (s))), (0, (2, ((193 : Nat) : Int))), (1, (0, (mk))), (2, (0, (kk)))]) (st' := [(0, ((1 : Nat) : Int))]) (h' := h) (o246_92 hB) rfl ?_
                  refine w_goto (pt := 170) (o246_93 hB) (by decide) ?_
                  refine w_st (tg := 0) (j := 6) (len := 2) (pc' := 172) (lv' := [(6, (0, ((1 : Nat) : Int))), (8, (0, ((0 : Nat) : Int))), (7, (0, ((b : Nat) : Int))), (5, (0, (((514 + 5 * d1) : Nat) : Int))), (4, (0, ((d1 : Nat) : Int))), (3, (0, (s))), (0, (2, ((193 : Nat) : Int))), (1, (0, (mk))), (2, (0, (kk)))]) (o246_95 hB) rfl rfl ml246 (by decide) rfl ?_
                  refine w_iinc (x := ((b : Nat) : Int)) (z := (((b + 1) : Nat) : Int)) (pc' := 175) (lv' := [(7, (0, (((b + 1) : Nat) : Int))), (6, (0, ((1 : Nat) : Int))), (8, (0, ((0 : Nat) : Int))), (5, (0, (((514 + 5 * d1) : Nat) : Int))), (4, (0, ((d1 : Nat) : Int))), (3, (0, (s))), (0, (2, ((193 : Nat) : Int))), (1, (0, (mk))), (2, (0, (kk)))]) (o246_96 hB) rfl rfl ml246 (by decide) (w32_e (by omega) (by omega)) rfl ?_
                  refine w_goto (pt := 64) (o246_97 hB) (by decide) ?_
                  refine w_sub (lv' := [(7, (0, (((b + 1) : Nat) : Int))), (6, (0, ((1 : Nat) : Int))), (5, (0, (((514 + 5 * d1) : Nat) : Int))), (4, (0, ((d1 : Nat) : Int))), (3, (0, (s))), (0, (2, ((193 : Nat) : Int))), (1, (0, (mk))), (2, (0, (kk)))]) (List.forall_mem_cons.mpr ⟨(List.Mem.head _), (List.forall_mem_cons.mpr ⟨(List.Mem.tail _ (List.Mem.head _)), (List.forall_mem_cons.mpr ⟨(List.Mem.tail _ (List.Mem.tail _ (List.Mem.tail _ (List.Mem.head _)))), (List.forall_mem_cons.mpr ⟨(List.Mem.tail _ (List.Mem.tail _ (List.Mem.tail _ (List.Mem.tail _ (List.Mem.head _))))), (List.forall_mem_cons.mpr ⟨(List.Mem.tail _ (List.Mem.tail _ (List.Mem.tail _ (List.Mem.tail _ (List.Mem.tail _ (List.Mem.head _)))))), (List.forall_mem_cons.mpr ⟨(List.Mem.tail _ (List.Mem.tail _ (List.Mem.tail _ (List.Mem.tail _ (List.Mem.tail _ (List.Mem.tail _ (List.Mem.head _))))))), (List.forall_mem_cons.mpr ⟨(List.Mem.tail _ (List.Mem.tail _ (List.Mem.tail _ (List.Mem.tail _ (List.Mem.tail _ (List.Mem.tail _ (List.Mem.tail _ (List.Mem.head _)))))))), (List.forall_mem_cons.mpr ⟨(List.Mem.tail _ (List.Mem.tail _ (List.Mem.tail _ (List.Mem.tail _ (List.Mem.tail _ (List.Mem.tail _ (List.Mem.tail _ (List.Mem.tail _ (List.Mem.head _))))))))), (fun _ hx => by cases hx)⟩)⟩)⟩)⟩)⟩)⟩)⟩)⟩) ?_
                  have e1 : ((1 : Nat) : Int) = flM h mk d1 (b + 1) := by
                    simp only [flM]
                    rw [if_pos (by omega)]
                    first | rfl | omega
                  rw [e1]
                  exact ih (b + 1) (by omega)
            · show HW g l _ 246 _ _ 157 [(8, (0, ((0 : Nat) : Int))), (7, (0, ((b : Nat) : Int))), (6, (0, (flM h mk d1 b))), (5, (0, (((514 + 5 * d1) : Nat) : Int))), (4, (0, ((d1 : Nat) : Int))), (3, (0, (s))), (0, (2, ((193 : Nat) : Int))), (1, (0, (mk))), (2, (0, (kk)))] [(0, ((0 : Nat) : Int))] h
              refine w_ifc (pt := 165) (pf := 160) (o246_89 hB) (by decide) rfl (fun e => ?_) (fun e => ?_)
              · have f287 : (((0 : Nat) : Int) = (0)) := e
                refine w_pl (pc' := 166) (lv' := [(8, (0, ((0 : Nat) : Int))), (7, (0, ((b : Nat) : Int))), (6, (0, (flM h mk d1 b))), (5, (0, (((514 + 5 * d1) : Nat) : Int))), (4, (0, ((d1 : Nat) : Int))), (3, (0, (s))), (0, (2, ((193 : Nat) : Int))), (1, (0, (mk))), (2, (0, (kk)))]) (st' := [(0, ((1 : Nat) : Int))]) (h' := h) (o246_92 hB) rfl ?_
                refine w_goto (pt := 170) (o246_93 hB) (by decide) ?_
                refine w_st (tg := 0) (j := 6) (len := 2) (pc' := 172) (lv' := [(6, (0, ((1 : Nat) : Int))), (8, (0, ((0 : Nat) : Int))), (7, (0, ((b : Nat) : Int))), (5, (0, (((514 + 5 * d1) : Nat) : Int))), (4, (0, ((d1 : Nat) : Int))), (3, (0, (s))), (0, (2, ((193 : Nat) : Int))), (1, (0, (mk))), (2, (0, (kk)))]) (o246_95 hB) rfl rfl ml246 (by decide) rfl ?_
                refine w_iinc (x := ((b : Nat) : Int)) (z := (((b + 1) : Nat) : Int)) (pc' := 175) (lv' := [(7, (0, (((b + 1) : Nat) : Int))), (6, (0, ((1 : Nat) : Int))), (8, (0, ((0 : Nat) : Int))), (5, (0, (((514 + 5 * d1) : Nat) : Int))), (4, (0, ((d1 : Nat) : Int))), (3, (0, (s))), (0, (2, ((193 : Nat) : Int))), (1, (0, (mk))), (2, (0, (kk)))]) (o246_96 hB) rfl rfl ml246 (by decide) (w32_e (by omega) (by omega)) rfl ?_
                refine w_goto (pt := 64) (o246_97 hB) (by decide) ?_
                refine w_sub (lv' := [(7, (0, (((b + 1) : Nat) : Int))), (6, (0, ((1 : Nat) : Int))), (5, (0, (((514 + 5 * d1) : Nat) : Int))), (4, (0, ((d1 : Nat) : Int))), (3, (0, (s))), (0, (2, ((193 : Nat) : Int))), (1, (0, (mk))), (2, (0, (kk)))]) (List.forall_mem_cons.mpr ⟨(List.Mem.head _), (List.forall_mem_cons.mpr ⟨(List.Mem.tail _ (List.Mem.head _)), (List.forall_mem_cons.mpr ⟨(List.Mem.tail _ (List.Mem.tail _ (List.Mem.tail _ (List.Mem.head _)))), (List.forall_mem_cons.mpr ⟨(List.Mem.tail _ (List.Mem.tail _ (List.Mem.tail _ (List.Mem.tail _ (List.Mem.head _))))), (List.forall_mem_cons.mpr ⟨(List.Mem.tail _ (List.Mem.tail _ (List.Mem.tail _ (List.Mem.tail _ (List.Mem.tail _ (List.Mem.head _)))))), (List.forall_mem_cons.mpr ⟨(List.Mem.tail _ (List.Mem.tail _ (List.Mem.tail _ (List.Mem.tail _ (List.Mem.tail _ (List.Mem.tail _ (List.Mem.head _))))))), (List.forall_mem_cons.mpr ⟨(List.Mem.tail _ (List.Mem.tail _ (List.Mem.tail _ (List.Mem.tail _ (List.Mem.tail _ (List.Mem.tail _ (List.Mem.tail _ (List.Mem.head _)))))))), (List.forall_mem_cons.mpr ⟨(List.Mem.tail _ (List.Mem.tail _ (List.Mem.tail _ (List.Mem.tail _ (List.Mem.tail _ (List.Mem.tail _ (List.Mem.tail _ (List.Mem.tail _ (List.Mem.head _))))))))), (fun _ hx => by cases hx)⟩)⟩)⟩)⟩)⟩)⟩)⟩)⟩) ?_
                have e1 : ((1 : Nat) : Int) = flM h mk d1 (b + 1) := by
                  simp only [flM]
                  rw [if_pos (by omega)]
                  first | rfl | omega
                rw [e1]
                exact ih (b + 1) (by omega)
              · have f288 : ¬ (((0 : Nat) : Int) = (0)) := e
                exfalso; omega
        · have f289 : ¬ ((h 194 ((514 + (5 * b)) + 3)) ≠ (h 194 ((514 + 5 * d1) + 3))) := e
          refine w_pl (pc' := 132) (lv' := [(7, (0, ((b : Nat) : Int))), (6, (0, (flM h mk d1 b))), (5, (0, (((514 + 5 * d1) : Nat) : Int))), (4, (0, ((d1 : Nat) : Int))), (3, (0, (s))), (0, (2, ((193 : Nat) : Int))), (1, (0, (mk))), (2, (0, (kk)))]) (st' := [(0, ((b : Nat) : Int))]) (h' := h) (o246_76 hB) rfl ?_
          refine w_pl (pc' := 134) (lv' := [(7, (0, ((b : Nat) : Int))), (6, (0, (flM h mk d1 b))), (5, (0, (((514 + 5 * d1) : Nat) : Int))), (4, (0, ((d1 : Nat) : Int))), (3, (0, (s))), (0, (2, ((193 : Nat) : Int))), (1, (0, (mk))), (2, (0, (kk)))]) (st' := [(0, ((d1 : Nat) : Int)), (0, ((b : Nat) : Int))]) (h' := h) (o246_77 hB) rfl ?_
          refine w_icmp (pt := 141) (pf := 137) (o246_78 hB) (by decide) rfl (fun e => ?_) (fun e => ?_)
          · have f290 : (((d1 : Nat) : Int) ≤ ((b : Nat) : Int)) := e
            refine w_pl (pc' := 142) (lv' := [(7, (0, ((b : Nat) : Int))), (6, (0, (flM h mk d1 b))), (5, (0, (((514 + 5 * d1) : Nat) : Int))), (4, (0, ((d1 : Nat) : Int))), (3, (0, (s))), (0, (2, ((193 : Nat) : Int))), (1, (0, (mk))), (2, (0, (kk)))]) (st' := [(0, ((0 : Nat) : Int))]) (h' := h) (o246_81 hB) rfl ?_
            refine w_st (tg := 0) (j := 8) (len := 2) (pc' := 144) (lv' := [(8, (0, ((0 : Nat) : Int))), (7, (0, ((b : Nat) : Int))), (6, (0, (flM h mk d1 b))), (5, (0, (((514 + 5 * d1) : Nat) : Int))), (4, (0, ((d1 : Nat) : Int))), (3, (0, (s))), (0, (2, ((193 : Nat) : Int))), (1, (0, (mk))), (2, (0, (kk)))]) (o246_82 hB) rfl rfl ml246 (by decide) rfl ?_
            refine w_pl (pc' := 146) (lv' := [(8, (0, ((0 : Nat) : Int))), (7, (0, ((b : Nat) : Int))), (6, (0, (flM h mk d1 b))), (5, (0, (((514 + 5 * d1) : Nat) : Int))), (4, (0, ((d1 : Nat) : Int))), (3, (0, (s))), (0, (2, ((193 : Nat) : Int))), (1, (0, (mk))), (2, (0, (kk)))]) (st' := [(0, (flM h mk d1 b))]) (h' := h) (o246_83 hB) rfl ?_
            refine w_ifc (pt := 169) (pf := 149) (o246_84 hB) (by decide) rfl (fun e => ?_) (fun e => ?_)
            · have f291 : ((flM h mk d1 b) = (0)) := e
              refine w_pl (pc' := 170) (lv' := [(8, (0, ((0 : Nat) : Int))), (7, (0, ((b : Nat) : Int))), (6, (0, (flM h mk d1 b))), (5, (0, (((514 + 5 * d1) : Nat) : Int))), (4, (0, ((d1 : Nat) : Int))), (3, (0, (s))), (0, (2, ((193 : Nat) : Int))), (1, (0, (mk))), (2, (0, (kk)))]) (st' := [(0, ((0 : Nat) : Int))]) (h' := h) (o246_94 hB) rfl ?_
              refine w_st (tg := 0) (j := 6) (len := 2) (pc' := 172) (lv' := [(6, (0, ((0 : Nat) : Int))), (8, (0, ((0 : Nat) : Int))), (7, (0, ((b : Nat) : Int))), (5, (0, (((514 + 5 * d1) : Nat) : Int))), (4, (0, ((d1 : Nat) : Int))), (3, (0, (s))), (0, (2, ((193 : Nat) : Int))), (1, (0, (mk))), (2, (0, (kk)))]) (o246_95 hB) rfl rfl ml246 (by decide) rfl ?_
              refine w_iinc (x := ((b : Nat) : Int)) (z := (((b + 1) : Nat) : Int)) (pc' := 175) (lv' := [(7, (0, (((b + 1) : Nat) : Int))), (6, (0, ((0 : Nat) : Int))), (8, (0, ((0 : Nat) : Int))), (5, (0, (((514 + 5 * d1) : Nat) : Int))), (4, (0, ((d1 : Nat) : Int))), (3, (0, (s))), (0, (2, ((193 : Nat) : Int))), (1, (0, (mk))), (2, (0, (kk)))]) (o246_96 hB) rfl rfl ml246 (by decide) (w32_e (by omega) (by omega)) rfl ?_
              refine w_goto (pt := 64) (o246_97 hB) (by decide) ?_
              refine w_sub (lv' := [(7, (0, (((b + 1) : Nat) : Int))), (6, (0, ((0 : Nat) : Int))), (5, (0, (((514 + 5 * d1) : Nat) : Int))), (4, (0, ((d1 : Nat) : Int))), (3, (0, (s))), (0, (2, ((193 : Nat) : Int))), (1, (0, (mk))), (2, (0, (kk)))]) (List.forall_mem_cons.mpr ⟨(List.Mem.head _), (List.forall_mem_cons.mpr ⟨(List.Mem.tail _ (List.Mem.head _)), (List.forall_mem_cons.mpr ⟨(List.Mem.tail _ (List.Mem.tail _ (List.Mem.tail _ (List.Mem.head _)))), (List.forall_mem_cons.mpr ⟨(List.Mem.tail _ (List.Mem.tail _ (List.Mem.tail _ (List.Mem.tail _ (List.Mem.head _))))), (List.forall_mem_cons.mpr ⟨(List.Mem.tail _ (List.Mem.tail _ (List.Mem.tail _ (List.Mem.tail _ (List.Mem.tail _ (List.Mem.head _)))))), (List.forall_mem_cons.mpr ⟨(List.Mem.tail _ (List.Mem.tail _ (List.Mem.tail _ (List.Mem.tail _ (List.Mem.tail _ (List.Mem.tail _ (List.Mem.head _))))))), (List.forall_mem_cons.mpr ⟨(List.Mem.tail _ (List.Mem.tail _ (List.Mem.tail _ (List.Mem.tail _ (List.Mem.tail _ (List.Mem.tail _ (List.Mem.tail _ (List.Mem.head _)))))))), (List.forall_mem_cons.mpr ⟨(List.Mem.tail _ (List.Mem.tail _ (List.Mem.tail _ (List.Mem.tail _ (List.Mem.tail _ (List.Mem.tail _ (List.Mem.tail _ (List.Mem.tail _ (List.Mem.head _))))))))), (fun _ hx => by cases hx)⟩)⟩)⟩)⟩)⟩)⟩)⟩)⟩) ?_
              have e1 : ((0 : Nat) : Int) = flM h mk d1 (b + 1) := by
                simp only [flM]
                rw [if_neg (by omega)]
                first | rfl | omega
              rw [e1]
              exact ih (b + 1) (by omega)
            · have f292 : ¬ ((flM h mk d1 b) = (0)) := e
              refine w_pl (pc' := 150) (lv' := [(8, (0, ((0 : Nat) : Int))), (7, (0, ((b : Nat) : Int))), (6, (0, (flM h mk d1 b))), (5, (0, (((514 + 5 * d1) : Nat) : Int))), (4, (0, ((d1 : Nat) : Int))), (3, (0, (s))), (0, (2, ((193 : Nat) : Int))), (1, (0, (mk))), (2, (0, (kk)))]) (st' := [(2, ((193 : Nat) : Int))]) (h' := h) (o246_85 hB) rfl ?_
              refine w_pl (pc' := 152) (lv' := [(8, (0, ((0 : Nat) : Int))), (7, (0, ((b : Nat) : Int))), (6, (0, (flM h mk d1 b))), (5, (0, (((514 + 5 * d1) : Nat) : Int))), (4, (0, ((d1 : Nat) : Int))), (3, (0, (s))), (0, (2, ((193 : Nat) : Int))), (1, (0, (mk))), (2, (0, (kk)))]) (st' := [(0, ((d1 : Nat) : Int)), (2, ((193 : Nat) : Int))]) (h' := h) (o246_86 hB) rfl ?_
              refine w_pl (pc' := 154) (lv' := [(8, (0, ((0 : Nat) : Int))), (7, (0, ((b : Nat) : Int))), (6, (0, (flM h mk d1 b))), (5, (0, (((514 + 5 * d1) : Nat) : Int))), (4, (0, ((d1 : Nat) : Int))), (3, (0, (s))), (0, (2, ((193 : Nat) : Int))), (1, (0, (mk))), (2, (0, (kk)))]) (st' := [(0, ((b : Nat) : Int)), (0, ((d1 : Nat) : Int)), (2, ((193 : Nat) : Int))]) (h' := h) (o246_87 hB) rfl ?_
              refine w_callV (A := 193) (as := [(0, ((d1 : Nat) : Int)), (0, ((b : Nat) : Int))]) (rest := []) (n := 2) (pc' := 157) 11 hB (o246_88 hB) rfl (by decide +kernel) rfl rfl (Nat.le_of_ble_eq_true rfl) (m_areAlike hB ht (by omega) (by omega) (fun f293 => ?_) (fun f294 => ?_))
              · show HW g l _ 246 _ _ 157 [(8, (0, ((0 : Nat) : Int))), (7, (0, ((b : Nat) : Int))), (6, (0, (flM h mk d1 b))), (5, (0, (((514 + 5 * d1) : Nat) : Int))), (4, (0, ((d1 : Nat) : Int))), (3, (0, (s))), (0, (2, ((193 : Nat) : Int))), (1, (0, (mk))), (2, (0, (kk)))] [(0, ((1 : Nat) : Int))] h
                refine w_ifc (pt := 165) (pf := 160) (o246_89 hB) (by decide) rfl (fun e => ?_) (fun e => ?_)
                · have f295 : (((1 : Nat) : Int) = (0)) := e
                  exfalso; omega
                · have f296 : ¬ (((1 : Nat) : Int) = (0)) := e
                  refine w_pl (pc' := 162) (lv' := [(8, (0, ((0 : Nat) : Int))), (7, (0, ((b : Nat) : Int))), (6, (0, (flM h mk d1 b))), (5, (0, (((514 + 5 * d1) : Nat) : Int))), (4, (0, ((d1 : Nat) : Int))), (3, (0, (s))), (0, (2, ((193 : Nat) : Int))), (1, (0, (mk))), (2, (0, (kk)))]) (st' := [(0, ((0 : Nat) : Int))]) (h' := h) (o246_90 hB) rfl ?_
                  refine w_ifc (pt := 169) (pf := 165) (o246_91 hB) (by decide) rfl (fun e => ?_) (fun e => ?_)
                  · have f297 : (((0 : Nat) : Int) ≠ (0)) := e
                    exfalso; omega
                  · have f298 : ¬ (((0 : Nat) : Int) ≠ (0)) := e
                    refine w_pl (pc' := 166) (lv' := [(8, (0, ((0 : Nat) : Int))), (7, (0, ((b : Nat) : Int))), (6, (0, (flM h mk d1 b))), (5, (0, (((514 + 5 * d1) : Nat) : Int))), (4, (0, ((d1 : Nat) : Int))), (3, (0, (s))), (0, (2, ((193 : Nat) : Int))), (1, (0, (mk))), (2, (0, (kk)))]) (st' := [(0, ((1 : Nat) : Int))]) (h' := h) (o246_92 hB) rfl ?_
                    refine w_goto (pt := 170) (o246_93 hB) (by decide) ?_
                    refine w_st (tg := 0) (j := 6) (len := 2) (pc' := 172) (lv' := [(6, (0, ((1 : Nat) : Int))), (8, (0, ((0 : Nat) : Int))), (7, (0, ((b : Nat) : Int))), (5, (0, (((514 + 5 * d1) : Nat) : Int))), (4, (0, ((d1 : Nat) : Int))), (3, (0, (s))), (0, (2, ((193 : Nat) : Int))), (1, (0, (mk))), (2, (0, (kk)))]) (o246_95 hB) rfl rfl ml246 (by decide) rfl ?_
                    refine w_iinc (x := ((b : Nat) : Int)) (z := (((b + 1) : Nat) : Int)) (pc' := 175) (lv' := [(7, (0, (((b + 1) : Nat) : Int))), (6, (0, ((1 : Nat) : Int))), (8, (0, ((0 : Nat) : Int))), (5, (0, (((514 + 5 * d1) : Nat) : Int))), (4, (0, ((d1 : Nat) : Int))), (3, (0, (s))), (0, (2, ((193 : Nat) : Int))), (1, (0, (mk))), (2, (0, (kk)))]) (o246_96 hB) rfl rfl ml246 (by decide) (w32_e (by omega) (by omega)) rfl ?_
                    refine w_goto (pt := 64) (o246_97 hB) (by decide) ?_
                    refine w_sub (lv' := [(7, (0, (((b + 1) : Nat) : Int))), (6, (0, ((1 : Nat) : Int))), (5, (0, (((514 + 5 * d1) : Nat) : Int))), (4, (0, ((d1 : Nat) : Int))), (3, (0, (s))), (0, (2, ((193 : Nat) : Int))), (1, (0, (mk))), (2, (0, (kk)))]) (List.forall_mem_cons.mpr ⟨(List.Mem.head _), (List.forall_mem_cons.mpr ⟨(List.Mem.tail _ (List.Mem.head _)), (List.forall_mem_cons.mpr ⟨(List.Mem.tail _ (List.Mem.tail _ (List.Mem.tail _ (List.Mem.head _)))), (List.forall_mem_cons.mpr ⟨(List.Mem.tail _ (List.Mem.tail _ (List.Mem.tail _ (List.Mem.tail _ (List.Mem.head _))))), (List.forall_mem_cons.mpr ⟨(List.Mem.tail _ (List.Mem.tail _ (List.Mem.tail _ (List.Mem.tail _ (List.Mem.tail _ (List.Mem.head _)))))), (List.forall_mem_cons.mpr ⟨(List.Mem.tail _ (List.Mem.tail _ (List.Mem.tail _ (List.Mem.tail _ (List.Mem.tail _ (List.Mem.tail _ (List.Mem.head _))))))), (List.forall_mem_cons.mpr ⟨(List.Mem.tail _ (List.Mem.tail _ (List.Mem.tail _ (List.Mem.tail _ (List.Mem.tail _ (List.Mem.tail _ (List.Mem.tail _ (List.Mem.head _)))))))), (List.forall_mem_cons.mpr ⟨(List.Mem.tail _ (List.Mem.tail _ (List.Mem.tail _ (List.Mem.tail _ (List.Mem.tail _ (List.Mem.tail _ (List.Mem.tail _ (List.Mem.tail _ (List.Mem.head _))))))))), (fun _ hx => by cases hx)⟩)⟩)⟩)⟩)⟩)⟩)⟩)⟩) ?_
                    have e1 : ((1 : Nat) : Int) = flM h mk d1 (b + 1) := by
                      simp only [flM]
                      rw [if_pos (by omega)]
                      first | rfl | omega
                    rw [e1]
                    exact ih (b + 1) (by omega)
              · show HW g l _ 246 _ _ 157 [(8, (0, ((0 : Nat) : Int))), (7, (0, ((b : Nat) : Int))), (6, (0, (flM h mk d1 b))), (5, (0, (((514 + 5 * d1) : Nat) : Int))), (4, (0, ((d1 : Nat) : Int))), (3, (0, (s))), (0, (2, ((193 : Nat) : Int))), (1, (0, (mk))), (2, (0, (kk)))] [(0, ((0 : Nat) : Int))] h
                refine w_ifc (pt := 165) (pf := 160) (o246_89 hB) (by decide) rfl (fun e => ?_) (fun e => ?_)
                · have f299 : (((0 : Nat) : Int) = (0)) := e
                  refine w_pl (pc' := 166) (lv' := [(8, (0, ((0 : Nat) : Int))), (7, (0, ((b : Nat) : Int))), (6, (0, (flM h mk d1 b))), (5, (0, (((514 + 5 * d1) : Nat) : Int))), (4, (0, ((d1 : Nat) : Int))), (3, (0, (s))), (0, (2, ((193 : Nat) : Int))), (1, (0, (mk))), (2, (0, (kk)))]) (st' := [(0, ((1 : Nat) : Int))]) (h' := h) (o246_92 hB) rfl ?_
                  refine w_goto (pt := 170) (o246_93 hB) (by decide) ?_
                  refine w_st (tg := 0) (j := 6) (len := 2) (pc' := 172) (lv' := [(6, (0, ((1 : Nat) : Int))), (8, (0, ((0 : Nat) : Int))), (7, (0, ((b : Nat) : Int))), (5, (0, (((514 + 5 * d1) : Nat) : Int))), (4, (0, ((d1 : Nat) : Int))), (3, (0, (s))), (0, (2, ((193 : Nat) : Int))), (1, (0, (mk))), (2, (0, (kk)))]) (o246_95 hB) rfl rfl ml246 (by decide) rfl ?_
                  refine w_iinc (x := ((b : Nat) : Int)) (z := (((b + 1) : Nat) : Int)) (pc' := 175) (lv' := [(7, (0, (((b + 1) : Nat) : Int))), (6, (0, ((1 : Nat) : Int))), (8, (0, ((0 : Nat) : Int))), (5, (0, (((514 + 5 * d1) : Nat) : Int))), (4, (0, ((d1 : Nat) : Int))), (3, (0, (s))), (0, (2, ((193 : Nat) : Int))), (1, (0, (mk))), (2, (0, (kk)))]) (o246_96 hB) rfl rfl ml246 (by decide) (w32_e (by omega) (by omega)) rfl ?_
                  refine w_goto (pt := 64) (o246_97 hB) (by decide) ?_
                  refine w_sub (lv' := [(7, (0, (((b + 1) : Nat) : Int))), (6, (0, ((1 : Nat) : Int))), (5, (0, (((514 + 5 * d1) : Nat) : Int))), (4, (0, ((d1 : Nat) : Int))), (3, (0, (s))), (0, (2, ((193 : Nat) : Int))), (1, (0, (mk))), (2, (0, (kk)))]) (List.forall_mem_cons.mpr ⟨(List.Mem.head _), (List.forall_mem_cons.mpr ⟨(List.Mem.tail _ (List.Mem.head _)), (List.forall_mem_cons.mpr ⟨(List.Mem.tail _ (List.Mem.tail _ (List.Mem.tail _ (List.Mem.head _)))), (List.forall_mem_cons.mpr ⟨(List.Mem.tail _ (List.Mem.tail _ (List.Mem.tail _ (List.Mem.tail _ (List.Mem.head _))))), (List.forall_mem_cons.mpr ⟨(List.Mem.tail _ (List.Mem.tail _ (List.Mem.tail _ (List.Mem.tail _ (List.Mem.tail _ (List.Mem.head _)))))), (List.forall_mem_cons.mpr ⟨(List.Mem.tail _ (List.Mem.tail _ (List.Mem.tail _ (List.Mem.tail _ (List.Mem.tail _ (List.Mem.tail _ (List.Mem.head _))))))), (List.forall_mem_cons.mpr ⟨(List.Mem.tail _ (List.Mem.tail _ (List.Mem.tail _ (List.Mem.tail _ (List.Mem.tail _ (List.Mem.tail _ (List.Mem.tail _ (List.Mem.head _)))))))), (List.forall_mem_cons.mpr ⟨(List.Mem.tail _ (List.Mem.tail _ (List.Mem.tail _ (List.Mem.tail _ (List.Mem.tail _ (List.Mem.tail _ (List.Mem.tail _ (List.Mem.tail _ (List.Mem.head _))))))))), (fun _ hx => by cases hx)⟩)⟩)⟩)⟩)⟩)⟩)⟩)⟩) ?_
                  have e1 : ((1 : Nat) : Int) = flM h mk d1 (b + 1) := by
                    simp only [flM]
                    rw [if_pos (by omega)]
                    first | rfl | omega
                  rw [e1]
                  exact ih (b + 1) (by omega)
                · have f300 : ¬ (((0 : Nat) : Int) = (0)) := e
                  exfalso; omega
          · have f301 : ¬ (((d1 : Nat) : Int) ≤ ((b : Nat) : Int)) := e
            refine w_pl (pc' := 138) (lv' := [(7, (0, ((b : Nat) : Int))), (6, (0, (flM h mk d1 b))), (5, (0, (((514 + 5 * d1) : Nat) : Int))), (4, (0, ((d1 : Nat) : Int))), (3, (0, (s))), (0, (2, ((193 : Nat) : Int))), (1, (0, (mk))), (2, (0, (kk)))]) (st' := [(0, ((1 : Nat) : Int))]) (h' := h) (o246_79 hB) rfl ?_
            refine w_goto (pt := 142) (o246_80 hB) (by decide) ?_
            refine w_st (tg := 0) (j := 8) (len := 2) (pc' := 144) (lv' := [(8, (0, ((1 : Nat) : Int))), (7, (0, ((b : Nat) : Int))), (6, (0, (flM h mk d1 b))), (5, (0, (((514 + 5 * d1) : Nat) : Int))), (4, (0, ((d1 : Nat) : Int))), (3, (0, (s))), (0, (2, ((193 : Nat) : Int))), (1, (0, (mk))), (2, (0, (kk)))]) (o246_82 hB) rfl rfl ml246 (by decide) rfl ?_
            refine w_pl (pc' := 146) (lv' := [(8, (0, ((1 : Nat) : Int))), (7, (0, ((b : Nat) : Int))), (6, (0, (flM h mk d1 b))), (5, (0, (((514 + 5 * d1) : Nat) : Int))), (4, (0, ((d1 : Nat) : Int))), (3, (0, (s))), (0, (2, ((193 : Nat) : Int))), (1, (0, (mk))), (2, (0, (kk)))]) (st' := [(0, (flM h mk d1 b))]) (h' := h) (o246_83 hB) rfl ?_
            refine w_ifc (pt := 169) (pf := 149) (o246_84 hB) (by decide) rfl (fun e => ?_) (fun e => ?_)
            · have f302 : ((flM h mk d1 b) = (0)) := e
              refine w_pl (pc' := 170) (lv' := [(8, (0, ((1 : Nat) : Int))), (7, (0, ((b : Nat) : Int))), (6, (0, (flM h mk d1 b))), (5, (0, (((514 + 5 * d1) : Nat) : Int))), (4, (0, ((d1 : Nat) : Int))), (3, (0, (s))), (0, (2, ((193 : Nat) : Int))), (1, (0, (mk))), (2, (0, (kk)))]) (st' := [(0, ((0 : Nat) : Int))]) (h' := h) (o246_94 hB) rfl ?_
              refine w_st (tg := 0) (j := 6) (len := 2) (pc' := 172) (lv' := [(6, (0, ((0 : Nat) : Int))), (8, (0, ((1 : Nat) : Int))), (7, (0, ((b : Nat) : Int))), (5, (0, (((514 + 5 * d1) : Nat) : Int))), (4, (0, ((d1 : Nat) : Int))), (3, (0, (s))), (0, (2, ((193 : Nat) : Int))), (1, (0, (mk))), (2, (0, (kk)))]) (o246_95 hB) rfl rfl ml246 (by decide) rfl ?_
              refine w_iinc (x := ((b : Nat) : Int)) (z := (((b + 1) : Nat) : Int)) (pc' := 175) (lv' := [(7, (0, (((b + 1) : Nat) : Int))), (6, (0, ((0 : Nat) : Int))), (8, (0, ((1 : Nat) : Int))), (5, (0, (((514 + 5 * d1) : Nat) : Int))), (4, (0, ((d1 : Nat) : Int))), (3, (0, (s))), (0, (2, ((193 : Nat) : Int))), (1, (0, (mk))), (2, (0, (kk)))]) (o246_96 hB) rfl rfl ml246 (by decide) (w32_e (by omega) (by omega)) rfl ?_
              refine w_goto (pt := 64) (o246_97 hB) (by decide) ?_
              refine w_sub (lv' := [(7, (0, (((b + 1) : Nat) : Int))), (6, (0, ((0 : Nat) : Int))), (5, (0, (((514 + 5 * d1) : Nat) : Int))), (4, (0, ((d1 : Nat) : Int))), (3, (0, (s))), (0, (2, ((193 : Nat) : Int))), (1, (0, (mk))), (2, (0, (kk)))]) (List.forall_mem_cons.mpr ⟨(List.Mem.head _), (List.forall_mem_cons.mpr ⟨(List.Mem.tail _ (List.Mem.head _)), (List.forall_mem_cons.mpr ⟨(List.Mem.tail _ (List.Mem.tail _ (List.Mem.tail _ (List.Mem.head _)))), (List.forall_mem_cons.mpr ⟨(List.Mem.tail _ (List.Mem.tail _ (List.Mem.tail _ (List.Mem.tail _ (List.Mem.head _))))), (List.forall_mem_cons.mpr ⟨(List.Mem.tail _ (List.Mem.tail _ (List.Mem.tail _ (List.Mem.tail _ (List.Mem.tail _ (List.Mem.head _)))))), (List.forall_mem_cons.mpr ⟨(List.Mem.tail _ (List.Mem.tail _ (List.Mem.tail _ (List.Mem.tail _ (List.Mem.tail _ (List.Mem.tail _ (List.Mem.head _))))))), (List.forall_mem_cons.mpr ⟨(List.Mem.tail _ (List.Mem.tail _ (List.Mem.tail _ (List.Mem.tail _ (List.Mem.tail _ (List.Mem.tail _ (List.Mem.tail _ (List.Mem.head _)))))))), (List.forall_mem_cons.mpr ⟨(List.Mem.tail _ (List.Mem.tail _ (List.Mem.tail _ (List.Mem.tail _ (List.Mem.tail _ (List.Mem.tail _ (List.Mem.tail _ (List.Mem.tail _ (List.Mem.head _))))))))), (fun _ hx => by cases hx)⟩)⟩)⟩)⟩)⟩)⟩)⟩)⟩) ?_
              have e1 : ((0 : Nat) : Int) = flM h mk d1 (b + 1) := by
                simp only [flM]
                rw [if_neg (by omega)]
                first | rfl | omega
              rw [e1]
              exact ih (b + 1) (by omega)
            · have f303 : ¬ ((flM h mk d1 b) = (0)) := e
              refine w_pl (pc' := 150) (lv' := [(8, (0, ((1 : Nat) : Int))), (7, (0, ((b : Nat) : Int))), (6, (0, (flM h mk d1 b))), (5, (0, (((514 + 5 * d1) : Nat) : Int))), (4, (0, ((d1 : Nat) : Int))), (3, (0, (s))), (0, (2, ((193 : Nat) : Int))), (1, (0, (mk))), (2, (0, (kk)))]) (st' := [(2, ((193 : Nat) : Int))]) (h' := h) (o246_85 hB) rfl ?_
              refine w_pl (pc' := 152) (lv' := [(8, (0, ((1 : Nat) : Int))), (7, (0, ((b : Nat) : Int))), (6, (0, (flM h mk d1 b))), (5, (0, (((514 + 5 * d1) : Nat) : Int))), (4, (0, ((d1 : Nat) : Int))), (3, (0, (s))), (0, (2, ((193 : Nat) : Int))), (1, (0, (mk))), (2, (0, (kk)))]) (st' := [(0, ((d1 : Nat) : Int)), (2, ((193 : Nat) : Int))]) (h' := h) (o246_86 hB) rfl ?_
              refine w_pl (pc' := 154) (lv' := [(8, (0, ((1 : Nat) : Int))), (7, (0, ((b : Nat) : Int))), (6, (0, (flM h mk d1 b))), (5, (0, (((514 + 5 * d1) : Nat) : Int))), (4, (0, ((d1 : Nat) : Int))), (3, (0, (s))), (0, (2, ((193 : Nat) : Int))), (1, (0, (mk))), (2, (0, (kk)))]) (st' := [(0, ((b : Nat) : Int)), (0, ((d1 : Nat) : Int)), (2, ((193 : Nat) : Int))]) (h' := h) (o246_87 hB) rfl ?_
              refine w_callV (A := 193) (as := [(0, ((d1 : Nat) : Int)), (0, ((b : Nat) : Int))]) (rest := []) (n := 2) (pc' := 157) 11 hB (o246_88 hB) rfl (by decide +kernel) rfl rfl (Nat.le_of_ble_eq_true rfl) (m_areAlike hB ht (by omega) (by omega) (fun f304 => ?_) (fun f305 => ?_))
              · show HW g l _ 246 _ _ 157 [(8, (0, ((1 : Nat) : Int))), (7, (0, ((b : Nat) : Int))), (6, (0, (flM h mk d1 b))), (5, (0, (((514 + 5 * d1) : Nat) : Int))), (4, (0, ((d1 : Nat) : Int))), (3, (0, (s))), (0, (2, ((193 : Nat) : Int))), (1, (0, (mk))), (2, (0, (kk)))] [(0, ((1 : Nat) : Int))] h
                refine w_ifc (pt := 165) (pf := 160) (o246_89 hB) (by decide) rfl (fun e => ?_) (fun e => ?_)
                · have f306 : (((1 : Nat) : Int) = (0)) := e
                  exfalso; omega
                · have f307 : ¬ (((1 : Nat) : Int) = (0)) := e
                  refine w_pl (pc' := 162) (lv' := [(8, (0, ((1 : Nat) : Int))), (7, (0, ((b : Nat) : Int))), (6, (0, (flM h mk d1 b))), (5, (0, (((514 + 5 * d1) : Nat) : Int))), (4, (0, ((d1 : Nat) : Int))), (3, (0, (s))), (0, (2, ((193 : Nat) : Int))), (1, (0, (mk))), (2, (0, (kk)))]) (st' := [(0, ((1 : Nat) : Int))]) (h' := h) (o246_90 hB) rfl ?_
                  refine w_ifc (pt := 169) (pf := 165) (o246_91 hB) (by decide) rfl (fun e => ?_) (fun e => ?_)
                  · have f308 : (((1 : Nat) : Int) ≠ (0)) := e
                    refine w_pl (pc' := 170) (lv' := [(8, (0, ((1 : Nat) : Int))), (7, (0, ((b : Nat) : Int))), (6, (0, (flM h mk d1 b))), (5, (0, (((514 + 5 * d1) : Nat) : Int))), (4, (0, ((d1 : Nat) : Int))), (3, (0, (s))), (0, (2, ((193 : Nat) : Int))), (1, (0, (mk))), (2, (0, (kk)))]) (st' := [(0, ((0 : Nat) : Int))]) (h' := h) (o246_94 hB) rfl ?_
                    refine w_st (tg := 0) (j := 6) (len := 2) (pc' := 172) (lv' := [(6, (0, ((0 : Nat) : Int))), (8, (0, ((1 : Nat) : Int))), (7, (0, ((b : Nat) : Int))), (5, (0, (((514 + 5 * d1) : Nat) : Int))), (4, (0, ((d1 : Nat) : Int))), (3, (0, (s))), (0, (2, ((193 : Nat) : Int))), (1, (0, (mk))), (2, (0, (kk)))]) (o246_95 hB) rfl rfl ml246 (by decide) rfl ?_
                    refine w_iinc (x := ((b : Nat) : Int)) (z := (((b + 1) : Nat) : Int)) (pc' := 175) (lv' := [(7, (0, (((b + 1) : Nat) : Int))), (6, (0, ((0 : Nat) : Int))), (8, (0, ((1 : Nat) : Int))), (5, (0, (((514 + 5 * d1) : Nat) : Int))), (4, (0, ((d1 : Nat) : Int))), (3, (0, (s))), (0, (2, ((193 : Nat) : Int))), (1, (0, (mk))), (2, (0, (kk)))]) (o246_96 hB) rfl rfl ml246 (by decide) (w32_e (by omega) (by omega)) rfl ?_
                    refine w_goto (pt := 64) (o246_97 hB) (by decide) ?_
                    refine w_sub (lv' := [(7, (0, (((b + 1) : Nat) : Int))), (6, (0, ((0 : Nat) : Int))), (5, (0, (((514 + 5 * d1) : Nat) : Int))), (4, (0, ((d1 : Nat) : Int))), (3, (0, (s))), (0, (2, ((193 : Nat) : Int))), (1, (0, (mk))), (2, (0, (kk)))]) (List.forall_mem_cons.mpr ⟨(List.Mem.head _), (List.forall_mem_cons.mpr ⟨(List.Mem.tail _ (List.Mem.head _)), (List.forall_mem_cons.mpr ⟨(List.Mem.tail _ (List.Mem.tail _ (List.Mem.tail _ (List.Mem.head _)))), (List.forall_mem_cons.mpr ⟨(List.Mem.tail _ (List.Mem.tail _ (List.Mem.tail _ (List.Mem.tail _ (List.Mem.head _))))), (List.forall_mem_cons.mpr ⟨(List.Mem.tail _ (List.Mem.tail _ (List.Mem.tail _ (List.Mem.tail _ (List.Mem.tail _ (List.Mem.head _)))))), (List.forall_mem_cons.mpr ⟨(List.Mem.tail _ (List.Mem.tail _ (List.Mem.tail _ (List.Mem.tail _ (List.Mem.tail _ (List.Mem.tail _ (List.Mem.head _))))))), (List.forall_mem_cons.mpr ⟨(List.Mem.tail _ (List.Mem.tail _ (List.Mem.tail _ (List.Mem.tail _ (List.Mem.tail _ (List.Mem.tail _ (List.Mem.tail _ (List.Mem.head _)))))))), (List.forall_mem_cons.mpr ⟨(List.Mem.tail _ (List.Mem.tail _ (List.Mem.tail _ (List.Mem.tail _ (List.Mem.tail _ (List.Mem.tail _ (List.Mem.tail _ (List.Mem.tail _ (List.Mem.head _))))))))), (fun _ hx => by cases hx)⟩)⟩)⟩)⟩)⟩)⟩)⟩)⟩) ?_
                    have e1 : ((0 : Nat) : Int) = flM h mk d1 (b + 1) := by
                      simp only [flM]
                      rw [if_neg (by omega)]
                      first | rfl | omega
                    rw [e1]
                    exact ih (b + 1) (by omega)
                  · have f309 : ¬ (((1 : Nat) : Int) ≠ (0)) := e
                    exfalso; omega
              · show HW g l _ 246 _ _ 157 [(8, (0, ((1 : Nat) : Int))), (7, (0, ((b : Nat) : Int))), (6, (0, (flM h mk d1 b))), (5, (0, (((514 + 5 * d1) : Nat) : Int))), (4, (0, ((d1 : Nat) : Int))), (3, (0, (s))), (0, (2, ((193 : Nat) : Int))), (1, (0, (mk))), (2, (0, (kk)))] [(0, ((0 : Nat) : Int))] h
                refine w_ifc (pt := 165) (pf := 160) (o246_89 hB) (by decide) rfl (fun e => ?_) (fun e => ?_)
                · have f310 : (((0 : Nat) : Int) = (0)) := e
                  refine w_pl (pc' := 166) (lv' := [(8, (0, ((1 : Nat) : Int))), (7, (0, ((b : Nat) : Int))), (6, (0, (flM h mk d1 b))), (5, (0, (((514 + 5 * d1) : Nat) : Int))), (4, (0, ((d1 : Nat) : Int))), (3, (0, (s))), (0, (2, ((193 : Nat) : Int))), (1, (0, (mk))), (2, (0, (kk)))]) (st' := [(0, ((1 : Nat) : Int))]) (h' := h) (o246_92 hB) rfl ?_
                  refine w_goto (pt := 170) (o246_93 hB) (by decide) ?_
                  refine w_st (tg := 0) (j := 6) (len := 2) (pc' := 172) (lv' := [(6, (0, ((1 : Nat) : Int))), (8, (0, ((1 : Nat) : Int))), (7, (0, ((b : Nat) : Int))), (5, (0, (((514 + 5 * d1) : Nat) : Int))), (4, (0, ((d1 : Nat) : Int))), (3, (0, (s))), (0, (2, ((193 : Nat) : Int))), (1, (0, (mk))), (2, (0, (kk)))]) (o246_95 hB) rfl rfl ml246 (by decide) rfl ?_
                  refine w_iinc (x := ((b : Nat) : Int)) (z := (((b + 1) : Nat) : Int)) (pc' := 175) (lv' := [(7, (0, (((b + 1) : Nat) : Int))), (6, (0, ((1 : Nat) : Int))), (8, (0, ((1 : Nat) : Int))), (5, (0, (((514 + 5 * d1) : Nat) : Int))), (4, (0, ((d1 : Nat) : Int))), (3, (0, (s))), (0, (2, ((193 : Nat) : Int))), (1, (0, (mk))), (2, (0, (kk)))]) (o246_96 hB) rfl rfl ml246 (by decide) (w32_e (by omega) (by omega)) rfl ?_
                  refine w_goto (pt := 64) (o246_97 hB) (by decide) ?_
                  refine w_sub (lv' := [(7, (0, (((b + 1) : Nat) : Int))), (6, (0, ((1 : Nat) : Int))), (5, (0, (((514 + 5 * d1) : Nat) : Int))), (4, (0, ((d1 : Nat) : Int))), (3, (0, (s))), (0, (2, ((193 : Nat) : Int))), (1, (0, (mk))), (2, (0, (kk)))]) (List.forall_mem_cons.mpr ⟨(List.Mem.head _), (List.forall_mem_cons.mpr ⟨(List.Mem.tail _ (List.Mem.head _)), (List.forall_mem_cons.mpr ⟨(List.Mem.tail _ (List.Mem.tail _ (List.Mem.tail _ (List.Mem.head _)))), (List.forall_mem_cons.mpr ⟨(List.Mem.tail _ (List.Mem.tail _ (List.Mem.tail _ (List.Mem.tail _ (List.Mem.head _))))), (List.forall_mem_cons.mpr ⟨(List.Mem.tail _ (List.Mem.tail _ (List.Mem.tail _ (List.Mem.tail _ (List.Mem.tail _ (List.Mem.head _)))))), (List.forall_mem_cons.mpr ⟨(List.Mem.tail _ (List.Mem.tail _ (List.Mem.tail _ (List.Mem.tail _ (List.Mem.tail _ (List.Mem.tail _ (List.Mem.head _))))))), (List.forall_mem_cons.mpr ⟨(List.Mem.tail _ (List.Mem.tail _ (List.Mem.tail _ (List.Mem.tail _ (List.Mem.tail _ (List.Mem.tail _ (List.Mem.tail _ (List.Mem.head _)))))))), (List.forall_mem_cons.mpr ⟨(List.Mem.tail _ (List.Mem.tail _ (List.Mem.tail _ (List.Mem.tail _ (List.Mem.tail _ (List.Mem.tail _ (List.Mem.tail _ (List.Mem.tail _ (List.Mem.head _))))))))), (fun _ hx => by cases hx)⟩)⟩)⟩)⟩)⟩)⟩)⟩)⟩) ?_
                  have e1 : ((1 : Nat) : Int) = flM h mk d1 (b + 1) := by
                    simp only [flM]
                    rw [if_pos (by omega)]
                    first | rfl | omega
                  rw [e1]
                  exact ih (b + 1) (by omega)
                · have f311 : ¬ (((0 : Nat) : Int) = (0)) := e
                  exfalso; omega
theorem l_undM (hB : BytesOK) {g : bG} {l : Launch} {d : Nat} {Q : bQ} {h : bH} (ht : TH h) {mk kk : Int} {u c : Nat} (hu : h 194 8 = (u : Int)) (lu : u ≤ 12) (hc : h 194 5 = (c : Int)) (lc : c ≤ 24) (hq : Q (some (0, unM h mk kk u c u)) h) : ∀ q b, b + q = u → HW g l (d + 1) 246 212 Q 21 [(4, (0, ((b : Nat) : Int))), (3, (0, (unM h mk kk u c b))), (0, (2, ((193 : Nat) : Int))), (1, (0, (mk))), (2, (0, (kk)))] [] h := by
  have hR := ht.r
  intro q
  induction q with
  | zero =>
    intro b hb
    have ru := unM_r ht (mk := mk) (kk := kk) (u := u) lc b (by omega)
    refine w_pl (pc' := 23) (lv' := [(4, (0, ((b : Nat) : Int))), (3, (0, (unM h mk kk u c b))), (0, (2, ((193 : Nat) : Int))), (1, (0, (mk))), (2, (0, (kk)))]) (st' := [(0, ((b : Nat) : Int))]) (h' := h) (o246_12 hB) rfl ?_
    refine w_pl (pc' := 24) (lv' := [(4, (0, ((b : Nat) : Int))), (3, (0, (unM h mk kk u c b))), (0, (2, ((193 : Nat) : Int))), (1, (0, (mk))), (2, (0, (kk)))]) (st' := [(2, ((193 : Nat) : Int)), (0, ((b : Nat) : Int))]) (h' := h) (o246_13 hB) rfl ?_
    refine w_getf (A := 193) (t := 2) (z := ((194 : Nat) : Int)) (pc' := 27) (o246_14 hB) rfl (by decide +kernel) (hR (193, 0, 194) (by decide)) ?_
    refine w_pl (pc' := 29) (lv' := [(4, (0, ((b : Nat) : Int))), (3, (0, (unM h mk kk u c b))), (0, (2, ((193 : Nat) : Int))), (1, (0, (mk))), (2, (0, (kk)))]) (st' := [(0, ((8 : Nat) : Int)), (2, ((194 : Nat) : Int)), (0, ((b : Nat) : Int))]) (h' := h) (o246_15 hB) rfl ?_
    refine w_iald (A := 194) (i := 8) (n := 1984) (z := ((u : Nat) : Int)) (pc' := 30) (o246_16 hB) rfl (by decide +kernel) (by omega) hu ?_
    refine w_icmp (pt := 243) (pf := 33) (o246_17 hB) (by decide) rfl (fun e => ?_) (fun e => ?_)
    · have f312 : (((u : Nat) : Int) ≤ ((b : Nat) : Int)) := e
      refine w_pl (pc' := 244) (lv' := [(4, (0, ((b : Nat) : Int))), (3, (0, (unM h mk kk u c b))), (0, (2, ((193 : Nat) : Int))), (1, (0, (mk))), (2, (0, (kk)))]) (st' := [(0, (unM h mk kk u c b))]) (h' := h) (o246_136 hB) rfl ?_
      obtain rfl : b = u := by omega
      exact w_iret (o246_137 hB) mr246 (by unfold in32; omega) hq
    · have f313 : ¬ (((u : Nat) : Int) ≤ ((b : Nat) : Int)) := e
      exfalso; omega
  | succ q ih =>
    intro b hb
    have ru := unM_r ht (mk := mk) (kk := kk) (u := u) lc b (by omega)
    have rc := cntM_r ht (mk := mk) (ld := h 194 (514 + 5 * b + 1)) (mo := h 194 (514 + 5 * b + 2)) (kk := kk) c lc
    have he : HW g l (d + 1) 246 212 Q 178 [(6, (0, (flM h mk b u))), (5, (0, (((514 + 5 * b) : Nat) : Int))), (4, (0, ((b : Nat) : Int))), (3, (0, (unM h mk kk u c b))), (0, (2, ((193 : Nat) : Int))), (1, (0, (mk))), (2, (0, (kk)))] [] h := by
      refine w_pl (pc' := 180) (lv' := [(6, (0, (flM h mk b u))), (5, (0, (((514 + 5 * b) : Nat) : Int))), (4, (0, ((b : Nat) : Int))), (3, (0, (unM h mk kk u c b))), (0, (2, ((193 : Nat) : Int))), (1, (0, (mk))), (2, (0, (kk)))]) (st' := [(0, (flM h mk b u))]) (h' := h) (o246_98 hB) rfl ?_
      refine w_ifc (pt := 220) (pf := 183) (o246_99 hB) (by decide) rfl (fun e => ?_) (fun e => ?_)
      · have f314 : ((flM h mk b u) = (0)) := e
        refine w_pl (pc' := 221) (lv' := [(6, (0, (flM h mk b u))), (5, (0, (((514 + 5 * b) : Nat) : Int))), (4, (0, ((b : Nat) : Int))), (3, (0, (unM h mk kk u c b))), (0, (2, ((193 : Nat) : Int))), (1, (0, (mk))), (2, (0, (kk)))]) (st' := [(0, ((0 : Nat) : Int))]) (h' := h) (o246_124 hB) rfl ?_
        refine w_st (tg := 0) (j := 7) (len := 2) (pc' := 223) (lv' := [(7, (0, ((0 : Nat) : Int))), (6, (0, (flM h mk b u))), (5, (0, (((514 + 5 * b) : Nat) : Int))), (4, (0, ((b : Nat) : Int))), (3, (0, (unM h mk kk u c b))), (0, (2, ((193 : Nat) : Int))), (1, (0, (mk))), (2, (0, (kk)))]) (o246_125 hB) rfl rfl ml246 (by decide) rfl ?_
        refine w_pl (pc' := 224) (lv' := [(7, (0, ((0 : Nat) : Int))), (6, (0, (flM h mk b u))), (5, (0, (((514 + 5 * b) : Nat) : Int))), (4, (0, ((b : Nat) : Int))), (3, (0, (unM h mk kk u c b))), (0, (2, ((193 : Nat) : Int))), (1, (0, (mk))), (2, (0, (kk)))]) (st' := [(0, (unM h mk kk u c b))]) (h' := h) (o246_126 hB) rfl ?_
        refine w_pl (pc' := 226) (lv' := [(7, (0, ((0 : Nat) : Int))), (6, (0, (flM h mk b u))), (5, (0, (((514 + 5 * b) : Nat) : Int))), (4, (0, ((b : Nat) : Int))), (3, (0, (unM h mk kk u c b))), (0, (2, ((193 : Nat) : Int))), (1, (0, (mk))), (2, (0, (kk)))]) (st' := [(0, ((0 : Nat) : Int)), (0, (unM h mk kk u c b))]) (h' := h) (o246_127 hB) rfl ?_
        refine w_ifc (pt := 234) (pf := 229) (o246_128 hB) (by decide) rfl (fun e => ?_) (fun e => ?_)
        · have f315 : (((0 : Nat) : Int) ≤ (0)) := e
          refine w_pl (pc' := 235) (lv' := [(7, (0, ((0 : Nat) : Int))), (6, (0, (flM h mk b u))), (5, (0, (((514 + 5 * b) : Nat) : Int))), (4, (0, ((b : Nat) : Int))), (3, (0, (unM h mk kk u c b))), (0, (2, ((193 : Nat) : Int))), (1, (0, (mk))), (2, (0, (kk)))]) (st' := [(0, ((0 : Nat) : Int)), (0, (unM h mk kk u c b))]) (h' := h) (o246_131 hB) rfl ?_
          refine w_iadd (z := ((unM h mk kk u c b) + ((0 : Nat) : Int))) (pc' := 236) (o246_132 hB) rfl (w32_e (by omega) (by omega)) ?_
          refine w_st (tg := 0) (j := 3) (len := 1) (pc' := 237) (lv' := [(3, (0, ((unM h mk kk u c b) + ((0 : Nat) : Int)))), (7, (0, ((0 : Nat) : Int))), (6, (0, (flM h mk b u))), (5, (0, (((514 + 5 * b) : Nat) : Int))), (4, (0, ((b : Nat) : Int))), (0, (2, ((193 : Nat) : Int))), (1, (0, (mk))), (2, (0, (kk)))]) (o246_133 hB) rfl rfl ml246 (by decide) rfl ?_
          refine w_iinc (x := ((b : Nat) : Int)) (z := (((b + 1) : Nat) : Int)) (pc' := 240) (lv' := [(4, (0, (((b + 1) : Nat) : Int))), (3, (0, ((unM h mk kk u c b) + ((0 : Nat) : Int)))), (7, (0, ((0 : Nat) : Int))), (6, (0, (flM h mk b u))), (5, (0, (((514 + 5 * b) : Nat) : Int))), (0, (2, ((193 : Nat) : Int))), (1, (0, (mk))), (2, (0, (kk)))]) (o246_134 hB) rfl rfl ml246 (by decide) (w32_e (by omega) (by omega)) rfl ?_
          refine w_goto (pt := 21) (o246_135 hB) (by decide) ?_
          refine w_sub (lv' := [(4, (0, (((b + 1) : Nat) : Int))), (3, (0, ((unM h mk kk u c b) + ((0 : Nat) : Int)))), (0, (2, ((193 : Nat) : Int))), (1, (0, (mk))), (2, (0, (kk)))]) (List.forall_mem_cons.mpr ⟨(List.Mem.head _), (List.forall_mem_cons.mpr ⟨(List.Mem.tail _ (List.Mem.head _)), (List.forall_mem_cons.mpr ⟨(List.Mem.tail _ (List.Mem.tail _ (List.Mem.tail _ (List.Mem.tail _ (List.Mem.tail _ (List.Mem.head _)))))), (List.forall_mem_cons.mpr ⟨(List.Mem.tail _ (List.Mem.tail _ (List.Mem.tail _ (List.Mem.tail _ (List.Mem.tail _ (List.Mem.tail _ (List.Mem.head _))))))), (List.forall_mem_cons.mpr ⟨(List.Mem.tail _ (List.Mem.tail _ (List.Mem.tail _ (List.Mem.tail _ (List.Mem.tail _ (List.Mem.tail _ (List.Mem.tail _ (List.Mem.head _)))))))), (fun _ hx => by cases hx)⟩)⟩)⟩)⟩)⟩) ?_
          have e1 : ((unM h mk kk u c b) + ((0 : Nat) : Int)) = unM h mk kk u c (b + 1) := by
            simp only [unM, duM]
            first | (rw [if_pos ⟨by omega, by omega⟩]; done) | (rw [if_neg (by omega)]; first | done | rfl | omega)
          rw [e1]
          exact ih (b + 1) (by omega)
        · have f316 : ¬ (((0 : Nat) : Int) ≤ (0)) := e
          exfalso; omega
      · have f317 : ¬ ((flM h mk b u) = (0)) := e
        refine w_pl (pc' := 184) (lv' := [(6, (0, (flM h mk b u))), (5, (0, (((514 + 5 * b) : Nat) : Int))), (4, (0, ((b : Nat) : Int))), (3, (0, (unM h mk kk u c b))), (0, (2, ((193 : Nat) : Int))), (1, (0, (mk))), (2, (0, (kk)))]) (st' := [(2, ((193 : Nat) : Int))]) (h' := h) (o246_100 hB) rfl ?_
        refine w_getf (A := 193) (t := 2) (z := ((194 : Nat) : Int)) (pc' := 187) (o246_101 hB) rfl (by decide +kernel) (hR (193, 0, 194) (by decide)) ?_
        refine w_pl (pc' := 189) (lv' := [(6, (0, (flM h mk b u))), (5, (0, (((514 + 5 * b) : Nat) : Int))), (4, (0, ((b : Nat) : Int))), (3, (0, (unM h mk kk u c b))), (0, (2, ((193 : Nat) : Int))), (1, (0, (mk))), (2, (0, (kk)))]) (st' := [(0, (((514 + 5 * b) : Nat) : Int)), (2, ((194 : Nat) : Int))]) (h' := h) (o246_102 hB) rfl ?_
        refine w_pl (pc' := 190) (lv' := [(6, (0, (flM h mk b u))), (5, (0, (((514 + 5 * b) : Nat) : Int))), (4, (0, ((b : Nat) : Int))), (3, (0, (unM h mk kk u c b))), (0, (2, ((193 : Nat) : Int))), (1, (0, (mk))), (2, (0, (kk)))]) (st' := [(0, ((3 : Nat) : Int)), (0, (((514 + 5 * b) : Nat) : Int)), (2, ((194 : Nat) : Int))]) (h' := h) (o246_103 hB) rfl ?_
        refine w_iadd (z := ((((514 + 5 * b) + 3) : Nat) : Int)) (pc' := 191) (o246_104 hB) rfl (w32_e (by omega) (by omega)) ?_
        have f318 := ty_194_s517 ht (j := ((514 + 5 * b) + 3)) (r := b) (by omega) (by omega)
        refine w_iald (A := 194) (i := ((514 + 5 * b) + 3)) (n := 1984) (z := (h 194 ((514 + 5 * b) + 3))) (pc' := 192) (o246_105 hB) rfl (by decide +kernel) (by omega) rfl ?_
        refine w_pl (pc' := 193) (lv' := [(6, (0, (flM h mk b u))), (5, (0, (((514 + 5 * b) : Nat) : Int))), (4, (0, ((b : Nat) : Int))), (3, (0, (unM h mk kk u c b))), (0, (2, ((193 : Nat) : Int))), (1, (0, (mk))), (2, (0, (kk)))]) (st' := [(2, ((193 : Nat) : Int)), (0, (h 194 ((514 + 5 * b) + 3)))]) (h' := h) (o246_106 hB) rfl ?_
        refine w_pl (pc' := 194) (lv' := [(6, (0, (flM h mk b u))), (5, (0, (((514 + 5 * b) : Nat) : Int))), (4, (0, ((b : Nat) : Int))), (3, (0, (unM h mk kk u c b))), (0, (2, ((193 : Nat) : Int))), (1, (0, (mk))), (2, (0, (kk)))]) (st' := [(0, (mk)), (2, ((193 : Nat) : Int)), (0, (h 194 ((514 + 5 * b) + 3)))]) (h' := h) (o246_107 hB) rfl ?_
        refine w_pl (pc' := 195) (lv' := [(6, (0, (flM h mk b u))), (5, (0, (((514 + 5 * b) : Nat) : Int))), (4, (0, ((b : Nat) : Int))), (3, (0, (unM h mk kk u c b))), (0, (2, ((193 : Nat) : Int))), (1, (0, (mk))), (2, (0, (kk)))]) (st' := [(2, ((193 : Nat) : Int)), (0, (mk)), (2, ((193 : Nat) : Int)), (0, (h 194 ((514 + 5 * b) + 3)))]) (h' := h) (o246_108 hB) rfl ?_
        refine w_getf (A := 193) (t := 2) (z := ((194 : Nat) : Int)) (pc' := 198) (o246_109 hB) rfl (by decide +kernel) (hR (193, 0, 194) (by decide)) ?_
        refine w_pl (pc' := 200) (lv' := [(6, (0, (flM h mk b u))), (5, (0, (((514 + 5 * b) : Nat) : Int))), (4, (0, ((b : Nat) : Int))), (3, (0, (unM h mk kk u c b))), (0, (2, ((193 : Nat) : Int))), (1, (0, (mk))), (2, (0, (kk)))]) (st' := [(0, (((514 + 5 * b) : Nat) : Int)), (2, ((194 : Nat) : Int)), (0, (mk)), (2, ((193 : Nat) : Int)), (0, (h 194 ((514 + 5 * b) + 3)))]) (h' := h) (o246_110 hB) rfl ?_
        refine w_pl (pc' := 201) (lv' := [(6, (0, (flM h mk b u))), (5, (0, (((514 + 5 * b) : Nat) : Int))), (4, (0, ((b : Nat) : Int))), (3, (0, (unM h mk kk u c b))), (0, (2, ((193 : Nat) : Int))), (1, (0, (mk))), (2, (0, (kk)))]) (st' := [(0, ((1 : Nat) : Int)), (0, (((514 + 5 * b) : Nat) : Int)), (2, ((194 : Nat) : Int)), (0, (mk)), (2, ((193 : Nat) : Int)), (0, (h 194 ((514 + 5 * b) + 3)))]) (h' := h) (o246_111 hB) rfl ?_
        refine w_iadd (z := ((((514 + 5 * b) + 1) : Nat) : Int)) (pc' := 202) (o246_112 hB) rfl (w32_e (by omega) (by omega)) ?_
        have f319 := ty_194_s515 ht (j := ((514 + 5 * b) + 1)) (r := b) (by omega) (by omega)
        refine w_iald (A := 194) (i := ((514 + 5 * b) + 1)) (n := 1984) (z := (h 194 ((514 + 5 * b) + 1))) (pc' := 203) (o246_113 hB) rfl (by decide +kernel) (by omega) rfl ?_
        refine w_pl (pc' := 204) (lv' := [(6, (0, (flM h mk b u))), (5, (0, (((514 + 5 * b) : Nat) : Int))), (4, (0, ((b : Nat) : Int))), (3, (0, (unM h mk kk u c b))), (0, (2, ((193 : Nat) : Int))), (1, (0, (mk))), (2, (0, (kk)))]) (st' := [(2, ((193 : Nat) : Int)), (0, (h 194 ((514 + 5 * b) + 1))), (0, (mk)), (2, ((193 : Nat) : Int)), (0, (h 194 ((514 + 5 * b) + 3)))]) (h' := h) (o246_114 hB) rfl ?_
        refine w_getf (A := 193) (t := 2) (z := ((194 : Nat) : Int)) (pc' := 207) (o246_115 hB) rfl (by decide +kernel) (hR (193, 0, 194) (by decide)) ?_
        refine w_pl (pc' := 209) (lv' := [(6, (0, (flM h mk b u))), (5, (0, (((514 + 5 * b) : Nat) : Int))), (4, (0, ((b : Nat) : Int))), (3, (0, (unM h mk kk u c b))), (0, (2, ((193 : Nat) : Int))), (1, (0, (mk))), (2, (0, (kk)))]) (st' := [(0, (((514 + 5 * b) : Nat) : Int)), (2, ((194 : Nat) : Int)), (0, (h 194 ((514 + 5 * b) + 1))), (0, (mk)), (2, ((193 : Nat) : Int)), (0, (h 194 ((514 + 5 * b) + 3)))]) (h' := h) (o246_116 hB) rfl ?_
        refine w_pl (pc' := 210) (lv' := [(6, (0, (flM h mk b u))), (5, (0, (((514 + 5 * b) : Nat) : Int))), (4, (0, ((b : Nat) : Int))), (3, (0, (unM h mk kk u c b))), (0, (2, ((193 : Nat) : Int))), (1, (0, (mk))), (2, (0, (kk)))]) (st' := [(0, ((2 : Nat) : Int)), (0, (((514 + 5 * b) : Nat) : Int)), (2, ((194 : Nat) : Int)), (0, (h 194 ((514 + 5 * b) + 1))), (0, (mk)), (2, ((193 : Nat) : Int)), (0, (h 194 ((514 + 5 * b) + 3)))]) (h' := h) (o246_117 hB) rfl ?_
        refine w_iadd (z := ((((514 + 5 * b) + 2) : Nat) : Int)) (pc' := 211) (o246_118 hB) rfl (w32_e (by omega) (by omega)) ?_
        have f320 := ty_194_s516 ht (j := ((514 + 5 * b) + 2)) (r := b) (by omega) (by omega)
        refine w_iald (A := 194) (i := ((514 + 5 * b) + 2)) (n := 1984) (z := (h 194 ((514 + 5 * b) + 2))) (pc' := 212) (o246_119 hB) rfl (by decide +kernel) (by omega) rfl ?_
        refine w_pl (pc' := 213) (lv' := [(6, (0, (flM h mk b u))), (5, (0, (((514 + 5 * b) : Nat) : Int))), (4, (0, ((b : Nat) : Int))), (3, (0, (unM h mk kk u c b))), (0, (2, ((193 : Nat) : Int))), (1, (0, (mk))), (2, (0, (kk)))]) (st' := [(0, (kk)), (0, (h 194 ((514 + 5 * b) + 2))), (0, (h 194 ((514 + 5 * b) + 1))), (0, (mk)), (2, ((193 : Nat) : Int)), (0, (h 194 ((514 + 5 * b) + 3)))]) (h' := h) (o246_120 hB) rfl ?_
        refine w_callV (A := 193) (as := [(0, (mk)), (0, (h 194 ((514 + 5 * b) + 1))), (0, (h 194 ((514 + 5 * b) + 2))), (0, (kk))]) (rest := [(0, (h 194 ((514 + 5 * b) + 3)))]) (n := 4) (pc' := 216) 11 hB (o246_121 hB) rfl (by decide +kernel) rfl rfl (Nat.le_of_ble_eq_true rfl) (m_countOf hB ht hc lc ?_)
        show HW g l _ 246 _ _ 216 [(6, (0, (flM h mk b u))), (5, (0, (((514 + 5 * b) : Nat) : Int))), (4, (0, ((b : Nat) : Int))), (3, (0, (unM h mk kk u c b))), (0, (2, ((193 : Nat) : Int))), (1, (0, (mk))), (2, (0, (kk)))] [(0, (cntM h mk (h 194 (514 + 5 * b + 1)) (h 194 (514 + 5 * b + 2)) kk c)), (0, (h 194 ((514 + 5 * b) + 3)))] h
        refine w_isub (z := ((h 194 ((514 + 5 * b) + 3)) - (cntM h mk (h 194 (514 + 5 * b + 1)) (h 194 (514 + 5 * b + 2)) kk c))) (pc' := 217) (o246_122 hB) rfl (w32_e (by omega) (by omega)) ?_
        refine w_goto (pt := 221) (o246_123 hB) (by decide) ?_
        refine w_st (tg := 0) (j := 7) (len := 2) (pc' := 223) (lv' := [(7, (0, ((h 194 ((514 + 5 * b) + 3)) - (cntM h mk (h 194 (514 + 5 * b + 1)) (h 194 (514 + 5 * b + 2)) kk c)))), (6, (0, (flM h mk b u))), (5, (0, (((514 + 5 * b) : Nat) : Int))), (4, (0, ((b : Nat) : Int))), (3, (0, (unM h mk kk u c b))), (0, (2, ((193 : Nat) : Int))), (1, (0, (mk))), (2, (0, (kk)))]) (o246_125 hB) rfl rfl ml246 (by decide) rfl ?_
        refine w_pl (pc' := 224) (lv' := [(7, (0, ((h 194 ((514 + 5 * b) + 3)) - (cntM h mk (h 194 (514 + 5 * b + 1)) (h 194 (514 + 5 * b + 2)) kk c)))), (6, (0, (flM h mk b u))), (5, (0, (((514 + 5 * b) : Nat) : Int))), (4, (0, ((b : Nat) : Int))), (3, (0, (unM h mk kk u c b))), (0, (2, ((193 : Nat) : Int))), (1, (0, (mk))), (2, (0, (kk)))]) (st' := [(0, (unM h mk kk u c b))]) (h' := h) (o246_126 hB) rfl ?_
        refine w_pl (pc' := 226) (lv' := [(7, (0, ((h 194 ((514 + 5 * b) + 3)) - (cntM h mk (h 194 (514 + 5 * b + 1)) (h 194 (514 + 5 * b + 2)) kk c)))), (6, (0, (flM h mk b u))), (5, (0, (((514 + 5 * b) : Nat) : Int))), (4, (0, ((b : Nat) : Int))), (3, (0, (unM h mk kk u c b))), (0, (2, ((193 : Nat) : Int))), (1, (0, (mk))), (2, (0, (kk)))]) (st' := [(0, ((h 194 ((514 + 5 * b) + 3)) - (cntM h mk (h 194 (514 + 5 * b + 1)) (h 194 (514 + 5 * b + 2)) kk c))), (0, (unM h mk kk u c b))]) (h' := h) (o246_127 hB) rfl ?_
        refine w_ifc (pt := 234) (pf := 229) (o246_128 hB) (by decide) rfl (fun e => ?_) (fun e => ?_)
        · have f322 : (((h 194 ((514 + 5 * b) + 3)) - (cntM h mk (h 194 (514 + 5 * b + 1)) (h 194 (514 + 5 * b + 2)) kk c)) ≤ (0)) := e
          refine w_pl (pc' := 235) (lv' := [(7, (0, ((h 194 ((514 + 5 * b) + 3)) - (cntM h mk (h 194 (514 + 5 * b + 1)) (h 194 (514 + 5 * b + 2)) kk c)))), (6, (0, (flM h mk b u))), (5, (0, (((514 + 5 * b) : Nat) : Int))), (4, (0, ((b : Nat) : Int))), (3, (0, (unM h mk kk u c b))), (0, (2, ((193 : Nat) : Int))), (1, (0, (mk))), (2, (0, (kk)))]) (st' := [(0, ((0 : Nat) : Int)), (0, (unM h mk kk u c b))]) (h' := h) (o246_131 hB) rfl ?_
          refine w_iadd (z := ((unM h mk kk u c b) + ((0 : Nat) : Int))) (pc' := 236) (o246_132 hB) rfl (w32_e (by omega) (by omega)) ?_
          refine w_st (tg := 0) (j := 3) (len := 1) (pc' := 237) (lv' := [(3, (0, ((unM h mk kk u c b) + ((0 : Nat) : Int)))), (7, (0, ((h 194 ((514 + 5 * b) + 3)) - (cntM h mk (h 194 (514 + 5 * b + 1)) (h 194 (514 + 5 * b + 2)) kk c)))), (6, (0, (flM h mk b u))), (5, (0, (((514 + 5 * b) : Nat) : Int))), (4, (0, ((b : Nat) : Int))), (0, (2, ((193 : Nat) : Int))), (1, (0, (mk))), (2, (0, (kk)))]) (o246_133 hB) rfl rfl ml246 (by decide) rfl ?_
          refine w_iinc (x := ((b : Nat) : Int)) (z := (((b + 1) : Nat) : Int)) (pc' := 240) (lv' := [(4, (0, (((b + 1) : Nat) : Int))), (3, (0, ((unM h mk kk u c b) + ((0 : Nat) : Int)))), (7, (0, ((h 194 ((514 + 5 * b) + 3)) - (cntM h mk (h 194 (514 + 5 * b + 1)) (h 194 (514 + 5 * b + 2)) kk c)))), (6, (0, (flM h mk b u))), (5, (0, (((514 + 5 * b) : Nat) : Int))), (0, (2, ((193 : Nat) : Int))), (1, (0, (mk))), (2, (0, (kk)))]) (o246_134 hB) rfl rfl ml246 (by decide) (w32_e (by omega) (by omega)) rfl ?_
          refine w_goto (pt := 21) (o246_135 hB) (by decide) ?_
          refine w_sub (lv' := [(4, (0, (((b + 1) : Nat) : Int))), (3, (0, ((unM h mk kk u c b) + ((0 : Nat) : Int)))), (0, (2, ((193 : Nat) : Int))), (1, (0, (mk))), (2, (0, (kk)))]) (List.forall_mem_cons.mpr ⟨(List.Mem.head _), (List.forall_mem_cons.mpr ⟨(List.Mem.tail _ (List.Mem.head _)), (List.forall_mem_cons.mpr ⟨(List.Mem.tail _ (List.Mem.tail _ (List.Mem.tail _ (List.Mem.tail _ (List.Mem.tail _ (List.Mem.head _)))))), (List.forall_mem_cons.mpr ⟨(List.Mem.tail _ (List.Mem.tail _ (List.Mem.tail _ (List.Mem.tail _ (List.Mem.tail _ (List.Mem.tail _ (List.Mem.head _))))))), (List.forall_mem_cons.mpr ⟨(List.Mem.tail _ (List.Mem.tail _ (List.Mem.tail _ (List.Mem.tail _ (List.Mem.tail _ (List.Mem.tail _ (List.Mem.tail _ (List.Mem.head _)))))))), (fun _ hx => by cases hx)⟩)⟩)⟩)⟩)⟩) ?_
          have e1 : ((unM h mk kk u c b) + ((0 : Nat) : Int)) = unM h mk kk u c (b + 1) := by
            simp only [unM, duM]
            first | (rw [if_pos ⟨by omega, by omega⟩]; done) | (rw [if_neg (by omega)]; first | done | rfl | omega)
          rw [e1]
          exact ih (b + 1) (by omega)
        · have f323 : ¬ (((h 194 ((514 + 5 * b) + 3)) - (cntM h mk (h 194 (514 + 5 * b + 1)) (h 194 (514 + 5 * b + 2)) kk c)) ≤ (0)) := e
          refine w_pl (pc' := 231) (lv' := [(7, (0, ((h 194 ((514 + 5 * b) + 3)) - (cntM h mk (h 194 (514 + 5 * b + 1)) (h 194 (514 + 5 * b + 2)) kk c)))), (6, (0, (flM h mk b u))), (5, (0, (((514 + 5 * b) : Nat) : Int))), (4, (0, ((b : Nat) : Int))), (3, (0, (unM h mk kk u c b))), (0, (2, ((193 : Nat) : Int))), (1, (0, (mk))), (2, (0, (kk)))]) (st' := [(0, ((h 194 ((514 + 5 * b) + 3)) - (cntM h mk (h 194 (514 + 5 * b + 1)) (h 194 (514 + 5 * b + 2)) kk c))), (0, (unM h mk kk u c b))]) (h' := h) (o246_129 hB) rfl ?_
          refine w_goto (pt := 235) (o246_130 hB) (by decide) ?_
          refine w_iadd (z := ((unM h mk kk u c b) + ((h 194 ((514 + 5 * b) + 3)) - (cntM h mk (h 194 (514 + 5 * b + 1)) (h 194 (514 + 5 * b + 2)) kk c)))) (pc' := 236) (o246_132 hB) rfl (w32_e (by omega) (by omega)) ?_
          refine w_st (tg := 0) (j := 3) (len := 1) (pc' := 237) (lv' := [(3, (0, ((unM h mk kk u c b) + ((h 194 ((514 + 5 * b) + 3)) - (cntM h mk (h 194 (514 + 5 * b + 1)) (h 194 (514 + 5 * b + 2)) kk c))))), (7, (0, ((h 194 ((514 + 5 * b) + 3)) - (cntM h mk (h 194 (514 + 5 * b + 1)) (h 194 (514 + 5 * b + 2)) kk c)))), (6, (0, (flM h mk b u))), (5, (0, (((514 + 5 * b) : Nat) : Int))), (4, (0, ((b : Nat) : Int))), (0, (2, ((193 : Nat) : Int))), (1, (0, (mk))), (2, (0, (kk)))]) (o246_133 hB) rfl rfl ml246 (by decide) rfl ?_
          refine w_iinc (x := ((b : Nat) : Int)) (z := (((b + 1) : Nat) : Int)) (pc' := 240) (lv' := [(4, (0, (((b + 1) : Nat) : Int))), (3, (0, ((unM h mk kk u c b) + ((h 194 ((514 + 5 * b) + 3)) - (cntM h mk (h 194 (514 + 5 * b + 1)) (h 194 (514 + 5 * b + 2)) kk c))))), (7, (0, ((h 194 ((514 + 5 * b) + 3)) - (cntM h mk (h 194 (514 + 5 * b + 1)) (h 194 (514 + 5 * b + 2)) kk c)))), (6, (0, (flM h mk b u))), (5, (0, (((514 + 5 * b) : Nat) : Int))), (0, (2, ((193 : Nat) : Int))), (1, (0, (mk))), (2, (0, (kk)))]) (o246_134 hB) rfl rfl ml246 (by decide) (w32_e (by omega) (by omega)) rfl ?_
          refine w_goto (pt := 21) (o246_135 hB) (by decide) ?_
          refine w_sub (lv' := [(4, (0, (((b + 1) : Nat) : Int))), (3, (0, ((unM h mk kk u c b) + ((h 194 ((514 + 5 * b) + 3)) - (cntM h mk (h 194 (514 + 5 * b + 1)) (h 194 (514 + 5 * b + 2)) kk c))))), (0, (2, ((193 : Nat) : Int))), (1, (0, (mk))), (2, (0, (kk)))]) (List.forall_mem_cons.mpr ⟨(List.Mem.head _), (List.forall_mem_cons.mpr ⟨(List.Mem.tail _ (List.Mem.head _)), (List.forall_mem_cons.mpr ⟨(List.Mem.tail _ (List.Mem.tail _ (List.Mem.tail _ (List.Mem.tail _ (List.Mem.tail _ (List.Mem.head _)))))), (List.forall_mem_cons.mpr ⟨(List.Mem.tail _ (List.Mem.tail _ (List.Mem.tail _ (List.Mem.tail _ (List.Mem.tail _ (List.Mem.tail _ (List.Mem.head _))))))), (List.forall_mem_cons.mpr ⟨(List.Mem.tail _ (List.Mem.tail _ (List.Mem.tail _ (List.Mem.tail _ (List.Mem.tail _ (List.Mem.tail _ (List.Mem.tail _ (List.Mem.head _)))))))), (fun _ hx => by cases hx)⟩)⟩)⟩)⟩)⟩) ?_
          have e1 : ((unM h mk kk u c b) + ((h 194 ((514 + 5 * b) + 3)) - (cntM h mk (h 194 (514 + 5 * b + 1)) (h 194 (514 + 5 * b + 2)) kk c))) = unM h mk kk u c (b + 1) := by
            simp only [unM, duM]
            first | (rw [if_pos ⟨by omega, by omega⟩]; done) | (rw [if_neg (by omega)]; first | done | rfl | omega)
          rw [e1]
          exact ih (b + 1) (by omega)
    refine w_pl (pc' := 23) (lv' := [(4, (0, ((b : Nat) : Int))), (3, (0, (unM h mk kk u c b))), (0, (2, ((193 : Nat) : Int))), (1, (0, (mk))), (2, (0, (kk)))]) (st' := [(0, ((b : Nat) : Int))]) (h' := h) (o246_12 hB) rfl ?_
    refine w_pl (pc' := 24) (lv' := [(4, (0, ((b : Nat) : Int))), (3, (0, (unM h mk kk u c b))), (0, (2, ((193 : Nat) : Int))), (1, (0, (mk))), (2, (0, (kk)))]) (st' := [(2, ((193 : Nat) : Int)), (0, ((b : Nat) : Int))]) (h' := h) (o246_13 hB) rfl ?_
    refine w_getf (A := 193) (t := 2) (z := ((194 : Nat) : Int)) (pc' := 27) (o246_14 hB) rfl (by decide +kernel) (hR (193, 0, 194) (by decide)) ?_
    refine w_pl (pc' := 29) (lv' := [(4, (0, ((b : Nat) : Int))), (3, (0, (unM h mk kk u c b))), (0, (2, ((193 : Nat) : Int))), (1, (0, (mk))), (2, (0, (kk)))]) (st' := [(0, ((8 : Nat) : Int)), (2, ((194 : Nat) : Int)), (0, ((b : Nat) : Int))]) (h' := h) (o246_15 hB) rfl ?_
    refine w_iald (A := 194) (i := 8) (n := 1984) (z := ((u : Nat) : Int)) (pc' := 30) (o246_16 hB) rfl (by decide +kernel) (by omega) hu ?_
    refine w_icmp (pt := 243) (pf := 33) (o246_17 hB) (by decide) rfl (fun e => ?_) (fun e => ?_)
    · have f324 : (((u : Nat) : Int) ≤ ((b : Nat) : Int)) := e
      exfalso; omega
    · have f325 : ¬ (((u : Nat) : Int) ≤ ((b : Nat) : Int)) := e
      refine w_pl (pc' := 36) (lv' := [(4, (0, ((b : Nat) : Int))), (3, (0, (unM h mk kk u c b))), (0, (2, ((193 : Nat) : Int))), (1, (0, (mk))), (2, (0, (kk)))]) (st' := [(0, ((514 : Nat) : Int))]) (h' := h) (o246_18 hB) rfl ?_
      refine w_pl (pc' := 37) (lv' := [(4, (0, ((b : Nat) : Int))), (3, (0, (unM h mk kk u c b))), (0, (2, ((193 : Nat) : Int))), (1, (0, (mk))), (2, (0, (kk)))]) (st' := [(0, ((5 : Nat) : Int)), (0, ((514 : Nat) : Int))]) (h' := h) (o246_19 hB) rfl ?_
      refine w_pl (pc' := 39) (lv' := [(4, (0, ((b : Nat) : Int))), (3, (0, (unM h mk kk u c b))), (0, (2, ((193 : Nat) : Int))), (1, (0, (mk))), (2, (0, (kk)))]) (st' := [(0, ((b : Nat) : Int)), (0, ((5 : Nat) : Int)), (0, ((514 : Nat) : Int))]) (h' := h) (o246_20 hB) rfl ?_
      refine w_imul (z := (((5 * b) : Nat) : Int)) (pc' := 40) (o246_21 hB) rfl (w32_e (by omega) (by omega)) ?_
      refine w_iadd (z := (((514 + (5 * b)) : Nat) : Int)) (pc' := 41) (o246_22 hB) rfl (w32_e (by omega) (by omega)) ?_
      refine w_st (tg := 0) (j := 5) (len := 2) (pc' := 43) (lv' := [(5, (0, (((514 + (5 * b)) : Nat) : Int))), (4, (0, ((b : Nat) : Int))), (3, (0, (unM h mk kk u c b))), (0, (2, ((193 : Nat) : Int))), (1, (0, (mk))), (2, (0, (kk)))]) (o246_23 hB) rfl rfl ml246 (by decide) rfl ?_
      refine w_pl (pc' := 44) (lv' := [(5, (0, (((514 + (5 * b)) : Nat) : Int))), (4, (0, ((b : Nat) : Int))), (3, (0, (unM h mk kk u c b))), (0, (2, ((193 : Nat) : Int))), (1, (0, (mk))), (2, (0, (kk)))]) (st' := [(2, ((193 : Nat) : Int))]) (h' := h) (o246_24 hB) rfl ?_
      refine w_getf (A := 193) (t := 2) (z := ((194 : Nat) : Int)) (pc' := 47) (o246_25 hB) rfl (by decide +kernel) (hR (193, 0, 194) (by decide)) ?_
      refine w_pl (pc' := 49) (lv' := [(5, (0, (((514 + (5 * b)) : Nat) : Int))), (4, (0, ((b : Nat) : Int))), (3, (0, (unM h mk kk u c b))), (0, (2, ((193 : Nat) : Int))), (1, (0, (mk))), (2, (0, (kk)))]) (st' := [(0, (((514 + (5 * b)) : Nat) : Int)), (2, ((194 : Nat) : Int))]) (h' := h) (o246_26 hB) rfl ?_
      have f326 := ty_194_s514 ht (j := (514 + (5 * b))) (r := b) (by omega) (by omega)
      refine w_iald (A := 194) (i := (514 + (5 * b))) (n := 1984) (z := (h 194 (514 + (5 * b)))) (pc' := 50) (o246_27 hB) rfl (by decide +kernel) (by omega) rfl ?_
      refine w_pl (pc' := 51) (lv' := [(5, (0, (((514 + (5 * b)) : Nat) : Int))), (4, (0, ((b : Nat) : Int))), (3, (0, (unM h mk kk u c b))), (0, (2, ((193 : Nat) : Int))), (1, (0, (mk))), (2, (0, (kk)))]) (st' := [(0, (mk)), (0, (h 194 (514 + (5 * b))))]) (h' := h) (o246_28 hB) rfl ?_
      refine w_icmp (pt := 58) (pf := 54) (o246_29 hB) (by decide) rfl (fun e => ?_) (fun e => ?_)
      · have f327 : ((h 194 (514 + (5 * b))) ≠ (mk)) := e
        refine w_pl (pc' := 59) (lv' := [(5, (0, (((514 + (5 * b)) : Nat) : Int))), (4, (0, ((b : Nat) : Int))), (3, (0, (unM h mk kk u c b))), (0, (2, ((193 : Nat) : Int))), (1, (0, (mk))), (2, (0, (kk)))]) (st' := [(0, ((0 : Nat) : Int))]) (h' := h) (o246_32 hB) rfl ?_
        refine w_st (tg := 0) (j := 6) (len := 2) (pc' := 61) (lv' := [(6, (0, ((0 : Nat) : Int))), (5, (0, (((514 + (5 * b)) : Nat) : Int))), (4, (0, ((b : Nat) : Int))), (3, (0, (unM h mk kk u c b))), (0, (2, ((193 : Nat) : Int))), (1, (0, (mk))), (2, (0, (kk)))]) (o246_33 hB) rfl rfl ml246 (by decide) rfl ?_
        refine w_pl (pc' := 62) (lv' := [(6, (0, ((0 : Nat) : Int))), (5, (0, (((514 + (5 * b)) : Nat) : Int))), (4, (0, ((b : Nat) : Int))), (3, (0, (unM h mk kk u c b))), (0, (2, ((193 : Nat) : Int))), (1, (0, (mk))), (2, (0, (kk)))]) (st' := [(0, ((0 : Nat) : Int))]) (h' := h) (o246_34 hB) rfl ?_
        refine w_st (tg := 0) (j := 7) (len := 2) (pc' := 64) (lv' := [(7, (0, ((0 : Nat) : Int))), (6, (0, ((0 : Nat) : Int))), (5, (0, (((514 + (5 * b)) : Nat) : Int))), (4, (0, ((b : Nat) : Int))), (3, (0, (unM h mk kk u c b))), (0, (2, ((193 : Nat) : Int))), (1, (0, (mk))), (2, (0, (kk)))]) (o246_35 hB) rfl rfl ml246 (by decide) rfl ?_
        refine w_sub (lv' := [(7, (0, ((0 : Nat) : Int))), (6, (0, ((0 : Nat) : Int))), (5, (0, (((514 + (5 * b)) : Nat) : Int))), (4, (0, ((b : Nat) : Int))), (3, (0, (unM h mk kk u c b))), (0, (2, ((193 : Nat) : Int))), (1, (0, (mk))), (2, (0, (kk)))]) (List.forall_mem_cons.mpr ⟨(List.Mem.head _), (List.forall_mem_cons.mpr ⟨(List.Mem.tail _ (List.Mem.head _)), (List.forall_mem_cons.mpr ⟨(List.Mem.tail _ (List.Mem.tail _ (List.Mem.head _))), (List.forall_mem_cons.mpr ⟨(List.Mem.tail _ (List.Mem.tail _ (List.Mem.tail _ (List.Mem.head _)))), (List.forall_mem_cons.mpr ⟨(List.Mem.tail _ (List.Mem.tail _ (List.Mem.tail _ (List.Mem.tail _ (List.Mem.head _))))), (List.forall_mem_cons.mpr ⟨(List.Mem.tail _ (List.Mem.tail _ (List.Mem.tail _ (List.Mem.tail _ (List.Mem.tail _ (List.Mem.head _)))))), (List.forall_mem_cons.mpr ⟨(List.Mem.tail _ (List.Mem.tail _ (List.Mem.tail _ (List.Mem.tail _ (List.Mem.tail _ (List.Mem.tail _ (List.Mem.head _))))))), (List.forall_mem_cons.mpr ⟨(List.Mem.tail _ (List.Mem.tail _ (List.Mem.tail _ (List.Mem.tail _ (List.Mem.tail _ (List.Mem.tail _ (List.Mem.tail _ (List.Mem.head _)))))))), (fun _ hx => by cases hx)⟩)⟩)⟩)⟩)⟩)⟩)⟩)⟩) ?_
        have e1 : ((0 : Nat) : Int) = flM h mk b 0 := by
          simp only [flM]
          rw [if_neg (by omega)]
          first | done | rfl
        have k0 := l_unM hB ht hu lu (by omega) he u 0 (by omega)
        rw [← e1] at k0
        exact k0
      · have f328 : ¬ ((h 194 (514 + (5 * b))) ≠ (mk)) := e
        refine w_pl (pc' := 55) (lv' := [(5, (0, (((514 + (5 * b)) : Nat) : Int))), (4, (0, ((b : Nat) : Int))), (3, (0, (unM h mk kk u c b))), (0, (2, ((193 : Nat) : Int))), (1, (0, (mk))), (2, (0, (kk)))]) (st' := [(0, ((1 : Nat) : Int))]) (h' := h) (o246_30 hB) rfl ?_
        refine w_goto (pt := 59) (o246_31 hB) (by decide) ?_
        refine w_st (tg := 0) (j := 6) (len := 2) (pc' := 61) (lv' := [(6, (0, ((1 : Nat) : Int))), (5, (0, (((514 + (5 * b)) : Nat) : Int))), (4, (0, ((b : Nat) : Int))), (3, (0, (unM h mk kk u c b))), (0, (2, ((193 : Nat) : Int))), (1, (0, (mk))), (2, (0, (kk)))]) (o246_33 hB) rfl rfl ml246 (by decide) rfl ?_
        refine w_pl (pc' := 62) (lv' := [(6, (0, ((1 : Nat) : Int))), (5, (0, (((514 + (5 * b)) : Nat) : Int))), (4, (0, ((b : Nat) : Int))), (3, (0, (unM h mk kk u c b))), (0, (2, ((193 : Nat) : Int))), (1, (0, (mk))), (2, (0, (kk)))]) (st' := [(0, ((0 : Nat) : Int))]) (h' := h) (o246_34 hB) rfl ?_
        refine w_st (tg := 0) (j := 7) (len := 2) (pc' := 64) (lv' := [(7, (0, ((0 : Nat) : Int))), (6, (0, ((1 : Nat) : Int))), (5, (0, (((514 + (5 * b)) : Nat) : Int))), (4, (0, ((b : Nat) : Int))), (3, (0, (unM h mk kk u c b))), (0, (2, ((193 : Nat) : Int))), (1, (0, (mk))), (2, (0, (kk)))]) (o246_35 hB) rfl rfl ml246 (by decide) rfl ?_
        refine w_sub (lv' := [(7, (0, ((0 : Nat) : Int))), (6, (0, ((1 : Nat) : Int))), (5, (0, (((514 + (5 * b)) : Nat) : Int))), (4, (0, ((b : Nat) : Int))), (3, (0, (unM h mk kk u c b))), (0, (2, ((193 : Nat) : Int))), (1, (0, (mk))), (2, (0, (kk)))]) (List.forall_mem_cons.mpr ⟨(List.Mem.head _), (List.forall_mem_cons.mpr ⟨(List.Mem.tail _ (List.Mem.head _)), (List.forall_mem_cons.mpr ⟨(List.Mem.tail _ (List.Mem.tail _ (List.Mem.head _))), (List.forall_mem_cons.mpr ⟨(List.Mem.tail _ (List.Mem.tail _ (List.Mem.tail _ (List.Mem.head _)))), (List.forall_mem_cons.mpr ⟨(List.Mem.tail _ (List.Mem.tail _ (List.Mem.tail _ (List.Mem.tail _ (List.Mem.head _))))), (List.forall_mem_cons.mpr ⟨(List.Mem.tail _ (List.Mem.tail _ (List.Mem.tail _ (List.Mem.tail _ (List.Mem.tail _ (List.Mem.head _)))))), (List.forall_mem_cons.mpr ⟨(List.Mem.tail _ (List.Mem.tail _ (List.Mem.tail _ (List.Mem.tail _ (List.Mem.tail _ (List.Mem.tail _ (List.Mem.head _))))))), (List.forall_mem_cons.mpr ⟨(List.Mem.tail _ (List.Mem.tail _ (List.Mem.tail _ (List.Mem.tail _ (List.Mem.tail _ (List.Mem.tail _ (List.Mem.tail _ (List.Mem.head _)))))))), (fun _ hx => by cases hx)⟩)⟩)⟩)⟩)⟩)⟩)⟩)⟩) ?_
        have e1 : ((1 : Nat) : Int) = flM h mk b 0 := by
          simp only [flM]
          rw [if_pos (by omega)]
          first | done | rfl
        have k0 := l_unM hB ht hu lu (by omega) he u 0 (by omega)
        rw [← e1] at k0
        exact k0
theorem m_isMakerM (hB : BytesOK) {g : bG} {l : Launch} {d : Nat} {Q : bQ} {h : bH} {x : Int} (h1 : 0 ≤ x ∧ x ≤ 5 → Q (some (0, 1)) h) (h0 : ¬ (0 ≤ x ∧ x ≤ 5) → Q (some (0, 0)) h) : MH g l (d + 1) 187 212 212 [(0, x)] h Q := by
  refine mh_go hB mg187 ml187 (Nat.le_of_ble_eq_true rfl) ?_
  show HW g l (d + 1) 187 _ _ 0 [(0, (0, (x)))] [] h
  refine w_pl (pc' := 1) (lv' := [(0, (0, (x)))]) (st' := [(0, (x))]) (h' := h) (o187_0 hB) rfl ?_
  refine w_pl (pc' := 2) (lv' := [(0, (0, (x)))]) (st' := [(0, ((0 : Nat) : Int)), (0, (x))]) (h' := h) (o187_1 hB) rfl ?_
  refine w_pl (pc' := 3) (lv' := [(0, (0, (x)))]) (st' := [(0, ((5 : Nat) : Int)), (0, ((0 : Nat) : Int)), (0, (x))]) (h' := h) (o187_2 hB) rfl ?_
  refine w_callS (as := [(0, (x)), (0, ((0 : Nat) : Int)), (0, ((5 : Nat) : Int))]) (rest := []) (n := 3) (pc' := 6) hB (o187_3 hB) rfl (by decide +kernel) rfl rfl (Nat.le_of_ble_eq_true rfl) (m_in hB (fun f329 => ?_) (fun f330 => ?_))
  · show HW g l _ 187 _ _ 6 [(0, (0, (x)))] [(0, ((1 : Nat) : Int))] h
    exact w_zret (o187_4 hB) mr187 (by decide) (h1 (by omega))
  · show HW g l _ 187 _ _ 6 [(0, (0, (x)))] [(0, ((0 : Nat) : Int))] h
    exact w_zret (o187_4 hB) mr187 (by decide) (h0 (by omega))
theorem m_isMakerB (hB : BytesOK) {g : bG} {l : Launch} {d : Nat} {Q : bQ} {h : bH} {x : Int} (h1 : 0 ≤ x ∧ x ≤ 5 → Q (some (0, 1)) h) (h0 : ¬ (0 ≤ x ∧ x ≤ 5) → Q (some (0, 0)) h) : MH g l d 173 212 212 [(0, x)] h Q := by
  refine mh_go hB mg173 ml173 (Nat.le_of_ble_eq_true rfl) ?_
  show HW g l d 173 _ _ 0 [(0, (0, (x)))] [] h
  refine w_pl (pc' := 1) (lv' := [(0, (0, (x)))]) (st' := [(0, (x))]) (h' := h) (o173_0 hB) rfl ?_
  refine w_ifc (pt := 14) (pf := 4) (o173_1 hB) (by decide) rfl (fun e => ?_) (fun e => ?_)
  · have f331 : ((x) < (0)) := e
    refine w_pl (pc' := 15) (lv' := [(0, (0, (x)))]) (st' := [(0, ((0 : Nat) : Int))]) (h' := h) (o173_7 hB) rfl ?_
    exact w_zret (o173_8 hB) mr173 (by decide) (h0 (by omega))
  · have f332 : ¬ ((x) < (0)) := e
    refine w_pl (pc' := 5) (lv' := [(0, (0, (x)))]) (st' := [(0, (x))]) (h' := h) (o173_2 hB) rfl ?_
    refine w_pl (pc' := 7) (lv' := [(0, (0, (x)))]) (st' := [(0, ((6 : Nat) : Int)), (0, (x))]) (h' := h) (o173_3 hB) rfl ?_
    refine w_icmp (pt := 14) (pf := 10) (o173_4 hB) (by decide) rfl (fun e => ?_) (fun e => ?_)
    · have f333 : (((6 : Nat) : Int) ≤ (x)) := e
      refine w_pl (pc' := 15) (lv' := [(0, (0, (x)))]) (st' := [(0, ((0 : Nat) : Int))]) (h' := h) (o173_7 hB) rfl ?_
      exact w_zret (o173_8 hB) mr173 (by decide) (h0 (by omega))
    · have f334 : ¬ (((6 : Nat) : Int) ≤ (x)) := e
      refine w_pl (pc' := 11) (lv' := [(0, (0, (x)))]) (st' := [(0, ((1 : Nat) : Int))]) (h' := h) (o173_5 hB) rfl ?_
      refine w_goto (pt := 15) (o173_6 hB) (by decide) ?_
      exact w_zret (o173_8 hB) mr173 (by decide) (h1 (by omega))
theorem m_addDraw (hB : BytesOK) {g : bG} {l : Launch} {d : Nat} {Q : bQ} {h : bH} {x f t : Int} (ht : TH h) (z_x : in32 x) (z_f : in32 f) (z_t : in32 t) {c : Nat} (hc : h 17 14 = (c : Int)) (lc : c ≤ 12)  (a0 : ¬ ((0 ≤ x ∧ x / 10000 < 6 ∧ x / 1000 % 10 < 4 ∧ x % 1000 < 240) ∧ 0 ≤ f ∧ t ≤ 9999 ∧ f ≤ t) → Q (some (0, (-1))) h) (a1 : ((0 ≤ x ∧ x / 10000 < 6 ∧ x / 1000 % 10 < 4 ∧ x % 1000 < 240) ∧ 0 ≤ f ∧ t ≤ 9999 ∧ f ≤ t) ∧ c = 12 → Q (some (0, (-2))) h) (a2 : ((0 ≤ x ∧ x / 10000 < 6 ∧ x / 1000 % 10 < 4 ∧ x % 1000 < 240) ∧ 0 ≤ f ∧ t ≤ 9999 ∧ f ≤ t) ∧ c < 12 → Q (some (0, (c : Int))) (hup (hup (hup h 28 (c) (x)) 29 (c) (f)) 17 (14) (((c + 1) : Nat) : Int))) : MH g l (d + 1) 117 212 212 [(2, ((17 : Nat) : Int)), (0, (x)), (0, (f)), (0, (t))] h Q := by
  have hR := ht.r
  have z0_x := z_x
  have z0_f := z_f
  have z0_t := z_t
  unfold in32 at z0_x
  unfold in32 at z0_f
  unfold in32 at z0_t
  refine mh_go hB mg117 ml117 (Nat.le_of_ble_eq_true rfl) ?_
  show HW g l (d + 1) 117 _ _ 0 [(0, (2, ((17 : Nat) : Int))), (1, (0, (x))), (2, (0, (f))), (3, (0, (t)))] [] h
  refine w_pl (pc' := 1) (lv' := [(0, (2, ((17 : Nat) : Int))), (1, (0, (x))), (2, (0, (f))), (3, (0, (t)))]) (st' := [(0, (x))]) (h' := h) (o117_0 hB) rfl ?_
  refine w_callS (as := [(0, (x))]) (rest := []) (n := 1) (pc' := 4) hB (o117_1 hB) rfl (by decide +kernel) rfl rfl (Nat.le_of_ble_eq_true rfl) (m_isWhereB hB z_x (fun f349 => ?_) (fun f350 => ?_))
  · show HW g l _ 117 _ _ 4 [(0, (2, ((17 : Nat) : Int))), (1, (0, (x))), (2, (0, (f))), (3, (0, (t)))] [(0, ((1 : Nat) : Int))] h
    refine w_ifc (pt := 23) (pf := 7) (o117_2 hB) (by decide) rfl (fun e => ?_) (fun e => ?_)
    · have f351 : (((1 : Nat) : Int) = (0)) := e
      exfalso; omega
    · have f352 : ¬ (((1 : Nat) : Int) = (0)) := e
      refine w_pl (pc' := 8) (lv' := [(0, (2, ((17 : Nat) : Int))), (1, (0, (x))), (2, (0, (f))), (3, (0, (t)))]) (st' := [(0, (f))]) (h' := h) (o117_3 hB) rfl ?_
      refine w_ifc (pt := 23) (pf := 11) (o117_4 hB) (by decide) rfl (fun e => ?_) (fun e => ?_)
      · have f353 : ((f) < (0)) := e
        refine w_pl (pc' := 24) (lv' := [(0, (2, ((17 : Nat) : Int))), (1, (0, (x))), (2, (0, (f))), (3, (0, (t)))]) (st' := [(0, (-1))]) (h' := h) (o117_11 hB) rfl ?_
        exact w_iret (o117_12 hB) mr117 (by unfold in32; omega) (a0 (by omega))
      · have f354 : ¬ ((f) < (0)) := e
        refine w_pl (pc' := 12) (lv' := [(0, (2, ((17 : Nat) : Int))), (1, (0, (x))), (2, (0, (f))), (3, (0, (t)))]) (st' := [(0, (t))]) (h' := h) (o117_5 hB) rfl ?_
        refine w_pl (pc' := 15) (lv' := [(0, (2, ((17 : Nat) : Int))), (1, (0, (x))), (2, (0, (f))), (3, (0, (t)))]) (st' := [(0, ((9999 : Nat) : Int)), (0, (t))]) (h' := h) (o117_6 hB) rfl ?_
        refine w_icmp (pt := 23) (pf := 18) (o117_7 hB) (by decide) rfl (fun e => ?_) (fun e => ?_)
        · have f355 : (((9999 : Nat) : Int) < (t)) := e
          refine w_pl (pc' := 24) (lv' := [(0, (2, ((17 : Nat) : Int))), (1, (0, (x))), (2, (0, (f))), (3, (0, (t)))]) (st' := [(0, (-1))]) (h' := h) (o117_11 hB) rfl ?_
          exact w_iret (o117_12 hB) mr117 (by unfold in32; omega) (a0 (by omega))
        · have f356 : ¬ (((9999 : Nat) : Int) < (t)) := e
          refine w_pl (pc' := 19) (lv' := [(0, (2, ((17 : Nat) : Int))), (1, (0, (x))), (2, (0, (f))), (3, (0, (t)))]) (st' := [(0, (t))]) (h' := h) (o117_8 hB) rfl ?_
          refine w_pl (pc' := 20) (lv' := [(0, (2, ((17 : Nat) : Int))), (1, (0, (x))), (2, (0, (f))), (3, (0, (t)))]) (st' := [(0, (f)), (0, (t))]) (h' := h) (o117_9 hB) rfl ?_
          refine w_icmp (pt := 25) (pf := 23) (o117_10 hB) (by decide) rfl (fun e => ?_) (fun e => ?_)
          · have f357 : ((f) ≤ (t)) := e
            refine w_pl (pc' := 26) (lv' := [(0, (2, ((17 : Nat) : Int))), (1, (0, (x))), (2, (0, (f))), (3, (0, (t)))]) (st' := [(2, ((17 : Nat) : Int))]) (h' := h) (o117_13 hB) rfl ?_
            refine w_getf (A := 17) (t := 0) (z := ((c : Nat) : Int)) (pc' := 29) (o117_14 hB) rfl (by decide +kernel) hc ?_
            refine w_pl (pc' := 31) (lv' := [(0, (2, ((17 : Nat) : Int))), (1, (0, (x))), (2, (0, (f))), (3, (0, (t)))]) (st' := [(0, ((12 : Nat) : Int)), (0, ((c : Nat) : Int))]) (h' := h) (o117_15 hB) rfl ?_
            refine w_icmp (pt := 37) (pf := 34) (o117_16 hB) (by decide) rfl (fun e => ?_) (fun e => ?_)
            · have f358 : (((c : Nat) : Int) < ((12 : Nat) : Int)) := e
              refine w_pl (pc' := 38) (lv' := [(0, (2, ((17 : Nat) : Int))), (1, (0, (x))), (2, (0, (f))), (3, (0, (t)))]) (st' := [(2, ((17 : Nat) : Int))]) (h' := h) (o117_19 hB) rfl ?_
              refine w_getf (A := 17) (t := 2) (z := ((28 : Nat) : Int)) (pc' := 41) (o117_20 hB) rfl (by decide +kernel) (hR (17, 15, 28) (by decide)) ?_
              refine w_pl (pc' := 42) (lv' := [(0, (2, ((17 : Nat) : Int))), (1, (0, (x))), (2, (0, (f))), (3, (0, (t)))]) (st' := [(2, ((17 : Nat) : Int)), (2, ((28 : Nat) : Int))]) (h' := h) (o117_21 hB) rfl ?_
              refine w_getf (A := 17) (t := 0) (z := ((c : Nat) : Int)) (pc' := 45) (o117_22 hB) rfl (by decide +kernel) hc ?_
              refine w_pl (pc' := 46) (lv' := [(0, (2, ((17 : Nat) : Int))), (1, (0, (x))), (2, (0, (f))), (3, (0, (t)))]) (st' := [(0, (x)), (0, ((c : Nat) : Int)), (2, ((28 : Nat) : Int))]) (h' := h) (o117_23 hB) rfl ?_
              refine w_iast (A := 28) (i := c) (n := 12) (pc' := 47) (o117_24 hB) rfl (by decide +kernel) (by omega) ?_
              refine w_pl (pc' := 48) (lv' := [(0, (2, ((17 : Nat) : Int))), (1, (0, (x))), (2, (0, (f))), (3, (0, (t)))]) (st' := [(2, ((17 : Nat) : Int))]) (h' := (hup h 28 (c) (x))) (o117_25 hB) rfl ?_
              refine w_getf (A := 17) (t := 2) (z := ((29 : Nat) : Int)) (pc' := 51) (o117_26 hB) rfl (by decide +kernel) ((hup_ne (by decide)).trans (hR (17, 16, 29) (by decide))) ?_
              refine w_pl (pc' := 52) (lv' := [(0, (2, ((17 : Nat) : Int))), (1, (0, (x))), (2, (0, (f))), (3, (0, (t)))]) (st' := [(2, ((17 : Nat) : Int)), (2, ((29 : Nat) : Int))]) (h' := (hup h 28 (c) (x))) (o117_27 hB) rfl ?_
              refine w_getf (A := 17) (t := 0) (z := ((c : Nat) : Int)) (pc' := 55) (o117_28 hB) rfl (by decide +kernel) ((hup_ne (by decide)).trans hc) ?_
              refine w_pl (pc' := 56) (lv' := [(0, (2, ((17 : Nat) : Int))), (1, (0, (x))), (2, (0, (f))), (3, (0, (t)))]) (st' := [(0, (f)), (0, ((c : Nat) : Int)), (2, ((29 : Nat) : Int))]) (h' := (hup h 28 (c) (x))) (o117_29 hB) rfl ?_
              refine w_iast (A := 29) (i := c) (n := 12) (pc' := 57) (o117_30 hB) rfl (by decide +kernel) (by omega) ?_
              refine w_pl (pc' := 58) (lv' := [(0, (2, ((17 : Nat) : Int))), (1, (0, (x))), (2, (0, (f))), (3, (0, (t)))]) (st' := [(2, ((17 : Nat) : Int))]) (h' := (hup (hup h 28 (c) (x)) 29 (c) (f))) (o117_31 hB) rfl ?_
              refine w_pl (pc' := 59) (lv' := [(0, (2, ((17 : Nat) : Int))), (1, (0, (x))), (2, (0, (f))), (3, (0, (t)))]) (st' := [(2, ((17 : Nat) : Int)), (2, ((17 : Nat) : Int))]) (h' := (hup (hup h 28 (c) (x)) 29 (c) (f))) (o117_32 hB) rfl ?_
              refine w_getf (A := 17) (t := 0) (z := ((c : Nat) : Int)) (pc' := 62) (o117_33 hB) rfl (by decide +kernel) ((hup_ne (by decide)).trans ((hup_ne (by decide)).trans hc)) ?_
              refine w_pl (pc' := 63) (lv' := [(0, (2, ((17 : Nat) : Int))), (1, (0, (x))), (2, (0, (f))), (3, (0, (t)))]) (st' := [(0, ((c : Nat) : Int)), (2, ((17 : Nat) : Int)), (0, ((c : Nat) : Int))]) (h' := (hup (hup h 28 (c) (x)) 29 (c) (f))) (o117_34 hB) rfl ?_
              refine w_pl (pc' := 64) (lv' := [(0, (2, ((17 : Nat) : Int))), (1, (0, (x))), (2, (0, (f))), (3, (0, (t)))]) (st' := [(0, ((1 : Nat) : Int)), (0, ((c : Nat) : Int)), (2, ((17 : Nat) : Int)), (0, ((c : Nat) : Int))]) (h' := (hup (hup h 28 (c) (x)) 29 (c) (f))) (o117_35 hB) rfl ?_
              refine w_iadd (z := (((c + 1) : Nat) : Int)) (pc' := 65) (o117_36 hB) rfl (w32_e (by omega) (by omega)) ?_
              refine w_putf (A := 17) (t := 0) (pc' := 68) (o117_37 hB) rfl (by decide +kernel) ?_
              exact w_iret (o117_38 hB) mr117 (by unfold in32; omega) (qe (a2 (by omega)) (by omega))
            · have f359 : ¬ (((c : Nat) : Int) < ((12 : Nat) : Int)) := e
              refine w_pl (pc' := 36) (lv' := [(0, (2, ((17 : Nat) : Int))), (1, (0, (x))), (2, (0, (f))), (3, (0, (t)))]) (st' := [(0, (-2))]) (h' := h) (o117_17 hB) rfl ?_
              exact w_iret (o117_18 hB) mr117 (by unfold in32; omega) (a1 (by omega))
          · have f360 : ¬ ((f) ≤ (t)) := e
            refine w_pl (pc' := 24) (lv' := [(0, (2, ((17 : Nat) : Int))), (1, (0, (x))), (2, (0, (f))), (3, (0, (t)))]) (st' := [(0, (-1))]) (h' := h) (o117_11 hB) rfl ?_
            exact w_iret (o117_12 hB) mr117 (by unfold in32; omega) (a0 (by omega))
  · show HW g l _ 117 _ _ 4 [(0, (2, ((17 : Nat) : Int))), (1, (0, (x))), (2, (0, (f))), (3, (0, (t)))] [(0, ((0 : Nat) : Int))] h
    refine w_ifc (pt := 23) (pf := 7) (o117_2 hB) (by decide) rfl (fun e => ?_) (fun e => ?_)
    · have f361 : (((0 : Nat) : Int) = (0)) := e
      refine w_pl (pc' := 24) (lv' := [(0, (2, ((17 : Nat) : Int))), (1, (0, (x))), (2, (0, (f))), (3, (0, (t)))]) (st' := [(0, (-1))]) (h' := h) (o117_11 hB) rfl ?_
      exact w_iret (o117_12 hB) mr117 (by unfold in32; omega) (a0 (by omega))
    · have f362 : ¬ (((0 : Nat) : Int) = (0)) := e
      exfalso; omega
theorem m_drawnB (hB : BytesOK) {g : bG} {l : Launch} {d : Nat} {Q : bQ} {h : bH} {x f t : Int} (ht : TH h) (z_x : in32 x) (z_f : in32 f) (z_t : in32 t) {c : Nat} (hc : h 17 14 = (c : Int)) (lc : c ≤ 12)  (a0 : ¬ ((0 ≤ x ∧ x / 10000 < 6 ∧ x / 1000 % 10 < 4 ∧ x % 1000 < 240) ∧ 0 ≤ f ∧ t ≤ 9999 ∧ f ≤ t) → Q (some (0, (-1))) h) (a1 : ((0 ≤ x ∧ x / 10000 < 6 ∧ x / 1000 % 10 < 4 ∧ x % 1000 < 240) ∧ 0 ≤ f ∧ t ≤ 9999 ∧ f ≤ t) ∧ c = 12 → Q (some (0, (-2))) h) (a2 : ((0 ≤ x ∧ x / 10000 < 6 ∧ x / 1000 % 10 < 4 ∧ x % 1000 < 240) ∧ 0 ≤ f ∧ t ≤ 9999 ∧ f ≤ t) ∧ c < 12 → Q (some (0, (c : Int))) (hup (hup (hup h 28 (c) (x)) 29 (c) (f)) 17 (14) (((c + 1) : Nat) : Int))) : MH g l (d + 1 + 1) 145 212 212 [(2, ((0 : Nat) : Int)), (0, (x)), (0, (f)), (0, (t))] h Q := by
  have hR := ht.r
  have z0_x := z_x
  have z0_f := z_f
  have z0_t := z_t
  unfold in32 at z0_x
  unfold in32 at z0_f
  unfold in32 at z0_t
  refine mh_go hB mg145 ml145 (Nat.le_of_ble_eq_true rfl) ?_
  show HW g l (d + 1 + 1) 145 _ _ 0 [(0, (2, ((0 : Nat) : Int))), (1, (0, (x))), (2, (0, (f))), (3, (0, (t)))] [] h
  refine w_pl (pc' := 1) (lv' := [(0, (2, ((0 : Nat) : Int))), (1, (0, (x))), (2, (0, (f))), (3, (0, (t)))]) (st' := [(2, ((0 : Nat) : Int))]) (h' := h) (o145_0 hB) rfl ?_
  refine w_getf (A := 0) (t := 2) (z := ((1 : Nat) : Int)) (pc' := 4) (o145_1 hB) rfl (by decide +kernel) (hR (0, 0, 1) (by decide)) ?_
  refine w_getf (A := 1) (t := 2) (z := ((17 : Nat) : Int)) (pc' := 7) (o145_2 hB) rfl (by decide +kernel) (hR (1, 2, 17) (by decide)) ?_
  refine w_pl (pc' := 8) (lv' := [(0, (2, ((0 : Nat) : Int))), (1, (0, (x))), (2, (0, (f))), (3, (0, (t)))]) (st' := [(0, (x)), (2, ((17 : Nat) : Int))]) (h' := h) (o145_3 hB) rfl ?_
  refine w_pl (pc' := 9) (lv' := [(0, (2, ((0 : Nat) : Int))), (1, (0, (x))), (2, (0, (f))), (3, (0, (t)))]) (st' := [(0, (f)), (0, (x)), (2, ((17 : Nat) : Int))]) (h' := h) (o145_4 hB) rfl ?_
  refine w_pl (pc' := 10) (lv' := [(0, (2, ((0 : Nat) : Int))), (1, (0, (x))), (2, (0, (f))), (3, (0, (t)))]) (st' := [(0, (t)), (0, (f)), (0, (x)), (2, ((17 : Nat) : Int))]) (h' := h) (o145_5 hB) rfl ?_
  refine w_callV (A := 17) (as := [(0, (x)), (0, (f)), (0, (t))]) (rest := []) (n := 3) (pc' := 13) 9 hB (o145_6 hB) rfl (by decide +kernel) rfl rfl (Nat.le_of_ble_eq_true rfl) (m_addDraw hB ht z_x z_f z_t hc lc (fun f366 => ?_) (fun f367 => ?_) (fun f368 => ?_))
  · show HW g l _ 145 _ _ 13 [(0, (2, ((0 : Nat) : Int))), (1, (0, (x))), (2, (0, (f))), (3, (0, (t)))] [(0, (-1))] h
    exact w_iret (o145_7 hB) mr145 (by unfold in32; omega) (a0 (by omega))
  · show HW g l _ 145 _ _ 13 [(0, (2, ((0 : Nat) : Int))), (1, (0, (x))), (2, (0, (f))), (3, (0, (t)))] [(0, (-2))] h
    exact w_iret (o145_7 hB) mr145 (by unfold in32; omega) (a1 (by omega))
  · show HW g l _ 145 _ _ 13 [(0, (2, ((0 : Nat) : Int))), (1, (0, (x))), (2, (0, (f))), (3, (0, (t)))] [(0, ((c : Nat) : Int))] (hup (hup (hup h 28 (c) (x)) 29 (c) (f)) 17 (14) (((c + 1) : Nat) : Int))
    exact w_iret (o145_7 hB) mr145 (by unfold in32; omega) (qe (a2 (by omega)) (by omega))
def s_drawnB (vs : List bV) (h : bH) (r : Option bV) (h' : bH) : Prop := TH h ∧ ∀ (x f t : Int) (c : Nat) , vs = [(2, ((0 : Nat) : Int)), (0, x), (0, f), (0, t)] → h 17 14 = (c : Int) → ((¬ ((0 ≤ x ∧ x / 10000 < 6 ∧ x / 1000 % 10 < 4 ∧ x % 1000 < 240) ∧ 0 ≤ f ∧ t ≤ 9999 ∧ f ≤ t)) ∧ r = some (0, (-1)) ∧ h = h') ∨ ((((0 ≤ x ∧ x / 10000 < 6 ∧ x / 1000 % 10 < 4 ∧ x % 1000 < 240) ∧ 0 ≤ f ∧ t ≤ 9999 ∧ f ≤ t) ∧ c = 12) ∧ r = some (0, (-2)) ∧ h = h') ∨ ((((0 ≤ x ∧ x / 10000 < 6 ∧ x / 1000 % 10 < 4 ∧ x % 1000 < 240) ∧ 0 ≤ f ∧ t ≤ 9999 ∧ f ≤ t) ∧ c < 12) ∧ r = some (0, (c : Int)) ∧ h' = (hup (hup (hup h 28 (c) (x)) 29 (c) (f)) 17 (14) (((c + 1) : Nat) : Int)))
def w_drawnB : List (Nat × Nat × Nat) := [(17, 14, 15), (28, 0, 12), (29, 0, 12)]
def q_drawnB : aCt := cH 145 2 w_drawnB 3 0
theorem sk_drawnB (hB : BytesOK) (g : bG) (l : Launch) : SK g l gT q_drawnB s_drawnB := by
  intro d hd ρ h Q hcore hQ
  have hcore : core (PofW gT (some w_drawnB) false) (gsc g) h ρ h (List.replicate 3 r32, [], [], 212) := hcore
  have ht := hTH hcore
  have y0 := r32_0 hcore 0 (by decide)
  have y1 := r32_0 hcore 1 (by decide)
  have y2 := r32_0 hcore 2 (by decide)
  have y00 := y0
  unfold in32 at y00
  have y01 := y1
  unfold in32 at y01
  have y02 := y2
  unfold in32 at y02
  obtain ⟨c, hc, lc⟩ := nat_to ht (a := 17) (j := 14) (n := 12) (by decide +kernel)
  obtain ⟨d', rfl⟩ : ∃ d', d = d' + 1 + 1 := ⟨d - 2, by have : 2 ≤ d := hd; omega⟩
  rw [show evS ρ (ctA q_drawnB) = [(2, ((0 : Nat) : Int)), (0, ρ 0), (0, ρ 1), (0, ρ 2)] from evA3]
  refine m_drawnB (x := ρ 0) (f := ρ 1) (t := ρ 2) hB ht y0 y1 y2 hc lc (fun hn => ?_) (fun hn => ?_) (fun hn => ?_)
  · refine hQ _ _ (hpost hcore (ht) (fun _ _ _ => rfl) (by unfold in32; omega)) ⟨ht, fun x f t c_c hv e_c => ?_⟩
    have hv := (evA3 (ρ := ρ)).symm.trans hv
    obtain ⟨rfl, rfl, rfl⟩ := vsA3 hv
    obtain rfl : c_c = c := by have := e_c.symm.trans hc; omega
    exact Or.inl ⟨hn, rfl, rfl⟩
  · refine hQ _ _ (hpost hcore (ht) (fun _ _ _ => rfl) (by unfold in32; omega)) ⟨ht, fun x f t c_c hv e_c => ?_⟩
    have hv := (evA3 (ρ := ρ)).symm.trans hv
    obtain ⟨rfl, rfl, rfl⟩ := vsA3 hv
    obtain rfl : c_c = c := by have := e_c.symm.trans hc; omega
    exact Or.inr (Or.inl ⟨hn, rfl, rfl⟩)
  · refine hQ _ _ (hpost hcore ((((ht).ups2 (a := 28) (s := 0) (st := 1) (n := 12) (lo := (0)) (hi := 2147483647) (r := c) (by decide +kernel) (by omega) (by omega) (by omega)).ups2 (a := 29) (s := 0) (st := 1) (n := 12) (lo := (0)) (hi := 9999) (r := c) (by decide +kernel) (by omega) (by omega) (by omega)).upc (a := 17) (j := 14) (lo := (0)) (hi := 12) (by decide +kernel) (by omega)) (fr_up (fr_up (fr_up (fun _ _ _ => rfl) (wr_in (lo := 0) (hi := 12) (by decide) (by omega) (by omega))) (wr_in (lo := 0) (hi := 12) (by decide) (by omega) (by omega))) (wr_in (lo := 14) (hi := 15) (by decide) (by omega) (by omega))) (by unfold in32; omega)) ⟨ht, fun x f t c_c hv e_c => ?_⟩
    have hv := (evA3 (ρ := ρ)).symm.trans hv
    obtain ⟨rfl, rfl, rfl⟩ := vsA3 hv
    obtain rfl : c_c = c := by have := e_c.symm.trans hc; omega
    exact Or.inr (Or.inr (⟨hn, rfl, rfl⟩))
theorem m_drawnM (hB : BytesOK) {g : bG} {l : Launch} {d : Nat} {Q : bQ} {h : bH} {x f t : Int} (ht : TH h) (z_x : in32 x) (z_f : in32 f) (z_t : in32 t) {c : Nat} (hc : h 194 8 = (c : Int)) (lc : c ≤ 12)  (a0 : ¬ ((0 ≤ x ∧ x / 10000 < 6 ∧ x / 1000 % 10 < 4 ∧ x % 1000 < 240) ∧ 0 ≤ f ∧ t ≤ 9999 ∧ f ≤ t) → Q (some (0, (-1))) h) (a1 : ((0 ≤ x ∧ x / 10000 < 6 ∧ x / 1000 % 10 < 4 ∧ x % 1000 < 240) ∧ 0 ≤ f ∧ t ≤ 9999 ∧ f ≤ t) ∧ c = 12 → Q (some (0, (-2))) h) (a2 : ((0 ≤ x ∧ x / 10000 < 6 ∧ x / 1000 % 10 < 4 ∧ x % 1000 < 240) ∧ 0 ≤ f ∧ t ≤ 9999 ∧ f ≤ t) ∧ c < 12 → Q (some (0, (c : Int))) (hup (hup (hup (hup (hup (hup h 194 ((514 + (5 * c))) ((x) / 10000)) 194 (((514 + (5 * c)) + 1)) (((x) / 1000) % 10)) 194 (((514 + (5 * c)) + 2)) ((x) % 1000)) 194 (((514 + (5 * c)) + 3)) (f)) 194 (((514 + (5 * c)) + 4)) (t)) 194 (8) (((c + 1) : Nat) : Int))) : MH g l (d + 1 + 1 + 1) 244 212 212 [(2, ((193 : Nat) : Int)), (0, (x)), (0, (f)), (0, (t))] h Q := by
  have hR := ht.r
  have z0_x := z_x
  have z0_f := z_f
  have z0_t := z_t
  unfold in32 at z0_x
  unfold in32 at z0_f
  unfold in32 at z0_t
  refine mh_go hB mg244 ml244 (Nat.le_of_ble_eq_true rfl) ?_
  show HW g l (d + 1 + 1 + 1) 244 _ _ 0 [(0, (2, ((193 : Nat) : Int))), (1, (0, (x))), (2, (0, (f))), (3, (0, (t)))] [] h
  refine w_pl (pc' := 1) (lv' := [(0, (2, ((193 : Nat) : Int))), (1, (0, (x))), (2, (0, (f))), (3, (0, (t)))]) (st' := [(0, (x))]) (h' := h) (o244_0 hB) rfl ?_
  refine w_callS (as := [(0, (x))]) (rest := []) (n := 1) (pc' := 4) hB (o244_1 hB) rfl (by decide +kernel) rfl rfl (Nat.le_of_ble_eq_true rfl) (m_isWhereM hB z_x (fun f389 => ?_) (fun f390 => ?_))
  · show HW g l _ 244 _ _ 4 [(0, (2, ((193 : Nat) : Int))), (1, (0, (x))), (2, (0, (f))), (3, (0, (t)))] [(0, ((1 : Nat) : Int))] h
    refine w_ifc (pt := 29) (pf := 7) (o244_2 hB) (by decide) rfl (fun e => ?_) (fun e => ?_)
    · have f391 : (((1 : Nat) : Int) = (0)) := e
      exfalso; omega
    · have f392 : ¬ (((1 : Nat) : Int) = (0)) := e
      refine w_pl (pc' := 8) (lv' := [(0, (2, ((193 : Nat) : Int))), (1, (0, (x))), (2, (0, (f))), (3, (0, (t)))]) (st' := [(0, (f))]) (h' := h) (o244_3 hB) rfl ?_
      refine w_pl (pc' := 9) (lv' := [(0, (2, ((193 : Nat) : Int))), (1, (0, (x))), (2, (0, (f))), (3, (0, (t)))]) (st' := [(0, ((0 : Nat) : Int)), (0, (f))]) (h' := h) (o244_4 hB) rfl ?_
      refine w_pl (pc' := 12) (lv' := [(0, (2, ((193 : Nat) : Int))), (1, (0, (x))), (2, (0, (f))), (3, (0, (t)))]) (st' := [(0, ((9999 : Nat) : Int)), (0, ((0 : Nat) : Int)), (0, (f))]) (h' := h) (o244_5 hB) rfl ?_
      refine w_callS (as := [(0, (f)), (0, ((0 : Nat) : Int)), (0, ((9999 : Nat) : Int))]) (rest := []) (n := 3) (pc' := 15) hB (o244_6 hB) rfl (by decide +kernel) rfl rfl (Nat.le_of_ble_eq_true rfl) (m_in hB (fun f393 => ?_) (fun f394 => ?_))
      · show HW g l _ 244 _ _ 15 [(0, (2, ((193 : Nat) : Int))), (1, (0, (x))), (2, (0, (f))), (3, (0, (t)))] [(0, ((1 : Nat) : Int))] h
        refine w_ifc (pt := 29) (pf := 18) (o244_7 hB) (by decide) rfl (fun e => ?_) (fun e => ?_)
        · have f395 : (((1 : Nat) : Int) = (0)) := e
          exfalso; omega
        · have f396 : ¬ (((1 : Nat) : Int) = (0)) := e
          refine w_pl (pc' := 19) (lv' := [(0, (2, ((193 : Nat) : Int))), (1, (0, (x))), (2, (0, (f))), (3, (0, (t)))]) (st' := [(0, (t))]) (h' := h) (o244_8 hB) rfl ?_
          refine w_pl (pc' := 20) (lv' := [(0, (2, ((193 : Nat) : Int))), (1, (0, (x))), (2, (0, (f))), (3, (0, (t)))]) (st' := [(0, (f)), (0, (t))]) (h' := h) (o244_9 hB) rfl ?_
          refine w_pl (pc' := 23) (lv' := [(0, (2, ((193 : Nat) : Int))), (1, (0, (x))), (2, (0, (f))), (3, (0, (t)))]) (st' := [(0, ((9999 : Nat) : Int)), (0, (f)), (0, (t))]) (h' := h) (o244_10 hB) rfl ?_
          refine w_callS (as := [(0, (t)), (0, (f)), (0, ((9999 : Nat) : Int))]) (rest := []) (n := 3) (pc' := 26) hB (o244_11 hB) rfl (by decide +kernel) rfl rfl (Nat.le_of_ble_eq_true rfl) (m_in hB (fun f397 => ?_) (fun f398 => ?_))
          · show HW g l _ 244 _ _ 26 [(0, (2, ((193 : Nat) : Int))), (1, (0, (x))), (2, (0, (f))), (3, (0, (t)))] [(0, ((1 : Nat) : Int))] h
            refine w_ifc (pt := 31) (pf := 29) (o244_12 hB) (by decide) rfl (fun e => ?_) (fun e => ?_)
            · have f399 : (((1 : Nat) : Int) ≠ (0)) := e
              refine w_pl (pc' := 32) (lv' := [(0, (2, ((193 : Nat) : Int))), (1, (0, (x))), (2, (0, (f))), (3, (0, (t)))]) (st' := [(2, ((193 : Nat) : Int))]) (h' := h) (o244_15 hB) rfl ?_
              refine w_getf (A := 193) (t := 2) (z := ((194 : Nat) : Int)) (pc' := 35) (o244_16 hB) rfl (by decide +kernel) (hR (193, 0, 194) (by decide)) ?_
              refine w_pl (pc' := 37) (lv' := [(0, (2, ((193 : Nat) : Int))), (1, (0, (x))), (2, (0, (f))), (3, (0, (t)))]) (st' := [(0, ((8 : Nat) : Int)), (2, ((194 : Nat) : Int))]) (h' := h) (o244_17 hB) rfl ?_
              refine w_iald (A := 194) (i := 8) (n := 1984) (z := ((c : Nat) : Int)) (pc' := 38) (o244_18 hB) rfl (by decide +kernel) (by omega) hc ?_
              refine w_pl (pc' := 40) (lv' := [(0, (2, ((193 : Nat) : Int))), (1, (0, (x))), (2, (0, (f))), (3, (0, (t)))]) (st' := [(0, ((12 : Nat) : Int)), (0, ((c : Nat) : Int))]) (h' := h) (o244_19 hB) rfl ?_
              refine w_icmp (pt := 46) (pf := 43) (o244_20 hB) (by decide) rfl (fun e => ?_) (fun e => ?_)
              · have f400 : (((c : Nat) : Int) ≠ ((12 : Nat) : Int)) := e
                refine w_pl (pc' := 49) (lv' := [(0, (2, ((193 : Nat) : Int))), (1, (0, (x))), (2, (0, (f))), (3, (0, (t)))]) (st' := [(0, ((514 : Nat) : Int))]) (h' := h) (o244_23 hB) rfl ?_
                refine w_pl (pc' := 50) (lv' := [(0, (2, ((193 : Nat) : Int))), (1, (0, (x))), (2, (0, (f))), (3, (0, (t)))]) (st' := [(0, ((5 : Nat) : Int)), (0, ((514 : Nat) : Int))]) (h' := h) (o244_24 hB) rfl ?_
                refine w_pl (pc' := 51) (lv' := [(0, (2, ((193 : Nat) : Int))), (1, (0, (x))), (2, (0, (f))), (3, (0, (t)))]) (st' := [(2, ((193 : Nat) : Int)), (0, ((5 : Nat) : Int)), (0, ((514 : Nat) : Int))]) (h' := h) (o244_25 hB) rfl ?_
                refine w_getf (A := 193) (t := 2) (z := ((194 : Nat) : Int)) (pc' := 54) (o244_26 hB) rfl (by decide +kernel) (hR (193, 0, 194) (by decide)) ?_
                refine w_pl (pc' := 56) (lv' := [(0, (2, ((193 : Nat) : Int))), (1, (0, (x))), (2, (0, (f))), (3, (0, (t)))]) (st' := [(0, ((8 : Nat) : Int)), (2, ((194 : Nat) : Int)), (0, ((5 : Nat) : Int)), (0, ((514 : Nat) : Int))]) (h' := h) (o244_27 hB) rfl ?_
                refine w_iald (A := 194) (i := 8) (n := 1984) (z := ((c : Nat) : Int)) (pc' := 57) (o244_28 hB) rfl (by decide +kernel) (by omega) hc ?_
                refine w_imul (z := (((5 * c) : Nat) : Int)) (pc' := 58) (o244_29 hB) rfl (w32_e (by omega) (by omega)) ?_
                refine w_iadd (z := (((514 + (5 * c)) : Nat) : Int)) (pc' := 59) (o244_30 hB) rfl (w32_e (by omega) (by omega)) ?_
                refine w_st (tg := 0) (j := 4) (len := 2) (pc' := 61) (lv' := [(4, (0, (((514 + (5 * c)) : Nat) : Int))), (0, (2, ((193 : Nat) : Int))), (1, (0, (x))), (2, (0, (f))), (3, (0, (t)))]) (o244_31 hB) rfl rfl ml244 (by decide) rfl ?_
                refine w_pl (pc' := 62) (lv' := [(4, (0, (((514 + (5 * c)) : Nat) : Int))), (0, (2, ((193 : Nat) : Int))), (1, (0, (x))), (2, (0, (f))), (3, (0, (t)))]) (st' := [(2, ((193 : Nat) : Int))]) (h' := h) (o244_32 hB) rfl ?_
                refine w_getf (A := 193) (t := 2) (z := ((194 : Nat) : Int)) (pc' := 65) (o244_33 hB) rfl (by decide +kernel) (hR (193, 0, 194) (by decide)) ?_
                refine w_pl (pc' := 67) (lv' := [(4, (0, (((514 + (5 * c)) : Nat) : Int))), (0, (2, ((193 : Nat) : Int))), (1, (0, (x))), (2, (0, (f))), (3, (0, (t)))]) (st' := [(0, (((514 + (5 * c)) : Nat) : Int)), (2, ((194 : Nat) : Int))]) (h' := h) (o244_34 hB) rfl ?_
                refine w_pl (pc' := 68) (lv' := [(4, (0, (((514 + (5 * c)) : Nat) : Int))), (0, (2, ((193 : Nat) : Int))), (1, (0, (x))), (2, (0, (f))), (3, (0, (t)))]) (st' := [(0, (x)), (0, (((514 + (5 * c)) : Nat) : Int)), (2, ((194 : Nat) : Int))]) (h' := h) (o244_35 hB) rfl ?_
                refine w_pl (pc' := 71) (lv' := [(4, (0, (((514 + (5 * c)) : Nat) : Int))), (0, (2, ((193 : Nat) : Int))), (1, (0, (x))), (2, (0, (f))), (3, (0, (t)))]) (st' := [(0, ((10000 : Nat) : Int)), (0, (x)), (0, (((514 + (5 * c)) : Nat) : Int)), (2, ((194 : Nat) : Int))]) (h' := h) (o244_36 hB) rfl ?_
                refine w_idiv (z := ((x) / 10000)) (pc' := 72) (o244_37 hB) rfl (divI_p (by omega) (by omega) (by decide)) ?_
                refine w_iast (A := 194) (i := (514 + (5 * c))) (n := 1984) (pc' := 73) (o244_38 hB) rfl (by decide +kernel) (by omega) ?_
                refine w_pl (pc' := 74) (lv' := [(4, (0, (((514 + (5 * c)) : Nat) : Int))), (0, (2, ((193 : Nat) : Int))), (1, (0, (x))), (2, (0, (f))), (3, (0, (t)))]) (st' := [(2, ((193 : Nat) : Int))]) (h' := (hup h 194 ((514 + (5 * c))) ((x) / 10000))) (o244_39 hB) rfl ?_
                refine w_getf (A := 193) (t := 2) (z := ((194 : Nat) : Int)) (pc' := 77) (o244_40 hB) rfl (by decide +kernel) ((hup_ne (by decide)).trans (hR (193, 0, 194) (by decide))) ?_
                refine w_pl (pc' := 79) (lv' := [(4, (0, (((514 + (5 * c)) : Nat) : Int))), (0, (2, ((193 : Nat) : Int))), (1, (0, (x))), (2, (0, (f))), (3, (0, (t)))]) (st' := [(0, (((514 + (5 * c)) : Nat) : Int)), (2, ((194 : Nat) : Int))]) (h' := (hup h 194 ((514 + (5 * c))) ((x) / 10000))) (o244_41 hB) rfl ?_
                refine w_pl (pc' := 80) (lv' := [(4, (0, (((514 + (5 * c)) : Nat) : Int))), (0, (2, ((193 : Nat) : Int))), (1, (0, (x))), (2, (0, (f))), (3, (0, (t)))]) (st' := [(0, ((1 : Nat) : Int)), (0, (((514 + (5 * c)) : Nat) : Int)), (2, ((194 : Nat) : Int))]) (h' := (hup h 194 ((514 + (5 * c))) ((x) / 10000))) (o244_42 hB) rfl ?_
                refine w_iadd (z := ((((514 + (5 * c)) + 1) : Nat) : Int)) (pc' := 81) (o244_43 hB) rfl (w32_e (by omega) (by omega)) ?_
                refine w_pl (pc' := 82) (lv' := [(4, (0, (((514 + (5 * c)) : Nat) : Int))), (0, (2, ((193 : Nat) : Int))), (1, (0, (x))), (2, (0, (f))), (3, (0, (t)))]) (st' := [(0, (x)), (0, ((((514 + (5 * c)) + 1) : Nat) : Int)), (2, ((194 : Nat) : Int))]) (h' := (hup h 194 ((514 + (5 * c))) ((x) / 10000))) (o244_44 hB) rfl ?_
                refine w_pl (pc' := 85) (lv' := [(4, (0, (((514 + (5 * c)) : Nat) : Int))), (0, (2, ((193 : Nat) : Int))), (1, (0, (x))), (2, (0, (f))), (3, (0, (t)))]) (st' := [(0, ((1000 : Nat) : Int)), (0, (x)), (0, ((((514 + (5 * c)) + 1) : Nat) : Int)), (2, ((194 : Nat) : Int))]) (h' := (hup h 194 ((514 + (5 * c))) ((x) / 10000))) (o244_45 hB) rfl ?_
                refine w_idiv (z := ((x) / 1000)) (pc' := 86) (o244_46 hB) rfl (divI_p (by omega) (by omega) (by decide)) ?_
                refine w_pl (pc' := 88) (lv' := [(4, (0, (((514 + (5 * c)) : Nat) : Int))), (0, (2, ((193 : Nat) : Int))), (1, (0, (x))), (2, (0, (f))), (3, (0, (t)))]) (st' := [(0, ((10 : Nat) : Int)), (0, ((x) / 1000)), (0, ((((514 + (5 * c)) + 1) : Nat) : Int)), (2, ((194 : Nat) : Int))]) (h' := (hup h 194 ((514 + (5 * c))) ((x) / 10000))) (o244_47 hB) rfl ?_
                refine w_irem (z := (((x) / 1000) % 10)) (pc' := 89) (o244_48 hB) rfl (remI_p (by omega) (by decide)) ?_
                refine w_iast (A := 194) (i := ((514 + (5 * c)) + 1)) (n := 1984) (pc' := 90) (o244_49 hB) rfl (by decide +kernel) (by omega) ?_
                refine w_pl (pc' := 91) (lv' := [(4, (0, (((514 + (5 * c)) : Nat) : Int))), (0, (2, ((193 : Nat) : Int))), (1, (0, (x))), (2, (0, (f))), (3, (0, (t)))]) (st' := [(2, ((193 : Nat) : Int))]) (h' := (hup (hup h 194 ((514 + (5 * c))) ((x) / 10000)) 194 (((514 + (5 * c)) + 1)) (((x) / 1000) % 10))) (o244_50 hB) rfl ?_
                refine w_getf (A := 193) (t := 2) (z := ((194 : Nat) : Int)) (pc' := 94) (o244_51 hB) rfl (by decide +kernel) ((hup_ne (by decide)).trans ((hup_ne (by decide)).trans (hR (193, 0, 194) (by decide)))) ?_
                refine w_pl (pc' := 96) (lv' := [(4, (0, (((514 + (5 * c)) : Nat) : Int))), (0, (2, ((193 : Nat) : Int))), (1, (0, (x))), (2, (0, (f))), (3, (0, (t)))]) (st' := [(0, (((514 + (5 * c)) : Nat) : Int)), (2, ((194 : Nat) : Int))]) (h' := (hup (hup h 194 ((514 + (5 * c))) ((x) / 10000)) 194 (((514 + (5 * c)) + 1)) (((x) / 1000) % 10))) (o244_52 hB) rfl ?_
                refine w_pl (pc' := 97) (lv' := [(4, (0, (((514 + (5 * c)) : Nat) : Int))), (0, (2, ((193 : Nat) : Int))), (1, (0, (x))), (2, (0, (f))), (3, (0, (t)))]) (st' := [(0, ((2 : Nat) : Int)), (0, (((514 + (5 * c)) : Nat) : Int)), (2, ((194 : Nat) : Int))]) (h' := (hup (hup h 194 ((514 + (5 * c))) ((x) / 10000)) 194 (((514 + (5 * c)) + 1)) (((x) / 1000) % 10))) (o244_53 hB) rfl ?_
                refine w_iadd (z := ((((514 + (5 * c)) + 2) : Nat) : Int)) (pc' := 98) (o244_54 hB) rfl (w32_e (by omega) (by omega)) ?_
                refine w_pl (pc' := 99) (lv' := [(4, (0, (((514 + (5 * c)) : Nat) : Int))), (0, (2, ((193 : Nat) : Int))), (1, (0, (x))), (2, (0, (f))), (3, (0, (t)))]) (st' := [(0, (x)), (0, ((((514 + (5 * c)) + 2) : Nat) : Int)), (2, ((194 : Nat) : Int))]) (h' := (hup (hup h 194 ((514 + (5 * c))) ((x) / 10000)) 194 (((514 + (5 * c)) + 1)) (((x) / 1000) % 10))) (o244_55 hB) rfl ?_
                refine w_pl (pc' := 102) (lv' := [(4, (0, (((514 + (5 * c)) : Nat) : Int))), (0, (2, ((193 : Nat) : Int))), (1, (0, (x))), (2, (0, (f))), (3, (0, (t)))]) (st' := [(0, ((1000 : Nat) : Int)), (0, (x)), (0, ((((514 + (5 * c)) + 2) : Nat) : Int)), (2, ((194 : Nat) : Int))]) (h' := (hup (hup h 194 ((514 + (5 * c))) ((x) / 10000)) 194 (((514 + (5 * c)) + 1)) (((x) / 1000) % 10))) (o244_56 hB) rfl ?_
                refine w_irem (z := ((x) % 1000)) (pc' := 103) (o244_57 hB) rfl (remI_p (by omega) (by decide)) ?_
                refine w_iast (A := 194) (i := ((514 + (5 * c)) + 2)) (n := 1984) (pc' := 104) (o244_58 hB) rfl (by decide +kernel) (by omega) ?_
                refine w_pl (pc' := 105) (lv' := [(4, (0, (((514 + (5 * c)) : Nat) : Int))), (0, (2, ((193 : Nat) : Int))), (1, (0, (x))), (2, (0, (f))), (3, (0, (t)))]) (st' := [(2, ((193 : Nat) : Int))]) (h' := (hup (hup (hup h 194 ((514 + (5 * c))) ((x) / 10000)) 194 (((514 + (5 * c)) + 1)) (((x) / 1000) % 10)) 194 (((514 + (5 * c)) + 2)) ((x) % 1000))) (o244_59 hB) rfl ?_
                refine w_getf (A := 193) (t := 2) (z := ((194 : Nat) : Int)) (pc' := 108) (o244_60 hB) rfl (by decide +kernel) ((hup_ne (by decide)).trans ((hup_ne (by decide)).trans ((hup_ne (by decide)).trans (hR (193, 0, 194) (by decide))))) ?_
                refine w_pl (pc' := 110) (lv' := [(4, (0, (((514 + (5 * c)) : Nat) : Int))), (0, (2, ((193 : Nat) : Int))), (1, (0, (x))), (2, (0, (f))), (3, (0, (t)))]) (st' := [(0, (((514 + (5 * c)) : Nat) : Int)), (2, ((194 : Nat) : Int))]) (h' := (hup (hup (hup h 194 ((514 + (5 * c))) ((x) / 10000)) 194 (((514 + (5 * c)) + 1)) (((x) / 1000) % 10)) 194 (((514 + (5 * c)) + 2)) ((x) % 1000))) (o244_61 hB) rfl ?_
                refine w_pl (pc' := 111) (lv' := [(4, (0, (((514 + (5 * c)) : Nat) : Int))), (0, (2, ((193 : Nat) : Int))), (1, (0, (x))), (2, (0, (f))), (3, (0, (t)))]) (st' := [(0, ((3 : Nat) : Int)), (0, (((514 + (5 * c)) : Nat) : Int)), (2, ((194 : Nat) : Int))]) (h' := (hup (hup (hup h 194 ((514 + (5 * c))) ((x) / 10000)) 194 (((514 + (5 * c)) + 1)) (((x) / 1000) % 10)) 194 (((514 + (5 * c)) + 2)) ((x) % 1000))) (o244_62 hB) rfl ?_
                refine w_iadd (z := ((((514 + (5 * c)) + 3) : Nat) : Int)) (pc' := 112) (o244_63 hB) rfl (w32_e (by omega) (by omega)) ?_
                refine w_pl (pc' := 113) (lv' := [(4, (0, (((514 + (5 * c)) : Nat) : Int))), (0, (2, ((193 : Nat) : Int))), (1, (0, (x))), (2, (0, (f))), (3, (0, (t)))]) (st' := [(0, (f)), (0, ((((514 + (5 * c)) + 3) : Nat) : Int)), (2, ((194 : Nat) : Int))]) (h' := (hup (hup (hup h 194 ((514 + (5 * c))) ((x) / 10000)) 194 (((514 + (5 * c)) + 1)) (((x) / 1000) % 10)) 194 (((514 + (5 * c)) + 2)) ((x) % 1000))) (o244_64 hB) rfl ?_
                refine w_iast (A := 194) (i := ((514 + (5 * c)) + 3)) (n := 1984) (pc' := 114) (o244_65 hB) rfl (by decide +kernel) (by omega) ?_
                refine w_pl (pc' := 115) (lv' := [(4, (0, (((514 + (5 * c)) : Nat) : Int))), (0, (2, ((193 : Nat) : Int))), (1, (0, (x))), (2, (0, (f))), (3, (0, (t)))]) (st' := [(2, ((193 : Nat) : Int))]) (h' := (hup (hup (hup (hup h 194 ((514 + (5 * c))) ((x) / 10000)) 194 (((514 + (5 * c)) + 1)) (((x) / 1000) % 10)) 194 (((514 + (5 * c)) + 2)) ((x) % 1000)) 194 (((514 + (5 * c)) + 3)) (f))) (o244_66 hB) rfl ?_
                refine w_getf (A := 193) (t := 2) (z := ((194 : Nat) : Int)) (pc' := 118) (o244_67 hB) rfl (by decide +kernel) ((hup_ne (by decide)).trans ((hup_ne (by decide)).trans ((hup_ne (by decide)).trans ((hup_ne (by decide)).trans (hR (193, 0, 194) (by decide)))))) ?_
                refine w_pl (pc' := 120) (lv' := [(4, (0, (((514 + (5 * c)) : Nat) : Int))), (0, (2, ((193 : Nat) : Int))), (1, (0, (x))), (2, (0, (f))), (3, (0, (t)))]) (st' := [(0, (((514 + (5 * c)) : Nat) : Int)), (2, ((194 : Nat) : Int))]) (h' := (hup (hup (hup (hup h 194 ((514 + (5 * c))) ((x) / 10000)) 194 (((514 + (5 * c)) + 1)) (((x) / 1000) % 10)) 194 (((514 + (5 * c)) + 2)) ((x) % 1000)) 194 (((514 + (5 * c)) + 3)) (f))) (o244_68 hB) rfl ?_
                refine w_pl (pc' := 121) (lv' := [(4, (0, (((514 + (5 * c)) : Nat) : Int))), (0, (2, ((193 : Nat) : Int))), (1, (0, (x))), (2, (0, (f))), (3, (0, (t)))]) (st' := [(0, ((4 : Nat) : Int)), (0, (((514 + (5 * c)) : Nat) : Int)), (2, ((194 : Nat) : Int))]) (h' := (hup (hup (hup (hup h 194 ((514 + (5 * c))) ((x) / 10000)) 194 (((514 + (5 * c)) + 1)) (((x) / 1000) % 10)) 194 (((514 + (5 * c)) + 2)) ((x) % 1000)) 194 (((514 + (5 * c)) + 3)) (f))) (o244_69 hB) rfl ?_
                refine w_iadd (z := ((((514 + (5 * c)) + 4) : Nat) : Int)) (pc' := 122) (o244_70 hB) rfl (w32_e (by omega) (by omega)) ?_
                refine w_pl (pc' := 123) (lv' := [(4, (0, (((514 + (5 * c)) : Nat) : Int))), (0, (2, ((193 : Nat) : Int))), (1, (0, (x))), (2, (0, (f))), (3, (0, (t)))]) (st' := [(0, (t)), (0, ((((514 + (5 * c)) + 4) : Nat) : Int)), (2, ((194 : Nat) : Int))]) (h' := (hup (hup (hup (hup h 194 ((514 + (5 * c))) ((x) / 10000)) 194 (((514 + (5 * c)) + 1)) (((x) / 1000) % 10)) 194 (((514 + (5 * c)) + 2)) ((x) % 1000)) 194 (((514 + (5 * c)) + 3)) (f))) (o244_71 hB) rfl ?_
                refine w_iast (A := 194) (i := ((514 + (5 * c)) + 4)) (n := 1984) (pc' := 124) (o244_72 hB) rfl (by decide +kernel) (by omega) ?_
                refine w_pl (pc' := 125) (lv' := [(4, (0, (((514 + (5 * c)) : Nat) : Int))), (0, (2, ((193 : Nat) : Int))), (1, (0, (x))), (2, (0, (f))), (3, (0, (t)))]) (st' := [(2, ((193 : Nat) : Int))]) (h' := (hup (hup (hup (hup (hup h 194 ((514 + (5 * c))) ((x) / 10000)) 194 (((514 + (5 * c)) + 1)) (((x) / 1000) % 10)) 194 (((514 + (5 * c)) + 2)) ((x) % 1000)) 194 (((514 + (5 * c)) + 3)) (f)) 194 (((514 + (5 * c)) + 4)) (t))) (o244_73 hB) rfl ?_
                refine w_getf (A := 193) (t := 2) (z := ((194 : Nat) : Int)) (pc' := 128) (o244_74 hB) rfl (by decide +kernel) ((hup_ne (by decide)).trans ((hup_ne (by decide)).trans ((hup_ne (by decide)).trans ((hup_ne (by decide)).trans ((hup_ne (by decide)).trans (hR (193, 0, 194) (by decide))))))) ?_
                refine w_pl (pc' := 130) (lv' := [(4, (0, (((514 + (5 * c)) : Nat) : Int))), (0, (2, ((193 : Nat) : Int))), (1, (0, (x))), (2, (0, (f))), (3, (0, (t)))]) (st' := [(0, ((8 : Nat) : Int)), (2, ((194 : Nat) : Int))]) (h' := (hup (hup (hup (hup (hup h 194 ((514 + (5 * c))) ((x) / 10000)) 194 (((514 + (5 * c)) + 1)) (((x) / 1000) % 10)) 194 (((514 + (5 * c)) + 2)) ((x) % 1000)) 194 (((514 + (5 * c)) + 3)) (f)) 194 (((514 + (5 * c)) + 4)) (t))) (o244_75 hB) rfl ?_
                refine w_pl (pc' := 131) (lv' := [(4, (0, (((514 + (5 * c)) : Nat) : Int))), (0, (2, ((193 : Nat) : Int))), (1, (0, (x))), (2, (0, (f))), (3, (0, (t)))]) (st' := [(0, ((8 : Nat) : Int)), (2, ((194 : Nat) : Int)), (0, ((8 : Nat) : Int)), (2, ((194 : Nat) : Int))]) (h' := (hup (hup (hup (hup (hup h 194 ((514 + (5 * c))) ((x) / 10000)) 194 (((514 + (5 * c)) + 1)) (((x) / 1000) % 10)) 194 (((514 + (5 * c)) + 2)) ((x) % 1000)) 194 (((514 + (5 * c)) + 3)) (f)) 194 (((514 + (5 * c)) + 4)) (t))) (o244_76 hB) rfl ?_
                refine w_iald (A := 194) (i := 8) (n := 1984) (z := ((c : Nat) : Int)) (pc' := 132) (o244_77 hB) rfl (by decide +kernel) (by omega) ((hup_nj (by omega)).trans ((hup_nj (by omega)).trans ((hup_nj (by omega)).trans ((hup_nj (by omega)).trans ((hup_nj (by omega)).trans hc))))) ?_
                refine w_pl (pc' := 133) (lv' := [(4, (0, (((514 + (5 * c)) : Nat) : Int))), (0, (2, ((193 : Nat) : Int))), (1, (0, (x))), (2, (0, (f))), (3, (0, (t)))]) (st' := [(0, ((1 : Nat) : Int)), (0, ((c : Nat) : Int)), (0, ((8 : Nat) : Int)), (2, ((194 : Nat) : Int))]) (h' := (hup (hup (hup (hup (hup h 194 ((514 + (5 * c))) ((x) / 10000)) 194 (((514 + (5 * c)) + 1)) (((x) / 1000) % 10)) 194 (((514 + (5 * c)) + 2)) ((x) % 1000)) 194 (((514 + (5 * c)) + 3)) (f)) 194 (((514 + (5 * c)) + 4)) (t))) (o244_78 hB) rfl ?_
                refine w_iadd (z := (((c + 1) : Nat) : Int)) (pc' := 134) (o244_79 hB) rfl (w32_e (by omega) (by omega)) ?_
                refine w_iast (A := 194) (i := 8) (n := 1984) (pc' := 135) (o244_80 hB) rfl (by decide +kernel) (by omega) ?_
                refine w_pl (pc' := 136) (lv' := [(4, (0, (((514 + (5 * c)) : Nat) : Int))), (0, (2, ((193 : Nat) : Int))), (1, (0, (x))), (2, (0, (f))), (3, (0, (t)))]) (st' := [(2, ((193 : Nat) : Int))]) (h' := (hup (hup (hup (hup (hup (hup h 194 ((514 + (5 * c))) ((x) / 10000)) 194 (((514 + (5 * c)) + 1)) (((x) / 1000) % 10)) 194 (((514 + (5 * c)) + 2)) ((x) % 1000)) 194 (((514 + (5 * c)) + 3)) (f)) 194 (((514 + (5 * c)) + 4)) (t)) 194 (8) (((c + 1) : Nat) : Int))) (o244_81 hB) rfl ?_
                refine w_getf (A := 193) (t := 2) (z := ((194 : Nat) : Int)) (pc' := 139) (o244_82 hB) rfl (by decide +kernel) ((hup_ne (by decide)).trans ((hup_ne (by decide)).trans ((hup_ne (by decide)).trans ((hup_ne (by decide)).trans ((hup_ne (by decide)).trans ((hup_ne (by decide)).trans (hR (193, 0, 194) (by decide)))))))) ?_
                refine w_pl (pc' := 141) (lv' := [(4, (0, (((514 + (5 * c)) : Nat) : Int))), (0, (2, ((193 : Nat) : Int))), (1, (0, (x))), (2, (0, (f))), (3, (0, (t)))]) (st' := [(0, ((8 : Nat) : Int)), (2, ((194 : Nat) : Int))]) (h' := (hup (hup (hup (hup (hup (hup h 194 ((514 + (5 * c))) ((x) / 10000)) 194 (((514 + (5 * c)) + 1)) (((x) / 1000) % 10)) 194 (((514 + (5 * c)) + 2)) ((x) % 1000)) 194 (((514 + (5 * c)) + 3)) (f)) 194 (((514 + (5 * c)) + 4)) (t)) 194 (8) (((c + 1) : Nat) : Int))) (o244_83 hB) rfl ?_
                refine w_iald (A := 194) (i := 8) (n := 1984) (z := ((((c + 1) : Nat) : Int))) (pc' := 142) (o244_84 hB) rfl (by decide +kernel) (by omega) (hup_eq) ?_
                refine w_pl (pc' := 143) (lv' := [(4, (0, (((514 + (5 * c)) : Nat) : Int))), (0, (2, ((193 : Nat) : Int))), (1, (0, (x))), (2, (0, (f))), (3, (0, (t)))]) (st' := [(0, ((1 : Nat) : Int)), (0, ((((c + 1) : Nat) : Int)))]) (h' := (hup (hup (hup (hup (hup (hup h 194 ((514 + (5 * c))) ((x) / 10000)) 194 (((514 + (5 * c)) + 1)) (((x) / 1000) % 10)) 194 (((514 + (5 * c)) + 2)) ((x) % 1000)) 194 (((514 + (5 * c)) + 3)) (f)) 194 (((514 + (5 * c)) + 4)) (t)) 194 (8) (((c + 1) : Nat) : Int))) (o244_85 hB) rfl ?_
                refine w_isub (z := (((((c + 1) : Nat) : Int)) - ((1 : Nat) : Int))) (pc' := 144) (o244_86 hB) rfl (w32_e (by omega) (by omega)) ?_
                exact w_iret (o244_87 hB) mr244 (by unfold in32; omega) (qe (a2 (by omega)) (by omega))
              · have f401 : ¬ (((c : Nat) : Int) ≠ ((12 : Nat) : Int)) := e
                refine w_pl (pc' := 45) (lv' := [(0, (2, ((193 : Nat) : Int))), (1, (0, (x))), (2, (0, (f))), (3, (0, (t)))]) (st' := [(0, (-2))]) (h' := h) (o244_21 hB) rfl ?_
                exact w_iret (o244_22 hB) mr244 (by unfold in32; omega) (a1 (by omega))
            · have f402 : ¬ (((1 : Nat) : Int) ≠ (0)) := e
              exfalso; omega
          · show HW g l _ 244 _ _ 26 [(0, (2, ((193 : Nat) : Int))), (1, (0, (x))), (2, (0, (f))), (3, (0, (t)))] [(0, ((0 : Nat) : Int))] h
            refine w_ifc (pt := 31) (pf := 29) (o244_12 hB) (by decide) rfl (fun e => ?_) (fun e => ?_)
            · have f403 : (((0 : Nat) : Int) ≠ (0)) := e
              exfalso; omega
            · have f404 : ¬ (((0 : Nat) : Int) ≠ (0)) := e
              refine w_pl (pc' := 30) (lv' := [(0, (2, ((193 : Nat) : Int))), (1, (0, (x))), (2, (0, (f))), (3, (0, (t)))]) (st' := [(0, (-1))]) (h' := h) (o244_13 hB) rfl ?_
              exact w_iret (o244_14 hB) mr244 (by unfold in32; omega) (a0 (by omega))
      · show HW g l _ 244 _ _ 15 [(0, (2, ((193 : Nat) : Int))), (1, (0, (x))), (2, (0, (f))), (3, (0, (t)))] [(0, ((0 : Nat) : Int))] h
        refine w_ifc (pt := 29) (pf := 18) (o244_7 hB) (by decide) rfl (fun e => ?_) (fun e => ?_)
        · have f405 : (((0 : Nat) : Int) = (0)) := e
          refine w_pl (pc' := 30) (lv' := [(0, (2, ((193 : Nat) : Int))), (1, (0, (x))), (2, (0, (f))), (3, (0, (t)))]) (st' := [(0, (-1))]) (h' := h) (o244_13 hB) rfl ?_
          exact w_iret (o244_14 hB) mr244 (by unfold in32; omega) (a0 (by omega))
        · have f406 : ¬ (((0 : Nat) : Int) = (0)) := e
          exfalso; omega
  · show HW g l _ 244 _ _ 4 [(0, (2, ((193 : Nat) : Int))), (1, (0, (x))), (2, (0, (f))), (3, (0, (t)))] [(0, ((0 : Nat) : Int))] h
    refine w_ifc (pt := 29) (pf := 7) (o244_2 hB) (by decide) rfl (fun e => ?_) (fun e => ?_)
    · have f407 : (((0 : Nat) : Int) = (0)) := e
      refine w_pl (pc' := 30) (lv' := [(0, (2, ((193 : Nat) : Int))), (1, (0, (x))), (2, (0, (f))), (3, (0, (t)))]) (st' := [(0, (-1))]) (h' := h) (o244_13 hB) rfl ?_
      exact w_iret (o244_14 hB) mr244 (by unfold in32; omega) (a0 (by omega))
    · have f408 : ¬ (((0 : Nat) : Int) = (0)) := e
      exfalso; omega
def s_drawnM (vs : List bV) (h : bH) (r : Option bV) (h' : bH) : Prop := TH h ∧ ∀ (x f t : Int) (c : Nat) , vs = [(2, ((193 : Nat) : Int)), (0, x), (0, f), (0, t)] → h 194 8 = (c : Int) → ((¬ ((0 ≤ x ∧ x / 10000 < 6 ∧ x / 1000 % 10 < 4 ∧ x % 1000 < 240) ∧ 0 ≤ f ∧ t ≤ 9999 ∧ f ≤ t)) ∧ r = some (0, (-1)) ∧ h = h') ∨ ((((0 ≤ x ∧ x / 10000 < 6 ∧ x / 1000 % 10 < 4 ∧ x % 1000 < 240) ∧ 0 ≤ f ∧ t ≤ 9999 ∧ f ≤ t) ∧ c = 12) ∧ r = some (0, (-2)) ∧ h = h') ∨ ((((0 ≤ x ∧ x / 10000 < 6 ∧ x / 1000 % 10 < 4 ∧ x % 1000 < 240) ∧ 0 ≤ f ∧ t ≤ 9999 ∧ f ≤ t) ∧ c < 12) ∧ r = some (0, (c : Int)) ∧ h' = (hup (hup (hup (hup (hup (hup h 194 ((514 + (5 * c))) ((x) / 10000)) 194 (((514 + (5 * c)) + 1)) (((x) / 1000) % 10)) 194 (((514 + (5 * c)) + 2)) ((x) % 1000)) 194 (((514 + (5 * c)) + 3)) (f)) 194 (((514 + (5 * c)) + 4)) (t)) 194 (8) (((c + 1) : Nat) : Int)))
def w_drawnM : List (Nat × Nat × Nat) := [(194, 8, 9), (194, 514, 574)]
def q_drawnM : aCt := cH 244 3 w_drawnM 3 193
theorem sk_drawnM (hB : BytesOK) (g : bG) (l : Launch) : SK g l gT q_drawnM s_drawnM := by
  intro d hd ρ h Q hcore hQ
  have hcore : core (PofW gT (some w_drawnM) false) (gsc g) h ρ h (List.replicate 3 r32, [], [], 212) := hcore
  have ht := hTH hcore
  have y0 := r32_0 hcore 0 (by decide)
  have y1 := r32_0 hcore 1 (by decide)
  have y2 := r32_0 hcore 2 (by decide)
  have y00 := y0
  unfold in32 at y00
  have y01 := y1
  unfold in32 at y01
  have y02 := y2
  unfold in32 at y02
  obtain ⟨c, hc, lc⟩ := nat_to ht (a := 194) (j := 8) (n := 12) (by decide +kernel)
  obtain ⟨d', rfl⟩ : ∃ d', d = d' + 1 + 1 + 1 := ⟨d - 3, by have : 3 ≤ d := hd; omega⟩
  rw [show evS ρ (ctA q_drawnM) = [(2, ((193 : Nat) : Int)), (0, ρ 0), (0, ρ 1), (0, ρ 2)] from evA3]
  refine m_drawnM (x := ρ 0) (f := ρ 1) (t := ρ 2) hB ht y0 y1 y2 hc lc (fun hn => ?_) (fun hn => ?_) (fun hn => ?_)
  · refine hQ _ _ (hpost hcore (ht) (fun _ _ _ => rfl) (by unfold in32; omega)) ⟨ht, fun x f t c_c hv e_c => ?_⟩
    have hv := (evA3 (ρ := ρ)).symm.trans hv
    obtain ⟨rfl, rfl, rfl⟩ := vsA3 hv
    obtain rfl : c_c = c := by have := e_c.symm.trans hc; omega
    exact Or.inl ⟨hn, rfl, rfl⟩
  · refine hQ _ _ (hpost hcore (ht) (fun _ _ _ => rfl) (by unfold in32; omega)) ⟨ht, fun x f t c_c hv e_c => ?_⟩
    have hv := (evA3 (ρ := ρ)).symm.trans hv
    obtain ⟨rfl, rfl, rfl⟩ := vsA3 hv
    obtain rfl : c_c = c := by have := e_c.symm.trans hc; omega
    exact Or.inr (Or.inl ⟨hn, rfl, rfl⟩)
  · refine hQ _ _ (hpost hcore (((((((ht).ups2 (a := 194) (s := 514) (st := 5) (n := 12) (lo := (0)) (hi := 9999) (r := c) (by decide +kernel) (by omega) (by omega) (by omega)).ups2 (a := 194) (s := 515) (st := 5) (n := 12) (lo := (0)) (hi := 9999) (r := c) (by decide +kernel) (by omega) (by omega) (by omega)).ups2 (a := 194) (s := 516) (st := 5) (n := 12) (lo := (0)) (hi := 9999) (r := c) (by decide +kernel) (by omega) (by omega) (by omega)).ups2 (a := 194) (s := 517) (st := 5) (n := 12) (lo := (0)) (hi := 9999) (r := c) (by decide +kernel) (by omega) (by omega) (by omega)).ups2 (a := 194) (s := 518) (st := 5) (n := 12) (lo := (0)) (hi := 9999) (r := c) (by decide +kernel) (by omega) (by omega) (by omega)).upc (a := 194) (j := 8) (lo := (0)) (hi := 12) (by decide +kernel) (by omega)) (fr_up (fr_up (fr_up (fr_up (fr_up (fr_up (fun _ _ _ => rfl) (wr_in (lo := 514) (hi := 574) (by decide) (by omega) (by omega))) (wr_in (lo := 514) (hi := 574) (by decide) (by omega) (by omega))) (wr_in (lo := 514) (hi := 574) (by decide) (by omega) (by omega))) (wr_in (lo := 514) (hi := 574) (by decide) (by omega) (by omega))) (wr_in (lo := 514) (hi := 574) (by decide) (by omega) (by omega))) (wr_in (lo := 8) (hi := 9) (by decide) (by omega) (by omega))) (by unfold in32; omega)) ⟨ht, fun x f t c_c hv e_c => ?_⟩
    have hv := (evA3 (ρ := ρ)).symm.trans hv
    obtain ⟨rfl, rfl, rfl⟩ := vsA3 hv
    obtain rfl : c_c = c := by have := e_c.symm.trans hc; omega
    exact Or.inr (Or.inr (⟨hn, rfl, rfl⟩))
theorem m_underB (hB : BytesOK) {g : bG} {l : Launch} {d : Nat} {Q : bQ} {h : bH} {mk kk : Int} (ht : TH h) (z_mk : in32 mk) (z_kk : in32 kk) {u : Nat} (hu : h 17 14 = (u : Int)) (lu : u ≤ 12) {c : Nat} (hc : h 17 0 = (c : Int)) (lc : c ≤ 24)  (a0 : ¬ ((0 ≤ mk ∧ mk ≤ 5) ∧ 0 ≤ kk ∧ kk ≤ 239) → Q (some (0, (-1))) h) (a1 : (0 ≤ mk ∧ mk ≤ 5) ∧ 0 ≤ kk ∧ kk ≤ 239 → Q (some (0, (bdA h mk kk u c u))) h) : MH g l (d + 1 + 1 + 1) 146 212 212 [(2, ((0 : Nat) : Int)), (0, (mk)), (0, (kk))] h Q := by
  have hR := ht.r
  have z0_mk := z_mk
  have z0_kk := z_kk
  unfold in32 at z0_mk
  unfold in32 at z0_kk
  refine mh_go hB mg146 ml146 (Nat.le_of_ble_eq_true rfl) ?_
  show HW g l (d + 1 + 1 + 1) 146 _ _ 0 [(0, (2, ((0 : Nat) : Int))), (1, (0, (mk))), (2, (0, (kk)))] [] h
  refine w_pl (pc' := 1) (lv' := [(0, (2, ((0 : Nat) : Int))), (1, (0, (mk))), (2, (0, (kk)))]) (st' := [(0, (mk))]) (h' := h) (o146_0 hB) rfl ?_
  refine w_callS (as := [(0, (mk))]) (rest := []) (n := 1) (pc' := 4) hB (o146_1 hB) rfl (by decide +kernel) rfl rfl (Nat.le_of_ble_eq_true rfl) (m_isMakerB hB (fun f422 => ?_) (fun f423 => ?_))
  · show HW g l _ 146 _ _ 4 [(0, (2, ((0 : Nat) : Int))), (1, (0, (mk))), (2, (0, (kk)))] [(0, ((1 : Nat) : Int))] h
    refine w_ifc (pt := 14) (pf := 7) (o146_2 hB) (by decide) rfl (fun e => ?_) (fun e => ?_)
    · have f424 : (((1 : Nat) : Int) = (0)) := e
      exfalso; omega
    · have f425 : ¬ (((1 : Nat) : Int) = (0)) := e
      refine w_pl (pc' := 8) (lv' := [(0, (2, ((0 : Nat) : Int))), (1, (0, (mk))), (2, (0, (kk)))]) (st' := [(0, (kk))]) (h' := h) (o146_3 hB) rfl ?_
      refine w_callS (as := [(0, (kk))]) (rest := []) (n := 1) (pc' := 11) hB (o146_4 hB) rfl (by decide +kernel) rfl rfl (Nat.le_of_ble_eq_true rfl) (m_isMonthB hB (fun f426 => ?_) (fun f427 => ?_))
      · show HW g l _ 146 _ _ 11 [(0, (2, ((0 : Nat) : Int))), (1, (0, (mk))), (2, (0, (kk)))] [(0, ((1 : Nat) : Int))] h
        refine w_ifc (pt := 16) (pf := 14) (o146_5 hB) (by decide) rfl (fun e => ?_) (fun e => ?_)
        · have f428 : (((1 : Nat) : Int) ≠ (0)) := e
          refine w_pl (pc' := 17) (lv' := [(0, (2, ((0 : Nat) : Int))), (1, (0, (mk))), (2, (0, (kk)))]) (st' := [(2, ((0 : Nat) : Int))]) (h' := h) (o146_8 hB) rfl ?_
          refine w_getf (A := 0) (t := 2) (z := ((1 : Nat) : Int)) (pc' := 20) (o146_9 hB) rfl (by decide +kernel) (hR (0, 0, 1) (by decide)) ?_
          refine w_getf (A := 1) (t := 2) (z := ((17 : Nat) : Int)) (pc' := 23) (o146_10 hB) rfl (by decide +kernel) (hR (1, 2, 17) (by decide)) ?_
          refine w_pl (pc' := 24) (lv' := [(0, (2, ((0 : Nat) : Int))), (1, (0, (mk))), (2, (0, (kk)))]) (st' := [(0, (mk)), (2, ((17 : Nat) : Int))]) (h' := h) (o146_11 hB) rfl ?_
          refine w_pl (pc' := 25) (lv' := [(0, (2, ((0 : Nat) : Int))), (1, (0, (mk))), (2, (0, (kk)))]) (st' := [(0, (kk)), (0, (mk)), (2, ((17 : Nat) : Int))]) (h' := h) (o146_12 hB) rfl ?_
          refine w_callV (A := 17) (as := [(0, (mk)), (0, (kk))]) (rest := []) (n := 2) (pc' := 28) 9 hB (o146_13 hB) rfl (by decide +kernel) rfl rfl (Nat.le_of_ble_eq_true rfl) (m_belowDrawn hB ht hu lu hc lc ?_)
          show HW g l _ 146 _ _ 28 [(0, (2, ((0 : Nat) : Int))), (1, (0, (mk))), (2, (0, (kk)))] [(0, (bdA h mk kk u c u))] h
          exact w_iret (o146_14 hB) mr146 (by have := bdA_r ht (mk := mk) (kk := kk) lu lc u lu; unfold in32; omega) (a1 (by omega))
        · have f430 : ¬ (((1 : Nat) : Int) ≠ (0)) := e
          exfalso; omega
      · show HW g l _ 146 _ _ 11 [(0, (2, ((0 : Nat) : Int))), (1, (0, (mk))), (2, (0, (kk)))] [(0, ((0 : Nat) : Int))] h
        refine w_ifc (pt := 16) (pf := 14) (o146_5 hB) (by decide) rfl (fun e => ?_) (fun e => ?_)
        · have f431 : (((0 : Nat) : Int) ≠ (0)) := e
          exfalso; omega
        · have f432 : ¬ (((0 : Nat) : Int) ≠ (0)) := e
          refine w_pl (pc' := 15) (lv' := [(0, (2, ((0 : Nat) : Int))), (1, (0, (mk))), (2, (0, (kk)))]) (st' := [(0, (-1))]) (h' := h) (o146_6 hB) rfl ?_
          exact w_iret (o146_7 hB) mr146 (by unfold in32; omega) (a0 (by omega))
  · show HW g l _ 146 _ _ 4 [(0, (2, ((0 : Nat) : Int))), (1, (0, (mk))), (2, (0, (kk)))] [(0, ((0 : Nat) : Int))] h
    refine w_ifc (pt := 14) (pf := 7) (o146_2 hB) (by decide) rfl (fun e => ?_) (fun e => ?_)
    · have f433 : (((0 : Nat) : Int) = (0)) := e
      refine w_pl (pc' := 15) (lv' := [(0, (2, ((0 : Nat) : Int))), (1, (0, (mk))), (2, (0, (kk)))]) (st' := [(0, (-1))]) (h' := h) (o146_6 hB) rfl ?_
      exact w_iret (o146_7 hB) mr146 (by unfold in32; omega) (a0 (by omega))
    · have f434 : ¬ (((0 : Nat) : Int) = (0)) := e
      exfalso; omega
def s_underB (vs : List bV) (h : bH) (r : Option bV) (h' : bH) : Prop := TH h ∧ ∀ (mk kk : Int) (u : Nat) (c : Nat) , vs = [(2, ((0 : Nat) : Int)), (0, mk), (0, kk)] → h 17 14 = (u : Int) → h 17 0 = (c : Int) → ((¬ ((0 ≤ mk ∧ mk ≤ 5) ∧ 0 ≤ kk ∧ kk ≤ 239)) ∧ r = some (0, (-1)) ∧ h = h') ∨ (((0 ≤ mk ∧ mk ≤ 5) ∧ 0 ≤ kk ∧ kk ≤ 239) ∧ r = some (0, (bdA h mk kk u c u)) ∧ h = h')
def w_underB : List (Nat × Nat × Nat) := []
def q_underB : aCt := cH 146 3 w_underB 2 0
theorem sk_underB (hB : BytesOK) (g : bG) (l : Launch) : SK g l gT q_underB s_underB := by
  intro d hd ρ h Q hcore hQ
  have hcore : core (PofW gT (some w_underB) false) (gsc g) h ρ h (List.replicate 2 r32, [], [], 212) := hcore
  have ht := hTH hcore
  have y0 := r32_0 hcore 0 (by decide)
  have y1 := r32_0 hcore 1 (by decide)
  have y00 := y0
  unfold in32 at y00
  have y01 := y1
  unfold in32 at y01
  obtain ⟨u, hu, lu⟩ := nat_to ht (a := 17) (j := 14) (n := 12) (by decide +kernel)
  obtain ⟨c, hc, lc⟩ := nat_to ht (a := 17) (j := 0) (n := 24) (by decide +kernel)
  obtain ⟨d', rfl⟩ : ∃ d', d = d' + 1 + 1 + 1 := ⟨d - 3, by have : 3 ≤ d := hd; omega⟩
  rw [show evS ρ (ctA q_underB) = [(2, ((0 : Nat) : Int)), (0, ρ 0), (0, ρ 1)] from evA2]
  refine m_underB (mk := ρ 0) (kk := ρ 1) hB ht y0 y1 hu lu hc lc (fun hn => ?_) (fun hn => ?_)
  · refine hQ _ _ (hpost hcore (ht) (fun _ _ _ => rfl) (by unfold in32; omega)) ⟨ht, fun mk kk c_u c_c hv e_u e_c => ?_⟩
    have hv := (evA2 (ρ := ρ)).symm.trans hv
    obtain ⟨rfl, rfl⟩ := vsA2 hv
    obtain rfl : c_u = u := by have := e_u.symm.trans hu; omega
    obtain rfl : c_c = c := by have := e_c.symm.trans hc; omega
    exact Or.inl ⟨hn, rfl, rfl⟩
  · refine hQ _ _ (hpost hcore (ht) (fun _ _ _ => rfl) (by have := bdA_r ht (mk := ρ 0) (kk := ρ 1) lu lc u lu; unfold in32; omega)) ⟨ht, fun mk kk c_u c_c hv e_u e_c => ?_⟩
    have hv := (evA2 (ρ := ρ)).symm.trans hv
    obtain ⟨rfl, rfl⟩ := vsA2 hv
    obtain rfl : c_u = u := by have := e_u.symm.trans hu; omega
    obtain rfl : c_c = c := by have := e_c.symm.trans hc; omega
    exact Or.inr (⟨hn, rfl, rfl⟩)
theorem m_underM (hB : BytesOK) {g : bG} {l : Launch} {d : Nat} {Q : bQ} {h : bH} {mk kk : Int} (ht : TH h) (z_mk : in32 mk) (z_kk : in32 kk) {u : Nat} (hu : h 194 8 = (u : Int)) (lu : u ≤ 12) {c : Nat} (hc : h 194 5 = (c : Int)) (lc : c ≤ 24)  (a0 : ¬ ((0 ≤ mk ∧ mk ≤ 5) ∧ 0 ≤ kk ∧ kk ≤ 239) → Q (some (0, (-1))) h) (a1 : (0 ≤ mk ∧ mk ≤ 5) ∧ 0 ≤ kk ∧ kk ≤ 239 → Q (some (0, (unM h mk kk u c u))) h) : MH g l (d + 1 + 1 + 1) 246 212 212 [(2, ((193 : Nat) : Int)), (0, (mk)), (0, (kk))] h Q := by
  have hR := ht.r
  have z0_mk := z_mk
  have z0_kk := z_kk
  unfold in32 at z0_mk
  unfold in32 at z0_kk
  rcases (by omega : ¬ ((0 ≤ mk ∧ mk ≤ 5) ∧ 0 ≤ kk ∧ kk ≤ 239) ∨ ((0 ≤ mk ∧ mk ≤ 5) ∧ 0 ≤ kk ∧ kk ≤ 239)) with gg | gg
  · skip
    refine mh_go hB mg246 ml246 (Nat.le_of_ble_eq_true rfl) ?_
    show HW g l (d + 1 + 1 + 1) 246 _ _ 0 [(0, (2, ((193 : Nat) : Int))), (1, (0, (mk))), (2, (0, (kk)))] [] h
    refine w_pl (pc' := 1) (lv' := [(0, (2, ((193 : Nat) : Int))), (1, (0, (mk))), (2, (0, (kk)))]) (st' := [(0, (mk))]) (h' := h) (o246_0 hB) rfl ?_
    refine w_callS (as := [(0, (mk))]) (rest := []) (n := 1) (pc' := 4) hB (o246_1 hB) rfl (by decide +kernel) rfl rfl (Nat.le_of_ble_eq_true rfl) (m_isMakerM hB (fun f459 => ?_) (fun f460 => ?_))
    · show HW g l _ 246 _ _ 4 [(0, (2, ((193 : Nat) : Int))), (1, (0, (mk))), (2, (0, (kk)))] [(0, ((1 : Nat) : Int))] h
      refine w_ifc (pt := 14) (pf := 7) (o246_2 hB) (by decide) rfl (fun e => ?_) (fun e => ?_)
      · have f461 : (((1 : Nat) : Int) = (0)) := e
        exfalso; omega
      · have f462 : ¬ (((1 : Nat) : Int) = (0)) := e
        refine w_pl (pc' := 8) (lv' := [(0, (2, ((193 : Nat) : Int))), (1, (0, (mk))), (2, (0, (kk)))]) (st' := [(0, (kk))]) (h' := h) (o246_3 hB) rfl ?_
        refine w_callS (as := [(0, (kk))]) (rest := []) (n := 1) (pc' := 11) hB (o246_4 hB) rfl (by decide +kernel) rfl rfl (Nat.le_of_ble_eq_true rfl) (m_isMonthM hB (fun f463 => ?_) (fun f464 => ?_))
        · show HW g l _ 246 _ _ 11 [(0, (2, ((193 : Nat) : Int))), (1, (0, (mk))), (2, (0, (kk)))] [(0, ((1 : Nat) : Int))] h
          refine w_ifc (pt := 16) (pf := 14) (o246_5 hB) (by decide) rfl (fun e => ?_) (fun e => ?_)
          · have f465 : (((1 : Nat) : Int) ≠ (0)) := e
            refine w_pl (pc' := 17) (lv' := [(0, (2, ((193 : Nat) : Int))), (1, (0, (mk))), (2, (0, (kk)))]) (st' := [(0, ((0 : Nat) : Int))]) (h' := h) (o246_8 hB) rfl ?_
            refine w_st (tg := 0) (j := 3) (len := 1) (pc' := 18) (lv' := [(3, (0, ((0 : Nat) : Int))), (0, (2, ((193 : Nat) : Int))), (1, (0, (mk))), (2, (0, (kk)))]) (o246_9 hB) rfl rfl ml246 (by decide) rfl ?_
            refine w_pl (pc' := 19) (lv' := [(3, (0, ((0 : Nat) : Int))), (0, (2, ((193 : Nat) : Int))), (1, (0, (mk))), (2, (0, (kk)))]) (st' := [(0, ((0 : Nat) : Int))]) (h' := h) (o246_10 hB) rfl ?_
            refine w_st (tg := 0) (j := 4) (len := 2) (pc' := 21) (lv' := [(4, (0, ((0 : Nat) : Int))), (3, (0, ((0 : Nat) : Int))), (0, (2, ((193 : Nat) : Int))), (1, (0, (mk))), (2, (0, (kk)))]) (o246_11 hB) rfl rfl ml246 (by decide) rfl ?_
            exfalso; omega
          · have f466 : ¬ (((1 : Nat) : Int) ≠ (0)) := e
            exfalso; omega
        · show HW g l _ 246 _ _ 11 [(0, (2, ((193 : Nat) : Int))), (1, (0, (mk))), (2, (0, (kk)))] [(0, ((0 : Nat) : Int))] h
          refine w_ifc (pt := 16) (pf := 14) (o246_5 hB) (by decide) rfl (fun e => ?_) (fun e => ?_)
          · have f467 : (((0 : Nat) : Int) ≠ (0)) := e
            exfalso; omega
          · have f468 : ¬ (((0 : Nat) : Int) ≠ (0)) := e
            refine w_pl (pc' := 15) (lv' := [(0, (2, ((193 : Nat) : Int))), (1, (0, (mk))), (2, (0, (kk)))]) (st' := [(0, (-1))]) (h' := h) (o246_6 hB) rfl ?_
            exact w_iret (o246_7 hB) mr246 (by unfold in32; omega) (a0 (by omega))
    · show HW g l _ 246 _ _ 4 [(0, (2, ((193 : Nat) : Int))), (1, (0, (mk))), (2, (0, (kk)))] [(0, ((0 : Nat) : Int))] h
      refine w_ifc (pt := 14) (pf := 7) (o246_2 hB) (by decide) rfl (fun e => ?_) (fun e => ?_)
      · have f469 : (((0 : Nat) : Int) = (0)) := e
        refine w_pl (pc' := 15) (lv' := [(0, (2, ((193 : Nat) : Int))), (1, (0, (mk))), (2, (0, (kk)))]) (st' := [(0, (-1))]) (h' := h) (o246_6 hB) rfl ?_
        exact w_iret (o246_7 hB) mr246 (by unfold in32; omega) (a0 (by omega))
      · have f470 : ¬ (((0 : Nat) : Int) = (0)) := e
        exfalso; omega
  · skip
    refine mh_go hB mg246 ml246 (Nat.le_of_ble_eq_true rfl) ?_
    show HW g l (d + 1 + 1 + 1) 246 _ _ 0 [(0, (2, ((193 : Nat) : Int))), (1, (0, (mk))), (2, (0, (kk)))] [] h
    refine w_pl (pc' := 1) (lv' := [(0, (2, ((193 : Nat) : Int))), (1, (0, (mk))), (2, (0, (kk)))]) (st' := [(0, (mk))]) (h' := h) (o246_0 hB) rfl ?_
    refine w_callS (as := [(0, (mk))]) (rest := []) (n := 1) (pc' := 4) hB (o246_1 hB) rfl (by decide +kernel) rfl rfl (Nat.le_of_ble_eq_true rfl) (m_isMakerM hB (fun f471 => ?_) (fun f472 => ?_))
    · show HW g l _ 246 _ _ 4 [(0, (2, ((193 : Nat) : Int))), (1, (0, (mk))), (2, (0, (kk)))] [(0, ((1 : Nat) : Int))] h
      refine w_ifc (pt := 14) (pf := 7) (o246_2 hB) (by decide) rfl (fun e => ?_) (fun e => ?_)
      · have f473 : (((1 : Nat) : Int) = (0)) := e
        exfalso; omega
      · have f474 : ¬ (((1 : Nat) : Int) = (0)) := e
        refine w_pl (pc' := 8) (lv' := [(0, (2, ((193 : Nat) : Int))), (1, (0, (mk))), (2, (0, (kk)))]) (st' := [(0, (kk))]) (h' := h) (o246_3 hB) rfl ?_
        refine w_callS (as := [(0, (kk))]) (rest := []) (n := 1) (pc' := 11) hB (o246_4 hB) rfl (by decide +kernel) rfl rfl (Nat.le_of_ble_eq_true rfl) (m_isMonthM hB (fun f475 => ?_) (fun f476 => ?_))
        · show HW g l _ 246 _ _ 11 [(0, (2, ((193 : Nat) : Int))), (1, (0, (mk))), (2, (0, (kk)))] [(0, ((1 : Nat) : Int))] h
          refine w_ifc (pt := 16) (pf := 14) (o246_5 hB) (by decide) rfl (fun e => ?_) (fun e => ?_)
          · have f477 : (((1 : Nat) : Int) ≠ (0)) := e
            refine w_pl (pc' := 17) (lv' := [(0, (2, ((193 : Nat) : Int))), (1, (0, (mk))), (2, (0, (kk)))]) (st' := [(0, ((0 : Nat) : Int))]) (h' := h) (o246_8 hB) rfl ?_
            refine w_st (tg := 0) (j := 3) (len := 1) (pc' := 18) (lv' := [(3, (0, ((0 : Nat) : Int))), (0, (2, ((193 : Nat) : Int))), (1, (0, (mk))), (2, (0, (kk)))]) (o246_9 hB) rfl rfl ml246 (by decide) rfl ?_
            refine w_pl (pc' := 19) (lv' := [(3, (0, ((0 : Nat) : Int))), (0, (2, ((193 : Nat) : Int))), (1, (0, (mk))), (2, (0, (kk)))]) (st' := [(0, ((0 : Nat) : Int))]) (h' := h) (o246_10 hB) rfl ?_
            refine w_st (tg := 0) (j := 4) (len := 2) (pc' := 21) (lv' := [(4, (0, ((0 : Nat) : Int))), (3, (0, ((0 : Nat) : Int))), (0, (2, ((193 : Nat) : Int))), (1, (0, (mk))), (2, (0, (kk)))]) (o246_11 hB) rfl rfl ml246 (by decide) rfl ?_
            have gR := a1 (by omega)
            refine w_sub (lv' := [(4, (0, ((0 : Nat) : Int))), (3, (0, ((0 : Nat) : Int))), (0, (2, ((193 : Nat) : Int))), (1, (0, (mk))), (2, (0, (kk)))]) (List.forall_mem_cons.mpr ⟨(List.Mem.head _), (List.forall_mem_cons.mpr ⟨(List.Mem.tail _ (List.Mem.head _)), (List.forall_mem_cons.mpr ⟨(List.Mem.tail _ (List.Mem.tail _ (List.Mem.head _))), (List.forall_mem_cons.mpr ⟨(List.Mem.tail _ (List.Mem.tail _ (List.Mem.tail _ (List.Mem.head _)))), (List.forall_mem_cons.mpr ⟨(List.Mem.tail _ (List.Mem.tail _ (List.Mem.tail _ (List.Mem.tail _ (List.Mem.head _))))), (fun _ hx => by cases hx)⟩)⟩)⟩)⟩)⟩) ?_
            exact l_undM hB ht hu lu hc lc gR u 0 (by omega)
          · have f478 : ¬ (((1 : Nat) : Int) ≠ (0)) := e
            exfalso; omega
        · show HW g l _ 246 _ _ 11 [(0, (2, ((193 : Nat) : Int))), (1, (0, (mk))), (2, (0, (kk)))] [(0, ((0 : Nat) : Int))] h
          refine w_ifc (pt := 16) (pf := 14) (o246_5 hB) (by decide) rfl (fun e => ?_) (fun e => ?_)
          · have f479 : (((0 : Nat) : Int) ≠ (0)) := e
            exfalso; omega
          · have f480 : ¬ (((0 : Nat) : Int) ≠ (0)) := e
            refine w_pl (pc' := 15) (lv' := [(0, (2, ((193 : Nat) : Int))), (1, (0, (mk))), (2, (0, (kk)))]) (st' := [(0, (-1))]) (h' := h) (o246_6 hB) rfl ?_
            exact w_iret (o246_7 hB) mr246 (by unfold in32; omega) (a0 (by omega))
    · show HW g l _ 246 _ _ 4 [(0, (2, ((193 : Nat) : Int))), (1, (0, (mk))), (2, (0, (kk)))] [(0, ((0 : Nat) : Int))] h
      refine w_ifc (pt := 14) (pf := 7) (o246_2 hB) (by decide) rfl (fun e => ?_) (fun e => ?_)
      · have f481 : (((0 : Nat) : Int) = (0)) := e
        refine w_pl (pc' := 15) (lv' := [(0, (2, ((193 : Nat) : Int))), (1, (0, (mk))), (2, (0, (kk)))]) (st' := [(0, (-1))]) (h' := h) (o246_6 hB) rfl ?_
        exact w_iret (o246_7 hB) mr246 (by unfold in32; omega) (a0 (by omega))
      · have f482 : ¬ (((0 : Nat) : Int) = (0)) := e
        exfalso; omega
def s_underM (vs : List bV) (h : bH) (r : Option bV) (h' : bH) : Prop := TH h ∧ ∀ (mk kk : Int) (u : Nat) (c : Nat) , vs = [(2, ((193 : Nat) : Int)), (0, mk), (0, kk)] → h 194 8 = (u : Int) → h 194 5 = (c : Int) → ((¬ ((0 ≤ mk ∧ mk ≤ 5) ∧ 0 ≤ kk ∧ kk ≤ 239)) ∧ r = some (0, (-1)) ∧ h = h') ∨ (((0 ≤ mk ∧ mk ≤ 5) ∧ 0 ≤ kk ∧ kk ≤ 239) ∧ r = some (0, (unM h mk kk u c u)) ∧ h = h')
def w_underM : List (Nat × Nat × Nat) := []
def q_underM : aCt := cH 246 3 w_underM 2 193
theorem sk_underM (hB : BytesOK) (g : bG) (l : Launch) : SK g l gT q_underM s_underM := by
  intro d hd ρ h Q hcore hQ
  have hcore : core (PofW gT (some w_underM) false) (gsc g) h ρ h (List.replicate 2 r32, [], [], 212) := hcore
  have ht := hTH hcore
  have y0 := r32_0 hcore 0 (by decide)
  have y1 := r32_0 hcore 1 (by decide)
  have y00 := y0
  unfold in32 at y00
  have y01 := y1
  unfold in32 at y01
  obtain ⟨u, hu, lu⟩ := nat_to ht (a := 194) (j := 8) (n := 12) (by decide +kernel)
  obtain ⟨c, hc, lc⟩ := nat_to ht (a := 194) (j := 5) (n := 24) (by decide +kernel)
  obtain ⟨d', rfl⟩ : ∃ d', d = d' + 1 + 1 + 1 := ⟨d - 3, by have : 3 ≤ d := hd; omega⟩
  rw [show evS ρ (ctA q_underM) = [(2, ((193 : Nat) : Int)), (0, ρ 0), (0, ρ 1)] from evA2]
  refine m_underM (mk := ρ 0) (kk := ρ 1) hB ht y0 y1 hu lu hc lc (fun hn => ?_) (fun hn => ?_)
  · refine hQ _ _ (hpost hcore (ht) (fun _ _ _ => rfl) (by unfold in32; omega)) ⟨ht, fun mk kk c_u c_c hv e_u e_c => ?_⟩
    have hv := (evA2 (ρ := ρ)).symm.trans hv
    obtain ⟨rfl, rfl⟩ := vsA2 hv
    obtain rfl : c_u = u := by have := e_u.symm.trans hu; omega
    obtain rfl : c_c = c := by have := e_c.symm.trans hc; omega
    exact Or.inl ⟨hn, rfl, rfl⟩
  · refine hQ _ _ (hpost hcore (ht) (fun _ _ _ => rfl) (by have := unM_r ht (mk := ρ 0) (kk := ρ 1) (u := u) lc u lu; unfold in32; omega)) ⟨ht, fun mk kk c_u c_c hv e_u e_c => ?_⟩
    have hv := (evA2 (ρ := ρ)).symm.trans hv
    obtain ⟨rfl, rfl⟩ := vsA2 hv
    obtain rfl : c_u = u := by have := e_u.symm.trans hu; omega
    obtain rfl : c_c = c := by have := e_c.symm.trans hc; omega
    exact Or.inr (⟨hn, rfl, rfl⟩)
