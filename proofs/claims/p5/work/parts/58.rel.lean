/-! THE RELATION -/
def pc_now : Pc := (fun h t D => h (2 + t) 0 = h D 0, [(2, 0, 1)], [(0, 1)])
theorem pc_now_ok : PcOK pc_now := fun h h' t t' D D' hc hd q => by
  show h' (2 + t') 0 = h' D' 0
  rw [hc 2 0 (by decide), hd 0 (by decide)]
  exact q
def f_claim (b : Nat) (z x y : Nat → Int) : Prop := (x 0) = (y 0) ∧ (x 1) = (y 1) ∧ (x 2) = (y 2) ∧ (x 3) = (y 3) ∧ (x 4) = (y 4) ∧ (x 5) = (y 5) ∧ (x 6) = (y 6)
theorem f_claim_ok : recF 7 0 8 f_claim := fun b z z' x x' y y' hz hx hy q => by
  unfold f_claim at q ⊢
  rw [hx 0 (by decide), hx 1 (by decide), hx 2 (by decide), hx 3 (by decide), hx 4 (by decide), hx 5 (by decide), hx 6 (by decide), hy 0 (by decide), hy 1 (by decide), hy 2 (by decide), hy 3 (by decide), hy 4 (by decide), hy 5 (by decide), hy 6 (by decide)]
  exact q
def pc_claim : Pc := recX (2, 1) 1 16 16 8 [3, 5, 8, 4, 6, 7, 9] [] f_claim
theorem pc_claim_ok : PcOK pc_claim := recX_ok f_claim_ok
def swF (sb lb y : Int) (b : Nat) : Prop := y = (if bitB sb b = true then 1 else 0) + (if bitB lb b = true then 2 else 0)
def pc_sworn : Pc := (fun h t D => ∃ c : Nat, h (2 + t) 1 = (c : Int) ∧ h D 1 = (c : Int) ∧ c ≤ 16 ∧ (∀ b, b < c → swF (h (2 + t) 9) (h (2 + t) 10) (h D (16 + 8 * b + 7)) b) ∧ ∀ b, c ≤ b → b < 16 → bitB (h (2 + t) 9) b = false ∧ bitB (h (2 + t) 10) b = false, [(2, 1, 2), (2, 9, 10), (2, 10, 11)], [(1, 2), (16, 144)])
theorem inD_s {j : Nat} (h1 : 16 ≤ j) (h2 : j < 144) : inD [(1, 2), (16, 144)] j = true := List.any_eq_true.mpr ⟨(16, 144), by decide, by simp [h1, h2]⟩
theorem pc_sworn_ok : PcOK pc_sworn := fun h h' t t' D D' hc hd q => by
  obtain ⟨c, q1, q2, q3, q4, q5⟩ := q
  have e1 := hc 2 1 (by decide)
  have e9 := hc 2 9 (by decide)
  have e10 := hc 2 10 (by decide)
  refine ⟨c, e1.trans q1, (hd 1 (by decide)).trans q2, q3, fun b hb => ?_, fun b h1 h2 => ?_⟩
  · rw [e9, e10, hd _ (inD_s (by omega) (by omega))]
    exact q4 b hb
  · rw [e9, e10]
    exact q5 b h1 h2
theorem sworn_push {h H : bH} {c : Nat} (q : pc_sworn.1 h 0 194) (hc : h 2 1 = (c : Int)) (lt : c < 16) (e1 : H 2 1 = ((c + 1 : Nat) : Int)) (e2 : H 194 1 = ((c + 1 : Nat) : Int)) (e9 : H 2 9 = h 2 9) (e10 : H 2 10 = h 2 10) (ey : H 194 (16 + 8 * c + 7) = 0) (er : ∀ j, 16 ≤ j → j < 16 + 8 * c → H 194 j = h 194 j) : pc_sworn.1 H 0 194 := by
  obtain ⟨c', q1, q2, q3, q4, q5⟩ := q
  have q1' : h 2 1 = (c' : Int) := q1
  obtain rfl : c' = c := by omega
  refine ⟨c' + 1, e1, e2, lt, fun b hb => ?_, fun b h1 h2 => ?_⟩
  · show swF (H 2 9) (H 2 10) (H 194 (16 + 8 * b + 7)) b
    rw [e9, e10]
    by_cases e : b = c'
    · subst e
      obtain ⟨z1, z2⟩ := q5 b (Nat.le_refl _) lt
      have z1' : bitB (h 2 9) b = false := z1
      have z2' : bitB (h 2 10) b = false := z2
      unfold swF
      rw [ey, z1', z2']
      rfl
    · rw [er _ (by omega) (by omega)]
      exact q4 b (by omega)
  · show bitB (H 2 9) b = false ∧ bitB (H 2 10) b = false
    rw [e9, e10]
    exact q5 b (by omega) h2
theorem sworn_set {h H : bH} {c c' : Nat} (q : pc_sworn.1 h 0 194) (hc : h 2 1 = (c : Int)) (lt : c' < c) (e1 : H 2 1 = h 2 1) (e2 : H 194 1 = h 194 1) (eb : ∀ b, b < 16 → b ≠ c' → bitB (H 2 9) b = bitB (h 2 9) b ∧ bitB (H 2 10) b = bitB (h 2 10) b) (ey : swF (H 2 9) (H 2 10) (H 194 (16 + 8 * c' + 7)) c') (er : ∀ j, j ≠ 16 + 8 * c' + 7 → H 194 j = h 194 j) : pc_sworn.1 H 0 194 := by
  obtain ⟨c9, q1, q2, q3, q4, q5⟩ := q
  have q1' : h 2 1 = (c9 : Int) := q1
  obtain rfl : c9 = c := by omega
  refine ⟨c9, e1.trans q1, e2.trans q2, q3, fun b hb => ?_, fun b h1 h2 => ?_⟩
  · by_cases e : b = c'
    · subst e; exact ey
    · obtain ⟨z1, z2⟩ := eb b (by omega) e
      have := q4 b hb
      show swF (H 2 9) (H 2 10) (H 194 (16 + 8 * b + 7)) b
      unfold swF at this ⊢
      rw [z1, z2, er _ (by omega)]
      exact this
  · obtain ⟨z1, z2⟩ := eb b h2 (by omega)
    have := q5 b h1 h2
    exact ⟨z1.trans this.1, z2.trans this.2⟩
def f_word (b : Nat) (z x y : Nat → Int) : Prop := (x 0) = (y 0) ∧ (x 1) = (y 2) ∧ (y 1) = (if bitB (z 0) b = true then 1 else 0)
theorem f_word_ok : recF 2 1 3 f_word := fun b z z' x x' y y' hz hx hy q => by
  unfold f_word at q ⊢
  rw [hx 0 (by decide), hx 1 (by decide), hy 0 (by decide), hy 1 (by decide), hy 2 (by decide), hz 0 (by decide)]
  exact q
def pc_word : Pc := recX (2, 11) 2 20 144 3 [10, 11] [(2, 12)] f_word
theorem pc_word_ok : PcOK pc_word := recX_ok f_word_ok
def gc_sheet : Gc := (fun h => (∀ s, s < 4 → (h 182 s = -1 ∧ h 205 s = -1) ∨ ∃ r : Nat, r < 8 ∧ h 205 s = (r : Int) ∧ 0 ≤ h 182 s ∧ h 206 r = h 182 s ∧ h 207 r = h 183 s ∧ ∀ i, i < 40 → h 208 (40 * r + i) = h (185 + s) i) ∧ ∀ s s', s < 4 → s' < 4 → s ≠ s' → h 205 s ≠ -1 → h 205 s ≠ h 205 s', [(182, 0, 4), (183, 0, 4), (185, 0, 40), (186, 0, 40), (187, 0, 40), (188, 0, 40), (205, 0, 4), (206, 0, 8), (207, 0, 8), (208, 0, 320)])
theorem gc_sheet_ok : GcOK gc_sheet := fun h h' hf q => by
  have w : ∀ {a lo hi j : Nat}, (a, lo, hi) ∈ gc_sheet.2 → lo ≤ j → j < hi → h' a j = h a j := fun hm h1 h2 => hf _ _ (wr_in hm h1 h2)
  have f2 : ∀ s, s < 4 → h' 182 s = h 182 s := fun s hs => w (lo := 0) (hi := 4) (by decide) (Nat.zero_le _) hs
  have f3 : ∀ s, s < 4 → h' 183 s = h 183 s := fun s hs => w (lo := 0) (hi := 4) (by decide) (Nat.zero_le _) hs
  have f5 : ∀ s, s < 4 → h' 205 s = h 205 s := fun s hs => w (lo := 0) (hi := 4) (by decide) (Nat.zero_le _) hs
  refine ⟨fun s hs => ?_, fun s s' hs hs' hn hm => ?_⟩
  · rw [f2 s hs, f3 s hs, f5 s hs]
    rcases q.1 s hs with e | ⟨r, e1, e2, e3, e4, e5, e6⟩
    · exact Or.inl e
    · refine Or.inr ⟨r, e1, e2, e3, ?_, ?_, fun i hi => ?_⟩
      · rw [w (a := 206) (lo := 0) (hi := 8) (by decide) (Nat.zero_le _) e1]; exact e4
      · rw [w (a := 207) (lo := 0) (hi := 8) (by decide) (Nat.zero_le _) e1]; exact e5
      · rw [w (a := 208) (lo := 0) (hi := 320) (by decide) (Nat.zero_le _) (by omega), hf (185 + s) i (hz_w185 (by decide) hs hi)]; exact e6 i hi
  · rw [f5 s hs] at hm ⊢
    rw [f5 s' hs']
    exact q.2 s s' hs hs' hn hm
/-- what the row of a sheet is -/
theorem shR {h : bH} (q : gc_sheet.1 h) {s : Nat} (hs : s < 4) : (h 182 s = -1 ∧ h 205 s = -1) ∨ (0 ≤ h 205 s ∧ h 205 s < 8 ∧ h 206 (h 205 s).toNat = h 182 s ∧ 0 ≤ h 182 s ∧ h 207 (h 205 s).toNat = h 183 s) := by
  rcases q.1 s hs with e | ⟨r, e1, e2, e3, e4, e5, e6⟩
  · exact Or.inl e
  · refine Or.inr ⟨by omega, by omega, ?_, e3, ?_⟩
    · rw [e2, Int.toNat_natCast]; exact e4
    · rw [e2, Int.toNat_natCast]; exact e5
theorem shI {h : bH} (q : gc_sheet.1 h) {s r : Nat} (hs : s < 4) (hr : h 205 s = (r : Int)) {i : Nat} (hi : i < 40) : h 208 (40 * r + i) = h (185 + s) i := by
  rcases q.1 s hs with e | ⟨r', e1, e2, e3, e4, e5, e6⟩
  · omega
  · obtain rfl : r' = r := by omega
    exact e6 i hi
theorem shD {h : bH} (q : gc_sheet.1 h) {s r : Nat} (hs : s < 4) (hr : h 205 s = (r : Int)) {k : Nat} (hk : k < 4) (hn : k ≠ s) : h 205 k ≠ (r : Int) := fun e => q.2 k s hk hs hn (by omega) (by rw [e, hr])
/-- one sheet and one row changed -/
theorem shS {h H : bH} (q : gc_sheet.1 h) {s r : Nat} (hs : s < 4) (fr : ∀ k, k < 4 → k ≠ s → h 205 k ≠ (r : Int)) (b1 : ∀ k, k < 4 → k ≠ s → H 182 k = h 182 k ∧ H 183 k = h 183 k ∧ H 205 k = h 205 k ∧ ∀ i, i < 40 → H (185 + k) i = h (185 + k) i) (b2 : ∀ k, k < 8 → k ≠ r → H 206 k = h 206 k ∧ H 207 k = h 207 k ∧ ∀ i, i < 40 → H 208 (40 * k + i) = h 208 (40 * k + i)) (b3 : (H 182 s = -1 ∧ H 205 s = -1) ∨ (r < 8 ∧ H 205 s = (r : Int) ∧ 0 ≤ H 182 s ∧ H 206 r = H 182 s ∧ H 207 r = H 183 s ∧ ∀ i, i < 40 → H 208 (40 * r + i) = H (185 + s) i)) : gc_sheet.1 H := by
  refine ⟨fun k hk => ?_, fun k k' hk hk' hn hm => ?_⟩
  · by_cases e : k = s
    · subst e
      rcases b3 with w | ⟨w0, w1, w2, w3, w4, w5⟩
      · exact Or.inl w
      · exact Or.inr ⟨r, w0, w1, w2, w3, w4, w5⟩
    · obtain ⟨c1, c2, c3, c4⟩ := b1 k hk e
      rw [c1, c2, c3]
      rcases q.1 k hk with w | ⟨r', w1, w2, w3, w4, w5, w6⟩
      · exact Or.inl w
      · obtain ⟨d1, d2, d3⟩ := b2 r' w1 (fun z => fr k hk e (by rw [w2, z]))
        exact Or.inr ⟨r', w1, w2, w3, d1.trans w4, d2.trans w5, fun i hi => (d3 i hi).trans ((w6 i hi).trans (c4 i hi).symm)⟩
  · by_cases e : k = s
    · subst e
      have e2 : k' ≠ k := fun z => hn z.symm
      rw [(b1 k' hk' e2).2.2.1]
      rcases b3 with w | ⟨w0, w1, _⟩
      · exact absurd w.2 hm
      · rw [w1]
        exact fun z => fr k' hk' e2 z.symm
    · rw [(b1 k hk e).2.2.1] at hm ⊢
      by_cases e2 : k' = s
      · subst e2
        rcases b3 with w | ⟨w0, w1, _⟩
        · rw [w.2]; exact hm
        · rw [w1]; exact fr k hk e
      · rw [(b1 k' hk' e2).2.2.1]
        exact q.2 k k' hk hk' hn hm
def PS : List Pc := [pc_now, pc_claim, pc_sworn, pc_word]
def GS : List Gc := [gc_sheet]
theorem PS_ok : ∀ c ∈ PS, PcOK c := (List.forall_mem_cons.mpr ⟨pc_now_ok, (List.forall_mem_cons.mpr ⟨pc_claim_ok, (List.forall_mem_cons.mpr ⟨pc_sworn_ok, (List.forall_mem_cons.mpr ⟨pc_word_ok, (fun _ hc => by cases hc)⟩)⟩)⟩)⟩)
theorem GS_ok : ∀ c ∈ GS, GcOK c := (List.forall_mem_cons.mpr ⟨gc_sheet_ok, (fun _ hc => by cases hc)⟩)
theorem rel_months {ρ : Nat → Int} {h h1 h2 : bH} {r1 r2 : Option bV} (q : RR PS GS h) (s1 : s_monthsB (evS ρ [(2, fcon 0), (0, fid 3)]) h r1 h1) (s2 : s_monthsM (evS ρ [(2, fcon 193), (0, fid 3)]) h1 r2 h2) : RR PS GS h2 ∧ r1 = r2 := by
  have ht : TH h := s1.1
  have hN : h 2 0 = h 194 0 := (q.2.1 pc_now (List.Mem.head _)).1
  have t1 := s1.2 (ρ 3) (h 2 0) (show [((2 : Nat), ev ρ (fcon 0)), (0, ev ρ (fid 3))] = [(2, ((0 : Nat) : Int)), (0, (ρ 3))] from by rw [fcon_ev, fid_ev]; rfl) rfl
  rcases t1 with ⟨k1, rfl, rfl⟩ | ⟨k1, rfl, rfl⟩ | ⟨k1, rfl, rfl⟩
  · have t2 := s2.2 (ρ 3) (h 2 0) (show [((2 : Nat), ev ρ (fcon 193)), (0, ev ρ (fid 3))] = [(2, ((193 : Nat) : Int)), (0, (ρ 3))] from by rw [fcon_ev, fid_ev]; rfl) hN.symm
    rcases t2 with ⟨k2, rfl, rfl⟩ | ⟨k2, rfl, rfl⟩ | ⟨k2, rfl, rfl⟩
    · exact ⟨q, rfl⟩
    · exfalso; omega
    · exfalso; omega
  · have t2 := s2.2 (ρ 3) (h 2 0) (show [((2 : Nat), ev ρ (fcon 193)), (0, ev ρ (fid 3))] = [(2, ((193 : Nat) : Int)), (0, (ρ 3))] from by rw [fcon_ev, fid_ev]; rfl) hN.symm
    rcases t2 with ⟨k2, rfl, rfl⟩ | ⟨k2, rfl, rfl⟩ | ⟨k2, rfl, rfl⟩
    · exfalso; omega
    · exact ⟨q, rfl⟩
    · exfalso; omega
  · have t2 := s2.2 (ρ 3) (h 2 0) (show [((2 : Nat), ev ρ (fcon 193)), (0, ev ρ (fid 3))] = [(2, ((193 : Nat) : Int)), (0, (ρ 3))] from by rw [fcon_ev, fid_ev]; rfl) ((hup_ne (by decide)).trans hN.symm)
    rcases t2 with ⟨k2, rfl, rfl⟩ | ⟨k2, rfl, rfl⟩ | ⟨k2, rfl, rfl⟩
    · exfalso; omega
    · exfalso; omega
    · skip
      obtain ⟨H, hH⟩ : ∃ H : bH, H = (hup (hup h 2 (0) (((h 2 0)) + ((ρ 3)))) 194 (0) (((h 2 0)) + ((ρ 3)))) := ⟨_, rfl⟩
      rw [← hH]
      have fr : ∀ a j, wrF (some [(2, 0, 1), (194, 0, 1)]) a j = false → H a j = h a j := by rw [hH]; exact (fr_up (fr_up (fun _ _ _ => rfl) (wr_in (lo := 0) (hi := 1) (by decide) (by omega) (by omega))) (wr_in (lo := 0) (hi := 1) (by decide) (by omega) (by omega)))
      have p_now : pc_now.1 H 0 194 := by
        show H 2 0 = H 194 0
        rw [hH]
        exact (((hup_ne (by decide)).trans hup_eq)).trans ((by omega : (_ : Int) = _).trans (hup_eq).symm)
      exact ⟨RR_op PS_ok GS_ok fr (by decide +kernel) (List.forall_mem_cons.mpr ⟨⟨by decide +kernel, Or.inr p_now⟩, (List.forall_mem_cons.mpr ⟨⟨by decide +kernel, Or.inl (by decide +kernel)⟩, (List.forall_mem_cons.mpr ⟨⟨by decide +kernel, Or.inl (by decide +kernel)⟩, (List.forall_mem_cons.mpr ⟨⟨by decide +kernel, Or.inl (by decide +kernel)⟩, (fun _ hc => by cases hc)⟩)⟩)⟩)⟩) (List.forall_mem_cons.mpr ⟨Or.inl (by decide +kernel), (fun _ hc => by cases hc)⟩) q, rfl⟩
theorem rel_sheet {ρ : Nat → Int} {h h1 h2 : bH} {r1 r2 : Option bV} (q : RR PS GS h) (s1 : s_sheetB (evS ρ [(2, fcon 0), (0, fid 3), (0, fid 4), (0, fid 5)]) h r1 h1) (s2 : s_sheetM (evS ρ [(2, fcon 193), (0, fid 3), (0, fid 4), (0, fid 5)]) h1 r2 h2) : RR PS GS h2 ∧ r1 = r2 := by
  have ht : TH h := s1.1
  have qs : gc_sheet.1 h := q.2.2 gc_sheet (List.Mem.head _)
  have rl : ¬ (0 ≤ ρ 3 ∧ ρ 3 ≤ 3) ∨ (h 182 (ρ 3).toNat = -1 ∧ h 205 (ρ 3).toNat = -1) ∨ (0 ≤ h 205 (ρ 3).toNat ∧ h 205 (ρ 3).toNat < 8 ∧ h 206 (h 205 (ρ 3).toNat).toNat = h 182 (ρ 3).toNat ∧ 0 ≤ h 182 (ρ 3).toNat ∧ h 207 (h 205 (ρ 3).toNat).toNat = h 183 (ρ 3).toNat) := by
    by_cases e : 0 ≤ ρ 3 ∧ ρ 3 ≤ 3
    · exact Or.inr (shR qs (by omega))
    · exact Or.inl e
  have t1 := s1.2 (ρ 3) (ρ 4) (ρ 5) (show [((2 : Nat), ev ρ (fcon 0)), (0, ev ρ (fid 3)), (0, ev ρ (fid 4)), (0, ev ρ (fid 5))] = [(2, ((0 : Nat) : Int)), (0, (ρ 3)), (0, (ρ 4)), (0, (ρ 5))] from by rw [fcon_ev, fid_ev, fid_ev, fid_ev]; rfl)
  rcases t1 with ⟨k1, rfl, rfl⟩ | ⟨k1, rfl, rfl⟩ | ⟨k1, rfl, rfl⟩ | ⟨k1, rfl, rfl⟩
  · have t2 := s2.2 (ρ 3) (ρ 4) (ρ 5) (show [((2 : Nat), ev ρ (fcon 193)), (0, ev ρ (fid 3)), (0, ev ρ (fid 4)), (0, ev ρ (fid 5))] = [(2, ((193 : Nat) : Int)), (0, (ρ 3)), (0, (ρ 4)), (0, (ρ 5))] from by rw [fcon_ev, fid_ev, fid_ev, fid_ev]; rfl)
    rcases t2 with ⟨k2, rfl, rfl⟩ | ⟨k2, rfl, rfl⟩ | ⟨k2, rfl, rfl⟩ | ⟨rr, hP, k2, rfl, rfl⟩
    · exact ⟨q, rfl⟩
    · exfalso; omega
    · exfalso; omega
    · exfalso; omega
  · have t2 := s2.2 (ρ 3) (ρ 4) (ρ 5) (show [((2 : Nat), ev ρ (fcon 193)), (0, ev ρ (fid 3)), (0, ev ρ (fid 4)), (0, ev ρ (fid 5))] = [(2, ((193 : Nat) : Int)), (0, (ρ 3)), (0, (ρ 4)), (0, (ρ 5))] from by rw [fcon_ev, fid_ev, fid_ev, fid_ev]; rfl)
    rcases t2 with ⟨k2, rfl, rfl⟩ | ⟨k2, rfl, rfl⟩ | ⟨k2, rfl, rfl⟩ | ⟨rr, hP, k2, rfl, rfl⟩
    · exfalso; omega
    · exact ⟨q, rfl⟩
    · exfalso; omega
    · exfalso; omega
  · have t2 := s2.2 (ρ 3) (ρ 4) (ρ 5) (show [((2 : Nat), ev ρ (fcon 193)), (0, ev ρ (fid 3)), (0, ev ρ (fid 4)), (0, ev ρ (fid 5))] = [(2, ((193 : Nat) : Int)), (0, (ρ 3)), (0, (ρ 4)), (0, (ρ 5))] from by rw [fcon_ev, fid_ev, fid_ev, fid_ev]; rfl)
    rcases t2 with ⟨k2, rfl, rfl⟩ | ⟨k2, rfl, rfl⟩ | ⟨k2, rfl, rfl⟩ | ⟨rr, hP, k2, rfl, rfl⟩
    · exfalso; omega
    · exfalso; omega
    · skip
      obtain ⟨s', e_s9⟩ : ∃ q : Nat, (ρ 3).toNat = q := ⟨_, rfl⟩
      rw [e_s9]
      obtain ⟨H, hH⟩ : ∃ H : bH, H = (hup (hz (hup (hup h 182 (s') (ρ 4)) 183 (s') 0) (185 + s') (0) 40) 205 (s') (-1)) := ⟨_, rfl⟩
      rw [← hH]
      have fr : ∀ a j, wrF (some [(182, 0, 4), (183, 0, 4), (185, 0, 40), (186, 0, 40), (187, 0, 40), (188, 0, 40), (205, 0, 4)]) a j = false → H a j = h a j := by rw [hH]; exact (fr_up (fr_hz (fr_up (fr_up (fun _ _ _ => rfl) (wr_in (lo := 0) (hi := 4) (by decide) (by omega) (by omega))) (wr_in (lo := 0) (hi := 4) (by decide) (by omega) (by omega))) (fun j j1 j2 => (hz_w185 (by decide) (by omega) (by omega)))) (wr_in (lo := 0) (hi := 4) (by decide) (by omega) (by omega)))
      have p_sheet : gc_sheet.1 H := by
        have g2 : H 182 s' = ρ 4 := by rw [hH]; exact ((hup_ne (by decide)).trans ((hz_ne (by omega)).trans ((hup_ne (by decide)).trans hup_eq)))
        refine shS qs (s := s') (r := 8) (by omega) (fun k hk hne e => by have := ty_205_s0 ht (j := k) (r := k) (by omega) (by omega); omega) (fun k hk hne => ⟨(by rw [hH]; exact ((hup_ne (by decide)).trans ((hz_ne (by omega)).trans ((hup_ne (by decide)).trans (hup_nj (by omega)))))), (by rw [hH]; exact ((hup_ne (by decide)).trans ((hz_ne (by omega)).trans ((hup_nj (by omega)).trans (hup_ne (by decide)))))), (by rw [hH]; exact ((hup_nj (by omega)).trans ((hz_ne (by omega)).trans ((hup_ne (by decide)).trans (hup_ne (by decide)))))), fun i hi => (by rw [hH]; exact ((hup_ne (by omega)).trans ((hz_ne (by omega)).trans ((hup_ne (by omega)).trans (hup_ne (by omega))))))⟩) (fun k hk hne => ⟨(by rw [hH]; exact ((hup_ne (by decide)).trans ((hz_ne (by omega)).trans ((hup_ne (by decide)).trans (hup_ne (by decide)))))), (by rw [hH]; exact ((hup_ne (by decide)).trans ((hz_ne (by omega)).trans ((hup_ne (by decide)).trans (hup_ne (by decide)))))), fun i hi => (by rw [hH]; exact ((hup_ne (by decide)).trans ((hz_ne (by omega)).trans ((hup_ne (by decide)).trans (hup_ne (by decide))))))⟩) (Or.inl ⟨by omega, (by rw [hH]; exact hup_eq)⟩)
      exact ⟨RR_op PS_ok GS_ok fr (by decide +kernel) (List.forall_mem_cons.mpr ⟨⟨by decide +kernel, Or.inl (by decide +kernel)⟩, (List.forall_mem_cons.mpr ⟨⟨by decide +kernel, Or.inl (by decide +kernel)⟩, (List.forall_mem_cons.mpr ⟨⟨by decide +kernel, Or.inl (by decide +kernel)⟩, (List.forall_mem_cons.mpr ⟨⟨by decide +kernel, Or.inl (by decide +kernel)⟩, (fun _ hc => by cases hc)⟩)⟩)⟩)⟩) (List.forall_mem_cons.mpr ⟨Or.inr p_sheet, (fun _ hc => by cases hc)⟩) q, rfl⟩
    · exfalso; omega
  · have t2 := s2.2 (ρ 3) (ρ 4) (ρ 5) (show [((2 : Nat), ev ρ (fcon 193)), (0, ev ρ (fid 3)), (0, ev ρ (fid 4)), (0, ev ρ (fid 5))] = [(2, ((193 : Nat) : Int)), (0, (ρ 3)), (0, (ρ 4)), (0, (ρ 5))] from by rw [fcon_ev, fid_ev, fid_ev, fid_ev]; rfl)
    rcases t2 with ⟨k2, rfl, rfl⟩ | ⟨k2, rfl, rfl⟩ | ⟨k2, rfl, rfl⟩ | ⟨rr, hP, k2, rfl, rfl⟩
    · exfalso; omega
    · exfalso; omega
    · exfalso; omega
    · skip
      obtain ⟨s', e_s9⟩ : ∃ q : Nat, (ρ 3).toNat = q := ⟨_, rfl⟩
      rw [e_s9]
      obtain ⟨H, hH⟩ : ∃ H : bH, H = (hz (hup (hup (hup (hup (hz (hup (hup h 182 (s') (ρ 4)) 183 (s') (ρ 5)) (185 + s') (0) 40) 205 (s') (-1)) 205 (s') ((rr : Nat) : Int)) 206 (rr) (ρ 4)) 207 (rr) (ρ 5)) (208) ((40 * rr) + 0) 40) := ⟨_, rfl⟩
      rw [← hH]
      have fr : ∀ a j, wrF (some [(182, 0, 4), (183, 0, 4), (185, 0, 40), (186, 0, 40), (187, 0, 40), (188, 0, 40), (205, 0, 4), (206, 0, 8), (207, 0, 8), (208, 0, 320)]) a j = false → H a j = h a j := by rw [hH]; exact (fr_hz (fr_up (fr_up (fr_up (fr_up (fr_hz (fr_up (fr_up (fun _ _ _ => rfl) (wr_in (lo := 0) (hi := 4) (by decide) (by omega) (by omega))) (wr_in (lo := 0) (hi := 4) (by decide) (by omega) (by omega))) (fun j j1 j2 => (hz_w185 (by decide) (by omega) (by omega)))) (wr_in (lo := 0) (hi := 4) (by decide) (by omega) (by omega))) (wr_in (lo := 0) (hi := 4) (by decide) (by omega) (by omega))) (wr_in (lo := 0) (hi := 8) (by decide) (by omega) (by omega))) (wr_in (lo := 0) (hi := 8) (by decide) (by omega) (by omega))) (fun j j1 j2 => (wr_in (lo := 0) (hi := 320) (by decide) (by omega) (by omega))))
      have p_sheet : gc_sheet.1 H := by
        have g2 : H 182 s' = ρ 4 := by rw [hH]; exact ((hz_ne (by omega)).trans ((hup_ne (by decide)).trans ((hup_ne (by decide)).trans ((hup_ne (by decide)).trans ((hup_ne (by decide)).trans ((hz_ne (by omega)).trans ((hup_ne (by decide)).trans hup_eq)))))))
        have g3 : H 183 s' = ρ 5 := by rw [hH]; exact ((hz_ne (by omega)).trans ((hup_ne (by decide)).trans ((hup_ne (by decide)).trans ((hup_ne (by decide)).trans ((hup_ne (by decide)).trans ((hz_ne (by omega)).trans hup_eq))))))
        have g6 : H 206 rr = ρ 4 := by rw [hH]; exact ((hz_ne (by omega)).trans ((hup_ne (by decide)).trans hup_eq))
        have g7 : H 207 rr = ρ 5 := by rw [hH]; exact ((hz_ne (by omega)).trans hup_eq)
        refine shS qs (s := s') (r := rr) (by omega) (fun k hk hne e => hP.2 k hk (by omega) (((hz_ne (by omega)).trans ((hup_ne (by decide)).trans (hup_ne (by decide)))).trans e)) (fun k hk hne => ⟨(by rw [hH]; exact ((hz_ne (by omega)).trans ((hup_ne (by decide)).trans ((hup_ne (by decide)).trans ((hup_ne (by decide)).trans ((hup_ne (by decide)).trans ((hz_ne (by omega)).trans ((hup_ne (by decide)).trans (hup_nj (by omega)))))))))), (by rw [hH]; exact ((hz_ne (by omega)).trans ((hup_ne (by decide)).trans ((hup_ne (by decide)).trans ((hup_ne (by decide)).trans ((hup_ne (by decide)).trans ((hz_ne (by omega)).trans ((hup_nj (by omega)).trans (hup_ne (by decide)))))))))), (by rw [hH]; exact ((hz_ne (by omega)).trans ((hup_ne (by decide)).trans ((hup_ne (by decide)).trans ((hup_nj (by omega)).trans ((hup_nj (by omega)).trans ((hz_ne (by omega)).trans ((hup_ne (by decide)).trans (hup_ne (by decide)))))))))), fun i hi => (by rw [hH]; exact ((hz_ne (by omega)).trans ((hup_ne (by omega)).trans ((hup_ne (by omega)).trans ((hup_ne (by omega)).trans ((hup_ne (by omega)).trans ((hz_ne (by omega)).trans ((hup_ne (by omega)).trans (hup_ne (by omega))))))))))⟩) (fun k hk hne => ⟨(by rw [hH]; exact ((hz_ne (by omega)).trans ((hup_ne (by decide)).trans ((hup_nj (by omega)).trans ((hup_ne (by decide)).trans ((hup_ne (by decide)).trans ((hz_ne (by omega)).trans ((hup_ne (by decide)).trans (hup_ne (by decide)))))))))), (by rw [hH]; exact ((hz_ne (by omega)).trans ((hup_nj (by omega)).trans ((hup_ne (by decide)).trans ((hup_ne (by decide)).trans ((hup_ne (by decide)).trans ((hz_ne (by omega)).trans ((hup_ne (by decide)).trans (hup_ne (by decide)))))))))), fun i hi => (by rw [hH]; exact ((hz_ne (by omega)).trans ((hup_ne (by decide)).trans ((hup_ne (by decide)).trans ((hup_ne (by decide)).trans ((hup_ne (by decide)).trans ((hz_ne (by omega)).trans ((hup_ne (by decide)).trans (hup_ne (by decide))))))))))⟩) (Or.inr ⟨hP.1, (by rw [hH]; exact ((hz_ne (by omega)).trans ((hup_ne (by decide)).trans ((hup_ne (by decide)).trans hup_eq)))), by omega, by omega, by omega, fun i hi => ?_⟩)
        have y1 : H 208 (40 * rr + i) = 0 := by rw [hH]; exact (hz_in (by omega) (by omega))
        have y2 : H (185 + s') i = 0 := by rw [hH]; exact ((hz_ne (by omega)).trans ((hup_ne (by omega)).trans ((hup_ne (by omega)).trans ((hup_ne (by omega)).trans ((hup_ne (by omega)).trans (hz_in (by omega) (by omega)))))))
        rw [y1, y2]
      exact ⟨RR_op PS_ok GS_ok fr (by decide +kernel) (List.forall_mem_cons.mpr ⟨⟨by decide +kernel, Or.inl (by decide +kernel)⟩, (List.forall_mem_cons.mpr ⟨⟨by decide +kernel, Or.inl (by decide +kernel)⟩, (List.forall_mem_cons.mpr ⟨⟨by decide +kernel, Or.inl (by decide +kernel)⟩, (List.forall_mem_cons.mpr ⟨⟨by decide +kernel, Or.inl (by decide +kernel)⟩, (fun _ hc => by cases hc)⟩)⟩)⟩)⟩) (List.forall_mem_cons.mpr ⟨Or.inr p_sheet, (fun _ hc => by cases hc)⟩) q, rfl⟩
theorem rel_put {ρ : Nat → Int} {h h1 h2 : bH} {r1 r2 : Option bV} (q : RR PS GS h) (s1 : s_putB (evS ρ [(2, fcon 0), (0, fid 3), (0, fid 4), (0, fid 5)]) h r1 h1) (s2 : s_putM (evS ρ [(2, fcon 193), (0, fid 3), (0, fid 4), (0, fid 5)]) h1 r2 h2) : RR PS GS h2 ∧ r1 = r2 := by
  have ht : TH h := s1.1
  have qs : gc_sheet.1 h := q.2.2 gc_sheet (List.Mem.head _)
  have rl : ¬ (0 ≤ ρ 3 ∧ ρ 3 ≤ 3) ∨ (h 182 (ρ 3).toNat = -1 ∧ h 205 (ρ 3).toNat = -1) ∨ (0 ≤ h 205 (ρ 3).toNat ∧ h 205 (ρ 3).toNat < 8 ∧ h 206 (h 205 (ρ 3).toNat).toNat = h 182 (ρ 3).toNat ∧ 0 ≤ h 182 (ρ 3).toNat ∧ h 207 (h 205 (ρ 3).toNat).toNat = h 183 (ρ 3).toNat) := by
    by_cases e : 0 ≤ ρ 3 ∧ ρ 3 ≤ 3
    · exact Or.inr (shR qs (by omega))
    · exact Or.inl e
  have t1 := s1.2 (ρ 3) (ρ 4) (ρ 5) (h 182 (ρ 3).toNat) (h 183 (ρ 3).toNat) (show [((2 : Nat), ev ρ (fcon 0)), (0, ev ρ (fid 3)), (0, ev ρ (fid 4)), (0, ev ρ (fid 5))] = [(2, ((0 : Nat) : Int)), (0, (ρ 3)), (0, (ρ 4)), (0, (ρ 5))] from by rw [fcon_ev, fid_ev, fid_ev, fid_ev]; rfl) rfl rfl
  rcases t1 with ⟨k1, rfl, rfl⟩ | ⟨k1, rfl, rfl⟩ | ⟨k1, rfl, rfl⟩ | ⟨k1, rfl, rfl⟩ | ⟨k1, rfl, rfl⟩ | ⟨k1, rfl, rfl⟩
  · have t2 := s2.2 (ρ 3) (ρ 4) (ρ 5) (h 205 (ρ 3).toNat) (h 206 (h 205 (ρ 3).toNat).toNat) (h 207 (h 205 (ρ 3).toNat).toNat) (show [((2 : Nat), ev ρ (fcon 193)), (0, ev ρ (fid 3)), (0, ev ρ (fid 4)), (0, ev ρ (fid 5))] = [(2, ((193 : Nat) : Int)), (0, (ρ 3)), (0, (ρ 4)), (0, (ρ 5))] from by rw [fcon_ev, fid_ev, fid_ev, fid_ev]; rfl) rfl rfl rfl
    rcases t2 with ⟨k2, rfl, rfl⟩ | ⟨k2, rfl, rfl⟩ | ⟨k2, rfl, rfl⟩ | ⟨k2, rfl, rfl⟩ | ⟨k2, rfl, rfl⟩ | ⟨k2, rfl, rfl⟩
    · exact ⟨q, rfl⟩
    · exfalso; omega
    · exfalso; omega
    · exfalso; omega
    · exfalso; omega
    · exfalso; omega
  · have t2 := s2.2 (ρ 3) (ρ 4) (ρ 5) (h 205 (ρ 3).toNat) (h 206 (h 205 (ρ 3).toNat).toNat) (h 207 (h 205 (ρ 3).toNat).toNat) (show [((2 : Nat), ev ρ (fcon 193)), (0, ev ρ (fid 3)), (0, ev ρ (fid 4)), (0, ev ρ (fid 5))] = [(2, ((193 : Nat) : Int)), (0, (ρ 3)), (0, (ρ 4)), (0, (ρ 5))] from by rw [fcon_ev, fid_ev, fid_ev, fid_ev]; rfl) rfl rfl rfl
    rcases t2 with ⟨k2, rfl, rfl⟩ | ⟨k2, rfl, rfl⟩ | ⟨k2, rfl, rfl⟩ | ⟨k2, rfl, rfl⟩ | ⟨k2, rfl, rfl⟩ | ⟨k2, rfl, rfl⟩
    · exfalso; omega
    · exact ⟨q, rfl⟩
    · exfalso; omega
    · exfalso; omega
    · exfalso; omega
    · exfalso; omega
  · have t2 := s2.2 (ρ 3) (ρ 4) (ρ 5) (h 205 (ρ 3).toNat) (h 206 (h 205 (ρ 3).toNat).toNat) (h 207 (h 205 (ρ 3).toNat).toNat) (show [((2 : Nat), ev ρ (fcon 193)), (0, ev ρ (fid 3)), (0, ev ρ (fid 4)), (0, ev ρ (fid 5))] = [(2, ((193 : Nat) : Int)), (0, (ρ 3)), (0, (ρ 4)), (0, (ρ 5))] from by rw [fcon_ev, fid_ev, fid_ev, fid_ev]; rfl) rfl rfl rfl
    rcases t2 with ⟨k2, rfl, rfl⟩ | ⟨k2, rfl, rfl⟩ | ⟨k2, rfl, rfl⟩ | ⟨k2, rfl, rfl⟩ | ⟨k2, rfl, rfl⟩ | ⟨k2, rfl, rfl⟩
    · exfalso; omega
    · exfalso; omega
    · exact ⟨q, rfl⟩
    · exfalso; omega
    · exfalso; omega
    · exfalso; omega
  · have t2 := s2.2 (ρ 3) (ρ 4) (ρ 5) (h 205 (ρ 3).toNat) (h 206 (h 205 (ρ 3).toNat).toNat) (h 207 (h 205 (ρ 3).toNat).toNat) (show [((2 : Nat), ev ρ (fcon 193)), (0, ev ρ (fid 3)), (0, ev ρ (fid 4)), (0, ev ρ (fid 5))] = [(2, ((193 : Nat) : Int)), (0, (ρ 3)), (0, (ρ 4)), (0, (ρ 5))] from by rw [fcon_ev, fid_ev, fid_ev, fid_ev]; rfl) ((hup_ne (by omega)).trans rfl) ((hup_ne (by omega)).trans rfl) ((hup_ne (by omega)).trans rfl)
    rcases t2 with ⟨k2, rfl, rfl⟩ | ⟨k2, rfl, rfl⟩ | ⟨k2, rfl, rfl⟩ | ⟨k2, rfl, rfl⟩ | ⟨k2, rfl, rfl⟩ | ⟨k2, rfl, rfl⟩
    · exfalso; omega
    · exfalso; omega
    · exfalso; omega
    · skip
      obtain ⟨s', e_s9⟩ : ∃ q : Nat, (ρ 3).toNat = q := ⟨_, rfl⟩
      rw [e_s9]
      obtain ⟨i', e_i9⟩ : ∃ q : Nat, (ρ 4).toNat = q := ⟨_, rfl⟩
      rw [e_i9]
      obtain ⟨r', e_r9⟩ : ∃ q : Nat, (h 205 s').toNat = q := ⟨_, rfl⟩
      rw [e_r9]
      have a5 : h 205 (ρ 3).toNat = h 205 s' := by rw [e_s9]
      have a2 : h 182 (ρ 3).toNat = h 182 s' := by rw [e_s9]
      have a3 : h 183 (ρ 3).toNat = h 183 s' := by rw [e_s9]
      have e183 := ty_183_s0 ht (j := (ρ 3).toNat) (r := (ρ 3).toNat) (by omega) (by omega)
      obtain ⟨H, hH⟩ : ∃ H : bH, H = (hup (hup h (185 + s') (i') (Int.bmod ((ρ 5)) 256)) 208 (((40 * r') + i')) (Int.bmod ((ρ 5)) 256)) := ⟨_, rfl⟩
      rw [← hH]
      have fr : ∀ a j, wrF (some [(185, 0, 40), (186, 0, 40), (187, 0, 40), (188, 0, 40), (208, 0, 320)]) a j = false → H a j = h a j := by rw [hH]; exact (fr_up (fr_up (fun _ _ _ => rfl) (hz_w185 (by decide) (by omega) (by omega))) (wr_in (lo := 0) (hi := 320) (by decide) (by omega) (by omega)))
      have p_sheet : gc_sheet.1 H := by
        have hr5 : h 205 s' = ((r' : Nat) : Int) := by omega
        have e6 : h 206 r' = h 182 s' := by have := rl; rw [e_s9, e_r9] at this; omega
        have e7 : h 207 r' = h 183 s' := by have := rl; rw [e_s9, e_r9] at this; omega
        have e8 : 0 ≤ h 182 s' := by have := rl; rw [e_s9, e_r9] at this; omega
        have g2 : H 182 s' = h 182 s' := by rw [hH]; exact ((hup_ne (by decide)).trans (hup_ne (by omega)))
        have g3 : H 183 s' = h 183 s' := by rw [hH]; exact ((hup_ne (by decide)).trans (hup_ne (by omega)))
        have g5 : H 205 s' = h 205 s' := by rw [hH]; exact ((hup_ne (by decide)).trans (hup_ne (by omega)))
        have g6 : H 206 r' = h 206 r' := by rw [hH]; exact ((hup_ne (by decide)).trans (hup_ne (by omega)))
        have g7 : H 207 r' = h 207 r' := by rw [hH]; exact ((hup_ne (by decide)).trans (hup_ne (by omega)))
        refine shS qs (s := s') (r := r') (by omega) (fun k hk hne => shD qs (by omega) hr5 hk hne) (fun k hk hne => ⟨(by rw [hH]; exact ((hup_ne (by decide)).trans (hup_ne (by omega)))), (by rw [hH]; exact ((hup_ne (by decide)).trans (hup_ne (by omega)))), (by rw [hH]; exact ((hup_ne (by decide)).trans (hup_ne (by omega)))), fun i hi => (by rw [hH]; exact ((hup_ne (by omega)).trans (hup_ne (by omega))))⟩) (fun k hk hne => ⟨(by rw [hH]; exact ((hup_ne (by decide)).trans (hup_ne (by omega)))), (by rw [hH]; exact ((hup_ne (by decide)).trans (hup_ne (by omega)))), fun i hi => (by rw [hH]; exact ((hup_nj (by omega)).trans (hup_ne (by omega))))⟩) (Or.inr ⟨by omega, by omega, by omega, by omega, by omega, fun i hi => ?_⟩)
        by_cases e : i = i'
        · subst e
          have y1 : H 208 (40 * r' + i) = (Int.bmod ((ρ 5)) 256) := by rw [hH]; exact hup_eq
          have y2 : H (185 + s') i = (Int.bmod ((ρ 5)) 256) := by rw [hH]; exact ((hup_ne (by omega)).trans hup_eq)
          rw [y1, y2]
        · have y1 : H 208 (40 * r' + i) = h 208 (40 * r' + i) := by rw [hH]; exact ((hup_nj (by omega)).trans (hup_ne (by omega)))
          have y2 : H (185 + s') i = h (185 + s') i := by rw [hH]; exact ((hup_ne (by omega)).trans (hup_nj (by omega)))
          rw [y1, y2]
          exact shI qs (by omega) hr5 hi
      exact ⟨RR_op PS_ok GS_ok fr (by decide +kernel) (List.forall_mem_cons.mpr ⟨⟨by decide +kernel, Or.inl (by decide +kernel)⟩, (List.forall_mem_cons.mpr ⟨⟨by decide +kernel, Or.inl (by decide +kernel)⟩, (List.forall_mem_cons.mpr ⟨⟨by decide +kernel, Or.inl (by decide +kernel)⟩, (List.forall_mem_cons.mpr ⟨⟨by decide +kernel, Or.inl (by decide +kernel)⟩, (fun _ hc => by cases hc)⟩)⟩)⟩)⟩) (List.forall_mem_cons.mpr ⟨Or.inr p_sheet, (fun _ hc => by cases hc)⟩) q, rfl⟩
    · exfalso; omega
    · exfalso; omega
  · have t2 := s2.2 (ρ 3) (ρ 4) (ρ 5) (h 205 (ρ 3).toNat) (h 206 (h 205 (ρ 3).toNat).toNat) (h 207 (h 205 (ρ 3).toNat).toNat) (show [((2 : Nat), ev ρ (fcon 193)), (0, ev ρ (fid 3)), (0, ev ρ (fid 4)), (0, ev ρ (fid 5))] = [(2, ((193 : Nat) : Int)), (0, (ρ 3)), (0, (ρ 4)), (0, (ρ 5))] from by rw [fcon_ev, fid_ev, fid_ev, fid_ev]; rfl) ((hup_ne (by omega)).trans rfl) ((hup_ne (by omega)).trans rfl) ((hup_ne (by omega)).trans rfl)
    rcases t2 with ⟨k2, rfl, rfl⟩ | ⟨k2, rfl, rfl⟩ | ⟨k2, rfl, rfl⟩ | ⟨k2, rfl, rfl⟩ | ⟨k2, rfl, rfl⟩ | ⟨k2, rfl, rfl⟩
    · exfalso; omega
    · exfalso; omega
    · exfalso; omega
    · exfalso; omega
    · skip
      obtain ⟨s', e_s9⟩ : ∃ q : Nat, (ρ 3).toNat = q := ⟨_, rfl⟩
      rw [e_s9]
      obtain ⟨i', e_i9⟩ : ∃ q : Nat, (ρ 4).toNat = q := ⟨_, rfl⟩
      rw [e_i9]
      obtain ⟨r', e_r9⟩ : ∃ q : Nat, (h 205 s').toNat = q := ⟨_, rfl⟩
      rw [e_r9]
      have a5 : h 205 (ρ 3).toNat = h 205 s' := by rw [e_s9]
      have a2 : h 182 (ρ 3).toNat = h 182 s' := by rw [e_s9]
      have a3 : h 183 (ρ 3).toNat = h 183 s' := by rw [e_s9]
      have e183 := ty_183_s0 ht (j := (ρ 3).toNat) (r := (ρ 3).toNat) (by omega) (by omega)
      obtain ⟨H, hH⟩ : ∃ H : bH, H = (hup (hup h (185 + s') (i') (Int.bmod ((ρ 5)) 65536)) 208 (((40 * r') + i')) (Int.bmod ((ρ 5)) 65536)) := ⟨_, rfl⟩
      rw [← hH]
      have fr : ∀ a j, wrF (some [(185, 0, 40), (186, 0, 40), (187, 0, 40), (188, 0, 40), (208, 0, 320)]) a j = false → H a j = h a j := by rw [hH]; exact (fr_up (fr_up (fun _ _ _ => rfl) (hz_w185 (by decide) (by omega) (by omega))) (wr_in (lo := 0) (hi := 320) (by decide) (by omega) (by omega)))
      have p_sheet : gc_sheet.1 H := by
        have hr5 : h 205 s' = ((r' : Nat) : Int) := by omega
        have e6 : h 206 r' = h 182 s' := by have := rl; rw [e_s9, e_r9] at this; omega
        have e7 : h 207 r' = h 183 s' := by have := rl; rw [e_s9, e_r9] at this; omega
        have e8 : 0 ≤ h 182 s' := by have := rl; rw [e_s9, e_r9] at this; omega
        have g2 : H 182 s' = h 182 s' := by rw [hH]; exact ((hup_ne (by decide)).trans (hup_ne (by omega)))
        have g3 : H 183 s' = h 183 s' := by rw [hH]; exact ((hup_ne (by decide)).trans (hup_ne (by omega)))
        have g5 : H 205 s' = h 205 s' := by rw [hH]; exact ((hup_ne (by decide)).trans (hup_ne (by omega)))
        have g6 : H 206 r' = h 206 r' := by rw [hH]; exact ((hup_ne (by decide)).trans (hup_ne (by omega)))
        have g7 : H 207 r' = h 207 r' := by rw [hH]; exact ((hup_ne (by decide)).trans (hup_ne (by omega)))
        refine shS qs (s := s') (r := r') (by omega) (fun k hk hne => shD qs (by omega) hr5 hk hne) (fun k hk hne => ⟨(by rw [hH]; exact ((hup_ne (by decide)).trans (hup_ne (by omega)))), (by rw [hH]; exact ((hup_ne (by decide)).trans (hup_ne (by omega)))), (by rw [hH]; exact ((hup_ne (by decide)).trans (hup_ne (by omega)))), fun i hi => (by rw [hH]; exact ((hup_ne (by omega)).trans (hup_ne (by omega))))⟩) (fun k hk hne => ⟨(by rw [hH]; exact ((hup_ne (by decide)).trans (hup_ne (by omega)))), (by rw [hH]; exact ((hup_ne (by decide)).trans (hup_ne (by omega)))), fun i hi => (by rw [hH]; exact ((hup_nj (by omega)).trans (hup_ne (by omega))))⟩) (Or.inr ⟨by omega, by omega, by omega, by omega, by omega, fun i hi => ?_⟩)
        by_cases e : i = i'
        · subst e
          have y1 : H 208 (40 * r' + i) = (Int.bmod ((ρ 5)) 65536) := by rw [hH]; exact hup_eq
          have y2 : H (185 + s') i = (Int.bmod ((ρ 5)) 65536) := by rw [hH]; exact ((hup_ne (by omega)).trans hup_eq)
          rw [y1, y2]
        · have y1 : H 208 (40 * r' + i) = h 208 (40 * r' + i) := by rw [hH]; exact ((hup_nj (by omega)).trans (hup_ne (by omega)))
          have y2 : H (185 + s') i = h (185 + s') i := by rw [hH]; exact ((hup_ne (by omega)).trans (hup_nj (by omega)))
          rw [y1, y2]
          exact shI qs (by omega) hr5 hi
      exact ⟨RR_op PS_ok GS_ok fr (by decide +kernel) (List.forall_mem_cons.mpr ⟨⟨by decide +kernel, Or.inl (by decide +kernel)⟩, (List.forall_mem_cons.mpr ⟨⟨by decide +kernel, Or.inl (by decide +kernel)⟩, (List.forall_mem_cons.mpr ⟨⟨by decide +kernel, Or.inl (by decide +kernel)⟩, (List.forall_mem_cons.mpr ⟨⟨by decide +kernel, Or.inl (by decide +kernel)⟩, (fun _ hc => by cases hc)⟩)⟩)⟩)⟩) (List.forall_mem_cons.mpr ⟨Or.inr p_sheet, (fun _ hc => by cases hc)⟩) q, rfl⟩
    · exfalso; omega
  · have t2 := s2.2 (ρ 3) (ρ 4) (ρ 5) (h 205 (ρ 3).toNat) (h 206 (h 205 (ρ 3).toNat).toNat) (h 207 (h 205 (ρ 3).toNat).toNat) (show [((2 : Nat), ev ρ (fcon 193)), (0, ev ρ (fid 3)), (0, ev ρ (fid 4)), (0, ev ρ (fid 5))] = [(2, ((193 : Nat) : Int)), (0, (ρ 3)), (0, (ρ 4)), (0, (ρ 5))] from by rw [fcon_ev, fid_ev, fid_ev, fid_ev]; rfl) ((hup_ne (by omega)).trans rfl) ((hup_ne (by omega)).trans rfl) ((hup_ne (by omega)).trans rfl)
    rcases t2 with ⟨k2, rfl, rfl⟩ | ⟨k2, rfl, rfl⟩ | ⟨k2, rfl, rfl⟩ | ⟨k2, rfl, rfl⟩ | ⟨k2, rfl, rfl⟩ | ⟨k2, rfl, rfl⟩
    · exfalso; omega
    · exfalso; omega
    · exfalso; omega
    · exfalso; omega
    · exfalso; omega
    · skip
      obtain ⟨s', e_s9⟩ : ∃ q : Nat, (ρ 3).toNat = q := ⟨_, rfl⟩
      rw [e_s9]
      obtain ⟨i', e_i9⟩ : ∃ q : Nat, (ρ 4).toNat = q := ⟨_, rfl⟩
      rw [e_i9]
      obtain ⟨r', e_r9⟩ : ∃ q : Nat, (h 205 s').toNat = q := ⟨_, rfl⟩
      rw [e_r9]
      have a5 : h 205 (ρ 3).toNat = h 205 s' := by rw [e_s9]
      have a2 : h 182 (ρ 3).toNat = h 182 s' := by rw [e_s9]
      have a3 : h 183 (ρ 3).toNat = h 183 s' := by rw [e_s9]
      have e183 := ty_183_s0 ht (j := (ρ 3).toNat) (r := (ρ 3).toNat) (by omega) (by omega)
      obtain ⟨H, hH⟩ : ∃ H : bH, H = (hup (hup h (185 + s') (i') ((ρ 5))) 208 (((40 * r') + i')) ((ρ 5))) := ⟨_, rfl⟩
      rw [← hH]
      have fr : ∀ a j, wrF (some [(185, 0, 40), (186, 0, 40), (187, 0, 40), (188, 0, 40), (208, 0, 320)]) a j = false → H a j = h a j := by rw [hH]; exact (fr_up (fr_up (fun _ _ _ => rfl) (hz_w185 (by decide) (by omega) (by omega))) (wr_in (lo := 0) (hi := 320) (by decide) (by omega) (by omega)))
      have p_sheet : gc_sheet.1 H := by
        have hr5 : h 205 s' = ((r' : Nat) : Int) := by omega
        have e6 : h 206 r' = h 182 s' := by have := rl; rw [e_s9, e_r9] at this; omega
        have e7 : h 207 r' = h 183 s' := by have := rl; rw [e_s9, e_r9] at this; omega
        have e8 : 0 ≤ h 182 s' := by have := rl; rw [e_s9, e_r9] at this; omega
        have g2 : H 182 s' = h 182 s' := by rw [hH]; exact ((hup_ne (by decide)).trans (hup_ne (by omega)))
        have g3 : H 183 s' = h 183 s' := by rw [hH]; exact ((hup_ne (by decide)).trans (hup_ne (by omega)))
        have g5 : H 205 s' = h 205 s' := by rw [hH]; exact ((hup_ne (by decide)).trans (hup_ne (by omega)))
        have g6 : H 206 r' = h 206 r' := by rw [hH]; exact ((hup_ne (by decide)).trans (hup_ne (by omega)))
        have g7 : H 207 r' = h 207 r' := by rw [hH]; exact ((hup_ne (by decide)).trans (hup_ne (by omega)))
        refine shS qs (s := s') (r := r') (by omega) (fun k hk hne => shD qs (by omega) hr5 hk hne) (fun k hk hne => ⟨(by rw [hH]; exact ((hup_ne (by decide)).trans (hup_ne (by omega)))), (by rw [hH]; exact ((hup_ne (by decide)).trans (hup_ne (by omega)))), (by rw [hH]; exact ((hup_ne (by decide)).trans (hup_ne (by omega)))), fun i hi => (by rw [hH]; exact ((hup_ne (by omega)).trans (hup_ne (by omega))))⟩) (fun k hk hne => ⟨(by rw [hH]; exact ((hup_ne (by decide)).trans (hup_ne (by omega)))), (by rw [hH]; exact ((hup_ne (by decide)).trans (hup_ne (by omega)))), fun i hi => (by rw [hH]; exact ((hup_nj (by omega)).trans (hup_ne (by omega))))⟩) (Or.inr ⟨by omega, by omega, by omega, by omega, by omega, fun i hi => ?_⟩)
        by_cases e : i = i'
        · subst e
          have y1 : H 208 (40 * r' + i) = ((ρ 5)) := by rw [hH]; exact hup_eq
          have y2 : H (185 + s') i = ((ρ 5)) := by rw [hH]; exact ((hup_ne (by omega)).trans hup_eq)
          rw [y1, y2]
        · have y1 : H 208 (40 * r' + i) = h 208 (40 * r' + i) := by rw [hH]; exact ((hup_nj (by omega)).trans (hup_ne (by omega)))
          have y2 : H (185 + s') i = h (185 + s') i := by rw [hH]; exact ((hup_ne (by omega)).trans (hup_nj (by omega)))
          rw [y1, y2]
          exact shI qs (by omega) hr5 hi
      exact ⟨RR_op PS_ok GS_ok fr (by decide +kernel) (List.forall_mem_cons.mpr ⟨⟨by decide +kernel, Or.inl (by decide +kernel)⟩, (List.forall_mem_cons.mpr ⟨⟨by decide +kernel, Or.inl (by decide +kernel)⟩, (List.forall_mem_cons.mpr ⟨⟨by decide +kernel, Or.inl (by decide +kernel)⟩, (List.forall_mem_cons.mpr ⟨⟨by decide +kernel, Or.inl (by decide +kernel)⟩, (fun _ hc => by cases hc)⟩)⟩)⟩)⟩) (List.forall_mem_cons.mpr ⟨Or.inr p_sheet, (fun _ hc => by cases hc)⟩) q, rfl⟩
theorem rel_claim {ρ : Nat → Int} {h h1 h2 : bH} {r1 r2 : Option bV} (q : RR PS GS h) (s1 : s_claimB (evS ρ [(2, fcon 0), (0, fid 3), (0, fid 4), (0, fid 5), (0, fid 6)]) h r1 h1) (s2 : s_claimM (evS ρ [(2, fcon 193), (0, fid 3), (0, fid 4), (0, fid 5), (0, fid 6)]) h1 r2 h2) : RR PS GS h2 ∧ r1 = r2 := by
  have ht : TH h := s1.1
  obtain ⟨c, hc, mc, lc, gc⟩ : (recX (2, 1) 1 16 16 8 [3, 5, 8, 4, 6, 7, 9] [] f_claim).1 h 0 194 := (q.2.1 pc_claim (List.Mem.tail _ (List.Mem.head _))).1
  have t1 := s1.2 (ρ 3) (ρ 4) (ρ 5) (ρ 6) c (show [((2 : Nat), ev ρ (fcon 0)), (0, ev ρ (fid 3)), (0, ev ρ (fid 4)), (0, ev ρ (fid 5)), (0, ev ρ (fid 6))] = [(2, ((0 : Nat) : Int)), (0, (ρ 3)), (0, (ρ 4)), (0, (ρ 5)), (0, (ρ 6))] from by rw [fcon_ev, fid_ev, fid_ev, fid_ev, fid_ev]; rfl) hc
  rcases t1 with ⟨k1, rfl, rfl⟩ | ⟨k1, rfl, rfl⟩ | ⟨k1, rfl, rfl⟩
  · have t2 := s2.2 (ρ 3) (ρ 4) (ρ 5) (ρ 6) c (show [((2 : Nat), ev ρ (fcon 193)), (0, ev ρ (fid 3)), (0, ev ρ (fid 4)), (0, ev ρ (fid 5)), (0, ev ρ (fid 6))] = [(2, ((193 : Nat) : Int)), (0, (ρ 3)), (0, (ρ 4)), (0, (ρ 5)), (0, (ρ 6))] from by rw [fcon_ev, fid_ev, fid_ev, fid_ev, fid_ev]; rfl) mc
    rcases t2 with ⟨k2, rfl, rfl⟩ | ⟨k2, rfl, rfl⟩ | ⟨k2, rfl, rfl⟩
    · exact ⟨q, rfl⟩
    · exfalso; omega
    · exfalso; omega
  · have t2 := s2.2 (ρ 3) (ρ 4) (ρ 5) (ρ 6) c (show [((2 : Nat), ev ρ (fcon 193)), (0, ev ρ (fid 3)), (0, ev ρ (fid 4)), (0, ev ρ (fid 5)), (0, ev ρ (fid 6))] = [(2, ((193 : Nat) : Int)), (0, (ρ 3)), (0, (ρ 4)), (0, (ρ 5)), (0, (ρ 6))] from by rw [fcon_ev, fid_ev, fid_ev, fid_ev, fid_ev]; rfl) mc
    rcases t2 with ⟨k2, rfl, rfl⟩ | ⟨k2, rfl, rfl⟩ | ⟨k2, rfl, rfl⟩
    · exfalso; omega
    · exact ⟨q, rfl⟩
    · exfalso; omega
  · have t2 := s2.2 (ρ 3) (ρ 4) (ρ 5) (ρ 6) c (show [((2 : Nat), ev ρ (fcon 193)), (0, ev ρ (fid 3)), (0, ev ρ (fid 4)), (0, ev ρ (fid 5)), (0, ev ρ (fid 6))] = [(2, ((193 : Nat) : Int)), (0, (ρ 3)), (0, (ρ 4)), (0, (ρ 5)), (0, (ρ 6))] from by rw [fcon_ev, fid_ev, fid_ev, fid_ev, fid_ev]; rfl) (((hup_ne (by decide)).trans ((hup_ne (by decide)).trans ((hup_ne (by decide)).trans ((hup_ne (by decide)).trans ((hup_ne (by decide)).trans ((hup_ne (by decide)).trans ((hup_ne (by decide)).trans (hup_ne (by decide))))))))).trans mc)
    rcases t2 with ⟨k2, rfl, rfl⟩ | ⟨k2, rfl, rfl⟩ | ⟨k2, rfl, rfl⟩
    · exfalso; omega
    · exfalso; omega
    · skip
      obtain ⟨H, hH⟩ : ∃ H : bH, H = (hup (hup (hup (hup (hup (hup (hup (hup (hup (hup (hup (hup (hup (hup (hup (hup (hup h 3 (c) (((ρ 3)) / 100)) 5 (c) ((((ρ 3)) / 10) % 10)) 8 (c) (((ρ 3)) % 10)) 4 (c) ((ρ 4))) 6 (c) (((ρ 5)) / 1000)) 7 (c) (((ρ 5)) % 1000)) 9 (c) ((ρ 6))) 2 (1) (((c + 1) : Nat) : Int)) 194 (((16 + (8 * c)) + 0)) (((ρ 3)) / 100)) 194 (((16 + (8 * c)) + 1)) ((((ρ 3)) / 10) % 10)) 194 (((16 + (8 * c)) + 2)) (((ρ 3)) % 10)) 194 (((16 + (8 * c)) + 3)) ((ρ 4))) 194 (((16 + (8 * c)) + 4)) (((ρ 5)) / 1000)) 194 (((16 + (8 * c)) + 5)) (((ρ 5)) % 1000)) 194 (((16 + (8 * c)) + 6)) ((ρ 6))) 194 (((16 + (8 * c)) + 7)) ((0 : Nat) : Int)) 194 (1) (((c + 1) : Nat) : Int)) := ⟨_, rfl⟩
      rw [← hH]
      have fr : ∀ a j, wrF (some [(2, 1, 2), (3, 0, 16), (4, 0, 16), (5, 0, 16), (6, 0, 16), (7, 0, 16), (8, 0, 16), (9, 0, 16), (194, 1, 2), (194, 16, 144)]) a j = false → H a j = h a j := by rw [hH]; exact (fr_up (fr_up (fr_up (fr_up (fr_up (fr_up (fr_up (fr_up (fr_up (fr_up (fr_up (fr_up (fr_up (fr_up (fr_up (fr_up (fr_up (fun _ _ _ => rfl) (wr_in (lo := 0) (hi := 16) (by decide) (by omega) (by omega))) (wr_in (lo := 0) (hi := 16) (by decide) (by omega) (by omega))) (wr_in (lo := 0) (hi := 16) (by decide) (by omega) (by omega))) (wr_in (lo := 0) (hi := 16) (by decide) (by omega) (by omega))) (wr_in (lo := 0) (hi := 16) (by decide) (by omega) (by omega))) (wr_in (lo := 0) (hi := 16) (by decide) (by omega) (by omega))) (wr_in (lo := 0) (hi := 16) (by decide) (by omega) (by omega))) (wr_in (lo := 1) (hi := 2) (by decide) (by omega) (by omega))) (wr_in (lo := 16) (hi := 144) (by decide) (by omega) (by omega))) (wr_in (lo := 16) (hi := 144) (by decide) (by omega) (by omega))) (wr_in (lo := 16) (hi := 144) (by decide) (by omega) (by omega))) (wr_in (lo := 16) (hi := 144) (by decide) (by omega) (by omega))) (wr_in (lo := 16) (hi := 144) (by decide) (by omega) (by omega))) (wr_in (lo := 16) (hi := 144) (by decide) (by omega) (by omega))) (wr_in (lo := 16) (hi := 144) (by decide) (by omega) (by omega))) (wr_in (lo := 16) (hi := 144) (by decide) (by omega) (by omega))) (wr_in (lo := 1) (hi := 2) (by decide) (by omega) (by omega)))
      have e1 : H 2 (1) = (((c + 1) : Nat) : Int) := by rw [hH]; exact ((hup_ne (by decide)).trans ((hup_ne (by decide)).trans ((hup_ne (by decide)).trans ((hup_ne (by decide)).trans ((hup_ne (by decide)).trans ((hup_ne (by decide)).trans ((hup_ne (by decide)).trans ((hup_ne (by decide)).trans ((hup_ne (by decide)).trans hup_eq)))))))))
      have e2 : H 194 (1) = (((c + 1) : Nat) : Int) := by rw [hH]; exact hup_eq
      have x0 : H 3 (c) = (((ρ 3)) / 100) := by rw [hH]; exact ((hup_ne (by decide)).trans ((hup_ne (by decide)).trans ((hup_ne (by decide)).trans ((hup_ne (by decide)).trans ((hup_ne (by decide)).trans ((hup_ne (by decide)).trans ((hup_ne (by decide)).trans ((hup_ne (by decide)).trans ((hup_ne (by decide)).trans ((hup_ne (by decide)).trans ((hup_ne (by decide)).trans ((hup_ne (by decide)).trans ((hup_ne (by decide)).trans ((hup_ne (by decide)).trans ((hup_ne (by decide)).trans ((hup_ne (by decide)).trans hup_eq))))))))))))))))
      have x1 : H 5 (c) = ((((ρ 3)) / 10) % 10) := by rw [hH]; exact ((hup_ne (by decide)).trans ((hup_ne (by decide)).trans ((hup_ne (by decide)).trans ((hup_ne (by decide)).trans ((hup_ne (by decide)).trans ((hup_ne (by decide)).trans ((hup_ne (by decide)).trans ((hup_ne (by decide)).trans ((hup_ne (by decide)).trans ((hup_ne (by decide)).trans ((hup_ne (by decide)).trans ((hup_ne (by decide)).trans ((hup_ne (by decide)).trans ((hup_ne (by decide)).trans ((hup_ne (by decide)).trans hup_eq)))))))))))))))
      have x2 : H 8 (c) = (((ρ 3)) % 10) := by rw [hH]; exact ((hup_ne (by decide)).trans ((hup_ne (by decide)).trans ((hup_ne (by decide)).trans ((hup_ne (by decide)).trans ((hup_ne (by decide)).trans ((hup_ne (by decide)).trans ((hup_ne (by decide)).trans ((hup_ne (by decide)).trans ((hup_ne (by decide)).trans ((hup_ne (by decide)).trans ((hup_ne (by decide)).trans ((hup_ne (by decide)).trans ((hup_ne (by decide)).trans ((hup_ne (by decide)).trans hup_eq))))))))))))))
      have x3 : H 4 (c) = ((ρ 4)) := by rw [hH]; exact ((hup_ne (by decide)).trans ((hup_ne (by decide)).trans ((hup_ne (by decide)).trans ((hup_ne (by decide)).trans ((hup_ne (by decide)).trans ((hup_ne (by decide)).trans ((hup_ne (by decide)).trans ((hup_ne (by decide)).trans ((hup_ne (by decide)).trans ((hup_ne (by decide)).trans ((hup_ne (by decide)).trans ((hup_ne (by decide)).trans ((hup_ne (by decide)).trans hup_eq)))))))))))))
      have x4 : H 6 (c) = (((ρ 5)) / 1000) := by rw [hH]; exact ((hup_ne (by decide)).trans ((hup_ne (by decide)).trans ((hup_ne (by decide)).trans ((hup_ne (by decide)).trans ((hup_ne (by decide)).trans ((hup_ne (by decide)).trans ((hup_ne (by decide)).trans ((hup_ne (by decide)).trans ((hup_ne (by decide)).trans ((hup_ne (by decide)).trans ((hup_ne (by decide)).trans ((hup_ne (by decide)).trans hup_eq))))))))))))
      have x5 : H 7 (c) = (((ρ 5)) % 1000) := by rw [hH]; exact ((hup_ne (by decide)).trans ((hup_ne (by decide)).trans ((hup_ne (by decide)).trans ((hup_ne (by decide)).trans ((hup_ne (by decide)).trans ((hup_ne (by decide)).trans ((hup_ne (by decide)).trans ((hup_ne (by decide)).trans ((hup_ne (by decide)).trans ((hup_ne (by decide)).trans ((hup_ne (by decide)).trans hup_eq)))))))))))
      have x6 : H 9 (c) = ((ρ 6)) := by rw [hH]; exact ((hup_ne (by decide)).trans ((hup_ne (by decide)).trans ((hup_ne (by decide)).trans ((hup_ne (by decide)).trans ((hup_ne (by decide)).trans ((hup_ne (by decide)).trans ((hup_ne (by decide)).trans ((hup_ne (by decide)).trans ((hup_ne (by decide)).trans ((hup_ne (by decide)).trans hup_eq))))))))))
      have y0 : H 194 (16 + 8 * c) = (((ρ 3)) / 100) := by rw [hH]; exact ((hup_nj (by omega)).trans ((hup_nj (by omega)).trans ((hup_nj (by omega)).trans ((hup_nj (by omega)).trans ((hup_nj (by omega)).trans ((hup_nj (by omega)).trans ((hup_nj (by omega)).trans ((hup_nj (by omega)).trans hup_eq))))))))
      have y1 : H 194 (16 + 8 * c + 1) = ((((ρ 3)) / 10) % 10) := by rw [hH]; exact ((hup_nj (by omega)).trans ((hup_nj (by omega)).trans ((hup_nj (by omega)).trans ((hup_nj (by omega)).trans ((hup_nj (by omega)).trans ((hup_nj (by omega)).trans ((hup_nj (by omega)).trans hup_eq)))))))
      have y2 : H 194 (16 + 8 * c + 2) = (((ρ 3)) % 10) := by rw [hH]; exact ((hup_nj (by omega)).trans ((hup_nj (by omega)).trans ((hup_nj (by omega)).trans ((hup_nj (by omega)).trans ((hup_nj (by omega)).trans ((hup_nj (by omega)).trans hup_eq))))))
      have y3 : H 194 (16 + 8 * c + 3) = ((ρ 4)) := by rw [hH]; exact ((hup_nj (by omega)).trans ((hup_nj (by omega)).trans ((hup_nj (by omega)).trans ((hup_nj (by omega)).trans ((hup_nj (by omega)).trans hup_eq)))))
      have y4 : H 194 (16 + 8 * c + 4) = (((ρ 5)) / 1000) := by rw [hH]; exact ((hup_nj (by omega)).trans ((hup_nj (by omega)).trans ((hup_nj (by omega)).trans ((hup_nj (by omega)).trans hup_eq))))
      have y5 : H 194 (16 + 8 * c + 5) = (((ρ 5)) % 1000) := by rw [hH]; exact ((hup_nj (by omega)).trans ((hup_nj (by omega)).trans ((hup_nj (by omega)).trans hup_eq)))
      have y6 : H 194 (16 + 8 * c + 6) = ((ρ 6)) := by rw [hH]; exact ((hup_nj (by omega)).trans ((hup_nj (by omega)).trans hup_eq))
      have y7 : H 194 (16 + 8 * c + 7) = ((0 : Nat) : Int) := by rw [hH]; exact ((hup_nj (by omega)).trans hup_eq)
      have p_claim : pc_claim.1 H 0 194 := by
        refine recX_push (As := [3, 5, 8, 4, 6, 7, 9]) (zs := []) (s := 8) (B := 16) (N := 16) (n0 := 1) (cn := (2, 1)) f_claim_ok (t := 0) (D := 194) (c := c) hc (q.2.1 _ (List.Mem.tail _ (List.Mem.head _))).1 (by omega) e1 e2 (fun i hi b hb => ?_) (fun j j1 j2 => ?_) (fun _ _ _ _ q => q) ?_
        · match i, hi with
          | 0, _ => exact (by rw [hH]; exact ((hup_ne (by decide)).trans ((hup_ne (by decide)).trans ((hup_ne (by decide)).trans ((hup_ne (by decide)).trans ((hup_ne (by decide)).trans ((hup_ne (by decide)).trans ((hup_ne (by decide)).trans ((hup_ne (by decide)).trans ((hup_ne (by decide)).trans ((hup_ne (by decide)).trans ((hup_ne (by decide)).trans ((hup_ne (by decide)).trans ((hup_ne (by decide)).trans ((hup_ne (by decide)).trans ((hup_ne (by decide)).trans ((hup_ne (by decide)).trans (hup_nj (by omega)))))))))))))))))) : H 3 b = h 3 b)
          | 1, _ => exact (by rw [hH]; exact ((hup_ne (by decide)).trans ((hup_ne (by decide)).trans ((hup_ne (by decide)).trans ((hup_ne (by decide)).trans ((hup_ne (by decide)).trans ((hup_ne (by decide)).trans ((hup_ne (by decide)).trans ((hup_ne (by decide)).trans ((hup_ne (by decide)).trans ((hup_ne (by decide)).trans ((hup_ne (by decide)).trans ((hup_ne (by decide)).trans ((hup_ne (by decide)).trans ((hup_ne (by decide)).trans ((hup_ne (by decide)).trans ((hup_nj (by omega)).trans (hup_ne (by decide)))))))))))))))))) : H 5 b = h 5 b)
          | 2, _ => exact (by rw [hH]; exact ((hup_ne (by decide)).trans ((hup_ne (by decide)).trans ((hup_ne (by decide)).trans ((hup_ne (by decide)).trans ((hup_ne (by decide)).trans ((hup_ne (by decide)).trans ((hup_ne (by decide)).trans ((hup_ne (by decide)).trans ((hup_ne (by decide)).trans ((hup_ne (by decide)).trans ((hup_ne (by decide)).trans ((hup_ne (by decide)).trans ((hup_ne (by decide)).trans ((hup_ne (by decide)).trans ((hup_nj (by omega)).trans ((hup_ne (by decide)).trans (hup_ne (by decide)))))))))))))))))) : H 8 b = h 8 b)
          | 3, _ => exact (by rw [hH]; exact ((hup_ne (by decide)).trans ((hup_ne (by decide)).trans ((hup_ne (by decide)).trans ((hup_ne (by decide)).trans ((hup_ne (by decide)).trans ((hup_ne (by decide)).trans ((hup_ne (by decide)).trans ((hup_ne (by decide)).trans ((hup_ne (by decide)).trans ((hup_ne (by decide)).trans ((hup_ne (by decide)).trans ((hup_ne (by decide)).trans ((hup_ne (by decide)).trans ((hup_nj (by omega)).trans ((hup_ne (by decide)).trans ((hup_ne (by decide)).trans (hup_ne (by decide)))))))))))))))))) : H 4 b = h 4 b)
          | 4, _ => exact (by rw [hH]; exact ((hup_ne (by decide)).trans ((hup_ne (by decide)).trans ((hup_ne (by decide)).trans ((hup_ne (by decide)).trans ((hup_ne (by decide)).trans ((hup_ne (by decide)).trans ((hup_ne (by decide)).trans ((hup_ne (by decide)).trans ((hup_ne (by decide)).trans ((hup_ne (by decide)).trans ((hup_ne (by decide)).trans ((hup_ne (by decide)).trans ((hup_nj (by omega)).trans ((hup_ne (by decide)).trans ((hup_ne (by decide)).trans ((hup_ne (by decide)).trans (hup_ne (by decide)))))))))))))))))) : H 6 b = h 6 b)
          | 5, _ => exact (by rw [hH]; exact ((hup_ne (by decide)).trans ((hup_ne (by decide)).trans ((hup_ne (by decide)).trans ((hup_ne (by decide)).trans ((hup_ne (by decide)).trans ((hup_ne (by decide)).trans ((hup_ne (by decide)).trans ((hup_ne (by decide)).trans ((hup_ne (by decide)).trans ((hup_ne (by decide)).trans ((hup_ne (by decide)).trans ((hup_nj (by omega)).trans ((hup_ne (by decide)).trans ((hup_ne (by decide)).trans ((hup_ne (by decide)).trans ((hup_ne (by decide)).trans (hup_ne (by decide)))))))))))))))))) : H 7 b = h 7 b)
          | 6, _ => exact (by rw [hH]; exact ((hup_ne (by decide)).trans ((hup_ne (by decide)).trans ((hup_ne (by decide)).trans ((hup_ne (by decide)).trans ((hup_ne (by decide)).trans ((hup_ne (by decide)).trans ((hup_ne (by decide)).trans ((hup_ne (by decide)).trans ((hup_ne (by decide)).trans ((hup_ne (by decide)).trans ((hup_nj (by omega)).trans ((hup_ne (by decide)).trans ((hup_ne (by decide)).trans ((hup_ne (by decide)).trans ((hup_ne (by decide)).trans ((hup_ne (by decide)).trans (hup_ne (by decide)))))))))))))))))) : H 9 b = h 9 b)
          | i + 7, hi => exact absurd hi (by show ¬ i + 7 < 7; omega)
        · rw [hH]; exact ((hup_nj (by omega)).trans ((hup_nj (by omega)).trans ((hup_nj (by omega)).trans ((hup_nj (by omega)).trans ((hup_nj (by omega)).trans ((hup_nj (by omega)).trans ((hup_nj (by omega)).trans ((hup_nj (by omega)).trans ((hup_nj (by omega)).trans ((hup_ne (by decide)).trans ((hup_ne (by decide)).trans ((hup_ne (by decide)).trans ((hup_ne (by decide)).trans ((hup_ne (by decide)).trans ((hup_ne (by decide)).trans ((hup_ne (by decide)).trans (hup_ne (by decide))))))))))))))))))
        · show (H 3 c) = (H 194 (16 + 8 * c)) ∧ (H 5 c) = (H 194 (16 + 8 * c + 1)) ∧ (H 8 c) = (H 194 (16 + 8 * c + 2)) ∧ (H 4 c) = (H 194 (16 + 8 * c + 3)) ∧ (H 6 c) = (H 194 (16 + 8 * c + 4)) ∧ (H 7 c) = (H 194 (16 + 8 * c + 5)) ∧ (H 9 c) = (H 194 (16 + 8 * c + 6))
          omega
      have p_sworn : pc_sworn.1 H 0 194 := sworn_push (c := c) (q.2.1 pc_sworn (List.Mem.tail _ (List.Mem.tail _ (List.Mem.head _)))).1 hc (by omega) e1 e2 (by rw [hH]; exact ((hup_ne (by decide)).trans ((hup_ne (by decide)).trans ((hup_ne (by decide)).trans ((hup_ne (by decide)).trans ((hup_ne (by decide)).trans ((hup_ne (by decide)).trans ((hup_ne (by decide)).trans ((hup_ne (by decide)).trans ((hup_ne (by decide)).trans ((hup_nj (by omega)).trans ((hup_ne (by decide)).trans ((hup_ne (by decide)).trans ((hup_ne (by decide)).trans ((hup_ne (by decide)).trans ((hup_ne (by decide)).trans ((hup_ne (by decide)).trans (hup_ne (by decide))))))))))))))))))) (by rw [hH]; exact ((hup_ne (by decide)).trans ((hup_ne (by decide)).trans ((hup_ne (by decide)).trans ((hup_ne (by decide)).trans ((hup_ne (by decide)).trans ((hup_ne (by decide)).trans ((hup_ne (by decide)).trans ((hup_ne (by decide)).trans ((hup_ne (by decide)).trans ((hup_nj (by omega)).trans ((hup_ne (by decide)).trans ((hup_ne (by decide)).trans ((hup_ne (by decide)).trans ((hup_ne (by decide)).trans ((hup_ne (by decide)).trans ((hup_ne (by decide)).trans (hup_ne (by decide))))))))))))))))))) (by rw [hH]; exact ((hup_nj (by omega)).trans hup_eq)) (fun j j1 j2 => (by rw [hH]; exact ((hup_nj (by omega)).trans ((hup_nj (by omega)).trans ((hup_nj (by omega)).trans ((hup_nj (by omega)).trans ((hup_nj (by omega)).trans ((hup_nj (by omega)).trans ((hup_nj (by omega)).trans ((hup_nj (by omega)).trans ((hup_nj (by omega)).trans ((hup_ne (by decide)).trans ((hup_ne (by decide)).trans ((hup_ne (by decide)).trans ((hup_ne (by decide)).trans ((hup_ne (by decide)).trans ((hup_ne (by decide)).trans ((hup_ne (by decide)).trans (hup_ne (by decide))))))))))))))))))))
      exact ⟨RR_op PS_ok GS_ok fr (by decide +kernel) (List.forall_mem_cons.mpr ⟨⟨by decide +kernel, Or.inl (by decide +kernel)⟩, (List.forall_mem_cons.mpr ⟨⟨by decide +kernel, Or.inr p_claim⟩, (List.forall_mem_cons.mpr ⟨⟨by decide +kernel, Or.inr p_sworn⟩, (List.forall_mem_cons.mpr ⟨⟨by decide +kernel, Or.inl (by decide +kernel)⟩, (fun _ hc => by cases hc)⟩)⟩)⟩)⟩) (List.forall_mem_cons.mpr ⟨Or.inl (by decide +kernel), (fun _ hc => by cases hc)⟩) q, rfl⟩
def mix (hb hm : bH) : bH := fun a j => if a < 193 then hb a j else hm a j
theorem toMix {c : Pc} (hc : PcOK c) (hw : (c.2.1.all fun p => decide (p.1 < 193)) = true) {h h1 : bH} (hd : ∀ j, h1 194 j = h 194 j) (q : c.1 h 0 194) : c.1 (mix h h1) 0 194 := hc h (mix h h1) 0 0 194 194 (fun a j e => if_pos (by
  obtain ⟨z, hz, z1, _⟩ := wr_x e
  have := of_decide_eq_true (List.all_eq_true.mp hw z hz)
  omega)) (fun j _ => hd j) q
theorem ofMix {c : Pc} (hc : PcOK c) {h1 h2 : bH} (hf : ∀ a j, a < 193 → h2 a j = h1 a j) (q : c.1 (mix h1 h2) 0 194) : c.1 h2 0 194 := Pc_tr (h := mix h1 h2) hc (fun a j e => by
  show h2 a j = if a < 193 then h1 a j else h2 a j
  by_cases z : a < 193
  · rw [if_pos z, hf a j z]
  · rw [if_neg z]) q
theorem wr_no {w : List (Nat × Nat × Nat)} {a j : Nat} (h : (w.all fun q => !(q.1 == a)) = true) : wrF (some w) a j = false := by
  cases e : wrF (some w) a j with
  | false => rfl
  | true =>
    obtain ⟨q, hq, e1, _⟩ := wr_x e
    have := List.all_eq_true.mp h q hq
    simp [e1] at this
theorem cl_step {hb hm : bH} {w st sp k : Int} (q : pc_claim.1 (mix hb hm) 0 194) : (clB hb w st sp k).1 = (clM hm w st sp k).1 ∧ pc_claim.1 (mix (clB hb w st sp k).2 (clM hm w st sp k).2) 0 194 := by
  have q0 := q
  obtain ⟨c, hc, mc, lc, gc⟩ : (recX (2, 1) 1 16 16 8 [3, 5, 8, 4, 6, 7, 9] [] f_claim).1 (mix hb hm) 0 194 := q
  have hc1 : hb 2 1 = (c : Int) := hc
  have mc1 : hm 194 1 = (c : Int) := mc
  obtain ⟨b1, b2, b3⟩ := clB_c (w := w) (st := st) (sp := sp) (k := k) hc1
  obtain ⟨m1, m2, m3⟩ := clM_c (w := w) (st := st) (sp := sp) (k := k) mc1
  by_cases e : clK w st sp k
  · by_cases e4 : c = 16
    · rw [b2 e e4, m2 e e4]; exact ⟨rfl, q0⟩
    · rw [b1 e (by omega), m1 e (by omega)]
      refine ⟨rfl, ?_⟩
      have e1 : mix (psB hb c w st sp k) (psM hm c w st sp k) 2 (1) = (((c + 1) : Nat) : Int) := by show psB hb c w st sp k 2 (1) = _; unfold psB; exact hup_eq
      have e2 : mix (psB hb c w st sp k) (psM hm c w st sp k) 194 (1) = (((c + 1) : Nat) : Int) := by show psM hm c w st sp k 194 (1) = _; unfold psM; exact hup_eq
      have x0 : mix (psB hb c w st sp k) (psM hm c w st sp k) 3 (c) = ((w) / 100) := by show psB hb c w st sp k 3 (c) = _; unfold psB; exact ((hup_ne (by decide)).trans ((hup_ne (by decide)).trans ((hup_ne (by decide)).trans ((hup_ne (by decide)).trans ((hup_ne (by decide)).trans ((hup_ne (by decide)).trans ((hup_ne (by decide)).trans hup_eq)))))))
      have x1 : mix (psB hb c w st sp k) (psM hm c w st sp k) 5 (c) = (((w) / 10) % 10) := by show psB hb c w st sp k 5 (c) = _; unfold psB; exact ((hup_ne (by decide)).trans ((hup_ne (by decide)).trans ((hup_ne (by decide)).trans ((hup_ne (by decide)).trans ((hup_ne (by decide)).trans ((hup_ne (by decide)).trans hup_eq))))))
      have x2 : mix (psB hb c w st sp k) (psM hm c w st sp k) 8 (c) = ((w) % 10) := by show psB hb c w st sp k 8 (c) = _; unfold psB; exact ((hup_ne (by decide)).trans ((hup_ne (by decide)).trans ((hup_ne (by decide)).trans ((hup_ne (by decide)).trans ((hup_ne (by decide)).trans hup_eq)))))
      have x3 : mix (psB hb c w st sp k) (psM hm c w st sp k) 4 (c) = (st) := by show psB hb c w st sp k 4 (c) = _; unfold psB; exact ((hup_ne (by decide)).trans ((hup_ne (by decide)).trans ((hup_ne (by decide)).trans ((hup_ne (by decide)).trans hup_eq))))
      have x4 : mix (psB hb c w st sp k) (psM hm c w st sp k) 6 (c) = ((sp) / 1000) := by show psB hb c w st sp k 6 (c) = _; unfold psB; exact ((hup_ne (by decide)).trans ((hup_ne (by decide)).trans ((hup_ne (by decide)).trans hup_eq)))
      have x5 : mix (psB hb c w st sp k) (psM hm c w st sp k) 7 (c) = ((sp) % 1000) := by show psB hb c w st sp k 7 (c) = _; unfold psB; exact ((hup_ne (by decide)).trans ((hup_ne (by decide)).trans hup_eq))
      have x6 : mix (psB hb c w st sp k) (psM hm c w st sp k) 9 (c) = (k) := by show psB hb c w st sp k 9 (c) = _; unfold psB; exact ((hup_ne (by decide)).trans hup_eq)
      have y0 : mix (psB hb c w st sp k) (psM hm c w st sp k) 194 (16 + 8 * c) = ((w) / 100) := by show psM hm c w st sp k 194 (16 + 8 * c) = _; unfold psM; exact ((hup_nj (by omega)).trans ((hup_nj (by omega)).trans ((hup_nj (by omega)).trans ((hup_nj (by omega)).trans ((hup_nj (by omega)).trans ((hup_nj (by omega)).trans ((hup_nj (by omega)).trans ((hup_nj (by omega)).trans hup_eq))))))))
      have y1 : mix (psB hb c w st sp k) (psM hm c w st sp k) 194 (16 + 8 * c + 1) = (((w) / 10) % 10) := by show psM hm c w st sp k 194 (16 + 8 * c + 1) = _; unfold psM; exact ((hup_nj (by omega)).trans ((hup_nj (by omega)).trans ((hup_nj (by omega)).trans ((hup_nj (by omega)).trans ((hup_nj (by omega)).trans ((hup_nj (by omega)).trans ((hup_nj (by omega)).trans hup_eq)))))))
      have y2 : mix (psB hb c w st sp k) (psM hm c w st sp k) 194 (16 + 8 * c + 2) = ((w) % 10) := by show psM hm c w st sp k 194 (16 + 8 * c + 2) = _; unfold psM; exact ((hup_nj (by omega)).trans ((hup_nj (by omega)).trans ((hup_nj (by omega)).trans ((hup_nj (by omega)).trans ((hup_nj (by omega)).trans ((hup_nj (by omega)).trans hup_eq))))))
      have y3 : mix (psB hb c w st sp k) (psM hm c w st sp k) 194 (16 + 8 * c + 3) = (st) := by show psM hm c w st sp k 194 (16 + 8 * c + 3) = _; unfold psM; exact ((hup_nj (by omega)).trans ((hup_nj (by omega)).trans ((hup_nj (by omega)).trans ((hup_nj (by omega)).trans ((hup_nj (by omega)).trans hup_eq)))))
      have y4 : mix (psB hb c w st sp k) (psM hm c w st sp k) 194 (16 + 8 * c + 4) = ((sp) / 1000) := by show psM hm c w st sp k 194 (16 + 8 * c + 4) = _; unfold psM; exact ((hup_nj (by omega)).trans ((hup_nj (by omega)).trans ((hup_nj (by omega)).trans ((hup_nj (by omega)).trans hup_eq))))
      have y5 : mix (psB hb c w st sp k) (psM hm c w st sp k) 194 (16 + 8 * c + 5) = ((sp) % 1000) := by show psM hm c w st sp k 194 (16 + 8 * c + 5) = _; unfold psM; exact ((hup_nj (by omega)).trans ((hup_nj (by omega)).trans ((hup_nj (by omega)).trans hup_eq)))
      have y6 : mix (psB hb c w st sp k) (psM hm c w st sp k) 194 (16 + 8 * c + 6) = (k) := by show psM hm c w st sp k 194 (16 + 8 * c + 6) = _; unfold psM; exact ((hup_nj (by omega)).trans ((hup_nj (by omega)).trans hup_eq))
      have y7 : mix (psB hb c w st sp k) (psM hm c w st sp k) 194 (16 + 8 * c + 7) = ((0 : Nat) : Int) := by show psM hm c w st sp k 194 (16 + 8 * c + 7) = _; unfold psM; exact ((hup_nj (by omega)).trans hup_eq)
      obtain ⟨H, hH⟩ : ∃ H : bH, H = mix (psB hb c w st sp k) (psM hm c w st sp k) := ⟨_, rfl⟩
      rw [← hH] at e1 e2 x0 x1 x2 x3 x4 x5 x6 y0 y1 y2 y3 y4 y5 y6 y7
      show pc_claim.1 (mix (psB hb c w st sp k) (psM hm c w st sp k)) 0 194
      rw [← hH]
      refine recX_push (As := [3, 5, 8, 4, 6, 7, 9]) (zs := []) (s := 8) (B := 16) (N := 16) (n0 := 1) (cn := (2, 1)) f_claim_ok (t := 0) (D := 194) (c := c) hc q0 (by omega) e1 e2 (fun i hi b hb9 => ?_) (fun j j1 j2 => ?_) (fun _ _ _ _ q => q) ?_
      · match i, hi with
        | 0, _ => exact (by rw [hH]; show psB hb c w st sp k 3 b = hb 3 b; unfold psB; exact ((hup_ne (by decide)).trans ((hup_ne (by decide)).trans ((hup_ne (by decide)).trans ((hup_ne (by decide)).trans ((hup_ne (by decide)).trans ((hup_ne (by decide)).trans ((hup_ne (by decide)).trans (hup_nj (by omega))))))))) : H 3 b = mix hb hm 3 b)
        | 1, _ => exact (by rw [hH]; show psB hb c w st sp k 5 b = hb 5 b; unfold psB; exact ((hup_ne (by decide)).trans ((hup_ne (by decide)).trans ((hup_ne (by decide)).trans ((hup_ne (by decide)).trans ((hup_ne (by decide)).trans ((hup_ne (by decide)).trans ((hup_nj (by omega)).trans (hup_ne (by decide))))))))) : H 5 b = mix hb hm 5 b)
        | 2, _ => exact (by rw [hH]; show psB hb c w st sp k 8 b = hb 8 b; unfold psB; exact ((hup_ne (by decide)).trans ((hup_ne (by decide)).trans ((hup_ne (by decide)).trans ((hup_ne (by decide)).trans ((hup_ne (by decide)).trans ((hup_nj (by omega)).trans ((hup_ne (by decide)).trans (hup_ne (by decide))))))))) : H 8 b = mix hb hm 8 b)
        | 3, _ => exact (by rw [hH]; show psB hb c w st sp k 4 b = hb 4 b; unfold psB; exact ((hup_ne (by decide)).trans ((hup_ne (by decide)).trans ((hup_ne (by decide)).trans ((hup_ne (by decide)).trans ((hup_nj (by omega)).trans ((hup_ne (by decide)).trans ((hup_ne (by decide)).trans (hup_ne (by decide))))))))) : H 4 b = mix hb hm 4 b)
        | 4, _ => exact (by rw [hH]; show psB hb c w st sp k 6 b = hb 6 b; unfold psB; exact ((hup_ne (by decide)).trans ((hup_ne (by decide)).trans ((hup_ne (by decide)).trans ((hup_nj (by omega)).trans ((hup_ne (by decide)).trans ((hup_ne (by decide)).trans ((hup_ne (by decide)).trans (hup_ne (by decide))))))))) : H 6 b = mix hb hm 6 b)
        | 5, _ => exact (by rw [hH]; show psB hb c w st sp k 7 b = hb 7 b; unfold psB; exact ((hup_ne (by decide)).trans ((hup_ne (by decide)).trans ((hup_nj (by omega)).trans ((hup_ne (by decide)).trans ((hup_ne (by decide)).trans ((hup_ne (by decide)).trans ((hup_ne (by decide)).trans (hup_ne (by decide))))))))) : H 7 b = mix hb hm 7 b)
        | 6, _ => exact (by rw [hH]; show psB hb c w st sp k 9 b = hb 9 b; unfold psB; exact ((hup_ne (by decide)).trans ((hup_nj (by omega)).trans ((hup_ne (by decide)).trans ((hup_ne (by decide)).trans ((hup_ne (by decide)).trans ((hup_ne (by decide)).trans ((hup_ne (by decide)).trans (hup_ne (by decide))))))))) : H 9 b = mix hb hm 9 b)
        | i + 7, hi => exact absurd hi (by show ¬ i + 7 < 7; omega)
      · rw [hH]; show psM hm c w st sp k 194 j = hm 194 j; unfold psM; exact ((hup_nj (by omega)).trans ((hup_nj (by omega)).trans ((hup_nj (by omega)).trans ((hup_nj (by omega)).trans ((hup_nj (by omega)).trans ((hup_nj (by omega)).trans ((hup_nj (by omega)).trans ((hup_nj (by omega)).trans (hup_nj (by omega))))))))))
      · show (H 3 c) = (H 194 (16 + 8 * c)) ∧ (H 5 c) = (H 194 (16 + 8 * c + 1)) ∧ (H 8 c) = (H 194 (16 + 8 * c + 2)) ∧ (H 4 c) = (H 194 (16 + 8 * c + 3)) ∧ (H 6 c) = (H 194 (16 + 8 * c + 4)) ∧ (H 7 c) = (H 194 (16 + 8 * c + 5)) ∧ (H 9 c) = (H 194 (16 + 8 * c + 6))
        omega
  · rw [b3 e, m3 e]; exact ⟨rfl, q0⟩
theorem cl_step_s {hb hm : bH} {w st sp k : Int} (q9 : pc_claim.1 (mix hb hm) 0 194) (q : pc_sworn.1 (mix hb hm) 0 194) : pc_sworn.1 (mix (clB hb w st sp k).2 (clM hm w st sp k).2) 0 194 := by
  obtain ⟨c, hc, mc, lc, gc⟩ : (recX (2, 1) 1 16 16 8 [3, 5, 8, 4, 6, 7, 9] [] f_claim).1 (mix hb hm) 0 194 := q9
  have hc1 : hb 2 1 = (c : Int) := hc
  have mc1 : hm 194 1 = (c : Int) := mc
  obtain ⟨b1, b2, b3⟩ := clB_c (w := w) (st := st) (sp := sp) (k := k) hc1
  obtain ⟨m1, m2, m3⟩ := clM_c (w := w) (st := st) (sp := sp) (k := k) mc1
  by_cases e : clK w st sp k
  · by_cases e4 : c = 16
    · rw [b2 e e4, m2 e e4]; exact q
    · rw [b1 e (by omega), m1 e (by omega)]
      exact sworn_push (c := c) q hc (by omega) (by show psB hb c w st sp k 2 (1) = _; unfold psB; exact hup_eq) (by show psM hm c w st sp k 194 (1) = _; unfold psM; exact hup_eq) (by show psB hb c w st sp k 2 (9) = _; unfold psB; exact ((hup_nj (by omega)).trans ((hup_ne (by decide)).trans ((hup_ne (by decide)).trans ((hup_ne (by decide)).trans ((hup_ne (by decide)).trans ((hup_ne (by decide)).trans ((hup_ne (by decide)).trans (hup_ne (by decide)))))))))) (by show psB hb c w st sp k 2 (10) = _; unfold psB; exact ((hup_nj (by omega)).trans ((hup_ne (by decide)).trans ((hup_ne (by decide)).trans ((hup_ne (by decide)).trans ((hup_ne (by decide)).trans ((hup_ne (by decide)).trans ((hup_ne (by decide)).trans (hup_ne (by decide)))))))))) (by show psM hm c w st sp k 194 (16 + 8 * c + 7) = _; unfold psM; exact ((hup_nj (by omega)).trans hup_eq)) (fun j j1 j2 => (by show psM hm c w st sp k 194 j = hm 194 j; unfold psM; exact ((hup_nj (by omega)).trans ((hup_nj (by omega)).trans ((hup_nj (by omega)).trans ((hup_nj (by omega)).trans ((hup_nj (by omega)).trans ((hup_nj (by omega)).trans ((hup_nj (by omega)).trans ((hup_nj (by omega)).trans (hup_nj (by omega))))))))))))
  · rw [b3 e, m3 e]; exact q
def CLP (h : bH) : Prop := pc_claim.1 h 0 194 ∧ pc_sworn.1 h 0 194
theorem clp_step {hb hm : bH} {w st sp k : Int} (q : CLP (mix hb hm)) : (clB hb w st sp k).1 = (clM hm w st sp k).1 ∧ CLP (mix (clB hb w st sp k).2 (clM hm w st sp k).2) := ⟨(cl_step q.1).1, (cl_step q.1).2, (cl_step_s q.1 q.2)⟩
theorem br_step {hb hm : bH} {t : Int} (q : CLP (mix hb hm)) : (brB hb t).1 = (brM hm t).1 ∧ CLP (mix (brB hb t).2 (brM hm t).2) := by
  unfold brB brM
  by_cases e : t < 0
  · rw [if_pos e, if_pos e]; exact ⟨rfl, q⟩
  · rw [if_neg e, if_neg e]; exact clp_step q
theorem com_eq {s r : Nat} {f : Int} (hs : s < 4) (hr : r < 8) : ∀ (n b : Nat) (cm : Int) (hb hm : bH), CLP (mix hb hm) → hb 183 s = hm 207 r → (∀ i, i < 40 → hm 208 (40 * r + i) = hb (185 + s) i) → TH hb → TH hm → (comB s f n b cm hb).1 = (comM r f n b cm hm).1 ∧ CLP (mix (comB s f n b cm hb).2 (comM r f n b cm hm).2)
  | 0, b, cm, hb, hm, q, h1, h2, t1, t2 => ⟨rfl, q⟩
  | n + 1, b, cm, hb, hm, q, h1, h2, t1, t2 => by
    rw [comB_s, comM_s, ← h1]
    by_cases e : f < 0 ∨ hb 183 s - ((b : Nat) : Int) ≤ f
    · rw [if_pos e, if_pos e]; exact ⟨rfl, q⟩
    · rw [if_neg e, if_neg e]
      have r3 := ty_183_s0 t1 (j := s) (r := s) (by omega) (by omega)
      rw [show 40 * r + f.toNat + b = 40 * r + (f.toNat + b) by omega, h2 (f.toNat + b) (by omega)]
      have rt := t185 t1 hs (i := f.toNat + b) (by omega)
      generalize hb (185 + s) (f.toNat + b) = t at rt ⊢
      obtain ⟨u1, u2⟩ := br_step (t := t) q
      obtain ⟨v1, v2, v3, v4⟩ := brB_TH t1 rt
      obtain ⟨w1, w2, w3, w4⟩ := brM_TH t2 rt
      rw [← u1]
      generalize brB hb t = x at *
      generalize brM hm t = y at *
      by_cases e2 : x.1 = -2
      · rw [if_pos e2, if_pos e2]; exact ⟨rfl, u2⟩
      · rw [if_neg e2, if_neg e2]
        refine com_eq hs hr n (b + 1) _ x.2 y.2 u2 ?_ (fun i hi => ?_) v1 w1
        · rw [v2 183 s (wr_no (by decide)), w2 207 r (wr_no (by decide)), h1]
        · rw [w2 208 _ (wr_no (by decide)), v2 (185 + s) i (by
            match s, hs with
            | 0, _ => exact wr_no (by decide)
            | 1, _ => exact wr_no (by decide)
            | 2, _ => exact wr_no (by decide)
            | 3, _ => exact wr_no (by decide))]
          exact h2 i hi
theorem rel_comes {ρ : Nat → Int} {h h1 h2 : bH} {r1 r2 : Option bV} (q : RR PS GS h) (s1 : s_comesB (evS ρ [(2, fcon 0), (0, fid 3), (0, fid 4), (0, fid 5)]) h r1 h1) (s2 : s_comesM (evS ρ [(2, fcon 193), (0, fid 3), (0, fid 4), (0, fid 5)]) h1 r2 h2) : RR PS GS h2 ∧ r1 = r2 := by
  have ht : TH h := s1.1
  have qs : gc_sheet.1 h := q.2.2 gc_sheet (List.Mem.head _)
  have rl : ¬ (0 ≤ ρ 3 ∧ ρ 3 ≤ 3) ∨ (h 182 (ρ 3).toNat = -1 ∧ h 205 (ρ 3).toNat = -1) ∨ (0 ≤ h 205 (ρ 3).toNat ∧ h 205 (ρ 3).toNat < 8 ∧ h 206 (h 205 (ρ 3).toNat).toNat = h 182 (ρ 3).toNat ∧ 0 ≤ h 182 (ρ 3).toNat ∧ h 207 (h 205 (ρ 3).toNat).toNat = h 183 (ρ 3).toNat) := by
    by_cases e : 0 ≤ ρ 3 ∧ ρ 3 ≤ 3
    · exact Or.inr (shR qs (by omega))
    · exact Or.inl e
  have t1 := s1.2 (ρ 3) (ρ 4) (ρ 5) (show [((2 : Nat), ev ρ (fcon 0)), (0, ev ρ (fid 3)), (0, ev ρ (fid 4)), (0, ev ρ (fid 5))] = [(2, ((0 : Nat) : Int)), (0, (ρ 3)), (0, (ρ 4)), (0, (ρ 5))] from by rw [fcon_ev, fid_ev, fid_ev, fid_ev]; rfl)
  have t2 := s2.2 (ρ 3) (ρ 4) (ρ 5) (show [((2 : Nat), ev ρ (fcon 193)), (0, ev ρ (fid 3)), (0, ev ρ (fid 4)), (0, ev ρ (fid 5))] = [(2, ((193 : Nat) : Int)), (0, (ρ 3)), (0, (ρ 4)), (0, (ρ 5))] from by rw [fcon_ev, fid_ev, fid_ev, fid_ev]; rfl)
  rcases t1 with ⟨k1, rfl, rfl⟩ | ⟨k1, rfl, rfl⟩ | ⟨k1, rfl, rfl⟩ | ⟨k1, rfl, e1⟩
  · rcases t2 with ⟨k2, rfl, rfl⟩ | ⟨k2, rfl, rfl⟩ | ⟨k2, rfl, rfl⟩ | ⟨k2, rfl, rfl⟩
    · exact ⟨q, rfl⟩
    · exfalso; omega
    · exfalso; omega
    · exfalso; omega
  · rcases t2 with ⟨k2, rfl, rfl⟩ | ⟨k2, rfl, rfl⟩ | ⟨k2, rfl, rfl⟩ | ⟨k2, rfl, rfl⟩
    · exfalso; omega
    · exact ⟨q, rfl⟩
    · exfalso; omega
    · exfalso; omega
  · rcases t2 with ⟨k2, rfl, rfl⟩ | ⟨k2, rfl, rfl⟩ | ⟨k2, rfl, rfl⟩ | ⟨k2, rfl, rfl⟩
    · exfalso; omega
    · exfalso; omega
    · exact ⟨q, rfl⟩
    · exfalso; omega
  · obtain ⟨u1, u2, u3, u4⟩ := comB_TH (s := (ρ 3).toNat) (f := ρ 4) (by omega) (ρ 5).toNat 0 0 h ht (by omega) (by omega) (by omega)
    rw [← e1] at u1 u2
    have c5 : h1 205 (ρ 3).toNat = h 205 (ρ 3).toNat := u2 _ _ (wr_no (by decide))
    have c6 : ∀ j, h1 206 j = h 206 j := fun j => u2 _ _ (wr_no (by decide))
    have c7 : ∀ j, h1 207 j = h 207 j := fun j => u2 _ _ (wr_no (by decide))
    have c8 : ∀ j, h1 208 j = h 208 j := fun j => u2 _ _ (wr_no (by decide))
    rw [c5, c6] at t2
    rcases t2 with ⟨k2, rfl, rfl⟩ | ⟨k2, rfl, rfl⟩ | ⟨k2, rfl, rfl⟩ | ⟨k2, rfl, e2⟩
    · exfalso; omega
    · exfalso; omega
    · exfalso; omega
    · have q2 : CLP (mix h h1) := ⟨toMix pc_claim_ok (by decide) (fun j => u2 194 j (wr_no (by decide))) (q.2.1 pc_claim (List.Mem.tail _ (List.Mem.head _))).1, toMix pc_sworn_ok (by decide) (fun j => u2 194 j (wr_no (by decide))) (q.2.1 pc_sworn (List.Mem.tail _ (List.Mem.tail _ (List.Mem.head _)))).1⟩
      obtain ⟨g1, g2⟩ := com_eq (s := (ρ 3).toNat) (r := (h 205 (ρ 3).toNat).toNat) (f := ρ 4) (by omega) (by omega) (ρ 5).toNat 0 0 h h1 q2 (by rw [c7]; omega) (fun i hi => by rw [c8]; exact shI qs (by omega) (by omega) hi) ht u1
      obtain ⟨w1, w2, w3, w4⟩ := comM_TH (r := (h 205 (ρ 3).toNat).toNat) (f := ρ 4) (by omega) (ρ 5).toNat 0 0 h1 u1 (by omega) (by omega) (by omega)
      rw [← e2] at w1 w2
      rw [← e1, ← e2] at g2
      have f9 : ∀ a j, a < 193 → h2 a j = h1 a j := fun a j z => w2 a j (by
        cases e9 : wrF (some w_claimM) a j with
        | false => rfl
        | true =>
          obtain ⟨y, hy, y1, _⟩ := wr_x e9
          have := List.all_eq_true.mp (show (w_claimM.all fun p => p.1 == 194) = true by decide) y hy
          simp only [beq_iff_eq] at this
          omega)
      refine ⟨RR_op (w := w_claimB ++ w_claimM) PS_ok GS_ok (fun a j e => by
        have := wr_app e
        rw [w2 a j this.2, u2 a j this.1]) (by decide +kernel) (List.forall_mem_cons.mpr ⟨⟨by decide +kernel, Or.inl (by decide +kernel)⟩, (List.forall_mem_cons.mpr ⟨⟨by decide +kernel, Or.inr (ofMix pc_claim_ok f9 g2.1)⟩, (List.forall_mem_cons.mpr ⟨⟨by decide +kernel, Or.inr (ofMix pc_sworn_ok f9 g2.2)⟩, (List.forall_mem_cons.mpr ⟨⟨by decide +kernel, Or.inl (by decide +kernel)⟩, (fun _ hc => by cases hc)⟩)⟩)⟩)⟩) (List.forall_mem_cons.mpr ⟨Or.inl (by decide +kernel), (fun _ hc => by cases hc)⟩) q, by rw [g1]⟩
theorem bit_of {x : Int} {i : Nat} (hi : i < 32) (h : andI (shrI x ((i : Nat) : Int)) 1 ≠ 0) : bitB x i = true := by
  rw [bit_rd hi] at h
  cases e : bitB x i with
  | true => rfl
  | false => rw [e] at h; exact absurd rfl h
theorem sw_tab {sb lb y w : Int} {C : Nat} (hC : C < 16) (q : swF sb lb y C) : (andI (shrI sb ((C : Nat) : Int)) 1 = 0 ∧ andI (shrI lb ((C : Nat) : Int)) 1 = 0 ∧ y = 0 ∧ andI y 1 = 0 ∧ (w ≠ 0 ∨ orI y (shlI 1 w) = 1) ∧ (w ≠ 1 ∨ orI y (shlI 1 w) = 2)) ∨ (andI (shrI sb ((C : Nat) : Int)) 1 = 1 ∧ andI (shrI lb ((C : Nat) : Int)) 1 = 0 ∧ y = 1 ∧ andI y 1 = 1 ∧ (w ≠ 0 ∨ orI y (shlI 1 w) = 1) ∧ (w ≠ 1 ∨ orI y (shlI 1 w) = 3)) ∨ (andI (shrI sb ((C : Nat) : Int)) 1 = 0 ∧ andI (shrI lb ((C : Nat) : Int)) 1 = 1 ∧ y = 2 ∧ andI y 1 = 0 ∧ (w ≠ 0 ∨ orI y (shlI 1 w) = 3) ∧ (w ≠ 1 ∨ orI y (shlI 1 w) = 2)) ∨ (andI (shrI sb ((C : Nat) : Int)) 1 = 1 ∧ andI (shrI lb ((C : Nat) : Int)) 1 = 1 ∧ y = 3 ∧ andI y 1 = 1 ∧ (w ≠ 0 ∨ orI y (shlI 1 w) = 3) ∧ (w ≠ 1 ∨ orI y (shlI 1 w) = 3)) := by
  have d : ∀ y : Int, y = 0 ∨ y = 1 ∨ y = 2 ∨ y = 3 → True := fun _ _ => trivial
  have w0 : ∀ v z : Int, orI v (shlI 1 0) = z → w ≠ 0 ∨ orI v (shlI 1 w) = z := fun v z e => by
    by_cases h : w = 0
    · rw [h]; exact Or.inr e
    · exact Or.inl h
  have w1 : ∀ v z : Int, orI v (shlI 1 1) = z → w ≠ 1 ∨ orI v (shlI 1 w) = z := fun v z e => by
    by_cases h : w = 1
    · rw [h]; exact Or.inr e
    · exact Or.inl h
  unfold swF at q
  rw [bit_rd (by omega), bit_rd (by omega)]
  cases hb : bitB sb C <;> cases hl : bitB lb C <;> rw [hb, hl] at q
  · have q : y = 0 := q
    subst q
    exact Or.inl ⟨rfl, rfl, rfl, by decide, w0 _ _ (by decide), w1 _ _ (by decide)⟩
  · have q : y = 2 := q
    subst q
    exact Or.inr (Or.inr (Or.inl ⟨rfl, rfl, rfl, by decide, w0 _ _ (by decide), w1 _ _ (by decide)⟩))
  · have q : y = 1 := q
    subst q
    exact Or.inr (Or.inl ⟨rfl, rfl, rfl, by decide, w0 _ _ (by decide), w1 _ _ (by decide)⟩)
  · have q : y = 3 := q
    subst q
    exact Or.inr (Or.inr (Or.inr ⟨rfl, rfl, rfl, by decide, w0 _ _ (by decide), w1 _ _ (by decide)⟩))
theorem sw_w0 {sb lb y : Int} {C : Nat} (hC : C < 16) (q : swF sb lb y C) : swF (orI sb (shlI 1 ((C : Nat) : Int))) lb (orI y (shlI 1 0)) C ∧ (bitB sb C = true → swF sb lb (orI y (shlI 1 0)) C) := by
  have hs : bitB (orI sb (shlI 1 ((C : Nat) : Int))) C = true := by
    rw [bit_set (by omega) (by omega), decide_eq_true rfl, Bool.or_true]
  unfold swF at q ⊢
  rw [hs]
  cases hb : bitB sb C <;> cases hl : bitB lb C <;> rw [hb, hl] at q
  · have q : y = 0 := q
    subst q
    exact ⟨by decide, fun e => by cases e⟩
  · have q : y = 2 := q
    subst q
    exact ⟨by decide, fun e => by cases e⟩
  · have q : y = 1 := q
    subst q
    exact ⟨by decide, fun _ => by decide⟩
  · have q : y = 3 := q
    subst q
    exact ⟨by decide, fun _ => by decide⟩
theorem sw_w1 {sb lb y : Int} {C : Nat} (hC : C < 16) (q : swF sb lb y C) : swF sb (orI lb (shlI 1 ((C : Nat) : Int))) (orI y (shlI 1 1)) C ∧ (bitB lb C = true → swF sb lb (orI y (shlI 1 1)) C) := by
  have hs : bitB (orI lb (shlI 1 ((C : Nat) : Int))) C = true := by
    rw [bit_set (by omega) (by omega), decide_eq_true rfl, Bool.or_true]
  unfold swF at q ⊢
  rw [hs]
  cases hb : bitB sb C <;> cases hl : bitB lb C <;> rw [hb, hl] at q
  · have q : y = 0 := q
    subst q
    exact ⟨by decide, fun e => by cases e⟩
  · have q : y = 2 := q
    subst q
    exact ⟨by decide, fun _ => by decide⟩
  · have q : y = 1 := q
    subst q
    exact ⟨by decide, fun e => by cases e⟩
  · have q : y = 3 := q
    subst q
    exact ⟨by decide, fun _ => by decide⟩
theorem rel_swear {ρ : Nat → Int} {h h1 h2 : bH} {r1 r2 : Option bV} (q : RR PS GS h) (s1 : s_swearB (evS ρ [(2, fcon 0), (0, fid 3), (0, fid 4)]) h r1 h1) (s2 : s_swearM (evS ρ [(2, fcon 193), (0, fid 3), (0, fid 4)]) h1 r2 h2) : RR PS GS h2 ∧ r1 = r2 := by
  have ht : TH h := s1.1
  obtain ⟨nc, hnc, mnc, lnc, gnc⟩ : (recX (2, 1) 1 16 16 8 [3, 5, 8, 4, 6, 7, 9] [] f_claim).1 h 0 194 := (q.2.1 pc_claim (List.Mem.tail _ (List.Mem.head _))).1
  have qw : ∀ C : Nat, C < nc → swF (h 2 9) (h 2 10) (h 194 (16 + 8 * C + 7)) C := by
    obtain ⟨z, z1, z2, z3, z4, z5⟩ : pc_sworn.1 h 0 194 := (q.2.1 pc_sworn (List.Mem.tail _ (List.Mem.tail _ (List.Mem.head _)))).1
    have z1 : h 2 1 = (z : Int) := z1
    have hnc : h 2 1 = (nc : Int) := hnc
    obtain rfl : z = nc := by omega
    exact z4
  have tab := fun e : (ρ 3).toNat < nc => sw_tab (w := ρ 4) (show (ρ 3).toNat < 16 by omega) (qw (ρ 3).toNat e)
  have e3 : 0 ≤ ρ 3 → (((ρ 3).toNat : Nat) : Int) = ρ 3 := fun e => Int.toNat_of_nonneg e
  have tb : ¬ (0 ≤ ρ 3 ∧ ρ 3 < (nc : Int)) ∨ ((andI (shrI (h 2 9) (ρ 3)) 1 = 0 ∧ andI (shrI (h 2 10) (ρ 3)) 1 = 0 ∧ h 194 (16 + 8 * (ρ 3).toNat + 7) = 0 ∧ andI (h 194 (16 + 8 * (ρ 3).toNat + 7)) 1 = 0 ∧ (ρ 4 ≠ 0 ∨ orI (h 194 (16 + 8 * (ρ 3).toNat + 7)) (shlI 1 (ρ 4)) = 1) ∧ (ρ 4 ≠ 1 ∨ orI (h 194 (16 + 8 * (ρ 3).toNat + 7)) (shlI 1 (ρ 4)) = 2)) ∨ (andI (shrI (h 2 9) (ρ 3)) 1 = 1 ∧ andI (shrI (h 2 10) (ρ 3)) 1 = 0 ∧ h 194 (16 + 8 * (ρ 3).toNat + 7) = 1 ∧ andI (h 194 (16 + 8 * (ρ 3).toNat + 7)) 1 = 1 ∧ (ρ 4 ≠ 0 ∨ orI (h 194 (16 + 8 * (ρ 3).toNat + 7)) (shlI 1 (ρ 4)) = 1) ∧ (ρ 4 ≠ 1 ∨ orI (h 194 (16 + 8 * (ρ 3).toNat + 7)) (shlI 1 (ρ 4)) = 3)) ∨ (andI (shrI (h 2 9) (ρ 3)) 1 = 0 ∧ andI (shrI (h 2 10) (ρ 3)) 1 = 1 ∧ h 194 (16 + 8 * (ρ 3).toNat + 7) = 2 ∧ andI (h 194 (16 + 8 * (ρ 3).toNat + 7)) 1 = 0 ∧ (ρ 4 ≠ 0 ∨ orI (h 194 (16 + 8 * (ρ 3).toNat + 7)) (shlI 1 (ρ 4)) = 3) ∧ (ρ 4 ≠ 1 ∨ orI (h 194 (16 + 8 * (ρ 3).toNat + 7)) (shlI 1 (ρ 4)) = 2)) ∨ (andI (shrI (h 2 9) (ρ 3)) 1 = 1 ∧ andI (shrI (h 2 10) (ρ 3)) 1 = 1 ∧ h 194 (16 + 8 * (ρ 3).toNat + 7) = 3 ∧ andI (h 194 (16 + 8 * (ρ 3).toNat + 7)) 1 = 1 ∧ (ρ 4 ≠ 0 ∨ orI (h 194 (16 + 8 * (ρ 3).toNat + 7)) (shlI 1 (ρ 4)) = 3) ∧ (ρ 4 ≠ 1 ∨ orI (h 194 (16 + 8 * (ρ 3).toNat + 7)) (shlI 1 (ρ 4)) = 3))) := by
    by_cases e : 0 ≤ ρ 3 ∧ ρ 3 < (nc : Int)
    · have t := tab (by omega)
      rw [e3 e.1] at t
      exact Or.inr t
    · exact Or.inl e
  have t1 := s1.2 (ρ 3) (ρ 4) nc (h 2 9) (h 2 10) (show [((2 : Nat), ev ρ (fcon 0)), (0, ev ρ (fid 3)), (0, ev ρ (fid 4))] = [(2, ((0 : Nat) : Int)), (0, (ρ 3)), (0, (ρ 4))] from by rw [fcon_ev, fid_ev, fid_ev]; rfl) hnc rfl rfl
  rcases t1 with ⟨k1, rfl, rfl⟩ | ⟨k1, rfl, rfl⟩ | ⟨k1, rfl, rfl⟩ | ⟨k1, rfl, rfl⟩ | ⟨k1, rfl, rfl⟩ | ⟨k1, rfl, rfl⟩
  · have t2 := s2.2 (ρ 3) (ρ 4) nc (h 194 (16 + 8 * (ρ 3).toNat + 7)) (show [((2 : Nat), ev ρ (fcon 193)), (0, ev ρ (fid 3)), (0, ev ρ (fid 4))] = [(2, ((193 : Nat) : Int)), (0, (ρ 3)), (0, (ρ 4))] from by rw [fcon_ev, fid_ev, fid_ev]; rfl) mnc rfl
    rcases t2 with ⟨k2, rfl, rfl⟩ | ⟨k2, rfl, rfl⟩ | ⟨k2, rfl, rfl⟩ | ⟨k2, rfl, rfl⟩
    · exact ⟨q, rfl⟩
    · exfalso; omega
    · exfalso; omega
    · exfalso; omega
  · have t2 := s2.2 (ρ 3) (ρ 4) nc (h 194 (16 + 8 * (ρ 3).toNat + 7)) (show [((2 : Nat), ev ρ (fcon 193)), (0, ev ρ (fid 3)), (0, ev ρ (fid 4))] = [(2, ((193 : Nat) : Int)), (0, (ρ 3)), (0, (ρ 4))] from by rw [fcon_ev, fid_ev, fid_ev]; rfl) mnc rfl
    rcases t2 with ⟨k2, rfl, rfl⟩ | ⟨k2, rfl, rfl⟩ | ⟨k2, rfl, rfl⟩ | ⟨k2, rfl, rfl⟩
    · exfalso; omega
    · exfalso; omega
    · skip
      obtain ⟨c', e_c9⟩ : ∃ q : Nat, (ρ 3).toNat = q := ⟨_, rfl⟩
      rw [e_c9]
      obtain ⟨H, hH⟩ : ∃ H : bH, H = (hup h 194 (16 + 8 * c' + 7) (orI (h 194 (16 + 8 * c' + 7)) (shlI 1 (ρ 4)))) := ⟨_, rfl⟩
      rw [← hH]
      have fr : ∀ a j, wrF (some [(194, 16, 144)]) a j = false → H a j = h a j := by rw [hH]; exact (fr_up (fun _ _ _ => rfl) (wr_in (lo := 16) (hi := 144) (by decide) (by omega) (by omega)))
      have e3c : ρ 3 = ((c' : Nat) : Int) := by omega
      have qc := qw c' (by omega)
      have k9 := k1
      rw [e3c] at k9
      have gy : H 194 (16 + 8 * c' + 7) = orI (h 194 (16 + 8 * c' + 7)) (shlI 1 (ρ 4)) := by rw [hH]; exact hup_eq
      have g9 : H 2 9 = h 2 9 := by rw [hH]; exact (hup_ne (by decide))
      have g10 : H 2 10 = h 2 10 := by rw [hH]; exact (hup_ne (by decide))
      have eb : ∀ b, b < 16 → b ≠ c' → bitB (H 2 9) b = bitB (h 2 9) b ∧ bitB (H 2 10) b = bitB (h 2 10) b := fun b hb hn => ⟨by rw [g9], by rw [g10]⟩
      have ey : swF (H 2 9) (H 2 10) (H 194 (16 + 8 * c' + 7)) c' := by
        rw [gy, g9, g10]
        rcases (by omega : ρ 4 = 0 ∨ ρ 4 = 1) with e4 | e4
        · rw [e4]
          exact (sw_w0 (by omega) qc).2 (bit_of (by omega) (by omega))
        · rw [e4]
          exact (sw_w1 (by omega) qc).2 (bit_of (by omega) (by omega))
      have p_sworn : pc_sworn.1 H 0 194 := sworn_set (c := nc) (c' := c') (q.2.1 pc_sworn (List.Mem.tail _ (List.Mem.tail _ (List.Mem.head _)))).1 hnc (by omega) (by rw [hH]; exact (hup_ne (by decide))) (by rw [hH]; exact (hup_nj (by omega))) eb ey (fun j hj => (by rw [hH]; exact (hup_nj (by omega))))
      have p_claim : pc_claim.1 H 0 194 := by
        refine ⟨nc, (by rw [hH]; exact ((hup_ne (by decide))).trans hnc), (by rw [hH]; exact ((hup_nj (by omega))).trans mnc), lnc, fun b hb => ?_⟩
        have g := gnc b hb
        have x0 : H 3 b = h 3 b := by rw [hH]; exact (hup_ne (by decide))
        have x1 : H 5 b = h 5 b := by rw [hH]; exact (hup_ne (by decide))
        have x2 : H 8 b = h 8 b := by rw [hH]; exact (hup_ne (by decide))
        have x3 : H 4 b = h 4 b := by rw [hH]; exact (hup_ne (by decide))
        have x4 : H 6 b = h 6 b := by rw [hH]; exact (hup_ne (by decide))
        have x5 : H 7 b = h 7 b := by rw [hH]; exact (hup_ne (by decide))
        have x6 : H 9 b = h 9 b := by rw [hH]; exact (hup_ne (by decide))
        have y0 : H 194 (16 + 8 * b) = h 194 (16 + 8 * b) := by rw [hH]; exact (hup_nj (by omega))
        have y1 : H 194 (16 + 8 * b + 1) = h 194 (16 + 8 * b + 1) := by rw [hH]; exact (hup_nj (by omega))
        have y2 : H 194 (16 + 8 * b + 2) = h 194 (16 + 8 * b + 2) := by rw [hH]; exact (hup_nj (by omega))
        have y3 : H 194 (16 + 8 * b + 3) = h 194 (16 + 8 * b + 3) := by rw [hH]; exact (hup_nj (by omega))
        have y4 : H 194 (16 + 8 * b + 4) = h 194 (16 + 8 * b + 4) := by rw [hH]; exact (hup_nj (by omega))
        have y5 : H 194 (16 + 8 * b + 5) = h 194 (16 + 8 * b + 5) := by rw [hH]; exact (hup_nj (by omega))
        have y6 : H 194 (16 + 8 * b + 6) = h 194 (16 + 8 * b + 6) := by rw [hH]; exact (hup_nj (by omega))
        have g : (h 3 b) = (h 194 (16 + 8 * b)) ∧ (h 5 b) = (h 194 (16 + 8 * b + 1)) ∧ (h 8 b) = (h 194 (16 + 8 * b + 2)) ∧ (h 4 b) = (h 194 (16 + 8 * b + 3)) ∧ (h 6 b) = (h 194 (16 + 8 * b + 4)) ∧ (h 7 b) = (h 194 (16 + 8 * b + 5)) ∧ (h 9 b) = (h 194 (16 + 8 * b + 6)) := g
        show (H 3 b) = (H 194 (16 + 8 * b)) ∧ (H 5 b) = (H 194 (16 + 8 * b + 1)) ∧ (H 8 b) = (H 194 (16 + 8 * b + 2)) ∧ (H 4 b) = (H 194 (16 + 8 * b + 3)) ∧ (H 6 b) = (H 194 (16 + 8 * b + 4)) ∧ (H 7 b) = (H 194 (16 + 8 * b + 5)) ∧ (H 9 b) = (H 194 (16 + 8 * b + 6))
        omega
      exact ⟨RR_op PS_ok GS_ok fr (by decide +kernel) (List.forall_mem_cons.mpr ⟨⟨by decide +kernel, Or.inl (by decide +kernel)⟩, (List.forall_mem_cons.mpr ⟨⟨by decide +kernel, Or.inr p_claim⟩, (List.forall_mem_cons.mpr ⟨⟨by decide +kernel, Or.inr p_sworn⟩, (List.forall_mem_cons.mpr ⟨⟨by decide +kernel, Or.inl (by decide +kernel)⟩, (fun _ hc => by cases hc)⟩)⟩)⟩)⟩) (List.forall_mem_cons.mpr ⟨Or.inl (by decide +kernel), (fun _ hc => by cases hc)⟩) q, rfl⟩
    · exfalso; omega
  · have t2 := s2.2 (ρ 3) (ρ 4) nc (h 194 (16 + 8 * (ρ 3).toNat + 7)) (show [((2 : Nat), ev ρ (fcon 193)), (0, ev ρ (fid 3)), (0, ev ρ (fid 4))] = [(2, ((193 : Nat) : Int)), (0, (ρ 3)), (0, (ρ 4))] from by rw [fcon_ev, fid_ev, fid_ev]; rfl) ((hup_ne (by decide)).trans mnc) ((hup_ne (by decide)).trans rfl)
    rcases t2 with ⟨k2, rfl, rfl⟩ | ⟨k2, rfl, rfl⟩ | ⟨k2, rfl, rfl⟩ | ⟨k2, rfl, rfl⟩
    · exfalso; omega
    · exfalso; omega
    · exfalso; omega
    · skip
      obtain ⟨c', e_c9⟩ : ∃ q : Nat, (ρ 3).toNat = q := ⟨_, rfl⟩
      rw [e_c9]
      obtain ⟨H, hH⟩ : ∃ H : bH, H = (hup (hup h 2 (9) (orI (h 2 9) (shlI 1 (ρ 3)))) 194 (16 + 8 * c' + 7) (orI (h 194 (16 + 8 * c' + 7)) (shlI 1 (ρ 4)))) := ⟨_, rfl⟩
      rw [← hH]
      have fr : ∀ a j, wrF (some [(2, 9, 10), (194, 16, 144)]) a j = false → H a j = h a j := by rw [hH]; exact (fr_up (fr_up (fun _ _ _ => rfl) (wr_in (lo := 9) (hi := 10) (by decide) (by omega) (by omega))) (wr_in (lo := 16) (hi := 144) (by decide) (by omega) (by omega)))
      have e3c : ρ 3 = ((c' : Nat) : Int) := by omega
      have qc := qw c' (by omega)
      have k9 := k1
      rw [e3c] at k9
      have gy : H 194 (16 + 8 * c' + 7) = orI (h 194 (16 + 8 * c' + 7)) (shlI 1 (ρ 4)) := by rw [hH]; exact hup_eq
      have g9 : H 2 9 = orI (h 2 9) (shlI 1 (ρ 3)) := by rw [hH]; exact ((hup_ne (by decide)).trans hup_eq)
      have g10 : H 2 10 = h 2 10 := by rw [hH]; exact ((hup_ne (by decide)).trans (hup_nj (by omega)))
      rw [e3c] at g9
      have eb : ∀ b, b < 16 → b ≠ c' → bitB (H 2 9) b = bitB (h 2 9) b ∧ bitB (H 2 10) b = bitB (h 2 10) b := fun b hb hn => ⟨by rw [g9]; exact (bit_set (by omega) (by omega)).trans (by rw [decide_eq_false hn, Bool.or_false]), by rw [g10]⟩
      have ey : swF (H 2 9) (H 2 10) (H 194 (16 + 8 * c' + 7)) c' := by
        rw [gy, g9, g10]
        rcases (by omega : ρ 4 = 0 ∨ ρ 4 = 1) with e4 | e4
        · rw [e4]
          exact (sw_w0 (by omega) qc).1
        · rw [e4]
          exfalso; omega
      have p_sworn : pc_sworn.1 H 0 194 := sworn_set (c := nc) (c' := c') (q.2.1 pc_sworn (List.Mem.tail _ (List.Mem.tail _ (List.Mem.head _)))).1 hnc (by omega) (by rw [hH]; exact ((hup_ne (by decide)).trans (hup_nj (by omega)))) (by rw [hH]; exact ((hup_nj (by omega)).trans (hup_ne (by decide)))) eb ey (fun j hj => (by rw [hH]; exact ((hup_nj (by omega)).trans (hup_ne (by decide)))))
      have p_claim : pc_claim.1 H 0 194 := by
        refine ⟨nc, (by rw [hH]; exact (((hup_ne (by decide)).trans (hup_nj (by omega)))).trans hnc), (by rw [hH]; exact (((hup_nj (by omega)).trans (hup_ne (by decide)))).trans mnc), lnc, fun b hb => ?_⟩
        have g := gnc b hb
        have x0 : H 3 b = h 3 b := by rw [hH]; exact ((hup_ne (by decide)).trans (hup_ne (by decide)))
        have x1 : H 5 b = h 5 b := by rw [hH]; exact ((hup_ne (by decide)).trans (hup_ne (by decide)))
        have x2 : H 8 b = h 8 b := by rw [hH]; exact ((hup_ne (by decide)).trans (hup_ne (by decide)))
        have x3 : H 4 b = h 4 b := by rw [hH]; exact ((hup_ne (by decide)).trans (hup_ne (by decide)))
        have x4 : H 6 b = h 6 b := by rw [hH]; exact ((hup_ne (by decide)).trans (hup_ne (by decide)))
        have x5 : H 7 b = h 7 b := by rw [hH]; exact ((hup_ne (by decide)).trans (hup_ne (by decide)))
        have x6 : H 9 b = h 9 b := by rw [hH]; exact ((hup_ne (by decide)).trans (hup_ne (by decide)))
        have y0 : H 194 (16 + 8 * b) = h 194 (16 + 8 * b) := by rw [hH]; exact ((hup_nj (by omega)).trans (hup_ne (by decide)))
        have y1 : H 194 (16 + 8 * b + 1) = h 194 (16 + 8 * b + 1) := by rw [hH]; exact ((hup_nj (by omega)).trans (hup_ne (by decide)))
        have y2 : H 194 (16 + 8 * b + 2) = h 194 (16 + 8 * b + 2) := by rw [hH]; exact ((hup_nj (by omega)).trans (hup_ne (by decide)))
        have y3 : H 194 (16 + 8 * b + 3) = h 194 (16 + 8 * b + 3) := by rw [hH]; exact ((hup_nj (by omega)).trans (hup_ne (by decide)))
        have y4 : H 194 (16 + 8 * b + 4) = h 194 (16 + 8 * b + 4) := by rw [hH]; exact ((hup_nj (by omega)).trans (hup_ne (by decide)))
        have y5 : H 194 (16 + 8 * b + 5) = h 194 (16 + 8 * b + 5) := by rw [hH]; exact ((hup_nj (by omega)).trans (hup_ne (by decide)))
        have y6 : H 194 (16 + 8 * b + 6) = h 194 (16 + 8 * b + 6) := by rw [hH]; exact ((hup_nj (by omega)).trans (hup_ne (by decide)))
        have g : (h 3 b) = (h 194 (16 + 8 * b)) ∧ (h 5 b) = (h 194 (16 + 8 * b + 1)) ∧ (h 8 b) = (h 194 (16 + 8 * b + 2)) ∧ (h 4 b) = (h 194 (16 + 8 * b + 3)) ∧ (h 6 b) = (h 194 (16 + 8 * b + 4)) ∧ (h 7 b) = (h 194 (16 + 8 * b + 5)) ∧ (h 9 b) = (h 194 (16 + 8 * b + 6)) := g
        show (H 3 b) = (H 194 (16 + 8 * b)) ∧ (H 5 b) = (H 194 (16 + 8 * b + 1)) ∧ (H 8 b) = (H 194 (16 + 8 * b + 2)) ∧ (H 4 b) = (H 194 (16 + 8 * b + 3)) ∧ (H 6 b) = (H 194 (16 + 8 * b + 4)) ∧ (H 7 b) = (H 194 (16 + 8 * b + 5)) ∧ (H 9 b) = (H 194 (16 + 8 * b + 6))
        omega
      exact ⟨RR_op PS_ok GS_ok fr (by decide +kernel) (List.forall_mem_cons.mpr ⟨⟨by decide +kernel, Or.inl (by decide +kernel)⟩, (List.forall_mem_cons.mpr ⟨⟨by decide +kernel, Or.inr p_claim⟩, (List.forall_mem_cons.mpr ⟨⟨by decide +kernel, Or.inr p_sworn⟩, (List.forall_mem_cons.mpr ⟨⟨by decide +kernel, Or.inl (by decide +kernel)⟩, (fun _ hc => by cases hc)⟩)⟩)⟩)⟩) (List.forall_mem_cons.mpr ⟨Or.inl (by decide +kernel), (fun _ hc => by cases hc)⟩) q, rfl⟩
  · have t2 := s2.2 (ρ 3) (ρ 4) nc (h 194 (16 + 8 * (ρ 3).toNat + 7)) (show [((2 : Nat), ev ρ (fcon 193)), (0, ev ρ (fid 3)), (0, ev ρ (fid 4))] = [(2, ((193 : Nat) : Int)), (0, (ρ 3)), (0, (ρ 4))] from by rw [fcon_ev, fid_ev, fid_ev]; rfl) mnc rfl
    rcases t2 with ⟨k2, rfl, rfl⟩ | ⟨k2, rfl, rfl⟩ | ⟨k2, rfl, rfl⟩ | ⟨k2, rfl, rfl⟩
    · exfalso; omega
    · exact ⟨q, rfl⟩
    · exfalso; omega
    · exfalso; omega
  · have t2 := s2.2 (ρ 3) (ρ 4) nc (h 194 (16 + 8 * (ρ 3).toNat + 7)) (show [((2 : Nat), ev ρ (fcon 193)), (0, ev ρ (fid 3)), (0, ev ρ (fid 4))] = [(2, ((193 : Nat) : Int)), (0, (ρ 3)), (0, (ρ 4))] from by rw [fcon_ev, fid_ev, fid_ev]; rfl) mnc rfl
    rcases t2 with ⟨k2, rfl, rfl⟩ | ⟨k2, rfl, rfl⟩ | ⟨k2, rfl, rfl⟩ | ⟨k2, rfl, rfl⟩
    · exfalso; omega
    · exfalso; omega
    · skip
      obtain ⟨c', e_c9⟩ : ∃ q : Nat, (ρ 3).toNat = q := ⟨_, rfl⟩
      rw [e_c9]
      obtain ⟨H, hH⟩ : ∃ H : bH, H = (hup h 194 (16 + 8 * c' + 7) (orI (h 194 (16 + 8 * c' + 7)) (shlI 1 (ρ 4)))) := ⟨_, rfl⟩
      rw [← hH]
      have fr : ∀ a j, wrF (some [(194, 16, 144)]) a j = false → H a j = h a j := by rw [hH]; exact (fr_up (fun _ _ _ => rfl) (wr_in (lo := 16) (hi := 144) (by decide) (by omega) (by omega)))
      have e3c : ρ 3 = ((c' : Nat) : Int) := by omega
      have qc := qw c' (by omega)
      have k9 := k1
      rw [e3c] at k9
      have gy : H 194 (16 + 8 * c' + 7) = orI (h 194 (16 + 8 * c' + 7)) (shlI 1 (ρ 4)) := by rw [hH]; exact hup_eq
      have g9 : H 2 9 = h 2 9 := by rw [hH]; exact (hup_ne (by decide))
      have g10 : H 2 10 = h 2 10 := by rw [hH]; exact (hup_ne (by decide))
      have eb : ∀ b, b < 16 → b ≠ c' → bitB (H 2 9) b = bitB (h 2 9) b ∧ bitB (H 2 10) b = bitB (h 2 10) b := fun b hb hn => ⟨by rw [g9], by rw [g10]⟩
      have ey : swF (H 2 9) (H 2 10) (H 194 (16 + 8 * c' + 7)) c' := by
        rw [gy, g9, g10]
        rcases (by omega : ρ 4 = 0 ∨ ρ 4 = 1) with e4 | e4
        · rw [e4]
          exact (sw_w0 (by omega) qc).2 (bit_of (by omega) (by omega))
        · rw [e4]
          exact (sw_w1 (by omega) qc).2 (bit_of (by omega) (by omega))
      have p_sworn : pc_sworn.1 H 0 194 := sworn_set (c := nc) (c' := c') (q.2.1 pc_sworn (List.Mem.tail _ (List.Mem.tail _ (List.Mem.head _)))).1 hnc (by omega) (by rw [hH]; exact (hup_ne (by decide))) (by rw [hH]; exact (hup_nj (by omega))) eb ey (fun j hj => (by rw [hH]; exact (hup_nj (by omega))))
      have p_claim : pc_claim.1 H 0 194 := by
        refine ⟨nc, (by rw [hH]; exact ((hup_ne (by decide))).trans hnc), (by rw [hH]; exact ((hup_nj (by omega))).trans mnc), lnc, fun b hb => ?_⟩
        have g := gnc b hb
        have x0 : H 3 b = h 3 b := by rw [hH]; exact (hup_ne (by decide))
        have x1 : H 5 b = h 5 b := by rw [hH]; exact (hup_ne (by decide))
        have x2 : H 8 b = h 8 b := by rw [hH]; exact (hup_ne (by decide))
        have x3 : H 4 b = h 4 b := by rw [hH]; exact (hup_ne (by decide))
        have x4 : H 6 b = h 6 b := by rw [hH]; exact (hup_ne (by decide))
        have x5 : H 7 b = h 7 b := by rw [hH]; exact (hup_ne (by decide))
        have x6 : H 9 b = h 9 b := by rw [hH]; exact (hup_ne (by decide))
        have y0 : H 194 (16 + 8 * b) = h 194 (16 + 8 * b) := by rw [hH]; exact (hup_nj (by omega))
        have y1 : H 194 (16 + 8 * b + 1) = h 194 (16 + 8 * b + 1) := by rw [hH]; exact (hup_nj (by omega))
        have y2 : H 194 (16 + 8 * b + 2) = h 194 (16 + 8 * b + 2) := by rw [hH]; exact (hup_nj (by omega))
        have y3 : H 194 (16 + 8 * b + 3) = h 194 (16 + 8 * b + 3) := by rw [hH]; exact (hup_nj (by omega))
        have y4 : H 194 (16 + 8 * b + 4) = h 194 (16 + 8 * b + 4) := by rw [hH]; exact (hup_nj (by omega))
        have y5 : H 194 (16 + 8 * b + 5) = h 194 (16 + 8 * b + 5) := by rw [hH]; exact (hup_nj (by omega))
        have y6 : H 194 (16 + 8 * b + 6) = h 194 (16 + 8 * b + 6) := by rw [hH]; exact (hup_nj (by omega))
        have g : (h 3 b) = (h 194 (16 + 8 * b)) ∧ (h 5 b) = (h 194 (16 + 8 * b + 1)) ∧ (h 8 b) = (h 194 (16 + 8 * b + 2)) ∧ (h 4 b) = (h 194 (16 + 8 * b + 3)) ∧ (h 6 b) = (h 194 (16 + 8 * b + 4)) ∧ (h 7 b) = (h 194 (16 + 8 * b + 5)) ∧ (h 9 b) = (h 194 (16 + 8 * b + 6)) := g
        show (H 3 b) = (H 194 (16 + 8 * b)) ∧ (H 5 b) = (H 194 (16 + 8 * b + 1)) ∧ (H 8 b) = (H 194 (16 + 8 * b + 2)) ∧ (H 4 b) = (H 194 (16 + 8 * b + 3)) ∧ (H 6 b) = (H 194 (16 + 8 * b + 4)) ∧ (H 7 b) = (H 194 (16 + 8 * b + 5)) ∧ (H 9 b) = (H 194 (16 + 8 * b + 6))
        omega
      exact ⟨RR_op PS_ok GS_ok fr (by decide +kernel) (List.forall_mem_cons.mpr ⟨⟨by decide +kernel, Or.inl (by decide +kernel)⟩, (List.forall_mem_cons.mpr ⟨⟨by decide +kernel, Or.inr p_claim⟩, (List.forall_mem_cons.mpr ⟨⟨by decide +kernel, Or.inr p_sworn⟩, (List.forall_mem_cons.mpr ⟨⟨by decide +kernel, Or.inl (by decide +kernel)⟩, (fun _ hc => by cases hc)⟩)⟩)⟩)⟩) (List.forall_mem_cons.mpr ⟨Or.inl (by decide +kernel), (fun _ hc => by cases hc)⟩) q, rfl⟩
    · exfalso; omega
  · have t2 := s2.2 (ρ 3) (ρ 4) nc (h 194 (16 + 8 * (ρ 3).toNat + 7)) (show [((2 : Nat), ev ρ (fcon 193)), (0, ev ρ (fid 3)), (0, ev ρ (fid 4))] = [(2, ((193 : Nat) : Int)), (0, (ρ 3)), (0, (ρ 4))] from by rw [fcon_ev, fid_ev, fid_ev]; rfl) ((hup_ne (by decide)).trans mnc) ((hup_ne (by decide)).trans rfl)
    rcases t2 with ⟨k2, rfl, rfl⟩ | ⟨k2, rfl, rfl⟩ | ⟨k2, rfl, rfl⟩ | ⟨k2, rfl, rfl⟩
    · exfalso; omega
    · exfalso; omega
    · exfalso; omega
    · skip
      obtain ⟨c', e_c9⟩ : ∃ q : Nat, (ρ 3).toNat = q := ⟨_, rfl⟩
      rw [e_c9]
      obtain ⟨H, hH⟩ : ∃ H : bH, H = (hup (hup h 2 (10) (orI (h 2 10) (shlI 1 (ρ 3)))) 194 (16 + 8 * c' + 7) (orI (h 194 (16 + 8 * c' + 7)) (shlI 1 (ρ 4)))) := ⟨_, rfl⟩
      rw [← hH]
      have fr : ∀ a j, wrF (some [(2, 10, 11), (194, 16, 144)]) a j = false → H a j = h a j := by rw [hH]; exact (fr_up (fr_up (fun _ _ _ => rfl) (wr_in (lo := 10) (hi := 11) (by decide) (by omega) (by omega))) (wr_in (lo := 16) (hi := 144) (by decide) (by omega) (by omega)))
      have e3c : ρ 3 = ((c' : Nat) : Int) := by omega
      have qc := qw c' (by omega)
      have k9 := k1
      rw [e3c] at k9
      have gy : H 194 (16 + 8 * c' + 7) = orI (h 194 (16 + 8 * c' + 7)) (shlI 1 (ρ 4)) := by rw [hH]; exact hup_eq
      have g9 : H 2 9 = h 2 9 := by rw [hH]; exact ((hup_ne (by decide)).trans (hup_nj (by omega)))
      have g10 : H 2 10 = orI (h 2 10) (shlI 1 (ρ 3)) := by rw [hH]; exact ((hup_ne (by decide)).trans hup_eq)
      rw [e3c] at g10
      have eb : ∀ b, b < 16 → b ≠ c' → bitB (H 2 9) b = bitB (h 2 9) b ∧ bitB (H 2 10) b = bitB (h 2 10) b := fun b hb hn => ⟨by rw [g9], by rw [g10]; exact (bit_set (by omega) (by omega)).trans (by rw [decide_eq_false hn, Bool.or_false])⟩
      have ey : swF (H 2 9) (H 2 10) (H 194 (16 + 8 * c' + 7)) c' := by
        rw [gy, g9, g10]
        rcases (by omega : ρ 4 = 0 ∨ ρ 4 = 1) with e4 | e4
        · rw [e4]
          exfalso; omega
        · rw [e4]
          exact (sw_w1 (by omega) qc).1
      have p_sworn : pc_sworn.1 H 0 194 := sworn_set (c := nc) (c' := c') (q.2.1 pc_sworn (List.Mem.tail _ (List.Mem.tail _ (List.Mem.head _)))).1 hnc (by omega) (by rw [hH]; exact ((hup_ne (by decide)).trans (hup_nj (by omega)))) (by rw [hH]; exact ((hup_nj (by omega)).trans (hup_ne (by decide)))) eb ey (fun j hj => (by rw [hH]; exact ((hup_nj (by omega)).trans (hup_ne (by decide)))))
      have p_claim : pc_claim.1 H 0 194 := by
        refine ⟨nc, (by rw [hH]; exact (((hup_ne (by decide)).trans (hup_nj (by omega)))).trans hnc), (by rw [hH]; exact (((hup_nj (by omega)).trans (hup_ne (by decide)))).trans mnc), lnc, fun b hb => ?_⟩
        have g := gnc b hb
        have x0 : H 3 b = h 3 b := by rw [hH]; exact ((hup_ne (by decide)).trans (hup_ne (by decide)))
        have x1 : H 5 b = h 5 b := by rw [hH]; exact ((hup_ne (by decide)).trans (hup_ne (by decide)))
        have x2 : H 8 b = h 8 b := by rw [hH]; exact ((hup_ne (by decide)).trans (hup_ne (by decide)))
        have x3 : H 4 b = h 4 b := by rw [hH]; exact ((hup_ne (by decide)).trans (hup_ne (by decide)))
        have x4 : H 6 b = h 6 b := by rw [hH]; exact ((hup_ne (by decide)).trans (hup_ne (by decide)))
        have x5 : H 7 b = h 7 b := by rw [hH]; exact ((hup_ne (by decide)).trans (hup_ne (by decide)))
        have x6 : H 9 b = h 9 b := by rw [hH]; exact ((hup_ne (by decide)).trans (hup_ne (by decide)))
        have y0 : H 194 (16 + 8 * b) = h 194 (16 + 8 * b) := by rw [hH]; exact ((hup_nj (by omega)).trans (hup_ne (by decide)))
        have y1 : H 194 (16 + 8 * b + 1) = h 194 (16 + 8 * b + 1) := by rw [hH]; exact ((hup_nj (by omega)).trans (hup_ne (by decide)))
        have y2 : H 194 (16 + 8 * b + 2) = h 194 (16 + 8 * b + 2) := by rw [hH]; exact ((hup_nj (by omega)).trans (hup_ne (by decide)))
        have y3 : H 194 (16 + 8 * b + 3) = h 194 (16 + 8 * b + 3) := by rw [hH]; exact ((hup_nj (by omega)).trans (hup_ne (by decide)))
        have y4 : H 194 (16 + 8 * b + 4) = h 194 (16 + 8 * b + 4) := by rw [hH]; exact ((hup_nj (by omega)).trans (hup_ne (by decide)))
        have y5 : H 194 (16 + 8 * b + 5) = h 194 (16 + 8 * b + 5) := by rw [hH]; exact ((hup_nj (by omega)).trans (hup_ne (by decide)))
        have y6 : H 194 (16 + 8 * b + 6) = h 194 (16 + 8 * b + 6) := by rw [hH]; exact ((hup_nj (by omega)).trans (hup_ne (by decide)))
        have g : (h 3 b) = (h 194 (16 + 8 * b)) ∧ (h 5 b) = (h 194 (16 + 8 * b + 1)) ∧ (h 8 b) = (h 194 (16 + 8 * b + 2)) ∧ (h 4 b) = (h 194 (16 + 8 * b + 3)) ∧ (h 6 b) = (h 194 (16 + 8 * b + 4)) ∧ (h 7 b) = (h 194 (16 + 8 * b + 5)) ∧ (h 9 b) = (h 194 (16 + 8 * b + 6)) := g
        show (H 3 b) = (H 194 (16 + 8 * b)) ∧ (H 5 b) = (H 194 (16 + 8 * b + 1)) ∧ (H 8 b) = (H 194 (16 + 8 * b + 2)) ∧ (H 4 b) = (H 194 (16 + 8 * b + 3)) ∧ (H 6 b) = (H 194 (16 + 8 * b + 4)) ∧ (H 7 b) = (H 194 (16 + 8 * b + 5)) ∧ (H 9 b) = (H 194 (16 + 8 * b + 6))
        omega
      exact ⟨RR_op PS_ok GS_ok fr (by decide +kernel) (List.forall_mem_cons.mpr ⟨⟨by decide +kernel, Or.inl (by decide +kernel)⟩, (List.forall_mem_cons.mpr ⟨⟨by decide +kernel, Or.inr p_claim⟩, (List.forall_mem_cons.mpr ⟨⟨by decide +kernel, Or.inr p_sworn⟩, (List.forall_mem_cons.mpr ⟨⟨by decide +kernel, Or.inl (by decide +kernel)⟩, (fun _ hc => by cases hc)⟩)⟩)⟩)⟩) (List.forall_mem_cons.mpr ⟨Or.inl (by decide +kernel), (fun _ hc => by cases hc)⟩) q, rfl⟩
theorem rel_word0 {ρ : Nat → Int} {h h1 h2 : bH} {r1 r2 : Option bV} (q : RR PS GS h) (s1 : s_wordB (evS ρ [(2, fcon 0), (0, fid 3), (0, fcon 0)]) h r1 h1) (s2 : s_wordM (evS ρ [(2, fcon 193), (0, fid 3), (0, fcon 0)]) h1 r2 h2) : RR PS GS h2 ∧ r1 = r2 := by
  have ht : TH h := s1.1
  have hN : h 2 0 = h 194 0 := (q.2.1 pc_now (List.Mem.head _)).1
  obtain ⟨c, hc, mc, lc, gc⟩ : (recX (2, 11) 2 20 144 3 [10, 11] [(2, 12)] f_word).1 h 0 194 := (q.2.1 pc_word (List.Mem.tail _ (List.Mem.tail _ (List.Mem.tail _ (List.Mem.head _))))).1
  obtain ⟨nc, hnc, mnc, lnc, gnc⟩ : (recX (2, 1) 1 16 16 8 [3, 5, 8, 4, 6, 7, 9] [] f_claim).1 h 0 194 := (q.2.1 pc_claim (List.Mem.tail _ (List.Mem.head _))).1
  have t1 := s1.2 (ρ 3) (0) c nc (h 2 0) (h 2 12) (show [((2 : Nat), ev ρ (fcon 0)), (0, ev ρ (fid 3)), (0, ev ρ (fcon (0)))] = [(2, ((0 : Nat) : Int)), (0, (ρ 3)), (0, (0))] from by rw [fcon_ev, fid_ev]; rfl) hc hnc rfl rfl
  rcases t1 with ⟨k1, rfl, rfl⟩ | ⟨k1, rfl, rfl⟩ | ⟨k1, rfl, rfl⟩ | ⟨k1, rfl, rfl⟩
  · have t2 := s2.2 (ρ 3) (0) c nc (h 2 0) (show [((2 : Nat), ev ρ (fcon 193)), (0, ev ρ (fid 3)), (0, ev ρ (fcon (0)))] = [(2, ((193 : Nat) : Int)), (0, (ρ 3)), (0, (0))] from by rw [fcon_ev, fid_ev, fcon_ev]; rfl) mc mnc hN.symm
    rcases t2 with ⟨k2, rfl, rfl⟩ | ⟨k2, rfl, rfl⟩ | ⟨k2, rfl, rfl⟩ | ⟨k2, rfl, rfl⟩
    · exact ⟨q, rfl⟩
    · exfalso; omega
    · exfalso; omega
    · exfalso; omega
  · have t2 := s2.2 (ρ 3) (0) c nc (h 2 0) (show [((2 : Nat), ev ρ (fcon 193)), (0, ev ρ (fid 3)), (0, ev ρ (fcon (0)))] = [(2, ((193 : Nat) : Int)), (0, (ρ 3)), (0, (0))] from by rw [fcon_ev, fid_ev, fcon_ev]; rfl) mc mnc hN.symm
    rcases t2 with ⟨k2, rfl, rfl⟩ | ⟨k2, rfl, rfl⟩ | ⟨k2, rfl, rfl⟩ | ⟨k2, rfl, rfl⟩
    · exfalso; omega
    · exact ⟨q, rfl⟩
    · exfalso; omega
    · exfalso; omega
  · have t2 := s2.2 (ρ 3) (0) c nc (h 2 0) (show [((2 : Nat), ev ρ (fcon 193)), (0, ev ρ (fid 3)), (0, ev ρ (fcon (0)))] = [(2, ((193 : Nat) : Int)), (0, (ρ 3)), (0, (0))] from by rw [fcon_ev, fid_ev, fcon_ev]; rfl) (((hup_ne (by decide)).trans ((hup_ne (by decide)).trans ((hup_ne (by decide)).trans (hup_ne (by decide))))).trans mc) (((hup_ne (by decide)).trans ((hup_ne (by decide)).trans ((hup_ne (by decide)).trans (hup_ne (by decide))))).trans mnc) (((hup_ne (by decide)).trans ((hup_ne (by decide)).trans ((hup_ne (by decide)).trans (hup_ne (by decide))))).trans hN.symm)
    rcases t2 with ⟨k2, rfl, rfl⟩ | ⟨k2, rfl, rfl⟩ | ⟨k2, rfl, rfl⟩ | ⟨k2, rfl, rfl⟩
    · exfalso; omega
    · exfalso; omega
    · exfalso; omega
    · exfalso; omega
  · have t2 := s2.2 (ρ 3) (0) c nc (h 2 0) (show [((2 : Nat), ev ρ (fcon 193)), (0, ev ρ (fid 3)), (0, ev ρ (fcon (0)))] = [(2, ((193 : Nat) : Int)), (0, (ρ 3)), (0, (0))] from by rw [fcon_ev, fid_ev, fcon_ev]; rfl) (((hup_ne (by decide)).trans ((hup_ne (by decide)).trans ((hup_ne (by decide)).trans (hup_ne (by decide))))).trans mc) (((hup_ne (by decide)).trans ((hup_ne (by decide)).trans ((hup_ne (by decide)).trans (hup_ne (by decide))))).trans mnc) (((hup_ne (by decide)).trans ((hup_ne (by decide)).trans ((hup_ne (by decide)).trans (hup_ne (by decide))))).trans hN.symm)
    rcases t2 with ⟨k2, rfl, rfl⟩ | ⟨k2, rfl, rfl⟩ | ⟨k2, rfl, rfl⟩ | ⟨k2, rfl, rfl⟩
    · exfalso; omega
    · exfalso; omega
    · exfalso; omega
    · skip
      obtain ⟨H, hH⟩ : ∃ H : bH, H = (hup (hup (hup (hup (hup (hup (hup (hup h 10 (c) ((ρ 3))) 11 (c) ((h 2 0))) 2 (12) (andI ((h 2 12)) (xorI (shlI 1 ((c : Nat) : Int)) (-1)))) 2 (11) (((c + 1) : Nat) : Int)) 194 ((144 + (3 * c))) ((ρ 3))) 194 (((144 + (3 * c)) + 1)) ((0 : Nat) : Int)) 194 (((144 + (3 * c)) + 2)) ((h 2 0))) 194 (2) (((c + 1) : Nat) : Int)) := ⟨_, rfl⟩
      rw [← hH]
      have fr : ∀ a j, wrF (some [(2, 11, 12), (2, 12, 13), (10, 0, 20), (11, 0, 20), (194, 2, 3), (194, 144, 204)]) a j = false → H a j = h a j := by rw [hH]; exact (fr_up (fr_up (fr_up (fr_up (fr_up (fr_up (fr_up (fr_up (fun _ _ _ => rfl) (wr_in (lo := 0) (hi := 20) (by decide) (by omega) (by omega))) (wr_in (lo := 0) (hi := 20) (by decide) (by omega) (by omega))) (wr_in (lo := 12) (hi := 13) (by decide) (by omega) (by omega))) (wr_in (lo := 11) (hi := 12) (by decide) (by omega) (by omega))) (wr_in (lo := 144) (hi := 204) (by decide) (by omega) (by omega))) (wr_in (lo := 144) (hi := 204) (by decide) (by omega) (by omega))) (wr_in (lo := 144) (hi := 204) (by decide) (by omega) (by omega))) (wr_in (lo := 2) (hi := 3) (by decide) (by omega) (by omega)))
      have e1 : H 2 (11) = (((c + 1) : Nat) : Int) := by rw [hH]; exact ((hup_ne (by decide)).trans ((hup_ne (by decide)).trans ((hup_ne (by decide)).trans ((hup_ne (by decide)).trans hup_eq))))
      have e2 : H 194 (2) = (((c + 1) : Nat) : Int) := by rw [hH]; exact hup_eq
      have x0 : H 10 (c) = ((ρ 3)) := by rw [hH]; exact ((hup_ne (by decide)).trans ((hup_ne (by decide)).trans ((hup_ne (by decide)).trans ((hup_ne (by decide)).trans ((hup_ne (by decide)).trans ((hup_ne (by decide)).trans ((hup_ne (by decide)).trans hup_eq)))))))
      have x1 : H 11 (c) = ((h 2 0)) := by rw [hH]; exact ((hup_ne (by decide)).trans ((hup_ne (by decide)).trans ((hup_ne (by decide)).trans ((hup_ne (by decide)).trans ((hup_ne (by decide)).trans ((hup_ne (by decide)).trans hup_eq))))))
      have y0 : H 194 (144 + 3 * c) = ((ρ 3)) := by rw [hH]; exact ((hup_nj (by omega)).trans ((hup_nj (by omega)).trans ((hup_nj (by omega)).trans hup_eq)))
      have y1 : H 194 (144 + 3 * c + 1) = ((0 : Nat) : Int) := by rw [hH]; exact ((hup_nj (by omega)).trans ((hup_nj (by omega)).trans hup_eq))
      have y2 : H 194 (144 + 3 * c + 2) = ((h 2 0)) := by rw [hH]; exact ((hup_nj (by omega)).trans hup_eq)
      have zz0 : H 2 (12) = (andI ((h 2 12)) (xorI (shlI 1 ((c : Nat) : Int)) (-1))) := by rw [hH]; exact ((hup_ne (by decide)).trans ((hup_ne (by decide)).trans ((hup_ne (by decide)).trans ((hup_ne (by decide)).trans ((hup_nj (by omega)).trans hup_eq)))))
      have p_word : pc_word.1 H 0 194 := by
        refine recX_push (As := [10, 11]) (zs := [(2, 12)]) (s := 3) (B := 144) (N := 20) (n0 := 2) (cn := (2, 11)) f_word_ok (t := 0) (D := 194) (c := c) hc (q.2.1 _ (List.Mem.tail _ (List.Mem.tail _ (List.Mem.tail _ (List.Mem.head _))))).1 (by omega) e1 e2 (fun i hi b hb => ?_) (fun j j1 j2 => ?_) (fun b x y hb q => by
          have q0 : x 0 = y 0 ∧ x 1 = y 2 ∧ y 1 = (if bitB (h 2 12) b = true then 1 else 0) := q
          show x 0 = y 0 ∧ x 1 = y 2 ∧ y 1 = (if bitB (H 2 12) b = true then 1 else 0)
          have e : bitB (H 2 12) b = bitB (h 2 12) b := by
            rw [zz0]
            refine (bit_clr (by omega) (by omega)).trans ?_
            rw [decide_eq_false (by omega)]
            cases bitB (h 2 12) b <;> rfl
          rw [e]
          exact q0) ?_
        · match i, hi with
          | 0, _ => exact (by rw [hH]; exact ((hup_ne (by decide)).trans ((hup_ne (by decide)).trans ((hup_ne (by decide)).trans ((hup_ne (by decide)).trans ((hup_ne (by decide)).trans ((hup_ne (by decide)).trans ((hup_ne (by decide)).trans (hup_nj (by omega))))))))) : H 10 b = h 10 b)
          | 1, _ => exact (by rw [hH]; exact ((hup_ne (by decide)).trans ((hup_ne (by decide)).trans ((hup_ne (by decide)).trans ((hup_ne (by decide)).trans ((hup_ne (by decide)).trans ((hup_ne (by decide)).trans ((hup_nj (by omega)).trans (hup_ne (by decide))))))))) : H 11 b = h 11 b)
          | i + 2, hi => exact absurd hi (by show ¬ i + 2 < 2; omega)
        · rw [hH]; exact ((hup_nj (by omega)).trans ((hup_nj (by omega)).trans ((hup_nj (by omega)).trans ((hup_nj (by omega)).trans ((hup_ne (by decide)).trans ((hup_ne (by decide)).trans ((hup_ne (by decide)).trans (hup_ne (by decide)))))))))
        · show (H 10 c) = (H 194 (144 + 3 * c)) ∧ (H 11 c) = (H 194 (144 + 3 * c + 2)) ∧ (H 194 (144 + 3 * c + 1)) = (if bitB (H 2 12) c = true then 1 else 0)
          have e : bitB (H 2 12) c = false := by
            rw [zz0]
            refine (bit_clr (by omega) (by omega)).trans ?_
            rw [decide_eq_true rfl]
            cases bitB (h 2 12) c <;> rfl
          rw [e]
          refine ⟨by omega, by omega, ?_⟩
          rw [y1]
          simp
      exact ⟨RR_op PS_ok GS_ok fr (by decide +kernel) (List.forall_mem_cons.mpr ⟨⟨by decide +kernel, Or.inl (by decide +kernel)⟩, (List.forall_mem_cons.mpr ⟨⟨by decide +kernel, Or.inl (by decide +kernel)⟩, (List.forall_mem_cons.mpr ⟨⟨by decide +kernel, Or.inl (by decide +kernel)⟩, (List.forall_mem_cons.mpr ⟨⟨by decide +kernel, Or.inr p_word⟩, (fun _ hc => by cases hc)⟩)⟩)⟩)⟩) (List.forall_mem_cons.mpr ⟨Or.inl (by decide +kernel), (fun _ hc => by cases hc)⟩) q, rfl⟩
theorem rel_word1 {ρ : Nat → Int} {h h1 h2 : bH} {r1 r2 : Option bV} (q : RR PS GS h) (s1 : s_wordB (evS ρ [(2, fcon 0), (0, fid 3), (0, fcon 1)]) h r1 h1) (s2 : s_wordM (evS ρ [(2, fcon 193), (0, fid 3), (0, fcon 1)]) h1 r2 h2) : RR PS GS h2 ∧ r1 = r2 := by
  have ht : TH h := s1.1
  have hN : h 2 0 = h 194 0 := (q.2.1 pc_now (List.Mem.head _)).1
  obtain ⟨c, hc, mc, lc, gc⟩ : (recX (2, 11) 2 20 144 3 [10, 11] [(2, 12)] f_word).1 h 0 194 := (q.2.1 pc_word (List.Mem.tail _ (List.Mem.tail _ (List.Mem.tail _ (List.Mem.head _))))).1
  obtain ⟨nc, hnc, mnc, lnc, gnc⟩ : (recX (2, 1) 1 16 16 8 [3, 5, 8, 4, 6, 7, 9] [] f_claim).1 h 0 194 := (q.2.1 pc_claim (List.Mem.tail _ (List.Mem.head _))).1
  have t1 := s1.2 (ρ 3) (1) c nc (h 2 0) (h 2 12) (show [((2 : Nat), ev ρ (fcon 0)), (0, ev ρ (fid 3)), (0, ev ρ (fcon (1)))] = [(2, ((0 : Nat) : Int)), (0, (ρ 3)), (0, (1))] from by rw [fcon_ev, fid_ev, fcon_ev]; rfl) hc hnc rfl rfl
  rcases t1 with ⟨k1, rfl, rfl⟩ | ⟨k1, rfl, rfl⟩ | ⟨k1, rfl, rfl⟩ | ⟨k1, rfl, rfl⟩
  · have t2 := s2.2 (ρ 3) (1) c nc (h 2 0) (show [((2 : Nat), ev ρ (fcon 193)), (0, ev ρ (fid 3)), (0, ev ρ (fcon (1)))] = [(2, ((193 : Nat) : Int)), (0, (ρ 3)), (0, (1))] from by rw [fcon_ev, fid_ev, fcon_ev]; rfl) mc mnc hN.symm
    rcases t2 with ⟨k2, rfl, rfl⟩ | ⟨k2, rfl, rfl⟩ | ⟨k2, rfl, rfl⟩ | ⟨k2, rfl, rfl⟩
    · exact ⟨q, rfl⟩
    · exfalso; omega
    · exfalso; omega
    · exfalso; omega
  · have t2 := s2.2 (ρ 3) (1) c nc (h 2 0) (show [((2 : Nat), ev ρ (fcon 193)), (0, ev ρ (fid 3)), (0, ev ρ (fcon (1)))] = [(2, ((193 : Nat) : Int)), (0, (ρ 3)), (0, (1))] from by rw [fcon_ev, fid_ev, fcon_ev]; rfl) mc mnc hN.symm
    rcases t2 with ⟨k2, rfl, rfl⟩ | ⟨k2, rfl, rfl⟩ | ⟨k2, rfl, rfl⟩ | ⟨k2, rfl, rfl⟩
    · exfalso; omega
    · exact ⟨q, rfl⟩
    · exfalso; omega
    · exfalso; omega
  · have t2 := s2.2 (ρ 3) (1) c nc (h 2 0) (show [((2 : Nat), ev ρ (fcon 193)), (0, ev ρ (fid 3)), (0, ev ρ (fcon (1)))] = [(2, ((193 : Nat) : Int)), (0, (ρ 3)), (0, (1))] from by rw [fcon_ev, fid_ev, fcon_ev]; rfl) (((hup_ne (by decide)).trans ((hup_ne (by decide)).trans ((hup_ne (by decide)).trans (hup_ne (by decide))))).trans mc) (((hup_ne (by decide)).trans ((hup_ne (by decide)).trans ((hup_ne (by decide)).trans (hup_ne (by decide))))).trans mnc) (((hup_ne (by decide)).trans ((hup_ne (by decide)).trans ((hup_ne (by decide)).trans (hup_ne (by decide))))).trans hN.symm)
    rcases t2 with ⟨k2, rfl, rfl⟩ | ⟨k2, rfl, rfl⟩ | ⟨k2, rfl, rfl⟩ | ⟨k2, rfl, rfl⟩
    · exfalso; omega
    · exfalso; omega
    · skip
      obtain ⟨H, hH⟩ : ∃ H : bH, H = (hup (hup (hup (hup (hup (hup (hup (hup h 10 (c) ((ρ 3))) 11 (c) ((h 2 0))) 2 (12) (orI ((h 2 12)) (shlI 1 ((c : Nat) : Int)))) 2 (11) (((c + 1) : Nat) : Int)) 194 ((144 + (3 * c))) ((ρ 3))) 194 (((144 + (3 * c)) + 1)) ((1 : Nat) : Int)) 194 (((144 + (3 * c)) + 2)) ((h 2 0))) 194 (2) (((c + 1) : Nat) : Int)) := ⟨_, rfl⟩
      rw [← hH]
      have fr : ∀ a j, wrF (some [(2, 11, 12), (2, 12, 13), (10, 0, 20), (11, 0, 20), (194, 2, 3), (194, 144, 204)]) a j = false → H a j = h a j := by rw [hH]; exact (fr_up (fr_up (fr_up (fr_up (fr_up (fr_up (fr_up (fr_up (fun _ _ _ => rfl) (wr_in (lo := 0) (hi := 20) (by decide) (by omega) (by omega))) (wr_in (lo := 0) (hi := 20) (by decide) (by omega) (by omega))) (wr_in (lo := 12) (hi := 13) (by decide) (by omega) (by omega))) (wr_in (lo := 11) (hi := 12) (by decide) (by omega) (by omega))) (wr_in (lo := 144) (hi := 204) (by decide) (by omega) (by omega))) (wr_in (lo := 144) (hi := 204) (by decide) (by omega) (by omega))) (wr_in (lo := 144) (hi := 204) (by decide) (by omega) (by omega))) (wr_in (lo := 2) (hi := 3) (by decide) (by omega) (by omega)))
      have e1 : H 2 (11) = (((c + 1) : Nat) : Int) := by rw [hH]; exact ((hup_ne (by decide)).trans ((hup_ne (by decide)).trans ((hup_ne (by decide)).trans ((hup_ne (by decide)).trans hup_eq))))
      have e2 : H 194 (2) = (((c + 1) : Nat) : Int) := by rw [hH]; exact hup_eq
      have x0 : H 10 (c) = ((ρ 3)) := by rw [hH]; exact ((hup_ne (by decide)).trans ((hup_ne (by decide)).trans ((hup_ne (by decide)).trans ((hup_ne (by decide)).trans ((hup_ne (by decide)).trans ((hup_ne (by decide)).trans ((hup_ne (by decide)).trans hup_eq)))))))
      have x1 : H 11 (c) = ((h 2 0)) := by rw [hH]; exact ((hup_ne (by decide)).trans ((hup_ne (by decide)).trans ((hup_ne (by decide)).trans ((hup_ne (by decide)).trans ((hup_ne (by decide)).trans ((hup_ne (by decide)).trans hup_eq))))))
      have y0 : H 194 (144 + 3 * c) = ((ρ 3)) := by rw [hH]; exact ((hup_nj (by omega)).trans ((hup_nj (by omega)).trans ((hup_nj (by omega)).trans hup_eq)))
      have y1 : H 194 (144 + 3 * c + 1) = ((1 : Nat) : Int) := by rw [hH]; exact ((hup_nj (by omega)).trans ((hup_nj (by omega)).trans hup_eq))
      have y2 : H 194 (144 + 3 * c + 2) = ((h 2 0)) := by rw [hH]; exact ((hup_nj (by omega)).trans hup_eq)
      have zz0 : H 2 (12) = (orI ((h 2 12)) (shlI 1 ((c : Nat) : Int))) := by rw [hH]; exact ((hup_ne (by decide)).trans ((hup_ne (by decide)).trans ((hup_ne (by decide)).trans ((hup_ne (by decide)).trans ((hup_nj (by omega)).trans hup_eq)))))
      have p_word : pc_word.1 H 0 194 := by
        refine recX_push (As := [10, 11]) (zs := [(2, 12)]) (s := 3) (B := 144) (N := 20) (n0 := 2) (cn := (2, 11)) f_word_ok (t := 0) (D := 194) (c := c) hc (q.2.1 _ (List.Mem.tail _ (List.Mem.tail _ (List.Mem.tail _ (List.Mem.head _))))).1 (by omega) e1 e2 (fun i hi b hb => ?_) (fun j j1 j2 => ?_) (fun b x y hb q => by
          have q0 : x 0 = y 0 ∧ x 1 = y 2 ∧ y 1 = (if bitB (h 2 12) b = true then 1 else 0) := q
          show x 0 = y 0 ∧ x 1 = y 2 ∧ y 1 = (if bitB (H 2 12) b = true then 1 else 0)
          have e : bitB (H 2 12) b = bitB (h 2 12) b := by
            rw [zz0]
            refine (bit_set (by omega) (by omega)).trans ?_
            rw [decide_eq_false (by omega)]
            cases bitB (h 2 12) b <;> rfl
          rw [e]
          exact q0) ?_
        · match i, hi with
          | 0, _ => exact (by rw [hH]; exact ((hup_ne (by decide)).trans ((hup_ne (by decide)).trans ((hup_ne (by decide)).trans ((hup_ne (by decide)).trans ((hup_ne (by decide)).trans ((hup_ne (by decide)).trans ((hup_ne (by decide)).trans (hup_nj (by omega))))))))) : H 10 b = h 10 b)
          | 1, _ => exact (by rw [hH]; exact ((hup_ne (by decide)).trans ((hup_ne (by decide)).trans ((hup_ne (by decide)).trans ((hup_ne (by decide)).trans ((hup_ne (by decide)).trans ((hup_ne (by decide)).trans ((hup_nj (by omega)).trans (hup_ne (by decide))))))))) : H 11 b = h 11 b)
          | i + 2, hi => exact absurd hi (by show ¬ i + 2 < 2; omega)
        · rw [hH]; exact ((hup_nj (by omega)).trans ((hup_nj (by omega)).trans ((hup_nj (by omega)).trans ((hup_nj (by omega)).trans ((hup_ne (by decide)).trans ((hup_ne (by decide)).trans ((hup_ne (by decide)).trans (hup_ne (by decide)))))))))
        · show (H 10 c) = (H 194 (144 + 3 * c)) ∧ (H 11 c) = (H 194 (144 + 3 * c + 2)) ∧ (H 194 (144 + 3 * c + 1)) = (if bitB (H 2 12) c = true then 1 else 0)
          have e : bitB (H 2 12) c = true := by
            rw [zz0]
            refine (bit_set (by omega) (by omega)).trans ?_
            rw [decide_eq_true rfl]
            cases bitB (h 2 12) c <;> rfl
          rw [e]
          refine ⟨by omega, by omega, ?_⟩
          rw [y1]
          simp
      exact ⟨RR_op PS_ok GS_ok fr (by decide +kernel) (List.forall_mem_cons.mpr ⟨⟨by decide +kernel, Or.inl (by decide +kernel)⟩, (List.forall_mem_cons.mpr ⟨⟨by decide +kernel, Or.inl (by decide +kernel)⟩, (List.forall_mem_cons.mpr ⟨⟨by decide +kernel, Or.inl (by decide +kernel)⟩, (List.forall_mem_cons.mpr ⟨⟨by decide +kernel, Or.inr p_word⟩, (fun _ hc => by cases hc)⟩)⟩)⟩)⟩) (List.forall_mem_cons.mpr ⟨Or.inl (by decide +kernel), (fun _ hc => by cases hc)⟩) q, rfl⟩
    · exfalso; omega
  · have t2 := s2.2 (ρ 3) (1) c nc (h 2 0) (show [((2 : Nat), ev ρ (fcon 193)), (0, ev ρ (fid 3)), (0, ev ρ (fcon (1)))] = [(2, ((193 : Nat) : Int)), (0, (ρ 3)), (0, (1))] from by rw [fcon_ev, fid_ev, fcon_ev]; rfl) (((hup_ne (by decide)).trans ((hup_ne (by decide)).trans ((hup_ne (by decide)).trans (hup_ne (by decide))))).trans mc) (((hup_ne (by decide)).trans ((hup_ne (by decide)).trans ((hup_ne (by decide)).trans (hup_ne (by decide))))).trans mnc) (((hup_ne (by decide)).trans ((hup_ne (by decide)).trans ((hup_ne (by decide)).trans (hup_ne (by decide))))).trans hN.symm)
    rcases t2 with ⟨k2, rfl, rfl⟩ | ⟨k2, rfl, rfl⟩ | ⟨k2, rfl, rfl⟩ | ⟨k2, rfl, rfl⟩
    · exfalso; omega
    · exfalso; omega
    · exfalso; omega
    · exfalso; omega
theorem dd_eq {h : bH} {n : Nat} {c k : Int} (ln : n ≤ 20) (q : ∀ b, b < n → (h 10 b) = (h 194 (144 + 3 * b)) ∧ (h 11 b) = (h 194 (144 + 3 * b + 2)) ∧ (h 194 (144 + 3 * b + 1)) = (if bitB (h 2 12) b = true then 1 else 0)) : ∀ b, b ≤ n → dM h c k b = dA h c k b
  | 0, _ => rfl
  | b + 1, hb => by
    have ih := dd_eq (c := c) (k := k) ln q b (by omega)
    obtain ⟨q1, q2, q3⟩ := q b (by omega)
    simp only [dM, dA]
    rw [ih, q1, q2]
    by_cases e : h 194 (144 + 3 * b) = c ∧ h 194 (144 + 3 * b + 2) ≤ k
    · rw [if_pos e, if_pos e, bit_rd (by omega), q3]
      cases bitB (h 2 12) b <;> simp
    · rw [if_neg e, if_neg e]
theorem rel_alive {ρ : Nat → Int} {h h1 h2 : bH} {r1 r2 : Option bV} (q : RR PS GS h) (s1 : s_aliveB (evS ρ [(2, fcon 0), (0, fid 3), (0, fid 4), (0, fid 5)]) h r1 h1) (s2 : s_aliveM (evS ρ [(2, fcon 193), (0, fid 3), (0, fid 4), (0, fid 5)]) h1 r2 h2) : RR PS GS h2 ∧ r1 = r2 := by
  have ht : TH h := s1.1
  obtain ⟨cw, hcw, mcw, lcw, gcw⟩ : (recX (2, 11) 2 20 144 3 [10, 11] [(2, 12)] f_word).1 h 0 194 := (q.2.1 pc_word (List.Mem.tail _ (List.Mem.tail _ (List.Mem.tail _ (List.Mem.head _))))).1
  obtain ⟨nc, hnc, mnc, lnc, gnc⟩ : (recX (2, 1) 1 16 16 8 [3, 5, 8, 4, 6, 7, 9] [] f_claim).1 h 0 194 := (q.2.1 pc_claim (List.Mem.tail _ (List.Mem.head _))).1
  have ed : dM h (((ρ 3).toNat : Nat) : Int) (ρ 5) cw = dA h (((ρ 3).toNat : Nat) : Int) (ρ 5) cw := dd_eq lcw gcw cw (Nat.le_refl _)
  have ec : (ρ 3).toNat < nc → ((h 3 (ρ 3).toNat) = (h 194 (16 + 8 * (ρ 3).toNat)) ∧ (h 5 (ρ 3).toNat) = (h 194 (16 + 8 * (ρ 3).toNat + 1)) ∧ (h 8 (ρ 3).toNat) = (h 194 (16 + 8 * (ρ 3).toNat + 2)) ∧ (h 4 (ρ 3).toNat) = (h 194 (16 + 8 * (ρ 3).toNat + 3)) ∧ (h 6 (ρ 3).toNat) = (h 194 (16 + 8 * (ρ 3).toNat + 4)) ∧ (h 7 (ρ 3).toNat) = (h 194 (16 + 8 * (ρ 3).toNat + 5)) ∧ (h 9 (ρ 3).toNat) = (h 194 (16 + 8 * (ρ 3).toNat + 6))) := fun e => gnc (ρ 3).toNat e
  have t1 := s1.2 (ρ 3) (ρ 4) (ρ 5) nc cw (show [((2 : Nat), ev ρ (fcon 0)), (0, ev ρ (fid 3)), (0, ev ρ (fid 4)), (0, ev ρ (fid 5))] = [(2, ((0 : Nat) : Int)), (0, (ρ 3)), (0, (ρ 4)), (0, (ρ 5))] from by rw [fcon_ev, fid_ev, fid_ev, fid_ev]; rfl) hnc hcw
  rcases t1 with ⟨k1, rfl, rfl⟩ | ⟨k1, rfl, rfl⟩ | ⟨k1, rfl, rfl⟩
  · have t2 := s2.2 (ρ 3) (ρ 4) (ρ 5) nc cw (show [((2 : Nat), ev ρ (fcon 193)), (0, ev ρ (fid 3)), (0, ev ρ (fid 4)), (0, ev ρ (fid 5))] = [(2, ((193 : Nat) : Int)), (0, (ρ 3)), (0, (ρ 4)), (0, (ρ 5))] from by rw [fcon_ev, fid_ev, fid_ev, fid_ev]; rfl) mnc mcw
    rcases t2 with ⟨k2, rfl, rfl⟩ | ⟨k2, rfl, rfl⟩ | ⟨k2, rfl, rfl⟩
    · exact ⟨q, rfl⟩
    · exfalso; omega
    · exfalso; omega
  · have t2 := s2.2 (ρ 3) (ρ 4) (ρ 5) nc cw (show [((2 : Nat), ev ρ (fcon 193)), (0, ev ρ (fid 3)), (0, ev ρ (fid 4)), (0, ev ρ (fid 5))] = [(2, ((193 : Nat) : Int)), (0, (ρ 3)), (0, (ρ 4)), (0, (ρ 5))] from by rw [fcon_ev, fid_ev, fid_ev, fid_ev]; rfl) mnc mcw
    rcases t2 with ⟨k2, rfl, rfl⟩ | ⟨k2, rfl, rfl⟩ | ⟨k2, rfl, rfl⟩
    · exfalso; omega
    · exact ⟨q, rfl⟩
    · exfalso; omega
  · have t2 := s2.2 (ρ 3) (ρ 4) (ρ 5) nc cw (show [((2 : Nat), ev ρ (fcon 193)), (0, ev ρ (fid 3)), (0, ev ρ (fid 4)), (0, ev ρ (fid 5))] = [(2, ((193 : Nat) : Int)), (0, (ρ 3)), (0, (ρ 4)), (0, (ρ 5))] from by rw [fcon_ev, fid_ev, fid_ev, fid_ev]; rfl) mnc mcw
    rcases t2 with ⟨k2, rfl, rfl⟩ | ⟨k2, rfl, rfl⟩ | ⟨k2, rfl, rfl⟩
    · exfalso; omega
    · exfalso; omega
    · exact ⟨q, rfl⟩
