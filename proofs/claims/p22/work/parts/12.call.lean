theorem okM_x {k : Nat} (h : okM k = true) : Jvm.Cond.code (mname k) (mcode k) (mml k) (mret k) ∈ wA ∧ Jvm.Cond.initialized (mname k).cls ∈ wA ∧ ((mname k).cls ≠ "java/lang/invoke/MethodHandle" ∧ (mname k).cls ≠ "java/lang/invoke/VarHandle") ∧ plainFor (mname k) = true ∧ (parseMethodDescriptor (mname k).desc).map (fun d => d.parameters.length) = some (mnp k) ∧ (mst k = true → Jvm.Cond.static (mname k) ∈ wA) ∧ (mst k = false → Jvm.Cond.instanceMethod (mname k) ∈ wA ∧ ((mname k).name ≠ "<init>" → Jvm.Cond.selects (mname k).cls (mname k) (mname k) ∈ wA)) ∧ mml k ≤ 44 := by
  have wi : ∀ {i : Nat} {w : Jvm.Cond}, okW i w = true → w ∈ wA := fun h => okW_wA h
  unfold okM at h
  rw [Bool.and_eq_true, decide_eq_true_eq] at h
  obtain ⟨hk0, h⟩ := h
  cases hq : kMx[k]? with
  | none => rw [hq] at h; cases h
  | some q =>
    rw [hq] at h
    dsimp only at h
    simp only [Bool.and_eq_true, bne_iff_ne, beq_iff_eq, decide_eq_true_eq] at h
    obtain ⟨h1, h2, h3, h4, h5, h6, h7, h8⟩ := h
    have hg : kMx.getD k (0, 0, 0, 0, 0, 0) = q := by rw [List.getD_eq_getElem?_getD, hq]; rfl
    have hcode : Jvm.Cond.code (mname k) (mcode k) (mml k) (mret k) ∈ wA := by
      cases hw : tAt q.1 with
      | none => rw [hw] at h1; cases h1
      | some w =>
        rw [hw] at h1
        cases w with
        | code y b n r =>
          dsimp only at h1
          simp only [Bool.and_eq_true, beq_iff_eq] at h1
          obtain ⟨rfl, rfl, rfl, hgw⟩ := h1
          have hb : mcode k = b := by
            show mcd k = b
            unfold mcd codeAt
            rw [if_neg hk0, hg, hw]
          rw [hb]
          exact List.mem_filter.mpr ⟨tAt_mem hw, hgw⟩
        | _ => cases h1
    refine ⟨hcode, wi h2, ⟨h3, h4⟩, h5, by rw [h6]; unfold mnp; rw [hg], ?_, ?_, h8⟩
    · intro hs
      unfold mst at hs
      rw [hg, beq_iff_eq] at hs
      rw [if_pos hs] at h7
      exact wi h7
    · intro hs
      unfold mst at hs
      rw [hg] at hs
      rw [if_neg (by simpa using hs)] at h7
      simp only [Bool.and_eq_true, Bool.or_eq_true, beq_iff_eq] at h7
      exact ⟨wi h7.1, fun hn => wi (h7.2.resolve_left hn)⟩
section ST7
variable {g : bG} {l : Launch} {d k n0 n1 : Nat} {Q : bQ} {p : Program} {e : Env} {R : Room} {s : State} {m : MethodId} {args : Array Value} {below : List Frame} {meth : Method} {c : Code} {Z : State → Prop}
def rmd (d n0 n1 : Nat) : Room := { frames := d + 1, cells := n1 - n0, slots := slN n1 - slN n0, locals := 64 * (d + 1) }
def QcH (g : bG) (k n1 : Nat) (Q : bQ) : Array Value → State → Outcome → State → Prop := fun _ _ o t => ∃ (r : Option bV) (h : bH), o = .returned (r.map (cv g)) ∧ HR g n1 h t.heap ∧ bfit (mret k) r ∧ Q r h
def PcH (g : bG) (n0 : Nat) (vs : List bV) (h : bH) : Array Value → State → Prop := fun a U => a = (vs.map (cv g)).toArray ∧ HR g n0 h U.heap ∧ KS g U ∧ ∀ v ∈ vs, okv v
/-- the contract of method k, at depth d: from the contents h it comes to an answer with Q -/
def MH (g : bG) (l : Launch) (d k n0 n1 : Nat) (vs : List bV) (h : bH) (Q : bQ) : Prop :=
  Met l (mname k) (wsm k) (rmd d n0 n1) (PcH g n0 vs h) (QcH g k n1 Q) (n1 - n0) (slN n1 - slN n0) (fun q => gsz g ≤ q)
theorem bfit_ok {t : Option FieldType} {v : bV} (h : bfit t (some v)) : okv v := by
  obtain ⟨x, y⟩ := v
  match t, x, h with
  | some .int, 0, h => exact h
  | some .boolean, 0, h =>
    have h2 : 0 ≤ y ∧ y ≤ 1 := h
    show in32 y
    unfold in32; omega
  | some .long, 1, h => exact h
  | some (.object _), 2, h => exact h
  | some .char, 0, h =>
    have h2 : 0 ≤ y ∧ y < 65536 := h
    show in32 y
    unfold in32; omega
  | some .byte, 0, h =>
    have h2 : y = 0 := h
    show in32 y
    unfold in32; omega
theorem wA_pay {wk : Jvm.Cond} (hg : wk ∈ wA) {args : Array Value} {s : State} (hts : ∀ w ∈ wA, w.before args s = true) : ∀ w ∈ wk :: wA, ∀ (a' : Array Value) (U : State), s.WarmedH U.vm → w.before a' U = true := by
  intro w hw a' U hW
  have hm : w ∈ wA := by
    rcases List.mem_cons.mp hw with rfl | h
    · exact hg
    · exact h
  exact word_at hW (good_of_word (List.mem_filter.mp hm).2) (hts w hm)
theorem PcH_blind (g : bG) (n0 : Nat) (vs : List bV) (h : bH) : FrameBlind (PcH g n0 vs h) := fun a U gg mk q => ⟨q.1, q.2.1, KS.same rfl q.2.2.1, q.2.2.2⟩
/-- behind a call -/
theorem back_call {k' n n' pc : Nat} {lv : bL} {rest : List bV} {H : Heap} {locs : List Loc} {ls : Array Slot} {st0 : List Value} {a : Array Value}
    (E : Ex g l (d + 1) k n0 n1 Q p e R s m args below meth c Z) (hK : KS g s) (hl : lv_has ls (mml k) (lv.map (clv g))) (hlo : ∀ q ∈ lv, okv q.2) (hro : ∀ v ∈ rest, okv v) (hlc : ∀ q ∈ locs, gsz g ≤ q.base) (h0 : n0 ≤ n) (h1 : n ≤ n') (h2 : n' ≤ n1) (hsl : slN n0 ≤ slN n ∧ slN n ≤ slN n')
    (hr : va_Run p l e R s m args below meth c H locs (n - n0) (slN n - slN n0) (n' - n) (slN n' - slN n) (F0 m pc ls st0) (rest.map (cv g)) (QcH g k' n' (fun r h' => WP g l (d + 1) k n0 n1 Q (pc + 3, lv, r.toList ++ rest, n', h')) a) (fun q => gsz g ≤ q)) :
    W p l e R s m args below meth c H locs (n - n0) (slN n - slN n0) Z (F0 m pc ls st0) := by
  intro T hT X
  obtain ⟨v, st₀, t, T', L, e0, X', hL, e1, e2, ⟨r, h', hv, hH, hf, hQ⟩, st⟩ := hr T hT X
  cases hv
  have hrs : RS g k n' h' lv (r.toList ++ rest) T'.heap (locs ++ L) ls := by
    refine ⟨by rw [e1]; exact hH, hl, hlo, ?_, ?_⟩
    · intro w hw
      rcases List.mem_append.mp hw with hw | hw
      · cases r with
        | none => cases hw
        | some v =>
          have : w = v := by simpa using hw
          subst this
          exact bfit_ok hf
      · exact hro w hw
    · intro q hq
      rcases List.mem_append.mp hq with hq | hq
      · exact hlc q hq
      · exact hL q hq
  have hw := hQ p e R s m args below meth c Z E T'.heap (locs ++ L) ls hrs (by show n0 ≤ n'; omega) h2
  have en : n - n0 + (n' - n) = n' - n0 := by omega
  have es : slN n - slN n0 + (slN n' - slN n) = slN n' - slN n0 := by omega
  rw [en, es] at X'
  have em : (r.toList ++ rest).map (cv g) = (r.map (cv g)).toList ++ rest.map (cv g) := by
    rw [List.map_append]
    cases r <;> rfl
  dsimp only at hw
  rw [em] at hw
  obtain ⟨t2, a1, b1⟩ := hw T' rfl X'
  exact ⟨t2, st t2 a1, b1⟩
end ST7
