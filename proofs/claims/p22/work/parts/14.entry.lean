/-- a method's locals at its entry -/
def largs : Nat → List bV → bL
  | _, [] => []
  | i, v :: r => (i, v) :: largs (if v.1 = 1 then i + 2 else i + 1) r
theorem largs_map (g : bG) (vs : List bV) : ∀ i, (largs i vs).map (clv g) = lv_args i (vs.map (cv g)) := by
  induction vs with
  | nil => intro i; rfl
  | cons v r ih =>
    intro i
    show clv g (i, v) :: (largs _ r).map (clv g) = (i, cv g v) :: lv_args _ (r.map (cv g))
    rw [ih, cv_cat]
    congr 2
    by_cases h : v.1 = 1 <;> simp [h]
theorem largs_ok {vs : List bV} (h : ∀ v ∈ vs, okv v) : ∀ i, ∀ q ∈ largs i vs, okv q.2 := by
  induction vs with
  | nil => intro i q hq; cases hq
  | cons v r ih =>
    intro i q hq
    rcases List.mem_cons.mp hq with rfl | hq
    · exact h v List.mem_cons_self
    · exact ih (fun w hw => h w (List.mem_cons_of_mem _ hw)) _ q hq
theorem sl_len (g : bG) (vs : List bV) : (lg_sl (vs.map (cv g))).length = stw vs := by
  unfold lg_sl stw
  induction vs with
  | nil => rfl
  | cons v r ih =>
    rw [List.map_cons, List.flatMap_cons, List.length_append, ih, List.map_cons, List.sum_cons, cv_cat]
    congr 1
    by_cases h : v.1 = 1 <;> simp [h]
theorem bfit_c {ty : FieldType} {t : Nat} {x : Int} (h : bfit (some ty) (some (t, x))) : (ty = .int ∧ t = 0) ∨ (ty = .boolean ∧ t = 0 ∧ 0 ≤ x ∧ x ≤ 1) ∨ (ty = .long ∧ t = 1) ∨ (∃ n, ty = .object n ∧ t = 2) ∨ (ty = .char ∧ t = 0 ∧ 0 ≤ x ∧ x < 65536) ∨ (ty = .byte ∧ t = 0 ∧ x = 0) := by
  cases ty <;> rcases t with _ | _ | _ | t <;> first | exact h.elim | exact Or.inl ⟨rfl, rfl⟩ | exact Or.inr (Or.inl ⟨rfl, rfl, h⟩) | exact Or.inr (Or.inr (Or.inl ⟨rfl, rfl⟩)) | exact Or.inr (Or.inr (Or.inr (Or.inl ⟨_, rfl, rfl⟩))) | exact Or.inr (Or.inr (Or.inr (Or.inr (Or.inl ⟨rfl, rfl, h⟩)))) | exact Or.inr (Or.inr (Or.inr (Or.inr (Or.inr ⟨rfl, rfl, h⟩))))
theorem bret_0 {i : Instr} {x : Int} (h : bret i (some (0, x)) = true) : i = .ireturn := by
  cases i <;> first | rfl | cases h
theorem bret_1 {i : Instr} {x : Int} (h : bret i (some (1, x)) = true) : i = .lreturn := by
  cases i <;> first | rfl | cases h
theorem bret_2 {i : Instr} {x : Int} (h : bret i (some (2, x)) = true) : i = .areturn := by
  cases i <;> first | rfl | cases h
theorem bret_n {i : Instr} (h : bret i none = true) : i = .return_ := by
  cases i <;> first | rfl | cases h
section ST9
variable {g : bG} {l : Launch} {d k n0 n1 : Nat} {Q : bQ}
theorem wp_ret {r : Option bV} {i : Instr} {pc : Nat} {lv : bL} {st : List bV} {h : bH} (hd : decode (mcode k) pc = .ok (i, 1)) (hi : bret i r = true) (hs : st = r.toList) (hf : bfit (mret k) r) (hq : Q r h) : WP g l d k n0 n1 Q (pc, lv, st, n1, h) := by
  intro p e R s m args below meth c Z E H locs ls q h0 h1
  subst hs
  have w := E.2.2 r h H locs ls pc i q.1 q.2.2.2.2 hq hf hd hi
  have em : r.toList.map (cv g) = (r.map (cv g)).toList := by cases r <;> rfl
  dsimp only
  rw [em]
  exact w
theorem wp_step {t : Tok} {S S' : bS} (hd : decode (mcode k) S.1 = .ok (t.1, t.2.1)) (ht : okT k t = true) (hs : cst (gsc g) k t S = some S') (hn : S'.2.2.2.1 = S.2.2.2.1) (hk : WP g l d k n0 n1 Q S') : WP g l d k n0 n1 Q S := by
  intro p e R s m args below meth c Z E H locs ls q h0 h1
  exact cst_ok E.1 hd ht hs (fun H locs ls q => hk p e R s m args below meth c Z E H locs ls q (by rw [hn]; exact h0) (by rw [hn]; exact h1)) H locs ls q
theorem mh_of {vs : List bV} {h : bH} (hm : okM k = true) (hsz : stw vs ≤ mml k) (hn : n0 ≤ n1) (hW : WP g l d k n0 n1 Q (0, largs 0 vs, [], n0, h)) : MH g l d k n0 n1 vs h Q := by
  obtain ⟨o1, o2, o3, o4, o5, o6, o7, o8⟩ := okM_x hm
  refine va_MetF (cc := mcode k) (maxL := mml k) (ret := mret k) o4 rfl ?_
  intro p e s m args below meth c s₁ B hml hv
  obtain ⟨rfl, hH, hK, hok⟩ := hv
  have hx := B.exec
  have hb := B.bytes
  have hr := B.returns
  have hts : ∀ w ∈ wsm k, w.before (vs.map (cv g)).toArray s = true := atoms_spec (ws := wsm k) B.pre
  have hown : s.vm.findClass (mname k).cls = some m.cls := findClass_of_methodNamed B.named
  have hlocks := B.notSynchronized
  have hin : meth.name = (mname k).name := (name_of_methodNamed B.named B.method).1
  have C : Cx g k p s m (vs.map (cv g)).toArray meth c := ⟨hx, hb, hml, hr, hlocks, hown, hts, fun h => by rw [hin, h], hK⟩
  rw [lg_entry_eq]
  have hl := lv_entry (vs.map (cv g)) (n := mml k) (by rw [sl_len]; exact hsz)
  rw [← largs_map] at hl
  have hgo := hW p e (rmd d n0 n1) s m (vs.map (cv g)).toArray below meth c (MQ below (QcH g k n1 Q) (vs.map (cv g)).toArray s (n1 - n0) (slN n1 - slN n0) (fun q => gsz g ≤ q)) ⟨C, ⟨Nat.le_refl _, Nat.le_refl _, Nat.le_refl _, Nat.le_refl _⟩, ?_⟩ s.heap [] _ ⟨hH, hl, largs_ok hok 0, fun v hv => (by cases hv), fun q hq => (by cases hq)⟩ (Nat.le_refl _) hn
  · have e1 : n0 - n0 = 0 := Nat.sub_self _
    have e2 : slN n0 - slN n0 = 0 := Nat.sub_self _
    dsimp only at hgo
    rw [e1, e2] at hgo
    exact hgo
  · intro r h' H locs ls pc i hH' hlo hq hf hd hi
    have hq' : ∀ (v : Option Value), v = r.map (cv g) → ∀ t : State, t.heap = H → s.WarmedH t.vm → QcH g k n1 Q (vs.map (cv g)).toArray s (.returned v) t := fun v hv t ht hW => ⟨r, h', by rw [hv], by rw [ht]; exact hH', hf, hq⟩
    cases r with
    | none =>
      cases bret_n hi
      have hrt : mret k = none := by
        cases hmr : mret k with
        | none => rfl
        | some t => rw [hmr] at hf; cases t <;> exact hf.elim
      exact W.vret hx hb (hr.trans hrt) (hq' none rfl) hlo hd hlocks
    | some v =>
      obtain ⟨t, x⟩ := v
      cases hmr : mret k with
      | none => rw [hmr] at hf; exact hf.elim
      | some ty =>
        rw [hmr] at hf
        have hr2 := hr.trans hmr
        rcases bfit_c hf with ⟨rfl, rfl⟩ | ⟨rfl, rfl, h0, h1⟩ | ⟨rfl, rfl⟩ | ⟨n, rfl, rfl⟩ | ⟨rfl, rfl, h0, h1⟩ | ⟨rfl, rfl, rfl⟩
        · cases bret_0 hi
          exact W.iret hx hb hr2 (hq' _ rfl) hlo hd hlocks
        · cases bret_0 hi
          have hn : narrow .boolean (.int (Int32.ofInt x)) = .int (Int32.ofInt x) := by
            have h3 : x = 0 ∨ x = 1 := by omega
            rcases h3 with rfl | rfl <;> decide
          exact W.zret hx hb hr2 hn (hq' _ rfl) hlo hd hlocks
        · cases bret_1 hi
          exact W.lret hx hb hr2 (hq' _ rfl) hlo hd hlocks
        · cases bret_2 hi
          have hv : cv g (2, x) = .null ∨ ∃ a, cv g (2, x) = .ref a := by
            by_cases h0 : x < 0
            · exact Or.inl (cv_2n g h0)
            · exact Or.inr ⟨_, cv_2 g (by omega)⟩
          exact W.aret hx hb hr2 (Or.inl ⟨n, rfl⟩) hv (hq' _ rfl) hlo hd hlocks
        · cases bret_0 hi
          have hn : narrow .char (.int (Int32.ofInt x)) = .int (Int32.ofInt x) := by
            have h3 := (pk_charN (q := x.toNat) (by omega)).1
            have h4 : nI x.toNat = Int32.ofInt x := by
              show Int32.ofNat x.toNat = _
              rw [← Int32.ofInt_eq_ofNat]
              congr 1
              omega
            rw [h4] at h3
            exact h3
          exact W.zret hx hb hr2 hn (hq' _ rfl) hlo hd hlocks
        · cases bret_0 hi
          exact W.zret hx hb hr2 (by decide : narrow .byte (.int (Int32.ofInt 0)) = .int (Int32.ofInt 0)) (hq' _ rfl) hlo hd hlocks
end ST9
