section ST5
variable {g : bG} {l : Launch} {d k n0 n1 : Nat} {Q : bQ} {p : Program} {e : Env} {R : Room} {s : State} {m : MethodId} {args : Array Value} {below : List Frame} {meth : Method} {c : Code} {Z : State → Prop}
/-- an instruction on the stack's head, two ints or longs in, one out -/
theorem st_b2 {ta tb tr : Nat} {f : Int → Int → Option Int} {S S' : bS} {len : Nat} (h : b2 ta tb tr f S len = some S')
    (hop : ∀ (x y z : Int) (r : List Value) (H : Heap) (locs : List Loc) (ls : Array Slot), okk ta x → okk tb y → f x y = some z → okk tr z ∧ (W p l e R s m args below meth c H locs (S.2.2.2.1 - n0) (slN S.2.2.2.1 - slN n0) Z (F0 m (S.1 + len) ls (cvk g tr z :: r)) → W p l e R s m args below meth c H locs (S.2.2.2.1 - n0) (slN S.2.2.2.1 - slN n0) Z (F0 m S.1 ls (cvk g tb y :: cvk g ta x :: r))))
    (hk : Wg g l k n0 p e R s m args below meth c Z S') : Wg g l k n0 p e R s m args below meth c Z S := by
  intro H locs ls q
  obtain ⟨pc, lv, st, n, hh⟩ := S
  obtain ⟨x, y, z, r, rfl, hf, rfl⟩ := b2_x h
  obtain ⟨h1, h2⟩ := hop x y z (r.map (cv g)) H locs ls (ok1 (okr q.2.2.2.1)) (ok1 q.2.2.2.1) hf
  exact h2 (hk H locs ls (q.stk (okc h1 (okr (okr q.2.2.2.1)))))
theorem st_b1 {ta tr : Nat} {f : Int → Option Int} {S S' : bS} {len : Nat} (h : b1 ta tr f S len = some S')
    (hop : ∀ (x z : Int) (r : List Value) (H : Heap) (locs : List Loc) (ls : Array Slot), okk ta x → f x = some z → okk tr z ∧ (W p l e R s m args below meth c H locs (S.2.2.2.1 - n0) (slN S.2.2.2.1 - slN n0) Z (F0 m (S.1 + len) ls (cvk g tr z :: r)) → W p l e R s m args below meth c H locs (S.2.2.2.1 - n0) (slN S.2.2.2.1 - slN n0) Z (F0 m S.1 ls (cvk g ta x :: r))))
    (hk : Wg g l k n0 p e R s m args below meth c Z S') : Wg g l k n0 p e R s m args below meth c Z S := by
  intro H locs ls q
  obtain ⟨pc, lv, st, n, hh⟩ := S
  obtain ⟨x, z, r, rfl, hf, rfl⟩ := b1_x h
  obtain ⟨h1, h2⟩ := hop x z (r.map (cv g)) H locs ls (ok1 q.2.2.2.1) hf
  exact h2 (hk H locs ls (q.stk (okc h1 (okr q.2.2.2.1))))
theorem divI_x {x y z : Int} (h : divI x y = some z) : y ≠ 0 ∧ z = w32 (x.tdiv y) := by
  unfold divI at h; split at h
  · cases h
  · exact ⟨by assumption, (Option.some.inj h).symm⟩
theorem remI_x {x y z : Int} (h : remI x y = some z) : y ≠ 0 ∧ z = x.tmod y := by
  unfold remI at h; split at h
  · cases h
  · exact ⟨by assumption, (Option.some.inj h).symm⟩
theorem divL_x {x y z : Int} (h : divL x y = some z) : y ≠ 0 ∧ z = w64 (x.tdiv y) := by
  unfold divL at h; split at h
  · cases h
  · exact ⟨by assumption, (Option.some.inj h).symm⟩
theorem remL_x {x y z : Int} (h : remL x y = some z) : y ≠ 0 ∧ z = x.tmod y := by
  unfold remL at h; split at h
  · cases h
  · exact ⟨by assumption, (Option.some.inj h).symm⟩
theorem w32_out (x : Int) : in32 (w32 x) := w32_in x
theorem st_ld {tg j len : Nat} {S S' : bS} (h : bld tg j len S = some S')
    (hop : ∀ (x : Int) (r : List Value) (H : Heap) (locs : List Loc) (ls : Array Slot), ls[j]? = some (.val (cvk g tg x)) → W p l e R s m args below meth c H locs (S.2.2.2.1 - n0) (slN S.2.2.2.1 - slN n0) Z (F0 m (S.1 + len) ls (cvk g tg x :: r)) → W p l e R s m args below meth c H locs (S.2.2.2.1 - n0) (slN S.2.2.2.1 - slN n0) Z (F0 m S.1 ls r))
    (hk : Wg g l k n0 p e R s m args below meth c Z S') : Wg g l k n0 p e R s m args below meth c Z S := by
  intro H locs ls q
  obtain ⟨pc, lv, st, n, hh⟩ := S
  obtain ⟨x, hl, rfl⟩ := bld_x h
  obtain ⟨h1, h2⟩ := q.look hl
  exact hop x (st.map (cv g)) H locs ls h1 (hk H locs ls (q.stk (okc h2 q.2.2.2.1)))
theorem keep_i {j : Nat} {lm : List (Nat × Value)} {v : Value} {q : Nat × Value} (hq : q ∈ lm) (hc : (!(q.1 == j) && (!((0 : Nat) == 1 && q.1 == j + 1) && !(q.1 + 1 == j && q.2.category == 2))) = true) : q ∈ (j, v) :: lm.filter (fun q => !(q.1 == j) && !(q.1 + 1 == j && q.2.category == 2)) := by
  refine List.mem_cons_of_mem _ (List.mem_filter.mpr ⟨hq, ?_⟩)
  simpa using hc
theorem keep_a {j : Nat} {lm : List (Nat × Value)} {v : Value} {q : Nat × Value} (hq : q ∈ lm) (hc : (!(q.1 == j) && (!((2 : Nat) == 1 && q.1 == j + 1) && !(q.1 + 1 == j && q.2.category == 2))) = true) : q ∈ (j, v) :: lm.filter (fun q => !(q.1 == j) && !(q.1 + 1 == j && q.2.category == 2)) := by
  refine List.mem_cons_of_mem _ (List.mem_filter.mpr ⟨hq, ?_⟩)
  simpa using hc
theorem keep_l {j : Nat} {lm : List (Nat × Value)} {v : Value} {q : Nat × Value} (hq : q ∈ lm) (hc : (!(q.1 == j) && (!((1 : Nat) == 1 && q.1 == j + 1) && !(q.1 + 1 == j && q.2.category == 2))) = true) : q ∈ (j, v) :: lm.filter (fun q => !(q.1 == j) && (!(q.1 == j + 1) && !(q.1 + 1 == j && q.2.category == 2))) := by
  refine List.mem_cons_of_mem _ (List.mem_filter.mpr ⟨hq, ?_⟩)
  simpa using hc
/-- a store: hop gives the machine's row -/
theorem st_st {tg j len nL : Nat} {S S' : bS} (hnL : nL = mml k) (h : bst tg j len nL S = some S')
    (hop : ∀ (x : Int) (r : List Value) (H : Heap) (locs : List Loc) (ls : Array Slot) (lv : List (Nat × Value)), okk tg x → lv_has ls nL lv → j + (if tg = 1 then 1 else 0) < nL → ((∀ (ls' : Array Slot) (lv' : List (Nat × Value)), lv_has ls' nL lv' → (j, cvk g tg x) ∈ lv' → (∀ q ∈ lv, (!(q.1 == j) && (!(tg == 1 && q.1 == j + 1) && !(q.1 + 1 == j && q.2.category == 2))) = true → q ∈ lv') → W p l e R s m args below meth c H locs (S.2.2.2.1 - n0) (slN S.2.2.2.1 - slN n0) Z (F0 m (S.1 + len) ls' r)) → W p l e R s m args below meth c H locs (S.2.2.2.1 - n0) (slN S.2.2.2.1 - slN n0) Z (F0 m S.1 ls (cvk g tg x :: r))))
    (hk : Wg g l k n0 p e R s m args below meth c Z S') : Wg g l k n0 p e R s m args below meth c Z S := by
  intro H locs ls q
  subst hnL
  obtain ⟨pc, lv, st, n, hh⟩ := S
  obtain ⟨x, r, rfl, hj, rfl⟩ := bst_x h
  have hxk : okk tg x := ok1 q.2.2.2.1
  refine hop x (r.map (cv g)) H locs ls (lv.map (clv g)) hxk q.2.1 hj fun ls' lv' a1 a2 a3 => ?_
  exact hk H locs ls' (q.put (lv_kept rfl a1 a3 a2) (okkeep q.2.2.1 hxk) (okr q.2.2.2.1))
theorem st_inc {j : Nat} {cn : Int} {S S' : bS} (hx : p.tables.exec = Jvm.exec) (hb : c.code = mcode k) (hd : decode (mcode k) S.1 = .ok (.iinc j cn, 3)) (h : biinc j cn (mml k) S = some S') (hk : Wg g l k n0 p e R s m args below meth c Z S') : Wg g l k n0 p e R s m args below meth c Z S := by
  intro H locs ls q
  obtain ⟨pc, lv, st, n, hh⟩ := S
  simp only [biinc] at h
  cases hl : lv.lookup j with
  | none => rw [hl] at h; cases h
  | some v =>
    obtain ⟨t, x⟩ := v
    rw [hl] at h
    dsimp only at h
    by_cases hc : t = 0 ∧ j < mml k
    case neg => rw [if_neg hc] at h; cases h
    rw [if_pos hc] at h
    cases h
    obtain ⟨rfl, hj⟩ := hc
    have hm := lookup_mem hl
    have hm2 : (j, Value.int (Int32.ofInt x)) ∈ lv.map (clv g) := List.mem_map.mpr ⟨_, hm, rfl⟩
    obtain ⟨z, hz⟩ := List.mem_iff_getElem?.mp hm2
    refine lv_iinc (k := z) (v := Int32.ofInt (w32 (x + cn))) hx hb hd q.2.1 hz (by rw [i32_add]) hj rfl fun ls' hl' => ?_
    exact hk H locs ls' (q.put (lv_kept (tg := 0) rfl hl' (fun q hq hc => keep_i hq hc) List.mem_cons_self) (okkeep q.2.2.1 (w32_in _)) q.2.2.2.1)
theorem lt_of_st {tg j nL : Nat} (h : j + (if tg = 1 then 1 else 0) < nL) : j < nL := by omega
end ST5
