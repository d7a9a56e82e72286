/-! THE CLAIM OUT OF ONE WALK OF THE LAW'S BODY. Your part is whole_start (and what it stands on); all else here is the same for every law, but numbers. -/
def R_law : String := "BoxLeavesLaw"
def lw_P (b : Addr) (xs : List Int32) (args : Array Value) (s : State) : Prop := args = #[.ref b] ∧ s.IntsAt b xs ∧ xs.length ≤ 3072 ∧ (Jvm.Cond.and given_1 narrow_1).before args s = true
def lw_Q (_ : Array Value) (s : State) (o : Outcome) (t : State) : Prop := o = .returned (some (.int 1)) ∧ Framed s o t [] 600000 7302250
def lw_Z (below : List Frame) (a : Array Value) (s : State) : State → Prop := fun t => ∃ o, t.status = .running ∧ Ended t below o ∧ lw_Q a s o t
/-- the law's own end, with 1 on the stack, nothing written that was there before, its room as the claim has it -/
theorem lw_ret {p : Program} {l : Launch} {e : Env} {s : State} {m : MethodId} {below : List Frame} {meth : Method} {c : Code} {b : Nat} (hx : p.tables.exec = Jvm.exec) (hb : c.code = code) (hr : meth.sig.returnType = ret) (hlocks : meth.locks = false) {pc : Nat} {H : Heap} {ls : Array Slot} (hdg : decode code pc = .ok (.ireturn, 1)) : W p l e room_1 s m #[Value.ref b] below meth c H [] 600000 7302250 (lw_Z below #[Value.ref b] s) (F0 m pc ls [.int 1]) := by
  intro T hT X
  obtain ⟨fs, hret, hrun, hended, hW, hframe⟩ := X.leave (v := some (.int 1)) (hlocks := hlocks) (fun h => by rw [hr] at h; cases h)
  have hmeth' : T.vm.method? m = some meth := X.method'
  refine ⟨T.setFrames fs, ?_, .returned (some (.int 1)), hrun, hended, rfl, ⟨_, rfl⟩, hW, hframe⟩
  jvm_step X.here [X.here.top, hx, hb, hdg, hmeth', hr, ret, narrow_b1]
  (try refine ⟨rfl, ?_⟩); (try refine ⟨rfl, ?_⟩)
  first | (intro acts; rw [hret _ acts rfl rfl rfl]) | rw [hret _ _ rfl rfl rfl]
  exact Steps.refl _
/-- what holds at the law's entry: the machine, the code, the tables' words (any of lw_tbl by 'hts w (by decide +kernel)'), the script of L ints xs at the cell b, what the Statement gives of the start (any of its parts by flat_of_before) -/
def lw_At (p : Program) (s : State) (m : MethodId) (meth : Method) (c : Code) (b L : Nat) (xs : Nat → Int32) : Prop :=
  p.tables.exec = Jvm.exec ∧ c.code = code ∧ meth.sig.returnType = ret ∧ c.maxLocals = 4 ∧ s.vm.findClass R_law = some m.cls ∧ (∀ w ∈ lw_tbl, w.before #[Value.ref b] s = true) ∧ va_X b L xs s s.heap ∧ b < s.heap.size ∧ meth.locks = false ∧ (Jvm.Cond.and given_1 narrow_1).before #[Value.ref b] s = true ∧ (Jvm.Cond.code x code maxLocals ret).before #[Value.ref b] s = true
/-- THE LAW, from its entry, out of its plain walk -/
def LawWP : Prop := ∀ (g : bG) (l : Launch), (gsc g).1 ≤ 3072 → WP g l 40 0 0 212 (fun r _ => r = some (0, 1)) (0, [(0, (2, 700))], [], 0, fun _ _ => 0)
theorem sl212 : slN 212 = 10168 ∧ slN 0 = 0 := by decide +kernel
theorem law_start (hLaw : LawWP) {p : Program} {e : Env} {s : State} {m : MethodId} {below : List Frame} {meth : Method} {c : Code} (l : Launch) {b L : Nat} {xs : Nat → Int32} (hL : L ≤ 3072) (C0 : lw_At p s m meth c b L xs) : W p l e room_1 s m #[Value.ref b] below meth c s.heap [] 0 0 (lw_Z below #[Value.ref b] s) (entryFrame m ([Value.ref b] : List Value).toArray 4) := by
  obtain ⟨hx, hb, hr, hml, hown, hts, hX, hbl, hlocks, hgv, hcw⟩ := C0
  obtain ⟨g, hg1, hg2, hK⟩ := ks_start hts hgv hX hbl hL
  have hgz : gsz g = s.heap.size := congrArg Array.size hg1
  have hgb : gb g = b := congrArg (·.1) hg2
  have hgl : (gsc g).1 = L := congrArg (fun q : Nat × bC => q.2.1) hg2
  have C : Cx g 0 p s m #[Value.ref b] meth c := ⟨hx, hb, hml, hr, hlocks, hown, fun w hw => by
    rcases List.mem_cons.mp hw with rfl | h
    · exact hcw
    · exact hts w (List.mem_filter.mp h).1, fun h => absurd h (by decide), hK⟩
  have e7 : cv g (2, 700) = .ref b := by
    rw [← hgb]; rfl
  have hl := lv_entry ([.ref b]) (n := 4) (Nat.le_of_ble_eq_true rfl)
  rw [lg_entry_eq]
  generalize (lg_sl ([.ref b]) ++ List.replicate (4 - (lg_sl ([.ref b])).length) Slot.unset).toArray = ls at hl ⊢
  have hRS : RS g 0 0 (fun _ _ => 0) [(0, (2, 700))] [] s.heap [] ls := by
    refine ⟨⟨by rw [hgz]; rfl, Nat.zero_le _, fun q _ => by rw [hg1], fun a ha => absurd ha (Nat.not_lt_zero a)⟩, ?_, ?_, ?_, ?_⟩
    · show lv_has ls 4 [(0, cv g (2, 700))]
      rw [e7]; exact hl
    · intro q hq
      rw [List.mem_singleton] at hq
      subst hq
      show (-1 : Int) ≤ 700
      omega
    · intro v hv; cases hv
    · intro v hv; cases hv
  have hw := hLaw g l (by rw [hgl]; exact hL) p e room_1 s m #[Value.ref b] below meth c (lw_Z below #[Value.ref b] s) ⟨C, ⟨by decide, by decide, by decide, by rw [sl212.1, sl212.2]; decide⟩, ?_⟩ s.heap [] ls hRS (Nat.le_refl _) (Nat.zero_le _)
  · exact hw
  · intro r h H locs ls pc i hH hlo hq hf hd hi
    subst hq
    cases bret_0 hi
    refine va_forget (fun q hq => by rw [← hgz]; exact hlo q hq) ?_
    refine W.widen (k := 600000) (n := 7302250) (by decide) (by rw [sl212.1, sl212.2]; decide) ?_
    exact lw_ret hx hb hr hlocks hd
