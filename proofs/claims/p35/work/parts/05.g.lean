-- == 05.world.lean.txt
section
/-! THE WORLD: what the cells hold, what is known of the machine's tables, what a method's walk is over plain numbers -/
abbrev bG : Type := Heap × (Nat × bC) × (Nat → Nat) × (Nat → Nat) × (Nat → ClassId) × (Nat → Nat → Nat) × (Nat → ClassId) × Nat
abbrev gsz (g : bG) : Nat := g.1.size
abbrev gb (g : bG) : Nat := g.2.1.1
abbrev gsc (g : bG) : bC := g.2.1.2
abbrev gK (g : bG) : Nat → Nat := g.2.2.1
abbrev gV (g : bG) : Nat → Nat := g.2.2.2.1
abbrev gC (g : bG) : Nat → ClassId := g.2.2.2.2.1
abbrev gI (g : bG) : Nat → Nat → Nat := g.2.2.2.2.2.1
abbrev gA (g : bG) : Nat → ClassId := g.2.2.2.2.2.2.1
/-- the JDK's formatter -/
abbrev gF (g : bG) : Nat := g.2.2.2.2.2.2.2
/-- the address behind a reference's number: cells made, texts, the script -/
def ad (g : bG) (r : Nat) : Nat := if r < 512 then gsz g + r else if r < 600 then gK g (r - 512) else if r = 701 then gF g else if 800 ≤ r then gV g (r - 800) else gb g
def cvk (g : bG) : Nat → Int → Value
  | 1, x => .long (Int64.ofInt x)
  | 2, x => if x < 0 then .null else .ref (ad g x.toNat)
  | _, x => .int (Int32.ofInt x)
def cv (g : bG) (v : bV) : Value := cvk g v.1 v.2
def clv (g : bG) (q : Nat × bV) : Nat × Value := (q.1, cv g q.2)
theorem cv_0 (g : bG) (x : Int) : cv g (0, x) = .int (Int32.ofInt x) := rfl
theorem cv_1 (g : bG) (x : Int) : cv g (1, x) = .long (Int64.ofInt x) := rfl
theorem cv_2 (g : bG) {x : Int} (h : 0 ≤ x) : cv g (2, x) = .ref (ad g x.toNat) := by
  show (if x < 0 then Value.null else _) = _
  rw [if_neg (by omega)]
theorem cv_2n (g : bG) {x : Int} (h : x < 0) : cv g (2, x) = .null := by
  show (if x < 0 then Value.null else _) = _
  rw [if_pos h]
theorem ad_lo (g : bG) {r : Nat} (h : r < 512) : ad g r = gsz g + r := by
  unfold ad; rw [if_pos h]
theorem cv_cat (g : bG) (v : bV) : (cv g v).category = if v.1 = 1 then 2 else 1 := by
  obtain ⟨t, x⟩ := v
  match t with
  | 0 => rfl
  | 1 => rfl
  | 2 =>
    show (if x < 0 then Value.null else Value.ref (ad g x.toNat)).category = 1
    split <;> rfl
  | _ + 3 => rfl
def cellR (g : bG) (a : Nat) (f : Nat → Int) (H : Heap) : Prop := if (sh a).1 < 10 then H[gsz g + a]? = some (arrV (gA g (sh a).1) (sh a).2 (fun j => cvk g (lk a j) (f j))) else t_OB (gsz g + a) (gC g ((sh a).1 - 10)) (sh a).2 (gI g ((sh a).1 - 10)) H (fun j => cvk g (lk a j) (f j))
theorem cellR.kept {g : bG} {a : Nat} {f : Nat → Int} {H H1 : Heap} (h : cellR g a f H) (hq : H1[gsz g + a]? = H[gsz g + a]?) : cellR g a f H1 := by
  unfold cellR at h ⊢
  split
  · rename_i q; rw [if_pos q] at h; rw [hq]; exact h
  · rename_i q; rw [if_neg q] at h; exact h.kept hq
def HR (g : bG) (n : Nat) (h : bH) (H : Heap) : Prop :=
  H.size = gsz g + n ∧ n ≤ 212 ∧ (∀ q : Nat, q < gsz g → H[q]? = g.1[q]?) ∧ ∀ a, a < n → cellR g a (h a) H ∧ ∀ j, j < (sh a).2 → okk (lk a j) (h a j)
theorem HR.set {g : bG} {n : Nat} {h : bH} {H H1 : Heap} (q : HR g n h H) {a j : Nat} {x : Int} (ha : a < n) (hx : j < (sh a).2 → okk (lk a j) x) (hc : cellR g a (hup h a j x a) H1) (hs : H1.size = H.size) (ho : ∀ q : Nat, q ≠ gsz g + a → H1[q]? = H[q]?) : HR g n (hup h a j x) H1 := by
  obtain ⟨q1, q2, q3, q4⟩ := q
  refine ⟨by rw [hs]; exact q1, q2, fun z hz => by rw [ho z (by omega)]; exact q3 z hz, fun b hb => ?_⟩
  by_cases e : b = a
  · subst e
    refine ⟨hc, fun i hi => ?_⟩
    show okk (lk b i) (if b = b ∧ i = j then x else h b i)
    by_cases e2 : i = j
    · subst e2; rw [if_pos ⟨rfl, rfl⟩]; exact hx hi
    · rw [if_neg (fun z => e2 z.2)]; exact (q4 b hb).2 i hi
  · have e3 : hup h a j x b = h b := funext fun i => if_neg (fun z => e z.1)
    rw [e3]
    exact ⟨(q4 b hb).1.kept (ho _ (by omega)), (q4 b hb).2⟩
def kSbyt : List (List Int32) := kStr.map fun q => q.2.toList.map fun ch => Int32.ofNat ch.toNat
def kSlen : List Nat := kStr.map fun q => q.2.toList.length
def KS (g : bG) (s : State) : Prop :=
  (∀ c q, kCls[c]? = some q → u_Kn s q.1 q.2.1 q.2.2 (gC g c) (gI g c)) ∧
  ((ArrOfT s (gA g 0) .int ∧ va_RA s (gA g 0) .int) ∧ (ArrOfT s (gA g 1) .long ∧ va_RA s (gA g 1) .long) ∧ (ArrOfT s (gA g 2) (.object "BoxLeaves$Terms") ∧ va_RA s (gA g 2) (.object "BoxLeaves$Terms")) ∧ (ArrOfT s (gA g 3) (.array .long) ∧ va_RA s (gA g 3) (.array .long) ∧ va_AO "BoxLeaves$Terms" s ∧ bAO (.array .long) s)) ∧
  (∀ q ∈ kNest, va_Nw (.methodLinkNest q.1 q.2.1 q.2.2 "BoxLeaves") s) ∧
  (∀ i q, kStr[i]? = some q → vk_R "BoxLeaves$Tape" q.1 q.2 (gK g i) s) ∧
  vk_S 20 kSlen kSbyt (gK g) (gV g) (fun q => gsz g ≤ q) s g.1 ∧
  va_Z "java/lang/String" "COMPACT_STRINGS" "Z" (.int 1) (fun q => gsz g ≤ q) s g.1 ∧
  (va_Z "jdk/internal/util/Preconditions" "SIOOBE_FORMATTER" "Ljava/util/function/BiFunction;" .null (fun q => gsz g ≤ q) s g.1 ∨ va_Z "jdk/internal/util/Preconditions" "SIOOBE_FORMATTER" "Ljava/util/function/BiFunction;" (.ref (gF g)) (fun q => gsz g ≤ q) s g.1) ∧
  va_X (gb g) (gsc g).1 (gsc g).2 s g.1 ∧ gb g < gsz g ∧ (gsc g).1 ≤ 3072
theorem KS.warm {g : bG} {s U : State} (hW : s.WarmedH U.vm) (h : KS g s) : KS g U := by
  obtain ⟨h1, ⟨⟨a1, a2⟩, ⟨b1, b2⟩, ⟨c1, c2⟩, d1, d2, d3, d4⟩, h3, h4, h5, h6, h7, h8, h9⟩ := h
  have e := hW.alike
  exact ⟨fun c q hq => u_Kn_moved e (h1 c q hq), ⟨⟨arrOfT_moved e a1, a2.moved e⟩, ⟨arrOfT_moved e b1, b2.moved e⟩, ⟨arrOfT_moved e c1, c2.moved e⟩, arrOfT_moved e d1, d2.moved e, d3.moved e, bAO_moved e d4⟩, fun q hq => (h3 q hq).warmM hW, fun i q hq => (h4 i q hq).warm hW, h5.moved e, h6.moved e, h7.elim (fun z => Or.inl (z.moved e)) (fun z => Or.inr (z.moved e)), h8.moved e, h9⟩
theorem KS.same {g : bG} {s U : State} (hv : U.vm = s.vm) (h : KS g s) : KS g U := by
  obtain ⟨h1, ⟨⟨a1, a2⟩, ⟨b1, b2⟩, ⟨c1, c2⟩, d1, d2, d3, d4⟩, h3, h4, h5, h6, h7, h8, h9⟩ := h
  have e : s.vm.Alike U.vm := by rw [hv]; exact Vm.Alike.refl _
  exact ⟨fun c q hq => u_Kn_moved e (h1 c q hq), ⟨⟨arrOfT_moved e a1, a2.moved e⟩, ⟨arrOfT_moved e b1, b2.moved e⟩, ⟨arrOfT_moved e c1, c2.moved e⟩, arrOfT_moved e d1, d2.moved e, d3.moved e, bAO_moved e d4⟩, fun q hq => (h3 q hq).same rfl hv.symm, fun i q hq => (h4 i q hq).same hv, h5.moved e, h6.moved e, h7.elim (fun z => Or.inl (z.moved e)) (fun z => Or.inr (z.moved e)), h8.moved e, h9⟩
def slN (n : Nat) : Nat := ((kSh.take n).map (·.2)).sum
def Cx (g : bG) (k : Nat) (p : Program) (s : State) (m : MethodId) (args : Array Value) (meth : Method) (c : Code) : Prop :=
  p.tables.exec = Jvm.exec ∧ c.code = mcode k ∧ c.maxLocals = mml k ∧ meth.sig.returnType = mret k ∧ meth.locks = false ∧ s.vm.findClass (mname k).cls = some m.cls ∧ (∀ w ∈ wsm k, w.before args s = true) ∧ ((mname k).name = "<init>" → meth.name = "<init>") ∧ KS g s
def Rm (d n0 n1 : Nat) (R : Room) : Prop := d + 1 ≤ R.frames ∧ 64 * (d + 1) ≤ R.locals ∧ n1 - n0 ≤ R.cells ∧ slN n1 - slN n0 ≤ R.slots
/-- the answer's instruction -/
def bret : Instr → Option bV → Bool
  | .return_, none => true
  | .ireturn, some (0, _) => true
  | .lreturn, some (1, _) => true
  | .areturn, some (2, _) => true
  | _, _ => false
/-- what a method of such a head may answer -/
def bfit : Option FieldType → Option bV → Prop
  | none, none => True
  | some .int, some (0, x) => in32 x
  | some .boolean, some (0, x) => 0 ≤ x ∧ x ≤ 1
  | some .long, some (1, x) => in64 x
  | some (.object _), some (2, x) => -1 ≤ x
  | some .char, some (0, x) => 0 ≤ x ∧ x < 65536
  | some .byte, some (0, x) => x = 0
  | _, _ => False
abbrev bQ : Type := Option bV → bH → Prop
def Rt (g : bG) (l : Launch) (k n0 n1 : Nat) (Q : bQ) (p : Program) (e : Env) (R : Room) (s : State) (m : MethodId) (args : Array Value) (below : List Frame) (meth : Method) (c : Code) (Z : State → Prop) : Prop :=
  ∀ (r : Option bV) (h : bH) (H : Heap) (locs : List Loc) (ls : Array Slot) (pc : Nat) (i : Instr), HR g n1 h H → (∀ q ∈ locs, gsz g ≤ q.base) → Q r h → bfit (mret k) r → decode (mcode k) pc = .ok (i, 1) → bret i r = true →
    W p l e R s m args below meth c H locs (n1 - n0) (slN n1 - slN n0) Z (F0 m pc ls ((r.map (cv g)).toList))
def Ex (g : bG) (l : Launch) (d k n0 n1 : Nat) (Q : bQ) (p : Program) (e : Env) (R : Room) (s : State) (m : MethodId) (args : Array Value) (below : List Frame) (meth : Method) (c : Code) (Z : State → Prop) : Prop :=
  Cx g k p s m args meth c ∧ Rm d n0 n1 R ∧ Rt g l k n0 n1 Q p e R s m args below meth c Z
def RS (g : bG) (k n : Nat) (h : bH) (lv : bL) (st : List bV) (H : Heap) (locs : List Loc) (ls : Array Slot) : Prop :=
  HR g n h H ∧ lv_has ls (mml k) (lv.map (clv g)) ∧ (∀ q ∈ lv, okv q.2) ∧ (∀ v ∈ st, okv v) ∧ ∀ q ∈ locs, gsz g ≤ q.base
/-- the walk of method k, at depth d, from pc on, comes to an answer with Q -/
def WP (g : bG) (l : Launch) (d k n0 n1 : Nat) (Q : bQ) (S : bS) : Prop :=
  ∀ (p : Program) (e : Env) (R : Room) (s : State) (m : MethodId) (args : Array Value) (below : List Frame) (meth : Method) (c : Code) (Z : State → Prop), Ex g l d k n0 n1 Q p e R s m args below meth c Z →
    ∀ (H : Heap) (locs : List Loc) (ls : Array Slot), RS g k S.2.2.2.1 S.2.2.2.2 S.2.1 S.2.2.1 H locs ls → n0 ≤ S.2.2.2.1 → S.2.2.2.1 ≤ n1 →
      W p l e R s m args below meth c H locs (S.2.2.2.1 - n0) (slN S.2.2.2.1 - slN n0) Z (F0 m S.1 ls (S.2.2.1.map (cv g)))
theorem lv_sub2 {ls : Array Slot} {nL : Nat} {l l' : List (Nat × Value)} (h : lv_has ls nL l) (hq : ∀ q ∈ l', q ∈ l) : lv_has ls nL l' := ⟨h.1, h.2.1, fun q hm => h.2.2 q (hq q hm)⟩
theorem lookup_mem {lv : bL} {j : Nat} {v : bV} (h : lv.lookup j = some v) : (j, v) ∈ lv := by
  induction lv with
  | nil => simp at h
  | cons q r ih =>
    obtain ⟨i, w⟩ := q
    rw [List.lookup_cons] at h
    split at h
    · rename_i e
      have : j = i := by simpa using e
      subst this
      cases h
      exact List.mem_cons_self
    · exact List.mem_cons_of_mem _ (ih h)
theorem RS.look {g : bG} {k n : Nat} {h : bH} {lv : bL} {st : List bV} {H : Heap} {locs : List Loc} {ls : Array Slot} (q : RS g k n h lv st H locs ls) {j : Nat} {v : bV} (hj : lv.lookup j = some v) : ls[j]? = some (.val (cv g v)) ∧ okv v := by
  have hm := lookup_mem hj
  exact ⟨q.2.1.2.2 _ (List.mem_map.mpr ⟨_, hm, rfl⟩), q.2.2.1 _ hm⟩
theorem RS.stk {g : bG} {k n : Nat} {h : bH} {lv : bL} {st st' : List bV} {H : Heap} {locs : List Loc} {ls : Array Slot} (q : RS g k n h lv st H locs ls) (hs : ∀ v ∈ st', okv v) : RS g k n h lv st' H locs ls := ⟨q.1, q.2.1, q.2.2.1, hs, q.2.2.2.2⟩
theorem okW_wA {i : Nat} {w : Jvm.Cond} (h : okW i w = true) : w ∈ wA := by
  unfold okW at h
  simp only [Bool.and_eq_true, beq_iff_eq] at h
  exact List.mem_filter.mpr ⟨tAt_mem h.1, h.2⟩
theorem wd_in {k i : Nat} {w : Jvm.Cond} (h : okW i w = true) : w ∈ wsm k := List.mem_cons_of_mem _ (okW_wA h)
end
-- == 06.step.lean.txt
section
/-! ONE INSTRUCTION: the plain step is the machine's -/
-- the classes' tables, by the kernel
theorem kF_in : ∀ q ∈ kCls, ∀ w ∈ u_ws q.1 q.2.1 q.2.2, w ∈ lw_tbl ∧ goodWord w = true := by decide +kernel
theorem kF_nm : ∀ q ∈ kCls, ∀ a, a < q.2.2 → ∀ b, b < q.2.2 → a ≠ b → (q.2.1 a).2.1 ≠ (q.2.1 b).2.1 := by decide +kernel
def fty (q : vw_C) (j : Nat) : FieldType := (parseFieldDescriptor (q.2.1 j).2.2.1).getD .int
def fkt : FieldType → Nat
  | .int => 0
  | .long => 1
  | .boolean => 3
  | .object _ => 2
  | .array _ => 2
  | _ => 9
theorem kF_ty : ∀ i, i < 12 → ∀ j, j < (kCls.getD i ("", kF0, 0)).2.2 → parseFieldDescriptor ((kCls.getD i ("", kF0, 0)).2.1 j).2.2.1 = some (fty (kCls.getD i ("", kF0, 0)) j) ∧ fkt (fty (kCls.getD i ("", kF0, 0)) j) = fkd i j ∧ fkd i j < 4 := by decide +kernel
theorem kSh_ok : ∀ a, a < 212 → (10 ≤ (sh a).1 → (kCls.getD ((sh a).1 - 10) ("", kF0, 0)).2.2 = (sh a).2 ∧ (sh a).1 - 10 < 12) ∧ ((sh a).1 < 10 → (sh a).1 < 4) := by decide +kernel
theorem kCls_len : kCls.length = 12 := rfl
theorem kCls_at {i : Nat} {q : vw_C} (h : kCls[i]? = some q) : i < 12 ∧ kCls.getD i ("", kF0, 0) = q := by
  have := (List.getElem?_eq_some_iff.mp h).1
  rw [kCls_len] at this
  exact ⟨this, by rw [List.getD_eq_getElem?_getD, h]; rfl⟩
theorem u_ws_in {k i : Nat} {q : vw_C} (h : kCls[i]? = some q) : ∀ w ∈ u_ws q.1 q.2.1 q.2.2, w ∈ wsm k := fun w hw =>
  have z := kF_in q (List.mem_of_getElem? h) w hw
  List.mem_cons_of_mem _ (List.mem_filter.mpr z)
section ST
variable {g : bG} {l : Launch} {d k n0 n1 : Nat} {Q : bQ} {p : Program} {e : Env} {R : Room} {s : State} {m : MethodId} {args : Array Value} {below : List Frame} {meth : Method} {c : Code} {Z : State → Prop}
def Wg (g : bG) (l : Launch) (k n0 : Nat) (p : Program) (e : Env) (R : Room) (s : State) (m : MethodId) (args : Array Value) (below : List Frame) (meth : Method) (c : Code) (Z : State → Prop) (S : bS) : Prop :=
  ∀ (H : Heap) (locs : List Loc) (ls : Array Slot), RS g k S.2.2.2.1 S.2.2.2.2 S.2.1 S.2.2.1 H locs ls →
    W p l e R s m args below meth c H locs (S.2.2.2.1 - n0) (slN S.2.2.2.1 - slN n0) Z (F0 m S.1 ls (S.2.2.1.map (cv g)))
theorem okc {v : bV} {st : List bV} (h1 : okv v) (h2 : ∀ w ∈ st, okv w) : ∀ w ∈ v :: st, okv w := List.forall_mem_cons.mpr ⟨h1, h2⟩
theorem ok1 {v : bV} {st : List bV} (h : ∀ w ∈ v :: st, okv w) : okv v := h v List.mem_cons_self
theorem okr {v : bV} {st : List bV} (h : ∀ w ∈ v :: st, okv w) : ∀ w ∈ st, okv w := fun w hw => h w (List.mem_cons_of_mem _ hw)
theorem bmod_in {x : Int} {b : Nat} (h0 : 0 < b) (hb : b ≤ 65536) : in32 (Int.bmod x b) := by
  have h1 := Int.le_bmod (x := x) (m := b) h0
  have h2 := Int.bmod_lt (x := x) (m := b) h0
  unfold in32
  omega
theorem tmod_in {x y : Int} (hx : in32 x) (hy : in32 y) : in32 (x.tmod y) := by
  have := i32_in (Int32.ofInt x - Int32.ofInt x / Int32.ofInt y * Int32.ofInt y)
  rw [rem_toInt, i32_ti hx, i32_ti hy] at this
  exact this
theorem tmodL_in {x y : Int} (hx : in64 x) (hy : in64 y) : in64 (x.tmod y) := by
  have := i64_in (Int64.ofInt x % Int64.ofInt y)
  rw [Int64.toInt_mod, i64_ti hx, i64_ti hy] at this
  exact this
end ST
end
-- == 07.cases.lean.txt
section
section ST2
variable {g : bG} {l : Launch} {d k n0 n1 : Nat} {Q : bQ} {p : Program} {e : Env} {R : Room} {s : State} {m : MethodId} {args : Array Value} {below : List Frame} {meth : Method} {c : Code} {Z : State → Prop}
theorem lrem_eq_mod (x y : Int64) : x - (x / y) * y = x % y := by
  apply Int64.toInt_inj.mp
  have h1 := Int64.le_toInt (x % y)
  have h2 := Int64.toInt_lt (x % y)
  rw [Int64.toInt_sub, Int64.toInt_mul, Int64.toInt_div, Int.bmod_mul_bmod, Int.sub_bmod_bmod, Int.mul_comm (x.toInt.tdiv y.toInt), ← Int.tmod_def, ← Int64.toInt_mod]
  exact Int.bmod_eq_of_le_mul_two (by omega) (by omega)
theorem i64_rem {x y : Int} (hx : in64 x) (hy : in64 y) : Int64.ofInt x - Int64.ofInt x / Int64.ofInt y * Int64.ofInt y = Int64.ofInt (x.tmod y) := by
  rw [lrem_eq_mod, ← i64_of (Int64.ofInt x % Int64.ofInt y), Int64.toInt_mod, i64_ti hx, i64_ti hy]
theorem cmpL_in (x y : Int) : in32 (cmpL x y) := by
  unfold cmpL in32
  split
  · omega
  · split <;> omega
theorem in32_64 {x : Int} (h : in32 x) : in64 x := by unfold in32 in64 at *; omega
/-- the stored local among the others -/
theorem lv_kept {tg j : Nat} {x : Int} {lv : bL} {v : Value} {ls : Array Slot} {nL : Nat} {lv' : List (Nat × Value)} (hv : cv g (tg, x) = v) (hl : lv_has ls nL lv') (hq : ∀ q ∈ (lv.map (clv g)), (!(q.1 == j) && (!(tg == 1 && q.1 == j + 1) && !(q.1 + 1 == j && q.2.category == 2))) = true → q ∈ lv') (h0 : (j, v) ∈ lv') : lv_has ls nL (((j, (tg, x)) :: bkeep tg j lv).map (clv g)) := by
  refine lv_sub2 hl fun q hm => ?_
  rw [List.map_cons, List.mem_cons] at hm
  rcases hm with rfl | hm
  · show (j, cv g (tg, x)) ∈ lv'
    rw [hv]; exact h0
  · obtain ⟨z, hz, rfl⟩ := List.mem_map.mp hm
    obtain ⟨hz1, hz2⟩ := List.mem_filter.mp hz
    refine hq _ (List.mem_map.mpr ⟨z, hz1, rfl⟩) ?_
    have hcat : ((clv g z).2.category == 2) = (z.2.1 == 1) := by
      show ((cv g z.2).category == 2) = _
      rw [cv_cat]
      by_cases h : z.2.1 = 1 <;> simp [h]
    rw [hcat]
    exact hz2
theorem okkeep {tg j : Nat} {x : Int} {lv : bL} (h : ∀ q ∈ lv, okv q.2) (hx : okv (tg, x)) : ∀ q ∈ (j, (tg, x)) :: bkeep tg j lv, okv q.2 := by
  intro q hm
  rcases List.mem_cons.mp hm with rfl | hm
  · exact hx
  · exact h q (List.mem_filter.mp hm).1
theorem RS.put {n : Nat} {h : bH} {lv lv' : bL} {st st' : List bV} {H : Heap} {locs : List Loc} {ls ls' : Array Slot} (q : RS g k n h lv st H locs ls) (hl : lv_has ls' (mml k) (lv'.map (clv g))) (ho : ∀ q ∈ lv', okv q.2) (hs : ∀ v ∈ st', okv v) : RS g k n h lv' st' H locs ls' := ⟨q.1, hl, ho, hs, q.2.2.2.2⟩
theorem bjmp_x {off : Int} {S S' : bS} (h : bjmp off S = some S') : (S.1 : Int) + off = ((S'.1 : Nat) : Int) ∧ S'.2 = S.2 := by
  unfold bjmp at h
  split at h
  · cases h
    refine ⟨?_, rfl⟩
    show _ = ((((S.1 : Int) + off).toNat : Nat) : Int)
    omega
  · cases h
theorem st_goto {off : Int} {S S' : bS} (hx : p.tables.exec = Jvm.exec) (hb : c.code = mcode k) (hd : decode (mcode k) S.1 = .ok (.goto off, 3)) (h : bjmp off S = some S') (hk : Wg g l k n0 p e R s m args below meth c Z S') : Wg g l k n0 p e R s m args below meth c Z S := by
  intro H locs ls q
  obtain ⟨h1, h2⟩ := bjmp_x h
  have z := hk H locs ls (by rw [h2]; exact q)
  rw [h2] at z
  exact lv_goto hx hb hd h1 z
theorem st_if {co : Jvm.ClassFile.Cond} {off : Int} {S S' : bS} (hx : p.tables.exec = Jvm.exec) (hb : c.code = mcode k) (hd : decode (mcode k) S.1 = .ok (.ifCond co off, 3)) (h : bbr co off S = some S') (hk : Wg g l k n0 p e R s m args below meth c Z S') : Wg g l k n0 p e R s m args below meth c Z S := by
  intro H locs ls q
  obtain ⟨pc, lv, st, n, hh⟩ := S
  rcases st with _ | ⟨⟨t, x⟩, r⟩
  · cases h
  simp only [bbr] at h
  by_cases ht : t = 0 ∧ 0 ≤ (pc : Int) + off
  case neg => rw [if_neg ht] at h; cases h
  rw [if_pos ht] at h
  obtain ⟨rfl, hp⟩ := ht
  cases h
  have hix : in32 x := ok1 q.2.2.2.1
  have h0 : in32 0 := by unfold in32; omega
  have e0 : (0 : Int32) = Int32.ofInt 0 := rfl
  have z := hk H locs ls (q.stk (okr q.2.2.2.1))
  have h1 : (pc : Int) + off = ((((pc : Int) + off).toNat : Nat) : Int) := by omega
  have zt : bcond co x 0 = true → W p l e R s m args below meth c H locs (n - n0) (slN n - slN n0) Z (F0 m ((pc : Int) + off).toNat ls (r.map (cv g))) := fun hc => by
    have z2 := z; dsimp only at z2; rw [if_pos hc] at z2; exact z2
  have zf : ¬ bcond co x 0 = true → W p l e R s m args below meth c H locs (n - n0) (slN n - slN n0) Z (F0 m (pc + 3) ls (r.map (cv g))) := fun hc => by
    have z2 := z; dsimp only at z2; rw [if_neg hc] at z2; exact z2
  show W p l e R s m args below meth c H locs _ _ Z (F0 m pc ls (.int (Int32.ofInt x) :: r.map (cv g)))
  cases co <;> simp only [bcond, decide_eq_true_eq, Bool.not_eq_true', decide_eq_false_iff_not] at zt zf
  · exact lv_if_eq hx hb hd h1 (fun f => by rw [e0, i32_eq hix h0] at f; exact zt f) (fun f => by rw [e0, i32_eq hix h0] at f; exact zf f)
  · exact lv_if_ne hx hb hd h1 (fun f => by rw [e0, i32_eq hix h0] at f; exact zt f) (fun f => by rw [e0, i32_eq hix h0] at f; exact zf (by simpa using f))
  · exact lv_if_lt hx hb hd h1 (fun f => by rw [e0, i32_lt hix h0] at f; exact zt f) (fun f => by rw [e0, i32_lt hix h0] at f; exact zf f)
  · exact lv_if_ge hx hb hd h1 (fun f => by rw [e0, i32_le h0 hix] at f; exact zt f) (fun f => by rw [e0, i32_le h0 hix] at f; exact zf f)
  · exact lv_if_gt hx hb hd h1 (fun f => by rw [e0, i32_lt h0 hix] at f; exact zt f) (fun f => by rw [e0, i32_lt h0 hix] at f; exact zf f)
  · exact lv_if_le hx hb hd h1 (fun f => by rw [e0, i32_le hix h0] at f; exact zt f) (fun f => by rw [e0, i32_le hix h0] at f; exact zf f)
theorem st_icmp {co : Jvm.ClassFile.Cond} {off : Int} {S S' : bS} (hx : p.tables.exec = Jvm.exec) (hb : c.code = mcode k) (hd : decode (mcode k) S.1 = .ok (.if_icmp co off, 3)) (h : bicmp co off S = some S') (hk : Wg g l k n0 p e R s m args below meth c Z S') : Wg g l k n0 p e R s m args below meth c Z S := by
  intro H locs ls q
  obtain ⟨pc, lv, st, n, hh⟩ := S
  rcases st with _ | ⟨⟨t, y⟩, _ | ⟨⟨u, x⟩, r⟩⟩
  · cases h
  · cases h
  simp only [bicmp] at h
  by_cases ht : t = 0 ∧ u = 0 ∧ 0 ≤ (pc : Int) + off
  case neg => rw [if_neg ht] at h; cases h
  rw [if_pos ht] at h
  obtain ⟨rfl, rfl, hp⟩ := ht
  cases h
  have hiy : in32 y := ok1 q.2.2.2.1
  have hix : in32 x := ok1 (okr q.2.2.2.1)
  have z := hk H locs ls (q.stk (okr (okr q.2.2.2.1)))
  have h1 : (pc : Int) + off = ((((pc : Int) + off).toNat : Nat) : Int) := by omega
  have zt : bcond co x y = true → W p l e R s m args below meth c H locs (n - n0) (slN n - slN n0) Z (F0 m ((pc : Int) + off).toNat ls (r.map (cv g))) := fun hc => by
    have z2 := z; dsimp only at z2; rw [if_pos hc] at z2; exact z2
  have zf : ¬ bcond co x y = true → W p l e R s m args below meth c H locs (n - n0) (slN n - slN n0) Z (F0 m (pc + 3) ls (r.map (cv g))) := fun hc => by
    have z2 := z; dsimp only at z2; rw [if_neg hc] at z2; exact z2
  show W p l e R s m args below meth c H locs _ _ Z (F0 m pc ls (.int (Int32.ofInt y) :: .int (Int32.ofInt x) :: r.map (cv g)))
  cases co <;> simp only [bcond, decide_eq_true_eq, Bool.not_eq_true', decide_eq_false_iff_not] at zt zf
  · exact lv_icmp_eq hx hb hd h1 (fun f => by rw [i32_eq hix hiy] at f; exact zt f) (fun f => by rw [i32_eq hix hiy] at f; exact zf f)
  · exact lv_icmp_ne hx hb hd h1 (fun f => by rw [i32_eq hix hiy] at f; exact zt f) (fun f => by rw [i32_eq hix hiy] at f; exact zf (by simpa using f))
  · exact lv_icmp_lt hx hb hd h1 (fun f => by rw [i32_lt hix hiy] at f; exact zt f) (fun f => by rw [i32_lt hix hiy] at f; exact zf f)
  · exact lv_icmp_ge hx hb hd h1 (fun f => by rw [i32_le hiy hix] at f; exact zt f) (fun f => by rw [i32_le hiy hix] at f; exact zf f)
  · exact lv_icmp_gt hx hb hd h1 (fun f => by rw [i32_lt hiy hix] at f; exact zt f) (fun f => by rw [i32_lt hiy hix] at f; exact zf f)
  · exact lv_icmp_le hx hb hd h1 (fun f => by rw [i32_le hix hiy] at f; exact zt f) (fun f => by rw [i32_le hix hiy] at f; exact zf f)
theorem st_null {z : Bool} {off : Int} {S S' : bS} (hx : p.tables.exec = Jvm.exec) (hb : c.code = mcode k) (hd : decode (mcode k) S.1 = .ok (if z = true then .ifnull off else .ifnonnull off, 3)) (h : bnull z off S = some S') (hk : Wg g l k n0 p e R s m args below meth c Z S') : Wg g l k n0 p e R s m args below meth c Z S := by
  intro H locs ls q
  obtain ⟨pc, lv, st, n, hh⟩ := S
  rcases st with _ | ⟨⟨t, x⟩, r⟩
  · cases h
  simp only [bnull] at h
  by_cases ht : t = 2 ∧ 0 ≤ (pc : Int) + off
  case neg => rw [if_neg ht] at h; cases h
  rw [if_pos ht] at h
  obtain ⟨rfl, hp⟩ := ht
  cases h
  have h1 : (pc : Int) + off = ((((pc : Int) + off).toNat : Nat) : Int) := by omega
  have zz := hk H locs ls (q.stk (okr q.2.2.2.1))
  show W p l e R s m args below meth c H locs _ _ Z (F0 m pc ls (cv g (2, x) :: r.map (cv g)))
  by_cases hx0 : x < 0
  · rw [cv_2n g hx0]
    cases z
    · simp only [hx0, decide_true, Bool.true_eq_false, if_false, Bool.false_eq_true] at zz hd
      exact lv_ifnonnullN hx hb hd zz
    · simp only [hx0, decide_true, if_true] at zz hd
      exact lv_ifnullN hx hb hd h1 zz
  · rw [cv_2 g (by omega)]
    cases z
    · simp only [hx0, decide_false, if_true, Bool.false_eq_true, if_false] at zz hd
      exact lv_ifnonnull hx hb hd h1 zz
    · simp only [hx0, decide_false, Bool.false_eq_true, if_false, if_true] at zz hd
      exact lv_ifnull hx hb hd zz
theorem st_tab {df lo hi : Int} {offs : Array Int} {len : Nat} {S S' : bS} (hx : p.tables.exec = Jvm.exec) (hb : c.code = mcode k) (hd : decode (mcode k) S.1 = .ok (.tableswitch df lo hi offs, len)) (h : btab df lo hi offs S = some S') (hk : Wg g l k n0 p e R s m args below meth c Z S') : Wg g l k n0 p e R s m args below meth c Z S := by
  intro H locs ls q
  obtain ⟨pc, lv, st, n, hh⟩ := S
  rcases st with _ | ⟨⟨t, x⟩, r⟩
  · cases h
  simp only [btab] at h
  by_cases ht : t = 0
  case neg => rw [if_neg ht] at h; cases h
  rw [if_pos ht] at h
  subst ht
  have hix : in32 x := ok1 q.2.2.2.1
  show W p l e R s m args below meth c H locs _ _ Z (F0 m pc ls (.int (Int32.ofInt x) :: r.map (cv g)))
  by_cases ho : x < lo ∨ hi < x
  · rw [if_pos ho] at h
    obtain ⟨h1, h2⟩ := bjmp_x h
    have zz := hk H locs ls (by rw [h2]; exact q.stk (okr q.2.2.2.1))
    rw [h2] at zz
    exact lv_tableOut hx hb hd (by rw [i32_ti hix]; exact ho) h1 zz
  · rw [if_neg ho] at h
    cases hof : offs[(x - lo).toNat]? with
    | none => rw [hof] at h; cases h
    | some o =>
      rw [hof] at h
      obtain ⟨h1, h2⟩ := bjmp_x h
      have zz := hk H locs ls (by rw [h2]; exact q.stk (okr q.2.2.2.1))
      rw [h2] at zz
      exact lv_tableIn hx hb hd (by rw [i32_ti hix]; omega) (by rw [i32_ti hix]; omega) (by rw [i32_ti hix]; exact hof) h1 zz
theorem st_lkp {df : Int} {ps : Array (Int × Int)} {len : Nat} {S S' : bS} (hx : p.tables.exec = Jvm.exec) (hb : c.code = mcode k) (hd : decode (mcode k) S.1 = .ok (.lookupswitch df ps, len)) (h : blkp df ps S = some S') (hk : Wg g l k n0 p e R s m args below meth c Z S') : Wg g l k n0 p e R s m args below meth c Z S := by
  intro H locs ls q
  obtain ⟨pc, lv, st, n, hh⟩ := S
  rcases st with _ | ⟨⟨t, x⟩, r⟩
  · cases h
  simp only [blkp] at h
  by_cases ht : t = 0 ∧ bsorted ps.toList = true
  case neg => rw [if_neg ht] at h; cases h
  rw [if_pos ht] at h
  obtain ⟨rfl, hso⟩ := ht
  have hix : in32 x := ok1 q.2.2.2.1
  show W p l e R s m args below meth c H locs _ _ Z (F0 m pc ls (.int (Int32.ofInt x) :: r.map (cv g)))
  obtain ⟨h1, h2⟩ := bjmp_x h
  have zz := hk H locs ls (by rw [h2]; exact q.stk (okr q.2.2.2.1))
  rw [h2] at zz
  exact lv_lookup hx hb hd hso (by rw [i32_ti hix]) h1 zz
end ST2
end
-- == 08.heap.lean.txt
section
section ST3
variable {g : bG} {l : Launch} {d k n0 n1 : Nat} {Q : bQ} {p : Program} {e : Env} {R : Room} {s : State} {m : MethodId} {args : Array Value} {below : List Frame} {meth : Method} {c : Code} {Z : State → Prop}
theorem lk_obj {a j c : Nat} (h : (sh a).1 = 10 + c) : lk a j = fkd c j := by
  unfold lk
  rw [h]
  split
  · omega
  · omega
  · omega
  · omega
  · rw [Nat.add_sub_cancel_left]
theorem lk_arr {a j kd : Nat} (h : (sh a).1 = kd) (h4 : kd < 4) : lk a j = if kd = 0 then 0 else if kd = 1 then 1 else 2 := by
  unfold lk
  rw [h]
  match kd, h4 with
  | 0, _ => rfl
  | 1, _ => rfl
  | 2, _ => rfl
  | 3, _ => rfl
theorem cvk_kOf (g : bG) (t : Nat) (x : Int) : cvk g (kOf t) x = cvk g t x := by
  unfold kOf
  split
  · rename_i h; subst h; rfl
  · rfl
theorem okk_kOf {t : Nat} {x : Int} (h : okk t x) : okk (kOf t) x := by
  unfold kOf
  split
  · rename_i q; subst q
    have h2 : 0 ≤ x ∧ x ≤ 1 := h
    show in32 x
    unfold in32; omega
  · exact h
/-- a putfield's words -/
def wd_p (k ix widx : Nat) (z : vw_C) (j : Nat) : Prop := (Jvm.Cond.fieldLink (mown k) ix (z.2.1 j).1 (z.2.1 j).2.1 (z.2.1 j).2.2.1) ∈ wsm k ∧ ((z.2.1 j).2.2.2 = true → (z.2.1 j).1 = mown k)
theorem bobj_x {aux n : Nat} {a : Int} (h : bobj aux n a = true) : 0 ≤ a ∧ a.toNat < n ∧ (sh a.toNat).1 = 10 + aux / 64 ∧ aux % 64 < (sh a.toNat).2 := by
  unfold bobj at h
  simp only [Bool.and_eq_true, decide_eq_true_eq, beq_iff_eq] at h
  exact h
theorem barr_x {kd n : Nat} {a i : Int} (h : barr kd n a i = true) : 0 ≤ a ∧ a.toNat < n ∧ (sh a.toNat).1 = kd ∧ 0 ≤ i ∧ i.toNat < (sh a.toNat).2 := by
  unfold barr at h
  simp only [Bool.and_eq_true, decide_eq_true_eq, beq_iff_eq] at h
  exact h
theorem HR.obj {n : Nat} {h : bH} {H : Heap} (q : HR g n h H) {a cc : Nat} (ha : a < n) (hs : (sh a).1 = 10 + cc) : ∃ z : vw_C, kCls[cc]? = some z ∧ cc < 12 ∧ kCls.getD cc ("", kF0, 0) = z ∧ z.2.2 = (sh a).2 ∧ t_OB (gsz g + a) (gC g cc) (sh a).2 (gI g cc) H (fun j => cvk g (fkd cc j) (h a j)) := by
  obtain ⟨q1, q2, q3, q4⟩ := q
  have hk := kSh_ok a (by omega)
  have h12 := (hk.1 (by omega))
  rw [hs, Nat.add_sub_cancel_left] at h12
  have hz : kCls[cc]? = some (kCls.getD cc ("", kF0, 0)) := by
    rw [List.getD_eq_getElem?_getD]
    have : cc < kCls.length := by rw [kCls_len]; exact h12.2
    rw [List.getElem?_eq_getElem this]; rfl
  refine ⟨_, hz, h12.2, rfl, h12.1, ?_⟩
  have hc := (q4 a ha).1
  unfold cellR at hc
  rw [if_neg (by omega), hs, Nat.add_sub_cancel_left] at hc
  refine t_OB.to hc fun j _ => ?_
  show cvk g (lk a j) (h a j) = _
  rw [lk_obj hs]
theorem HR.arr {n : Nat} {h : bH} {H : Heap} (q : HR g n h H) {a kd : Nat} (ha : a < n) (hs : (sh a).1 = kd) (h4 : kd < 10) : H[gsz g + a]? = some (arrV (gA g kd) (sh a).2 (fun j => cvk g (lk a j) (h a j))) := by
  have hc := (q.2.2.2 a ha).1
  unfold cellR at hc
  rw [if_pos (by omega), hs] at hc
  exact hc
theorem st_get {ix aux widx len : Nat} {S S' : bS} (C : Cx g k p s m args meth c) (hd : decode (mcode k) S.1 = .ok (.getfield ix, 3)) (ht : okT k (.getfield ix, len, aux, widx) = true) (h : bget aux S = some S') (hk : Wg g l k n0 p e R s m args below meth c Z S') : Wg g l k n0 p e R s m args below meth c Z S := by
  intro H locs ls q
  obtain ⟨hx, hb, hml, hret, hlk, hown, hts, hin, hK⟩ := C
  obtain ⟨pc, lv, st, n, hh⟩ := S
  obtain ⟨a, r, rfl, hbo, rfl⟩ := bget_x h
  obtain ⟨ha0, han, hsh, hj⟩ := bobj_x hbo
  obtain ⟨z, hz, h12, hzg, hzn, cell, q1, q2, q3, q4⟩ := q.1.obj han hsh
  have hj2 : aux % 64 < z.2.2 := by rw [hzn]; exact hj
  obtain ⟨hS, hfc, kC, hkC, hkind⟩ := hK.1 _ _ hz
  obtain ⟨cf, kf, fi, f, hi, hsl⟩ := hS _ hj2
  have hlink : (Cond.fieldLink (mown k) ix (z.2.1 (aux % 64)).1 (z.2.1 (aux % 64)).2.1 (z.2.1 (aux % 64)).2.2.1).before args s = true := by
    unfold okT at ht
    rw [Bool.and_eq_true] at ht
    have h2 := ht.2
    dsimp only at h2
    rw [if_neg (by omega), hz] at h2
    exact hts _ (wd_in h2)
  show W p l e R s m args below meth c H locs _ _ Z (F0 m pc ls (cv g (2, a) :: r.map (cv g)))
  have hn212 : n ≤ 212 := q.1.2.1
  rw [cv_2 g ha0, ad_lo g (by omega)]
  refine W.getf hx hb hown hlink hi (u_facts hfc hkC (u_lays hts (u_ws_in hz) hj2) hi).1 q1 (by rw [q3]; exact fun h => by cases h) (v := cvk g (fkd (aux / 64) (aux % 64)) (hh a.toNat (aux % 64))) (by rw [hsl]; exact q4 _ hj) rfl rfl hd ?_
  have hok : okk (fkd (aux / 64) (aux % 64)) (hh a.toNat (aux % 64)) := by
    have := (q.1.2.2.2 _ han).2 _ hj
    rw [lk_obj hsh] at this
    exact this
  have zz : W p l e R s m args below meth c H locs (n - n0) (slN n - slN n0) Z (F0 m (pc + 3) ls (cv g (kOf (fkd (aux / 64) (aux % 64)), hh a.toNat (aux % 64)) :: r.map (cv g))) := hk H locs ls (q.stk (okc (okk_kOf hok) (okr q.2.2.2.1)))
  have e2 : cv g (kOf (fkd (aux / 64) (aux % 64)), hh a.toNat (aux % 64)) = cvk g (fkd (aux / 64) (aux % 64)) (hh a.toNat (aux % 64)) := cvk_kOf g _ _
  rw [e2] at zz
  exact zz
theorem narrow_ok {ty : FieldType} {t : Nat} {x : Int} (hf : fkt ty = t) (h4 : t < 4) (h : okk t x) : narrow ty (cvk g t x) = cvk g t x ∧ fits ty (cvk g t x) = true := by
  subst hf
  cases ty with
  | int => exact ⟨rfl, rfl⟩
  | long => exact ⟨rfl, rfl⟩
  | boolean =>
    have h2 : 0 ≤ x ∧ x ≤ 1 := h
    have h3 : x = 0 ∨ x = 1 := by omega
    rcases h3 with rfl | rfl
    · exact ⟨(by decide : narrow .boolean (.int (Int32.ofInt 0)) = .int (Int32.ofInt 0)), (by decide : fits .boolean (.int (Int32.ofInt 0)) = true)⟩
    · exact ⟨(by decide : narrow .boolean (.int (Int32.ofInt 1)) = .int (Int32.ofInt 1)), (by decide : fits .boolean (.int (Int32.ofInt 1)) = true)⟩
  | object n =>
    show narrow (.object n) (if x < 0 then Value.null else Value.ref (ad g x.toNat)) = (if x < 0 then Value.null else Value.ref (ad g x.toNat)) ∧ fits (.object n) (if x < 0 then Value.null else Value.ref (ad g x.toNat)) = true
    split <;> exact ⟨rfl, rfl⟩
  | array n =>
    show narrow (.array n) (if x < 0 then Value.null else Value.ref (ad g x.toNat)) = (if x < 0 then Value.null else Value.ref (ad g x.toNat)) ∧ fits (.array n) (if x < 0 then Value.null else Value.ref (ad g x.toNat)) = true
    split <;> exact ⟨rfl, rfl⟩
  | byte => exact absurd h4 (by decide)
  | char => exact absurd h4 (by decide)
  | short => exact absurd h4 (by decide)
  | float => exact absurd h4 (by decide)
  | double => exact absurd h4 (by decide)
theorem hup_at {h : bH} {a j i : Nat} {x : Int} : hup h a j x a i = if i = j then x else h a i := by
  show (if a = a ∧ i = j then x else h a i) = _
  simp
theorem locs_app {g : bG} {locs : List Loc} {a i : Nat} (h : ∀ q ∈ locs, gsz g ≤ q.base) (ha : gsz g ≤ a) : ∀ q ∈ locs ++ [⟨a, i⟩], gsz g ≤ q.base := by
  intro q hq
  rcases List.mem_append.mp hq with hq | hq
  · exact h q hq
  · rw [List.mem_singleton] at hq; subst hq; exact ha
theorem st_put {ix aux widx len : Nat} {S S' : bS} (C : Cx g k p s m args meth c) (hd : decode (mcode k) S.1 = .ok (.putfield ix, 3)) (ht : okT k (.putfield ix, len, aux, widx) = true) (h : bput k aux S = some S') (hk : Wg g l k n0 p e R s m args below meth c Z S') : Wg g l k n0 p e R s m args below meth c Z S := by
  intro H locs ls q
  obtain ⟨hx, hb, hml, hret, hlk, hown, hts, hin, hK⟩ := C
  obtain ⟨pc, lv, st, n, hh⟩ := S
  obtain ⟨x, a, r, rfl, hbo, hbool, hfin, rfl⟩ := bput_x h
  obtain ⟨ha0, han, hsh, hj⟩ := bobj_x hbo
  obtain ⟨z, hz, h12, hzg, hzn, cell, q1, q2, q3, q4⟩ := q.1.obj han hsh
  have hj2 : aux % 64 < z.2.2 := by rw [hzn]; exact hj
  obtain ⟨hS, hfc, kC, hkC, hkind⟩ := hK.1 _ _ hz
  obtain ⟨cf, kf, fi, f, hi, hsl⟩ := hS _ hj2
  have hF := kF_ty _ h12 (aux % 64) (by rw [hzg]; exact hj2)
  rw [hzg] at hF
  obtain ⟨hty, hfk, h4⟩ := hF
  have htt : wd_p k ix widx z (aux % 64) := by
    unfold okT at ht
    rw [Bool.and_eq_true] at ht
    have h2 := ht.2
    dsimp only at h2
    rw [hz] at h2
    dsimp only at h2
    rw [Bool.and_eq_true] at h2
    exact ⟨wd_in h2.1, fun hf => by have h3 := h2.2; rw [hf] at h3; simpa using h3⟩
  have hlink := hts _ htt.1
  have hokx : okk (fkd (aux / 64) (aux % 64)) x := by
    have h1 : okk (kOf (fkd (aux / 64) (aux % 64))) x := ok1 q.2.2.2.1
    unfold kOf at h1
    split at h1
    · rename_i h3; rw [h3]; exact hbool h3
    · exact h1
  obtain ⟨hnar, hfit⟩ := narrow_ok (g := g) hfk h4 hokx
  have hn212 : n ≤ 212 := q.1.2.1
  have hadd : ad g a.toNat = gsz g + a.toNat := ad_lo g (by omega)
  show W p l e R s m args below meth c H locs _ _ Z (F0 m pc ls (cv g (kOf (fkd (aux / 64) (aux % 64)), x) :: cv g (2, a) :: r.map (cv g)))
  have e2 : cv g (kOf (fkd (aux / 64) (aux % 64)), x) = cvk g (fkd (aux / 64) (aux % 64)) x := cvk_kOf g _ _
  rw [e2, cv_2 g ha0, hadd]
  have hlay := hts _ (u_ws_in hz _ (u_in_lay hj2))
  have hst := (u_facts hfc hkC (u_lays hts (u_ws_in hz) hj2) hi).1
  have hap : ∀ a b, a < z.2.2 → b < z.2.2 → a ≠ b → gI g (aux / 64) a ≠ gI g (aux / 64) b := by
    intro a' b' h1 h2 hne
    obtain ⟨_, _, _, fa, hia, ea⟩ := hS a' h1
    obtain ⟨_, _, _, fb, hib, eb⟩ := hS b' h2
    rw [← ea, ← eb]
    have ta := (kF_ty _ h12 a' (by rw [hzg]; exact h1)).1
    have tb := (kF_ty _ h12 b' (by rw [hzg]; exact h2)).1
    rw [hzg] at ta tb
    refine u_apart (u_lays hts (u_ws_in hz) h1) (u_lays hts (u_ws_in hz) h2) hia hib ?_
    rw [(State.fieldFound?_type hia ta).1, (State.fieldFound?_type hib tb).1]
    exact kF_nm z (List.mem_of_getElem? hz) a' h1 b' h2 hne
  have hgo : ∀ H' : Heap, H'[gsz g + a.toNat]? = some (cell.setSlot (gI g (aux / 64) (aux % 64)) (cvk g (fkd (aux / 64) (aux % 64)) x)) → H'.size = H.size → (∀ q : Nat, q ≠ gsz g + a.toNat → H'[q]? = H[q]?) → W p l e R s m args below meth c H' (locs ++ [⟨gsz g + a.toNat, gI g (aux / 64) (aux % 64)⟩]) (n - n0) (slN n - slN n0) Z (F0 m (pc + 3) ls (r.map (cv g))) := by
    intro H' e1 e2 e3
    have hset : HR g n (hup hh a.toNat (aux % 64) x) H' := by
      refine q.1.set han (fun _ => by rw [lk_obj hsh]; exact hokx) ?_ e2 e3
      unfold cellR
      rw [if_neg (by omega), hsh, Nat.add_sub_cancel_left]
      refine ⟨_, e1, q2, q3, fun j hj3 => ?_⟩
      have := t_set q4 (fun a b h1 h2 => hap a b (by rw [hzn]; exact h1) (by rw [hzn]; exact h2)) hj (cvk g (fkd (aux / 64) (aux % 64)) x) j hj3
      rw [this]
      show some (updV _ _ _ j) = some (cvk g (lk a.toNat j) (hup hh a.toNat (aux % 64) x a.toNat j))
      rw [hup_at, lk_obj hsh]
      unfold updV
      split
      · rename_i h5; rw [h5]
      · rfl
    exact hk H' _ ls ⟨hset, q.2.1, q.2.2.1, okr (okr q.2.2.2.1), locs_app q.2.2.2.2 (Nat.le_add_right _ _)⟩
  have hslot : cell.slots[gI g (aux / 64) (aux % 64)]? = some (cvk g (fkd (aux / 64) (aux % 64)) (hh a.toNat (aux % 64))) := q4 _ hj
  cases hfl : (z.2.1 (aux % 64)).2.2.2 with
  | false =>
    unfold u_lay at hlay
    rw [if_neg (by rw [hfl]; decide)] at hlay
    have h6 := u_store hfc hkC hkind hlay hi hty hnar hfit
    refine W.putK hx hb (f := f) ⟨hown, hlink, ⟨_, _, _, hi⟩, hst⟩ (by rw [q2]; exact h6) q1 q3 (by rw [hsl]; exact k2_hasslot hslot) rfl rfl hd fun H' e1 e2 e3 => ?_
    rw [hsl] at e1 ⊢
    exact hgo H' e1 e2 e3
  | true =>
    unfold u_lay at hlay
    rw [if_pos hfl] at hlay
    have hcf : m.cls = cf := by
      obtain ⟨_, _, c', _, _, _, -, -, hf', -, -, -, hown2, -⟩ := Cond.laysFinal_spec hlay
      have e1 : c' = cf := by have := hi.symm.trans hf'; simp at this; exact this.1.symm
      rw [htt.2 hfl] at hown2
      rw [← e1]; exact Option.some.inj (hown.symm.trans hown2)
    have hin2 : meth.name = "<init>" := hin (hfin (by unfold bfin; rw [hz]; exact hfl))
    have h6 := u_fits hfc hkC hkind (Or.inr hlay) hi hty hnar hfit
    refine W.putFinK hx hb hown hlink hi hst hcf hin2 (by rw [q2]; exact h6) q1 q3 (by rw [hsl]; exact k2_hasslot hslot) rfl rfl hd fun H' e1 e2 e3 => ?_
    rw [hsl] at e1 ⊢
    exact hgo H' e1 e2 e3
end ST3
end
-- == 09.arr.lean.txt
section
section ST4
variable {g : bG} {l : Launch} {d k n0 n1 : Nat} {Q : bQ} {p : Program} {e : Env} {R : Room} {s : State} {m : MethodId} {args : Array Value} {below : List Frame} {meth : Method} {c : Code} {Z : State → Prop}
theorem barr_sz {kd n : Nat} {a i : Int} {H : Heap} {h : bH} (q : HR g n h H) (hb : barr kd n a i = true) (h4 : kd < 4) : cv g (2, a) = .ref (gsz g + a.toNat) ∧ H[gsz g + a.toNat]? = some (arrV (gA g kd) (sh a.toNat).2 (fun j => cvk g (if kd = 0 then 0 else if kd = 1 then 1 else 2) (h a.toNat j))) ∧ okk (if kd = 0 then 0 else if kd = 1 then 1 else 2) (h a.toNat i.toNat) := by
  obtain ⟨h1, h2, h3, h5, h6⟩ := barr_x hb
  have hn : n ≤ 212 := q.2.1
  refine ⟨by rw [cv_2 g h1, ad_lo g (by omega)], ?_, ?_⟩
  · have := q.arr h2 h3 (by omega)
    rw [this]
    refine congrArg some (congrArg (arrV (gA g kd) (sh a.toNat).2) (funext fun j => ?_))
    rw [lk_arr h3 h4]
  · have := (q.2.2.2 _ h2).2 _ h6
    rw [lk_arr h3 h4] at this
    exact this
theorem st_iald {sc : bC} (hsc : sc = gsc g) {S S' : bS} (C : Cx g k p s m args meth c) (hd : decode (mcode k) S.1 = .ok (.iaload, 1)) (h : biald sc S = some S') (hk : Wg g l k n0 p e R s m args below meth c Z S') : Wg g l k n0 p e R s m args below meth c Z S := by
  intro H locs ls q
  obtain ⟨hx, hb, hml, hret, hlk, hown, hts, hin, hK⟩ := C
  obtain ⟨pc, lv, st, n, hh⟩ := S
  rcases st with _ | ⟨⟨v, i⟩, _ | ⟨⟨u, a⟩, r⟩⟩
  · cases h
  · cases h
  simp only [biald] at h
  by_cases hc : v = 0 ∧ u = 2 ∧ a = 700 ∧ 0 ≤ i ∧ i.toNat < sc.1
  · rw [if_pos hc] at h
    cases h
    obtain ⟨rfl, rfl, rfl, hi0, hiL⟩ := hc
    subst hsc
    have hii : in32 i := ok1 q.2.2.2.1
    obtain ⟨-, -, -, -, -, -, -, hX, hbl, hL⟩ := hK
    obtain ⟨scr, x1, x2, x3, x4, x5⟩ := hX.kept (H1 := H) (q.1.2.2.1 _ hbl)
    show W p l e R s m args below meth c H locs _ _ Z (F0 m pc ls (.int (Int32.ofInt i) :: .ref (gb g) :: r.map (cv g)))
    refine W.iald (v := .int ((gsc g).2 i.toNat)) hx hb x1 x2 x3 (by rw [x4]; exact i32_ix hii hi0 hiL) (by rw [i32_cl hii]; exact x5 _ hiL) rfl rfl hd ?_
    have zz : W p l e R s m args below meth c H locs (n - n0) (slN n - slN n0) Z (F0 m (pc + 1) ls (.int (Int32.ofInt ((gsc g).2 i.toNat).toInt) :: r.map (cv g))) := hk H locs ls (q.stk (okc (i32_in _) (okr (okr q.2.2.2.1))))
    rw [i32_of] at zz
    exact zz
  · rw [if_neg hc] at h
    obtain ⟨i2, a2, r2, e1, hbr, rfl⟩ := baload_x h
    cases e1
    have hii : in32 i := ok1 q.2.2.2.1
    obtain ⟨e1, e2, e3⟩ := barr_sz q.1 hbr (by omega)
    obtain ⟨-, -, -, hi0, hiL⟩ := barr_x hbr
    show W p l e R s m args below meth c H locs _ _ Z (F0 m pc ls (.int (Int32.ofInt i) :: cv g (2, a) :: r.map (cv g)))
    rw [e1]
    refine W.iald (v := cvk g 0 (hh a.toNat i.toNat)) hx hb e2 (hK.2.1.1.1 _ _) (fun h => by cases h) (by rw [arrV_size]; exact i32_ix hii hi0 hiL) (by rw [i32_cl hii, arrV_read _ _ hiL]; rfl) rfl rfl hd ?_
    exact hk H locs ls (q.stk (okc e3 (okr (okr q.2.2.2.1))))
theorem st_lald {S S' : bS} (C : Cx g k p s m args meth c) (hd : decode (mcode k) S.1 = .ok (.laload, 1)) (h : baload 1 1 S = some S') (hk : Wg g l k n0 p e R s m args below meth c Z S') : Wg g l k n0 p e R s m args below meth c Z S := by
  intro H locs ls q
  obtain ⟨hx, hb, hml, hret, hlk, hown, hts, hin, hK⟩ := C
  obtain ⟨pc, lv, st, n, hh⟩ := S
  obtain ⟨i, a, r, rfl, hbr, rfl⟩ := baload_x h
  have hii : in32 i := ok1 q.2.2.2.1
  obtain ⟨e1, e2, e3⟩ := barr_sz q.1 hbr (by omega)
  obtain ⟨-, -, -, hi0, hiL⟩ := barr_x hbr
  show W p l e R s m args below meth c H locs _ _ Z (F0 m pc ls (.int (Int32.ofInt i) :: cv g (2, a) :: r.map (cv g)))
  rw [e1]
  refine W.lald (v := cvk g 1 (hh a.toNat i.toNat)) hx hb e2 (hK.2.1.2.1.1 _ _) (fun h => by cases h) (by rw [arrV_size]; exact i32_ix hii hi0 hiL) (by rw [i32_cl hii, arrV_read _ _ hiL]; rfl) rfl rfl hd ?_
  exact hk H locs ls (q.stk (okc e3 (okr (okr q.2.2.2.1))))
theorem st_aald {z : Bool} {S S' : bS} (C : Cx g k p s m args meth c) (hd : decode (mcode k) S.1 = .ok (.aaload, 1)) (h : (if z = true then baload 2 2 S else baload 3 2 S) = some S') (hk : Wg g l k n0 p e R s m args below meth c Z S') : Wg g l k n0 p e R s m args below meth c Z S := by
  intro H locs ls q
  obtain ⟨hx, hb, hml, hret, hlk, hown, hts, hin, hK⟩ := C
  obtain ⟨pc, lv, st, n, hh⟩ := S
  have hg : ∀ (kd : Nat) (ty : FieldType), 2 ≤ kd → kd < 4 → ArrOfT s (gA g kd) ty → ty.isReference = true → baload kd 2 (pc, lv, st, n, hh) = some S' → W p l e R s m args below meth c H locs (n - n0) (slN n - slN n0) Z (F0 m pc ls (st.map (cv g))) := by
    intro kd ty hk2 hk4 hA hty h
    obtain ⟨i, a, r, rfl, hbr, rfl⟩ := baload_x h
    have hii : in32 i := ok1 q.2.2.2.1
    obtain ⟨e1, e2, e3⟩ := barr_sz q.1 hbr hk4
    obtain ⟨-, -, -, hi0, hiL⟩ := barr_x hbr
    have e0 : (if kd = 0 then 0 else if kd = 1 then 1 else 2) = 2 := by
      rw [if_neg (by omega), if_neg (by omega)]
    rw [e0] at e2 e3
    show W p l e R s m args below meth c H locs _ _ Z (F0 m pc ls (.int (Int32.ofInt i) :: cv g (2, a) :: r.map (cv g)))
    rw [e1]
    refine W.aald (v := cvk g 2 (hh a.toNat i.toNat)) hx hb e2 (hA _ _) hty (fun h => by cases h) (by rw [arrV_size]; exact i32_ix hii hi0 hiL) (by rw [i32_cl hii, arrV_read _ _ hiL]) rfl rfl hd ?_
    exact hk H locs ls (q.stk (okc e3 (okr (okr q.2.2.2.1))))
  cases z
  · exact hg 3 _ (by omega) (by omega) hK.2.1.2.2.2.1 rfl (by simpa using h)
  · exact hg 2 _ (by omega) (by omega) hK.2.1.2.2.1.1 rfl (by simpa using h)
theorem HR.seta {n : Nat} {h : bH} {H H1 : Heap} (q : HR g n h H) {kd : Nat} {a i : Int} {x : Int} {cell : Cell} (hb : barr kd n a i = true) (h4 : kd < 4) (hx : okk (if kd = 0 then 0 else if kd = 1 then 1 else 2) x) (h1 : H1[gsz g + a.toNat]? = some cell) (hc : cell = (arrV (gA g kd) (sh a.toNat).2 (fun j => cvk g (if kd = 0 then 0 else if kd = 1 then 1 else 2) (h a.toNat j))).setSlot i.toNat (cvk g (if kd = 0 then 0 else if kd = 1 then 1 else 2) x)) (h2 : H1.size = H.size) (h3 : ∀ q : Nat, q ≠ gsz g + a.toNat → H1[q]? = H[q]?) : HR g n (hup h a.toNat i.toNat x) H1 := by
  obtain ⟨b1, b2, b3, b5, b6⟩ := barr_x hb
  refine q.set b2 (fun _ => by rw [lk_arr b3 h4]; exact hx) ?_ h2 h3
  unfold cellR
  rw [if_pos (by omega), h1, b3, hc, arrV_store]
  refine congrArg some (congrArg (arrV (gA g kd) (sh a.toNat).2) (funext fun j => ?_))
  rw [lk_arr b3 h4, hup_at]
  unfold updV
  split
  · rfl
  · rfl
theorem st_iast {S S' : bS} (C : Cx g k p s m args meth c) (hd : decode (mcode k) S.1 = .ok (.iastore, 1)) (h : bastore 0 0 S = some S') (hk : Wg g l k n0 p e R s m args below meth c Z S') : Wg g l k n0 p e R s m args below meth c Z S := by
  intro H locs ls q
  obtain ⟨hx, hb, hml, hret, hlk, hown, hts, hin, hK⟩ := C
  obtain ⟨pc, lv, st, n, hh⟩ := S
  obtain ⟨x, i, a, r, rfl, hbr, rfl⟩ := bastore_x h
  have hxi : in32 x := ok1 q.2.2.2.1
  have hii : in32 i := ok1 (okr q.2.2.2.1)
  obtain ⟨e1, e2, e3⟩ := barr_sz q.1 hbr (by omega)
  obtain ⟨-, -, -, hi0, hiL⟩ := barr_x hbr
  show W p l e R s m args below meth c H locs _ _ Z (F0 m pc ls (.int (Int32.ofInt x) :: .int (Int32.ofInt i) :: cv g (2, a) :: r.map (cv g)))
  rw [e1]
  refine W.iast hx hb e2 (hK.2.1.1.1 _ _) (fun h => by cases h) (by rw [arrV_size]; exact i32_ix hii hi0 hiL) rfl rfl hd fun H' f1 f2 f3 => ?_
  rw [i32_cl hii] at f1 ⊢
  exact hk H' _ ls ⟨q.1.seta hbr (by omega) hxi f1 rfl f2 f3, q.2.1, q.2.2.1, okr (okr (okr q.2.2.2.1)), locs_app q.2.2.2.2 (Nat.le_add_right _ _)⟩
theorem st_last {S S' : bS} (C : Cx g k p s m args meth c) (hd : decode (mcode k) S.1 = .ok (.lastore, 1)) (h : bastore 1 1 S = some S') (hk : Wg g l k n0 p e R s m args below meth c Z S') : Wg g l k n0 p e R s m args below meth c Z S := by
  intro H locs ls q
  obtain ⟨hx, hb, hml, hret, hlk, hown, hts, hin, hK⟩ := C
  obtain ⟨pc, lv, st, n, hh⟩ := S
  obtain ⟨x, i, a, r, rfl, hbr, rfl⟩ := bastore_x h
  have hxi : in64 x := ok1 q.2.2.2.1
  have hii : in32 i := ok1 (okr q.2.2.2.1)
  obtain ⟨e1, e2, e3⟩ := barr_sz q.1 hbr (by omega)
  obtain ⟨-, -, -, hi0, hiL⟩ := barr_x hbr
  show W p l e R s m args below meth c H locs _ _ Z (F0 m pc ls (.long (Int64.ofInt x) :: .int (Int32.ofInt i) :: cv g (2, a) :: r.map (cv g)))
  rw [e1]
  refine W.last hx hb e2 (hK.2.1.2.1.1 _ _) (fun h => by cases h) (by rw [arrV_size]; exact i32_ix hii hi0 hiL) rfl rfl hd fun H' f1 f2 f3 => ?_
  rw [i32_cl hii] at f1 ⊢
  exact hk H' _ ls ⟨q.1.seta hbr (by omega) hxi f1 rfl f2 f3, q.2.1, q.2.2.1, okr (okr (okr q.2.2.2.1)), locs_app q.2.2.2.2 (Nat.le_add_right _ _)⟩
theorem kSh_small : ∀ a, a < 212 → (sh a).2 < 2000 := by decide +kernel
theorem st_len {sc : bC} (hsc : sc = gsc g) {S S' : bS} (C : Cx g k p s m args meth c) (hd : decode (mcode k) S.1 = .ok (.arraylength, 1)) (h : blen sc S = some S') (hk : Wg g l k n0 p e R s m args below meth c Z S') : Wg g l k n0 p e R s m args below meth c Z S := by
  intro H locs ls q
  obtain ⟨hx, hb, hml, hret, hlk, hown, hts, hin, hK⟩ := C
  obtain ⟨pc, lv, st, n, hh⟩ := S
  rcases st with _ | ⟨⟨u, a⟩, r⟩
  · cases h
  simp only [blen] at h
  by_cases hu : u = 2
  case neg => rw [if_neg hu] at h; cases h
  subst hu
  rw [if_pos rfl] at h
  have hn212 : n ≤ 212 := q.1.2.1
  by_cases h7 : a = 700
  · rw [if_pos h7] at h
    cases h
    subst h7; subst hsc
    obtain ⟨-, -, -, -, -, -, -, hX, hbl, hL⟩ := hK
    obtain ⟨scr, x1, x2, x3, x4, x5⟩ := hX.kept (H1 := H) (q.1.2.2.1 _ hbl)
    show W p l e R s m args below meth c H locs _ _ Z (F0 m pc ls (.ref (gb g) :: r.map (cv g)))
    refine W.alen (n := Int32.ofInt ((gsc g).1 : Int)) hx hb x1 x2 (by rw [x4]; rfl) rfl rfl hd ?_
    exact hk H locs ls (q.stk (okc (by show in32 _; unfold in32; omega) (okr q.2.2.2.1)))
  · rw [if_neg h7] at h
    by_cases hc : 0 ≤ a ∧ a.toNat < n ∧ (sh a.toNat).1 < 10
    case neg => rw [if_neg hc] at h; cases h
    rw [if_pos hc] at h
    cases h
    obtain ⟨ha0, han, h10⟩ := hc
    have h4 := (kSh_ok a.toNat (by omega)).2 h10
    have hsm := kSh_small a.toNat (by omega)
    show W p l e R s m args below meth c H locs _ _ Z (F0 m pc ls (cv g (2, a) :: r.map (cv g)))
    rw [cv_2 g ha0, ad_lo g (by omega)]
    have hcell := q.1.arr han rfl h10
    have harr : ∃ ty, ArrOfT s (gA g (sh a.toNat).1) ty := by
      generalize (sh a.toNat).1 = kd at h4
      match kd, h4 with
      | 0, _ => exact ⟨_, hK.2.1.1.1⟩
      | 1, _ => exact ⟨_, hK.2.1.2.1.1⟩
      | 2, _ => exact ⟨_, hK.2.1.2.2.1.1⟩
      | 3, _ => exact ⟨_, hK.2.1.2.2.2.1⟩
    obtain ⟨ty, harr⟩ := harr
    refine W.alen (n := Int32.ofInt ((sh a.toNat).2 : Int)) hx hb hcell (harr _ _) (by rw [arrV_size]; rfl) rfl rfl hd ?_
    exact hk H locs ls (q.stk (okc (by show in32 _; unfold in32; omega) (okr q.2.2.2.1)))
end ST4
end
-- == 10.main.lean.txt
section
section ST5
variable {g : bG} {l : Launch} {d k n0 n1 : Nat} {Q : bQ} {p : Program} {e : Env} {R : Room} {s : State} {m : MethodId} {args : Array Value} {below : List Frame} {meth : Method} {c : Code} {Z : State → Prop}
/-- an instruction on the stack's head, two ints or longs in, one out -/
theorem st_b2 {ta tb tr : Nat} {f : Int → Int → Option Int} {S S' : bS} {len : Nat} (h : b2 ta tb tr f S len = some S')
    (hop : ∀ (x y z : Int) (r : List Value) (H : Heap) (locs : List Loc) (ls : Array Slot), okk ta x → okk tb y → f x y = some z → okk tr z ∧ (W p l e R s m args below meth c H locs (S.2.2.2.1 - n0) (slN S.2.2.2.1 - slN n0) Z (F0 m (S.1 + len) ls (cvk g tr z :: r)) → W p l e R s m args below meth c H locs (S.2.2.2.1 - n0) (slN S.2.2.2.1 - slN n0) Z (F0 m S.1 ls (cvk g tb y :: cvk g ta x :: r))))
    (hk : Wg g l k n0 p e R s m args below meth c Z S') : Wg g l k n0 p e R s m args below meth c Z S := by
  intro H locs ls q
  obtain ⟨pc, lv, st, n, hh⟩ := S
  obtain ⟨x, y, z, r, rfl, hf, rfl⟩ := b2_x h
  obtain ⟨h1, h2⟩ := hop x y z (r.map (cv g)) H locs ls (ok1 (okr q.2.2.2.1)) (ok1 q.2.2.2.1) hf
  exact h2 (hk H locs ls (q.stk (okc h1 (okr (okr q.2.2.2.1)))))
theorem st_b1 {ta tr : Nat} {f : Int → Option Int} {S S' : bS} {len : Nat} (h : b1 ta tr f S len = some S')
    (hop : ∀ (x z : Int) (r : List Value) (H : Heap) (locs : List Loc) (ls : Array Slot), okk ta x → f x = some z → okk tr z ∧ (W p l e R s m args below meth c H locs (S.2.2.2.1 - n0) (slN S.2.2.2.1 - slN n0) Z (F0 m (S.1 + len) ls (cvk g tr z :: r)) → W p l e R s m args below meth c H locs (S.2.2.2.1 - n0) (slN S.2.2.2.1 - slN n0) Z (F0 m S.1 ls (cvk g ta x :: r))))
    (hk : Wg g l k n0 p e R s m args below meth c Z S') : Wg g l k n0 p e R s m args below meth c Z S := by
  intro H locs ls q
  obtain ⟨pc, lv, st, n, hh⟩ := S
  obtain ⟨x, z, r, rfl, hf, rfl⟩ := b1_x h
  obtain ⟨h1, h2⟩ := hop x z (r.map (cv g)) H locs ls (ok1 q.2.2.2.1) hf
  exact h2 (hk H locs ls (q.stk (okc h1 (okr q.2.2.2.1))))
theorem divI_x {x y z : Int} (h : divI x y = some z) : y ≠ 0 ∧ z = w32 (x.tdiv y) := by
  unfold divI at h; split at h
  · cases h
  · exact ⟨by assumption, (Option.some.inj h).symm⟩
theorem remI_x {x y z : Int} (h : remI x y = some z) : y ≠ 0 ∧ z = x.tmod y := by
  unfold remI at h; split at h
  · cases h
  · exact ⟨by assumption, (Option.some.inj h).symm⟩
theorem divL_x {x y z : Int} (h : divL x y = some z) : y ≠ 0 ∧ z = w64 (x.tdiv y) := by
  unfold divL at h; split at h
  · cases h
  · exact ⟨by assumption, (Option.some.inj h).symm⟩
theorem remL_x {x y z : Int} (h : remL x y = some z) : y ≠ 0 ∧ z = x.tmod y := by
  unfold remL at h; split at h
  · cases h
  · exact ⟨by assumption, (Option.some.inj h).symm⟩
theorem w32_out (x : Int) : in32 (w32 x) := w32_in x
theorem st_ld {tg j len : Nat} {S S' : bS} (h : bld tg j len S = some S')
    (hop : ∀ (x : Int) (r : List Value) (H : Heap) (locs : List Loc) (ls : Array Slot), ls[j]? = some (.val (cvk g tg x)) → W p l e R s m args below meth c H locs (S.2.2.2.1 - n0) (slN S.2.2.2.1 - slN n0) Z (F0 m (S.1 + len) ls (cvk g tg x :: r)) → W p l e R s m args below meth c H locs (S.2.2.2.1 - n0) (slN S.2.2.2.1 - slN n0) Z (F0 m S.1 ls r))
    (hk : Wg g l k n0 p e R s m args below meth c Z S') : Wg g l k n0 p e R s m args below meth c Z S := by
  intro H locs ls q
  obtain ⟨pc, lv, st, n, hh⟩ := S
  obtain ⟨x, hl, rfl⟩ := bld_x h
  obtain ⟨h1, h2⟩ := q.look hl
  exact hop x (st.map (cv g)) H locs ls h1 (hk H locs ls (q.stk (okc h2 q.2.2.2.1)))
theorem keep_i {j : Nat} {lm : List (Nat × Value)} {v : Value} {q : Nat × Value} (hq : q ∈ lm) (hc : (!(q.1 == j) && (!((0 : Nat) == 1 && q.1 == j + 1) && !(q.1 + 1 == j && q.2.category == 2))) = true) : q ∈ (j, v) :: lm.filter (fun q => !(q.1 == j) && !(q.1 + 1 == j && q.2.category == 2)) := by
  refine List.mem_cons_of_mem _ (List.mem_filter.mpr ⟨hq, ?_⟩)
  simpa using hc
theorem keep_a {j : Nat} {lm : List (Nat × Value)} {v : Value} {q : Nat × Value} (hq : q ∈ lm) (hc : (!(q.1 == j) && (!((2 : Nat) == 1 && q.1 == j + 1) && !(q.1 + 1 == j && q.2.category == 2))) = true) : q ∈ (j, v) :: lm.filter (fun q => !(q.1 == j) && !(q.1 + 1 == j && q.2.category == 2)) := by
  refine List.mem_cons_of_mem _ (List.mem_filter.mpr ⟨hq, ?_⟩)
  simpa using hc
theorem keep_l {j : Nat} {lm : List (Nat × Value)} {v : Value} {q : Nat × Value} (hq : q ∈ lm) (hc : (!(q.1 == j) && (!((1 : Nat) == 1 && q.1 == j + 1) && !(q.1 + 1 == j && q.2.category == 2))) = true) : q ∈ (j, v) :: lm.filter (fun q => !(q.1 == j) && (!(q.1 == j + 1) && !(q.1 + 1 == j && q.2.category == 2))) := by
  refine List.mem_cons_of_mem _ (List.mem_filter.mpr ⟨hq, ?_⟩)
  simpa using hc
/-- a store: hop gives the machine's row -/
theorem st_st {tg j len nL : Nat} {S S' : bS} (hnL : nL = mml k) (h : bst tg j len nL S = some S')
    (hop : ∀ (x : Int) (r : List Value) (H : Heap) (locs : List Loc) (ls : Array Slot) (lv : List (Nat × Value)), okk tg x → lv_has ls nL lv → j + (if tg = 1 then 1 else 0) < nL → ((∀ (ls' : Array Slot) (lv' : List (Nat × Value)), lv_has ls' nL lv' → (j, cvk g tg x) ∈ lv' → (∀ q ∈ lv, (!(q.1 == j) && (!(tg == 1 && q.1 == j + 1) && !(q.1 + 1 == j && q.2.category == 2))) = true → q ∈ lv') → W p l e R s m args below meth c H locs (S.2.2.2.1 - n0) (slN S.2.2.2.1 - slN n0) Z (F0 m (S.1 + len) ls' r)) → W p l e R s m args below meth c H locs (S.2.2.2.1 - n0) (slN S.2.2.2.1 - slN n0) Z (F0 m S.1 ls (cvk g tg x :: r))))
    (hk : Wg g l k n0 p e R s m args below meth c Z S') : Wg g l k n0 p e R s m args below meth c Z S := by
  intro H locs ls q
  subst hnL
  obtain ⟨pc, lv, st, n, hh⟩ := S
  obtain ⟨x, r, rfl, hj, rfl⟩ := bst_x h
  have hxk : okk tg x := ok1 q.2.2.2.1
  refine hop x (r.map (cv g)) H locs ls (lv.map (clv g)) hxk q.2.1 hj fun ls' lv' a1 a2 a3 => ?_
  exact hk H locs ls' (q.put (lv_kept rfl a1 a3 a2) (okkeep q.2.2.1 hxk) (okr q.2.2.2.1))
theorem st_inc {j : Nat} {cn : Int} {S S' : bS} (hx : p.tables.exec = Jvm.exec) (hb : c.code = mcode k) (hd : decode (mcode k) S.1 = .ok (.iinc j cn, 3)) (h : biinc j cn (mml k) S = some S') (hk : Wg g l k n0 p e R s m args below meth c Z S') : Wg g l k n0 p e R s m args below meth c Z S := by
  intro H locs ls q
  obtain ⟨pc, lv, st, n, hh⟩ := S
  simp only [biinc] at h
  cases hl : lv.lookup j with
  | none => rw [hl] at h; cases h
  | some v =>
    obtain ⟨t, x⟩ := v
    rw [hl] at h
    dsimp only at h
    by_cases hc : t = 0 ∧ j < mml k
    case neg => rw [if_neg hc] at h; cases h
    rw [if_pos hc] at h
    cases h
    obtain ⟨rfl, hj⟩ := hc
    have hm := lookup_mem hl
    have hm2 : (j, Value.int (Int32.ofInt x)) ∈ lv.map (clv g) := List.mem_map.mpr ⟨_, hm, rfl⟩
    obtain ⟨z, hz⟩ := List.mem_iff_getElem?.mp hm2
    refine lv_iinc (k := z) (v := Int32.ofInt (w32 (x + cn))) hx hb hd q.2.1 hz (by rw [i32_add]) hj rfl fun ls' hl' => ?_
    exact hk H locs ls' (q.put (lv_kept (tg := 0) rfl hl' (fun q hq hc => keep_i hq hc) List.mem_cons_self) (okkeep q.2.2.1 (w32_in _)) q.2.2.2.1)
theorem lt_of_st {tg j nL : Nat} (h : j + (if tg = 1 then 1 else 0) < nL) : j < nL := by omega
end ST5
end
-- == 11.all.lean.txt
section
section ST6
variable {g : bG} {l : Launch} {d k n0 n1 : Nat} {Q : bQ} {p : Program} {e : Env} {R : Room} {s : State} {m : MethodId} {args : Array Value} {below : List Frame} {meth : Method} {c : Code} {Z : State → Prop}
set_option maxHeartbeats 4000000 in
theorem cst_ok (C : Cx g k p s m args meth c) {t : Tok} {S S' : bS} (hd : decode (mcode k) S.1 = .ok (t.1, t.2.1)) (ht : okT k t = true) (hs : cst (gsc g) k t S = some S') (hk : Wg g l k n0 p e R s m args below meth c Z S') : Wg g l k n0 p e R s m args below meth c Z S := by
  obtain ⟨i, len, aux, widx⟩ := t
  have hx := C.1
  have hb := C.2.1
  have hown := C.2.2.2.2.2.1
  have hts := C.2.2.2.2.2.2.1
  have hK := C.2.2.2.2.2.2.2.2
  dsimp only at hd
  cases i with
  | iadd =>
    have hl : len = 1 := okT_len ht rfl
    subst hl
    have hs2 : b2 0 0 0 (fun x y => some (w32 (x + y))) S 1 = some S' := hs
    exact st_b2 hs2 (fun x y z r H locs ls hx1 hy1 hf => by cases hf; exact ⟨w32_in _, fun w => lv_iadd hx hb hd (by rw [i32_add]; exact w)⟩) hk
  | isub =>
    have hl : len = 1 := okT_len ht rfl
    subst hl
    have hs2 : b2 0 0 0 (fun x y => some (w32 (x - y))) S 1 = some S' := hs
    exact st_b2 hs2 (fun x y z r H locs ls hx1 hy1 hf => by cases hf; exact ⟨w32_in _, fun w => lv_isub hx hb hd (by rw [i32_sub]; exact w)⟩) hk
  | imul =>
    have hl : len = 1 := okT_len ht rfl
    subst hl
    have hs2 : b2 0 0 0 (fun x y => some (w32 (x * y))) S 1 = some S' := hs
    exact st_b2 hs2 (fun x y z r H locs ls hx1 hy1 hf => by cases hf; exact ⟨w32_in _, fun w => lv_imul hx hb hd (by rw [i32_mul]; exact w)⟩) hk
  | ladd =>
    have hl : len = 1 := okT_len ht rfl
    subst hl
    have hs2 : b2 1 1 1 (fun x y => some (w64 (x + y))) S 1 = some S' := hs
    exact st_b2 hs2 (fun x y z r H locs ls hx1 hy1 hf => by cases hf; exact ⟨w64_in _, fun w => lv_ladd hx hb hd (by rw [i64_add]; exact w)⟩) hk
  | lsub =>
    have hl : len = 1 := okT_len ht rfl
    subst hl
    have hs2 : b2 1 1 1 (fun x y => some (w64 (x - y))) S 1 = some S' := hs
    exact st_b2 hs2 (fun x y z r H locs ls hx1 hy1 hf => by cases hf; exact ⟨w64_in _, fun w => lv_lsub hx hb hd (by rw [i64_sub]; exact w)⟩) hk
  | lmul =>
    have hl : len = 1 := okT_len ht rfl
    subst hl
    have hs2 : b2 1 1 1 (fun x y => some (w64 (x * y))) S 1 = some S' := hs
    exact st_b2 hs2 (fun x y z r H locs ls hx1 hy1 hf => by cases hf; exact ⟨w64_in _, fun w => lv_lmul hx hb hd (by rw [i64_mul]; exact w)⟩) hk
  | iand =>
    have hl : len = 1 := okT_len ht rfl
    subst hl
    have hs2 : b2 0 0 0 (fun x y => some (andI x y)) S 1 = some S' := hs
    exact st_b2 hs2 (fun x y z r H locs ls hx1 hy1 hf => by cases hf; exact ⟨i32_in _, fun w => lv_iand hx hb hd (by rw [← i32_of (Int32.ofInt x &&& Int32.ofInt y)]; exact w)⟩) hk
  | ior =>
    have hl : len = 1 := okT_len ht rfl
    subst hl
    have hs2 : b2 0 0 0 (fun x y => some (orI x y)) S 1 = some S' := hs
    exact st_b2 hs2 (fun x y z r H locs ls hx1 hy1 hf => by cases hf; exact ⟨i32_in _, fun w => lv_ior hx hb hd (by rw [← i32_of (Int32.ofInt x ||| Int32.ofInt y)]; exact w)⟩) hk
  | ixor =>
    have hl : len = 1 := okT_len ht rfl
    subst hl
    have hs2 : b2 0 0 0 (fun x y => some (xorI x y)) S 1 = some S' := hs
    exact st_b2 hs2 (fun x y z r H locs ls hx1 hy1 hf => by cases hf; exact ⟨i32_in _, fun w => lv_ixor hx hb hd (by rw [← i32_of (Int32.ofInt x ^^^ Int32.ofInt y)]; exact w)⟩) hk
  | ishl =>
    have hl : len = 1 := okT_len ht rfl
    subst hl
    have hs2 : b2 0 0 0 (fun x y => some (shlI x y)) S 1 = some S' := hs
    exact st_b2 hs2 (fun x y z r H locs ls hx1 hy1 hf => by cases hf; exact ⟨i32_in _, fun w => lv_ishl hx hb hd (by rw [← i32_of (Int32.ofInt x <<< (Int32.ofInt y &&& 31))]; exact w)⟩) hk
  | ishr =>
    have hl : len = 1 := okT_len ht rfl
    subst hl
    have hs2 : b2 0 0 0 (fun x y => some (shrI x y)) S 1 = some S' := hs
    exact st_b2 hs2 (fun x y z r H locs ls hx1 hy1 hf => by cases hf; exact ⟨i32_in _, fun w => lv_ishr hx hb hd (by rw [← i32_of (Int32.ofInt x >>> (Int32.ofInt y &&& 31))]; exact w)⟩) hk
  | land =>
    have hl : len = 1 := okT_len ht rfl
    subst hl
    have hs2 : b2 1 1 1 (fun x y => some (andL x y)) S 1 = some S' := hs
    exact st_b2 hs2 (fun x y z r H locs ls hx1 hy1 hf => by cases hf; exact ⟨i64_in _, fun w => lv_land hx hb hd (by rw [← i64_of (Int64.ofInt x &&& Int64.ofInt y)]; exact w)⟩) hk
  | lor =>
    have hl : len = 1 := okT_len ht rfl
    subst hl
    have hs2 : b2 1 1 1 (fun x y => some (orL x y)) S 1 = some S' := hs
    exact st_b2 hs2 (fun x y z r H locs ls hx1 hy1 hf => by cases hf; exact ⟨i64_in _, fun w => lv_lor hx hb hd (by rw [← i64_of (Int64.ofInt x ||| Int64.ofInt y)]; exact w)⟩) hk
  | iushr =>
    have hl : len = 1 := okT_len ht rfl
    subst hl
    have hs2 : b2 0 0 0 (fun x y => some (ushrI x y)) S 1 = some S' := hs
    exact st_b2 hs2 (fun x y z r H locs ls hx1 hy1 hf => by cases hf; exact ⟨i32_in _, fun w => lv_iushr hx hb hd (v := Int32.ofInt (ushrI x y)) (i32_of _).symm w⟩) hk
  | lshl =>
    have hl : len = 1 := okT_len ht rfl
    subst hl
    have hs2 : b2 1 0 1 (fun x y => some (shlL x y)) S 1 = some S' := hs
    exact st_b2 hs2 (fun x y z r H locs ls hx1 hy1 hf => by cases hf; exact ⟨i64_in _, fun w => lv_lshl hx hb hd (v := Int64.ofInt (shlL x y)) (i64_of _).symm w⟩) hk
  | lshr =>
    have hl : len = 1 := okT_len ht rfl
    subst hl
    have hs2 : b2 1 0 1 (fun x y => some (shrL x y)) S 1 = some S' := hs
    exact st_b2 hs2 (fun x y z r H locs ls hx1 hy1 hf => by cases hf; exact ⟨i64_in _, fun w => lv_lshr hx hb hd (v := Int64.ofInt (shrL x y)) (i64_of _).symm w⟩) hk
  | idiv =>
    have hl : len = 1 := okT_len ht rfl
    subst hl
    have hs2 : b2 0 0 0 divI S 1 = some S' := hs
    exact st_b2 hs2 (fun x y z r H locs ls hx1 hy1 hf => by obtain ⟨h0, rfl⟩ := divI_x hf; exact ⟨w32_in _, fun w => lv_idiv hx hb hd (i32_0 hy1 h0) (by rw [i32_div hx1 hy1]; exact w)⟩) hk
  | irem =>
    have hl : len = 1 := okT_len ht rfl
    subst hl
    have hs2 : b2 0 0 0 remI S 1 = some S' := hs
    exact st_b2 hs2 (fun x y z r H locs ls hx1 hy1 hf => by obtain ⟨h0, rfl⟩ := remI_x hf; exact ⟨tmod_in hx1 hy1, fun w => lv_irem hx hb hd (i32_0 hy1 h0) (by rw [i32_rem hx1 hy1]; exact w)⟩) hk
  | ldiv =>
    have hl : len = 1 := okT_len ht rfl
    subst hl
    have hs2 : b2 1 1 1 divL S 1 = some S' := hs
    exact st_b2 hs2 (fun x y z r H locs ls hx1 hy1 hf => by obtain ⟨h0, rfl⟩ := divL_x hf; exact ⟨w64_in _, fun w => lv_ldiv hx hb hd (i64_0 hy1 h0) (by rw [i64_div hx1 hy1]; exact w)⟩) hk
  | lrem =>
    have hl : len = 1 := okT_len ht rfl
    subst hl
    have hs2 : b2 1 1 1 remL S 1 = some S' := hs
    exact st_b2 hs2 (fun x y z r H locs ls hx1 hy1 hf => by obtain ⟨h0, rfl⟩ := remL_x hf; exact ⟨tmodL_in hx1 hy1, fun w => lv_lrem hx hb hd (i64_0 hy1 h0) (by rw [i64_rem hx1 hy1]; exact w)⟩) hk
  | lcmp =>
    have hl : len = 1 := okT_len ht rfl
    subst hl
    have hs2 : b2 1 1 0 (fun x y => some (cmpL x y)) S 1 = some S' := hs
    exact st_b2 hs2 (fun x y z r H locs ls hx1 hy1 hf => by cases hf; exact ⟨cmpL_in _ _, fun w => W.lcmp hx hb hd (by rw [i64_cmp hx1 hy1]; exact w)⟩) hk
  | i2l =>
    have hl : len = 1 := okT_len ht rfl
    subst hl
    have hs2 : b1 0 1 (fun x => some x) S 1 = some S' := hs
    exact st_b1 hs2 (fun x z r H locs ls hx1 hf => by cases hf; exact ⟨in32_64 hx1, fun w => lv_i2l hx hb hd (v := Int64.ofInt x) (i32_i2l x hx1) w⟩) hk
  | l2i =>
    have hl : len = 1 := okT_len ht rfl
    subst hl
    have hs2 : b1 1 0 (fun x => some (w32 x)) S 1 = some S' := hs
    exact st_b1 hs2 (fun x z r H locs ls hx1 hf => by cases hf; exact ⟨w32_in _, fun w => lv_l2i hx hb hd (v := Int32.ofInt (w32 x)) (i64_l2i x hx1) w⟩) hk
  | i2b =>
    have hl : len = 1 := okT_len ht rfl
    subst hl
    have hs2 : b1 0 0 (fun x => some (Int.bmod x 256)) S 1 = some S' := hs
    exact st_b1 hs2 (fun x z r H locs ls hx1 hf => by cases hf; exact ⟨bmod_in (b := 256) (by omega) (by omega), fun w => lv_i2b hx hb hd (v := Int32.ofInt (x.bmod 256)) (i32_i2b x hx1) w⟩) hk
  | i2s =>
    have hl : len = 1 := okT_len ht rfl
    subst hl
    have hs2 : b1 0 0 (fun x => some (Int.bmod x 65536)) S 1 = some S' := hs
    exact st_b1 hs2 (fun x z r H locs ls hx1 hf => by cases hf; exact ⟨bmod_in (b := 65536) (by omega) (by omega), fun w => lv_i2s hx hb hd (v := Int32.ofInt (x.bmod 65536)) (i32_i2s x hx1) w⟩) hk
  | ineg =>
    have hl : len = 1 := okT_len ht rfl
    subst hl
    have hs2 : b1 0 0 (fun x => some (w32 (-x))) S 1 = some S' := hs
    exact st_b1 hs2 (fun x z r H locs ls hx1 hf => by cases hf; exact ⟨w32_in _, fun w => lv_ineg hx hb hd (by rw [i32_neg]; exact w)⟩) hk
  | iload j =>
    have hl : len = 2 := okT_len ht rfl
    subst hl
    have hs2 : bld 0 j 2 S = some S' := hs
    exact st_ld hs2 (fun x r H locs ls hl w => lv_iload hx hb hd hl w) hk
  | iload_n j =>
    have hl : len = 1 := okT_len ht rfl
    subst hl
    have hs2 : bld 0 j 1 S = some S' := hs
    exact st_ld hs2 (fun x r H locs ls hl w => lv_iload_n hx hb hd rfl hl w) hk
  | lload j =>
    have hl : len = 2 := okT_len ht rfl
    subst hl
    have hs2 : bld 1 j 2 S = some S' := hs
    exact st_ld hs2 (fun x r H locs ls hl w => lv_lload hx hb hd hl w) hk
  | lload_n j =>
    have hl : len = 1 := okT_len ht rfl
    subst hl
    have hs2 : bld 1 j 1 S = some S' := hs
    exact st_ld hs2 (fun x r H locs ls hl w => lv_lload_n hx hb hd rfl hl w) hk
  | aload j =>
    have hl : len = 2 := okT_len ht rfl
    subst hl
    have hs2 : bld 2 j 2 S = some S' := hs
    refine st_ld hs2 (fun x r H locs ls hl w => ?_) hk
    by_cases h0 : x < 0
    · rw [show cvk g 2 x = Value.null from cv_2n g h0] at hl w; exact lv_aloadN hx hb hd hl w
    · rw [show cvk g 2 x = Value.ref (ad g x.toNat) from cv_2 g (by omega)] at hl w; exact lv_aload hx hb hd hl w
  | aload_n j =>
    have hl : len = 1 := okT_len ht rfl
    subst hl
    have hs2 : bld 2 j 1 S = some S' := hs
    refine st_ld hs2 (fun x r H locs ls hl w => ?_) hk
    by_cases h0 : x < 0
    · rw [show cvk g 2 x = Value.null from cv_2n g h0] at hl w; exact lv_aload_nN hx hb hd rfl hl w
    · rw [show cvk g 2 x = Value.ref (ad g x.toNat) from cv_2 g (by omega)] at hl w; exact lv_aload_n hx hb hd rfl hl w
  | istore j =>
    have hl : len = 2 := okT_len ht rfl
    subst hl
    have hs2 : bst 0 j 2 (mml k) S = some S' := hs
    exact st_st rfl hs2 (fun x r H locs ls lv h1 h2 h3 hw => lv_istore hx hb hd h2 (lt_of_st h3) rfl (fun ls' hl' => hw ls' _ hl' List.mem_cons_self (fun q hq hc => keep_i hq hc))) hk
  | istore_n j =>
    have hl : len = 1 := okT_len ht rfl
    subst hl
    have hs2 : bst 0 j 1 (mml k) S = some S' := hs
    exact st_st rfl hs2 (fun x r H locs ls lv h1 h2 h3 hw => lv_istore_n hx hb hd rfl h2 (lt_of_st h3) rfl (fun ls' hl' => hw ls' _ hl' List.mem_cons_self (fun q hq hc => keep_i hq hc))) hk
  | lstore j =>
    have hl : len = 2 := okT_len ht rfl
    subst hl
    have hs2 : bst 1 j 2 (mml k) S = some S' := hs
    exact st_st rfl hs2 (fun x r H locs ls lv h1 h2 h3 hw => lv_lstore hx hb hd h2 (by simpa using h3) rfl (fun ls' hl' => hw ls' _ hl' List.mem_cons_self (fun q hq hc => keep_l hq hc))) hk
  | lstore_n j =>
    have hl : len = 1 := okT_len ht rfl
    subst hl
    have hs2 : bst 1 j 1 (mml k) S = some S' := hs
    exact st_st rfl hs2 (fun x r H locs ls lv h1 h2 h3 hw => lv_lstore_n hx hb hd rfl h2 (by simpa using h3) rfl (fun ls' hl' => hw ls' _ hl' List.mem_cons_self (fun q hq hc => keep_l hq hc))) hk
  | astore j =>
    have hl : len = 2 := okT_len ht rfl
    subst hl
    have hs2 : bst 2 j 2 (mml k) S = some S' := hs
    refine st_st rfl hs2 (fun x r H locs ls lv h1 h2 h3 hw => ?_) hk
    by_cases h0 : x < 0
    · rw [show cvk g 2 x = Value.null from cv_2n g h0] at hw ⊢; exact lv_astoreN hx hb hd h2 (lt_of_st h3) rfl (fun ls' hl' => hw ls' _ hl' List.mem_cons_self (fun q hq hc => keep_a hq hc))
    · rw [show cvk g 2 x = Value.ref (ad g x.toNat) from cv_2 g (by omega)] at hw ⊢; exact lv_astore hx hb hd h2 (lt_of_st h3) rfl (fun ls' hl' => hw ls' _ hl' List.mem_cons_self (fun q hq hc => keep_a hq hc))
  | astore_n j =>
    have hl : len = 1 := okT_len ht rfl
    subst hl
    have hs2 : bst 2 j 1 (mml k) S = some S' := hs
    refine st_st rfl hs2 (fun x r H locs ls lv h1 h2 h3 hw => ?_) hk
    by_cases h0 : x < 0
    · rw [show cvk g 2 x = Value.null from cv_2n g h0] at hw ⊢; exact lv_astore_nN hx hb hd rfl h2 (lt_of_st h3) rfl (fun ls' hl' => hw ls' _ hl' List.mem_cons_self (fun q hq hc => keep_a hq hc))
    · rw [show cvk g 2 x = Value.ref (ad g x.toNat) from cv_2 g (by omega)] at hw ⊢; exact lv_astore_n hx hb hd rfl h2 (lt_of_st h3) rfl (fun ls' hl' => hw ls' _ hl' List.mem_cons_self (fun q hq hc => keep_a hq hc))
  | iinc j cn =>
    have hl : len = 3 := okT_len ht rfl
    subst hl
    exact st_inc hx hb hd hs hk
  | ifCond co off =>
    have hl : len = 3 := okT_len ht rfl
    subst hl
    exact st_if hx hb hd hs hk
  | if_icmp co off =>
    have hl : len = 3 := okT_len ht rfl
    subst hl
    exact st_icmp hx hb hd hs hk
  | goto off =>
    have hl : len = 3 := okT_len ht rfl
    subst hl
    exact st_goto hx hb hd hs hk
  | ifnull off =>
    have hl : len = 3 := okT_len ht rfl
    subst hl
    exact st_null (z := true) hx hb hd hs hk
  | ifnonnull off =>
    have hl : len = 3 := okT_len ht rfl
    subst hl
    exact st_null (z := false) hx hb hd hs hk
  | tableswitch df lo hi offs =>
    exact st_tab hx hb hd hs hk
  | lookupswitch df ps =>
    exact st_lkp hx hb hd hs hk
  | getfield ix =>
    have hl : len = 3 := okT_len ht rfl
    subst hl
    exact st_get C hd ht hs hk
  | putfield ix =>
    have hl : len = 3 := okT_len ht rfl
    subst hl
    exact st_put C hd ht hs hk
  | iaload =>
    have hl : len = 1 := okT_len ht rfl
    subst hl
    exact st_iald rfl C hd hs hk
  | laload =>
    have hl : len = 1 := okT_len ht rfl
    subst hl
    exact st_lald C hd hs hk
  | aaload =>
    have hl : len = 1 := okT_len ht rfl
    subst hl
    have hs2 : (if aux = 0 then baload 2 2 S else baload 3 2 S) = some S' := hs
    refine st_aald (z := decide (aux = 0)) C hd ?_ hk
    by_cases h0 : aux = 0 <;> simp [h0] at hs2 ⊢ <;> exact hs2
  | iastore =>
    have hl : len = 1 := okT_len ht rfl
    subst hl
    exact st_iast C hd hs hk
  | lastore =>
    have hl : len = 1 := okT_len ht rfl
    subst hl
    exact st_last C hd hs hk
  | arraylength =>
    have hl : len = 1 := okT_len ht rfl
    subst hl
    exact st_len rfl C hd hs hk
  | iconst cn =>
    have hl : len = 1 := okT_len ht rfl
    subst hl
    cases hs
    intro H locs ls q
    have w := hk H locs ls (q.stk (okc (w32_in _) q.2.2.2.1))
    exact lv_iconst hx hb hd (i32_w cn).symm w
  | bipush cn =>
    have hl : len = 2 := okT_len ht rfl
    subst hl
    cases hs
    intro H locs ls q
    have w := hk H locs ls (q.stk (okc (bmod_in (b := 256) (by omega) (by omega)) q.2.2.2.1))
    exact lv_bipush hx hb hd (i8_c cn) w
  | sipush cn =>
    have hl : len = 3 := okT_len ht rfl
    subst hl
    cases hs
    intro H locs ls q
    have w := hk H locs ls (q.stk (okc (bmod_in (b := 65536) (by omega) (by omega)) q.2.2.2.1))
    exact lv_sipush hx hb hd (i16_c cn) w
  | lconst cn =>
    have hl : len = 1 := okT_len ht rfl
    subst hl
    cases hs
    intro H locs ls q
    have w := hk H locs ls (q.stk (okc (by show in64 _; unfold in64; omega) q.2.2.2.1))
    exact lv_lconst hx hb hd (v := Int64.ofInt ((cn : Nat) : Int)) rfl w
  | aconst_null =>
    have hl : len = 1 := okT_len ht rfl
    subst hl
    cases hs
    intro H locs ls q
    have w := hk H locs ls (q.stk (okc (by show (-1 : Int) ≤ -1; omega) q.2.2.2.1))
    exact lv_null hx hb hd w
  | ldc_w ix =>
    have hl : len = 3 := okT_len ht rfl
    subst hl
    cases hs
    intro H locs ls q
    have w := hk H locs ls (q.stk (okc (w32_in _) q.2.2.2.1))
    have hc : (Cond.constant (mown k) ix (Int32.ofInt (kI.getD aux 0))).before args s = true := by
      unfold okT at ht; rw [Bool.and_eq_true] at ht; exact hts _ (wd_in ht.2)
    rw [← i32_w] at hc
    exact lv_ldcw hx hb hown hc hd w
  | ldc2_w ix =>
    have hl : len = 3 := okT_len ht rfl
    subst hl
    cases hs
    intro H locs ls q
    have w := hk H locs ls (q.stk (okc (w64_in _) q.2.2.2.1))
    have hc : (Cond.constantLong (mown k) ix (Int64.ofInt (kI.getD aux 0))).before args s = true := by
      unfold okT at ht; rw [Bool.and_eq_true] at ht; exact hts _ (wd_in ht.2)
    rw [← i64_w] at hc
    exact lv_ldc2 hx hb hown hc hd w
  | ldc ix =>
    have hl : len = 2 := okT_len ht rfl
    subst hl
    unfold okT at ht
    rw [Bool.and_eq_true] at ht
    replace ht := ht.2
    dsimp only [cst] at hs ht
    by_cases ha : aux < 1000
    · rw [if_pos ha] at hs ht
      cases hs
      intro H locs ls q
      have w := hk H locs ls (q.stk (okc (w32_in _) q.2.2.2.1))
      have hc : (Cond.constant (mown k) ix (Int32.ofInt (kI.getD aux 0))).before args s = true := hts _ (wd_in ht)
      rw [← i32_w] at hc
      exact lv_ldc hx hb hown hc hd w
    · rw [if_neg ha] at hs ht
      cases hs
      cases hq : kStr[aux - 1000]? with
      | none => rw [hq] at ht; cases ht
      | some z =>
        rw [hq] at ht
        dsimp only at ht
        rw [Bool.and_eq_true, beq_iff_eq, beq_iff_eq] at ht
        obtain ⟨rfl, hT⟩ := ht
        replace hown : s.vm.findClass (mown k) = some m.cls := hown
        rw [hT] at hown
        have hR := hK.2.2.2.1 _ _ hq
        have h20 : aux - 1000 < 20 := (List.getElem?_eq_some_iff.mp hq).1
        intro H locs ls q
        have w := hk H locs ls (q.stk (okc (v := (2, (aux : Int) - 488)) (by show (-1 : Int) ≤ _; omega) q.2.2.2.1))
        refine va_ldcS hx hb hown hR hd ?_
        have e1 : cv g (2, (aux : Int) - 488) = .ref (gK g (aux - 1000)) := by
          rw [cv_2 g (by omega)]
          unfold ad
          rw [if_neg (by omega), if_pos (by omega)]
          rw [show ((aux : Int) - 488).toNat - 512 = aux - 1000 by omega]
        dsimp only [List.map_cons] at w
        rw [← e1]
        exact w
  | pop =>
    have hl : len = 1 := okT_len ht rfl
    subst hl
    intro H locs ls q
    obtain ⟨pc, lv, st, n, hh⟩ := S
    rcases st with _ | ⟨v, r⟩
    · cases hs
    have hs2 : (if v.1 = 1 then none else some (pc + 1, lv, r, n, hh)) = some S' := hs
    by_cases h1 : v.1 = 1
    · rw [if_pos h1] at hs2; cases hs2
    · rw [if_neg h1] at hs2; cases hs2
      exact lv_pop hx hb hd (by rw [cv_cat, if_neg h1]) (hk H locs ls (q.stk (okr q.2.2.2.1)))
  | dup =>
    have hl : len = 1 := okT_len ht rfl
    subst hl
    intro H locs ls q
    obtain ⟨pc, lv, st, n, hh⟩ := S
    rcases st with _ | ⟨v, r⟩
    · cases hs
    have hs2 : (if v.1 = 1 then none else some (pc + 1, lv, v :: v :: r, n, hh)) = some S' := hs
    by_cases h1 : v.1 = 1
    · rw [if_pos h1] at hs2; cases hs2
    · rw [if_neg h1] at hs2; cases hs2
      exact lv_dup hx hb hd (by rw [cv_cat, if_neg h1]) (hk H locs ls (q.stk (okc (ok1 q.2.2.2.1) q.2.2.2.1)))
  | dup_x1 =>
    have hl : len = 1 := okT_len ht rfl
    subst hl
    intro H locs ls q
    obtain ⟨pc, lv, st, n, hh⟩ := S
    rcases st with _ | ⟨v, _ | ⟨w, r⟩⟩
    · cases hs
    · cases hs
    have hs2 : (if v.1 = 1 ∨ w.1 = 1 then none else some (pc + 1, lv, v :: w :: v :: r, n, hh)) = some S' := hs
    by_cases h1 : v.1 = 1 ∨ w.1 = 1
    · rw [if_pos h1] at hs2; cases hs2
    · rw [if_neg h1] at hs2; cases hs2
      exact lv_dup_x1 hx hb hd (by rw [cv_cat, if_neg (fun h => h1 (Or.inl h))]) (by rw [cv_cat, if_neg (fun h => h1 (Or.inr h))]) (hk H locs ls (q.stk (okc (ok1 q.2.2.2.1) (okc (ok1 (okr q.2.2.2.1)) (okc (ok1 q.2.2.2.1) (okr (okr q.2.2.2.1)))))))
  | dup2 =>
    have hl : len = 1 := okT_len ht rfl
    subst hl
    intro H locs ls q
    obtain ⟨pc, lv, st, n, hh⟩ := S
    rcases st with _ | ⟨v, _ | ⟨w, r⟩⟩
    · cases hs
    · cases hs
    have hs2 : (if v.1 = 1 ∨ w.1 = 1 then none else some (pc + 1, lv, v :: w :: v :: w :: r, n, hh)) = some S' := hs
    by_cases h1 : v.1 = 1 ∨ w.1 = 1
    · rw [if_pos h1] at hs2; cases hs2
    · rw [if_neg h1] at hs2; cases hs2
      exact lv_dup2_11 hx hb hd (by rw [cv_cat, if_neg (fun h => h1 (Or.inl h))]) (by rw [cv_cat, if_neg (fun h => h1 (Or.inr h))]) (hk H locs ls (q.stk (okc (ok1 q.2.2.2.1) (okc (ok1 (okr q.2.2.2.1)) q.2.2.2.1))))
  | dup_x2 =>
    have hl : len = 1 := okT_len ht rfl
    subst hl
    intro H locs ls q
    obtain ⟨pc, lv, st, n, hh⟩ := S
    rcases st with _ | ⟨v, _ | ⟨w, _ | ⟨z, r⟩⟩⟩
    · cases hs
    · cases hs
    · cases hs
    have hs2 : (if v.1 = 1 ∨ w.1 = 1 ∨ z.1 = 1 then none else some (pc + 1, lv, v :: w :: z :: v :: r, n, hh)) = some S' := hs
    by_cases h1 : v.1 = 1 ∨ w.1 = 1 ∨ z.1 = 1
    · rw [if_pos h1] at hs2; cases hs2
    · rw [if_neg h1] at hs2; cases hs2
      exact lv_dup_x2 hx hb hd (by rw [cv_cat, if_neg (fun h => h1 (Or.inl h))]) (by rw [cv_cat, if_neg (fun h => h1 (Or.inr (Or.inl h)))]) (by rw [cv_cat, if_neg (fun h => h1 (Or.inr (Or.inr h)))]) (hk H locs ls (q.stk (okc (ok1 q.2.2.2.1) (okc (ok1 (okr q.2.2.2.1)) (okc (ok1 (okr (okr q.2.2.2.1))) (okc (ok1 q.2.2.2.1) (okr (okr (okr q.2.2.2.1)))))))))
  | _ => cases hs
end ST6
end
-- == 12.call.lean.txt
section
theorem okM_x {k : Nat} (h : okM k = true) : Jvm.Cond.code (mname k) (mcode k) (mml k) (mret k) ∈ wA ∧ Jvm.Cond.initialized (mname k).cls ∈ wA ∧ ((mname k).cls ≠ "java/lang/invoke/MethodHandle" ∧ (mname k).cls ≠ "java/lang/invoke/VarHandle") ∧ plainFor (mname k) = true ∧ (parseMethodDescriptor (mname k).desc).map (fun d => d.parameters.length) = some (mnp k) ∧ (mst k = true → Jvm.Cond.static (mname k) ∈ wA) ∧ (mst k = false → Jvm.Cond.instanceMethod (mname k) ∈ wA ∧ ((mname k).name ≠ "<init>" → Jvm.Cond.selects (mname k).cls (mname k) (mname k) ∈ wA)) ∧ mml k ≤ 44 := by
  have wi : ∀ {i : Nat} {w : Jvm.Cond}, okW i w = true → w ∈ wA := fun h => okW_wA h
  unfold okM at h
  rw [Bool.and_eq_true, decide_eq_true_eq] at h
  obtain ⟨hk0, h⟩ := h
  cases hq : kMx[k]? with
  | none => rw [hq] at h; cases h
  | some q =>
    rw [hq] at h
    dsimp only at h
    simp only [Bool.and_eq_true, bne_iff_ne, beq_iff_eq, decide_eq_true_eq] at h
    obtain ⟨h1, h2, h3, h4, h5, h6, h7, h8⟩ := h
    have hg : kMx.getD k (0, 0, 0, 0, 0, 0) = q := by rw [List.getD_eq_getElem?_getD, hq]; rfl
    have hcode : Jvm.Cond.code (mname k) (mcode k) (mml k) (mret k) ∈ wA := by
      cases hw : tAt q.1 with
      | none => rw [hw] at h1; cases h1
      | some w =>
        rw [hw] at h1
        cases w with
        | code y b n r =>
          dsimp only at h1
          simp only [Bool.and_eq_true, beq_iff_eq] at h1
          obtain ⟨rfl, rfl, rfl, hgw⟩ := h1
          have hb : mcode k = b := by
            show mcd k = b
            unfold mcd codeAt
            rw [if_neg hk0, hg, hw]
          rw [hb]
          exact List.mem_filter.mpr ⟨tAt_mem hw, hgw⟩
        | _ => cases h1
    refine ⟨hcode, wi h2, ⟨h3, h4⟩, h5, by rw [h6]; unfold mnp; rw [hg], ?_, ?_, h8⟩
    · intro hs
      unfold mst at hs
      rw [hg, beq_iff_eq] at hs
      rw [if_pos hs] at h7
      exact wi h7
    · intro hs
      unfold mst at hs
      rw [hg] at hs
      rw [if_neg (by simpa using hs)] at h7
      simp only [Bool.and_eq_true, Bool.or_eq_true, beq_iff_eq] at h7
      exact ⟨wi h7.1, fun hn => wi (h7.2.resolve_left hn)⟩
section ST7
variable {g : bG} {l : Launch} {d k n0 n1 : Nat} {Q : bQ} {p : Program} {e : Env} {R : Room} {s : State} {m : MethodId} {args : Array Value} {below : List Frame} {meth : Method} {c : Code} {Z : State → Prop}
def rmd (d n0 n1 : Nat) : Room := { frames := d + 1, cells := n1 - n0, slots := slN n1 - slN n0, locals := 64 * (d + 1) }
def QcH (g : bG) (k n1 : Nat) (Q : bQ) : Array Value → State → Outcome → State → Prop := fun _ _ o t => ∃ (r : Option bV) (h : bH), o = .returned (r.map (cv g)) ∧ HR g n1 h t.heap ∧ bfit (mret k) r ∧ Q r h
def PcH (g : bG) (n0 : Nat) (vs : List bV) (h : bH) : Array Value → State → Prop := fun a U => a = (vs.map (cv g)).toArray ∧ HR g n0 h U.heap ∧ KS g U ∧ ∀ v ∈ vs, okv v
/-- the contract of method k, at depth d: from the contents h it comes to an answer with Q -/
def MH (g : bG) (l : Launch) (d k n0 n1 : Nat) (vs : List bV) (h : bH) (Q : bQ) : Prop :=
  Met l (mname k) (wsm k) (rmd d n0 n1) (PcH g n0 vs h) (QcH g k n1 Q) (n1 - n0) (slN n1 - slN n0) (fun q => gsz g ≤ q)
theorem bfit_ok {t : Option FieldType} {v : bV} (h : bfit t (some v)) : okv v := by
  obtain ⟨x, y⟩ := v
  match t, x, h with
  | some .int, 0, h => exact h
  | some .boolean, 0, h =>
    have h2 : 0 ≤ y ∧ y ≤ 1 := h
    show in32 y
    unfold in32; omega
  | some .long, 1, h => exact h
  | some (.object _), 2, h => exact h
  | some .char, 0, h =>
    have h2 : 0 ≤ y ∧ y < 65536 := h
    show in32 y
    unfold in32; omega
  | some .byte, 0, h =>
    have h2 : y = 0 := h
    show in32 y
    unfold in32; omega
theorem wA_pay {wk : Jvm.Cond} (hg : wk ∈ wA) {args : Array Value} {s : State} (hts : ∀ w ∈ wA, w.before args s = true) : ∀ w ∈ wk :: wA, ∀ (a' : Array Value) (U : State), s.WarmedH U.vm → w.before a' U = true := by
  intro w hw a' U hW
  have hm : w ∈ wA := by
    rcases List.mem_cons.mp hw with rfl | h
    · exact hg
    · exact h
  exact word_at hW (good_of_word (List.mem_filter.mp hm).2) (hts w hm)
theorem PcH_blind (g : bG) (n0 : Nat) (vs : List bV) (h : bH) : FrameBlind (PcH g n0 vs h) := fun a U gg mk q => ⟨q.1, q.2.1, KS.same rfl q.2.2.1, q.2.2.2⟩
/-- behind a call -/
theorem back_call {k' n n' pc : Nat} {lv : bL} {rest : List bV} {H : Heap} {locs : List Loc} {ls : Array Slot} {st0 : List Value} {a : Array Value}
    (E : Ex g l (d + 1) k n0 n1 Q p e R s m args below meth c Z) (hK : KS g s) (hl : lv_has ls (mml k) (lv.map (clv g))) (hlo : ∀ q ∈ lv, okv q.2) (hro : ∀ v ∈ rest, okv v) (hlc : ∀ q ∈ locs, gsz g ≤ q.base) (h0 : n0 ≤ n) (h1 : n ≤ n') (h2 : n' ≤ n1) (hsl : slN n0 ≤ slN n ∧ slN n ≤ slN n')
    (hr : va_Run p l e R s m args below meth c H locs (n - n0) (slN n - slN n0) (n' - n) (slN n' - slN n) (F0 m pc ls st0) (rest.map (cv g)) (QcH g k' n' (fun r h' => WP g l (d + 1) k n0 n1 Q (pc + 3, lv, r.toList ++ rest, n', h')) a) (fun q => gsz g ≤ q)) :
    W p l e R s m args below meth c H locs (n - n0) (slN n - slN n0) Z (F0 m pc ls st0) := by
  intro T hT X
  obtain ⟨v, st₀, t, T', L, e0, X', hL, e1, e2, ⟨r, h', hv, hH, hf, hQ⟩, st⟩ := hr T hT X
  cases hv
  have hrs : RS g k n' h' lv (r.toList ++ rest) T'.heap (locs ++ L) ls := by
    refine ⟨by rw [e1]; exact hH, hl, hlo, ?_, ?_⟩
    · intro w hw
      rcases List.mem_append.mp hw with hw | hw
      · cases r with
        | none => cases hw
        | some v =>
          have : w = v := by simpa using hw
          subst this
          exact bfit_ok hf
      · exact hro w hw
    · intro q hq
      rcases List.mem_append.mp hq with hq | hq
      · exact hlc q hq
      · exact hL q hq
  have hw := hQ p e R s m args below meth c Z E T'.heap (locs ++ L) ls hrs (by show n0 ≤ n'; omega) h2
  have en : n - n0 + (n' - n) = n' - n0 := by omega
  have es : slN n - slN n0 + (slN n' - slN n) = slN n' - slN n0 := by omega
  rw [en, es] at X'
  have em : (r.toList ++ rest).map (cv g) = (r.map (cv g)).toList ++ rest.map (cv g) := by
    rw [List.map_append]
    cases r <;> rfl
  dsimp only at hw
  rw [em] at hw
  obtain ⟨t2, a1, b1⟩ := hw T' rfl X'
  exact ⟨t2, st t2 a1, b1⟩
end ST7
end
-- == 13.calls.lean.txt
section
theorem slN_mono {a b : Nat} (h : a ≤ b) : slN a ≤ slN b := by
  unfold slN
  obtain ⟨c, rfl⟩ := Nat.le.dest h
  induction c with
  | zero => exact Nat.le_refl _
  | succ c ih =>
    refine Nat.le_trans (ih (Nat.le_add_right _ _)) ?_
    rw [← Nat.add_assoc, List.take_succ, List.map_append, List.sum_append]
    exact Nat.le_add_right _ _
def stw (st : List bV) : Nat := (st.map fun v => if v.1 = 1 then 2 else 1).sum
theorem stw_cat (g : bG) (st : List bV) : ((st.map (cv g)).map fun v => v.category).sum = stw st := by
  unfold stw
  rw [List.map_map]
  congr 1
  apply List.map_congr_left
  intro v _
  exact cv_cat g v
section ST8
variable {g : bG} {l : Launch} {d k n0 n1 : Nat} {Q : bQ}
theorem link_of {k k' ix len widx : Nat} {i : Instr} {args : Array Value} {s : State} (hts : ∀ w ∈ wsm k, w.before args s = true) (hk' : k' < 1000) (hw : widx ≠ 300000) (ht : okC k (i, len, k', widx) ix = true) : (Cond.methodLink (mown k) ix (mname k')).before args s = true := by
  unfold okC at ht
  dsimp only at ht
  rw [if_pos hk', if_neg hw] at ht
  exact hts _ (wd_in ht)
theorem nest_of {k k' ix len : Nat} {i : Instr} {s : State} (hK : KS g s) (hk' : k' < 1000) (ht : okC k (i, len, k', 300000) ix = true) : va_Nw (.methodLinkNest (mown k) ix (mname k') "BoxLeaves") s := by
  unfold okC at ht
  dsimp only at ht
  rw [if_pos hk', if_pos rfl, List.any_eq_true] at ht
  obtain ⟨q, hq, h⟩ := ht
  simp only [Bool.and_eq_true, beq_iff_eq] at h
  obtain ⟨h1, h2, h3⟩ := h
  have := hK.2.2.1 q hq
  rw [h1, h2, h3] at this
  exact this
theorem wA_of {k : Nat} {args : Array Value} {s : State} (hts : ∀ w ∈ wsm k, w.before args s = true) : ∀ w ∈ wA, w.before args s = true := fun w hw => hts w (List.mem_cons_of_mem _ hw)
theorem callB_m {k k' n n' : Nat} {R : Room} {args : Array Value} {s : State} (hts : ∀ w ∈ wsm k, w.before args s = true) (hR : Rm (d + 1) n0 n1 R) (hm : okM k' = true) :
    (rmd d n n').cells = n' - n ∧ (rmd d n n').slots = slN n' - slN n ∧ (rmd d n n').frames + 1 ≤ R.frames ∧ 8 + (mml k' + 11) + (rmd d n n').locals ≤ R.locals ∧ (∀ w ∈ wsm k', ∀ (a' : Array Value) (U : State), s.WarmedH U.vm → w.before a' U = true) ∧ Cond.code (mname k') (mcode k') (mml k') (mret k') ∈ wsm k' ∧
    (Cond.code (mname k') (mcode k') (mml k') (mret k')).before args s = true ∧ (Cond.initialized (mname k').cls).before args s = true ∧ ((mname k').cls ≠ "java/lang/invoke/MethodHandle" ∧ (mname k').cls ≠ "java/lang/invoke/VarHandle") ∧ (∀ sig, parseMethodDescriptor (mname k').desc = some sig → mnp k' = sig.parameters.length) := by
  obtain ⟨h1, h2, h3, h4, h5, h6, h7, h8⟩ := okM_x hm
  obtain ⟨r1, r2, r3, r4⟩ := hR
  refine ⟨rfl, rfl, by show d + 1 + 1 ≤ R.frames; omega, by show 8 + (mml k' + 11) + 64 * (d + 1) ≤ R.locals; omega, wA_pay h1 (wA_of hts), List.mem_cons_self, wA_of hts _ h1, wA_of hts _ h2, h3, fun sig hs => ?_⟩
  rw [hs] at h5
  exact (Option.some.inj h5).symm
theorem pc_pre {n : Nat} {h : bH} {H : Heap} {s : State} {vs : List bV} (hH : HR g n h H) (hK : KS g s) (hv : ∀ v ∈ vs, okv v) : ∀ U : State, U.heap = H → s.WarmedH U.vm → PcH g n vs h (vs.map (cv g)).toArray U := fun U hU hW => ⟨rfl, by rw [hU]; exact hH, hK.warm hW, hv⟩
theorem lv_sz {ls : Array Slot} {nL : Nat} {l : List (Nat × Value)} (h : lv_has ls nL l) : ls.size = nL := h.1
theorem wp_callV {ix k' ci n n' pc len widx : Nat} {h : bH} {lv : bL} {as rest : List bV} {a : Int} (hd : decode (mcode k) pc = .ok (.invokevirtual ix, 3)) (ht : okC k (.invokevirtual ix, len, k', widx) ix = true) (hk' : k' < 1000) (hw : widx ≠ 300000) (hm : okM k' = true) (hs : mst k' = false) (hni : (mname k').name ≠ "<init>")
    (ha : 0 ≤ a ∧ a.toNat < n ∧ (sh a.toNat).1 = 10 + ci ∧ (kCls.getD ci ("", kF0, 0)).1 = (mname k').cls) (hl : as.length = mnp k') (hr : stw rest ≤ 8) (hn : n ≤ n' ∧ n' ≤ n1)
    (hM : MH g l d k' n n' ((2, a) :: as) h (fun r h' => WP g l (d + 1) k n0 n1 Q (pc + 3, lv, r.toList ++ rest, n', h'))) : WP g l (d + 1) k n0 n1 Q (pc, lv, as.reverse ++ (2, a) :: rest, n, h) := by
  intro p e R s m args below meth c Z E H locs ls q h0 h1
  obtain ⟨hx, hb, hml, hret, hlk, hown, hts, hin, hK⟩ := id E.1
  dsimp only at q h0 h1 ⊢
  obtain ⟨o1, o2, o3, o4, o5, o6, o7, o8⟩ := okM_x hm
  obtain ⟨o71, o72⟩ := o7 hs
  obtain ⟨b1, b2, b3, b4, b5, b6, b7, b8, b9, b10⟩ := callB_m (n := n) (n' := n') hts E.2.1 hm
  have hao : ∀ v ∈ (2, a) :: as, okv v := okc (q.2.2.2.1 _ (List.mem_append_right _ List.mem_cons_self)) (fun v hv => q.2.2.2.1 v (List.mem_append_left _ (List.mem_reverse.mpr hv)))
  have hro : ∀ v ∈ rest, okv v := fun v hv => q.2.2.2.1 v (List.mem_append_right _ (List.mem_cons_of_mem _ hv))
  obtain ⟨z, hz, h12, hzg, hzn, cell, q1, q2, q3, q4⟩ := q.1.obj ha.2.1 ha.2.2.1
  have hcls : s.vm.findClass (mname k').cls = some cell.cls := by
    obtain ⟨-, hfc, -⟩ := hK.1 _ _ hz
    rw [← ha.2.2.2, hzg, q2]; exact hfc
  have hn212 : n ≤ 212 := q.1.2.1
  have hadd : cv g (2, a) = .ref (gsz g + a.toNat) := by rw [cv_2 g ha.1, ad_lo g (by omega)]
  have est : (as.reverse ++ (2, a) :: rest).map (cv g) = (as.map (cv g)).reverse ++ .ref (gsz g + a.toNat) :: rest.map (cv g) := by
    rw [List.map_append, List.map_reverse, List.map_cons, hadd]
  rw [est]
  have eav : ((2, a) :: as).map (cv g) = .ref (gsz g + a.toNat) :: as.map (cv g) := by rw [List.map_cons, hadd]
  refine back_call (k' := k') (a := (Value.ref (gsz g + a.toNat) :: as.map (cv g)).toArray) E hK q.2.1 q.2.2.1 hro q.2.2.2.2 h0 hn.1 hn.2 ⟨slN_mono h0, slN_mono hn.1⟩ ?_
  exact va_runV (As := as.map (cv g)) (rest := rest.map (cv g)) (n := mnp k') ⟨hx, hb, hml, hown, hts⟩ hM ⟨⟨b1, b2, b3, b4, b5, b6, b7, b8, b9, b10, link_of hts hk' hw ht⟩, wA_of hts _ o71, wA_of hts _ (o72 hni)⟩
    ⟨PcH_blind _ _ _ _, ⟨cell, q1, by rw [q3]; rfl, hcls⟩, fun U hU hW => by have := pc_pre q.1 hK hao U hU hW; rw [eav] at this; exact this⟩
    rfl (by rw [List.length_map]; exact hl) (lv_sz q.2.1) rfl (lv_room (by rw [stw_cat]; exact hr)) hd ⟨by have := E.2.1.2.2.1; omega, by have := E.2.1.2.2.2; have := slN_mono h0; have := slN_mono hn.1; have := slN_mono hn.2; omega⟩
theorem wp_callS {ix k' n n' pc len widx : Nat} {h : bH} {lv : bL} {as rest : List bV} (hd : decode (mcode k) pc = .ok (.invokestatic ix, 3)) (ht : okC k (.invokestatic ix, len, k', widx) ix = true) (hk' : k' < 1000) (hm : okM k' = true) (hs : mst k' = true)
    (hl : as.length = mnp k') (hr : stw rest ≤ 8) (hn : n ≤ n' ∧ n' ≤ n1)
    (hM : MH g l d k' n n' as h (fun r h' => WP g l (d + 1) k n0 n1 Q (pc + 3, lv, r.toList ++ rest, n', h'))) : WP g l (d + 1) k n0 n1 Q (pc, lv, as.reverse ++ rest, n, h) := by
  intro p e R s m args below meth c Z E H locs ls q h0 h1
  obtain ⟨hx, hb, hml, hret, hlk, hown, hts, hin, hK⟩ := id E.1
  dsimp only at q h0 h1 ⊢
  obtain ⟨o1, o2, o3, o4, o5, o6, o7, o8⟩ := okM_x hm
  have o61 := o6 hs
  obtain ⟨b1, b2, b3, b4, b5, b6, b7, b8, b9, b10⟩ := callB_m (n := n) (n' := n') hts E.2.1 hm
  have hao : ∀ v ∈ as, okv v := fun v hv => q.2.2.2.1 v (List.mem_append_left _ (List.mem_reverse.mpr hv))
  have hro : ∀ v ∈ rest, okv v := fun v hv => q.2.2.2.1 v (List.mem_append_right _ hv)
  have est : (as.reverse ++ rest).map (cv g) = (as.map (cv g)).reverse ++ rest.map (cv g) := by
    rw [List.map_append, List.map_reverse]
  rw [est]
  refine back_call (k' := k') (a := (as.map (cv g)).toArray) E hK q.2.1 q.2.2.1 hro q.2.2.2.2 h0 hn.1 hn.2 ⟨slN_mono h0, slN_mono hn.1⟩ ?_
  have hf : n - n0 + (n' - n) ≤ R.cells ∧ slN n - slN n0 + (slN n' - slN n) ≤ R.slots := ⟨by have := E.2.1.2.2.1; omega, by have := E.2.1.2.2.2; have := slN_mono h0; have := slN_mono hn.1; have := slN_mono hn.2; omega⟩
  by_cases hw : widx = 300000
  · subst hw
    exact va_runSN (As := as.map (cv g)) (rest := rest.map (cv g)) (n := mnp k') ⟨hx, hb, hml, hown, hts⟩ hM ⟨⟨⟨b1, b2, b3, b4, b5, b6⟩, b7, b8, b9, b10, va_Nw.use rfl (nest_of hK hk' ht)⟩, wA_of hts _ o61, trivial⟩
      ⟨PcH_blind _ _ _ _, fun U hU hW => pc_pre q.1 hK hao U hU hW⟩
      rfl (by rw [List.length_map]; exact hl) (lv_sz q.2.1) rfl (lv_room (by rw [stw_cat]; exact hr)) hd hf
  · exact va_runS (As := as.map (cv g)) (rest := rest.map (cv g)) (n := mnp k') ⟨hx, hb, hml, hown, hts⟩ hM ⟨⟨b1, b2, b3, b4, b5, b6, b7, b8, b9, b10, link_of hts hk' hw ht⟩, wA_of hts _ o61⟩
      ⟨PcH_blind _ _ _ _, fun U hU hW => pc_pre q.1 hK hao U hU hW⟩
      rfl (by rw [List.length_map]; exact hl) (lv_sz q.2.1) rfl (lv_room (by rw [stw_cat]; exact hr)) hd hf
theorem wp_callI {ix k' n n' pc len widx : Nat} {h : bH} {lv : bL} {as rest : List bV} {a : Int} (hd : decode (mcode k) pc = .ok (.invokespecial ix, 3)) (ht : okC k (.invokespecial ix, len, k', widx) ix = true) (hk' : k' < 1000) (hm : okM k' = true) (hs : mst k' = false) (hni : (mname k').name = "<init>") (hrt : mret k' = none)
    (ha : 0 ≤ a ∧ a.toNat < n) (hl : as.length = mnp k') (hr : stw rest ≤ 8) (hn : n ≤ n' ∧ n' ≤ n1)
    (hM : MH g l d k' n n' ((2, a) :: as) h (fun r h' => WP g l (d + 1) k n0 n1 Q (pc + 3, lv, r.toList ++ rest, n', h'))) : WP g l (d + 1) k n0 n1 Q (pc, lv, as.reverse ++ (2, a) :: rest, n, h) := by
  intro p e R s m args below meth c Z E H locs ls q h0 h1
  obtain ⟨hx, hb, hml, hret, hlk, hown, hts, hin, hK⟩ := id E.1
  dsimp only at q h0 h1 ⊢
  obtain ⟨o1, o2, o3, o4, o5, o6, o7, o8⟩ := okM_x hm
  obtain ⟨o71, o72⟩ := o7 hs
  obtain ⟨b1, b2, b3, b4, b5, b6, b7, b8, b9, b10⟩ := callB_m (n := n) (n' := n') hts E.2.1 hm
  have hao : ∀ v ∈ (2, a) :: as, okv v := okc (q.2.2.2.1 _ (List.mem_append_right _ List.mem_cons_self)) (fun v hv => q.2.2.2.1 v (List.mem_append_left _ (List.mem_reverse.mpr hv)))
  have hro : ∀ v ∈ rest, okv v := fun v hv => q.2.2.2.1 v (List.mem_append_right _ (List.mem_cons_of_mem _ hv))
  have hn212 : n ≤ 212 := q.1.2.1
  have hadd : cv g (2, a) = .ref (gsz g + a.toNat) := by rw [cv_2 g ha.1, ad_lo g (by omega)]
  have est : (as.reverse ++ (2, a) :: rest).map (cv g) = (as.map (cv g)).reverse ++ .ref (gsz g + a.toNat) :: rest.map (cv g) := by
    rw [List.map_append, List.map_reverse, List.map_cons, hadd]
  rw [est]
  have eav : ((2, a) :: as).map (cv g) = .ref (gsz g + a.toNat) :: as.map (cv g) := by rw [List.map_cons, hadd]
  refine back_call (k' := k') (a := (Value.ref (gsz g + a.toNat) :: as.map (cv g)).toArray) E hK q.2.1 q.2.2.1 hro q.2.2.2.2 h0 hn.1 hn.2 ⟨slN_mono h0, slN_mono hn.1⟩ ?_
  have hf : n - n0 + (n' - n) ≤ R.cells ∧ slN n - slN n0 + (slN n' - slN n) ≤ R.slots := ⟨by have := E.2.1.2.2.1; omega, by have := E.2.1.2.2.2; have := slN_mono h0; have := slN_mono hn.1; have := slN_mono hn.2; omega⟩
  rw [hrt] at b6 b7
  have hpr : PreS s H (PcH g n ((2, a) :: as) h) (.ref (gsz g + a.toNat) :: as.map (cv g)) := ⟨PcH_blind _ _ _ _, fun U hU hW => by have := pc_pre q.1 hK hao U hU hW; rw [eav] at this; exact this⟩
  by_cases hw : widx = 300000
  · subst hw
    exact va_runIN (As := as.map (cv g)) (rest := rest.map (cv g)) (n := mnp k') ⟨hx, hb, hml, hown, hts⟩ hM ⟨⟨⟨b1, b2, b3, b4, b5, b6⟩, b7, b8, b9, b10, va_Nw.use rfl (nest_of hK hk' ht)⟩, hni, wA_of hts _ o71⟩
      hpr rfl (by rw [List.length_map]; exact hl) (lv_sz q.2.1) rfl (lv_room (by rw [stw_cat]; exact hr)) hd hf
  · exact va_runI (As := as.map (cv g)) (rest := rest.map (cv g)) (n := mnp k') ⟨hx, hb, hml, hown, hts⟩ hM ⟨⟨b1, b2, b3, b4, b5, b6, b7, b8, b9, b10, link_of hts hk' hw ht⟩, hni, wA_of hts _ o71⟩
      hpr rfl (by rw [List.length_map]; exact hl) (lv_sz q.2.1) rfl (lv_room (by rw [stw_cat]; exact hr)) hd hf
end ST8
end
-- == 14.entry.lean.txt
section
/-- a method's locals at its entry -/
def largs : Nat → List bV → bL
  | _, [] => []
  | i, v :: r => (i, v) :: largs (if v.1 = 1 then i + 2 else i + 1) r
theorem largs_map (g : bG) (vs : List bV) : ∀ i, (largs i vs).map (clv g) = lv_args i (vs.map (cv g)) := by
  induction vs with
  | nil => intro i; rfl
  | cons v r ih =>
    intro i
    show clv g (i, v) :: (largs _ r).map (clv g) = (i, cv g v) :: lv_args _ (r.map (cv g))
    rw [ih, cv_cat]
    congr 2
    by_cases h : v.1 = 1 <;> simp [h]
theorem largs_ok {vs : List bV} (h : ∀ v ∈ vs, okv v) : ∀ i, ∀ q ∈ largs i vs, okv q.2 := by
  induction vs with
  | nil => intro i q hq; cases hq
  | cons v r ih =>
    intro i q hq
    rcases List.mem_cons.mp hq with rfl | hq
    · exact h v List.mem_cons_self
    · exact ih (fun w hw => h w (List.mem_cons_of_mem _ hw)) _ q hq
theorem sl_len (g : bG) (vs : List bV) : (lg_sl (vs.map (cv g))).length = stw vs := by
  unfold lg_sl stw
  induction vs with
  | nil => rfl
  | cons v r ih =>
    rw [List.map_cons, List.flatMap_cons, List.length_append, ih, List.map_cons, List.sum_cons, cv_cat]
    congr 1
    by_cases h : v.1 = 1 <;> simp [h]
theorem bfit_c {ty : FieldType} {t : Nat} {x : Int} (h : bfit (some ty) (some (t, x))) : (ty = .int ∧ t = 0) ∨ (ty = .boolean ∧ t = 0 ∧ 0 ≤ x ∧ x ≤ 1) ∨ (ty = .long ∧ t = 1) ∨ (∃ n, ty = .object n ∧ t = 2) ∨ (ty = .char ∧ t = 0 ∧ 0 ≤ x ∧ x < 65536) ∨ (ty = .byte ∧ t = 0 ∧ x = 0) := by
  cases ty <;> rcases t with _ | _ | _ | t <;> first | exact h.elim | exact Or.inl ⟨rfl, rfl⟩ | exact Or.inr (Or.inl ⟨rfl, rfl, h⟩) | exact Or.inr (Or.inr (Or.inl ⟨rfl, rfl⟩)) | exact Or.inr (Or.inr (Or.inr (Or.inl ⟨_, rfl, rfl⟩))) | exact Or.inr (Or.inr (Or.inr (Or.inr (Or.inl ⟨rfl, rfl, h⟩)))) | exact Or.inr (Or.inr (Or.inr (Or.inr (Or.inr ⟨rfl, rfl, h⟩))))
theorem bret_0 {i : Instr} {x : Int} (h : bret i (some (0, x)) = true) : i = .ireturn := by
  cases i <;> first | rfl | cases h
theorem bret_1 {i : Instr} {x : Int} (h : bret i (some (1, x)) = true) : i = .lreturn := by
  cases i <;> first | rfl | cases h
theorem bret_2 {i : Instr} {x : Int} (h : bret i (some (2, x)) = true) : i = .areturn := by
  cases i <;> first | rfl | cases h
theorem bret_n {i : Instr} (h : bret i none = true) : i = .return_ := by
  cases i <;> first | rfl | cases h
section ST9
variable {g : bG} {l : Launch} {d k n0 n1 : Nat} {Q : bQ}
theorem wp_ret {r : Option bV} {i : Instr} {pc : Nat} {lv : bL} {st : List bV} {h : bH} (hd : decode (mcode k) pc = .ok (i, 1)) (hi : bret i r = true) (hs : st = r.toList) (hf : bfit (mret k) r) (hq : Q r h) : WP g l d k n0 n1 Q (pc, lv, st, n1, h) := by
  intro p e R s m args below meth c Z E H locs ls q h0 h1
  subst hs
  have w := E.2.2 r h H locs ls pc i q.1 q.2.2.2.2 hq hf hd hi
  have em : r.toList.map (cv g) = (r.map (cv g)).toList := by cases r <;> rfl
  dsimp only
  rw [em]
  exact w
theorem wp_step {t : Tok} {S S' : bS} (hd : decode (mcode k) S.1 = .ok (t.1, t.2.1)) (ht : okT k t = true) (hs : cst (gsc g) k t S = some S') (hn : S'.2.2.2.1 = S.2.2.2.1) (hk : WP g l d k n0 n1 Q S') : WP g l d k n0 n1 Q S := by
  intro p e R s m args below meth c Z E H locs ls q h0 h1
  exact cst_ok E.1 hd ht hs (fun H locs ls q => hk p e R s m args below meth c Z E H locs ls q (by rw [hn]; exact h0) (by rw [hn]; exact h1)) H locs ls q
theorem mh_of {vs : List bV} {h : bH} (hm : okM k = true) (hsz : stw vs ≤ mml k) (hn : n0 ≤ n1) (hW : WP g l d k n0 n1 Q (0, largs 0 vs, [], n0, h)) : MH g l d k n0 n1 vs h Q := by
  obtain ⟨o1, o2, o3, o4, o5, o6, o7, o8⟩ := okM_x hm
  refine va_MetF (cc := mcode k) (maxL := mml k) (ret := mret k) o4 rfl ?_
  intro p e s m args below meth c s₁ B hml hv
  obtain ⟨rfl, hH, hK, hok⟩ := hv
  have hx := B.exec
  have hb := B.bytes
  have hr := B.returns
  have hts : ∀ w ∈ wsm k, w.before (vs.map (cv g)).toArray s = true := atoms_spec (ws := wsm k) B.pre
  have hown : s.vm.findClass (mname k).cls = some m.cls := findClass_of_methodNamed B.named
  have hlocks := B.notSynchronized
  have hin : meth.name = (mname k).name := (name_of_methodNamed B.named B.method).1
  have C : Cx g k p s m (vs.map (cv g)).toArray meth c := ⟨hx, hb, hml, hr, hlocks, hown, hts, fun h => by rw [hin, h], hK⟩
  rw [lg_entry_eq]
  have hl := lv_entry (vs.map (cv g)) (n := mml k) (by rw [sl_len]; exact hsz)
  rw [← largs_map] at hl
  have hgo := hW p e (rmd d n0 n1) s m (vs.map (cv g)).toArray below meth c (MQ below (QcH g k n1 Q) (vs.map (cv g)).toArray s (n1 - n0) (slN n1 - slN n0) (fun q => gsz g ≤ q)) ⟨C, ⟨Nat.le_refl _, Nat.le_refl _, Nat.le_refl _, Nat.le_refl _⟩, ?_⟩ s.heap [] _ ⟨hH, hl, largs_ok hok 0, fun v hv => (by cases hv), fun q hq => (by cases hq)⟩ (Nat.le_refl _) hn
  · have e1 : n0 - n0 = 0 := Nat.sub_self _
    have e2 : slN n0 - slN n0 = 0 := Nat.sub_self _
    dsimp only at hgo
    rw [e1, e2] at hgo
    exact hgo
  · intro r h' H locs ls pc i hH' hlo hq hf hd hi
    have hq' : ∀ (v : Option Value), v = r.map (cv g) → ∀ t : State, t.heap = H → s.WarmedH t.vm → QcH g k n1 Q (vs.map (cv g)).toArray s (.returned v) t := fun v hv t ht hW => ⟨r, h', by rw [hv], by rw [ht]; exact hH', hf, hq⟩
    cases r with
    | none =>
      cases bret_n hi
      have hrt : mret k = none := by
        cases hmr : mret k with
        | none => rfl
        | some t => rw [hmr] at hf; cases t <;> exact hf.elim
      exact W.vret hx hb (hr.trans hrt) (hq' none rfl) hlo hd hlocks
    | some v =>
      obtain ⟨t, x⟩ := v
      cases hmr : mret k with
      | none => rw [hmr] at hf; exact hf.elim
      | some ty =>
        rw [hmr] at hf
        have hr2 := hr.trans hmr
        rcases bfit_c hf with ⟨rfl, rfl⟩ | ⟨rfl, rfl, h0, h1⟩ | ⟨rfl, rfl⟩ | ⟨n, rfl, rfl⟩ | ⟨rfl, rfl, h0, h1⟩ | ⟨rfl, rfl, rfl⟩
        · cases bret_0 hi
          exact W.iret hx hb hr2 (hq' _ rfl) hlo hd hlocks
        · cases bret_0 hi
          have hn : narrow .boolean (.int (Int32.ofInt x)) = .int (Int32.ofInt x) := by
            have h3 : x = 0 ∨ x = 1 := by omega
            rcases h3 with rfl | rfl <;> decide
          exact W.zret hx hb hr2 hn (hq' _ rfl) hlo hd hlocks
        · cases bret_1 hi
          exact W.lret hx hb hr2 (hq' _ rfl) hlo hd hlocks
        · cases bret_2 hi
          have hv : cv g (2, x) = .null ∨ ∃ a, cv g (2, x) = .ref a := by
            by_cases h0 : x < 0
            · exact Or.inl (cv_2n g h0)
            · exact Or.inr ⟨_, cv_2 g (by omega)⟩
          exact W.aret hx hb hr2 (Or.inl ⟨n, rfl⟩) hv (hq' _ rfl) hlo hd hlocks
        · cases bret_0 hi
          have hn : narrow .char (.int (Int32.ofInt x)) = .int (Int32.ofInt x) := by
            have h3 := (pk_charN (q := x.toNat) (by omega)).1
            have h4 : nI x.toNat = Int32.ofInt x := by
              show Int32.ofNat x.toNat = _
              rw [← Int32.ofInt_eq_ofNat]
              congr 1
              omega
            rw [h4] at h3
            exact h3
          exact W.zret hx hb hr2 hn (hq' _ rfl) hlo hd hlocks
        · cases bret_0 hi
          exact W.zret hx hb hr2 (by decide : narrow .byte (.int (Int32.ofInt 0)) = .int (Int32.ofInt 0)) (hq' _ rfl) hlo hd hlocks
end ST9
end
-- == 15.alloc.lean.txt
section
/-! MAKING CELLS -/
def cal (k : Nat) (t : Tok) (S : bS) : Option bS := match t.1, S with
  | .new _, (pc, lv, st, n, h) => if (sh n).1 = 10 + t.2.2.1 ∧ n < 212 then some (pc + 3, lv, (2, (n : Int)) :: st, n + 1, hnew h n (fun j => if fkd t.2.2.1 j = 2 then -1 else 0)) else none
  | .newarray ty, (pc, lv, (v, x) :: r, n, h) => if v = 0 ∧ 0 ≤ x ∧ sh n = (if newarray.typeOf ty = .int then 0 else 1, x.toNat) ∧ n < 212 ∧ (newarray.typeOf ty = .int ∨ newarray.typeOf ty = .long) then some (pc + 2, lv, (2, (n : Int)) :: r, n + 1, hnew h n (fun _ => 0)) else none
  | .anewarray _, (pc, lv, (v, x) :: r, n, h) => if v = 0 ∧ 0 ≤ x ∧ sh n = (2, x.toNat) ∧ n < 212 then some (pc + 3, lv, (2, (n : Int)) :: r, n + 1, hnew h n (fun _ => -1)) else none
  | .aastore, (pc, lv, (t, x) :: (v, i) :: (u, a) :: r, n, h) => if t = 2 ∧ v = 0 ∧ u = 2 ∧ barr 2 n a i = true ∧ 0 ≤ x ∧ x.toNat < n ∧ (sh x.toNat).1 = 18 then some (pc + 1, lv, r, n, hup h a.toNat i.toNat x) else none
  | _, _ => none
section SA
variable {g : bG} {l : Launch} {d k n0 n1 : Nat} {Q : bQ}
theorem sh_small {n : Nat} (h : n < 212) : (sh n).2 < 2000 := kSh_small n h
theorem slN_1 {n : Nat} (h : n < 212) : slN (n + 1) = slN n + (sh n).2 := by
  unfold slN sh
  have hl : n < kSh.length := h
  rw [List.take_succ, List.getElem?_eq_getElem hl, List.map_append, List.sum_append, List.getD_eq_getElem?_getD, List.getElem?_eq_getElem hl]
  simp
theorem HR.new {n : Nat} {h : bH} {H H1 : Heap} (q : HR g n h H) (hn : n < 212) {f : Nat → Int} (hc : cellR g n f H1) (hf : ∀ j, j < (sh n).2 → okk (lk n j) (f j)) (hs : H1.size = H.size + 1) (ho : ∀ q : Nat, q < H.size → H1[q]? = H[q]?) : HR g (n + 1) (hnew h n f) H1 := by
  obtain ⟨q1, q2, q3, q4⟩ := q
  refine ⟨by rw [hs, q1]; rfl, by omega, fun z hz => by rw [ho z (by omega)]; exact q3 z hz, fun b hb => ?_⟩
  by_cases e : b = n
  · subst e
    have e3 : hnew h b f b = f := funext fun i => if_pos rfl
    rw [e3]
    exact ⟨hc, hf⟩
  · have e3 : hnew h n f b = h b := funext fun i => if_neg e
    rw [e3]
    exact ⟨(q4 b (by omega)).1.kept (ho _ (by omega)), (q4 b (by omega)).2⟩
theorem okW_in {k i : Nat} {w : Jvm.Cond} (h : okW i w = true) : w ∈ wsm k := wd_in h
theorem fkt_df {t : FieldType} {c : Nat} (h : fkt t = c) (h4 : c < 4) : defaultValue t = cvk g c (if c = 2 then -1 else 0) ∧ okk c (if c = 2 then -1 else 0) := by
  subst h
  cases t with
  | int => exact ⟨rfl, by show in32 0; unfold in32; omega⟩
  | long => exact ⟨rfl, by show in64 0; unfold in64; omega⟩
  | boolean => exact ⟨rfl, by show (0 : Int) ≤ 0 ∧ (0 : Int) ≤ 1; omega⟩
  | object n => exact ⟨rfl, by show (-1 : Int) ≤ -1; omega⟩
  | array n => exact ⟨rfl, by show (-1 : Int) ≤ -1; omega⟩
  | byte => exact absurd h4 (by decide)
  | char => exact absurd h4 (by decide)
  | short => exact absurd h4 (by decide)
  | float => exact absurd h4 (by decide)
  | double => exact absurd h4 (by decide)
theorem cv_n {n : Nat} (h : n < 512) : cv g (2, (n : Int)) = .ref (gsz g + n) := by
  rw [cv_2 g (by omega), ad_lo g (by omega)]
  rfl
theorem wp_new {ix ci len widx pc n : Nat} {lv : bL} {st : List bV} {h : bH} (hd : decode (mcode k) pc = .ok (.new ix, 3)) (ht : okN k (.new ix, len, ci, widx) ix = true) (hsh : (sh n).1 = 10 + ci) (hn : n < 212) (hn1 : n + 1 ≤ n1)
    (hk : WP g l d k n0 n1 Q (pc + 3, lv, (2, (n : Int)) :: st, n + 1, hnew h n (fun j => if fkd ci j = 2 then -1 else 0))) : WP g l d k n0 n1 Q (pc, lv, st, n, h) := by
  intro p e R s m args below meth c Z E H locs ls q h0 h1
  obtain ⟨hx, hb, hml, hret, hlk, hown, hts, hin, hK⟩ := id E.1
  dsimp only at q h0 h1 ⊢
  obtain ⟨sz1, sz2⟩ := (kSh_ok n hn).1 (by omega)
  rw [hsh, Nat.add_sub_cancel_left] at sz1 sz2
  have hz : kCls[ci]? = some (kCls.getD ci ("", kF0, 0)) := by
    rw [List.getD_eq_getElem?_getD]
    have : ci < kCls.length := by rw [kCls_len]; exact sz2
    rw [List.getElem?_eq_getElem this]; rfl
  generalize hzz : kCls.getD ci ("", kF0, 0) = z at hz sz1
  unfold okN at ht
  dsimp only at ht
  rw [hz] at ht
  dsimp only at ht
  rw [Bool.and_eq_true, Bool.and_eq_true] at ht
  obtain ⟨t1, t2, t3⟩ := ht
  have hKn := hK.1 _ _ hz
  have hHs : H.size = gsz g + n := q.1.1
  refine W.newcK hx hb hown (hts _ (okW_in t1)) (hts _ (okW_in t2)) (hts _ (okW_in t3)) rfl hd (by have := E.2.1.2.2.1; omega) (by have := E.2.1.2.2.2; have e1 := slN_1 hn; have := slN_mono hn1; have := slN_mono h0; rw [sz1]; omega) hKn.2.1 rfl fun H1 kC hkC e1 z1 o1 => ?_
  have hF : ∀ j, j < z.2.2 → parseFieldDescriptor (z.2.1 j).2.2.1 = some (fty z j) := fun j hj => by
    have := (kF_ty _ sz2 j (by rw [hzz]; exact hj)).1
    rw [hzz] at this; exact this
  have hfk : ∀ j, j < z.2.2 → fkt (fty z j) = fkd ci j ∧ fkd ci j < 4 := fun j hj => by
    have := (kF_ty _ sz2 j (by rw [hzz]; exact hj)).2
    rw [hzz] at this; exact this
  have hborn := u_born (fty z) hts (u_ws_in hz) hKn hkC e1 hF
  have hnew : HR g (n + 1) (hnew h n (fun j => if fkd ci j = 2 then -1 else 0)) H1 := by
    refine q.1.new hn ?_ ?_ z1 o1
    · unfold cellR
      rw [if_neg (by omega), hsh, Nat.add_sub_cancel_left, ← sz1, ← hHs]
      refine hborn.to fun j hj => ?_
      rw [lk_obj hsh]
      exact (fkt_df (hfk j hj).1 (hfk j hj).2).1
    · intro j hj
      rw [lk_obj hsh]
      exact (fkt_df (g := g) (hfk j (by rw [sz1]; exact hj)).1 (hfk j (by rw [sz1]; exact hj)).2).2
  have w := hk p e R s m args below meth c Z E H1 locs ls ⟨hnew, q.2.1, q.2.2.1, okc (by show (-1 : Int) ≤ n; omega) q.2.2.2.1, q.2.2.2.2⟩ (by show n0 ≤ n + 1; omega) hn1
  have en : n + 1 - n0 = n - n0 + 1 := by omega
  have es : slN (n + 1) - slN n0 = slN n - slN n0 + z.2.2 := by
    rw [slN_1 hn, sz1]; have := slN_mono h0; omega
  dsimp only at w
  rw [en, es, List.map_cons, cv_n (by omega), ← hHs] at w
  exact w
theorem wp_newa {ty : ArrayType} {kd len widx aux pc n : Nat} {x : Int} {lv : bL} {r : List bV} {h : bH} (hd : decode (mcode k) pc = .ok (.newarray ty, 2)) (ht : okW widx (.arrayClass (newarray.typeOf ty)) = true) (hty : (newarray.typeOf ty = .int ∧ kd = 0) ∨ (newarray.typeOf ty = .long ∧ kd = 1)) (hx0 : 0 ≤ x) (hsh : sh n = (kd, x.toNat)) (hn : n < 212) (hn1 : n + 1 ≤ n1)
    (hk : WP g l d k n0 n1 Q (pc + 2, lv, (2, (n : Int)) :: r, n + 1, hnew h n (fun _ => 0))) : WP g l d k n0 n1 Q (pc, lv, (0, x) :: r, n, h) := by
  intro p e R s m args below meth c Z E H locs ls q h0 h1
  obtain ⟨hx, hb, hml, hret, hlk, hown, hts, hin, hK⟩ := id E.1
  dsimp only at q h0 h1 ⊢
  have hHs : H.size = gsz g + n := q.1.1
  have hix : in32 x := ok1 q.2.2.2.1
  have hsm := sh_small hn
  rw [hsh] at hsm
  dsimp only at hsm
  have hcl : (Int32.ofInt x).toNatClampNeg = x.toNat := i32_cl hix
  have hx1 : ¬ Int32.ofInt x < 0 := by
    rw [show (0 : Int32) = Int32.ofInt 0 from rfl, i32_lt hix ⟨by decide, by decide⟩]; omega
  show W p l e R s m args below meth c H locs _ _ Z (F0 m pc ls (.int (Int32.ofInt x) :: r.map (cv g)))
  have hcb : componentBytes (newarray.typeOf ty) ≤ 8 := by
    rcases hty with ⟨q1, -⟩ | ⟨q1, -⟩ <;> rw [q1] <;> decide
  refine W.newa hx hb (hts _ (okW_in ht)) (g := F0 m pc ls (.int (Int32.ofInt x) :: r.map (cv g))) rfl hd rfl hx1 (by rw [hcl]; have := Nat.mul_le_mul (Nat.le_of_lt hsm) hcb; omega) (by have := E.2.1.2.2.1; omega) (by have := E.2.1.2.2.2; have e1 := slN_1 hn; have := slN_mono hn1; have := slN_mono h0; rw [hsh] at e1; dsimp only at e1; rw [hcl]; omega) fun cA kA comp f1 f2 f3 => ?_
  rw [hcl]
  have hkd : kd < 2 := by rcases hty with ⟨-, q1⟩ | ⟨-, q1⟩ <;> omega
  have hcA : cA = gA g kd := by
    rcases hty with ⟨q1, rfl⟩ | ⟨q1, rfl⟩
    · rw [q1] at f1
      exact Option.some.inj (f1.symm.trans hK.2.1.1.2)
    · rw [q1] at f1
      exact Option.some.inj (f1.symm.trans hK.2.1.2.1.2)
  have hk1 : (sh n).1 = kd := by rw [hsh]
  have hlk : ∀ j, lk n j = if kd = 0 then 0 else if kd = 1 then 1 else 2 := fun j => lk_arr hk1 (by omega)
  have hnew : HR g (n + 1) (hnew h n (fun _ => 0)) (H.push { cls := cA, slots := Array.replicate x.toNat (defaultValue (newarray.typeOf ty)), vm := .none }) := by
    refine q.1.new hn ?_ ?_ (by simp) (fun z hz => by rw [Array.getElem?_push]; rw [if_neg (by omega)])
    · unfold cellR
      rw [if_pos (by omega), hk1, ← hHs, hsh, hcA]
      rw [arrV_new]
      rw [Array.getElem?_push, if_pos rfl]
      refine congrArg some (congrArg (arrV (gA g kd) x.toNat) (funext fun j => ?_))
      rw [hlk]
      rcases hty with ⟨q1, rfl⟩ | ⟨q1, rfl⟩ <;> rw [q1] <;> rfl
    · intro j hj
      rw [hlk]
      rcases hty with ⟨q1, rfl⟩ | ⟨q1, rfl⟩
      · show in32 0; unfold in32; omega
      · show in64 0; unfold in64; omega
  have w := hk p e R s m args below meth c Z E _ locs ls ⟨hnew, q.2.1, q.2.2.1, okc (by show (-1 : Int) ≤ n; omega) (okr q.2.2.2.1), q.2.2.2.2⟩ (by show n0 ≤ n + 1; omega) hn1
  have en : n + 1 - n0 = n - n0 + 1 := by omega
  have es : slN (n + 1) - slN n0 = slN n - slN n0 + x.toNat := by
    rw [slN_1 hn, hsh]; have := slN_mono h0; dsimp only; omega
  dsimp only at w
  rw [en, es, List.map_cons, cv_n (by omega), ← hHs] at w
  exact w
theorem wp_anew {ix len widx aux pc n : Nat} {x : Int} {lv : bL} {r : List bV} {h : bH} (hd : decode (mcode k) pc = .ok (.anewarray ix, 3)) (ht : okW widx (.classLink (mown k) ix "BoxLeaves$Terms") = true) (hx0 : 0 ≤ x) (hsh : sh n = (2, x.toNat)) (hn : n < 212) (hn1 : n + 1 ≤ n1)
    (hk : WP g l d k n0 n1 Q (pc + 3, lv, (2, (n : Int)) :: r, n + 1, hnew h n (fun _ => -1))) : WP g l d k n0 n1 Q (pc, lv, (0, x) :: r, n, h) := by
  intro p e R s m args below meth c Z E H locs ls q h0 h1
  obtain ⟨hx, hb, hml, hret, hlk, hown, hts, hin, hK⟩ := id E.1
  dsimp only at q h0 h1 ⊢
  have hHs : H.size = gsz g + n := q.1.1
  have hix : in32 x := ok1 q.2.2.2.1
  have hsm := sh_small hn
  rw [hsh] at hsm
  dsimp only at hsm
  have hcl : (Int32.ofInt x).toNatClampNeg = x.toNat := i32_cl hix
  have hx1 : ¬ Int32.ofInt x < 0 := by
    rw [show (0 : Int32) = Int32.ofInt 0 from rfl, i32_lt hix ⟨by decide, by decide⟩]; omega
  show W p l e R s m args below meth c H locs _ _ Z (F0 m pc ls (.int (Int32.ofInt x) :: r.map (cv g)))
  refine W.anew hx hb hown (hts _ (okW_in ht)) hK.2.1.2.2.2.2.2.1.use (g := F0 m pc ls (.int (Int32.ofInt x) :: r.map (cv g))) rfl hd rfl hx1 (by rw [hcl]; omega) (by have := E.2.1.2.2.1; omega) (by have := E.2.1.2.2.2; have e1 := slN_1 hn; have := slN_mono hn1; have := slN_mono h0; rw [hsh] at e1; dsimp only at e1; rw [hcl]; omega) fun cA kA comp f1 f2 f3 f4 => ?_
  rw [hcl]
  have hcA : cA = gA g 2 := by
    obtain ⟨_, _, _, _, _, z4⟩ := hK.2.1.2.2.1.2
    exact Option.some.inj (f1.symm.trans z4)
  have hk1 : (sh n).1 = 2 := by rw [hsh]
  have hlk : ∀ j, lk n j = 2 := fun j => lk_arr hk1 (by omega)
  have hnew : HR g (n + 1) (hnew h n (fun _ => -1)) (H.push { cls := cA, slots := Array.replicate x.toNat .null, vm := .none }) := by
    refine q.1.new hn ?_ ?_ (by simp) (fun z hz => by rw [Array.getElem?_push]; rw [if_neg (by omega)])
    · unfold cellR
      rw [if_pos (by omega), hk1, ← hHs, hsh, hcA]
      rw [arrV_new]
      rw [Array.getElem?_push, if_pos rfl]
      refine congrArg some (congrArg (arrV (gA g 2) x.toNat) (funext fun j => ?_))
      rw [hlk]
      rfl
    · intro j hj
      rw [hlk]
      show (-1 : Int) ≤ -1; omega
  have w := hk p e R s m args below meth c Z E _ locs ls ⟨hnew, q.2.1, q.2.2.1, okc (by show (-1 : Int) ≤ n; omega) (okr q.2.2.2.1), q.2.2.2.2⟩ (by show n0 ≤ n + 1; omega) hn1
  have en : n + 1 - n0 = n - n0 + 1 := by omega
  have es : slN (n + 1) - slN n0 = slN n - slN n0 + x.toNat := by
    rw [slN_1 hn, hsh]; have := slN_mono h0; dsimp only; omega
  dsimp only at w
  rw [en, es, List.map_cons, cv_n (by omega), ← hHs] at w
  exact w
theorem wp_aast {pc n : Nat} {x i a : Int} {lv : bL} {r : List bV} {h : bH} (hd : decode (mcode k) pc = .ok (.aastore, 1)) (hbr : barr 2 n a i = true) (hx0 : 0 ≤ x) (hxn : x.toNat < n) (hsx : (sh x.toNat).1 = 18)
    (hk : WP g l d k n0 n1 Q (pc + 1, lv, r, n, hup h a.toNat i.toNat x)) : WP g l d k n0 n1 Q (pc, lv, (2, x) :: (0, i) :: (2, a) :: r, n, h) := by
  intro p e R s m args below meth c Z E H locs ls q h0 h1
  obtain ⟨hx, hb, hml, hret, hlk, hown, hts, hin, hK⟩ := id E.1
  dsimp only at q h0 h1 ⊢
  have hii : in32 i := ok1 (okr q.2.2.2.1)
  obtain ⟨e1, e2, e3⟩ := barr_sz q.1 hbr (by omega)
  obtain ⟨-, -, -, hi0, hiL⟩ := barr_x hbr
  have hn212 : n ≤ 212 := q.1.2.1
  show W p l e R s m args below meth c H locs _ _ Z (F0 m pc ls (cv g (2, x) :: .int (Int32.ofInt i) :: cv g (2, a) :: r.map (cv g)))
  rw [e1, cv_2 g hx0, ad_lo g (by omega)]
  obtain ⟨z, hz, h12, hzg, hzn, cellv, q1, q2, q3, q4⟩ := q.1.obj (cc := 8) hxn hsx
  obtain ⟨hS, hfc, kC, hkC, hkind⟩ := hK.1 _ _ hz
  obtain ⟨kA, comp, r1, r2, r3, r4⟩ := hK.2.1.2.2.1.2
  have hzT : z.1 = "BoxLeaves$Terms" := by
    have : kCls[8]? = some ("BoxLeaves$Terms", kF8, 13) := rfl
    rw [hz] at this
    exact congrArg (·.1) (Option.some.inj this)
  have hcomp : comp = gC g 8 := by
    rw [hzT] at hfc
    exact Option.some.inj (r3.symm.trans hfc)
  refine W.aast hx hb e2 (fun _ h => by cases h) (fun h => by cases h) (k := kA) (comp := comp) (t := .object "BoxLeaves$Terms") r1 r2 rfl (kcomp := kC) (by rw [hcomp]; exact hkC) (by rw [arrV_size, i32_cl hii]; exact ⟨by rw [show (0 : Int32) = Int32.ofInt 0 from rfl, i32_lt hii ⟨by decide, by decide⟩]; omega, hiL⟩) q1 (fun _ h => by rw [q3] at h; cases h) (kv := kC) (by rw [q2]; exact hkC) (by rw [q2, hcomp]; exact va_asg _ _) rfl rfl hd fun H' f1 f2 f3 => ?_
  rw [i32_cl hii] at f1 ⊢
  refine hk p e R s m args below meth c Z E H' _ ls ⟨q.1.seta hbr (by omega) (x := x) (by show (-1 : Int) ≤ x; omega) f1 ?_ f2 f3, q.2.1, q.2.2.1, okr (okr (okr q.2.2.2.1)), locs_app q.2.2.2.2 (Nat.le_add_right _ _)⟩ h0 h1
  rw [show cvk g (if (2 : Nat) = 0 then 0 else if (2 : Nat) = 1 then 1 else 2) x = Value.ref (gsz g + x.toNat) from by show cv g (2, x) = _; rw [cv_2 g hx0, ad_lo g (by omega)]]
theorem wp_obj {ix len widx pc n : Nat} {a : Int} {lv : bL} {r : List bV} {h : bH} (hd : decode (mcode k) pc = .ok (.invokespecial ix, 3)) (ht : okC k (.invokespecial ix, len, 1000, widx) ix = true) (ha : 0 ≤ a) (hr : stw r ≤ 8) (ho1 : (Jvm.Cond.instanceMethod Lib.objectInit) ∈ wA) (ho2 : Jvm.Cond.code Lib.objectInit ⟨#[0xb1]⟩ 1 none ∈ wA)
    (hk : WP g l d k n0 n1 Q (pc + 3, lv, r, n, h)) : WP g l d k n0 n1 Q (pc, lv, (2, a) :: r, n, h) := by
  intro p e R s m args below meth c Z E H locs ls q h0 h1
  obtain ⟨hx, hb, hml, hret, hlk, hown, hts, hin, hK⟩ := id E.1
  dsimp only at q h0 h1 ⊢
  have hlink : (Cond.methodLink (mown k) ix Lib.objectInit).before args s = true := by
    unfold okC at ht
    dsimp only at ht
    rw [if_neg (by omega), if_pos rfl] at ht
    exact hts _ (wd_in ht)
  show W p l e R s m args below meth c H locs _ _ Z (F0 m pc ls (cv g (2, a) :: r.map (cv g)))
  rw [cv_2 g ha]
  refine W.objInit hx hb hown hlink (wA_of hts _ ho1) (wA_of hts _ ho2) rfl (by rw [hml]; exact q.2.1.1) rfl hd (by have := E.2.1.1; omega) (by
    have h9 := lv_room (m := m) (pc := pc) (ls := ls) (rest := .ref (ad g a.toNat) :: r.map (cv g)) (st := r.map (cv g)) (by rw [stw_cat]; exact hr)
    have := E.2.1.2.1
    omega) ?_
  exact hk p e R s m args below meth c Z E H locs ls ⟨q.1, q.2.1, q.2.2.1, okr q.2.2.2.1, q.2.2.2.2⟩ h0 h1
end SA
end
-- == 16.copy.lean.txt
section
theorem w_nat : (Jvm.Cond.native arraycopyName) ∈ wA := okW_wA (i := kAcp.1) (by decide +kernel)
theorem w_sta : (Jvm.Cond.static arraycopyName) ∈ wA := okW_wA (i := kAcp.2.1) (by decide +kernel)
theorem w_sys : (Jvm.Cond.initialized "java/lang/System") ∈ wA := okW_wA (i := kAcp.2.2.1) (by decide +kernel)
theorem w_obi : (Jvm.Cond.instanceMethod Lib.objectInit) ∈ wA := okW_wA (i := kAcp.2.2.2.1) (by decide +kernel)
theorem w_obc : Jvm.Cond.code Lib.objectInit ⟨#[0xb1]⟩ 1 none ∈ wA := okW_wA (i := kAcp.2.2.2.2) (by decide +kernel)
section SC
variable {g : bG} {l : Launch} {d k n0 n1 : Nat} {Q : bQ}
theorem wp_copy {ix len widx pc n : Nat} {s0 d0 sp dp x : Int} {lv : bL} {r : List bV} {h : bH} (hd : decode (mcode k) pc = .ok (.invokestatic ix, 3)) (ht : okC k (.invokestatic ix, len, 1001, widx) ix = true)
    (hs0 : 0 ≤ s0 ∧ s0.toNat < n ∧ (sh s0.toNat).1 = 0) (hd0 : 0 ≤ d0 ∧ d0.toNat < n ∧ (sh d0.toNat).1 = 0) (hsp : 0 ≤ sp) (hdp : 0 ≤ dp) (hx0 : 0 ≤ x) (h4 : sp.toNat + x.toNat ≤ (sh s0.toNat).2) (h5 : dp.toNat + x.toNat ≤ (sh d0.toNat).2) (hr : stw r ≤ 8)
    (hk : WP g l d k n0 n1 Q (pc + 3, lv, r, n, hcpy h s0.toNat sp.toNat d0.toNat dp.toNat x.toNat)) : WP g l d k n0 n1 Q (pc, lv, (0, x) :: (0, dp) :: (2, d0) :: (0, sp) :: (2, s0) :: r, n, h) := by
  intro p e R s m args below meth c Z E H locs ls q h0 h1
  obtain ⟨hx, hb, hml, hret, hlk, hown, hts, hin, hK⟩ := id E.1
  dsimp only at q h0 h1 ⊢
  have hix : in32 x := ok1 q.2.2.2.1
  have hidp : in32 dp := ok1 (okr q.2.2.2.1)
  have hisp : in32 sp := ok1 (okr (okr (okr q.2.2.2.1)))
  have hn212 : n ≤ 212 := q.1.2.1
  have hlink : (Cond.methodLink (mown k) ix arraycopyName).before args s = true := by
    unfold okC at ht
    dsimp only at ht
    rw [if_neg (by omega), if_neg (by omega), if_pos rfl] at ht
    exact hts _ (wd_in ht)
  have n32 : ∀ {z : Int}, in32 z → 0 ≤ z → ¬ Int32.ofInt z < 0 := fun hz h0 => by
    rw [show (0 : Int32) = Int32.ofInt 0 from rfl, i32_lt hz ⟨by decide, by decide⟩]; omega
  have hc0 : H[gsz g + s0.toNat]? = some (arrV (gA g 0) (sh s0.toNat).2 (fun j => .int (Int32.ofInt (h s0.toNat j)))) := by
    rw [q.1.arr hs0.2.1 hs0.2.2 (by omega)]
    refine congrArg some (congrArg (arrV (gA g 0) (sh s0.toNat).2) (funext fun j => ?_))
    rw [lk_arr hs0.2.2 (by omega)]; rfl
  have hc1 : H[gsz g + d0.toNat]? = some (arrV (gA g 0) (sh d0.toNat).2 (fun j => .int (Int32.ofInt (h d0.toNat j)))) := by
    rw [q.1.arr hd0.2.1 hd0.2.2 (by omega)]
    refine congrArg some (congrArg (arrV (gA g 0) (sh d0.toNat).2) (funext fun j => ?_))
    rw [lk_arr hd0.2.2 (by omega)]; rfl
  show W p l e R s m args below meth c H locs _ _ Z (F0 m pc ls (.int (Int32.ofInt x) :: .int (Int32.ofInt dp) :: cv g (2, d0) :: .int (Int32.ofInt sp) :: cv g (2, s0) :: r.map (cv g)))
  rw [cv_2 g hs0.1, cv_2 g hd0.1, ad_lo g (by omega), ad_lo g (by omega)]
  intro T hT X
  obtain ⟨-, k0, hk0, cm0, hkk0⟩ := hK.2.1.1.1 (sh s0.toNat).2 (fun j => .int (Int32.ofInt (h s0.toNat j)))
  obtain ⟨-, k1, hk1, cm1, hkk1⟩ := hK.2.1.1.1 (sh d0.toNat).2 (fun j => .int (Int32.ofInt (h d0.toNat j)))
  have tx := i32_ti hix
  have tdp := i32_ti hidp
  have tsp := i32_ti hisp
  obtain ⟨vm', X', step⟩ := X.arraycopy hx hown hlink (wA_of hts _ w_nat) (wA_of hts _ w_sta) (wA_of hts _ w_sys) (src := gsz g + s0.toNat) (dst := gsz g + d0.toNat) (srcPos := Int32.ofInt sp) (destPos := Int32.ofInt dp) (n := Int32.ofInt x) (by rw [hT]; exact hc0) (by rw [hT]; exact hc1)
    (fun _ h => by cases h) (fun _ h => by cases h) (fun h => by cases h) (fun h => by cases h) hk0 hk1 hkk0 hkk1 rfl (n32 hisp hsp) (n32 hidp hdp) (n32 hix hx0)
    (by rw [tx, tsp, arrV_size]; omega)
    (by rw [tx, tdp, arrV_size]; omega)
    (fun vm₁ _ i hi => by
      rw [i32_cl hix] at hi
      rw [i32_cl hisp]
      have e : (arrV (gA g 0) (sh s0.toNat).2 (fun j => Value.int (Int32.ofInt (h s0.toNat j)))).slots.getD (sp.toNat + i) .null = .int (Int32.ofInt (h s0.toNat (sp.toNat + i))) := by
        rw [Array.getD_eq_getD_getElem?, arrV_read _ _ (by omega)]
        rfl
      rw [e]
      exact ⟨rfl, trivial⟩)
    (g := F0 m pc ls (.int (Int32.ofInt x) :: .int (Int32.ofInt dp) :: .ref (gsz g + d0.toNat) :: .int (Int32.ofInt sp) :: .ref (gsz g + s0.toNat) :: r.map (cv g))) rfl (by rw [hml]; exact q.2.1.1) (rest := r.map (cv g)) rfl (by rw [hb]; exact hd) (by have := E.2.1.1; omega) (by
      have h9 := lv_room (m := m) (pc := pc) (ls := ls) (rest := .int (Int32.ofInt x) :: .int (Int32.ofInt dp) :: .ref (gsz g + d0.toNat) :: .int (Int32.ofInt sp) :: .ref (gsz g + s0.toNat) :: r.map (cv g)) (st := r.map (cv g)) (by rw [stw_cat]; exact hr)
      have := E.2.1.2.1
      have e7 : nativeFrameWords "java/lang/System" "arraycopy" 5 = 7 := by decide
      rw [e7]
      omega)
  have e1 : copied (arrV (gA g 0) (sh s0.toNat).2 (fun j => Value.int (Int32.ofInt (h s0.toNat j)))) (arrV (gA g 0) (sh d0.toNat).2 (fun j => Value.int (Int32.ofInt (h d0.toNat j)))) (Int32.ofInt sp) (Int32.ofInt dp) (Int32.ofInt x) = arrV (gA g 0) (sh d0.toNat).2 (fun j => .int (Int32.ofInt (va_cpy (h s0.toNat) (h d0.toNat) (Int32.ofInt sp).toNatClampNeg (Int32.ofInt dp).toNatClampNeg (Int32.ofInt x).toNatClampNeg j))) := va_copied (fun z => .int (Int32.ofInt z)) _ _ _ _ (by rw [i32_cl hisp, i32_cl hix]; exact h4)
  rw [e1] at X' step
  rw [i32_cl hisp, i32_cl hix, i32_cl hidp] at X' step
  generalize hcell : arrV (gA g 0) (sh d0.toNat).2 (fun j => Value.int (Int32.ofInt (va_cpy (h s0.toNat) (h d0.toNat) sp.toNat dp.toNat x.toNat j))) = cellN at X' step
  have hl : gsz g + d0.toNat < H.size := (Array.getElem?_eq_some_iff.mp hc1).1
  have hheap : ((T.setVm vm').setCell (gsz g + d0.toNat) cellN).heap = H.setIfInBounds (gsz g + d0.toNat) cellN := by rw [← hT]; rfl
  have oq : ∀ q : Nat, q ≠ gsz g + d0.toNat → (H.setIfInBounds (gsz g + d0.toNat) cellN)[q]? = H[q]? := fun q hq => by simp [Array.getElem?_setIfInBounds, Ne.symm hq]
  have onew : (H.setIfInBounds (gsz g + d0.toNat) cellN)[gsz g + d0.toNat]? = some cellN := by simp [Array.getElem?_setIfInBounds, hl]
  have hnew : HR g n (hcpy h s0.toNat sp.toNat d0.toNat dp.toNat x.toNat) (H.setIfInBounds (gsz g + d0.toNat) cellN) := by
    obtain ⟨q1, q2, q3, q4⟩ := q.1
    refine ⟨by simp; exact q1, q2, fun z hz => by rw [oq z (by omega)]; exact q3 z hz, fun b hb => ?_⟩
    by_cases eb : b = d0.toNat
    · subst eb
      refine ⟨?_, fun j hj => ?_⟩
      · unfold cellR
        rw [if_pos (by omega), onew, ← hcell, hd0.2.2]
        refine congrArg some (congrArg (arrV (gA g 0) (sh d0.toNat).2) (funext fun j => ?_))
        rw [lk_arr hd0.2.2 (by omega)]
        show Value.int (Int32.ofInt _) = Value.int (Int32.ofInt _)
        unfold va_cpy hcpy
        by_cases hj : dp.toNat ≤ j ∧ j < dp.toNat + x.toNat
        · rw [if_pos hj, if_pos ⟨rfl, hj⟩]
        · rw [if_neg hj, if_neg (fun z => hj z.2)]
      · rw [lk_arr hd0.2.2 (by omega)]
        show in32 (hcpy h s0.toNat sp.toNat d0.toNat dp.toNat x.toNat d0.toNat j)
        unfold hcpy
        by_cases hj2 : dp.toNat ≤ j ∧ j < dp.toNat + x.toNat
        · rw [if_pos ⟨rfl, hj2⟩]
          have := (q4 _ hs0.2.1).2 (sp.toNat + (j - dp.toNat)) (by omega)
          rw [lk_arr hs0.2.2 (by omega)] at this
          exact this
        · rw [if_neg (fun z => hj2 z.2)]
          have := (q4 _ hd0.2.1).2 j hj
          rw [lk_arr hd0.2.2 (by omega)] at this
          exact this
    · have e3 : hcpy h s0.toNat sp.toNat d0.toNat dp.toNat x.toNat b = h b := funext fun i => if_neg (fun z => eb z.1)
      rw [e3]
      exact ⟨(q4 b hb).1.kept (oq _ (by omega)), (q4 b hb).2⟩
  obtain ⟨t, a1, b1⟩ := hk p e R s m args below meth c Z E _ _ ls ⟨hnew, q.2.1, q.2.2.1, okr (okr (okr (okr (okr q.2.2.2.1)))), fun q9 hq9 => by
      rcases List.mem_append.mp hq9 with h9 | h9
      · exact q.2.2.2.2 q9 h9
      · obtain ⟨z, -, hz⟩ := List.mem_map.mp h9
        rw [← hz]
        exact Nat.le_add_right _ _⟩ h0 h1 _ hheap X'
  exact ⟨t, step t a1, b1⟩
end SC
end
