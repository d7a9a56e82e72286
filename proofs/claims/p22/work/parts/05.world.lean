/-! THE WORLD: what the cells hold, what is known of the machine's tables, what a method's walk is over plain numbers -/
abbrev bG : Type := Heap × (Nat × bC) × (Nat → Nat) × (Nat → Nat) × (Nat → ClassId) × (Nat → Nat → Nat) × (Nat → ClassId) × Nat
abbrev gsz (g : bG) : Nat := g.1.size
abbrev gb (g : bG) : Nat := g.2.1.1
abbrev gsc (g : bG) : bC := g.2.1.2
abbrev gK (g : bG) : Nat → Nat := g.2.2.1
abbrev gV (g : bG) : Nat → Nat := g.2.2.2.1
abbrev gC (g : bG) : Nat → ClassId := g.2.2.2.2.1
abbrev gI (g : bG) : Nat → Nat → Nat := g.2.2.2.2.2.1
abbrev gA (g : bG) : Nat → ClassId := g.2.2.2.2.2.2.1
/-- the JDK's formatter -/
abbrev gF (g : bG) : Nat := g.2.2.2.2.2.2.2
/-- the address behind a reference's number: cells made, texts, the script -/
def ad (g : bG) (r : Nat) : Nat := if r < 512 then gsz g + r else if r < 600 then gK g (r - 512) else if r = 701 then gF g else if 800 ≤ r then gV g (r - 800) else gb g
def cvk (g : bG) : Nat → Int → Value
  | 1, x => .long (Int64.ofInt x)
  | 2, x => if x < 0 then .null else .ref (ad g x.toNat)
  | _, x => .int (Int32.ofInt x)
def cv (g : bG) (v : bV) : Value := cvk g v.1 v.2
def clv (g : bG) (q : Nat × bV) : Nat × Value := (q.1, cv g q.2)
theorem cv_0 (g : bG) (x : Int) : cv g (0, x) = .int (Int32.ofInt x) := rfl
theorem cv_1 (g : bG) (x : Int) : cv g (1, x) = .long (Int64.ofInt x) := rfl
theorem cv_2 (g : bG) {x : Int} (h : 0 ≤ x) : cv g (2, x) = .ref (ad g x.toNat) := by
  show (if x < 0 then Value.null else _) = _
  rw [if_neg (by omega)]
theorem cv_2n (g : bG) {x : Int} (h : x < 0) : cv g (2, x) = .null := by
  show (if x < 0 then Value.null else _) = _
  rw [if_pos h]
theorem ad_lo (g : bG) {r : Nat} (h : r < 512) : ad g r = gsz g + r := by
  unfold ad; rw [if_pos h]
theorem cv_cat (g : bG) (v : bV) : (cv g v).category = if v.1 = 1 then 2 else 1 := by
  obtain ⟨t, x⟩ := v
  match t with
  | 0 => rfl
  | 1 => rfl
  | 2 =>
    show (if x < 0 then Value.null else Value.ref (ad g x.toNat)).category = 1
    split <;> rfl
  | _ + 3 => rfl
def cellR (g : bG) (a : Nat) (f : Nat → Int) (H : Heap) : Prop := if (sh a).1 < 10 then H[gsz g + a]? = some (arrV (gA g (sh a).1) (sh a).2 (fun j => cvk g (lk a j) (f j))) else t_OB (gsz g + a) (gC g ((sh a).1 - 10)) (sh a).2 (gI g ((sh a).1 - 10)) H (fun j => cvk g (lk a j) (f j))
theorem cellR.kept {g : bG} {a : Nat} {f : Nat → Int} {H H1 : Heap} (h : cellR g a f H) (hq : H1[gsz g + a]? = H[gsz g + a]?) : cellR g a f H1 := by
  unfold cellR at h ⊢
  split
  · rename_i q; rw [if_pos q] at h; rw [hq]; exact h
  · rename_i q; rw [if_neg q] at h; exact h.kept hq
def HR (g : bG) (n : Nat) (h : bH) (H : Heap) : Prop :=
  H.size = gsz g + n ∧ n ≤ 212 ∧ (∀ q : Nat, q < gsz g → H[q]? = g.1[q]?) ∧ ∀ a, a < n → cellR g a (h a) H ∧ ∀ j, j < (sh a).2 → okk (lk a j) (h a j)
theorem HR.set {g : bG} {n : Nat} {h : bH} {H H1 : Heap} (q : HR g n h H) {a j : Nat} {x : Int} (ha : a < n) (hx : j < (sh a).2 → okk (lk a j) x) (hc : cellR g a (hup h a j x a) H1) (hs : H1.size = H.size) (ho : ∀ q : Nat, q ≠ gsz g + a → H1[q]? = H[q]?) : HR g n (hup h a j x) H1 := by
  obtain ⟨q1, q2, q3, q4⟩ := q
  refine ⟨by rw [hs]; exact q1, q2, fun z hz => by rw [ho z (by omega)]; exact q3 z hz, fun b hb => ?_⟩
  by_cases e : b = a
  · subst e
    refine ⟨hc, fun i hi => ?_⟩
    show okk (lk b i) (if b = b ∧ i = j then x else h b i)
    by_cases e2 : i = j
    · subst e2; rw [if_pos ⟨rfl, rfl⟩]; exact hx hi
    · rw [if_neg (fun z => e2 z.2)]; exact (q4 b hb).2 i hi
  · have e3 : hup h a j x b = h b := funext fun i => if_neg (fun z => e z.1)
    rw [e3]
    exact ⟨(q4 b hb).1.kept (ho _ (by omega)), (q4 b hb).2⟩
def kSbyt : List (List Int32) := kStr.map fun q => q.2.toList.map fun ch => Int32.ofNat ch.toNat
def kSlen : List Nat := kStr.map fun q => q.2.toList.length
def KS (g : bG) (s : State) : Prop :=
  (∀ c q, kCls[c]? = some q → u_Kn s q.1 q.2.1 q.2.2 (gC g c) (gI g c)) ∧
  ((ArrOfT s (gA g 0) .int ∧ va_RA s (gA g 0) .int) ∧ (ArrOfT s (gA g 1) .long ∧ va_RA s (gA g 1) .long) ∧ (ArrOfT s (gA g 2) (.object "BoxLeaves$Terms") ∧ va_RA s (gA g 2) (.object "BoxLeaves$Terms")) ∧ (ArrOfT s (gA g 3) (.array .long) ∧ va_RA s (gA g 3) (.array .long) ∧ va_AO "BoxLeaves$Terms" s ∧ bAO (.array .long) s)) ∧
  (∀ q ∈ kNest, va_Nw (.methodLinkNest q.1 q.2.1 q.2.2 "BoxLeaves") s) ∧
  (∀ i q, kStr[i]? = some q → vk_R "BoxLeaves$Tape" q.1 q.2 (gK g i) s) ∧
  vk_S 20 kSlen kSbyt (gK g) (gV g) (fun q => gsz g ≤ q) s g.1 ∧
  va_Z "java/lang/String" "COMPACT_STRINGS" "Z" (.int 1) (fun q => gsz g ≤ q) s g.1 ∧
  (va_Z "jdk/internal/util/Preconditions" "SIOOBE_FORMATTER" "Ljava/util/function/BiFunction;" .null (fun q => gsz g ≤ q) s g.1 ∨ va_Z "jdk/internal/util/Preconditions" "SIOOBE_FORMATTER" "Ljava/util/function/BiFunction;" (.ref (gF g)) (fun q => gsz g ≤ q) s g.1) ∧
  va_X (gb g) (gsc g).1 (gsc g).2 s g.1 ∧ gb g < gsz g ∧ (gsc g).1 ≤ 3072
theorem KS.warm {g : bG} {s U : State} (hW : s.WarmedH U.vm) (h : KS g s) : KS g U := by
  obtain ⟨h1, ⟨⟨a1, a2⟩, ⟨b1, b2⟩, ⟨c1, c2⟩, d1, d2, d3, d4⟩, h3, h4, h5, h6, h7, h8, h9⟩ := h
  have e := hW.alike
  exact ⟨fun c q hq => u_Kn_moved e (h1 c q hq), ⟨⟨arrOfT_moved e a1, a2.moved e⟩, ⟨arrOfT_moved e b1, b2.moved e⟩, ⟨arrOfT_moved e c1, c2.moved e⟩, arrOfT_moved e d1, d2.moved e, d3.moved e, bAO_moved e d4⟩, fun q hq => (h3 q hq).warmM hW, fun i q hq => (h4 i q hq).warm hW, h5.moved e, h6.moved e, h7.elim (fun z => Or.inl (z.moved e)) (fun z => Or.inr (z.moved e)), h8.moved e, h9⟩
theorem KS.same {g : bG} {s U : State} (hv : U.vm = s.vm) (h : KS g s) : KS g U := by
  obtain ⟨h1, ⟨⟨a1, a2⟩, ⟨b1, b2⟩, ⟨c1, c2⟩, d1, d2, d3, d4⟩, h3, h4, h5, h6, h7, h8, h9⟩ := h
  have e : s.vm.Alike U.vm := by rw [hv]; exact Vm.Alike.refl _
  exact ⟨fun c q hq => u_Kn_moved e (h1 c q hq), ⟨⟨arrOfT_moved e a1, a2.moved e⟩, ⟨arrOfT_moved e b1, b2.moved e⟩, ⟨arrOfT_moved e c1, c2.moved e⟩, arrOfT_moved e d1, d2.moved e, d3.moved e, bAO_moved e d4⟩, fun q hq => (h3 q hq).same rfl hv.symm, fun i q hq => (h4 i q hq).same hv, h5.moved e, h6.moved e, h7.elim (fun z => Or.inl (z.moved e)) (fun z => Or.inr (z.moved e)), h8.moved e, h9⟩
def slN (n : Nat) : Nat := ((kSh.take n).map (·.2)).sum
def Cx (g : bG) (k : Nat) (p : Program) (s : State) (m : MethodId) (args : Array Value) (meth : Method) (c : Code) : Prop :=
  p.tables.exec = Jvm.exec ∧ c.code = mcode k ∧ c.maxLocals = mml k ∧ meth.sig.returnType = mret k ∧ meth.locks = false ∧ s.vm.findClass (mname k).cls = some m.cls ∧ (∀ w ∈ wsm k, w.before args s = true) ∧ ((mname k).name = "<init>" → meth.name = "<init>") ∧ KS g s
def Rm (d n0 n1 : Nat) (R : Room) : Prop := d + 1 ≤ R.frames ∧ 64 * (d + 1) ≤ R.locals ∧ n1 - n0 ≤ R.cells ∧ slN n1 - slN n0 ≤ R.slots
/-- the answer's instruction -/
def bret : Instr → Option bV → Bool
  | .return_, none => true
  | .ireturn, some (0, _) => true
  | .lreturn, some (1, _) => true
  | .areturn, some (2, _) => true
  | _, _ => false
/-- what a method of such a head may answer -/
def bfit : Option FieldType → Option bV → Prop
  | none, none => True
  | some .int, some (0, x) => in32 x
  | some .boolean, some (0, x) => 0 ≤ x ∧ x ≤ 1
  | some .long, some (1, x) => in64 x
  | some (.object _), some (2, x) => -1 ≤ x
  | some .char, some (0, x) => 0 ≤ x ∧ x < 65536
  | some .byte, some (0, x) => x = 0
  | _, _ => False
abbrev bQ : Type := Option bV → bH → Prop
def Rt (g : bG) (l : Launch) (k n0 n1 : Nat) (Q : bQ) (p : Program) (e : Env) (R : Room) (s : State) (m : MethodId) (args : Array Value) (below : List Frame) (meth : Method) (c : Code) (Z : State → Prop) : Prop :=
  ∀ (r : Option bV) (h : bH) (H : Heap) (locs : List Loc) (ls : Array Slot) (pc : Nat) (i : Instr), HR g n1 h H → (∀ q ∈ locs, gsz g ≤ q.base) → Q r h → bfit (mret k) r → decode (mcode k) pc = .ok (i, 1) → bret i r = true →
    W p l e R s m args below meth c H locs (n1 - n0) (slN n1 - slN n0) Z (F0 m pc ls ((r.map (cv g)).toList))
def Ex (g : bG) (l : Launch) (d k n0 n1 : Nat) (Q : bQ) (p : Program) (e : Env) (R : Room) (s : State) (m : MethodId) (args : Array Value) (below : List Frame) (meth : Method) (c : Code) (Z : State → Prop) : Prop :=
  Cx g k p s m args meth c ∧ Rm d n0 n1 R ∧ Rt g l k n0 n1 Q p e R s m args below meth c Z
def RS (g : bG) (k n : Nat) (h : bH) (lv : bL) (st : List bV) (H : Heap) (locs : List Loc) (ls : Array Slot) : Prop :=
  HR g n h H ∧ lv_has ls (mml k) (lv.map (clv g)) ∧ (∀ q ∈ lv, okv q.2) ∧ (∀ v ∈ st, okv v) ∧ ∀ q ∈ locs, gsz g ≤ q.base
/-- the walk of method k, at depth d, from pc on, comes to an answer with Q -/
def WP (g : bG) (l : Launch) (d k n0 n1 : Nat) (Q : bQ) (S : bS) : Prop :=
  ∀ (p : Program) (e : Env) (R : Room) (s : State) (m : MethodId) (args : Array Value) (below : List Frame) (meth : Method) (c : Code) (Z : State → Prop), Ex g l d k n0 n1 Q p e R s m args below meth c Z →
    ∀ (H : Heap) (locs : List Loc) (ls : Array Slot), RS g k S.2.2.2.1 S.2.2.2.2 S.2.1 S.2.2.1 H locs ls → n0 ≤ S.2.2.2.1 → S.2.2.2.1 ≤ n1 →
      W p l e R s m args below meth c H locs (S.2.2.2.1 - n0) (slN S.2.2.2.1 - slN n0) Z (F0 m S.1 ls (S.2.2.1.map (cv g)))
theorem lv_sub2 {ls : Array Slot} {nL : Nat} {l l' : List (Nat × Value)} (h : lv_has ls nL l) (hq : ∀ q ∈ l', q ∈ l) : lv_has ls nL l' := ⟨h.1, h.2.1, fun q hm => h.2.2 q (hq q hm)⟩
theorem lookup_mem {lv : bL} {j : Nat} {v : bV} (h : lv.lookup j = some v) : (j, v) ∈ lv := by
  induction lv with
  | nil => simp at h
  | cons q r ih =>
    obtain ⟨i, w⟩ := q
    rw [List.lookup_cons] at h
    split at h
    · rename_i e
      have : j = i := by simpa using e
      subst this
      cases h
      exact List.mem_cons_self
    · exact List.mem_cons_of_mem _ (ih h)
theorem RS.look {g : bG} {k n : Nat} {h : bH} {lv : bL} {st : List bV} {H : Heap} {locs : List Loc} {ls : Array Slot} (q : RS g k n h lv st H locs ls) {j : Nat} {v : bV} (hj : lv.lookup j = some v) : ls[j]? = some (.val (cv g v)) ∧ okv v := by
  have hm := lookup_mem hj
  exact ⟨q.2.1.2.2 _ (List.mem_map.mpr ⟨_, hm, rfl⟩), q.2.2.1 _ hm⟩
theorem RS.stk {g : bG} {k n : Nat} {h : bH} {lv : bL} {st st' : List bV} {H : Heap} {locs : List Loc} {ls : Array Slot} (q : RS g k n h lv st H locs ls) (hs : ∀ v ∈ st', okv v) : RS g k n h lv st' H locs ls := ⟨q.1, q.2.1, q.2.2.1, hs, q.2.2.2.2⟩
theorem okW_wA {i : Nat} {w : Jvm.Cond} (h : okW i w = true) : w ∈ wA := by
  unfold okW at h
  simp only [Bool.and_eq_true, beq_iff_eq] at h
  exact List.mem_filter.mpr ⟨tAt_mem h.1, h.2⟩
theorem wd_in {k i : Nat} {w : Jvm.Cond} (h : okW i w = true) : w ∈ wsm k := List.mem_cons_of_mem _ (okW_wA h)
