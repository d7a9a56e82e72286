/-! ONE INSTRUCTION: the plain step is the machine's -/
-- the classes' tables, by the kernel
theorem kF_in : ∀ q ∈ kCls, ∀ w ∈ u_ws q.1 q.2.1 q.2.2, w ∈ lw_tbl ∧ goodWord w = true := by decide +kernel
theorem kF_nm : ∀ q ∈ kCls, ∀ a, a < q.2.2 → ∀ b, b < q.2.2 → a ≠ b → (q.2.1 a).2.1 ≠ (q.2.1 b).2.1 := by decide +kernel
def fty (q : vw_C) (j : Nat) : FieldType := (parseFieldDescriptor (q.2.1 j).2.2.1).getD .int
def fkt : FieldType → Nat
  | .int => 0
  | .long => 1
  | .boolean => 3
  | .object _ => 2
  | .array _ => 2
  | _ => 9
theorem kF_ty : ∀ i, i < 12 → ∀ j, j < (kCls.getD i ("", kF0, 0)).2.2 → parseFieldDescriptor ((kCls.getD i ("", kF0, 0)).2.1 j).2.2.1 = some (fty (kCls.getD i ("", kF0, 0)) j) ∧ fkt (fty (kCls.getD i ("", kF0, 0)) j) = fkd i j ∧ fkd i j < 4 := by decide +kernel
theorem kSh_ok : ∀ a, a < 212 → (10 ≤ (sh a).1 → (kCls.getD ((sh a).1 - 10) ("", kF0, 0)).2.2 = (sh a).2 ∧ (sh a).1 - 10 < 12) ∧ ((sh a).1 < 10 → (sh a).1 < 4) := by decide +kernel
theorem kCls_len : kCls.length = 12 := rfl
theorem kCls_at {i : Nat} {q : vw_C} (h : kCls[i]? = some q) : i < 12 ∧ kCls.getD i ("", kF0, 0) = q := by
  have := (List.getElem?_eq_some_iff.mp h).1
  rw [kCls_len] at this
  exact ⟨this, by rw [List.getD_eq_getElem?_getD, h]; rfl⟩
theorem u_ws_in {k i : Nat} {q : vw_C} (h : kCls[i]? = some q) : ∀ w ∈ u_ws q.1 q.2.1 q.2.2, w ∈ wsm k := fun w hw =>
  have z := kF_in q (List.mem_of_getElem? h) w hw
  List.mem_cons_of_mem _ (List.mem_filter.mpr z)
section ST
variable {g : bG} {l : Launch} {d k n0 n1 : Nat} {Q : bQ} {p : Program} {e : Env} {R : Room} {s : State} {m : MethodId} {args : Array Value} {below : List Frame} {meth : Method} {c : Code} {Z : State → Prop}
def Wg (g : bG) (l : Launch) (k n0 : Nat) (p : Program) (e : Env) (R : Room) (s : State) (m : MethodId) (args : Array Value) (below : List Frame) (meth : Method) (c : Code) (Z : State → Prop) (S : bS) : Prop :=
  ∀ (H : Heap) (locs : List Loc) (ls : Array Slot), RS g k S.2.2.2.1 S.2.2.2.2 S.2.1 S.2.2.1 H locs ls →
    W p l e R s m args below meth c H locs (S.2.2.2.1 - n0) (slN S.2.2.2.1 - slN n0) Z (F0 m S.1 ls (S.2.2.1.map (cv g)))
theorem okc {v : bV} {st : List bV} (h1 : okv v) (h2 : ∀ w ∈ st, okv w) : ∀ w ∈ v :: st, okv w := List.forall_mem_cons.mpr ⟨h1, h2⟩
theorem ok1 {v : bV} {st : List bV} (h : ∀ w ∈ v :: st, okv w) : okv v := h v List.mem_cons_self
theorem okr {v : bV} {st : List bV} (h : ∀ w ∈ v :: st, okv w) : ∀ w ∈ st, okv w := fun w hw => h w (List.mem_cons_of_mem _ hw)
theorem bmod_in {x : Int} {b : Nat} (h0 : 0 < b) (hb : b ≤ 65536) : in32 (Int.bmod x b) := by
  have h1 := Int.le_bmod (x := x) (m := b) h0
  have h2 := Int.bmod_lt (x := x) (m := b) h0
  unfold in32
  omega
theorem tmod_in {x y : Int} (hx : in32 x) (hy : in32 y) : in32 (x.tmod y) := by
  have := i32_in (Int32.ofInt x - Int32.ofInt x / Int32.ofInt y * Int32.ofInt y)
  rw [rem_toInt, i32_ti hx, i32_ti hy] at this
  exact this
theorem tmodL_in {x y : Int} (hx : in64 x) (hy : in64 y) : in64 (x.tmod y) := by
  have := i64_in (Int64.ofInt x % Int64.ofInt y)
  rw [Int64.toInt_mod, i64_ti hx, i64_ti hy] at this
  exact this
end ST
