/-! THE MACHINE ON PLAIN NUMBERS: what one instruction does to (pc, locals, stack, cells made, contents) -/
abbrev bH : Type := Nat → Nat → Int
abbrev bL : Type := List (Nat × bV)
abbrev bS : Type := Nat × bL × List bV × Nat × bH
abbrev Tok : Type := Instr × Nat × Nat × Nat
abbrev bC : Type := Nat × (Nat → Int32)
def sh (a : Nat) : Nat × Nat := kSh.getD a (99, 0)
def fkd (c j : Nat) : Nat := (kFk.getD c []).getD j 9
/-- the kind of a place -/
def lk (a j : Nat) : Nat := match (sh a).1 with
  | 0 => 0
  | 1 => 1
  | 2 => 2
  | 3 => 2
  | q => fkd (q - 10) j
def mcd (k : Nat) : ByteArray := if k = 0 then code else codeAt (kMx.getD k (0, 0, 0, 0, 0, 0)).1
def mq (k : Nat) : MethodName × ByteArray × Nat × Option FieldType := ((kM.getD k (⟨"", "", ""⟩, 0, none)).1, mcd k, (kM.getD k (⟨"", "", ""⟩, 0, none)).2.1, (kM.getD k (⟨"", "", ""⟩, 0, none)).2.2)
abbrev mname (k : Nat) : MethodName := (mq k).1
abbrev mcode (k : Nat) : ByteArray := (mq k).2.1
abbrev mml (k : Nat) : Nat := (mq k).2.2.1
abbrev mret (k : Nat) : Option FieldType := (mq k).2.2.2
/-- as the stack has it -/
def kOf (t : Nat) : Nat := if t = 3 then 0 else t
def okk : Nat → Int → Prop
  | 1, x => in64 x
  | 2, x => -1 ≤ x
  | 3, x => 0 ≤ x ∧ x ≤ 1
  | _, x => in32 x
abbrev okv (v : bV) : Prop := okk v.1 v.2
def hup (h : bH) (a j : Nat) (x : Int) : bH := fun b i => if b = a ∧ i = j then x else h b i
def hnew (h : bH) (n : Nat) (f : Nat → Int) : bH := fun b i => if b = n then f i else h b i
def hcpy (h : bH) (s sp d dp len : Nat) : bH := fun b i => if b = d ∧ dp ≤ i ∧ i < dp + len then h s (sp + (i - dp)) else h b i
def b2 (ta tb tr : Nat) (f : Int → Int → Option Int) (S : bS) (len : Nat) : Option bS := match S with
  | (pc, lv, (t2, y) :: (t1, x) :: r, n, h) => if t1 = ta ∧ t2 = tb then (f x y).map (fun z => (pc + len, lv, (tr, z) :: r, n, h)) else none
  | _ => none
theorem b2_x {ta tb tr : Nat} {f : Int → Int → Option Int} {pc : Nat} {lv : bL} {st : List bV} {n : Nat} {h : bH} {len : Nat} {S' : bS} (q : b2 ta tb tr f (pc, lv, st, n, h) len = some S') :
    ∃ x y z r, st = (tb, y) :: (ta, x) :: r ∧ f x y = some z ∧ S' = (pc + len, lv, (tr, z) :: r, n, h) := by
  rcases st with _ | ⟨⟨t2, y⟩, _ | ⟨⟨t1, x⟩, r⟩⟩
  · simp [b2] at q
  · simp [b2] at q
  · simp only [b2] at q
    split at q
    · rename_i e
      obtain ⟨rfl, rfl⟩ := e
      cases hf : f x y with
      | none => rw [hf] at q; simp at q
      | some z => rw [hf] at q; simp at q; exact ⟨x, y, z, r, rfl, hf, q.symm⟩
    · simp at q
def b1 (ta tr : Nat) (f : Int → Option Int) (S : bS) (len : Nat) : Option bS := match S with
  | (pc, lv, (t1, x) :: r, n, h) => if t1 = ta then (f x).map (fun z => (pc + len, lv, (tr, z) :: r, n, h)) else none
  | _ => none
theorem b1_x {ta tr : Nat} {f : Int → Option Int} {pc : Nat} {lv : bL} {st : List bV} {n : Nat} {h : bH} {len : Nat} {S' : bS} (q : b1 ta tr f (pc, lv, st, n, h) len = some S') :
    ∃ x z r, st = (ta, x) :: r ∧ f x = some z ∧ S' = (pc + len, lv, (tr, z) :: r, n, h) := by
  rcases st with _ | ⟨⟨t1, x⟩, r⟩
  · simp [b1] at q
  · simp only [b1] at q
    split at q
    · rename_i e
      subst e
      cases hf : f x with
      | none => rw [hf] at q; simp at q
      | some z => rw [hf] at q; simp at q; exact ⟨x, z, r, rfl, hf, q.symm⟩
    · simp at q
def bld (tg j len : Nat) (S : bS) : Option bS := match S with
  | (pc, lv, st, n, h) => match lv.lookup j with
    | some (t, x) => if t = tg then some (pc + len, lv, (t, x) :: st, n, h) else none
    | none => none
theorem bld_x {tg j len : Nat} {pc : Nat} {lv : bL} {st : List bV} {n : Nat} {h : bH} {S' : bS} (q : bld tg j len (pc, lv, st, n, h) = some S') :
    ∃ x, lv.lookup j = some (tg, x) ∧ S' = (pc + len, lv, (tg, x) :: st, n, h) := by
  simp only [bld] at q
  split at q
  · rename_i t x e
    split at q
    · rename_i e2
      subst e2
      exact ⟨x, e, (Option.some.inj q).symm⟩
    · simp at q
  · simp at q
def bkeep (tg j : Nat) (lv : bL) : bL := lv.filter (fun q => !(q.1 == j) && (!(tg == 1 && q.1 == j + 1) && !(q.1 + 1 == j && q.2.1 == 1)))
def bst (tg j len nL : Nat) (S : bS) : Option bS := match S with
  | (pc, lv, (t, x) :: r, n, h) => if t = tg ∧ j + (if tg = 1 then 1 else 0) < nL then some (pc + len, (j, (t, x)) :: bkeep tg j lv, r, n, h) else none
  | _ => none
theorem bst_x {tg j len nL : Nat} {pc : Nat} {lv : bL} {st : List bV} {n : Nat} {h : bH} {S' : bS} (q : bst tg j len nL (pc, lv, st, n, h) = some S') :
    ∃ x r, st = (tg, x) :: r ∧ j + (if tg = 1 then 1 else 0) < nL ∧ S' = (pc + len, (j, (tg, x)) :: bkeep tg j lv, r, n, h) := by
  rcases st with _ | ⟨⟨t1, x⟩, r⟩
  · simp [bst] at q
  · simp only [bst] at q
    by_cases e : t1 = tg ∧ j + (if tg = 1 then 1 else 0) < nL
    · rw [if_pos e] at q
      obtain ⟨rfl, e⟩ := e
      exact ⟨x, r, rfl, e, (Option.some.inj q).symm⟩
    · rw [if_neg e] at q
      simp at q
def bjmp (off : Int) (S : bS) : Option bS := if 0 ≤ (S.1 : Int) + off then some (((S.1 : Int) + off).toNat, S.2) else none
def bcond : Jvm.ClassFile.Cond → Int → Int → Bool
  | .eq, x, y => decide (x = y)
  | .ne, x, y => !decide (x = y)
  | .lt, x, y => decide (x < y)
  | .ge, x, y => decide (y ≤ x)
  | .gt, x, y => decide (y < x)
  | .le, x, y => decide (x ≤ y)
def divI (x y : Int) : Option Int := if y = 0 then none else some (w32 (x.tdiv y))
def remI (x y : Int) : Option Int := if y = 0 then none else some (x.tmod y)
def divL (x y : Int) : Option Int := if y = 0 then none else some (w64 (x.tdiv y))
def remL (x y : Int) : Option Int := if y = 0 then none else some (x.tmod y)
/-- an array's place -/
def barr (kd : Nat) (n : Nat) (a i : Int) : Bool := decide (0 ≤ a) && (decide (a.toNat < n) && ((sh a.toNat).1 == kd && (decide (0 ≤ i) && decide (i.toNat < (sh a.toNat).2))))
def baload (kd tg : Nat) (S : bS) : Option bS := match S with
  | (pc, lv, (v, i) :: (u, a) :: r, n, h) => if v = 0 ∧ u = 2 ∧ barr kd n a i = true then some (pc + 1, lv, (tg, h a.toNat i.toNat) :: r, n, h) else none
  | _ => none
theorem baload_x {kd tg : Nat} {pc : Nat} {lv : bL} {st : List bV} {n : Nat} {h : bH} {S' : bS} (q : baload kd tg (pc, lv, st, n, h) = some S') : ∃ i a r, st = (0, i) :: (2, a) :: r ∧ barr kd n a i = true ∧ S' = (pc + 1, lv, (tg, h a.toNat i.toNat) :: r, n, h) := by
  rcases st with _ | ⟨⟨v, i⟩, _ | ⟨⟨u, a⟩, r⟩⟩
  · cases q
  · cases q
  simp only [baload] at q
  by_cases hc : v = 0 ∧ u = 2 ∧ barr kd n a i = true
  · rw [if_pos hc] at q
    obtain ⟨rfl, rfl, hc⟩ := hc
    exact ⟨i, a, r, rfl, hc, (Option.some.inj q).symm⟩
  · rw [if_neg hc] at q; cases q
def bastore (kd tg : Nat) (S : bS) : Option bS := match S with
  | (pc, lv, (t, x) :: (v, i) :: (u, a) :: r, n, h) => if t = tg ∧ v = 0 ∧ u = 2 ∧ barr kd n a i = true then some (pc + 1, lv, r, n, hup h a.toNat i.toNat x) else none
  | _ => none
theorem bastore_x {kd tg : Nat} {pc : Nat} {lv : bL} {st : List bV} {n : Nat} {h : bH} {S' : bS} (q : bastore kd tg (pc, lv, st, n, h) = some S') : ∃ x i a r, st = (tg, x) :: (0, i) :: (2, a) :: r ∧ barr kd n a i = true ∧ S' = (pc + 1, lv, r, n, hup h a.toNat i.toNat x) := by
  rcases st with _ | ⟨⟨t, x⟩, _ | ⟨⟨v, i⟩, _ | ⟨⟨u, a⟩, r⟩⟩⟩
  · cases q
  · cases q
  · cases q
  simp only [bastore] at q
  by_cases hc : t = tg ∧ v = 0 ∧ u = 2 ∧ barr kd n a i = true
  · rw [if_pos hc] at q
    obtain ⟨rfl, rfl, rfl, hc⟩ := hc
    exact ⟨x, i, a, r, rfl, hc, (Option.some.inj q).symm⟩
  · rw [if_neg hc] at q; cases q
def bfin (c j : Nat) : Bool := match kCls[c]? with
  | some q => (q.2.1 j).2.2.2
  | none => true
/-- an object's place -/
def bobj (aux n : Nat) (a : Int) : Bool := decide (0 ≤ a) && (decide (a.toNat < n) && ((sh a.toNat).1 == 10 + aux / 64 && decide (aux % 64 < (sh a.toNat).2)))
def bput (k aux : Nat) (S : bS) : Option bS := match S with
  | (pc, lv, (t, x) :: (u, a) :: r, n, h) => if u = 2 ∧ bobj aux n a = true ∧ t = kOf (fkd (aux / 64) (aux % 64)) ∧ (fkd (aux / 64) (aux % 64) = 3 → 0 ≤ x ∧ x ≤ 1) ∧ (bfin (aux / 64) (aux % 64) = true → (mname k).name = "<init>") then some (pc + 3, lv, r, n, hup h a.toNat (aux % 64) x) else none
  | _ => none
theorem bput_x {k aux : Nat} {pc : Nat} {lv : bL} {st : List bV} {n : Nat} {h : bH} {S' : bS} (q : bput k aux (pc, lv, st, n, h) = some S') : ∃ x a r, st = (kOf (fkd (aux / 64) (aux % 64)), x) :: (2, a) :: r ∧ bobj aux n a = true ∧ (fkd (aux / 64) (aux % 64) = 3 → 0 ≤ x ∧ x ≤ 1) ∧ (bfin (aux / 64) (aux % 64) = true → (mname k).name = "<init>") ∧ S' = (pc + 3, lv, r, n, hup h a.toNat (aux % 64) x) := by
  rcases st with _ | ⟨⟨t, x⟩, _ | ⟨⟨u, a⟩, r⟩⟩
  · cases q
  · cases q
  simp only [bput] at q
  by_cases hc : u = 2 ∧ bobj aux n a = true ∧ t = kOf (fkd (aux / 64) (aux % 64)) ∧ (fkd (aux / 64) (aux % 64) = 3 → 0 ≤ x ∧ x ≤ 1) ∧ (bfin (aux / 64) (aux % 64) = true → (mname k).name = "<init>")
  · rw [if_pos hc] at q
    obtain ⟨rfl, h1, rfl, h2, h3⟩ := hc
    exact ⟨x, a, r, rfl, h1, h2, h3, (Option.some.inj q).symm⟩
  · rw [if_neg hc] at q; cases q
def bget (aux : Nat) (S : bS) : Option bS := match S with
  | (pc, lv, (u, a) :: r, n, h) => if u = 2 ∧ bobj aux n a = true then some (pc + 3, lv, (kOf (fkd (aux / 64) (aux % 64)), h a.toNat (aux % 64)) :: r, n, h) else none
  | _ => none
theorem bget_x {aux : Nat} {pc : Nat} {lv : bL} {st : List bV} {n : Nat} {h : bH} {S' : bS} (q : bget aux (pc, lv, st, n, h) = some S') : ∃ a r, st = (2, a) :: r ∧ bobj aux n a = true ∧ S' = (pc + 3, lv, (kOf (fkd (aux / 64) (aux % 64)), h a.toNat (aux % 64)) :: r, n, h) := by
  rcases st with _ | ⟨⟨u, a⟩, r⟩
  · cases q
  simp only [bget] at q
  by_cases hc : u = 2 ∧ bobj aux n a = true
  · rw [if_pos hc] at q
    obtain ⟨rfl, h1⟩ := hc
    exact ⟨a, r, rfl, h1, (Option.some.inj q).symm⟩
  · rw [if_neg hc] at q; cases q
def blen (sc : bC) (S : bS) : Option bS := match S with
  | (pc, lv, (u, a) :: r, n, h) => if u = 2 then (if a = 700 then some (pc + 1, lv, (0, (sc.1 : Int)) :: r, n, h) else if 0 ≤ a ∧ a.toNat < n ∧ (sh a.toNat).1 < 10 then some (pc + 1, lv, (0, ((sh a.toNat).2 : Int)) :: r, n, h) else none) else none
  | _ => none
def biald (sc : bC) (S : bS) : Option bS := match S with
  | (pc, lv, (v, i) :: (u, a) :: r, n, h) => if v = 0 ∧ u = 2 ∧ a = 700 ∧ 0 ≤ i ∧ i.toNat < sc.1 then some (pc + 1, lv, (0, (sc.2 i.toNat).toInt) :: r, n, h) else baload 0 0 (pc, lv, (v, i) :: (u, a) :: r, n, h)
  | _ => none
def bpop (S : bS) : Option bS := match S with
  | (pc, lv, (t, _) :: r, n, h) => if t = 1 then none else some (pc + 1, lv, r, n, h)
  | _ => none
def bdup (S : bS) : Option bS := match S with
  | (pc, lv, v :: r, n, h) => if v.1 = 1 then none else some (pc + 1, lv, v :: v :: r, n, h)
  | _ => none
def bdupx1 (S : bS) : Option bS := match S with
  | (pc, lv, v :: w :: r, n, h) => if v.1 = 1 ∨ w.1 = 1 then none else some (pc + 1, lv, v :: w :: v :: r, n, h)
  | _ => none
def bdupx2 (S : bS) : Option bS := match S with
  | (pc, lv, v :: w :: z :: r, n, h) => if v.1 = 1 ∨ w.1 = 1 ∨ z.1 = 1 then none else some (pc + 1, lv, v :: w :: z :: v :: r, n, h)
  | _ => none
def bdup2 (S : bS) : Option bS := match S with
  | (pc, lv, v :: w :: r, n, h) => if v.1 = 1 ∨ w.1 = 1 then none else some (pc + 1, lv, v :: w :: v :: w :: r, n, h)
  | _ => none
def biinc (j : Nat) (c : Int) (nL : Nat) (S : bS) : Option bS := match S with
  | (pc, lv, st, n, h) => match lv.lookup j with
    | some (t, x) => if t = 0 ∧ j < nL then some (pc + 3, (j, (0, w32 (x + c))) :: bkeep 0 j lv, st, n, h) else none
    | none => none
def bbr (c : Jvm.ClassFile.Cond) (off : Int) (S : bS) : Option bS := match S with
  | (pc, lv, (t, x) :: r, n, h) => if t = 0 ∧ 0 ≤ (pc : Int) + off then some (if bcond c x 0 = true then ((pc : Int) + off).toNat else pc + 3, lv, r, n, h) else none
  | _ => none
def bicmp (c : Jvm.ClassFile.Cond) (off : Int) (S : bS) : Option bS := match S with
  | (pc, lv, (t, y) :: (u, x) :: r, n, h) => if t = 0 ∧ u = 0 ∧ 0 ≤ (pc : Int) + off then some (if bcond c x y = true then ((pc : Int) + off).toNat else pc + 3, lv, r, n, h) else none
  | _ => none
def bnull (z : Bool) (off : Int) (S : bS) : Option bS := match S with
  | (pc, lv, (t, x) :: r, n, h) => if t = 2 ∧ 0 ≤ (pc : Int) + off then some (if decide (x < 0) = z then ((pc : Int) + off).toNat else pc + 3, lv, r, n, h) else none
  | _ => none
def btab (d lo hi : Int) (offs : Array Int) (S : bS) : Option bS := match S with
  | (pc, lv, (t, x) :: r, n, h) => if t = 0 then (if x < lo ∨ hi < x then bjmp d (pc, lv, r, n, h) else match offs[(x - lo).toNat]? with
      | some o => bjmp o (pc, lv, r, n, h)
      | none => none) else none
  | _ => none
def bsorted (ps : List (Int × Int)) : Bool := (ps.zip (ps.drop 1)).all (fun (a, next) => a.1 < next.1)
def blkp (d : Int) (ps : Array (Int × Int)) (S : bS) : Option bS := match S with
  | (pc, lv, (t, x) :: r, n, h) => if t = 0 ∧ bsorted ps.toList = true then bjmp (Op.lookupswitch.offset ps.toList d x) (pc, lv, r, n, h) else none
  | _ => none
/-- one instruction that calls no method of the table and doesn't return -/
def cst (sc : bC) (k : Nat) (t : Tok) (S : bS) : Option bS :=
  match t.1 with
  | .iconst c => some (S.1 + 1, S.2.1, (0, w32 c) :: S.2.2.1, S.2.2.2)
  | .bipush c => some (S.1 + 2, S.2.1, (0, Int.bmod c 256) :: S.2.2.1, S.2.2.2)
  | .sipush c => some (S.1 + 3, S.2.1, (0, Int.bmod c 65536) :: S.2.2.1, S.2.2.2)
  | .lconst c => some (S.1 + 1, S.2.1, (1, ((c : Nat) : Int)) :: S.2.2.1, S.2.2.2)
  | .ldc _ => if t.2.2.1 < 1000 then some (S.1 + 2, S.2.1, (0, w32 (kI.getD t.2.2.1 0)) :: S.2.2.1, S.2.2.2) else some (S.1 + 2, S.2.1, (2, (t.2.2.1 : Int) - 488) :: S.2.2.1, S.2.2.2)
  | .ldc_w _ => some (S.1 + 3, S.2.1, (0, w32 (kI.getD t.2.2.1 0)) :: S.2.2.1, S.2.2.2)
  | .ldc2_w _ => some (S.1 + 3, S.2.1, (1, w64 (kI.getD t.2.2.1 0)) :: S.2.2.1, S.2.2.2)
  | .aconst_null => some (S.1 + 1, S.2.1, (2, -1) :: S.2.2.1, S.2.2.2)
  | .iload j => bld 0 j 2 S
  | .iload_n j => bld 0 j 1 S
  | .lload j => bld 1 j 2 S
  | .lload_n j => bld 1 j 1 S
  | .aload j => bld 2 j 2 S
  | .aload_n j => bld 2 j 1 S
  | .istore j => bst 0 j 2 (mml k) S
  | .istore_n j => bst 0 j 1 (mml k) S
  | .lstore j => bst 1 j 2 (mml k) S
  | .lstore_n j => bst 1 j 1 (mml k) S
  | .astore j => bst 2 j 2 (mml k) S
  | .astore_n j => bst 2 j 1 (mml k) S
  | .iinc j c => biinc j c (mml k) S
  | .pop => bpop S
  | .dup => bdup S
  | .dup_x1 => bdupx1 S
  | .dup_x2 => bdupx2 S
  | .dup2 => bdup2 S
  | .iadd => b2 0 0 0 (fun x y => some (w32 (x + y))) S 1
  | .isub => b2 0 0 0 (fun x y => some (w32 (x - y))) S 1
  | .imul => b2 0 0 0 (fun x y => some (w32 (x * y))) S 1
  | .idiv => b2 0 0 0 divI S 1
  | .irem => b2 0 0 0 remI S 1
  | .iand => b2 0 0 0 (fun x y => some (andI x y)) S 1
  | .ior => b2 0 0 0 (fun x y => some (orI x y)) S 1
  | .ixor => b2 0 0 0 (fun x y => some (xorI x y)) S 1
  | .ishl => b2 0 0 0 (fun x y => some (shlI x y)) S 1
  | .ishr => b2 0 0 0 (fun x y => some (shrI x y)) S 1
  | .iushr => b2 0 0 0 (fun x y => some (ushrI x y)) S 1
  | .ineg => b1 0 0 (fun x => some (w32 (-x))) S 1
  | .ladd => b2 1 1 1 (fun x y => some (w64 (x + y))) S 1
  | .lsub => b2 1 1 1 (fun x y => some (w64 (x - y))) S 1
  | .lmul => b2 1 1 1 (fun x y => some (w64 (x * y))) S 1
  | .ldiv => b2 1 1 1 divL S 1
  | .lrem => b2 1 1 1 remL S 1
  | .land => b2 1 1 1 (fun x y => some (andL x y)) S 1
  | .lor => b2 1 1 1 (fun x y => some (orL x y)) S 1
  | .lshl => b2 1 0 1 (fun x y => some (shlL x y)) S 1
  | .lshr => b2 1 0 1 (fun x y => some (shrL x y)) S 1
  | .lcmp => b2 1 1 0 (fun x y => some (cmpL x y)) S 1
  | .i2l => b1 0 1 (fun x => some x) S 1
  | .l2i => b1 1 0 (fun x => some (w32 x)) S 1
  | .i2b => b1 0 0 (fun x => some (Int.bmod x 256)) S 1
  | .i2s => b1 0 0 (fun x => some (Int.bmod x 65536)) S 1
  | .ifCond c off => bbr c off S
  | .if_icmp c off => bicmp c off S
  | .goto off => bjmp off S
  | .ifnull off => bnull true off S
  | .ifnonnull off => bnull false off S
  | .tableswitch d lo hi offs => btab d lo hi offs S
  | .lookupswitch d ps => blkp d ps S
  | .getfield _ => bget t.2.2.1 S
  | .putfield _ => bput k t.2.2.1 S
  | .iaload => biald sc S
  | .laload => baload 1 1 S
  | .aaload => if t.2.2.1 = 0 then baload 2 2 S else baload 3 2 S
  | .iastore => bastore 0 0 S
  | .lastore => bastore 1 1 S
  | .arraylength => blen sc S
  | _ => none
