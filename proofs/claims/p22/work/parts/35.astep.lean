/-! ONE INSTRUCTION OF THE CHECKER (no branch, no call) -/
def alook (j : Nat) (lv : aL) : Option AV := lv.lookup j
theorem evL_look {ρ : Nat → Int} {j : Nat} : ∀ {lv : aL}, (evL ρ lv).lookup j = (lv.lookup j).map fun v => (v.1, ev ρ v.2)
  | [] => rfl
  | q :: r => by
    obtain ⟨i, v⟩ := q
    show List.lookup j ((i, (v.1, ev ρ v.2)) :: evL ρ r) = _
    rw [List.lookup_cons, List.lookup_cons]
    split
    · rfl
    · exact evL_look
def akeep (tg j : Nat) (lv : aL) : aL := lv.filter (fun q => !(q.1 == j) && (!(tg == 1 && q.1 == j + 1) && !(q.1 + 1 == j && q.2.1 == 1)))
theorem evL_keep {ρ : Nat → Int} {tg j : Nat} {lv : aL} : evL ρ (akeep tg j lv) = bkeep tg j (evL ρ lv) := by
  unfold evL akeep bkeep
  rw [List.filter_map]
  rfl
theorem wf_look {m j : Nat} {v : AV} : ∀ {lv : aL}, wfL m lv → lv.lookup j = some v → wfF m v.2
  | [], _, h => by cases h
  | q :: r, hw, h => by
    obtain ⟨i, w⟩ := q
    rw [List.lookup_cons] at h
    split at h
    · cases h; exact hw _ List.mem_cons_self
    · exact wf_look (fun x hx => hw x (List.mem_cons_of_mem _ hx)) h
theorem wf_keep {m tg j : Nat} {lv : aL} (h : wfL m lv) : wfL m (akeep tg j lv) := fun q hq => h q (List.mem_filter.mp hq).1
theorem wfL_mono {m m' : Nat} {lv : aL} (h : wfL m lv) (hm : m ≤ m') : wfL m' lv := fun q hq => wf_mono (h q hq) hm
theorem wfS_mono {m m' : Nat} {st : List AV} (h : wfS m st) (hm : m ≤ m') : wfS m' st := fun q hq => wf_mono (h q hq) hm
theorem wfS_c {m : Nat} {v : AV} {st : List AV} (h1 : wfF m v.2) (h2 : wfS m st) : wfS m (v :: st) := List.forall_mem_cons.mpr ⟨h1, h2⟩
theorem wfL_c {m j : Nat} {v : AV} {lv : aL} (h1 : wfF m v.2) (h2 : wfL m lv) : wfL m ((j, v) :: lv) := List.forall_mem_cons.mpr ⟨h1, h2⟩
/-- a known fact that gives 'g ≤ 0' -/
def leP (C : aC) (g : Fm) : Bool := decide ((iv (eC C) g).2 ≤ 0) || (fC C).any fun f => decide ((iv (eC C) (fsub g f)).2 ≤ 0)
theorem leP_ok {P : aP} {L : bC} {h0 h : bH} {ρ : Nat → Int} {C : aC} {g : Fm} (q : core P L h0 ρ h C) (hw : wfF (eC C).length g) (hs : leP C g = true) : ev ρ g ≤ 0 := by
  unfold leP at hs
  rw [Bool.or_eq_true, decide_eq_true_eq, List.any_eq_true] at hs
  rcases hs with hs | ⟨f, hf, hs⟩
  · have := iv_ok q.1 hw
    omega
  · rw [decide_eq_true_eq] at hs
    have h1 := q.2.1 f hf
    have := iv_ok q.1 (wf_sub hw h1.1)
    rw [fsub_ev] at this
    omega
def nzB (C : aC) (y : Fm) : Bool := leP C (fsub (fcon 1) y) || leP C (fadd y (fcon 1))
theorem nzB_ok {P : aP} {L : bC} {h0 h : bH} {ρ : Nat → Int} {C : aC} {y : Fm} (q : core P L h0 ρ h C) (hw : wfF (eC C).length y) (hs : nzB C y = true) : ev ρ y ≠ 0 := by
  unfold nzB at hs
  rw [Bool.or_eq_true] at hs
  rcases hs with hs | hs
  · have := leP_ok q (wf_sub (wf_con _ 1) hw) hs
    rw [fsub_ev, fcon_ev] at this
    omega
  · have := leP_ok q (wf_add hw (wf_con _ 1)) hs
    rw [fadd_ev, fcon_ev] at this
    omega
/-- facts one after the other, by the last unknown -/
def leC (C : aC) : Nat → Fm → Bool
  | 0, g => leP C g
  | n + 1, g => leP C g || (match g.2.getLast? with
    | some t => (fC C).any fun f => (f.2.getLast? == some t) && leC C n (fsub g f)
    | none => false)
theorem leC_ok {P : aP} {L : bC} {h0 h : bH} {ρ : Nat → Int} {C : aC} (q : core P L h0 ρ h C) : ∀ {n : Nat} {g : Fm}, wfF (eC C).length g → leC C n g = true → ev ρ g ≤ 0
  | 0, g, hw, hs => leP_ok q hw hs
  | n + 1, g, hw, hs => by
    unfold leC at hs
    rw [Bool.or_eq_true] at hs
    rcases hs with hs | hs
    · exact leP_ok q hw hs
    · split at hs
      case h_2 => cases hs
      rw [List.any_eq_true] at hs
      obtain ⟨f, hf, hs⟩ := hs
      rw [Bool.and_eq_true] at hs
      have h1 := q.2.1 f hf
      have h2 := leC_ok q (wf_sub hw h1.1) hs.2
      rw [fsub_ev] at h2
      omega
/-- known facts together -/
def leP2 (C : aC) (g : Fm) : Bool := leP C g || ((fC C).any (fun f => leP C (fsub g f)) || leC C 6 g)
theorem leP2_ok {P : aP} {L : bC} {h0 h : bH} {ρ : Nat → Int} {C : aC} {g : Fm} (q : core P L h0 ρ h C) (hw : wfF (eC C).length g) (hs : leP2 C g = true) : ev ρ g ≤ 0 := by
  unfold leP2 at hs
  rw [Bool.or_eq_true, Bool.or_eq_true, List.any_eq_true] at hs
  rcases hs with hs | ⟨f, hf, hs⟩ | hs
  · exact leP_ok q hw hs
  · have h1 := q.2.1 f hf
    have h2 := leP_ok q (wf_sub hw h1.1) hs
    rw [fsub_ev] at h2
    omega
  · exact leC_ok q hw hs
/-- a quotient known already: q with c * q ≤ x ≤ c * q + c - 1 -/
def qfind (C : aC) (c : Int) (x : Fm) : List Fm → Option Nat
  | [] => none
  | f :: r => match (fadd f x).2 with
    | [t] => if (fadd f x).1 = 0 ∧ t.2 = c ∧ leP C (fadd (fsub x (fscale c (fid t.1))) (fcon (-(c - 1)))) = true ∧ t.1 < (eC C).length then some t.1 else qfind C c x r
    | _ => qfind C c x r
theorem qfind_ok {P : aP} {L : bC} {h0 h : bH} {ρ : Nat → Int} {C : aC} {c : Int} {x : Fm} {i : Nat} (q : core P L h0 ρ h C) (hw : wfF (eC C).length x) : ∀ {fs : List Fm}, (∀ f ∈ fs, f ∈ fC C) → qfind C c x fs = some i → i < (eC C).length ∧ c * ρ i ≤ ev ρ x ∧ ev ρ x ≤ c * ρ i + (c - 1)
  | [], _, h => by cases h
  | f :: r, hm, h => by
    unfold qfind at h
    split at h
    · rename_i t ht
      split at h
      · rename_i e
        cases h
        obtain ⟨e1, e2, e3, e4⟩ := e
        have hf := q.2.1 f (hm f List.mem_cons_self)
        have h1 : ev ρ (fadd f x) = c * ρ t.1 := by
          unfold ev
          rw [e1, ht, ← e2]
          simp [evT]
        rw [fadd_ev] at h1
        have h2 := leP_ok q (wf_add (wf_sub hw (wf_scale (wf_id e4))) (wf_con _ _)) e3
        rw [fadd_ev, fsub_ev, fscale_ev, fid_ev, fcon_ev] at h2
        exact ⟨e4, by omega, by omega⟩
      · exact qfind_ok q hw (fun z hz => hm z (List.mem_cons_of_mem _ hz)) h
    · exact qfind_ok q hw (fun z hz => hm z (List.mem_cons_of_mem _ hz)) h
def isDiv : Instr → Bool
  | .idiv => true
  | .ldiv => true
  | _ => false
/-- the one number of a form -/
def fone (C : aC) (f : Fm) : Option Int := one (iv (eC C) f)
theorem fone_ok {P : aP} {L : bC} {h0 h : bH} {ρ : Nat → Int} {C : aC} {f : Fm} {c : Int} (q : core P L h0 ρ h C) (hw : wfF (eC C).length f) (hs : fone C f = some c) : ev ρ f = c := by
  have := iv_ok q.1 hw
  exact one_x hs this.1 this.2
def apc (tg : Nat) (c : Int) (S : aS) : Option aS := some (S.1, (tg, fcon c) :: S.2.1, S.2.2)
def ald (tg j : Nat) (S : aS) : Option aS := match S.1.lookup j with
  | some v => if v.1 = tg then some (S.1, v :: S.2.1, S.2.2) else none
  | none => none
def ast (tg j nL : Nat) (S : aS) : Option aS := match S.2.1 with
  | v :: r => if v.1 = tg ∧ j + (if tg = 1 then 1 else 0) < nL then some ((j, v) :: akeep tg j S.1, r, S.2.2) else none
  | [] => none
def ares (tr : Nat) (lv : aL) (r : List AV) (C : aC) (a : Ar) : Option aS := some (lv, (tr, (apush (eC C) a).1) :: r, ((apush (eC C) a).2, C.2))
def ainc (j : Nat) (c : Int) (nL : Nat) (S : aS) : Option aS := match S.1.lookup j with
  | some v => if v.1 = 0 ∧ j < nL then some ((j, (0, (apush (eC S.2.2) (ar32 (eC S.2.2) (fadd v.2 (fcon c)))).1)) :: akeep 0 j S.1, S.2.1, ((apush (eC S.2.2) (ar32 (eC S.2.2) (fadd v.2 (fcon c)))).2, S.2.2.2)) else none
  | none => none
def aobj (C : aC) (aux : Nat) (f : Fm) : Option Nat := match fone C f with
  | some a => if bobj aux (nC C) a = true then some a.toNat else none
  | none => none
def agetf (P : aP) (aux : Nat) (S : aS) : Option aS := match S.2.1 with
  | v :: r => if v.1 = 2 then (match aobj S.2.2 aux v.2 with
      | some a => some (S.1, (kOf (fkd (aux / 64) (aux % 64)), (aload P S.2.2 a (aux % 64)).1) :: r, (aload P S.2.2 a (aux % 64)).2)
      | none => none) else none
  | [] => none
def aputf (P : aP) (k aux : Nat) (S : aS) : Option aS := match S.2.1 with
  | x :: v :: r => if v.1 = 2 ∧ x.1 = kOf (fkd (aux / 64) (aux % 64)) ∧ (fkd (aux / 64) (aux % 64) = 3 → isIn 0 1 (iv (eC S.2.2) x.2) = true) ∧ (bfin (aux / 64) (aux % 64) = true → (mname k).name = "<init>") then (match aobj S.2.2 aux v.2 with
      | some a => (astor P S.2.2 a (aux % 64) x.2).map fun C => (S.1, r, C)
      | none => none) else none
  | _ => none
/-- an array's cell -/
def aarr (C : aC) (kd : Nat) (f : Fm) : Option Nat := match fone C f with
  | some a => if 0 ≤ a ∧ a.toNat < nC C ∧ (sh a.toNat).1 = kd then some a.toNat else none
  | none => none
def aaldI (P : aP) (kd tg : Nat) (S : aS) : Option aS := match S.2.1 with
  | i :: v :: r => if i.1 = 0 ∧ v.1 = 2 then (match aarr S.2.2 kd v.2 with
      | some a => if inB S.2.2 0 ((sh a).2 - 1) i.2 = true then (match fone S.2.2 i.2 with
          | some j => some (S.1, (tg, (aload P S.2.2 a j.toNat).1) :: r, (aload P S.2.2 a j.toNat).2)
          | none => match aldx P S.2.2 a i.2 with
            | some b => ares tg S.1 r S.2.2 (.inr b)
            | none => none) else none
      | none => none) else none
  | _ => none
def aastI (P : aP) (kd tg : Nat) (S : aS) : Option aS := match S.2.1 with
  | x :: i :: v :: r => if x.1 = tg ∧ i.1 = 0 ∧ v.1 = 2 then (match aarr S.2.2 kd v.2 with
      | some a => if inB S.2.2 0 ((sh a).2 - 1) i.2 = true then (match fone S.2.2 i.2 with
          | some j => (astor P S.2.2 a j.toNat x.2).map fun C => (S.1, r, C)
          | none => (astx P S.2.2 a i.2 x.2).map fun C => (S.1, r, C)) else none
      | none => none) else none
  | _ => none
/-- which number of the script behind unknown 1's place -/
def scrW (f : Fm) : Option Nat := if f.2 = [(1, 1)] ∧ 0 ≤ f.1 ∧ f.1 < 6 then some f.1.toNat else none
/-- the script's numbers -/
def ascr (P : aP) (S : aS) : Option aS := match S.2.1 with
  | i :: v :: r => if i.1 = 0 ∧ v.1 = 2 ∧ fone S.2.2 v.2 = some 700 ∧ P.2.2.2 = true ∧ 0 ≤ (iv (eC S.2.2) i.2).1 ∧ leP S.2.2 (fsub (fadd i.2 (fcon 1)) (fid 0)) = true then (match scrW i.2 with
      | some j => some (S.1, (0, fid (2 + j)) :: r, S.2.2)
      | none => ares 0 S.1 r S.2.2 (.inr r32)) else none
  | _ => none
def alen (P : aP) (S : aS) : Option aS := match S.2.1 with
  | v :: r => if v.1 = 2 then (match fone S.2.2 v.2 with
      | some a => if a = 700 then (if P.2.2.2 = true then some (S.1, (0, fid 0) :: r, S.2.2) else none) else if 0 ≤ a ∧ a.toNat < nC S.2.2 ∧ (sh a.toNat).1 < 10 then some (S.1, (0, fcon (sh a.toNat).2) :: r, S.2.2) else none
      | none => none) else none
  | [] => none
def ado2 (i : Instr) (c : Nat × Nat × Nat × (Int → Int → Option Int)) (S : aS) : Option aS := match S.2.1 with
  | y :: x :: r => if x.1 = c.1 ∧ y.1 = c.2.1 then (match aop2 (eC S.2.2) i x.2 y.2 with
      | some a => ares c.2.2.1 S.1 r S.2.2 a
      | none => if isDiv i = true ∧ nzB S.2.2 y.2 = true then ares c.2.2.1 S.1 r S.2.2 (.inr (if c.2.2.1 = 0 then r32 else r64)) else none) else none
  | _ => none
def ado1 (i : Instr) (c : Nat × Nat × (Int → Option Int)) (S : aS) : Option aS := match S.2.1 with
  | x :: r => if x.1 = c.1 then (match aop1 (eC S.2.2) i x.2 with
      | some a => ares c.2.1 S.1 r S.2.2 a
      | none => none) else none
  | [] => none
def astep (P : aP) (k : Nat) (t : Tok) (S : aS) : Option aS := match t.1 with
  | .iconst c => apc 0 (w32 c) S
  | .bipush c => apc 0 (Int.bmod c 256) S
  | .sipush c => apc 0 (Int.bmod c 65536) S
  | .lconst c => apc 1 ((c : Nat) : Int) S
  | .ldc _ => if t.2.2.1 < 1000 then apc 0 (w32 (kI.getD t.2.2.1 0)) S else apc 2 ((t.2.2.1 : Int) - 488) S
  | .ldc_w _ => apc 0 (w32 (kI.getD t.2.2.1 0)) S
  | .ldc2_w _ => apc 1 (w64 (kI.getD t.2.2.1 0)) S
  | .aconst_null => apc 2 (-1) S
  | .iload j => ald 0 j S
  | .iload_n j => ald 0 j S
  | .lload j => ald 1 j S
  | .lload_n j => ald 1 j S
  | .aload j => ald 2 j S
  | .aload_n j => ald 2 j S
  | .istore j => ast 0 j (mml k) S
  | .istore_n j => ast 0 j (mml k) S
  | .lstore j => ast 1 j (mml k) S
  | .lstore_n j => ast 1 j (mml k) S
  | .astore j => ast 2 j (mml k) S
  | .astore_n j => ast 2 j (mml k) S
  | .iinc j c => ainc j c (mml k) S
  | .pop => match S.2.1 with
    | v :: r => if v.1 = 1 then none else some (S.1, r, S.2.2)
    | [] => none
  | .dup => match S.2.1 with
    | v :: r => if v.1 = 1 then none else some (S.1, v :: v :: r, S.2.2)
    | [] => none
  | .dup_x1 => match S.2.1 with
    | v :: w :: r => if v.1 = 1 ∨ w.1 = 1 then none else some (S.1, v :: w :: v :: r, S.2.2)
    | _ => none
  | .dup_x2 => match S.2.1 with
    | v :: w :: z :: r => if v.1 = 1 ∨ w.1 = 1 ∨ z.1 = 1 then none else some (S.1, v :: w :: z :: v :: r, S.2.2)
    | _ => none
  | .dup2 => match S.2.1 with
    | v :: w :: r => if v.1 = 1 ∨ w.1 = 1 then none else some (S.1, v :: w :: v :: w :: r, S.2.2)
    | _ => none
  | .getfield _ => agetf P t.2.2.1 S
  | .putfield _ => aputf P k t.2.2.1 S
  | .iaload => match aaldI P 0 0 S with
    | some S' => some S'
    | none => ascr P S
  | .laload => aaldI P 1 1 S
  | .aaload => if t.2.2.1 = 0 then aaldI P 2 2 S else aaldI P 3 2 S
  | .iastore => aastI P 0 0 S
  | .lastore => aastI P 1 1 S
  | .arraylength => alen P S
  | i => match cop2 i with
    | some c => ado2 i c S
    | none => match cop1 i with
      | some c => ado1 i c S
      | none => none
