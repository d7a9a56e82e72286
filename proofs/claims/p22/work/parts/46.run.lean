/-! THE WALK -/
/-- a caller waiting: method, place, locals, stack, cells at its entry and end, instructions -/
abbrev aF : Type := Nat × Nat × aL × List AV × Nat × Nat × List Tok
/-- what a walk is checked with: ranges, writes, script, contracts, heads (place, state, measure), how many unknowns are the entry's, what it may leave, cells made by a method, the present measure, where to part -/
abbrev aX : Type := aG × aW × Bool × List aCt × List (Nat × aS × Fm) × Nat × List aPost × (Nat → Nat) × Option Fm × (Nat → Nat → aS → Option (Fm × List Int))
abbrev xP (X : aX) : aP := PofW X.1 X.2.1 X.2.2.1
abbrev xC (X : aX) : List aCt := X.2.2.2.1
abbrev xH (X : aX) : List (Nat × aS × Fm) := X.2.2.2.2.1
abbrev xM (X : aX) : Nat := X.2.2.2.2.2.1
abbrev xO (X : aX) : List aPost := X.2.2.2.2.2.2.1
abbrev xN (X : aX) : Nat → Nat := X.2.2.2.2.2.2.2.1
abbrev xU (X : aX) : Option Fm := X.2.2.2.2.2.2.2.2.1
abbrev xS (X : aX) : Nat → Nat → aS → Option (Fm × List Int) := X.2.2.2.2.2.2.2.2.2
/-- the known facts put to use once more -/
def rfs (C : aC) : List Fm → Option aC
  | [] => some C
  | d :: r => if 0 < (iv (eC C) d).1 then none else rfs (rle (eC C) d d.2 (eC C), C.2) r
theorem rfs_ok {P : aP} {L : bC} {h0 h : bH} {ρ : Nat → Int} : ∀ {fs : List Fm} {C : aC}, core P L h0 ρ h C → (∀ d ∈ fs, d ∈ fC C) → ∃ C', rfs C fs = some C' ∧ asC P L h0 ρ h C C'
  | [], C, q, _ => ⟨C, rfl, asC.refl q⟩
  | d :: r, C, q, hm => by
    have hd := q.2.1 d (hm d List.mem_cons_self)
    have hi := iv_ok q.1 hd.1
    have hr := rle_ok q.1 hd.1 hd.2 (ts := d.2) (env := eC C) (fun t ht => ht) q.1
    have q2 := core_env q hr.1 hr.2
    obtain ⟨C', h1, h2⟩ := rfs_ok (fs := r) q2 (fun x hx => hm x (List.mem_cons_of_mem _ hx))
    refine ⟨C', ?_, (show asC P L h0 ρ h C _ from ⟨q2, hr.2, rfl⟩).trans h2⟩
    unfold rfs
    rw [if_neg (by omega)]
    exact h1
/-- two facts that don't go together -/
def pairX (C : aC) : Bool := (fC C).any fun d => (fC C).any fun f => decide (0 < (iv (eC C) (fadd d f)).1)
theorem pairX_ok {P : aP} {L : bC} {h0 h : bH} {ρ : Nat → Int} {C : aC} (q : core P L h0 ρ h C) : ¬ pairX C = true := by
  intro hp
  unfold pairX at hp
  obtain ⟨d, hd, hp⟩ := List.any_eq_true.mp hp
  obtain ⟨f, hf, hp⟩ := List.any_eq_true.mp hp
  have h1 := q.2.1 d hd
  have h2 := q.2.1 f hf
  have h3 := iv_ok q.1 (wf_add h1.1 h2.1)
  rw [fadd_ev] at h3
  have h4 := of_decide_eq_true hp
  omega
def rfsP (C : aC) : Option aC := if pairX C = true then none else rfs C (fC C)
def narF (C : aC) (d : Fm) : Option aC := match nar C d with
  | some C' => rfs C' (fC C')
  | none => none
theorem narF_ok {P : aP} {L : bC} {h0 h : bH} {ρ : Nat → Int} {C : aC} {d : Fm} (q : core P L h0 ρ h C) (hw : wfF (eC C).length d) (hd : ev ρ d ≤ 0) : ∃ C', narF C d = some C' ∧ asC P L h0 ρ h C C' := by
  obtain ⟨C1, h1, h2⟩ := nar_ok q hw hd
  obtain ⟨C2, g1, g2⟩ := rfs_ok (fs := fC C1) h2.1 (fun _ h => h)
  refine ⟨C2, ?_, h2.trans g2⟩
  unfold narF
  rw [h1]
  exact g1
def asplit (pc : Nat) (lv : aL) (st : List AV) (f : Fm) : aC → List Int → aB
  | C, [] => side pc lv st (rfsP C)
  | C, c :: cs => side pc lv st (narF C (fplus f (-c))) ++ (match narF C (fplus (fneg f) (c + 1)) with
    | some C' => asplit pc lv st f C' cs
    | none => [])
theorem asplit_ok {P : aP} {L : bC} {h0 h : bH} {ρ : Nat → Int} {pc : Nat} {lv : aL} {st : List AV} {f : Fm} : ∀ {cs : List Int} {C : aC}, core P L h0 ρ h C → wfF (eC C).length f → ∃ C', (pc, lv, st, C') ∈ asplit pc lv st f C cs ∧ asC P L h0 ρ h C C'
  | [], C, q, _ => by
    obtain ⟨C', h1, h2⟩ := rfs_ok (fs := fC C) q (fun _ h => h)
    refine ⟨C', ?_, h2⟩
    unfold asplit rfsP
    rw [if_neg (pairX_ok q), h1]
    exact List.mem_cons_self
  | c :: cs, C, q, hw => by
    unfold asplit
    by_cases e : ev ρ f ≤ c
    · obtain ⟨C', h1, h2⟩ := narF_ok (d := fplus f (-c)) q (wf_plus hw) (by rw [fplus_ev]; omega)
      refine ⟨C', List.mem_append_left _ ?_, h2⟩
      rw [h1]
      exact List.mem_cons_self
    · obtain ⟨C', h1, h2⟩ := narF_ok (d := fplus (fneg f) (c + 1)) q (wf_plus (wf_neg hw)) (by rw [fplus_ev, fneg_ev]; omega)
      obtain ⟨C2, g1, g2⟩ := asplit_ok (cs := cs) h2.1 (by rw [h2.2.1]; exact hw)
      refine ⟨C2, List.mem_append_right _ ?_, h2.trans g2⟩
      rw [h1]
      exact g1
def hsB (X : aX) (T : aC) : Bool := !X.2.2.1 || (decide (8 ≤ xM X) && decide (xM X ≤ (eC T).length))
/-- known numbers among the locals agree, unknowns' ranges hold -/
def qk (S T : aS) : Bool := T.1.all fun q => match q.2.2.2, S.1.lookup q.1 with
  | [], some v => (match v.2.2 with
    | [] => decide (v.2.1 = q.2.2.1)
    | _ => true)
  | [t], some v => if q.2.2.1 = 0 ∧ t.2 = 1 then isIn ((eC T.2.2).getD t.1 (0, 0)).1 ((eC T.2.2).getD t.1 (0, 0)).2 (iv (eC S.2.2) v.2) else if 1 < t.2 then decide ((v.2.1 - q.2.2.1) % t.2 = 0) else true
  | _, _ => true
/-- arrival at a head -/
def headB (X : aX) (pc : Nat) (S : aS) : Bool := (xH X).any fun H =>
  let C1 := atouch (xP X) S.2.2 ((cC H.2.1.2.2).map (·.1))
  let σ := infer (xM X) (S.1, S.2.1, C1) H.2.1
  H.1 == pc && (qk S H.2.1 && (amatch (xP X) (xM X) σ (S.1, S.2.1, C1) H.2.1 && (wfB (eC H.2.1.2.2).length H.2.2 && (decide (0 ≤ (iv (eC H.2.1.2.2) H.2.2).1) && (hsB X H.2.1.2.2 && (match xU X with
    | none => true
    | some u => leP2 C1 (fplus (fsub (sbF σ H.2.2) u) 1)))))))
/-- what it leaves is as told -/
def postB (X : aX) (C : aC) (rv : Option AV) : Bool := (xO X).any fun p =>
  let C1 := atouch (xP X) C ((cC p.1).map (·.1))
  let σ := infer (xM X) ([], rv.toList, C1) ([], p.2.toList, p.1)
  amatch (xP X) (xM X) σ ([], rv.toList, C1) ([], p.2.toList, p.1) && hsB X p.1
abbrev aR : Type := Nat → List aF → Nat → Nat → Nat → Nat → Nat → List Tok → aS → Bool
def ajmp (R : aR) (d : Nat) (fr : List aF) (k n0 n1 : Nat) (q : Nat × aS) : Bool := match tkF q.1 0 (tk k) with
  | some ts => R d fr k n0 n1 0 q.1 ts q.2
  | none => false
def rRet (X : aX) (R : aR) (d : Nat) (fr : List aF) (k n1 : Nat) (t : Tok) (S : aS) (rv : Option AV) : Bool := abfit S.2.2 (mret k) rv && (t.2.1 == 1 && (nC S.2.2 == n1 && (match fr with
  | [] => postB X S.2.2 rv
  | q :: fs => R (d + 1) fs q.1 q.2.2.2.2.1 q.2.2.2.2.2.1 0 q.2.1 q.2.2.2.2.2.2 (q.2.2.1, rv.toList ++ q.2.2.2.1, S.2.2))))
def retF (c : aCt) (σ : List Fm) (C : aC) (p : aPost) : Option AV := p.2.map fun v => (v.1, sbF (tau σ (eC C).length ((eC p.1).length - (eC (ctC c)).length)) v.2)
def rCall (X : aX) (R : aR) (d : Nat) (fr : List aF) (k n0 n1 pc : Nat) (t : Tok) (r : List Tok) (S : aS) (as rest : List AV) : Bool := match d with
  | 0 => false
  | d' + 1 => match tryC X.1 X.2.1 X.2.2.1 t.2.2.1 d' S.2.2 as (xC X) with
    | some z => decide (nC S.2.2 ≤ ctN z.1 ∧ ctN z.1 ≤ n1) && (ctP z.1).all fun p => R (d' + 1) fr k n0 n1 0 (pc + 3) r (S.1, (retF z.1 z.2.1 z.2.2 p).toList ++ rest, aft z.1 z.2.1 z.2.2 p)
    | none => decide (nC S.2.2 + xN X t.2.2.1 ≤ n1 ∧ astw as ≤ mml t.2.2.1) && R d' ((k, pc + 3, S.1, rest, n0, n1, r) :: fr) t.2.2.1 (nC S.2.2) (nC S.2.2 + xN X t.2.2.1) 0 0 (tk t.2.2.1) (aargs 0 as, [], S.2.2)
def isCmp : Instr → Bool
  | .lcmp => true
  | _ => false
def wAll (w : aW) : Bool := match w with
  | none => true
  | some _ => false
/-- instructions that go straight on and call nothing -/
def isPl : Instr → Bool
  | .iload_n _ => true
  | .aload_n _ => true
  | .lload_n _ => true
  | .iload _ => true
  | .aload _ => true
  | .lload _ => true
  | .istore_n _ => true
  | .istore _ => true
  | .astore_n _ => true
  | .astore _ => true
  | .lstore_n _ => true
  | .lstore _ => true
  | .iconst _ => true
  | .bipush _ => true
  | .sipush _ => true
  | .lconst _ => true
  | .getfield _ => true
  | .putfield _ => true
  | .iaload => true
  | .iastore => true
  | .iadd => true
  | .imul => true
  | .iinc _ _ => true
  | .dup => true
  | .pop => true
  | .i2l => true
  | .ladd => true
  | .arraylength => true
  | _ => false
/-- the places of heads, each once -/
def hpl : List (Nat × aS × Fm) → List Nat
  | [] => []
  | H :: r => match hpl r with
    | [] => [H.1]
    | q :: qs => if q = H.1 then q :: qs else H.1 :: q :: qs
def rIns (X : aX) (R : aR) (d : Nat) (fr : List aF) (k n0 n1 pc : Nat) (t : Tok) (r : List Tok) (S : aS) : Bool := if isPl t.1 = true then (match astep (xP X) k t S with
  | some S' => t.2.1 == ilen t.1 && R d fr k n0 n1 0 (pc + t.2.1) r S'
  | none => false) else match aret t S.2.1 with
  | some rv => rRet X R d fr k n1 t S rv
  | none => match abr t pc S with
    | some Ls => Ls.all (ajmp R d fr k n0 n1)
    | none => if isCmp t.1 = true then (match r with
        | t2 :: _ => (match acmp t2 pc S with
          | some Ls => t.2.1 == 1 && Ls.all (ajmp R d fr k n0 n1)
          | none => false)
        | [] => false) else match acut t S.2.2 S.2.1 with
      | some q => t.2.1 == 3 && rCall X R d fr k n0 n1 pc t r S q.1 q.2
      | none => match (if wAll X.2.1 = true then amk (xP X) t S else none) with
        | some S' => t.2.1 == ilen t.1 && (decide (nC S'.2.2 ≤ n1) && R d fr k n0 n1 0 (pc + t.2.1) r S')
        | none => match aspc (xP X) d t S with
          | some S' => decide (nC S.2.2 ≤ n1) && R d fr k n0 n1 0 (pc + t.2.1) r S'
          | none => match r with
            | [] => false
            | t2 :: r2 => match adsb t t2 S with
              | some S' => (t.2.1 == 1 && t2.2.1 == 1) && R d fr k n0 n1 0 (pc + 2) r2 S'
              | none => match amd k t S with
                | some S' => t.2.1 == 1 && R d fr k n0 n1 0 (pc + 1) (t2 :: r2) S'
                | none => match abit k t S with
                  | some S' => t.2.1 == 1 && R d fr k n0 n1 0 (pc + 1) (t2 :: r2) S'
                  | none => match astep (xP X) k t S with
                    | some S' => t.2.1 == ilen t.1 && R d fr k n0 n1 0 (pc + t.2.1) (t2 :: r2) S'
                    | none => false
def aspl (X : aX) (k pc : Nat) (S : aS) : Option aB := match xS X k pc S with
  | some z => if wfB (eC S.2.2).length z.1 = true then some (asplit pc S.1 S.2.1 z.1 S.2.2 z.2) else none
  | none => none
def rTop (X : aX) (R : aR) (d : Nat) (fr : List aF) (k n0 n1 ph pc : Nat) (ts : List Tok) (S : aS) : Bool := if ph = 0 ∧ fr.isEmpty = true ∧ ((hpl (xH X)).any fun q => q == pc) = true then headB X pc S else match (if ph ≤ 1 then aspl X k pc S else none) with
  | some Ls => Ls.all fun q => R d fr k n0 n1 2 pc ts q.2
  | none => match ts with
    | [] => false
    | t :: r => rIns X R d fr k n0 n1 pc t r S
def arun (X : aX) : Nat → aR
  | 0 => fun _ _ _ _ _ _ _ _ _ => false
  | f + 1 => rTop X (arun X f)
/-- what a caller waits for -/
def fQ (g : bG) (l : Launch) (ρ : Nat → Int) (Q0 : bQ) : Nat → Nat → List aF → bQ
  | _, _, [] => Q0
  | d, nn, q :: fs => fun r h' => WP g l (d + 1) q.1 q.2.2.2.2.1 q.2.2.2.2.2.1 (fQ g l ρ Q0 (d + 1) q.2.2.2.2.2.1 fs) (q.2.1, evL ρ q.2.2.1, r.toList ++ evS ρ q.2.2.2.1, nn, h')
def wfFr (m : Nat) (fr : List aF) : Prop := ∀ q ∈ fr, wfL m q.2.2.1 ∧ wfS m q.2.2.2.1 ∧ okL q.1 q.2.1 q.2.2.2.2.2.2 = true
theorem wfFr_mono {m m' : Nat} {fr : List aF} (h : wfFr m fr) (hm : m ≤ m') : wfFr m' fr := fun q hq => ⟨wfL_mono (h q hq).1 hm, wfS_mono (h q hq).2.1 hm, (h q hq).2.2⟩
theorem fQ_same {g : bG} {l : Launch} {ρ ρ' : Nat → Int} {Q0 : bQ} {m : Nat} (hx : ext m ρ ρ') : ∀ {fr : List aF} {d nn : Nat}, wfFr m fr → fQ g l ρ' Q0 d nn fr = fQ g l ρ Q0 d nn fr
  | [], _, _, _ => rfl
  | q :: fs, d, nn, h => by
    have h1 := h q List.mem_cons_self
    unfold fQ
    rw [evL_same hx h1.1, evS_same hx h1.2.1, fQ_same hx (fun z hz => h z (List.mem_cons_of_mem _ hz))]
def bot (d0 k0 N0 N1 : Nat) : Nat → Nat → Nat → Nat → List aF → Prop
  | d, k, n0, n1, [] => d = d0 ∧ k = k0 ∧ n0 = N0 ∧ n1 = N1
  | d, _, _, _, q :: fs => bot d0 k0 N0 N1 (d + 1) q.1 q.2.2.2.2.1 q.2.2.2.2.2.1 fs
