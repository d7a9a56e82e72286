/-! WALKS BY HAND: a row an instruction, all cells made -/
section HD
variable {g : bG} {l : Launch} {d k n0 : Nat} {Q : bQ}
abbrev HW (g : bG) (l : Launch) (d k n0 : Nat) (Q : bQ) (pc : Nat) (lv : bL) (st : List bV) (h : bH) : Prop := WP g l d k n0 212 Q (pc, lv, st, 212, h)
variable {ts : List Tok} {pc pc' a b : Nat} {lv lv' : bL} {st st' : List bV} {h h' : bH} {x y z : Int}
theorem w_pl {t : Tok} (o : okL k pc (t :: ts) = true) (hs : cst (gsc g) k t (pc, lv, st, 212, h) = some (pc', lv', st', 212, h')) (hk : HW g l d k n0 Q pc' lv' st' h') : HW g l d k n0 Q pc lv st h := by
  obtain ⟨h1, h2, h3⟩ := okL_c o
  exact wp_step h1 h2 hs rfl hk
def bP (c : Jvm.ClassFile.Cond) (x y : Int) : Prop := match c with
  | .eq => x = y
  | .ne => x ≠ y
  | .lt => x < y
  | .ge => y ≤ x
  | .gt => y < x
  | .le => x ≤ y
theorem bP_c {c : Jvm.ClassFile.Cond} : bcond c x y = true ↔ bP c x y := by
  cases c <;> simp [bcond, bP]
theorem w_icmp {c : Jvm.ClassFile.Cond} {off : Int} {pt pf : Nat} (o : okL k pc ((.if_icmp c off, 3, a, b) :: ts) = true) (ht : (pc : Int) + off = (pt : Int)) (hf : pc + 3 = pf) (h1 : bP c x y → HW g l d k n0 Q pt lv st h) (h2 : ¬ bP c x y → HW g l d k n0 Q pf lv st h) : HW g l d k n0 Q pc lv ((0, y) :: (0, x) :: st) h := by
  have hs : cst (gsc g) k (.if_icmp c off, 3, a, b) (pc, lv, (0, y) :: (0, x) :: st, 212, h) = some (if bcond c x y = true then pt else pf, lv, st, 212, h) := by
    show (if (0 : Nat) = 0 ∧ (0 : Nat) = 0 ∧ 0 ≤ (pc : Int) + off then some (if bcond c x y = true then ((pc : Int) + off).toNat else pc + 3, lv, st, 212, h) else none) = _
    rw [if_pos ⟨rfl, rfl, by rw [ht]; exact Int.natCast_nonneg pt⟩, ht, Int.toNat_natCast, hf]
  by_cases e : bcond c x y = true
  · rw [if_pos e] at hs
    exact w_pl o hs (h1 (bP_c.mp e))
  · rw [if_neg e] at hs
    exact w_pl o hs (h2 (fun q => e (bP_c.mpr q)))
theorem w_ifc {c : Jvm.ClassFile.Cond} {off : Int} {pt pf : Nat} (o : okL k pc ((.ifCond c off, 3, a, b) :: ts) = true) (ht : (pc : Int) + off = (pt : Int)) (hf : pc + 3 = pf) (h1 : bP c x 0 → HW g l d k n0 Q pt lv st h) (h2 : ¬ bP c x 0 → HW g l d k n0 Q pf lv st h) : HW g l d k n0 Q pc lv ((0, x) :: st) h := by
  have hs : cst (gsc g) k (.ifCond c off, 3, a, b) (pc, lv, (0, x) :: st, 212, h) = some (if bcond c x 0 = true then pt else pf, lv, st, 212, h) := by
    show (if (0 : Nat) = 0 ∧ 0 ≤ (pc : Int) + off then some (if bcond c x 0 = true then ((pc : Int) + off).toNat else pc + 3, lv, st, 212, h) else none) = _
    rw [if_pos ⟨rfl, by rw [ht]; exact Int.natCast_nonneg pt⟩, ht, Int.toNat_natCast, hf]
  by_cases e : bcond c x 0 = true
  · rw [if_pos e] at hs
    exact w_pl o hs (h1 (bP_c.mp e))
  · rw [if_neg e] at hs
    exact w_pl o hs (h2 (fun q => e (bP_c.mpr q)))
theorem w_goto {off : Int} {pt : Nat} (o : okL k pc ((.goto off, 3, a, b) :: ts) = true) (ht : (pc : Int) + off = (pt : Int)) (hk : HW g l d k n0 Q pt lv st h) : HW g l d k n0 Q pc lv st h := by
  refine w_pl o (lv' := lv) (st' := st) (h' := h) (pc' := pt) ?_ hk
  show (if 0 ≤ (pc : Int) + off then some (((pc : Int) + off).toNat, lv, st, 212, h) else none) = _
  rw [if_pos (by rw [ht]; exact Int.natCast_nonneg pt), ht, Int.toNat_natCast]
theorem bobj_nat {aux A : Nat} (hA : A < 212) (h1 : (sh A).1 = 10 + aux / 64) (h2 : aux % 64 < (sh A).2) : bobj aux 212 (A : Int) = true := by
  unfold bobj
  rw [Int.toNat_natCast, h1]
  simp [hA, h2]
def gfB (aux A t : Nat) : Bool := decide (A < 212) && (decide ((sh A).1 = 10 + aux / 64) && (decide (aux % 64 < (sh A).2) && decide (kOf (fkd (aux / 64) (aux % 64)) = t)))
theorem gfB_x {aux A t : Nat} (h : gfB aux A t = true) : bobj aux 212 (A : Int) = true ∧ kOf (fkd (aux / 64) (aux % 64)) = t := by
  unfold gfB at h
  simp only [Bool.and_eq_true, decide_eq_true_eq] at h
  exact ⟨bobj_nat h.1 h.2.1 h.2.2.1, h.2.2.2⟩
theorem w_getf {i aux A t : Nat} (o : okL k pc ((.getfield i, 3, aux, b) :: ts) = true) (hp : pc + 3 = pc') (hb : gfB aux A t = true) (hv : h A (aux % 64) = z) (hk : HW g l d k n0 Q pc' lv ((t, z) :: st) h) : HW g l d k n0 Q pc lv ((2, (A : Int)) :: st) h := by
  obtain ⟨h1, h2⟩ := gfB_x hb
  refine w_pl o (lv' := lv) (st' := (t, z) :: st) (h' := h) (pc' := pc') ?_ hk
  show (if (2 : Nat) = 2 ∧ bobj aux 212 (A : Int) = true then some (pc + 3, lv, (kOf (fkd (aux / 64) (aux % 64)), h (A : Int).toNat (aux % 64)) :: st, 212, h) else none) = _
  rw [if_pos ⟨rfl, h1⟩, h2, Int.toNat_natCast, hv, hp]
def pfB (aux A t : Nat) : Bool := gfB aux A t && (!(bfin (aux / 64) (aux % 64)) && !(fkd (aux / 64) (aux % 64) == 3))
theorem w_putf {i aux A t : Nat} (o : okL k pc ((.putfield i, 3, aux, b) :: ts) = true) (hp : pc + 3 = pc') (hb : pfB aux A t = true) (hk : HW g l d k n0 Q pc' lv st (hup h A (aux % 64) x)) : HW g l d k n0 Q pc lv ((t, x) :: (2, (A : Int)) :: st) h := by
  unfold pfB at hb
  simp only [Bool.and_eq_true, Bool.not_eq_true', beq_eq_false_iff_ne] at hb
  obtain ⟨h1, h2⟩ := gfB_x hb.1
  refine w_pl o (lv' := lv) (st' := st) (h' := hup h A (aux % 64) x) (pc' := pc') ?_ hk
  show (if (2 : Nat) = 2 ∧ bobj aux 212 (A : Int) = true ∧ t = kOf (fkd (aux / 64) (aux % 64)) ∧ (fkd (aux / 64) (aux % 64) = 3 → 0 ≤ x ∧ x ≤ 1) ∧ (bfin (aux / 64) (aux % 64) = true → (mname k).name = "<init>") then some (pc + 3, lv, st, 212, hup h (A : Int).toNat (aux % 64) x) else none) = _
  rw [if_pos ⟨rfl, h1, h2.symm, fun e => absurd e hb.2.2, fun e => by rw [hb.2.1] at e; cases e⟩, Int.toNat_natCast, hp]
def pzB (aux A : Nat) : Bool := gfB aux A 0 && !(bfin (aux / 64) (aux % 64))
theorem w_putz {i aux A : Nat} (o : okL k pc ((.putfield i, 3, aux, b) :: ts) = true) (hp : pc + 3 = pc') (hb : pzB aux A = true) (hx : 0 ≤ x ∧ x ≤ 1) (hk : HW g l d k n0 Q pc' lv st (hup h A (aux % 64) x)) : HW g l d k n0 Q pc lv ((0, x) :: (2, (A : Int)) :: st) h := by
  unfold pzB at hb
  simp only [Bool.and_eq_true, Bool.not_eq_true'] at hb
  obtain ⟨h1, h2⟩ := gfB_x hb.1
  refine w_pl o (lv' := lv) (st' := st) (h' := hup h A (aux % 64) x) (pc' := pc') ?_ hk
  show (if (2 : Nat) = 2 ∧ bobj aux 212 (A : Int) = true ∧ 0 = kOf (fkd (aux / 64) (aux % 64)) ∧ (fkd (aux / 64) (aux % 64) = 3 → 0 ≤ x ∧ x ≤ 1) ∧ (bfin (aux / 64) (aux % 64) = true → (mname k).name = "<init>") then some (pc + 3, lv, st, 212, hup h (A : Int).toNat (aux % 64) x) else none) = _
  rw [if_pos ⟨rfl, h1, h2.symm, fun _ => hx, fun e => by rw [hb.2] at e; cases e⟩, Int.toNat_natCast, hp]
theorem barr_nat {kd A i n : Nat} (hA : A < 212) (hs : sh A = (kd, n)) (hi : i < n) : barr kd 212 (A : Int) (i : Int) = true := by
  unfold barr
  rw [Int.toNat_natCast, Int.toNat_natCast, hs]
  simp [hA, hi]
def arB (kd A n : Nat) : Bool := decide (A < 212) && decide (sh A = (kd, n))
theorem arB_x {kd A n : Nat} (h : arB kd A n = true) : A < 212 ∧ sh A = (kd, n) := by
  unfold arB at h
  simpa using h
theorem w_iald {A i n : Nat} (o : okL k pc ((.iaload, 1, a, b) :: ts) = true) (hp : pc + 1 = pc') (hb : arB 0 A n = true) (hi : i < n) (hv : h A i = z) (hk : HW g l d k n0 Q pc' lv ((0, z) :: st) h) : HW g l d k n0 Q pc lv ((0, (i : Int)) :: (2, (A : Int)) :: st) h := by
  obtain ⟨h1, h2⟩ := arB_x hb
  refine w_pl o (lv' := lv) (st' := (0, z) :: st) (h' := h) (pc' := pc') ?_ hk
  show (if (0 : Nat) = 0 ∧ (2 : Nat) = 2 ∧ (A : Int) = 700 ∧ 0 ≤ (i : Int) ∧ (i : Int).toNat < (gsc g).1 then some (pc + 1, lv, (0, ((gsc g).2 (i : Int).toNat).toInt) :: st, 212, h) else (if (0 : Nat) = 0 ∧ (2 : Nat) = 2 ∧ barr 0 212 (A : Int) (i : Int) = true then some (pc + 1, lv, (0, h (A : Int).toNat (i : Int).toNat) :: st, 212, h) else none)) = _
  rw [if_neg (fun e => by have := e.2.2.1; omega), if_pos ⟨rfl, rfl, barr_nat h1 h2 hi⟩, Int.toNat_natCast, Int.toNat_natCast, hv, hp]
theorem w_iast {A i n : Nat} (o : okL k pc ((.iastore, 1, a, b) :: ts) = true) (hp : pc + 1 = pc') (hb : arB 0 A n = true) (hi : i < n) (hk : HW g l d k n0 Q pc' lv st (hup h A i x)) : HW g l d k n0 Q pc lv ((0, x) :: (0, (i : Int)) :: (2, (A : Int)) :: st) h := by
  obtain ⟨h1, h2⟩ := arB_x hb
  refine w_pl o (lv' := lv) (st' := st) (h' := hup h A i x) (pc' := pc') ?_ hk
  show (if (0 : Nat) = 0 ∧ (0 : Nat) = 0 ∧ (2 : Nat) = 2 ∧ barr 0 212 (A : Int) (i : Int) = true then some (pc + 1, lv, st, 212, hup h (A : Int).toNat (i : Int).toNat x) else none) = _
  rw [if_pos ⟨rfl, rfl, rfl, barr_nat h1 h2 hi⟩, Int.toNat_natCast, Int.toNat_natCast, hp]
/-- the script's number -/
theorem w_scr {i : Nat} (o : okL k pc ((.iaload, 1, a, b) :: ts) = true) (hp : pc + 1 = pc') (hi : i < (gsc g).1) (hv : ((gsc g).2 i).toInt = z) (hk : HW g l d k n0 Q pc' lv ((0, z) :: st) h) : HW g l d k n0 Q pc lv ((0, (i : Int)) :: (2, 700) :: st) h := by
  refine w_pl o (lv' := lv) (st' := (0, z) :: st) (h' := h) (pc' := pc') ?_ hk
  show (if (0 : Nat) = 0 ∧ (2 : Nat) = 2 ∧ (700 : Int) = 700 ∧ 0 ≤ (i : Int) ∧ (i : Int).toNat < (gsc g).1 then some (pc + 1, lv, (0, ((gsc g).2 (i : Int).toNat).toInt) :: st, 212, h) else _) = _
  rw [Int.toNat_natCast, if_pos ⟨rfl, rfl, rfl, Int.natCast_nonneg i, hi⟩, hv, hp]
theorem w_iadd (o : okL k pc ((.iadd, 1, a, b) :: ts) = true) (hp : pc + 1 = pc') (hz : w32 (x + y) = z) (hk : HW g l d k n0 Q pc' lv ((0, z) :: st) h) : HW g l d k n0 Q pc lv ((0, y) :: (0, x) :: st) h := w_pl o (by subst hp hz; rfl) hk
theorem w_isub (o : okL k pc ((.isub, 1, a, b) :: ts) = true) (hp : pc + 1 = pc') (hz : w32 (x - y) = z) (hk : HW g l d k n0 Q pc' lv ((0, z) :: st) h) : HW g l d k n0 Q pc lv ((0, y) :: (0, x) :: st) h := w_pl o (by subst hp hz; rfl) hk
theorem w_imul (o : okL k pc ((.imul, 1, a, b) :: ts) = true) (hp : pc + 1 = pc') (hz : w32 (x * y) = z) (hk : HW g l d k n0 Q pc' lv ((0, z) :: st) h) : HW g l d k n0 Q pc lv ((0, y) :: (0, x) :: st) h := w_pl o (by subst hp hz; rfl) hk
theorem w_idiv (o : okL k pc ((.idiv, 1, a, b) :: ts) = true) (hp : pc + 1 = pc') (hz : divI x y = some z) (hk : HW g l d k n0 Q pc' lv ((0, z) :: st) h) : HW g l d k n0 Q pc lv ((0, y) :: (0, x) :: st) h := w_pl o (by
  subst hp
  show (divI x y).map (fun z => (pc + 1, lv, (0, z) :: st, 212, h)) = _
  rw [hz]
  rfl) hk
theorem w_irem (o : okL k pc ((.irem, 1, a, b) :: ts) = true) (hp : pc + 1 = pc') (hz : remI x y = some z) (hk : HW g l d k n0 Q pc' lv ((0, z) :: st) h) : HW g l d k n0 Q pc lv ((0, y) :: (0, x) :: st) h := w_pl o (by
  subst hp
  show (remI x y).map (fun z => (pc + 1, lv, (0, z) :: st, 212, h)) = _
  rw [hz]
  rfl) hk
theorem w_iand (o : okL k pc ((.iand, 1, a, b) :: ts) = true) (hp : pc + 1 = pc') (hz : andI x y = z) (hk : HW g l d k n0 Q pc' lv ((0, z) :: st) h) : HW g l d k n0 Q pc lv ((0, y) :: (0, x) :: st) h := w_pl o (by subst hp hz; rfl) hk
theorem w_ior (o : okL k pc ((.ior, 1, a, b) :: ts) = true) (hp : pc + 1 = pc') (hz : orI x y = z) (hk : HW g l d k n0 Q pc' lv ((0, z) :: st) h) : HW g l d k n0 Q pc lv ((0, y) :: (0, x) :: st) h := w_pl o (by subst hp hz; rfl) hk
theorem w_ixor (o : okL k pc ((.ixor, 1, a, b) :: ts) = true) (hp : pc + 1 = pc') (hz : xorI x y = z) (hk : HW g l d k n0 Q pc' lv ((0, z) :: st) h) : HW g l d k n0 Q pc lv ((0, y) :: (0, x) :: st) h := w_pl o (by subst hp hz; rfl) hk
theorem w_ishl (o : okL k pc ((.ishl, 1, a, b) :: ts) = true) (hp : pc + 1 = pc') (hz : shlI x y = z) (hk : HW g l d k n0 Q pc' lv ((0, z) :: st) h) : HW g l d k n0 Q pc lv ((0, y) :: (0, x) :: st) h := w_pl o (by subst hp hz; rfl) hk
theorem w_ishr (o : okL k pc ((.ishr, 1, a, b) :: ts) = true) (hp : pc + 1 = pc') (hz : shrI x y = z) (hk : HW g l d k n0 Q pc' lv ((0, z) :: st) h) : HW g l d k n0 Q pc lv ((0, y) :: (0, x) :: st) h := w_pl o (by subst hp hz; rfl) hk
theorem w_iinc {j : Nat} {c : Int} {N : Nat} (o : okL k pc ((.iinc j c, 3, a, b) :: ts) = true) (hp : pc + 3 = pc') (hl : lv.lookup j = some (0, x)) (hm : mml k = N) (hj : j < N) (hz : w32 (x + c) = z) (hv : (j, (0, z)) :: bkeep 0 j lv = lv') (hk : HW g l d k n0 Q pc' lv' st h) : HW g l d k n0 Q pc lv st h := w_pl o (by
  subst hp hz hv hm
  show (match lv.lookup j with
    | some (t, x) => if t = 0 ∧ j < mml k then some (pc + 3, (j, (0, w32 (x + c))) :: bkeep 0 j lv, st, 212, h) else none
    | none => none) = _
  rw [hl]
  exact if_pos ⟨rfl, hj⟩) hk
/-- a store: of one word's width -/
theorem w_st {t : Tok} {tg j len N : Nat} (o : okL k pc (t :: ts) = true) (hc : cst (gsc g) k t (pc, lv, (tg, x) :: st, 212, h) = bst tg j len (mml k) (pc, lv, (tg, x) :: st, 212, h)) (hp : pc + len = pc') (hm : mml k = N) (hj : j + (if tg = 1 then 1 else 0) < N) (hv : (j, (tg, x)) :: bkeep tg j lv = lv') (hk : HW g l d k n0 Q pc' lv' st h) : HW g l d k n0 Q pc lv ((tg, x) :: st) h := w_pl o (by
  subst hp hv hm
  rw [hc]
  show (if tg = tg ∧ j + (if tg = 1 then 1 else 0) < mml k then some (pc + len, (j, (tg, x)) :: bkeep tg j lv, st, 212, h) else none) = _
  exact if_pos ⟨rfl, hj⟩) hk
theorem w_l2i (o : okL k pc ((.l2i, 1, a, b) :: ts) = true) (hp : pc + 1 = pc') (hz : w32 x = z) (hk : HW g l d k n0 Q pc' lv ((0, z) :: st) h) : HW g l d k n0 Q pc lv ((1, x) :: st) h := w_pl o (by subst hp hz; rfl) hk
theorem w_i2b (o : okL k pc ((.i2b, 1, a, b) :: ts) = true) (hp : pc + 1 = pc') (hz : Int.bmod x 256 = z) (hk : HW g l d k n0 Q pc' lv ((0, z) :: st) h) : HW g l d k n0 Q pc lv ((0, x) :: st) h := w_pl o (by subst hp hz; rfl) hk
theorem w_i2s (o : okL k pc ((.i2s, 1, a, b) :: ts) = true) (hp : pc + 1 = pc') (hz : Int.bmod x 65536 = z) (hk : HW g l d k n0 Q pc' lv ((0, z) :: st) h) : HW g l d k n0 Q pc lv ((0, x) :: st) h := w_pl o (by subst hp hz; rfl) hk
theorem w_null {off : Int} {A pt pf : Nat} (o : okL k pc ((.ifnull off, 3, a, b) :: ts) = true) (ht : (pc : Int) + off = (pt : Int)) (hf : pc + 3 = pf) (hk : HW g l d k n0 Q pf lv st h) : HW g l d k n0 Q pc lv ((2, (A : Int)) :: st) h := w_pl o (lv' := lv) (st' := st) (h' := h) (pc' := pf) (by
  show (if (2 : Nat) = 2 ∧ 0 ≤ (pc : Int) + off then some (if decide ((A : Int) < 0) = true then ((pc : Int) + off).toNat else pc + 3, lv, st, 212, h) else none) = _
  rw [if_pos ⟨rfl, by rw [ht]; exact Int.natCast_nonneg pt⟩, if_neg (by rw [decide_eq_true_eq]; omega), hf]) hk
theorem w_len {A n kd : Nat} (o : okL k pc ((.arraylength, 1, a, b) :: ts) = true) (hp : pc + 1 = pc') (hb : arB kd A n = true) (hkd : kd < 10) (hk : HW g l d k n0 Q pc' lv ((0, (n : Int)) :: st) h) : HW g l d k n0 Q pc lv ((2, (A : Int)) :: st) h := by
  obtain ⟨h1, h2⟩ := arB_x hb
  refine w_pl o (lv' := lv) (st' := (0, (n : Int)) :: st) (h' := h) (pc' := pc') ?_ hk
  show (if (2 : Nat) = 2 then (if (A : Int) = 700 then _ else if 0 ≤ (A : Int) ∧ (A : Int).toNat < 212 ∧ (sh (A : Int).toNat).1 < 10 then some (pc + 1, lv, (0, ((sh (A : Int).toNat).2 : Int)) :: st, 212, h) else none) else none) = _
  rw [if_pos rfl, if_neg (by omega), Int.toNat_natCast, h2, if_pos ⟨Int.natCast_nonneg A, h1, hkd⟩, hp]
/-- a reference out of an array of such -/
theorem w_aald {kd A i n B : Nat} (o : okL k pc ((.aaload, 1, a, b) :: ts) = true) (hp : pc + 1 = pc') (hkd : kd = if a = 0 then 2 else 3) (hb : arB kd A n = true) (hi : i < n) (hv : h A i = ((B : Nat) : Int)) (hk : HW g l d k n0 Q pc' lv ((2, ((B : Nat) : Int)) :: st) h) : HW g l d k n0 Q pc lv ((0, (i : Int)) :: (2, (A : Int)) :: st) h := by
  obtain ⟨h1, h2⟩ := arB_x hb
  refine w_pl o (lv' := lv) (st' := (2, ((B : Nat) : Int)) :: st) (h' := h) (pc' := pc') ?_ hk
  show (if a = 0 then (if (0 : Nat) = 0 ∧ (2 : Nat) = 2 ∧ barr 2 212 (A : Int) (i : Int) = true then some (pc + 1, lv, (2, h (A : Int).toNat (i : Int).toNat) :: st, 212, h) else none) else (if (0 : Nat) = 0 ∧ (2 : Nat) = 2 ∧ barr 3 212 (A : Int) (i : Int) = true then some (pc + 1, lv, (2, h (A : Int).toNat (i : Int).toNat) :: st, 212, h) else none)) = _
  by_cases e : a = 0
  · rw [if_pos e] at hkd ⊢
    subst hkd
    rw [if_pos ⟨rfl, rfl, barr_nat h1 h2 hi⟩, Int.toNat_natCast, Int.toNat_natCast, hv, hp]
  · rw [if_neg e] at hkd ⊢
    subst hkd
    rw [if_pos ⟨rfl, rfl, barr_nat h1 h2 hi⟩, Int.toNat_natCast, Int.toNat_natCast, hv, hp]
theorem w_lald {A i n : Nat} (o : okL k pc ((.laload, 1, a, b) :: ts) = true) (hp : pc + 1 = pc') (hb : arB 1 A n = true) (hi : i < n) (hv : h A i = z) (hk : HW g l d k n0 Q pc' lv ((1, z) :: st) h) : HW g l d k n0 Q pc lv ((0, (i : Int)) :: (2, (A : Int)) :: st) h := by
  obtain ⟨h1, h2⟩ := arB_x hb
  refine w_pl o (lv' := lv) (st' := (1, z) :: st) (h' := h) (pc' := pc') ?_ hk
  show (if (0 : Nat) = 0 ∧ (2 : Nat) = 2 ∧ barr 1 212 (A : Int) (i : Int) = true then some (pc + 1, lv, (1, h (A : Int).toNat (i : Int).toNat) :: st, 212, h) else none) = _
  rw [if_pos ⟨rfl, rfl, barr_nat h1 h2 hi⟩, Int.toNat_natCast, Int.toNat_natCast, hv, hp]
theorem w_last {A i n : Nat} (o : okL k pc ((.lastore, 1, a, b) :: ts) = true) (hp : pc + 1 = pc') (hb : arB 1 A n = true) (hi : i < n) (hk : HW g l d k n0 Q pc' lv st (hup h A i x)) : HW g l d k n0 Q pc lv ((1, x) :: (0, (i : Int)) :: (2, (A : Int)) :: st) h := by
  obtain ⟨h1, h2⟩ := arB_x hb
  refine w_pl o (lv' := lv) (st' := st) (h' := hup h A i x) (pc' := pc') ?_ hk
  show (if (1 : Nat) = 1 ∧ (0 : Nat) = 0 ∧ (2 : Nat) = 2 ∧ barr 1 212 (A : Int) (i : Int) = true then some (pc + 1, lv, st, 212, hup h (A : Int).toNat (i : Int).toNat x) else none) = _
  rw [if_pos ⟨rfl, rfl, rfl, barr_nat h1 h2 hi⟩, Int.toNat_natCast, Int.toNat_natCast, hp]
theorem w_ldiv (o : okL k pc ((.ldiv, 1, a, b) :: ts) = true) (hp : pc + 1 = pc') (hz : divL x y = some z) (hk : HW g l d k n0 Q pc' lv ((1, z) :: st) h) : HW g l d k n0 Q pc lv ((1, y) :: (1, x) :: st) h := w_pl o (by
  subst hp
  show (divL x y).map (fun z => (pc + 1, lv, (1, z) :: st, 212, h)) = _
  rw [hz]
  rfl) hk
theorem w_lrem (o : okL k pc ((.lrem, 1, a, b) :: ts) = true) (hp : pc + 1 = pc') (hz : remL x y = some z) (hk : HW g l d k n0 Q pc' lv ((1, z) :: st) h) : HW g l d k n0 Q pc lv ((1, y) :: (1, x) :: st) h := w_pl o (by
  subst hp
  show (remL x y).map (fun z => (pc + 1, lv, (1, z) :: st, 212, h)) = _
  rw [hz]
  rfl) hk
theorem w_lcmp (o : okL k pc ((.lcmp, 1, a, b) :: ts) = true) (hp : pc + 1 = pc') (h1 : y < x → HW g l d k n0 Q pc' lv ((0, 1) :: st) h) (h2 : x = y → HW g l d k n0 Q pc' lv ((0, 0) :: st) h) (h3 : x < y → HW g l d k n0 Q pc' lv ((0, -1) :: st) h) : HW g l d k n0 Q pc lv ((1, y) :: (1, x) :: st) h := by
  have hs : ∀ c : Int, cmpL x y = c → cst (gsc g) k (.lcmp, 1, a, b) (pc, lv, (1, y) :: (1, x) :: st, 212, h) = some (pc', lv, (0, c) :: st, 212, h) := fun c e => by subst hp e; rfl
  unfold cmpL at hs
  by_cases e : y < x
  · exact w_pl o (hs 1 (if_pos e)) (h1 e)
  · by_cases e2 : x = y
    · exact w_pl o (hs 0 (by rw [if_neg e, if_pos e2])) (h2 e2)
    · exact w_pl o (hs (-1) (by rw [if_neg e, if_neg e2])) (h3 (by omega))
theorem w_lret (o : okL k pc ((.lreturn, 1, a, b) :: ts) = true) (hm : mret k = some .long) (hx : in64 x) (hq : Q (some (1, x)) h) : HW g l d k n0 Q pc lv [(1, x)] h := by
  obtain ⟨h1, h2, h3⟩ := okL_c o
  exact wp_ret h1 rfl rfl (by rw [hm]; exact hx) hq
theorem w_vret (o : okL k pc ((.return_, 1, a, b) :: ts) = true) (hm : mret k = none) (hq : Q none h) : HW g l d k n0 Q pc lv [] h := by
  obtain ⟨h1, h2, h3⟩ := okL_c o
  exact wp_ret h1 rfl rfl (by rw [hm]; trivial) hq
def cpyB (A B n : Nat) : Bool := decide (A < 212) && (decide (B < 212) && (decide (sh A = (0, n)) && decide (sh B = (0, n))))
/-- System.arraycopy of a whole array -/
theorem w_acpy {ix wd A B n : Nat} (o : okL k pc ((.invokestatic ix, 3, 1001, wd) :: ts) = true) (hp : pc + 3 = pc') (hb : cpyB A B n = true) (hk : HW g l d k n0 Q pc' lv [] (hcpy h A 0 B 0 n)) : HW g l d k n0 Q pc lv [(0, (n : Int)), (0, 0), (2, (B : Int)), (0, 0), (2, (A : Int))] h := by
  unfold cpyB at hb
  simp only [Bool.and_eq_true, decide_eq_true_eq] at hb
  obtain ⟨b1, b2, b3, b4⟩ := hb
  obtain ⟨h1, h2, h3⟩ := okL_c o
  subst hp
  refine wp_copy h1 (okT_S h2) ⟨by omega, by rw [Int.toNat_natCast]; exact b1, by rw [Int.toNat_natCast, b3]⟩ ⟨by omega, by rw [Int.toNat_natCast]; exact b2, by rw [Int.toNat_natCast, b4]⟩ (Int.le_refl _) (Int.le_refl _) (by omega) (by rw [Int.toNat_natCast, Int.toNat_natCast, b3]; simp) (by rw [Int.toNat_natCast, Int.toNat_natCast, b4]; simp) (by decide) ?_
  rw [Int.toNat_natCast, Int.toNat_natCast, Int.toNat_natCast]
  exact hk
theorem w_iret (o : okL k pc ((.ireturn, 1, a, b) :: ts) = true) (hm : mret k = some .int) (hx : in32 x) (hq : Q (some (0, x)) h) : HW g l d k n0 Q pc lv [(0, x)] h := by
  obtain ⟨h1, h2, h3⟩ := okL_c o
  exact wp_ret h1 rfl rfl (by rw [hm]; exact hx) hq
theorem w_zret (o : okL k pc ((.ireturn, 1, a, b) :: ts) = true) (hm : mret k = some .boolean) (hx : 0 ≤ x ∧ x ≤ 1) (hq : Q (some (0, x)) h) : HW g l d k n0 Q pc lv [(0, x)] h := by
  obtain ⟨h1, h2, h3⟩ := okL_c o
  exact wp_ret h1 rfl rfl (by rw [hm]; exact hx) hq
def csB (k' n : Nat) : Bool := kGood k' && (mst k' && decide (n = mnp k'))
theorem w_callS {ix k' wd n : Nat} {as rest : List bV} (hB : BytesOK) (o : okL k pc ((.invokestatic ix, 3, k', wd) :: ts) = true) (hp : pc + 3 = pc') (hb : csB k' n = true) (hl : as.length = n) (he : st = as.reverse ++ rest) (hr : stw rest ≤ 8) (hM : MH g l d k' 212 212 as h (fun r h' => HW g l (d + 1) k n0 Q pc' lv (r.toList ++ rest) h')) : HW g l (d + 1) k n0 Q pc lv st h := by
  subst he hp hl
  unfold csB at hb
  simp only [Bool.and_eq_true, decide_eq_true_eq] at hb
  obtain ⟨b1, b2, b3⟩ := hb
  obtain ⟨h1, h2, h3⟩ := okL_c o
  exact wp_callS h1 (okT_S h2) (by have := kGood_x b1; omega) (hB.2 _ b1) b2 b3 hr ⟨Nat.le_refl _, Nat.le_refl _⟩ hM
def cvB (k' wd n A ci : Nat) : Bool := kGood k' && (!(wd == 300000) && (!(mst k') && (!((mname k').name == "<init>") && (decide (A < 212) && (decide ((sh A).1 = 10 + ci) && (((kCls.getD ci ("", kF0, 0)).1 == (mname k').cls) && decide (n = mnp k')))))))
theorem w_callV {ix k' wd n A : Nat} {as rest : List bV} (ci : Nat) (hB : BytesOK) (o : okL k pc ((.invokevirtual ix, 3, k', wd) :: ts) = true) (hp : pc + 3 = pc') (hb : cvB k' wd n A ci = true) (hl : as.length = n) (he : st = as.reverse ++ (2, (A : Int)) :: rest) (hr : stw rest ≤ 8) (hM : MH g l d k' 212 212 ((2, (A : Int)) :: as) h (fun r h' => HW g l (d + 1) k n0 Q pc' lv (r.toList ++ rest) h')) : HW g l (d + 1) k n0 Q pc lv st h := by
  subst he hp hl
  unfold cvB at hb
  simp only [Bool.and_eq_true, decide_eq_true_eq, Bool.not_eq_true', beq_eq_false_iff_ne, beq_iff_eq] at hb
  obtain ⟨b1, b2, b3, b4, b5, b6, b7, b8⟩ := hb
  obtain ⟨h1, h2, h3⟩ := okL_c o
  exact wp_callV h1 (okT_V h2) (by have := kGood_x b1; omega) b2 (hB.2 _ b1) b3 b4 (ci := ci) ⟨Int.natCast_nonneg A, by rw [Int.toNat_natCast]; exact b5, by rw [Int.toNat_natCast]; exact b6, b7⟩ b8 hr ⟨Nat.le_refl _, Nat.le_refl _⟩ hM
/-- a method's contract from its walk -/
theorem mh_go {vs : List bV} {N : Nat} (hB : BytesOK) (hg : kGood k = true) (hm : mml k = N) (hsz : stw vs ≤ N) (hW : HW g l d k 212 Q 0 (largs 0 vs) [] h) : MH g l d k 212 212 vs h Q := mh_of (hB.2 _ hg) (by rw [hm]; exact hsz) (Nat.le_refl _) hW
end HD
theorem w32_e {x z : Int} (h : -2147483648 ≤ z ∧ z ≤ 2147483647) (e : x = z) : w32 x = z := by
  rw [e]
  exact w32_id h
theorem divI_p {x y : Int} (hx : 0 ≤ x) (h2 : x ≤ 2147483647) (hy : 0 < y) : divI x y = some (x / y) := by
  unfold divI
  rw [if_neg (by omega), Int.tdiv_eq_ediv_of_nonneg hx]
  have h3 := Int.ediv_nonneg hx (Int.le_of_lt hy)
  have h4 : x / y ≤ x := Int.ediv_le_self y hx
  rw [w32_e ⟨by omega, by omega⟩ rfl]
theorem remI_p {x y : Int} (hx : 0 ≤ x) (hy : 0 < y) : remI x y = some (x % y) := by
  unfold remI
  rw [if_neg (by omega), Int.tmod_eq_emod_of_nonneg hx]
theorem hup_ne {h : bH} {a j b i : Nat} {x : Int} (hc : b ≠ a) : hup h a j x b i = h b i := if_neg (fun e => hc e.1)
theorem hup_nj {h : bH} {a j i : Nat} {x : Int} (hc : i ≠ j) : hup h a j x a i = h a i := if_neg (fun e => hc e.2)
theorem hup_eq {h : bH} {a j : Nat} {x : Int} : hup h a j x a j = x := if_pos ⟨rfl, rfl⟩
theorem hcpy_ne {h : bH} {A B n b i : Nat} (hc : b ≠ B) : hcpy h A 0 B 0 n b i = h b i := if_neg (fun e => hc e.1)
theorem hcpy_in {h : bH} {A B n i : Nat} (hi : i < n) : hcpy h A 0 B 0 n B i = h A i := by
  unfold hcpy
  rw [if_pos ⟨rfl, Nat.zero_le _, by omega⟩]
  simp
theorem w_sub {g : bG} {l : Launch} {d k n0 pc : Nat} {Q : bQ} {lv lv' : bL} {st : List bV} {h : bH} (hs : lv' ⊆ lv) (hk : HW g l d k n0 Q pc lv' st h) : HW g l d k n0 Q pc lv st h := wp_sub (fun x hx => hs hx) hk
theorem qe {Q : bQ} {h : bH} {t : Nat} {x y : Int} (hq : Q (some (t, x)) h) (e : x = y) : Q (some (t, y)) h := by rw [← e]; exact hq
/-- all places lie in their ranges -/
def TH (h : bH) : Prop := ∀ a j, a < 212 → j < (sh a).2 → (tyP (PofW gT none false) a j).1 ≤ h a j ∧ h a j ≤ (tyP (PofW gT none false) a j).2
def uB (a n : Nat) (lo hi : Int) : Bool := decide (a < 212) && (decide ((sh a).2 = n) && decide (gT.2 a = some (lo, hi)))
theorem TH.u {h : bH} (ht : TH h) {a n : Nat} {lo hi : Int} (hb : uB a n lo hi = true) {j : Nat} (hj : j < n) : lo ≤ h a j ∧ h a j ≤ hi := by
  unfold uB at hb
  simp only [Bool.and_eq_true, decide_eq_true_eq] at hb
  have := ht a j hb.1 (by rw [hb.2.1]; exact hj)
  have e : tyP (PofW gT none false) a j = (lo, hi) := by
    show (match gT.2 a with
      | some r => r
      | none => gT.1 a j) = _
    rw [hb.2.2]
  rw [e] at this
  exact this
def cB (a j : Nat) (lo hi : Int) : Bool := decide (a < 212) && (decide (j < (sh a).2) && decide (tyP (PofW gT none false) a j = (lo, hi)))
theorem TH.c {h : bH} (ht : TH h) {a j : Nat} {lo hi : Int} (hb : cB a j lo hi = true) : lo ≤ h a j ∧ h a j ≤ hi := by
  unfold cB at hb
  simp only [Bool.and_eq_true, decide_eq_true_eq] at hb
  have := ht a j hb.1 hb.2.1
  rw [hb.2.2] at this
  exact this
def sB (a s n : Nat) (lo hi : Int) : Bool := (List.range n).all fun i => cB a (s + i) lo hi
theorem TH.s {h : bH} (ht : TH h) {a s n : Nat} {lo hi : Int} (hb : sB a s n lo hi = true) {j : Nat} (h1 : s ≤ j) (h2 : j < s + n) : lo ≤ h a j ∧ h a j ≤ hi := by
  have := List.all_eq_true.mp hb (j - s) (List.mem_range.mpr (by omega))
  rw [show s + (j - s) = j by omega] at this
  exact ht.c this
/-- places in steps -/
def sB2 (a s st n : Nat) (lo hi : Int) : Bool := (List.range n).all fun i => cB a (s + st * i) lo hi
theorem TH.s2 {h : bH} (ht : TH h) {a s st n : Nat} {lo hi : Int} (hb : sB2 a s st n lo hi = true) {r : Nat} (hr : r < n) : lo ≤ h a (s + st * r) ∧ h a (s + st * r) ≤ hi := ht.c (List.all_eq_true.mp hb r (List.mem_range.mpr hr))
/-- what refers to cells -/
def rfL : List (Nat × Nat × Nat) := [(0, 0, 1), (0, 1, 85), (0, 3, 169), (0, 4, 178), (0, 5, 181), (0, 6, 189), (0, 7, 191), (0, 8, 192), (1, 0, 2), (1, 1, 14), (1, 2, 17), (1, 3, 30), (1, 5, 34), (1, 6, 35), (1, 7, 42), (2, 2, 3), (2, 3, 4), (2, 4, 5), (2, 5, 6), (2, 6, 7), (2, 7, 8), (2, 8, 9), (2, 13, 10), (2, 14, 11), (2, 17, 12), (2, 18, 13), (14, 1, 15), (14, 2, 16), (17, 1, 18), (17, 2, 19), (17, 3, 20), (17, 6, 21), (17, 7, 22), (17, 8, 23), (17, 9, 24), (17, 11, 25), (17, 12, 26), (17, 13, 27), (17, 15, 28), (17, 16, 29), (30, 0, 31), (30, 1, 32), (30, 2, 33), (34, 0, 43), (34, 1, 50), (34, 2, 57), (34, 3, 64), (34, 4, 71), (34, 5, 78), (35, 2, 36), (35, 3, 37), (35, 6, 38), (35, 7, 39), (35, 9, 40), (35, 12, 41), (43, 2, 44), (43, 3, 45), (43, 6, 46), (43, 7, 47), (43, 9, 48), (43, 12, 49), (50, 2, 51), (50, 3, 52), (50, 6, 53), (50, 7, 54), (50, 9, 55), (50, 12, 56), (57, 2, 58), (57, 3, 59), (57, 6, 60), (57, 7, 61), (57, 9, 62), (57, 12, 63), (64, 2, 65), (64, 3, 66), (64, 6, 67), (64, 7, 68), (64, 9, 69), (64, 12, 70), (71, 2, 72), (71, 3, 73), (71, 6, 74), (71, 7, 75), (71, 9, 76), (71, 12, 77), (78, 2, 79), (78, 3, 80), (78, 6, 81), (78, 7, 82), (78, 9, 83), (78, 12, 84), (85, 0, 86), (85, 1, 98), (85, 2, 101), (85, 3, 114), (85, 5, 118), (85, 6, 119), (85, 7, 126), (86, 2, 87), (86, 3, 88), (86, 4, 89), (86, 5, 90), (86, 6, 91), (86, 7, 92), (86, 8, 93), (86, 13, 94), (86, 14, 95), (86, 17, 96), (86, 18, 97), (98, 1, 99), (98, 2, 100), (101, 1, 102), (101, 2, 103), (101, 3, 104), (101, 6, 105), (101, 7, 106), (101, 8, 107), (101, 9, 108), (101, 11, 109), (101, 12, 110), (101, 13, 111), (101, 15, 112), (101, 16, 113), (114, 0, 115), (114, 1, 116), (114, 2, 117), (118, 0, 127), (118, 1, 134), (118, 2, 141), (118, 3, 148), (118, 4, 155), (118, 5, 162), (119, 2, 120), (119, 3, 121), (119, 6, 122), (119, 7, 123), (119, 9, 124), (119, 12, 125), (127, 2, 128), (127, 3, 129), (127, 6, 130), (127, 7, 131), (127, 9, 132), (127, 12, 133), (134, 2, 135), (134, 3, 136), (134, 6, 137), (134, 7, 138), (134, 9, 139), (134, 12, 140), (141, 2, 142), (141, 3, 143), (141, 6, 144), (141, 7, 145), (141, 9, 146), (141, 12, 147), (148, 2, 149), (148, 3, 150), (148, 6, 151), (148, 7, 152), (148, 9, 153), (148, 12, 154), (155, 2, 156), (155, 3, 157), (155, 6, 158), (155, 7, 159), (155, 9, 160), (155, 12, 161), (162, 2, 163), (162, 3, 164), (162, 6, 165), (162, 7, 166), (162, 9, 167), (162, 12, 168), (169, 1, 170), (169, 2, 171), (171, 2, 172), (171, 3, 173), (171, 6, 174), (171, 7, 175), (171, 9, 176), (171, 12, 177), (178, 1, 179), (178, 2, 180), (181, 0, 182), (181, 1, 183), (181, 2, 184), (184, 0, 185), (184, 1, 186), (184, 2, 187), (184, 3, 188), (189, 1, 190), (193, 0, 194), (193, 1, 195), (193, 3, 196), (193, 5, 197), (193, 19, 198), (193, 20, 199), (193, 23, 200), (193, 24, 201), (193, 27, 202), (193, 30, 203), (193, 33, 204), (193, 35, 205), (193, 36, 206), (193, 37, 207), (193, 38, 208), (193, 39, 209), (193, 40, 210), (193, 41, 211)]
def TR (h : bH) : Prop := ∀ q ∈ rfL, h q.1 q.2.1 = ((q.2.2 : Nat) : Int)
theorem rfL_ok : (rfL.all fun q => cB q.1 q.2.1 ((q.2.2 : Nat) : Int) ((q.2.2 : Nat) : Int)) = true := by decide +kernel
theorem TH.r {h : bH} (ht : TH h) : TR h := fun q hq => by
  have := ht.c (List.all_eq_true.mp rfL_ok q hq)
  omega
theorem TH.up {h : bH} (ht : TH h) {a j : Nat} {v : Int} (hv : (tyP (PofW gT none false) a j).1 ≤ v ∧ v ≤ (tyP (PofW gT none false) a j).2) : TH (hup h a j v) := fun a' j' ha hj => by
  by_cases e : a' = a ∧ j' = j
  · obtain ⟨rfl, rfl⟩ := e
    rw [show hup h a' j' v a' j' = v from if_pos ⟨rfl, rfl⟩]
    exact hv
  · rw [show hup h a j v a' j' = h a' j' from if_neg e]
    exact ht a' j' ha hj
theorem TH.upc {h : bH} (ht : TH h) {a j : Nat} {v lo hi : Int} (hb : cB a j lo hi = true) (hv : lo ≤ v ∧ v ≤ hi) : TH (hup h a j v) := ht.up (by
  unfold cB at hb
  simp only [Bool.and_eq_true, decide_eq_true_eq] at hb
  rw [hb.2.2]
  exact hv)
theorem TH.ups {h : bH} (ht : TH h) {a s n j : Nat} {v lo hi : Int} (hb : sB a s n lo hi = true) (h1 : s ≤ j) (h2 : j < s + n) (hv : lo ≤ v ∧ v ≤ hi) : TH (hup h a j v) := ht.upc (by
  have := List.all_eq_true.mp hb (j - s) (List.mem_range.mpr (by omega))
  rw [show s + (j - s) = j by omega] at this
  exact this) hv
theorem TH.ups2 {h : bH} (ht : TH h) {a s st n j r : Nat} {v lo hi : Int} (hb : sB2 a s st n lo hi = true) (e : j = s + st * r) (hr : r < n) (hv : lo ≤ v ∧ v ≤ hi) : TH (hup h a j v) := ht.upc (by subst e; exact List.all_eq_true.mp hb r (List.mem_range.mpr hr)) hv
theorem TH.upu {h : bH} (ht : TH h) {a n j : Nat} {v lo hi : Int} (hb : uB a n lo hi = true) (hj : j < n) (hv : lo ≤ v ∧ v ≤ hi) : TH (hup h a j v) := ht.up (by
  unfold uB at hb
  simp only [Bool.and_eq_true, decide_eq_true_eq] at hb
  rw [show tyP (PofW gT none false) a j = (lo, hi) by
    show (match gT.2 a with
      | some r => r
      | none => gT.1 a j) = _
    rw [hb.2.2]]
  exact hv)
/-- an int's answer as a contract tells it: one unknown more -/
theorem hpost {w : aW} {E : REnv} {k lev : Nat} {as : List AV} {L : bC} {h h' : bH} {ρ : Nat → Int} {v : Int} (q : core (PofW gT w false) L h ρ h (E, [], [], 212)) (hT : TH h') (hw : ∀ a j, wrF w a j = false → h' a j = h a j) (hv : in32 v) : isPost gT (k, lev, w, false, (E, [], [], 212), as, [((E ++ [r32], [], [], 212), some (0, fid E.length))]) L h ρ (some (0, v)) h' :=
  ⟨_, List.mem_singleton.mpr rfl, rup ρ E.length v, rup_old, ⟨eOK_push q.1 hv.1 hv.2, fun f hf => (by cases hf), fun c hc => (by cases hc), fun a j ha hj _ => hT a j ha hj, hw, fun e => (by cases e)⟩, by
    show some ((0 : Nat), v) = some (0, ev _ (fid E.length))
    rw [fid_ev]
    unfold rup
    rw [if_pos rfl]⟩
theorem hTH {w : aW} {E : REnv} {L : bC} {h : bH} {ρ : Nat → Int} (q : core (PofW gT w false) L h ρ h (E, [], [], 212)) : TH h := fun a j ha hj => q.2.2.2.1 a j ha hj (fun c hc => (by cases hc))
