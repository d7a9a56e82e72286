/-! THE WALK IS SOUND -/
def aInv (g : bG) (X : aX) (h0 : bH) (ρ0 : Nat → Int) (mv : Int) (ρ : Nat → Int) (h : bH) (S : aS) : Prop := aIn (xP X) (gsc g) h0 ρ h S ∧ ext (xM X) ρ0 ρ ∧ xM X ≤ (eC S.2.2).length ∧ ∀ u, xU X = some u → wfF (eC S.2.2).length u ∧ ev ρ u = mv
def aHyp (g : bG) (l : Launch) (X : aX) (h0 : bH) (ρ0 : Nat → Int) (mv : Int) (D d0 k0 N0 N1 : Nat) (Q0 : bQ) : Prop :=
  PW (xP X) ∧ (∀ k, okL k 0 (tk k) = true) ∧ (∀ k, kGood k = true → okM k = true) ∧ (∀ c ∈ xC X, Keeps g l X.1 c) ∧
  (∀ H ∈ xH X, ∀ (ρ : Nat → Int) (h : bH), aIn (xP X) (gsc g) h0 ρ h H.2.1 → ext (xM X) ρ0 ρ → 0 ≤ ev ρ H.2.2 → (∀ u, xU X = some u → ev ρ H.2.2 < mv) → WP g l (D + d0) k0 N0 N1 Q0 (conc ρ H.1 (nC H.2.1.2.2) h H.2.1)) ∧
  (∀ p ∈ xO X, ∀ (ρ : Nat → Int) (h : bH), core (xP X) (gsc g) h0 ρ h p.1 → ext (xM X) ρ0 ρ → Q0 (evR ρ p.2) h)
section RUN
variable {g : bG} {l : Launch} {X : aX} {h0 : bH} {ρ0 : Nat → Int} {mv : Int} {D d0 k0 N0 N1 : Nat} {Q0 : bQ}
theorem aInv.step {ρ ρ' : Nat → Int} {h h' : bH} {S S' : aS} (q : aInv g X h0 ρ0 mv ρ h S) (hx : ext (eC S.2.2).length ρ ρ') (hl : (eC S.2.2).length ≤ (eC S'.2.2).length) (hi : aIn (xP X) (gsc g) h0 ρ' h' S') : aInv g X h0 ρ0 mv ρ' h' S' := by
  obtain ⟨_, q2, q3, q4⟩ := q
  refine ⟨hi, q2.trans hx q3, Nat.le_trans q3 hl, fun u hu => ?_⟩
  obtain ⟨w, e⟩ := q4 u hu
  exact ⟨wf_mono w hl, by rw [ev_same hx w]; exact e⟩
def sR (g : bG) (l : Launch) (X : aX) (h0 : bH) (ρ0 : Nat → Int) (mv : Int) (D d0 k0 N0 N1 : Nat) (Q0 : bQ) (R : aR) : Prop := ∀ (d : Nat) (fr : List aF) (k n0 n1 ph pc : Nat) (ts : List Tok) (S : aS) (ρ : Nat → Int) (h : bH), R d fr k n0 n1 ph pc ts S = true → aInv g X h0 ρ0 mv ρ h S → wfFr (eC S.2.2).length fr → bot d0 k0 N0 N1 d k n0 n1 fr → okL k pc ts = true → WP g l (D + d) k n0 n1 (fQ g l ρ Q0 (D + d) n1 fr) (conc ρ pc (nC S.2.2) h S)
theorem sR.to {R : aR} (hR : sR g l X h0 ρ0 mv D d0 k0 N0 N1 Q0 R) {d : Nat} {fr : List aF} {k n0 n1 ph pc : Nat} {ts : List Tok} {S S' : aS} {ρ ρ' : Nat → Int} {h h' : bH} (hr : R d fr k n0 n1 ph pc ts S' = true) (q : aInv g X h0 ρ0 mv ρ h S) (hf : wfFr (eC S.2.2).length fr) (hb : bot d0 k0 N0 N1 d k n0 n1 fr) (ho : okL k pc ts = true) (hx : ext (eC S.2.2).length ρ ρ') (hl : (eC S.2.2).length ≤ (eC S'.2.2).length) (hi : aIn (xP X) (gsc g) h0 ρ' h' S') : WP g l (D + d) k n0 n1 (fQ g l ρ Q0 (D + d) n1 fr) (conc ρ' pc (nC S'.2.2) h' S') := by
  have := hR d fr k n0 n1 ph pc ts S' ρ' h' hr (q.step hx hl hi) (wfFr_mono hf hl) hb ho
  rw [fQ_same hx hf] at this
  exact this
theorem ajmp_ok {R : aR} (H : aHyp g l X h0 ρ0 mv D d0 k0 N0 N1 Q0) (hR : sR g l X h0 ρ0 mv D d0 k0 N0 N1 Q0 R) {d : Nat} {fr : List aF} {k n0 n1 : Nat} {Ls : aB} {S : aS} {ρ : Nat → Int} {h : bH} {r : Option bS} (hr : Ls.all (ajmp R d fr k n0 n1) = true) (q : aInv g X h0 ρ0 mv ρ h S) (hf : wfFr (eC S.2.2).length fr) (hb : bot d0 k0 N0 N1 d k n0 n1 fr) (hB : bOut (xP X) (gsc g) h0 ρ h S Ls r) : ∃ S', r = some S' ∧ S'.2.2.2.1 = nC S.2.2 ∧ WP g l (D + d) k n0 n1 (fQ g l ρ Q0 (D + d) n1 fr) S' := by
  obtain ⟨pc', S', h1, h2, h3, h4, h5⟩ := hB
  refine ⟨_, h5, rfl, ?_⟩
  have := List.all_eq_true.mp hr _ h1
  unfold ajmp at this
  split at this
  case h_2 => cases this
  rename_i ts' hts
  have ho := tkF_ok (H.2.1 k) hts
  have w := hR.to this q hf hb ho (fun _ _ => rfl) (Nat.le_of_eq h3.symm) h2
  rw [h4] at w
  exact w
theorem toList_inj {α : Type} {a b : Option α} (h : a.toList = b.toList) : a = b := by
  cases a <;> cases b <;> simp_all
theorem evR_list (ρ : Nat → Int) (r : Option AV) : evS ρ r.toList = (evR ρ r).toList := by
  cases r <;> rfl
theorem hsB_ok {T : aC} (h : hsB X T = true) : (xP X).2.2.2 = true → 8 ≤ xM X ∧ xM X ≤ (eC T).length := by
  intro hp
  unfold hsB at h
  rw [show X.2.2.1 = true from hp] at h
  simpa using h
theorem postB_ok (H : aHyp g l X h0 ρ0 mv D d0 k0 N0 N1 Q0) {S : aS} {rv : Option AV} {ρ : Nat → Int} {h : bH} (q : aInv g X h0 ρ0 mv ρ h S) (hw : wfS (eC S.2.2).length rv.toList) (hs : postB X S.2.2 rv = true) : Q0 (evR ρ rv) h := by
  unfold postB at hs
  rw [List.any_eq_true] at hs
  obtain ⟨p, hp, hs⟩ := hs
  dsimp only at hs
  rw [Bool.and_eq_true] at hs
  obtain ⟨ρ1, x1, x2, x3, x4⟩ := atouch_ok (qs := (cC p.1).map (·.1)) q.1.1
  have q0 : aIn (xP X) (gsc g) h0 ρ1 h ([], rv.toList, atouch (xP X) S.2.2 ((cC p.1).map (·.1))) := ⟨x3, fun z hz => (by cases hz), wfS_mono hw x2⟩
  obtain ⟨m1, m2, m3, m4, m5⟩ := amatch_ok q0 hs.1 (hsB_ok hs.2)
  have := H.2.2.2.2.2 p hp _ h m1.1 ((q.2.1.trans x1 q.2.2.1).trans m2 (Nat.le_refl _))
  dsimp only at m4
  rw [evS_same x1 hw, evR_list, evR_list] at m4
  rw [← toList_inj m4]
  exact this
theorem rRet_ok {R : aR} (H : aHyp g l X h0 ρ0 mv D d0 k0 N0 N1 Q0) (hR : sR g l X h0 ρ0 mv D d0 k0 N0 N1 Q0 R) {d : Nat} {fr : List aF} {k n0 n1 pc : Nat} {t : Tok} {S : aS} {rv : Option AV} {ρ : Nat → Int} {h : bH} (hr : rRet X R d fr k n1 t S rv = true) (ha : aret t S.2.1 = some rv) (q : aInv g X h0 ρ0 mv ρ h S) (hf : wfFr (eC S.2.2).length fr) (hb : bot d0 k0 N0 N1 d k n0 n1 fr) (hd : decode (mcode k) pc = .ok (t.1, t.2.1)) : WP g l (D + d) k n0 n1 (fQ g l ρ Q0 (D + d) n1 fr) (conc ρ pc (nC S.2.2) h S) := by
  unfold rRet at hr
  simp only [Bool.and_eq_true, beq_iff_eq] at hr
  obtain ⟨r1, r2, r3, r4⟩ := hr
  obtain ⟨a1, a2, a3⟩ := aret_ok (ρ := ρ) ha
  have hw : wfS (eC S.2.2).length rv.toList := by rw [← a3]; exact q.1.2.2
  have hfit := abfit_ok q.1.1 hw r1
  rw [r2] at hd
  have hQ : fQ g l ρ Q0 (D + d) n1 fr (evR ρ rv) h := by
    cases fr with
    | nil => exact postB_ok H q hw r4
    | cons z fs =>
      have hz := hf z List.mem_cons_self
      have w := hR.to (S' := (z.2.2.1, rv.toList ++ z.2.2.2.1, S.2.2)) (ρ' := ρ) (h' := h) r4 q (fun y hy => hf y (List.mem_cons_of_mem _ hy)) hb hz.2.2 (fun _ _ => rfl) (Nat.le_refl _) ⟨q.1.1, hz.1, fun v hv => by
        rcases List.mem_append.mp hv with hv | hv
        · exact hw v hv
        · exact hz.2.1 v hv⟩
      unfold conc at w
      dsimp only at w
      rw [evS_app, evR_list, r3] at w
      exact w
  have := wp_ret (g := g) (l := l) (d := D + d) (n0 := n0) (n1 := n1) (lv := evL ρ S.1) (st := evS ρ S.2.1) hd a1 a2 hfit hQ
  unfold conc
  rw [r3]
  exact this
theorem rCall_ok {R : aR} (H : aHyp g l X h0 ρ0 mv D d0 k0 N0 N1 Q0) (hR : sR g l X h0 ρ0 mv D d0 k0 N0 N1 Q0 R) {d : Nat} {fr : List aF} {k n0 n1 pc : Nat} {t : Tok} {r : List Tok} {S : aS} {as rest : List AV} {ρ : Nat → Int} {h : bH} (hr : rCall X R d fr k n0 n1 pc t r S as rest = true) (ha : acut t S.2.2 S.2.1 = some (as, rest)) (h3 : t.2.1 = 3) (q : aInv g X h0 ρ0 mv ρ h S) (hf : wfFr (eC S.2.2).length fr) (hb : bot d0 k0 N0 N1 d k n0 n1 fr) (ho : okL k pc (t :: r) = true) : WP g l (D + d) k n0 n1 (fQ g l ρ Q0 (D + d) n1 fr) (conc ρ pc (nC S.2.2) h S) := by
  obtain ⟨hd, ht, ho2⟩ := okL_c ho
  rw [h3] at ho2
  obtain ⟨wa, wr, wg⟩ := acut_wf q.1.2.2 ha
  have hm := H.2.2.1 _ wg
  unfold rCall at hr
  cases d with
  | zero => cases hr
  | succ d' =>
    dsimp only at hr
    split at hr
    · rename_i z hz
      obtain ⟨c, σ, C1⟩ := z
      dsimp only at hr
      rw [Bool.and_eq_true, decide_eq_true_eq] at hr
      obtain ⟨hn, hr⟩ := hr
      obtain ⟨t1, t2, t3, t4, t5⟩ := tryC_ok hz
      have hK := H.2.2.2.1 c t1
      obtain ⟨ρ1, x1, x2, x3, x4⟩ := atouch_ok (qs := (cC (ctC c)).map (·.1)) q.1.1
      rw [show PofW X.1 X.2.1 X.2.2.1 = xP X from rfl] at t5
      rw [← t5] at x2 x3 x4
      have wa1 : wfS (eC C1).length as := wfS_mono wa x2
      obtain ⟨c1, c2, c3⟩ := acall_in x3 wa1 t4
      refine acut_ok (n' := ctN c) hd ht q.1 hm ha hn ?_
      have hMH := hK (D + d') (by omega) (rsb ρ1 σ) h (fun r h' => WP g l (D + (d' + 1)) k n0 n1 (fQ g l ρ Q0 (D + (d' + 1)) n1 fr) (pc + 3, evL ρ S.1, r.toList ++ evS ρ rest, ctN c, h')) c1 ?_
      · rw [t2, c3, x4, c2, evS_same x1 wa] at hMH
        exact hMH
      · intro rr h' hp
        obtain ⟨p, hp1, ρ', hp2, hp3, rfl⟩ := hp
        obtain ⟨f1, f2, f3⟩ := aft_ok x3 wa1 t4 hp1 hp2 hp3
        have hall := List.all_eq_true.mp hr p hp1
        have t4b := t4
        unfold acallB at t4b
        simp only [Bool.and_eq_true] at t4b
        have ok := List.all_eq_true.mp t4b.2.2.1 p hp1
        simp only [Bool.and_eq_true, decide_eq_true_eq, beq_iff_eq] at ok
        obtain ⟨k1, k2, k3, k4, k5⟩ := ok
        have hl2 : (eC C1).length ≤ (eC (aft c σ C1 p)).length := by
          show (eC C1).length ≤ (eC C1 ++ _).length
          rw [List.length_append]
          omega
        have hl3 : (eC S.2.2).length ≤ (eC (aft c σ C1 p)).length := Nat.le_trans x2 hl2
        have hx3 := x1.trans f2 x2
        have wp2 : ∀ v, p.2 = some v → wfF (eC p.1).length v.2 := fun v hv => by
          rw [hv] at k5
          exact wfB_x k5
        have wret : wfS (eC (aft c σ C1 p)).length (retF c σ C1 p).toList := by
          unfold retF
          cases hv : p.2 with
          | none => intro v hv; cases hv
          | some v =>
            intro w hw
            cases List.mem_singleton.mp hw
            exact (f3 v.2 (wp2 v hv)).2
        have eret : evS (rcat ρ1 ρ' (eC C1).length (eC (ctC c)).length) (retF c σ C1 p).toList = (evR ρ' p.2).toList := by
          unfold retF
          cases hv : p.2 with
          | none => rfl
          | some v =>
            show [(v.1, ev _ (sbF _ v.2))] = [(v.1, ev ρ' v.2)]
            rw [(f3 v.2 (wp2 v hv)).1]
        have w := hR.to (S' := (S.1, (retF c σ C1 p).toList ++ rest, aft c σ C1 p)) (h' := h') hall q hf hb ho2 hx3 hl3 ⟨f1, wfL_mono q.1.2.1 hl3, fun v hv => by
          rcases List.mem_append.mp hv with hv | hv
          · exact wret v hv
          · exact wfS_mono wr hl3 v hv⟩
        unfold conc at w
        dsimp only at w
        rw [evS_app, eret, evL_same hx3 q.1.2.1, evS_same hx3 wr, show nC (aft c σ C1 p) = ctN c from k2] at w
        exact w
    · rw [Bool.and_eq_true, decide_eq_true_eq] at hr
      obtain ⟨⟨hn, hz⟩, hr⟩ := hr
      refine acut_ok (n' := nC S.2.2 + xN X t.2.2.1) hd ht q.1 hm ha ⟨by omega, hn⟩ ?_
      refine mh_of hm (by rw [astw_ev]; exact hz) (by omega) ?_
      have w := hR.to (fr := (k, pc + 3, S.1, rest, n0, n1, r) :: fr) (S := S) (ρ := ρ) (h := h) (h' := h) (ρ' := ρ) hr q ?_ hb (H.2.1 _) (fun _ _ => rfl) (Nat.le_refl _) ⟨q.1.1, aargs_wf wa, fun v hv => by cases hv⟩
      · unfold conc at w
        dsimp only at w
        rw [aargs_ev] at w
        exact w
      · intro z hz
        rcases List.mem_cons.mp hz with rfl | hz
        · exact ⟨q.1.2.1, wr, ho2⟩
        · exact hf z hz
end RUN
