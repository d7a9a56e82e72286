/-! EVERY STEP OF THE WALK IS SOUND -/
theorem core_n {P : aP} {L : bC} {h0 h : bH} {ρ : Nat → Int} {C : aC} (q : core P L h0 ρ h C) : core P L h0 ρ h C := q
section RUN2
variable {g : bG} {l : Launch} {X : aX} {h0 : bH} {ρ0 : Nat → Int} {mv : Int} {D d0 k0 N0 N1 : Nat} {Q0 : bQ}
theorem wAll_x {w : aW} (h : wAll w = true) : ∀ a j, wrF w a j = true := by
  cases w with
  | none => exact fun _ _ => rfl
  | some _ => cases h
theorem rIns_ok {R : aR} (H : aHyp g l X h0 ρ0 mv D d0 k0 N0 N1 Q0) (hR : sR g l X h0 ρ0 mv D d0 k0 N0 N1 Q0 R) {d : Nat} {fr : List aF} {k n0 n1 pc : Nat} {t : Tok} {r : List Tok} {S : aS} {ρ : Nat → Int} {h : bH} (hr : rIns X R d fr k n0 n1 pc t r S = true) (q : aInv g X h0 ρ0 mv ρ h S) (hf : wfFr (eC S.2.2).length fr) (hb : bot d0 k0 N0 N1 d k n0 n1 fr) (ho : okL k pc (t :: r) = true) : WP g l (D + d) k n0 n1 (fQ g l ρ Q0 (D + d) n1 fr) (conc ρ pc (nC S.2.2) h S) := by
  obtain ⟨hd, ht, ho2⟩ := okL_c ho
  unfold rIns at hr
  split at hr
  · split at hr
    case h_2 => cases hr
    rename_i S' hS
    rw [Bool.and_eq_true, beq_iff_eq] at hr
    obtain ⟨ρ', h', e1, e2, e3, e4, e5⟩ := astep_ok H.1 (sc := gsc g) rfl (pc := pc) q.1 hS
    refine wp_step hd ht e5 rfl ?_
    rw [← hr.1, ← e4]
    exact hR.to hr.2 q hf hb ho2 e1 e2 e3
  split at hr
  · rename_i rv ha
    exact rRet_ok H hR hr ha q hf hb hd
  split at hr
  · rename_i Ls hL
    obtain ⟨S1, s1, s2, s3⟩ := ajmp_ok H hR hr q hf hb (abr_ok (sc := gsc g) (k := k) q.1 hL)
    exact wp_step hd ht s1 s2 s3
  split at hr
  · rename_i hc
    split at hr
    case h_2 => cases hr
    rename_i t2 r2
    split at hr
    case h_2 => cases hr
    rename_i Ls hL
    rw [Bool.and_eq_true, beq_iff_eq] at hr
    have hi : t.1 = .lcmp := by
      unfold isCmp at hc
      split at hc
      · rename_i e; exact e
      · cases hc
    obtain ⟨S1, s1, s2, s3, s4⟩ := acmp_ok (sc := gsc g) (k := k) hi q.1 hL
    obtain ⟨S2, u1, u2, u3⟩ := ajmp_ok H hR hr.2 q hf hb s4
    rw [hr.1] at ho2
    obtain ⟨hd2, ht2, _⟩ := okL_c ho2
    refine wp_step hd ht s1 s3 ?_
    exact wp_step (by rw [s2]; exact hd2) ht2 u1 (by rw [u2, s3]) u3
  split at hr
  · rename_i z hz
    obtain ⟨as, rest⟩ := z
    rw [Bool.and_eq_true, beq_iff_eq] at hr
    exact rCall_ok H hR hr.2 hz hr.1 q hf hb ho
  split at hr
  · rename_i S' hS
    split at hS
    case isFalse => cases hS
    rename_i hw
    simp only [Bool.and_eq_true, beq_iff_eq, decide_eq_true_eq] at hr
    obtain ⟨r1, r2, r3⟩ := hr
    obtain ⟨e1, h', e2, e3⟩ := amk_ok (g := g) (l := l) (d := D + d) (n0 := n0) (n1 := n1) (Q := fQ g l ρ Q0 (D + d) n1 fr) (show ∀ a j, wrP (xP X) a j = true from wAll_x hw) hd ht q.1 hS r2
    refine e3 ?_
    rw [← r1]
    exact hR.to r3 q hf hb ho2 (fun _ _ => rfl) (by rw [e1]; exact Nat.le_refl _) e2
  split at hr
  · rename_i S' hS
    obtain ⟨ρ', h', e1, e2, e3, e4, e5⟩ := aspc_ok (D := D) (g := g) (l := l) (d := d) (n0 := n0) (n1 := n1) (Q := fQ g l ρ Q0 (D + d) n1 fr) hd ht q.1 hS
    rw [Bool.and_eq_true, decide_eq_true_eq] at hr
    refine e5 ?_ hr.1
    rw [← e4]
    exact hR.to hr.2 q hf hb ho2 e1 e2 e3
  split at hr
  · cases hr
  rename_i t2 r2
  split at hr
  · rename_i S' hS
    rw [Bool.and_eq_true, Bool.and_eq_true, beq_iff_eq, beq_iff_eq] at hr
    obtain ⟨S1, s1, s2, s3, ρ', h', e1, e2, e3, e4, e5⟩ := adsb_ok (sc := gsc g) (k := k) (pc := pc) q.1 hS
    rw [hr.1.1] at ho2
    obtain ⟨hd2, ht2, ho3⟩ := okL_c ho2
    rw [hr.1.2] at ho3
    refine wp_step hd ht s1 s3 ?_
    refine wp_step (by rw [s2]; exact hd2) ht2 e5 (by rw [s3]; rfl) ?_
    rw [← e4]
    exact hR.to hr.2 q hf hb ho3 e1 e2 e3
  split at hr
  · rename_i S' hS
    rw [Bool.and_eq_true, beq_iff_eq] at hr
    obtain ⟨hl, ρ', h', e1, e2, e3, e4, e5⟩ := amd_ok (sc := gsc g) (pc := pc) q.1 hS
    rw [hr.1] at ho2
    refine wp_step hd ht e5 rfl ?_
    rw [← e4]
    exact hR.to hr.2 q hf hb ho2 e1 e2 e3
  split at hr
  · rename_i S' hS
    rw [Bool.and_eq_true, beq_iff_eq] at hr
    obtain ⟨hl, ρ', h', e1, e2, e3, e4, e5⟩ := abit_ok (sc := gsc g) (pc := pc) q.1 hS
    rw [hr.1] at ho2
    refine wp_step hd ht e5 rfl ?_
    rw [← e4]
    exact hR.to hr.2 q hf hb ho2 e1 e2 e3
  split at hr
  · rename_i S' hS
    rw [Bool.and_eq_true, beq_iff_eq] at hr
    obtain ⟨ρ', h', e1, e2, e3, e4, e5⟩ := astep_ok H.1 (sc := gsc g) rfl (pc := pc) q.1 hS
    refine wp_step hd ht e5 rfl ?_
    rw [← hr.1, ← e4]
    exact hR.to hr.2 q hf hb ho2 e1 e2 e3
  · cases hr
theorem headB_ok (H : aHyp g l X h0 ρ0 mv D d0 k0 N0 N1 Q0) {d k n0 n1 pc : Nat} {S : aS} {ρ : Nat → Int} {h : bH} (hr : headB X pc S = true) (q : aInv g X h0 ρ0 mv ρ h S) (hb : bot d0 k0 N0 N1 d k n0 n1 []) : WP g l (D + d) k n0 n1 Q0 (conc ρ pc (nC S.2.2) h S) := by
  obtain ⟨rfl, rfl, rfl, rfl⟩ := hb
  unfold headB at hr
  rw [List.any_eq_true] at hr
  obtain ⟨⟨hp, T, M⟩, hH, hr⟩ := hr
  dsimp only at hr
  simp only [Bool.and_eq_true, beq_iff_eq, decide_eq_true_eq] at hr
  obtain ⟨rfl, _, r1, r2, r3, r4, r5⟩ := hr
  obtain ⟨ρ1, x1, x2, x3, x4⟩ := atouch_ok (qs := (cC T.2.2).map (·.1)) q.1.1
  have q0 : aIn (xP X) (gsc g) h0 ρ1 h (S.1, S.2.1, atouch (xP X) S.2.2 ((cC T.2.2).map (·.1))) := ⟨x3, wfL_mono q.1.2.1 x2, wfS_mono q.1.2.2 x2⟩
  obtain ⟨m1, m2, m3, m4, m5⟩ := amatch_ok q0 r1 (hsB_ok r4)
  have hM : wfF (eC T.2.2).length M := wfB_x r2
  have hv := iv_ok m1.1.1 hM
  generalize hσ : infer (xM X) (S.1, S.2.1, atouch (xP X) S.2.2 ((cC T.2.2).map (·.1))) T = σ at *
  have hσw : ∀ f ∈ σ, wfF (eC (atouch (xP X) S.2.2 ((cC T.2.2).map (·.1)))).length f := fun f hf => by
    unfold amatch at r1
    simp only [Bool.and_eq_true] at r1
    exact wfB_x (List.all_eq_true.mp r1.1 f hf)
  have w := H.2.2.2.2.1 (hp, T, M) hH (rsb ρ1 σ) h m1 ((q.2.1.trans x1 q.2.2.1).trans m2 (Nat.le_refl _)) (by dsimp only; omega) (fun u hu => by
    rw [hu] at r5
    obtain ⟨w1, w2⟩ := q.2.2.2 u hu
    have := leP2_ok x3 (wf_plus (wf_sub (wf_sbF hσw M) (wf_mono w1 x2))) r5
    rw [fplus_ev, fsub_ev, sbF_ev, ev_same x1 w1, w2] at this
    dsimp only
    omega)
  dsimp only at w m3 m4 m5
  have w2 := wp_sub (lv := evL ρ1 S.1) m3 w
  unfold conc
  rw [← evL_same x1 q.1.2.1, ← evS_same x1 q.1.2.2, ← x4, ← m5, ← m4]
  exact w2
theorem aspl_ok {k pc : Nat} {S : aS} {Ls : aB} {ρ : Nat → Int} {h : bH} (q : aInv g X h0 ρ0 mv ρ h S) (hs : aspl X k pc S = some Ls) : ∃ S', (pc, S') ∈ Ls ∧ aIn (xP X) (gsc g) h0 ρ h S' ∧ (eC S'.2.2).length = (eC S.2.2).length ∧ nC S'.2.2 = nC S.2.2 ∧ ∀ n, conc ρ pc n h S' = conc ρ pc n h S := by
  unfold aspl at hs
  split at hs
  case h_2 => cases hs
  rename_i z hz
  split at hs
  case isFalse => cases hs
  rename_i hw
  cases hs
  obtain ⟨C', h1, h2, h3, h4⟩ := asplit_ok (cs := z.2) (pc := pc) (lv := S.1) (st := S.2.1) q.1.1 (wfB_x hw)
  refine ⟨(S.1, S.2.1, C'), h1, ⟨h2, ?_, ?_⟩, h3, h4, fun n => rfl⟩
  · show wfL (eC C').length S.1
    rw [h3]; exact q.1.2.1
  · show wfS (eC C').length S.2.1
    rw [h3]; exact q.1.2.2
theorem rTop_ok {R : aR} (H : aHyp g l X h0 ρ0 mv D d0 k0 N0 N1 Q0) (hR : sR g l X h0 ρ0 mv D d0 k0 N0 N1 Q0 R) : sR g l X h0 ρ0 mv D d0 k0 N0 N1 Q0 (rTop X R) := by
  intro d fr k n0 n1 ph pc ts S ρ h hr q hf hb ho
  unfold rTop at hr
  split at hr
  · rename_i e
    have hfr : fr = [] := by
      cases fr with
      | nil => rfl
      | cons a b => exact absurd e.2.1 (by simp)
    subst hfr
    exact headB_ok H hr q hb
  split at hr
  · rename_i Ls hL
    split at hL
    case isFalse => cases hL
    obtain ⟨S', s1, s2, s3, s4, s5⟩ := aspl_ok q hL
    have := List.all_eq_true.mp hr _ s1
    have w := hR.to this q hf hb ho (fun _ _ => rfl) (Nat.le_of_eq s3.symm) s2
    rw [s4, s5] at w
    exact w
  · split at hr
    case h_1 => cases hr
    rename_i t r
    exact rIns_ok H hR hr q hf hb ho
theorem arun_ok (H : aHyp g l X h0 ρ0 mv D d0 k0 N0 N1 Q0) : ∀ f, sR g l X h0 ρ0 mv D d0 k0 N0 N1 Q0 (arun X f)
  | 0 => fun _ _ _ _ _ _ _ _ _ _ _ hr _ _ _ _ => by cases hr
  | f + 1 => rTop_ok H (arun_ok H f)
end RUN2
