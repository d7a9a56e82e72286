def hmul (h : bH) (n N : Nat) : bH := fun b i => if b = n then ((n + 1 + i : Nat) : Int) else if n < b ∧ b ≤ n + N then 0 else h b i
theorem outer_arr (c : ClassId) (N h0 : Nat) : ∀ i : Nat, i ≤ N → Jvm.Free.Multi.outerC c N h0 i = arrV c N (fun j => if j < i then .ref (h0 + 1 + j) else .null)
  | 0, _ => by
    show ({ cls := c, slots := Array.replicate N .null, vm := .none } : Cell) = _
    rw [arrV_new]
    refine congrArg (arrV c N) (funext fun j => ?_)
    simp
  | i + 1, h => by
    show (Jvm.Free.Multi.outerC c N h0 i).setSlot i (.ref (h0 + 1 + i)) = _
    rw [outer_arr c N h0 i (by omega), arrV_store]
    refine congrArg (arrV c N) (funext fun j => ?_)
    by_cases e : j = i
    · subst e
      simp [updV]
    · by_cases h2 : j < i
      · simp [updV, e, h2, Nat.lt_succ_of_lt h2]
      · simp [updV, e, h2, show ¬ j < i + 1 by omega]
theorem arrV_ext {c : ClassId} {N : Nat} {f f' : Nat → Value} (h : ∀ j, j < N → f j = f' j) : arrV c N f = arrV c N f' := by
  unfold arrV
  congr 1
  apply Array.ext
  · simp
  · intro i h1 h2
    simp at h1
    simp [h i h1]
section SMu
variable {g : bG} {l : Launch} {d k n0 n1 : Nat} {Q : bQ}
theorem wp_multi {ix widx aux pc n : Nat} {x y : Int} {lv : bL} {r : List bV} {h : bH} (hd : decode (mcode k) pc = .ok (.multianewarray ix 2, 4)) (ht : okW widx (.classLink (mown k) ix "[[J") = true) (hta : okW aux (.arrayClass .long) = true) (hx0 : 0 ≤ x) (hy0 : 0 ≤ y) (hsh : sh n = (3, x.toNat)) (hin' : ∀ i, i < x.toNat → sh (n + 1 + i) = (1, y.toNat)) (hx8 : x < 100) (hy8 : y < 2000) (hn : n + 1 + x.toNat ≤ 212) (hn1 : n + 1 + x.toNat ≤ n1)
    (hk : WP g l d k n0 n1 Q (pc + 4, lv, (2, (n : Int)) :: r, n + 1 + x.toNat, hmul h n x.toNat)) : WP g l d k n0 n1 Q (pc, lv, (0, y) :: (0, x) :: r, n, h) := by
  intro p e R s m args below meth c Z E H locs ls q h0 h1
  obtain ⟨hx, hb, hml, hret, hlk, hown, hts, hin, hK⟩ := id E.1
  dsimp only at q h0 h1 ⊢
  have hHs : H.size = gsz g + n := q.1.1
  have hiy : in32 y := ok1 q.2.2.2.1
  have hix : in32 x := ok1 (okr q.2.2.2.1)
  have n32 : ∀ {z : Int}, in32 z → 0 ≤ z → ¬ Int32.ofInt z < 0 := fun hz h0 => by
    rw [show (0 : Int32) = Int32.ofInt 0 from rfl, i32_lt hz ⟨by decide, by decide⟩]; omega
  have cx : (Int32.ofInt x).toNatClampNeg = x.toNat := i32_cl hix
  have cy : (Int32.ofInt y).toNatClampNeg = y.toNat := i32_cl hiy
  have hsl : ∀ i, i ≤ x.toNat → slN (n + 1 + i) = slN n + x.toNat + i * y.toNat := by
    intro i
    induction i with
    | zero => intro _; show slN (n + 1) = _; rw [slN_1 (by omega), hsh]; simp
    | succ i ih =>
      intro hi
      rw [show n + 1 + (i + 1) = (n + 1 + i) + 1 by omega, slN_1 (by omega), ih (by omega), hin' i (by omega), Nat.succ_mul]
      omega
  have es := hsl x.toNat (Nat.le_refl _)
  show W p l e R s m args below meth c H locs _ _ Z (F0 m pc ls (.int (Int32.ofInt y) :: .int (Int32.ofInt x) :: r.map (cv g)))
  intro T hT X
  have hb2 : y.toNat * componentBytes .long ≤ 536870912 := by
    have : componentBytes .long ≤ 8 := by decide
    have := Nat.mul_le_mul (show y.toNat ≤ 2000 by omega) this
    omega
  obtain ⟨vm₁, cA, comp, -, fA, fC, hO, -, X', step⟩ := X.multianewarray2F (ty := .long) hx hown (hts _ (okW_in ht)) hK.2.1.2.2.2.2.2.2 (hts _ (okW_in hta)) (g := F0 m pc ls (.int (Int32.ofInt y) :: .int (Int32.ofInt x) :: r.map (cv g))) rfl (by rw [hb]; exact hd) rfl (n32 hix hx0) (n32 hiy hy0) (by rw [cx]; omega) (by rw [cy]; exact hb2) (by rw [cy]; omega) rfl rfl (by rw [cx]; have := E.2.1.2.2.1; omega) (by rw [cx, cy]; have := E.2.1.2.2.2; have := slN_mono hn1; have := slN_mono h0; omega)
  rw [cx, cy] at X' step
  have hcA : cA = gA g 3 := Option.some.inj (fA.symm.trans hK.2.1.2.2.2.2.1)
  have hcy : comp = gA g 1 := Option.some.inj (fC.symm.trans hK.2.1.2.1.2)
  subst hcA; subst hcy
  have hTh : (T.setVm vm₁).heap = H := hT
  obtain ⟨f1, f2, -, -⟩ := Jvm.Free.Multi.fill_facts (T.setVm vm₁) (gA g 3) (gA g 1) x.toNat y.toNat (defaultValue .long) x.toNat
  have hold := fun (z : Nat) (hz : z < H.size) => Jvm.Free.Multi.fill_old (T.setVm vm₁) (gA g 3) (gA g 1) x.toNat y.toNat (defaultValue .long) (a := z) (by rw [hTh]; exact hz) x.toNat
  have hinn := Jvm.Free.Multi.fill_inner (T.setVm vm₁) (gA g 3) (gA g 1) x.toNat y.toNat (defaultValue .long) x.toNat
  generalize Jvm.Free.Multi.fill (T.setVm vm₁) (gA g 3) (gA g 1) x.toNat y.toNat (defaultValue .long) x.toNat = F at X' step f1 f2 hold hinn
  rw [hTh] at f1 f2 hold hinn
  have k3 : (sh n).1 = 3 := by rw [hsh]
  have hnew : HR g (n + 1 + x.toNat) (hmul h n x.toNat) F.heap := by
    obtain ⟨q1, q2, q3, q4⟩ := q.1
    refine ⟨by rw [f1, q1]; omega, hn, fun z hz => by rw [hold z (by omega)]; exact q3 z hz, fun b hb => ?_⟩
    by_cases eb : b = n
    · subst eb
      refine ⟨?_, fun j hj => ?_⟩
      · unfold cellR
        rw [if_pos (by omega), k3, ← hHs, f2, outer_arr _ _ _ _ (Nat.le_refl _), hsh]
        refine congrArg some (arrV_ext fun j hj => ?_)
        rw [if_pos hj, lk_arr k3 (by omega)]
        have e1 : hmul h b x.toNat b j = ((b + 1 + j : Nat) : Int) := if_pos rfl
        rw [e1]
        show _ = cv g (2, ((b + 1 + j : Nat) : Int))
        rw [cv_n (by omega)]
        exact congrArg Value.ref (show H.size + 1 + j = gsz g + (b + 1 + j) by omega)
      · rw [lk_arr k3 (by omega)]
        have e1 : hmul h b x.toNat b j = ((b + 1 + j : Nat) : Int) := if_pos rfl
        rw [e1]
        show (-1 : Int) ≤ _
        omega
    · by_cases e2 : n < b ∧ b ≤ n + x.toNat
      · have hbi := hin' (b - n - 1) (by omega)
        rw [show n + 1 + (b - n - 1) = b by omega] at hbi
        have k1 : (sh b).1 = 1 := by rw [hbi]
        have e3 : hmul h n x.toNat b = fun _ => 0 := funext fun i => by unfold hmul; rw [if_neg eb, if_pos e2]
        rw [e3]
        refine ⟨?_, fun j hj => ?_⟩
        · unfold cellR
          rw [if_pos (by omega), k1, show gsz g + b = H.size + 1 + (b - n - 1) by omega, hinn _ (by omega), hbi]
          refine congrArg some ?_
          show ({ cls := gA g 1, slots := Array.replicate y.toNat (defaultValue .long), vm := .none } : Cell) = _
          rw [arrV_new]
          refine congrArg (arrV (gA g 1) y.toNat) (funext fun j => ?_)
          rw [lk_arr k1 (by omega)]
          rfl
        · rw [lk_arr k1 (by omega)]
          show in64 0; unfold in64; omega
      · have e3 : hmul h n x.toNat b = h b := funext fun i => by unfold hmul; rw [if_neg eb, if_neg e2]
        rw [e3]
        exact ⟨(q4 b (by omega)).1.kept (hold _ (by omega)), (q4 b (by omega)).2⟩
  have w := hk p e R s m args below meth c Z E F.heap locs ls ⟨hnew, q.2.1, q.2.2.1, okc (by show (-1 : Int) ≤ n; omega) (okr (okr q.2.2.2.1)), q.2.2.2.2⟩ (by show n0 ≤ n + 1 + x.toNat; omega) hn1
  have en : n + 1 + x.toNat - n0 = n - n0 + 1 + x.toNat := by omega
  have es2 : slN (n + 1 + x.toNat) - slN n0 = slN n - slN n0 + x.toNat + x.toNat * y.toNat := by
    rw [es]; have := slN_mono h0; omega
  dsimp only at w
  rw [en, es2, List.map_cons, cv_n (by omega), ← hHs] at w
  obtain ⟨t, a1, b1⟩ := w F rfl X'
  refine ⟨t, step t ?_, b1⟩
  rw [hT]
  exact a1
end SMu
