/-! WHAT IS KNOWN WHERE THE LAW BEGINS -/
def stm (i : Nat) : Term := .string "BoxLeaves$Tape" (kStr.getD i (0, "")).1
abbrev stF : List Jvm.Cond := flatC (Jvm.Cond.and given_1 narrow_1)
theorem sf_ex : ∀ i, i < 20 → (Jvm.Cond.exactly (stm i) "java/lang/String") ∈ stF := by decide +kernel
theorem sf_co : ∀ i, i < 20 → (Jvm.Cond.eq (.field (stm i) "java/lang/String" "coder" "B") (.int 0)) ∈ stF := by decide +kernel
theorem sf_ar : ∀ i, i < 20 → (Jvm.Cond.arrayOf (.field (stm i) "java/lang/String" "value" "[B") .byte) ∈ stF := by decide +kernel
theorem sf_le : ∀ i, i < 20 → (Jvm.Cond.eq (.length (.field (stm i) "java/lang/String" "value" "[B")) (.int (Int32.ofNat (kSlen.getD i 0)))) ∈ stF := by decide +kernel
theorem sf_el : ∀ i, i < 20 → ∀ j, j < kSlen.getD i 0 → (Jvm.Cond.eq (.elem (.field (stm i) "java/lang/String" "value" "[B") (.int (Int32.ofNat j))) (.int ((kSbyt.getD i []).getD j 0))) ∈ stF := by decide +kernel
/-- pairs of texts said to differ -/
def stN : List (Nat × Nat) := stF.filterMap fun w => match w with
  | .not (.eq (.string a i) (.string b j)) => if a = "BoxLeaves$Tape" ∧ b = "BoxLeaves$Tape" then some (i, j) else none
  | _ => none
theorem stN_x {i j : Nat} (h : (i, j) ∈ stN) : (Jvm.Cond.not (Jvm.Cond.eq (.string "BoxLeaves$Tape" i) (.string "BoxLeaves$Tape" j))) ∈ stF := by
  unfold stN at h
  obtain ⟨w, hw, h⟩ := List.mem_filterMap.mp h
  split at h
  · split at h
    · rename_i e
      obtain ⟨rfl, rfl⟩ := e
      cases h
      exact hw
    · cases h
  · cases h
def stP (i j : Nat) : Bool := stN.any fun q => q.1 == (kStr.getD i (0, "")).1 && q.2 == (kStr.getD j (0, "")).1
theorem stP_x {i j : Nat} (h : stP i j = true) : ((kStr.getD i (0, "")).1, (kStr.getD j (0, "")).1) ∈ stN := by
  unfold stP at h
  rw [List.any_eq_true] at h
  obtain ⟨q, hq, h⟩ := h
  simp only [Bool.and_eq_true, beq_iff_eq] at h
  rw [← h.1, ← h.2]
  exact hq
theorem sf_np : ∀ i, i < 20 → ∀ j, j < 20 → i ≠ j → (stP i j || stP j i) = true := by decide +kernel
theorem sf_ne (i : Nat) (hi : i < 20) (j : Nat) (hj : j < 20) (hne : i ≠ j) : (Jvm.Cond.not (Jvm.Cond.eq (stm i) (stm j))) ∈ stF ∨ (Jvm.Cond.not (Jvm.Cond.eq (stm j) (stm i))) ∈ stF :=
  ((Bool.or_eq_true _ _).mp (sf_np i hi j hj hne)).imp (fun h => stN_x (stP_x h)) (fun h => stN_x (stP_x h))
theorem sf_cs : (Jvm.Cond.eq (.static "java/lang/String" "COMPACT_STRINGS" "Z") (.int 1)) ∈ stF := by decide +kernel
theorem sf_fo : (Jvm.Cond.isRef (.static "jdk/internal/util/Preconditions" "SIOOBE_FORMATTER" "Ljava/util/function/BiFunction;")) ∈ stF := by decide +kernel
theorem sw_str : ∀ i, i < 20 → (Jvm.Cond.stringRef "BoxLeaves$Tape" (kStr.getD i (0, "")).1 (kStr.getD i (0, "")).2) ∈ lw_tbl := by decide +kernel
theorem sw_lay : (Jvm.Cond.laysStatic "java/lang/String" "COMPACT_STRINGS" "Z") ∈ lw_tbl ∧ (Jvm.Cond.initialized "java/lang/String") ∈ lw_tbl ∧ (Jvm.Cond.laysStatic "jdk/internal/util/Preconditions" "SIOOBE_FORMATTER" "Ljava/util/function/BiFunction;") ∈ lw_tbl ∧ (Jvm.Cond.initialized "jdk/internal/util/Preconditions") ∈ lw_tbl ∧ (Jvm.Cond.arrayClass .int) ∈ lw_tbl ∧ (Jvm.Cond.arrayClass .long) ∈ lw_tbl ∧ (Jvm.Cond.arrayOver (.object "BoxLeaves$Terms")) ∈ lw_tbl ∧ (Jvm.Cond.arrayOver (.array .long)) ∈ lw_tbl := by decide +kernel
theorem sw_ins : ∀ i, i < 12 → (Jvm.Cond.instantiable (kCls.getD i ("", kF0, 0)).1 (kCls.getD i ("", kF0, 0)).2.2) ∈ lw_tbl := by decide +kernel
theorem kNest_in : ∀ q ∈ kNest, (Jvm.Cond.methodLinkNest q.1 q.2.1 q.2.2 "BoxLeaves") ∈ lw_tbl := by
  intro q hq
  unfold kNest at hq
  obtain ⟨w, hw, h⟩ := List.mem_filterMap.mp hq
  cases w with
  | methodLinkNest a i x h9 =>
    dsimp only at h
    split at h
    · rename_i e
      subst e
      cases h
      exact hw
    · cases h
  | _ => cases h
theorem arr_of {s : State} {t : FieldType} {cA : ClassId} {kA : Class} {comp : ClassId} (h2 : s.vm.classes[cA]? = some kA) (h3 : kA.kind = .array comp t) : ArrOfT s cA t := fun N z => ⟨fun q hq => (by cases hq), kA, h2, comp, h3⟩
theorem ks_start {s : State} {b L : Nat} {xs : Nat → Int32} (hts : ∀ w ∈ lw_tbl, w.before #[Value.ref b] s = true) (hgv : (Jvm.Cond.and given_1 narrow_1).before #[Value.ref b] s = true) (hX : va_X b L xs s s.heap) (hbl : b < s.heap.size) (hL : L ≤ 3072) : ∃ g : bG, g.1 = s.heap ∧ g.2.1 = (b, L, xs) ∧ KS g s := by
  have hf := flat_of_before _ hgv
  obtain ⟨w1, w2, w3, w4, w5, w6, w7, w8⟩ := sw_lay
  have hA : ∀ a : Nat, a < s.heap.size → ¬ (s.heap.size ≤ a) := fun a ha => Nat.not_le.mpr ha
  obtain ⟨adK, adV, hS, hev⟩ := vk_Sof (args := #[Value.ref b]) (s := s) (N := 20) (tm := stm) (len := kSlen) (byt := kSbyt) (A := fun q => s.heap.size ≤ q) (fun i hi => by have := slen_ok i hi; unfold slen at this; omega) (fun i hi => hf _ (sf_ex i hi)) (fun i hi => hf _ (sf_co i hi)) (fun i hi => hf _ (sf_ar i hi)) (fun i hi => hf _ (sf_le i hi)) (fun i hi j hj => hf _ (sf_el i hi j hj)) (fun i j hi hj hne => (sf_ne i hi j hj hne).imp (fun h => hf _ h) (fun h => hf _ h)) hA
  have hKn : ∀ i, i < 12 → ∃ (cC : ClassId) (iS : Nat → Nat), u_Kn s (kCls.getD i ("", kF0, 0)).1 (kCls.getD i ("", kF0, 0)).2.1 (kCls.getD i ("", kF0, 0)).2.2 cC iS := by
    intro i hi
    have hm : kCls.getD i ("", kF0, 0) ∈ kCls := by
      rw [List.getD_eq_getElem?_getD, List.getElem?_eq_getElem (by rw [kCls_len]; exact hi)]
      exact List.getElem_mem _
    exact u_known hts (fun w hw => (kF_in _ hm w hw).1) (hts _ (sw_ins i hi))
  obtain ⟨dC, hdC⟩ : ∃ dC : Nat → ClassId, ∀ i, i < 12 → ∃ iS : Nat → Nat, u_Kn s (kCls.getD i ("", kF0, 0)).1 (kCls.getD i ("", kF0, 0)).2.1 (kCls.getD i ("", kF0, 0)).2.2 (dC i) iS := by
    refine ⟨fun i => if h : i < 12 then (hKn i h).choose else 0, fun i hi => ?_⟩
    dsimp only
    rw [dif_pos hi]
    exact (hKn i hi).choose_spec
  obtain ⟨dI, hdI⟩ : ∃ dI : Nat → Nat → Nat, ∀ i, i < 12 → u_Kn s (kCls.getD i ("", kF0, 0)).1 (kCls.getD i ("", kF0, 0)).2.1 (kCls.getD i ("", kF0, 0)).2.2 (dC i) (dI i) := by
    refine ⟨fun i => if h : i < 12 then (hdC i h).choose else fun _ => 0, fun i hi => ?_⟩
    dsimp only
    rw [dif_pos hi]
    exact (hdC i hi).choose_spec
  obtain ⟨a0, k0, c0, a1, a2, a3⟩ := Cond.arrayClass_spec (hts _ w5)
  obtain ⟨b0, k1, c1, b1, b2, b3⟩ := Cond.arrayClass_spec (hts _ w6)
  obtain ⟨c2, t0, k2, t1, t2, t3, t4, t5⟩ := Cond.arrayOver_spec (hts _ w7)
  have w8' : bAO (.array .long) s := hts _ w8
  obtain ⟨c3, u0, k3, u1, u2, u3, u4, u5⟩ := bAO_x w8'
  have hz1 : va_Z "java/lang/String" "COMPACT_STRINGS" "Z" (.int 1) (fun q => s.heap.size ≤ q) s s.heap := va_Zof (hts _ w1) (hts _ w2) (Cond.eq_int (hf _ sf_cs) rfl) hA
  have hz2 := va_Zqof (A := fun q => s.heap.size ≤ q) (hts _ w3) (hts _ w4) (hf _ sf_fo) hA
  have hz2' : ∃ f : Nat, va_Z "jdk/internal/util/Preconditions" "SIOOBE_FORMATTER" "Ljava/util/function/BiFunction;" .null (fun q => s.heap.size ≤ q) s s.heap ∨ va_Z "jdk/internal/util/Preconditions" "SIOOBE_FORMATTER" "Ljava/util/function/BiFunction;" (.ref f) (fun q => s.heap.size ≤ q) s s.heap := by
    rcases hz2 with h | ⟨f, h⟩
    · exact ⟨0, Or.inl h⟩
    · exact ⟨f, Or.inr h⟩
  obtain ⟨f, hz3⟩ := hz2'
  refine ⟨(s.heap, (b, L, xs), adK, adV, dC, dI, fun q => if q = 0 then a0 else if q = 1 then b0 else if q = 2 then t0 else u0, f), rfl, rfl, ?_⟩
  refine ⟨?_, ⟨⟨arr_of a2 a3, a1⟩, ⟨arr_of b2 b3, b1⟩, ⟨arr_of t3 t4, k2, c2, t3, t4, t1, t5⟩, arr_of u3 u4, u5, hts _ w7, w8'⟩, ?_, ?_, hS, hz1, hz3, hX, hbl, hL⟩
  · intro c q hq
    obtain ⟨h1, h2⟩ := kCls_at hq
    have := hdI c h1
    rw [h2] at this
    exact this
  · intro q hq
    exact va_Nw.of rfl (hts _ (kNest_in q hq))
  · intro i q hq
    have hi : i < 20 := (List.getElem?_eq_some_iff.mp hq).1
    have hg : kStr.getD i (0, "") = q := by rw [List.getD_eq_getElem?_getD, hq]; rfl
    have h1 := hts _ (sw_str i hi)
    have h2 := hev i hi
    unfold stm at h2
    rw [hg] at h1 h2
    exact vk_R.of h1 h2
