/-! THE BYTES, ALL -/
def bAll : List Nat := bK_0 ++ (bK_1 ++ (bK_2 ++ (bK_3 ++ (bK_4 ++ (bK_5 ++ (bK_6 ++ (bK_7 ++ (bK_8 ++ (bK_9 ++ (bK_10 ++ (bK_11 ++ (bK_12 ++ (bK_13 ++ (bK_14 ++ (bK_15 ++ (bK_16 ++ (bK_17)))))))))))))))))
theorem bAll_in : ∀ k, k < 313 → k ∈ bAll := by decide +kernel
theorem bAll_x : ∀ k ∈ bAll, okQ k := List.forall_mem_append.mpr ⟨okB_x bB_0, List.forall_mem_append.mpr ⟨okB_x bB_1, List.forall_mem_append.mpr ⟨okB_x bB_2, List.forall_mem_append.mpr ⟨okB_x bB_3, List.forall_mem_append.mpr ⟨okB_x bB_4, List.forall_mem_append.mpr ⟨okB_x bB_5, List.forall_mem_append.mpr ⟨okB_x bB_6, List.forall_mem_append.mpr ⟨okB_x bB_7, List.forall_mem_append.mpr ⟨okB_x bB_8, List.forall_mem_append.mpr ⟨okB_x bB_9, List.forall_mem_append.mpr ⟨okB_x bB_10, List.forall_mem_append.mpr ⟨okB_x bB_11, List.forall_mem_append.mpr ⟨okB_x bB_12, List.forall_mem_append.mpr ⟨okB_x bB_13, List.forall_mem_append.mpr ⟨okB_x bB_14, List.forall_mem_append.mpr ⟨okB_x bB_15, List.forall_mem_append.mpr ⟨okB_x bB_16, okB_x bB_17⟩⟩⟩⟩⟩⟩⟩⟩⟩⟩⟩⟩⟩⟩⟩⟩⟩
theorem tk_out : ∀ k, 313 ≤ k → tk k = [] := fun k hk => by
  unfold tk
  rw [List.getD_eq_getElem?_getD, List.getElem?_eq_none (by rw [show kTs.length = 313 from by decide +kernel]; exact hk)]
  rfl
theorem bytes_all : ∀ k, okQ k := by
  intro k
  by_cases h : k < 313
  · exact bAll_x k (bAll_in k h)
  · refine ⟨by rw [tk_out k (by omega)]; rfl, fun hg => ?_⟩
    have := kGood_x hg
    omega
theorem bytesOK : BytesOK := ⟨fun k => (bytes_all k).1, fun k => (bytes_all k).2⟩
