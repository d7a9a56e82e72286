/-! THE BYTES -/
abbrev okQ (k : Nat) : Prop := okL k 0 (tk k) = true ∧ (kGood k = true → okM k = true)
def okB (ks : List Nat) : Bool := ks.all fun k => okE k (mcode k).data.toList 0 (tk k) && (decide (k = 0) || (decide (302 ≤ k) || okM k))
theorem okB_x {ks : List Nat} (h : okB ks = true) : ∀ k ∈ ks, okQ k := by
  intro k hk
  have h2 := List.all_eq_true.mp h k hk
  simp only [Bool.and_eq_true, Bool.or_eq_true, decide_eq_true_eq] at h2
  refine ⟨okE_ok (show (mcode k).data.toList = (mcode k).data.toList.drop 0 from rfl) h2.1, fun hg => ?_⟩
  have h3 := kGood_x hg
  rcases h2.2 with h4 | h4 | h4
  · omega
  · omega
  · exact h4
def bK_0 : List Nat := [0]
theorem bB_0 : okB bK_0 = true := by decide +kernel
def bK_1 : List Nat := [1, 2, 3, 4, 5, 6, 7, 8, 9, 10, 11, 12, 13, 14, 15, 16, 17, 18, 19, 20, 21, 22, 23]
theorem bB_1 : okB bK_1 = true := by decide +kernel
def bK_2 : List Nat := [24, 25, 26, 27, 28, 29, 30, 31, 32, 33, 34, 35, 36, 37, 38, 39, 40]
theorem bB_2 : okB bK_2 = true := by decide +kernel
def bK_3 : List Nat := [41, 42, 43, 44, 45, 46, 47, 48, 49, 50, 51, 52, 53, 54, 55, 56, 57]
theorem bB_3 : okB bK_3 = true := by decide +kernel
def bK_4 : List Nat := [58, 59, 60, 61, 62, 63, 64, 65, 66, 67, 68, 69, 70, 71, 72, 73, 74, 75, 76, 77, 78, 79]
theorem bB_4 : okB bK_4 = true := by decide +kernel
def bK_5 : List Nat := [80, 81, 82, 83, 84, 85, 86, 87, 88, 89, 90, 91, 92, 93, 94, 95]
theorem bB_5 : okB bK_5 = true := by decide +kernel
def bK_6 : List Nat := [96, 97, 98, 99, 100, 101, 102, 103, 104, 105, 106, 107, 108, 109, 110, 111]
theorem bB_6 : okB bK_6 = true := by decide +kernel
def bK_7 : List Nat := [112, 113, 114, 115, 116, 117, 118, 119, 120, 121, 122, 123, 124, 125, 126, 127, 128, 129, 130, 131, 132, 133, 134, 135, 136, 137, 138, 139, 140, 141, 142]
theorem bB_7 : okB bK_7 = true := by decide +kernel
