/-! THE BYTES (to be decided in parts of their own) -/
theorem hT_all : ∀ k, okL k 0 (tk k) = true := sorry
theorem hM_all : ∀ k, kGood k = true → okM k = true := sorry
