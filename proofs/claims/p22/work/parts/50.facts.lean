/-! THE BYTES: what is told of them apart (the last parts) -/
def BytesOK : Prop := (∀ k, okL k 0 (tk k) = true) ∧ ∀ k, kGood k = true → okM k = true
theorem nilK {α : Type} {P : α → Prop} : ∀ z ∈ ([] : List α), P z := fun _ h => by cases h
