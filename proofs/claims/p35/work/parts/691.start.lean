/-! THE RELATION AT THE START -/
theorem t0c {L : bC} {ρ : Nat → Int} {h : bH} (q : aIn (PofW gT none true) L (fun _ _ => 0) ρ h lwT0) {a j : Nat} {v : Int} (hm : ((a, j), ((v, []) : Fm)) ∈ cC lwT0.2.2) : h a j = v := (q.1.2.2.1 _ hm).2.trans (fcon_ev ρ v)
theorem t0cx194 : ∀ j : Nat, j < 48 → (((194, 588 + j), ((0, []) : Fm)) : (Nat × Nat) × Fm) ∈ cC lwT0.2.2 := by decide +kernel
theorem t0cx195 : ∀ j : Nat, j < 48 → (((195, 588 + j), ((0, []) : Fm)) : (Nat × Nat) × Fm) ∈ cC lwT0.2.2 := by decide +kernel
theorem RR0 : ∀ (L : bC) (ρ : Nat → Int) (h : bH), aIn (PofW gT none true) L (fun _ _ => 0) ρ h lwT0 → RR PS GS h := fun L ρ h q => ⟨(t0c q (a := 0) (j := 2) (v := 0) (by decide +kernel)).trans (t0c q (a := 193) (j := 2) (v := 0) (by decide +kernel)).symm, (List.forall_mem_cons.mpr ⟨⟨(fun i hi => by
  match i, hi with
  | 0, _ => exact (t0c q (a := 32) (j := 0) (v := 0) (by decide +kernel)).trans (t0c q (a := 194) (j := 582) (v := 0) (by decide +kernel)).symm
  | 1, _ => exact (t0c q (a := 32) (j := 1) (v := 0) (by decide +kernel)).trans (t0c q (a := 194) (j := 583) (v := 0) (by decide +kernel)).symm
  | 2, _ => exact (t0c q (a := 32) (j := 2) (v := 0) (by decide +kernel)).trans (t0c q (a := 194) (j := 584) (v := 0) (by decide +kernel)).symm
  | 3, _ => exact (t0c q (a := 32) (j := 3) (v := 0) (by decide +kernel)).trans (t0c q (a := 194) (j := 585) (v := 0) (by decide +kernel)).symm
  | 4, _ => exact (t0c q (a := 32) (j := 4) (v := 0) (by decide +kernel)).trans (t0c q (a := 194) (j := 586) (v := 0) (by decide +kernel)).symm
  | 5, _ => exact (t0c q (a := 32) (j := 5) (v := 0) (by decide +kernel)).trans (t0c q (a := 194) (j := 587) (v := 0) (by decide +kernel)).symm
  | i + 6, hi => exact absurd hi (by omega)), (fun i hi => by
  match i, hi with
  | 0, _ => exact (t0c q (a := 116) (j := 0) (v := 0) (by decide +kernel)).trans (t0c q (a := 195) (j := 582) (v := 0) (by decide +kernel)).symm
  | 1, _ => exact (t0c q (a := 116) (j := 1) (v := 0) (by decide +kernel)).trans (t0c q (a := 195) (j := 583) (v := 0) (by decide +kernel)).symm
  | 2, _ => exact (t0c q (a := 116) (j := 2) (v := 0) (by decide +kernel)).trans (t0c q (a := 195) (j := 584) (v := 0) (by decide +kernel)).symm
  | 3, _ => exact (t0c q (a := 116) (j := 3) (v := 0) (by decide +kernel)).trans (t0c q (a := 195) (j := 585) (v := 0) (by decide +kernel)).symm
  | 4, _ => exact (t0c q (a := 116) (j := 4) (v := 0) (by decide +kernel)).trans (t0c q (a := 195) (j := 586) (v := 0) (by decide +kernel)).symm
  | 5, _ => exact (t0c q (a := 116) (j := 5) (v := 0) (by decide +kernel)).trans (t0c q (a := 195) (j := 587) (v := 0) (by decide +kernel)).symm
  | i + 6, hi => exact absurd hi (by omega))⟩, (List.forall_mem_cons.mpr ⟨⟨(fun o ho m hm => by
  have e1 : h 33 o = 0 := by
    match o, ho with
    | 0, _ => exact t0c q (a := 33) (j := 0) (v := 0) (by decide +kernel)
    | 1, _ => exact t0c q (a := 33) (j := 1) (v := 0) (by decide +kernel)
    | 2, _ => exact t0c q (a := 33) (j := 2) (v := 0) (by decide +kernel)
    | 3, _ => exact t0c q (a := 33) (j := 3) (v := 0) (by decide +kernel)
    | 4, _ => exact t0c q (a := 33) (j := 4) (v := 0) (by decide +kernel)
    | 5, _ => exact t0c q (a := 33) (j := 5) (v := 0) (by decide +kernel)
    | 6, _ => exact t0c q (a := 33) (j := 6) (v := 0) (by decide +kernel)
    | 7, _ => exact t0c q (a := 33) (j := 7) (v := 0) (by decide +kernel)
    | i + 8, hi => exact absurd hi (by omega)
  have e2 : ∀ j : Nat, j < 48 → h 194 (588 + j) = 0 := fun j hj => t0c q (a := 194) (j := 588 + j) (v := 0) (t0cx194 j hj)
  show h 194 (588 + 6 * o + m) = if bitB (h 33 o) m = true then 1 else 0
  rw [e1, bitB_0, show 588 + 6 * o + m = 588 + (6 * o + m) by omega, e2 (6 * o + m) (by omega)]
  rfl), (fun o ho m hm => by
  have e1 : h 117 o = 0 := by
    match o, ho with
    | 0, _ => exact t0c q (a := 117) (j := 0) (v := 0) (by decide +kernel)
    | 1, _ => exact t0c q (a := 117) (j := 1) (v := 0) (by decide +kernel)
    | 2, _ => exact t0c q (a := 117) (j := 2) (v := 0) (by decide +kernel)
    | 3, _ => exact t0c q (a := 117) (j := 3) (v := 0) (by decide +kernel)
    | 4, _ => exact t0c q (a := 117) (j := 4) (v := 0) (by decide +kernel)
    | 5, _ => exact t0c q (a := 117) (j := 5) (v := 0) (by decide +kernel)
    | 6, _ => exact t0c q (a := 117) (j := 6) (v := 0) (by decide +kernel)
    | 7, _ => exact t0c q (a := 117) (j := 7) (v := 0) (by decide +kernel)
    | i + 8, hi => exact absurd hi (by omega)
  have e2 : ∀ j : Nat, j < 48 → h 195 (588 + j) = 0 := fun j hj => t0c q (a := 195) (j := 588 + j) (v := 0) (t0cx195 j hj)
  show h 195 (588 + 6 * o + m) = if bitB (h 117 o) m = true then 1 else 0
  rw [e1, bitB_0, show 588 + 6 * o + m = 588 + (6 * o + m) by omega, e2 (6 * o + m) (by omega)]
  rfl)⟩, (fun _ hc => by cases hc)⟩)⟩), (fun _ hc => by cases hc)⟩
