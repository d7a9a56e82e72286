/-- M.kindOfClaim ((('c', 193), ('u', 0)), ()) -/
def c_364 : aCt := (278, 2, some [], false, ([(0, 15)], [], [], 212), [(2, (193, [])), (0, (0, [(0, 1)]))], [(([(0, 15), (0, 3)], [], [], 212), some (0, (0, [(1, 1)])))])
def s_364 : List aCt := [c_241]
def h_364 : List (Nat × aS × Fm) := []
theorem e_364 : ckE 6000 gT s_364 (fun _ => 0) sp0 c_364 h_364 = true := by decide +kernel
theorem k_364 (hB : BytesOK) (g : bG) (l : Launch) : Keeps g l gT c_364 := keeps_of hB.1 hB.2 (List.forall_mem_cons.mpr ⟨k_241 hB g l, nilK⟩) e_364 nilK
/-- M.taken ((('c', 193), ('u', 0), ('u', 0)), (((209, 0), ('u',)), ((209, 1), ('u',)), ((209, 2), ('u',)), ((209, 3), ('u',)), ((210, 0), ('u',)), ((21 -/
def c_365 : aCt := (280, 4, some [], false, ([((-2147483648), 2147483647), ((-2147483648), 2147483647), (0, 4), (0, 4), (0, 4), (0, 4), (0, 23), (0, 23), (0, 23), (0, 23)], [((-71), [(2, 16), (6, 1)]), ((-71), [(3, 16), (7, 1)]), ((-71), [(4, 16), (8, 1)]), ((-71), [(5, 16), (9, 1)])], [((209, 0), (0, [(2, 1)])), ((209, 1), (0, [(3, 1)])), ((209, 2), (0, [(4, 1)])), ((209, 3), (0, [(5, 1)])), ((210, 0), (0, [(6, 1)])), ((210, 1), (0, [(7, 1)])), ((210, 2), (0, [(8, 1)])), ((210, 3), (0, [(9, 1)]))], 212), [(2, (193, [])), (0, (0, [(0, 1)])), (0, (0, [(1, 1)]))], [(([((-2147483648), 2147483647), ((-2147483648), 2147483647), (0, 4), (0, 4), (0, 4), (0, 4), (0, 23), (0, 23), (0, 23), (0, 23), ((-13), 40)], [], [], 212), some (0, (0, [(10, 1)])))])
def sp_365 : aSp := fun k pc S => if pc = 0 ∧ k = 280 then spL 1 [(-1), 0, 1, 2, 3] S else none
def s_365 : List aCt := [c_364]
def h_365 : List (Nat × aS × Fm) := []
theorem e_365 : ckE 6000 gT s_365 (fun _ => 0) sp_365 c_365 h_365 = true := by decide +kernel
theorem k_365 (hB : BytesOK) (g : bG) (l : Launch) : Keeps g l gT c_365 := keeps_of hB.1 hB.2 (List.forall_mem_cons.mpr ⟨k_364 hB g l, nilK⟩) e_365 nilK
/-- M.begins ((('c', 193), ('u', 0)), ()) -/
def c_366 : aCt := (281, 0, some [(193, 42, 43), (211, 0, 30)], false, ([(10, 99)], [], [], 212), [(2, (193, [])), (0, (0, [(0, 1)]))], [(([(10, 99)], [], [], 212), none)])
def s_366 : List aCt := []
def h_366 : List (Nat × aS × Fm) := []
theorem e_366 : ckE 6000 gT s_366 (fun _ => 0) sp0 c_366 h_366 = true := by decide +kernel
theorem k_366 (hB : BytesOK) (g : bG) (l : Launch) : Keeps g l gT c_366 := keeps_of hB.1 hB.2 (nilK) e_366 nilK
/-- M.readsIt ((('c', 193), ('u', 0)), ()) -/
def c_367 : aCt := (283, 2, some [(193, 42, 43), (211, 0, 30)], false, ([((-2147483648), 2147483647)], [], [], 212), [(2, (193, [])), (0, (0, [(0, 1)]))], [(([((-2147483648), 2147483647), ((-2147483648), 2147483647)], [], [], 212), some (0, (0, [(1, 1)])))])
def s_367 : List aCt := [c_366]
def h_367 : List (Nat × aS × Fm) := []
theorem e_367 : ckE 6000 gT s_367 (fun _ => 0) sp0 c_367 h_367 = true := by decide +kernel
theorem k_367 (hB : BytesOK) (g : bG) (l : Launch) : Keeps g l gT c_367 := keeps_of hB.1 hB.2 (List.forall_mem_cons.mpr ⟨k_366 hB g l, nilK⟩) e_367 nilK
/-- M.counts ((('c', 193), ('u', 0)), ()) -/
def c_368 : aCt := (286, 5, some [(193, 42, 43), (211, 0, 30)], false, ([((-2147483648), 2147483647)], [], [], 212), [(2, (193, [])), (0, (0, [(0, 1)]))], [(([((-2147483648), 2147483647), ((-2147483648), 2147483647)], [], [], 212), some (0, (0, [(1, 1)])))])
def s_368 : List aCt := [c_366, c_367]
def h_368 : List (Nat × aS × Fm) := []
theorem e_368 : ckE 6000 gT s_368 (fun _ => 0) sp0 c_368 h_368 = true := by decide +kernel
theorem k_368 (hB : BytesOK) (g : bG) (l : Launch) : Keeps g l gT c_368 := keeps_of hB.1 hB.2 (List.forall_mem_cons.mpr ⟨k_366 hB g l, List.forall_mem_cons.mpr ⟨k_367 hB g l, nilK⟩⟩) e_368 nilK
/-- M.claimPays ((('c', 193), ('u', 0)), ()) -/
def c_369 : aCt := (287, 1, some [(193, 42, 43), (193, 46, 47), (211, 0, 30)], false, ([((-2147483648), 2147483647)], [], [], 212), [(2, (193, [])), (0, (0, [(0, 1)]))], [(([((-2147483648), 2147483647), ((-2147483648), 2147483647)], [], [], 212), some (0, (0, [(1, 1)])))])
def sp_369 : aSp := fun k pc S => if pc = 15 ∧ k = 287 then spD [(-1), 0] S else none
def s_369 : List aCt := [c_366]
def h_369 : List (Nat × aS × Fm) := []
theorem e_369 : ckE 6000 gT s_369 (fun _ => 0) sp_369 c_369 h_369 = true := by decide +kernel
theorem k_369 (hB : BytesOK) (g : bG) (l : Launch) : Keeps g l gT c_369 := keeps_of hB.1 hB.2 (List.forall_mem_cons.mpr ⟨k_366 hB g l, nilK⟩) e_369 nilK
/-- M.paysIt ((('c', 193), ('u', 0)), ()) -/
def c_370 : aCt := (288, 2, some [(193, 42, 43), (193, 46, 47), (211, 0, 30)], false, ([((-2147483648), 2147483647)], [], [], 212), [(2, (193, [])), (0, (0, [(0, 1)]))], [(([((-2147483648), 2147483647), ((-2147483648), 2147483647)], [], [], 212), some (0, (0, [(1, 1)])))])
def s_370 : List aCt := [c_366, c_369]
def h_370 : List (Nat × aS × Fm) := []
theorem e_370 : ckE 6000 gT s_370 (fun _ => 0) sp0 c_370 h_370 = true := by decide +kernel
theorem k_370 (hB : BytesOK) (g : bG) (l : Launch) : Keeps g l gT c_370 := keeps_of hB.1 hB.2 (List.forall_mem_cons.mpr ⟨k_366 hB g l, List.forall_mem_cons.mpr ⟨k_369 hB g l, nilK⟩⟩) e_370 nilK
/-- M.ends ((('c', 193), ('u', 0)), ()) -/
def c_371 : aCt := (290, 7, some [(193, 42, 43), (193, 46, 47), (211, 0, 30)], false, ([((-2147483648), 2147483647)], [], [], 212), [(2, (193, [])), (0, (0, [(0, 1)]))], [(([((-2147483648), 2147483647), ((-2147483648), 2147483647)], [], [], 212), some (0, (0, [(1, 1)])))])
def s_371 : List aCt := [c_366, c_368, c_370]
def h_371 : List (Nat × aS × Fm) := []
theorem e_371 : ckE 6000 gT s_371 (fun _ => 0) sp0 c_371 h_371 = true := by decide +kernel
theorem k_371 (hB : BytesOK) (g : bG) (l : Launch) : Keeps g l gT c_371 := keeps_of hB.1 hB.2 (List.forall_mem_cons.mpr ⟨k_366 hB g l, List.forall_mem_cons.mpr ⟨k_368 hB g l, List.forall_mem_cons.mpr ⟨k_370 hB g l, nilK⟩⟩⟩) e_371 nilK
/-- M.act ((('c', 193), ('u', 0), ('u', 0), ('u', 0)), ()) -/
def c_372 : aCt := (291, 8, some [(193, 42, 47), (211, 0, 30)], false, ([((-2147483648), 2147483647), ((-2147483648), 2147483647), ((-2147483648), 2147483647)], [], [], 212), [(2, (193, [])), (0, (0, [(0, 1)])), (0, (0, [(1, 1)])), (0, (0, [(2, 1)]))], [(([((-2147483648), 2147483647), ((-2147483648), 2147483647), ((-2147483648), 2147483647), ((-2147483648), 2147483647)], [], [], 212), some (0, (0, [(3, 1)])))])
def s_372 : List aCt := [c_364, c_367, c_368, c_370, c_371]
def h_372 : List (Nat × aS × Fm) := []
theorem e_372 : ckE 6000 gT s_372 (fun _ => 0) sp0 c_372 h_372 = true := by decide +kernel
theorem k_372 (hB : BytesOK) (g : bG) (l : Launch) : Keeps g l gT c_372 := keeps_of hB.1 hB.2 (List.forall_mem_cons.mpr ⟨k_364 hB g l, List.forall_mem_cons.mpr ⟨k_367 hB g l, List.forall_mem_cons.mpr ⟨k_368 hB g l, List.forall_mem_cons.mpr ⟨k_370 hB g l, List.forall_mem_cons.mpr ⟨k_371 hB g l, nilK⟩⟩⟩⟩⟩) e_372 nilK
