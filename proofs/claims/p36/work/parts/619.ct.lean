/-- M.kindOfClaim ((('c', 193), ('u', 0)), ()) -/
def c_305 : aCt := (278, 2, some [], false, ([(0, 15)], [], [], 212), [(2, (193, [])), (0, (0, [(0, 1)]))], [(([(0, 15), (0, 3)], [], [], 212), some (0, (0, [(1, 1)])))])
def s_305 : List aCt := [c_192]
def h_305 : List (Nat × aS × Fm) := []
theorem e_305 : ckE 6000 gT s_305 (fun _ => 0) sp0 c_305 h_305 = true := by decide +kernel
theorem k_305 (hB : BytesOK) (g : bG) (l : Launch) : Keeps g l gT c_305 := keeps_of hB.1 hB.2 (List.forall_mem_cons.mpr ⟨k_192 hB g l, nilK⟩) e_305 nilK
/-- M.taken ((('c', 193), ('u', 0), ('u', 0)), (((209, 0), ('u',)), ((209, 1), ('u',)), ((209, 2), ('u',)), ((209, 3), ('u',)), ((210, 0), ('u',)), ((21 -/
def c_306 : aCt := (280, 4, some [], false, ([((-2147483648), 2147483647), ((-2147483648), 2147483647), (0, 4), (0, 4), (0, 4), (0, 4), (0, 23), (0, 23), (0, 23), (0, 23)], [((-71), [(2, 16), (6, 1)]), ((-71), [(3, 16), (7, 1)]), ((-71), [(4, 16), (8, 1)]), ((-71), [(5, 16), (9, 1)])], [((209, 0), (0, [(2, 1)])), ((209, 1), (0, [(3, 1)])), ((209, 2), (0, [(4, 1)])), ((209, 3), (0, [(5, 1)])), ((210, 0), (0, [(6, 1)])), ((210, 1), (0, [(7, 1)])), ((210, 2), (0, [(8, 1)])), ((210, 3), (0, [(9, 1)]))], 212), [(2, (193, [])), (0, (0, [(0, 1)])), (0, (0, [(1, 1)]))], [(([((-2147483648), 2147483647), ((-2147483648), 2147483647), (0, 4), (0, 4), (0, 4), (0, 4), (0, 23), (0, 23), (0, 23), (0, 23), ((-13), 40)], [], [], 212), some (0, (0, [(10, 1)])))])
def sp_306 : aSp := fun k pc S => if pc = 0 ∧ k = 280 then spL 1 [(-1), 0, 1, 2, 3] S else none
def s_306 : List aCt := [c_305]
def h_306 : List (Nat × aS × Fm) := []
theorem e_306 : ckE 6000 gT s_306 (fun _ => 0) sp_306 c_306 h_306 = true := by decide +kernel
theorem k_306 (hB : BytesOK) (g : bG) (l : Launch) : Keeps g l gT c_306 := keeps_of hB.1 hB.2 (List.forall_mem_cons.mpr ⟨k_305 hB g l, nilK⟩) e_306 nilK
/-- M.kindOn ((('c', 193), ('u', 0)), ()) -/
def c_307 : aCt := (279, 3, some [], false, ([(0, 3)], [], [], 212), [(2, (193, [])), (0, (0, [(0, 1)]))], [(([(0, 3), ((-2), 6)], [], [], 212), some (0, (0, [(1, 1)])))])
def s_307 : List aCt := [c_305]
def h_307 : List (Nat × aS × Fm) := []
theorem e_307 : ckE 6000 gT s_307 (fun _ => 0) sp0 c_307 h_307 = true := by decide +kernel
theorem k_307 (hB : BytesOK) (g : bG) (l : Launch) : Keeps g l gT c_307 := keeps_of hB.1 hB.2 (List.forall_mem_cons.mpr ⟨k_305 hB g l, nilK⟩) e_307 nilK
/-- M.begins ((('c', 193), ('u', 0)), ()) -/
def c_308 : aCt := (281, 0, some [(193, 42, 43), (211, 0, 30)], false, ([(10, 99)], [], [], 212), [(2, (193, [])), (0, (0, [(0, 1)]))], [(([(10, 99)], [], [], 212), none)])
def s_308 : List aCt := []
def h_308 : List (Nat × aS × Fm) := []
theorem e_308 : ckE 6000 gT s_308 (fun _ => 0) sp0 c_308 h_308 = true := by decide +kernel
theorem k_308 (hB : BytesOK) (g : bG) (l : Launch) : Keeps g l gT c_308 := keeps_of hB.1 hB.2 (nilK) e_308 nilK
/-- M.readsIt ((('c', 193), ('u', 0)), ()) -/
def c_309 : aCt := (283, 2, some [(193, 42, 43), (211, 0, 30)], false, ([((-2147483648), 2147483647)], [], [], 212), [(2, (193, [])), (0, (0, [(0, 1)]))], [(([((-2147483648), 2147483647), ((-2147483648), 2147483647)], [], [], 212), some (0, (0, [(1, 1)])))])
def s_309 : List aCt := [c_308]
def h_309 : List (Nat × aS × Fm) := []
theorem e_309 : ckE 6000 gT s_309 (fun _ => 0) sp0 c_309 h_309 = true := by decide +kernel
theorem k_309 (hB : BytesOK) (g : bG) (l : Launch) : Keeps g l gT c_309 := keeps_of hB.1 hB.2 (List.forall_mem_cons.mpr ⟨k_308 hB g l, nilK⟩) e_309 nilK
/-- M.counts ((('c', 193), ('u', 0)), ()) -/
def c_310 : aCt := (286, 5, some [(193, 42, 43), (211, 0, 30)], false, ([((-2147483648), 2147483647)], [], [], 212), [(2, (193, [])), (0, (0, [(0, 1)]))], [(([((-2147483648), 2147483647), ((-2147483648), 2147483647)], [], [], 212), some (0, (0, [(1, 1)])))])
def s_310 : List aCt := [c_308, c_309]
def h_310 : List (Nat × aS × Fm) := []
theorem e_310 : ckE 6000 gT s_310 (fun _ => 0) sp0 c_310 h_310 = true := by decide +kernel
theorem k_310 (hB : BytesOK) (g : bG) (l : Launch) : Keeps g l gT c_310 := keeps_of hB.1 hB.2 (List.forall_mem_cons.mpr ⟨k_308 hB g l, List.forall_mem_cons.mpr ⟨k_309 hB g l, nilK⟩⟩) e_310 nilK
/-- M.claimPays ((('c', 193), ('u', 0)), ()) -/
def c_311 : aCt := (287, 1, some [(193, 42, 43), (193, 46, 47), (211, 0, 30)], false, ([((-2147483648), 2147483647)], [], [], 212), [(2, (193, [])), (0, (0, [(0, 1)]))], [(([((-2147483648), 2147483647), ((-2147483648), 2147483647)], [], [], 212), some (0, (0, [(1, 1)])))])
def sp_311 : aSp := fun k pc S => if pc = 15 ∧ k = 287 then spD [(-1), 0] S else none
def s_311 : List aCt := [c_308]
def h_311 : List (Nat × aS × Fm) := []
theorem e_311 : ckE 6000 gT s_311 (fun _ => 0) sp_311 c_311 h_311 = true := by decide +kernel
theorem k_311 (hB : BytesOK) (g : bG) (l : Launch) : Keeps g l gT c_311 := keeps_of hB.1 hB.2 (List.forall_mem_cons.mpr ⟨k_308 hB g l, nilK⟩) e_311 nilK
/-- M.paysIt ((('c', 193), ('u', 0)), ()) -/
def c_312 : aCt := (288, 2, some [(193, 42, 43), (193, 46, 47), (211, 0, 30)], false, ([((-2147483648), 2147483647)], [], [], 212), [(2, (193, [])), (0, (0, [(0, 1)]))], [(([((-2147483648), 2147483647), ((-2147483648), 2147483647)], [], [], 212), some (0, (0, [(1, 1)])))])
def s_312 : List aCt := [c_308, c_311]
def h_312 : List (Nat × aS × Fm) := []
theorem e_312 : ckE 6000 gT s_312 (fun _ => 0) sp0 c_312 h_312 = true := by decide +kernel
theorem k_312 (hB : BytesOK) (g : bG) (l : Launch) : Keeps g l gT c_312 := keeps_of hB.1 hB.2 (List.forall_mem_cons.mpr ⟨k_308 hB g l, List.forall_mem_cons.mpr ⟨k_311 hB g l, nilK⟩⟩) e_312 nilK
/-- M.ends ((('c', 193), ('u', 0)), ()) -/
def c_313 : aCt := (290, 7, some [(193, 42, 43), (193, 46, 47), (211, 0, 30)], false, ([((-2147483648), 2147483647)], [], [], 212), [(2, (193, [])), (0, (0, [(0, 1)]))], [(([((-2147483648), 2147483647), ((-2147483648), 2147483647)], [], [], 212), some (0, (0, [(1, 1)])))])
def s_313 : List aCt := [c_308, c_310, c_312]
def h_313 : List (Nat × aS × Fm) := []
theorem e_313 : ckE 6000 gT s_313 (fun _ => 0) sp0 c_313 h_313 = true := by decide +kernel
theorem k_313 (hB : BytesOK) (g : bG) (l : Launch) : Keeps g l gT c_313 := keeps_of hB.1 hB.2 (List.forall_mem_cons.mpr ⟨k_308 hB g l, List.forall_mem_cons.mpr ⟨k_310 hB g l, List.forall_mem_cons.mpr ⟨k_312 hB g l, nilK⟩⟩⟩) e_313 nilK
/-- M.act ((('c', 193), ('u', 0), ('u', 0), ('u', 0)), ()) -/
def c_314 : aCt := (291, 8, some [(193, 42, 47), (211, 0, 30)], false, ([((-2147483648), 2147483647), ((-2147483648), 2147483647), ((-2147483648), 2147483647)], [], [], 212), [(2, (193, [])), (0, (0, [(0, 1)])), (0, (0, [(1, 1)])), (0, (0, [(2, 1)]))], [(([((-2147483648), 2147483647), ((-2147483648), 2147483647), ((-2147483648), 2147483647), ((-2147483648), 2147483647)], [], [], 212), some (0, (0, [(3, 1)])))])
def s_314 : List aCt := [c_307, c_309, c_310, c_312, c_313]
def h_314 : List (Nat × aS × Fm) := []
theorem e_314 : ckE 6000 gT s_314 (fun _ => 0) sp0 c_314 h_314 = true := by decide +kernel
theorem k_314 (hB : BytesOK) (g : bG) (l : Launch) : Keeps g l gT c_314 := keeps_of hB.1 hB.2 (List.forall_mem_cons.mpr ⟨k_307 hB g l, List.forall_mem_cons.mpr ⟨k_309 hB g l, List.forall_mem_cons.mpr ⟨k_310 hB g l, List.forall_mem_cons.mpr ⟨k_312 hB g l, List.forall_mem_cons.mpr ⟨k_313 hB g l, nilK⟩⟩⟩⟩⟩) e_314 nilK
/-- M.trace ((('c', 193), ('u', 0)), ()) -/
def c_315 : aCt := (292, 1, some [], false, ([((-2147483648), 2147483647)], [], [], 212), [(2, (193, [])), (0, (0, [(0, 1)]))], [(([((-2147483648), 2147483647), ((-3), 99)], [], [], 212), some (0, (0, [(1, 1)])))])
def s_315 : List aCt := []
def h_315 : List (Nat × aS × Fm) := []
theorem e_315 : ckE 6000 gT s_315 (fun _ => 0) sp0 c_315 h_315 = true := by decide +kernel
theorem k_315 (hB : BytesOK) (g : bG) (l : Launch) : Keeps g l gT c_315 := keeps_of hB.1 hB.2 (nilK) e_315 nilK
/-- M.neededMany ((('c', 193),), ()) -/
def c_316 : aCt := (293, 2, some [], false, ([], [], [], 212), [(2, (193, []))], [(([((-2147483648), 2147483647)], [], [], 212), some (0, (0, [(0, 1)])))])
def s_316 : List aCt := [c_192]
def h_316_0 : Nat × aS × Fm := (4, ([(0, (2, (193, []))), (1, (0, (0, [(1, 1)]))), (2, (0, (0, [(0, 1)])))], [], ([(0, 16), ((-2147483648), 2147483647)], [], [], 212)), (33, [(0, (-2))]))
def h_316 : List (Nat × aS × Fm) := [h_316_0]
theorem e_316 : ckE 6000 gT s_316 (fun _ => 0) sp0 c_316 h_316 = true := by decide +kernel
theorem g_316_0 : ([h_316_0].all fun H => ckH 6000 gT s_316 (fun _ => 0) sp0 c_316 h_316 H) = true := by decide +kernel
theorem k_316 (hB : BytesOK) (g : bG) (l : Launch) : Keeps g l gT c_316 := keeps_of hB.1 hB.2 (List.forall_mem_cons.mpr ⟨k_192 hB g l, nilK⟩) e_316 (List.all_eq_true.mp g_316_0)
