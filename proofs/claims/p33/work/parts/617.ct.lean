/-- M.kindOfClaim ((('c', 193), ('u', 0)), ()) -/
def c_294 : aCt := (278, 2, some [], false, ([(0, 15)], [], [], 212), [(2, (193, [])), (0, (0, [(0, 1)]))], [(([(0, 15), (0, 3)], [], [], 212), some (0, (0, [(1, 1)])))])
def s_294 : List aCt := [c_197]
def h_294 : List (Nat × aS × Fm) := []
theorem e_294 : ckE 6000 gT s_294 (fun _ => 0) sp0 c_294 h_294 = true := by decide +kernel
theorem k_294 (hB : BytesOK) (g : bG) (l : Launch) : Keeps g l gT c_294 := keeps_of hB.1 hB.2 (List.forall_mem_cons.mpr ⟨k_197 hB g l, nilK⟩) e_294 nilK
/-- M.taken ((('c', 193), ('u', 0), ('u', 0)), (((209, 0), ('u',)), ((209, 1), ('u',)), ((209, 2), ('u',)), ((209, 3), ('u',)), ((210, 0), ('u',)), ((21 -/
def c_295 : aCt := (280, 4, some [], false, ([((-2147483648), 2147483647), ((-2147483648), 2147483647), (0, 4), (0, 4), (0, 4), (0, 4), (0, 23), (0, 23), (0, 23), (0, 23)], [((-71), [(2, 16), (6, 1)]), ((-71), [(3, 16), (7, 1)]), ((-71), [(4, 16), (8, 1)]), ((-71), [(5, 16), (9, 1)])], [((209, 0), (0, [(2, 1)])), ((209, 1), (0, [(3, 1)])), ((209, 2), (0, [(4, 1)])), ((209, 3), (0, [(5, 1)])), ((210, 0), (0, [(6, 1)])), ((210, 1), (0, [(7, 1)])), ((210, 2), (0, [(8, 1)])), ((210, 3), (0, [(9, 1)]))], 212), [(2, (193, [])), (0, (0, [(0, 1)])), (0, (0, [(1, 1)]))], [(([((-2147483648), 2147483647), ((-2147483648), 2147483647), (0, 4), (0, 4), (0, 4), (0, 4), (0, 23), (0, 23), (0, 23), (0, 23), ((-13), 40)], [], [], 212), some (0, (0, [(10, 1)])))])
def sp_295 : aSp := fun k pc S => if pc = 0 ∧ k = 280 then spL 1 [(-1), 0, 1, 2, 3] S else none
def s_295 : List aCt := [c_294]
def h_295 : List (Nat × aS × Fm) := []
theorem e_295 : ckE 6000 gT s_295 (fun _ => 0) sp_295 c_295 h_295 = true := by decide +kernel
theorem k_295 (hB : BytesOK) (g : bG) (l : Launch) : Keeps g l gT c_295 := keeps_of hB.1 hB.2 (List.forall_mem_cons.mpr ⟨k_294 hB g l, nilK⟩) e_295 nilK
/-- M.kindOn ((('c', 193), ('u', 0)), ()) -/
def c_296 : aCt := (279, 3, some [], false, ([(0, 3)], [], [], 212), [(2, (193, [])), (0, (0, [(0, 1)]))], [(([(0, 3), ((-2), 6)], [], [], 212), some (0, (0, [(1, 1)])))])
def s_296 : List aCt := [c_294]
def h_296 : List (Nat × aS × Fm) := []
theorem e_296 : ckE 6000 gT s_296 (fun _ => 0) sp0 c_296 h_296 = true := by decide +kernel
theorem k_296 (hB : BytesOK) (g : bG) (l : Launch) : Keeps g l gT c_296 := keeps_of hB.1 hB.2 (List.forall_mem_cons.mpr ⟨k_294 hB g l, nilK⟩) e_296 nilK
/-- M.begins ((('c', 193), ('u', 0)), ()) -/
def c_297 : aCt := (281, 0, some [(193, 42, 43), (211, 0, 30)], false, ([(10, 99)], [], [], 212), [(2, (193, [])), (0, (0, [(0, 1)]))], [(([(10, 99)], [], [], 212), none)])
def s_297 : List aCt := []
def h_297 : List (Nat × aS × Fm) := []
theorem e_297 : ckE 6000 gT s_297 (fun _ => 0) sp0 c_297 h_297 = true := by decide +kernel
theorem k_297 (hB : BytesOK) (g : bG) (l : Launch) : Keeps g l gT c_297 := keeps_of hB.1 hB.2 (nilK) e_297 nilK
/-- M.readsIt ((('c', 193), ('u', 0)), ()) -/
def c_298 : aCt := (283, 2, some [(193, 42, 43), (211, 0, 30)], false, ([((-2147483648), 2147483647)], [], [], 212), [(2, (193, [])), (0, (0, [(0, 1)]))], [(([((-2147483648), 2147483647), ((-2147483648), 2147483647)], [], [], 212), some (0, (0, [(1, 1)])))])
def s_298 : List aCt := [c_297]
def h_298 : List (Nat × aS × Fm) := []
theorem e_298 : ckE 6000 gT s_298 (fun _ => 0) sp0 c_298 h_298 = true := by decide +kernel
theorem k_298 (hB : BytesOK) (g : bG) (l : Launch) : Keeps g l gT c_298 := keeps_of hB.1 hB.2 (List.forall_mem_cons.mpr ⟨k_297 hB g l, nilK⟩) e_298 nilK
/-- M.counts ((('c', 193), ('u', 0)), ()) -/
def c_299 : aCt := (286, 5, some [(193, 42, 43), (211, 0, 30)], false, ([((-2147483648), 2147483647)], [], [], 212), [(2, (193, [])), (0, (0, [(0, 1)]))], [(([((-2147483648), 2147483647), ((-2147483648), 2147483647)], [], [], 212), some (0, (0, [(1, 1)])))])
def s_299 : List aCt := [c_297, c_298]
def h_299 : List (Nat × aS × Fm) := []
theorem e_299 : ckE 6000 gT s_299 (fun _ => 0) sp0 c_299 h_299 = true := by decide +kernel
theorem k_299 (hB : BytesOK) (g : bG) (l : Launch) : Keeps g l gT c_299 := keeps_of hB.1 hB.2 (List.forall_mem_cons.mpr ⟨k_297 hB g l, List.forall_mem_cons.mpr ⟨k_298 hB g l, nilK⟩⟩) e_299 nilK
/-- M.claimPays ((('c', 193), ('u', 0)), ()) -/
def c_300 : aCt := (287, 1, some [(193, 42, 43), (193, 46, 47), (211, 0, 30)], false, ([((-2147483648), 2147483647)], [], [], 212), [(2, (193, [])), (0, (0, [(0, 1)]))], [(([((-2147483648), 2147483647), ((-2147483648), 2147483647)], [], [], 212), some (0, (0, [(1, 1)])))])
def sp_300 : aSp := fun k pc S => if pc = 15 ∧ k = 287 then spD [(-1), 0] S else none
def s_300 : List aCt := [c_297]
def h_300 : List (Nat × aS × Fm) := []
theorem e_300 : ckE 6000 gT s_300 (fun _ => 0) sp_300 c_300 h_300 = true := by decide +kernel
theorem k_300 (hB : BytesOK) (g : bG) (l : Launch) : Keeps g l gT c_300 := keeps_of hB.1 hB.2 (List.forall_mem_cons.mpr ⟨k_297 hB g l, nilK⟩) e_300 nilK
/-- M.paysIt ((('c', 193), ('u', 0)), ()) -/
def c_301 : aCt := (288, 2, some [(193, 42, 43), (193, 46, 47), (211, 0, 30)], false, ([((-2147483648), 2147483647)], [], [], 212), [(2, (193, [])), (0, (0, [(0, 1)]))], [(([((-2147483648), 2147483647), ((-2147483648), 2147483647)], [], [], 212), some (0, (0, [(1, 1)])))])
def s_301 : List aCt := [c_297, c_300]
def h_301 : List (Nat × aS × Fm) := []
theorem e_301 : ckE 6000 gT s_301 (fun _ => 0) sp0 c_301 h_301 = true := by decide +kernel
theorem k_301 (hB : BytesOK) (g : bG) (l : Launch) : Keeps g l gT c_301 := keeps_of hB.1 hB.2 (List.forall_mem_cons.mpr ⟨k_297 hB g l, List.forall_mem_cons.mpr ⟨k_300 hB g l, nilK⟩⟩) e_301 nilK
/-- M.ends ((('c', 193), ('u', 0)), ()) -/
def c_302 : aCt := (290, 7, some [(193, 42, 43), (193, 46, 47), (211, 0, 30)], false, ([((-2147483648), 2147483647)], [], [], 212), [(2, (193, [])), (0, (0, [(0, 1)]))], [(([((-2147483648), 2147483647), ((-2147483648), 2147483647)], [], [], 212), some (0, (0, [(1, 1)])))])
def s_302 : List aCt := [c_297, c_299, c_301]
def h_302 : List (Nat × aS × Fm) := []
theorem e_302 : ckE 6000 gT s_302 (fun _ => 0) sp0 c_302 h_302 = true := by decide +kernel
theorem k_302 (hB : BytesOK) (g : bG) (l : Launch) : Keeps g l gT c_302 := keeps_of hB.1 hB.2 (List.forall_mem_cons.mpr ⟨k_297 hB g l, List.forall_mem_cons.mpr ⟨k_299 hB g l, List.forall_mem_cons.mpr ⟨k_301 hB g l, nilK⟩⟩⟩) e_302 nilK
/-- M.act ((('c', 193), ('u', 0), ('u', 0), ('u', 0)), ()) -/
def c_303 : aCt := (291, 8, some [(193, 42, 47), (211, 0, 30)], false, ([((-2147483648), 2147483647), ((-2147483648), 2147483647), ((-2147483648), 2147483647)], [], [], 212), [(2, (193, [])), (0, (0, [(0, 1)])), (0, (0, [(1, 1)])), (0, (0, [(2, 1)]))], [(([((-2147483648), 2147483647), ((-2147483648), 2147483647), ((-2147483648), 2147483647), ((-2147483648), 2147483647)], [], [], 212), some (0, (0, [(3, 1)])))])
def s_303 : List aCt := [c_296, c_298, c_299, c_301, c_302]
def h_303 : List (Nat × aS × Fm) := []
theorem e_303 : ckE 6000 gT s_303 (fun _ => 0) sp0 c_303 h_303 = true := by decide +kernel
theorem k_303 (hB : BytesOK) (g : bG) (l : Launch) : Keeps g l gT c_303 := keeps_of hB.1 hB.2 (List.forall_mem_cons.mpr ⟨k_296 hB g l, List.forall_mem_cons.mpr ⟨k_298 hB g l, List.forall_mem_cons.mpr ⟨k_299 hB g l, List.forall_mem_cons.mpr ⟨k_301 hB g l, List.forall_mem_cons.mpr ⟨k_302 hB g l, nilK⟩⟩⟩⟩⟩) e_303 nilK
/-- M.trace ((('c', 193), ('u', 0)), ()) -/
def c_304 : aCt := (292, 1, some [], false, ([((-2147483648), 2147483647)], [], [], 212), [(2, (193, [])), (0, (0, [(0, 1)]))], [(([((-2147483648), 2147483647), ((-3), 99)], [], [], 212), some (0, (0, [(1, 1)])))])
def s_304 : List aCt := []
def h_304 : List (Nat × aS × Fm) := []
theorem e_304 : ckE 6000 gT s_304 (fun _ => 0) sp0 c_304 h_304 = true := by decide +kernel
theorem k_304 (hB : BytesOK) (g : bG) (l : Launch) : Keeps g l gT c_304 := keeps_of hB.1 hB.2 (nilK) e_304 nilK
/-- M.neededMany ((('c', 193),), ()) -/
def c_305 : aCt := (293, 2, some [], false, ([], [], [], 212), [(2, (193, []))], [(([((-2147483648), 2147483647)], [], [], 212), some (0, (0, [(0, 1)])))])
def s_305 : List aCt := [c_197]
def h_305_0 : Nat × aS × Fm := (4, ([(0, (2, (193, []))), (1, (0, (0, [(1, 1)]))), (2, (0, (0, [(0, 1)])))], [], ([(0, 16), ((-2147483648), 2147483647)], [], [], 212)), (33, [(0, (-2))]))
def h_305 : List (Nat × aS × Fm) := [h_305_0]
theorem e_305 : ckE 6000 gT s_305 (fun _ => 0) sp0 c_305 h_305 = true := by decide +kernel
theorem g_305_0 : ([h_305_0].all fun H => ckH 6000 gT s_305 (fun _ => 0) sp0 c_305 h_305 H) = true := by decide +kernel
theorem k_305 (hB : BytesOK) (g : bG) (l : Launch) : Keeps g l gT c_305 := keeps_of hB.1 hB.2 (List.forall_mem_cons.mpr ⟨k_197 hB g l, nilK⟩) e_305 (List.all_eq_true.mp g_305_0)
