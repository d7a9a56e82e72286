/-- Sheets.change ((('c', 181), ('u', 0), ('u', 0), ('u', 0)), ()) -/
def c_185 : aCt := (69, 1, some [(185, 0, 40), (186, 0, 40), (187, 0, 40), (188, 0, 40)], false, ([((-2147483648), 2147483647), ((-2147483648), 2147483647), ((-2147483648), 2147483647)], [], [], 212), [(2, (181, [])), (0, (0, [(0, 1)])), (0, (0, [(1, 1)])), (0, (0, [(2, 1)]))], [(([((-2147483648), 2147483647), ((-2147483648), 2147483647), ((-2147483648), 2147483647), ((-12), 1)], [], [], 212), some (0, (0, [(3, 1)])))])
def sp_185 : aSp := fun k pc S => if pc = 43 ∧ k = 69 then spS 0 [0, 1, 2] S else none
def s_185 : List aCt := [c_184]
def h_185 : List (Nat × aS × Fm) := []
theorem e_185 : ckE 6000 gT s_185 (fun _ => 0) sp_185 c_185 h_185 = true := by decide +kernel
theorem k_185 (hB : BytesOK) (g : bG) (l : Launch) : Keeps g l gT c_185 := keeps_of hB.1 hB.2 (List.forall_mem_cons.mpr ⟨k_184 hB g l, nilK⟩) e_185 nilK
/-- B.put ((('c', 0), ('u', 0), ('u', 0), ('u', 0)), ()) -/
def c_186 : aCt := (161, 2, some [(185, 0, 40), (186, 0, 40), (187, 0, 40), (188, 0, 40)], false, ([((-2147483648), 2147483647), ((-2147483648), 2147483647), ((-2147483648), 2147483647)], [], [], 212), [(2, (0, [])), (0, (0, [(0, 1)])), (0, (0, [(1, 1)])), (0, (0, [(2, 1)]))], [(([((-2147483648), 2147483647), ((-2147483648), 2147483647), ((-2147483648), 2147483647), ((-12), 1)], [], [], 212), some (0, (0, [(3, 1)])))])
def s_186 : List aCt := [c_185]
def h_186 : List (Nat × aS × Fm) := []
theorem e_186 : ckE 6000 gT s_186 (fun _ => 0) sp0 c_186 h_186 = true := by decide +kernel
theorem k_186 (hB : BytesOK) (g : bG) (l : Launch) : Keeps g l gT c_186 := keeps_of hB.1 hB.2 (List.forall_mem_cons.mpr ⟨k_185 hB g l, nilK⟩) e_186 nilK
/-- Sheets.itemAt ((('c', 181), ('u', 0), ('u', 0), ('u', 0)), ()) -/
def c_187 : aCt := (71, 1, some [], false, ([((-2147483648), 2147483647), ((-2147483648), 2147483647), ((-2147483648), 2147483647)], [], [], 212), [(2, (181, [])), (0, (0, [(0, 1)])), (0, (0, [(1, 1)])), (0, (0, [(2, 1)]))], [(([((-2147483648), 2147483647), ((-2147483648), 2147483647), ((-2147483648), 2147483647), ((-2147483648), 2147483647)], [], [], 212), some (0, (0, [(3, 1)])))])
def sp_187 : aSp := fun k pc S => if pc = 65 ∧ k = 71 then spS 0 [0, 1, 2] S else none
def s_187 : List aCt := []
def h_187 : List (Nat × aS × Fm) := []
theorem e_187 : ckE 6000 gT s_187 (fun _ => 0) sp_187 c_187 h_187 = true := by decide +kernel
theorem k_187 (hB : BytesOK) (g : bG) (l : Launch) : Keeps g l gT c_187 := keeps_of hB.1 hB.2 (nilK) e_187 nilK
/-- B.item ((('c', 0), ('u', 0), ('u', 0), ('u', 0)), ()) -/
def c_188 : aCt := (162, 2, some [], false, ([((-2147483648), 2147483647), ((-2147483648), 2147483647), ((-2147483648), 2147483647)], [], [], 212), [(2, (0, [])), (0, (0, [(0, 1)])), (0, (0, [(1, 1)])), (0, (0, [(2, 1)]))], [(([((-2147483648), 2147483647), ((-2147483648), 2147483647), ((-2147483648), 2147483647), ((-2147483648), 2147483647)], [], [], 212), some (0, (0, [(3, 1)])))])
def s_188 : List aCt := [c_187]
def h_188 : List (Nat × aS × Fm) := []
theorem e_188 : ckE 6000 gT s_188 (fun _ => 0) sp0 c_188 h_188 = true := by decide +kernel
theorem k_188 (hB : BytesOK) (g : bG) (l : Launch) : Keeps g l gT c_188 := keeps_of hB.1 hB.2 (List.forall_mem_cons.mpr ⟨k_187 hB g l, nilK⟩) e_188 nilK
/-- Sheets.bringClaim ((('u', 1), ('c', 2)), ()) -/
def c_189 : aCt := (73, 2, some [(2, 1, 2), (3, 0, 16), (4, 0, 16), (5, 0, 16), (6, 0, 16), (7, 0, 16), (8, 0, 16), (9, 0, 16)], false, ([((-2147483648), 2147483647)], [], [], 212), [(1, (0, [(0, 1)])), (2, (2, []))], [(([((-2147483648), 2147483647), ((-2), 15)], [], [], 212), some (0, (0, [(1, 1)])))])
def s_189 : List aCt := [c_13]
def h_189 : List (Nat × aS × Fm) := []
theorem e_189 : ckE 6000 gT s_189 (fun _ => 0) sp0 c_189 h_189 = true := by decide +kernel
theorem k_189 (hB : BytesOK) (g : bG) (l : Launch) : Keeps g l gT c_189 := keeps_of hB.1 hB.2 (List.forall_mem_cons.mpr ⟨k_13 hB g l, nilK⟩) e_189 nilK
/-- Sheets.bringClaims ((('c', 181), ('u', 0), ('u', 0), ('u', 0), ('c', 2)), ()) -/
def c_190 : aCt := (72, 3, some [(2, 1, 2), (3, 0, 16), (4, 0, 16), (5, 0, 16), (6, 0, 16), (7, 0, 16), (8, 0, 16), (9, 0, 16)], false, ([(0, 3), ((-2147483648), 2147483647), (0, 6)], [], [], 212), [(2, (181, [])), (0, (0, [(0, 1)])), (0, (0, [(1, 1)])), (0, (0, [(2, 1)])), (2, (2, []))], [(([(0, 3), ((-2147483648), 2147483647), (0, 6), ((-2147483648), 2147483647)], [], [], 212), some (0, (0, [(3, 1)])))])
def sp_190 : aSp := fun k pc S => if pc = 71 ∧ k = 72 then spS 0 [0, 1, 2] S else none
def s_190 : List aCt := [c_189]
def h_190_0 : Nat × aS × Fm := (40, ([(0, (2, (181, []))), (1, (0, (0, [(0, 1)]))), (2, (0, (0, [(1, 1)]))), (3, (0, (0, [(2, 1)]))), (4, (2, (2, []))), (5, (0, (0, [(4, 1)]))), (6, (0, (0, [(3, 1)])))], [], ([(0, 3), ((-2147483648), 2147483647), (0, 6), (0, 6), ((-2147483648), 2147483647)], [], [], 212)), (13, [(3, (-2))]))
def h_190 : List (Nat × aS × Fm) := [h_190_0]
theorem e_190 : ckE 6000 gT s_190 (fun _ => 0) sp_190 c_190 h_190 = true := by decide +kernel
theorem g_190_0 : ([h_190_0].all fun H => ckH 6000 gT s_190 (fun _ => 0) sp_190 c_190 h_190 H) = true := by decide +kernel
theorem k_190 (hB : BytesOK) (g : bG) (l : Launch) : Keeps g l gT c_190 := keeps_of hB.1 hB.2 (List.forall_mem_cons.mpr ⟨k_189 hB g l, nilK⟩) e_190 (List.all_eq_true.mp g_190_0)
/-- B.comes ((('c', 0), ('u', 0), ('u', 0), ('u', 0)), ()) -/
def c_191 : aCt := (163, 4, some [(2, 1, 2), (3, 0, 16), (4, 0, 16), (5, 0, 16), (6, 0, 16), (7, 0, 16), (8, 0, 16), (9, 0, 16)], false, ([((-2147483648), 2147483647), ((-2147483648), 2147483647), ((-2147483648), 2147483647)], [], [], 212), [(2, (0, [])), (0, (0, [(0, 1)])), (0, (0, [(1, 1)])), (0, (0, [(2, 1)]))], [(([((-2147483648), 2147483647), ((-2147483648), 2147483647), ((-2147483648), 2147483647), ((-2147483648), 2147483647)], [], [], 212), some (0, (0, [(3, 1)])))])
def s_191 : List aCt := [c_190]
def h_191 : List (Nat × aS × Fm) := []
theorem e_191 : ckE 6000 gT s_191 (fun _ => 0) sp0 c_191 h_191 = true := by decide +kernel
theorem k_191 (hB : BytesOK) (g : bG) (l : Launch) : Keeps g l gT c_191 := keeps_of hB.1 hB.2 (List.forall_mem_cons.mpr ⟨k_190 hB g l, nilK⟩) e_191 nilK
/-- Sheets.sortOf ((('c', 181), ('u', 0)), ()) -/
def c_192 : aCt := (66, 1, some [], false, ([(0, 3)], [], [], 212), [(2, (181, [])), (0, (0, [(0, 1)]))], [(([(0, 3), ((-1), 3)], [], [], 212), some (0, (0, [(1, 1)])))])
def s_192 : List aCt := []
def h_192 : List (Nat × aS × Fm) := []
theorem e_192 : ckE 6000 gT s_192 (fun _ => 0) sp0 c_192 h_192 = true := by decide +kernel
theorem k_192 (hB : BytesOK) (g : bG) (l : Launch) : Keeps g l gT c_192 := keeps_of hB.1 hB.2 (nilK) e_192 nilK
/-- B.shelf ((('c', 0), ('u', 0), ('u', 0), ('u', 0)), ()) -/
def c_193 : aCt := (164, 2, some [(191, 0, 4), (192, 0, 4)], false, ([((-2147483648), 2147483647), ((-2147483648), 2147483647), ((-2147483648), 2147483647)], [], [], 212), [(2, (0, [])), (0, (0, [(0, 1)])), (0, (0, [(1, 1)])), (0, (0, [(2, 1)]))], [(([((-2147483648), 2147483647), ((-2147483648), 2147483647), ((-2147483648), 2147483647), ((-1), 1)], [], [], 212), some (0, (0, [(3, 1)])))])
def s_193 : List aCt := [c_192]
def h_193 : List (Nat × aS × Fm) := []
theorem e_193 : ckE 6000 gT s_193 (fun _ => 0) sp0 c_193 h_193 = true := by decide +kernel
theorem k_193 (hB : BytesOK) (g : bG) (l : Launch) : Keeps g l gT c_193 := keeps_of hB.1 hB.2 (List.forall_mem_cons.mpr ⟨k_192 hB g l, nilK⟩) e_193 nilK
/-- Pool.kindOfClaim ((('c', 1), ('u', 0)), ()) -/
def c_194 : aCt := (22, 2, some [], false, ([(0, 15)], [], [], 212), [(2, (1, [])), (0, (0, [(0, 1)]))], [(([(0, 15), (0, 3)], [], [], 212), some (0, (0, [(1, 1)])))])
def s_194 : List aCt := [c_29, c_34]
def h_194 : List (Nat × aS × Fm) := []
theorem e_194 : ckE 6000 gT s_194 (fun _ => 0) sp0 c_194 h_194 = true := by decide +kernel
theorem k_194 (hB : BytesOK) (g : bG) (l : Launch) : Keeps g l gT c_194 := keeps_of hB.1 hB.2 (List.forall_mem_cons.mpr ⟨k_29 hB g l, List.forall_mem_cons.mpr ⟨k_34 hB g l, nilK⟩⟩) e_194 nilK
/-- B.kindOn ((('c', 0), ('u', 0)), ()) -/
def c_195 : aCt := (180, 3, some [], false, ([(0, 3)], [], [], 212), [(2, (0, [])), (0, (0, [(0, 1)]))], [(([(0, 3), ((-1), 13)], [], [], 212), some (0, (0, [(1, 1)])))])
def sp_195 : aSp := fun k pc S => if pc = 0 ∧ k = 180 then spL 1 [0, 1, 2] S else none
def s_195 : List aCt := [c_194, c_192, c_113]
def h_195 : List (Nat × aS × Fm) := []
theorem e_195 : ckE 6000 gT s_195 (fun _ => 0) sp_195 c_195 h_195 = true := by decide +kernel
theorem k_195 (hB : BytesOK) (g : bG) (l : Launch) : Keeps g l gT c_195 := keeps_of hB.1 hB.2 (List.forall_mem_cons.mpr ⟨k_194 hB g l, List.forall_mem_cons.mpr ⟨k_192 hB g l, List.forall_mem_cons.mpr ⟨k_113 hB g l, nilK⟩⟩⟩) e_195 nilK
/-- Sheets.sizeOf ((('c', 181), ('u', 0)), ()) -/
def c_196 : aCt := (67, 1, some [], false, ([((-2147483648), 2147483647)], [], [], 212), [(2, (181, [])), (0, (0, [(0, 1)]))], [(([((-2147483648), 2147483647), (0, 40)], [], [], 212), some (0, (0, [(1, 1)])))])
def s_196 : List aCt := []
def h_196 : List (Nat × aS × Fm) := []
theorem e_196 : ckE 6000 gT s_196 (fun _ => 0) sp0 c_196 h_196 = true := by decide +kernel
theorem k_196 (hB : BytesOK) (g : bG) (l : Launch) : Keeps g l gT c_196 := keeps_of hB.1 hB.2 (nilK) e_196 nilK
/-- B.taken ((('c', 0), ('u', 0), ('u', 0)), ()) -/
def c_197 : aCt := (165, 4, some [], false, ([((-2147483648), 2147483647), ((-2147483648), 2147483647)], [], [], 212), [(2, (0, [])), (0, (0, [(0, 1)])), (0, (0, [(1, 1)]))], [(([((-2147483648), 2147483647), ((-2147483648), 2147483647), ((-2147483648), 2147483647)], [], [], 212), some (0, (0, [(2, 1)])))])
def s_197 : List aCt := [c_196, c_195]
def h_197 : List (Nat × aS × Fm) := []
theorem e_197 : ckE 6000 gT s_197 (fun _ => 0) sp0 c_197 h_197 = true := by decide +kernel
theorem k_197 (hB : BytesOK) (g : bG) (l : Launch) : Keeps g l gT c_197 := keeps_of hB.1 hB.2 (List.forall_mem_cons.mpr ⟨k_196 hB g l, List.forall_mem_cons.mpr ⟨k_195 hB g l, nilK⟩⟩) e_197 nilK
/-- B.amountOn ((('c', 0), ('u', 0)), ()) -/
def c_198 : aCt := (181, 2, some [], false, ([(0, 3)], [], [], 212), [(2, (0, [])), (0, (0, [(0, 1)]))], [(([(0, 3), ((-2147483648), 2147483647)], [], [], 212), some (0, (0, [(1, 1)])))])
def sp_198 : aSp := fun k pc S => if pc = 0 ∧ k = 181 then spL 1 [0, 1, 2] S else none
def s_198 : List aCt := []
def h_198 : List (Nat × aS × Fm) := []
theorem e_198 : ckE 6000 gT s_198 (fun _ => 0) sp_198 c_198 h_198 = true := by decide +kernel
theorem k_198 (hB : BytesOK) (g : bG) (l : Launch) : Keeps g l gT c_198 := keeps_of hB.1 hB.2 (nilK) e_198 nilK
/-- Acts.begin ((('c', 189), ('u', 0)), ()) -/
def c_199 : aCt := (5, 0, some [(189, 0, 1), (190, 0, 30)], false, ([(10, 99)], [], [], 212), [(2, (189, [])), (0, (0, [(0, 1)]))], [(([(10, 99)], [], [], 212), none)])
def s_199 : List aCt := []
def h_199 : List (Nat × aS × Fm) := []
theorem e_199 : ckE 6000 gT s_199 (fun _ => 0) sp0 c_199 h_199 = true := by decide +kernel
theorem k_199 (hB : BytesOK) (g : bG) (l : Launch) : Keeps g l gT c_199 := keeps_of hB.1 hB.2 (nilK) e_199 nilK
/-- Acts.isNeededKind ((('c', 189),), ()) -/
def c_200 : aCt := (6, 0, some [], false, ([], [], [], 212), [(2, (189, []))], [(([(0, 1)], [], [], 212), some (0, (0, [(0, 1)])))])
def s_200 : List aCt := []
def h_200 : List (Nat × aS × Fm) := []
theorem e_200 : ckE 6000 gT s_200 (fun _ => 0) sp0 c_200 h_200 = true := by decide +kernel
theorem k_200 (hB : BytesOK) (g : bG) (l : Launch) : Keeps g l gT c_200 := keeps_of hB.1 hB.2 (nilK) e_200 nilK
/-- Acts.reads ((('c', 189), ('u', 0)), ()) -/
def c_201 : aCt := (7, 1, some [(189, 0, 1), (190, 0, 30)], false, ([((-2147483648), 2147483647)], [], [], 212), [(2, (189, [])), (0, (0, [(0, 1)]))], [(([((-2147483648), 2147483647), ((-2147483648), 2147483647)], [], [], 212), some (0, (0, [(1, 1)])))])
def s_201 : List aCt := [c_199]
def h_201 : List (Nat × aS × Fm) := []
theorem e_201 : ckE 6000 gT s_201 (fun _ => 0) sp0 c_201 h_201 = true := by decide +kernel
theorem k_201 (hB : BytesOK) (g : bG) (l : Launch) : Keeps g l gT c_201 := keeps_of hB.1 hB.2 (List.forall_mem_cons.mpr ⟨k_199 hB g l, nilK⟩) e_201 nilK
/-- Acts.counts ((('c', 189), ('u', 0)), ()) -/
def c_202 : aCt := (8, 2, some [(189, 0, 1), (190, 0, 30)], false, ([((-2147483648), 2147483647)], [], [], 212), [(2, (189, [])), (0, (0, [(0, 1)]))], [(([((-2147483648), 2147483647), ((-2147483648), 2147483647)], [], [], 212), some (0, (0, [(1, 1)])))])
def s_202 : List aCt := [c_199, c_200, c_201]
def h_202 : List (Nat × aS × Fm) := []
theorem e_202 : ckE 6000 gT s_202 (fun _ => 0) sp0 c_202 h_202 = true := by decide +kernel
theorem k_202 (hB : BytesOK) (g : bG) (l : Launch) : Keeps g l gT c_202 := keeps_of hB.1 hB.2 (List.forall_mem_cons.mpr ⟨k_199 hB g l, List.forall_mem_cons.mpr ⟨k_200 hB g l, List.forall_mem_cons.mpr ⟨k_201 hB g l, nilK⟩⟩⟩) e_202 nilK
