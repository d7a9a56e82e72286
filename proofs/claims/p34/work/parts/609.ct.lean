/-- B.fair ((('c', 0), ('u', 0), ('u', 0), ('u', 0)), ()) -/
def c_183 : aCt := (159, 7, some [], false, ([((-2147483648), 2147483647), ((-2147483648), 2147483647), ((-2147483648), 2147483647)], [], [], 212), [(2, (0, [])), (0, (0, [(0, 1)])), (0, (0, [(1, 1)])), (0, (0, [(2, 1)]))], [(([((-2147483648), 2147483647), ((-2147483648), 2147483647), ((-2147483648), 2147483647), ((-2147483648), 2147483647)], [], [], 212), some (0, (0, [(3, 1)])))])
def s_183 : List aCt := [c_182]
def h_183 : List (Nat × aS × Fm) := []
theorem e_183 : ckE 6000 gT s_183 (fun _ => 0) sp0 c_183 h_183 = true := by decide +kernel
theorem k_183 (hB : BytesOK) (g : bG) (l : Launch) : Keeps g l gT c_183 := keeps_of hB.1 hB.2 (List.forall_mem_cons.mpr ⟨k_182 hB g l, nilK⟩) e_183 nilK
/-- Sheets.become ((('c', 181), ('u', 0), ('u', 0), ('u', 0)), ()) -/
def c_184 : aCt := (68, 1, some [(182, 0, 4), (183, 0, 4), (185, 0, 40), (186, 0, 40), (187, 0, 40), (188, 0, 40)], false, ([((-2147483648), 2147483647), ((-2147483648), 2147483647), ((-2147483648), 2147483647)], [], [], 212), [(2, (181, [])), (0, (0, [(0, 1)])), (0, (0, [(1, 1)])), (0, (0, [(2, 1)]))], [(([((-2147483648), 2147483647), ((-2147483648), 2147483647), ((-2147483648), 2147483647), ((-14), 1)], [], [], 212), some (0, (0, [(3, 1)])))])
def sp_184 : aSp := fun k pc S => if pc = 77 ∧ k = 68 then spS 0 [0, 1, 2] S else none
def s_184 : List aCt := []
def h_184_0 : Nat × aS × Fm := (65, ([(0, (2, (181, []))), (1, (0, (0, [(0, 1)]))), (2, (0, (0, [(1, 1)]))), (3, (0, (0, [(2, 1)]))), (4, (0, (0, [(3, 1)])))], [], ([(0, 3), ((-1), 3), ((-2147483648), 2147483647), (0, 40)], [], [], 212)), (81, [(3, (-2))]))
def h_184 : List (Nat × aS × Fm) := [h_184_0]
theorem e_184 : ckE 6000 gT s_184 (fun _ => 0) sp_184 c_184 h_184 = true := by decide +kernel
theorem g_184_0 : ([h_184_0].all fun H => ckH 6000 gT s_184 (fun _ => 0) sp_184 c_184 h_184 H) = true := by decide +kernel
theorem k_184 (hB : BytesOK) (g : bG) (l : Launch) : Keeps g l gT c_184 := keeps_of hB.1 hB.2 (nilK) e_184 (List.all_eq_true.mp g_184_0)
/-- B.sheet ((('c', 0), ('u', 0), ('u', 0), ('u', 0)), ()) -/
def c_185 : aCt := (160, 2, some [(182, 0, 4), (183, 0, 4), (185, 0, 40), (186, 0, 40), (187, 0, 40), (188, 0, 40)], false, ([((-2147483648), 2147483647), ((-2147483648), 2147483647), ((-2147483648), 2147483647)], [], [], 212), [(2, (0, [])), (0, (0, [(0, 1)])), (0, (0, [(1, 1)])), (0, (0, [(2, 1)]))], [(([((-2147483648), 2147483647), ((-2147483648), 2147483647), ((-2147483648), 2147483647), ((-14), 1)], [], [], 212), some (0, (0, [(3, 1)])))])
def s_185 : List aCt := [c_184]
def h_185 : List (Nat × aS × Fm) := []
theorem e_185 : ckE 6000 gT s_185 (fun _ => 0) sp0 c_185 h_185 = true := by decide +kernel
theorem k_185 (hB : BytesOK) (g : bG) (l : Launch) : Keeps g l gT c_185 := keeps_of hB.1 hB.2 (List.forall_mem_cons.mpr ⟨k_184 hB g l, nilK⟩) e_185 nilK
/-- Sheets.narrowed ((('u', 0), ('u', 0)), ()) -/
def c_186 : aCt := (70, 0, some [], false, ([((-1), 3), ((-2147483648), 2147483647)], [], [], 212), [(0, (0, [(0, 1)])), (0, (0, [(1, 1)]))], [(([((-1), 3), ((-2147483648), 2147483647), ((-2147483648), 2147483647)], [], [], 212), some (1, (0, [(2, 1)])))])
def s_186 : List aCt := []
def h_186 : List (Nat × aS × Fm) := []
theorem e_186 : ckE 6000 gT s_186 (fun _ => 0) sp0 c_186 h_186 = true := by decide +kernel
theorem k_186 (hB : BytesOK) (g : bG) (l : Launch) : Keeps g l gT c_186 := keeps_of hB.1 hB.2 (nilK) e_186 nilK
/-- Sheets.change ((('c', 181), ('u', 0), ('u', 0), ('u', 0)), ()) -/
def c_187 : aCt := (69, 1, some [(185, 0, 40), (186, 0, 40), (187, 0, 40), (188, 0, 40)], false, ([((-2147483648), 2147483647), ((-2147483648), 2147483647), ((-2147483648), 2147483647)], [], [], 212), [(2, (181, [])), (0, (0, [(0, 1)])), (0, (0, [(1, 1)])), (0, (0, [(2, 1)]))], [(([((-2147483648), 2147483647), ((-2147483648), 2147483647), ((-2147483648), 2147483647), ((-12), 1)], [], [], 212), some (0, (0, [(3, 1)])))])
def sp_187 : aSp := fun k pc S => if pc = 43 ∧ k = 69 then spS 0 [0, 1, 2] S else none
def s_187 : List aCt := [c_186]
def h_187 : List (Nat × aS × Fm) := []
theorem e_187 : ckE 6000 gT s_187 (fun _ => 0) sp_187 c_187 h_187 = true := by decide +kernel
theorem k_187 (hB : BytesOK) (g : bG) (l : Launch) : Keeps g l gT c_187 := keeps_of hB.1 hB.2 (List.forall_mem_cons.mpr ⟨k_186 hB g l, nilK⟩) e_187 nilK
/-- B.put ((('c', 0), ('u', 0), ('u', 0), ('u', 0)), ()) -/
def c_188 : aCt := (161, 2, some [(185, 0, 40), (186, 0, 40), (187, 0, 40), (188, 0, 40)], false, ([((-2147483648), 2147483647), ((-2147483648), 2147483647), ((-2147483648), 2147483647)], [], [], 212), [(2, (0, [])), (0, (0, [(0, 1)])), (0, (0, [(1, 1)])), (0, (0, [(2, 1)]))], [(([((-2147483648), 2147483647), ((-2147483648), 2147483647), ((-2147483648), 2147483647), ((-12), 1)], [], [], 212), some (0, (0, [(3, 1)])))])
def s_188 : List aCt := [c_187]
def h_188 : List (Nat × aS × Fm) := []
theorem e_188 : ckE 6000 gT s_188 (fun _ => 0) sp0 c_188 h_188 = true := by decide +kernel
theorem k_188 (hB : BytesOK) (g : bG) (l : Launch) : Keeps g l gT c_188 := keeps_of hB.1 hB.2 (List.forall_mem_cons.mpr ⟨k_187 hB g l, nilK⟩) e_188 nilK
/-- Sheets.itemAt ((('c', 181), ('u', 0), ('u', 0), ('u', 0)), ()) -/
def c_189 : aCt := (71, 1, some [], false, ([((-2147483648), 2147483647), ((-2147483648), 2147483647), ((-2147483648), 2147483647)], [], [], 212), [(2, (181, [])), (0, (0, [(0, 1)])), (0, (0, [(1, 1)])), (0, (0, [(2, 1)]))], [(([((-2147483648), 2147483647), ((-2147483648), 2147483647), ((-2147483648), 2147483647), ((-2147483648), 2147483647)], [], [], 212), some (0, (0, [(3, 1)])))])
def sp_189 : aSp := fun k pc S => if pc = 65 ∧ k = 71 then spS 0 [0, 1, 2] S else none
def s_189 : List aCt := []
def h_189 : List (Nat × aS × Fm) := []
theorem e_189 : ckE 6000 gT s_189 (fun _ => 0) sp_189 c_189 h_189 = true := by decide +kernel
theorem k_189 (hB : BytesOK) (g : bG) (l : Launch) : Keeps g l gT c_189 := keeps_of hB.1 hB.2 (nilK) e_189 nilK
/-- B.item ((('c', 0), ('u', 0), ('u', 0), ('u', 0)), ()) -/
def c_190 : aCt := (162, 2, some [], false, ([((-2147483648), 2147483647), ((-2147483648), 2147483647), ((-2147483648), 2147483647)], [], [], 212), [(2, (0, [])), (0, (0, [(0, 1)])), (0, (0, [(1, 1)])), (0, (0, [(2, 1)]))], [(([((-2147483648), 2147483647), ((-2147483648), 2147483647), ((-2147483648), 2147483647), ((-2147483648), 2147483647)], [], [], 212), some (0, (0, [(3, 1)])))])
def s_190 : List aCt := [c_189]
def h_190 : List (Nat × aS × Fm) := []
theorem e_190 : ckE 6000 gT s_190 (fun _ => 0) sp0 c_190 h_190 = true := by decide +kernel
theorem k_190 (hB : BytesOK) (g : bG) (l : Launch) : Keeps g l gT c_190 := keeps_of hB.1 hB.2 (List.forall_mem_cons.mpr ⟨k_189 hB g l, nilK⟩) e_190 nilK
/-- Sheets.bringClaim ((('u', 1), ('c', 2)), ()) -/
def c_191 : aCt := (73, 2, some [(2, 1, 2), (3, 0, 16), (4, 0, 16), (5, 0, 16), (6, 0, 16), (7, 0, 16), (8, 0, 16), (9, 0, 16)], false, ([((-2147483648), 2147483647)], [], [], 212), [(1, (0, [(0, 1)])), (2, (2, []))], [(([((-2147483648), 2147483647), ((-2), 15)], [], [], 212), some (0, (0, [(1, 1)])))])
def s_191 : List aCt := [c_15]
def h_191 : List (Nat × aS × Fm) := []
theorem e_191 : ckE 6000 gT s_191 (fun _ => 0) sp0 c_191 h_191 = true := by decide +kernel
theorem k_191 (hB : BytesOK) (g : bG) (l : Launch) : Keeps g l gT c_191 := keeps_of hB.1 hB.2 (List.forall_mem_cons.mpr ⟨k_15 hB g l, nilK⟩) e_191 nilK
/-- Sheets.bringClaims ((('c', 181), ('u', 0), ('u', 0), ('u', 0), ('c', 2)), ()) -/
def c_192 : aCt := (72, 3, some [(2, 1, 2), (3, 0, 16), (4, 0, 16), (5, 0, 16), (6, 0, 16), (7, 0, 16), (8, 0, 16), (9, 0, 16)], false, ([(0, 3), ((-2147483648), 2147483647), (0, 6)], [], [], 212), [(2, (181, [])), (0, (0, [(0, 1)])), (0, (0, [(1, 1)])), (0, (0, [(2, 1)])), (2, (2, []))], [(([(0, 3), ((-2147483648), 2147483647), (0, 6), ((-2147483648), 2147483647)], [], [], 212), some (0, (0, [(3, 1)])))])
def sp_192 : aSp := fun k pc S => if pc = 71 ∧ k = 72 then spS 0 [0, 1, 2] S else none
def s_192 : List aCt := [c_191]
def h_192_0 : Nat × aS × Fm := (40, ([(0, (2, (181, []))), (1, (0, (0, [(0, 1)]))), (2, (0, (0, [(1, 1)]))), (3, (0, (0, [(2, 1)]))), (4, (2, (2, []))), (5, (0, (0, [(4, 1)]))), (6, (0, (0, [(3, 1)])))], [], ([(0, 3), ((-2147483648), 2147483647), (0, 6), (0, 6), ((-2147483648), 2147483647)], [], [], 212)), (13, [(3, (-2))]))
def h_192 : List (Nat × aS × Fm) := [h_192_0]
theorem e_192 : ckE 6000 gT s_192 (fun _ => 0) sp_192 c_192 h_192 = true := by decide +kernel
theorem g_192_0 : ([h_192_0].all fun H => ckH 6000 gT s_192 (fun _ => 0) sp_192 c_192 h_192 H) = true := by decide +kernel
theorem k_192 (hB : BytesOK) (g : bG) (l : Launch) : Keeps g l gT c_192 := keeps_of hB.1 hB.2 (List.forall_mem_cons.mpr ⟨k_191 hB g l, nilK⟩) e_192 (List.all_eq_true.mp g_192_0)
/-- B.comes ((('c', 0), ('u', 0), ('u', 0), ('u', 0)), ()) -/
def c_193 : aCt := (163, 4, some [(2, 1, 2), (3, 0, 16), (4, 0, 16), (5, 0, 16), (6, 0, 16), (7, 0, 16), (8, 0, 16), (9, 0, 16)], false, ([((-2147483648), 2147483647), ((-2147483648), 2147483647), ((-2147483648), 2147483647)], [], [], 212), [(2, (0, [])), (0, (0, [(0, 1)])), (0, (0, [(1, 1)])), (0, (0, [(2, 1)]))], [(([((-2147483648), 2147483647), ((-2147483648), 2147483647), ((-2147483648), 2147483647), ((-2147483648), 2147483647)], [], [], 212), some (0, (0, [(3, 1)])))])
def s_193 : List aCt := [c_192]
def h_193 : List (Nat × aS × Fm) := []
theorem e_193 : ckE 6000 gT s_193 (fun _ => 0) sp0 c_193 h_193 = true := by decide +kernel
theorem k_193 (hB : BytesOK) (g : bG) (l : Launch) : Keeps g l gT c_193 := keeps_of hB.1 hB.2 (List.forall_mem_cons.mpr ⟨k_192 hB g l, nilK⟩) e_193 nilK
/-- Sheets.sortOf ((('c', 181), ('u', 0)), ()) -/
def c_194 : aCt := (66, 1, some [], false, ([(0, 3)], [], [], 212), [(2, (181, [])), (0, (0, [(0, 1)]))], [(([(0, 3), ((-1), 3)], [], [], 212), some (0, (0, [(1, 1)])))])
def s_194 : List aCt := []
def h_194 : List (Nat × aS × Fm) := []
theorem e_194 : ckE 6000 gT s_194 (fun _ => 0) sp0 c_194 h_194 = true := by decide +kernel
theorem k_194 (hB : BytesOK) (g : bG) (l : Launch) : Keeps g l gT c_194 := keeps_of hB.1 hB.2 (nilK) e_194 nilK
/-- B.shelf ((('c', 0), ('u', 0), ('u', 0), ('u', 0)), ()) -/
def c_195 : aCt := (164, 2, some [(191, 0, 4), (192, 0, 4)], false, ([((-2147483648), 2147483647), ((-2147483648), 2147483647), ((-2147483648), 2147483647)], [], [], 212), [(2, (0, [])), (0, (0, [(0, 1)])), (0, (0, [(1, 1)])), (0, (0, [(2, 1)]))], [(([((-2147483648), 2147483647), ((-2147483648), 2147483647), ((-2147483648), 2147483647), ((-1), 1)], [], [], 212), some (0, (0, [(3, 1)])))])
def s_195 : List aCt := [c_194]
def h_195 : List (Nat × aS × Fm) := []
theorem e_195 : ckE 6000 gT s_195 (fun _ => 0) sp0 c_195 h_195 = true := by decide +kernel
theorem k_195 (hB : BytesOK) (g : bG) (l : Launch) : Keeps g l gT c_195 := keeps_of hB.1 hB.2 (List.forall_mem_cons.mpr ⟨k_194 hB g l, nilK⟩) e_195 nilK
/-- Pool.kindOfClaim ((('c', 1), ('u', 0)), ()) -/
def c_196 : aCt := (22, 2, some [], false, ([(0, 15)], [], [], 212), [(2, (1, [])), (0, (0, [(0, 1)]))], [(([(0, 15), (0, 3)], [], [], 212), some (0, (0, [(1, 1)])))])
def s_196 : List aCt := [c_31, c_36]
def h_196 : List (Nat × aS × Fm) := []
theorem e_196 : ckE 6000 gT s_196 (fun _ => 0) sp0 c_196 h_196 = true := by decide +kernel
theorem k_196 (hB : BytesOK) (g : bG) (l : Launch) : Keeps g l gT c_196 := keeps_of hB.1 hB.2 (List.forall_mem_cons.mpr ⟨k_31 hB g l, List.forall_mem_cons.mpr ⟨k_36 hB g l, nilK⟩⟩) e_196 nilK
/-- B.kindOn ((('c', 0), ('u', 0)), ()) -/
def c_197 : aCt := (180, 3, some [], false, ([(0, 3)], [], [], 212), [(2, (0, [])), (0, (0, [(0, 1)]))], [(([(0, 3), ((-1), 13)], [], [], 212), some (0, (0, [(1, 1)])))])
def sp_197 : aSp := fun k pc S => if pc = 0 ∧ k = 180 then spL 1 [0, 1, 2] S else none
def s_197 : List aCt := [c_196, c_194, c_115]
def h_197 : List (Nat × aS × Fm) := []
theorem e_197 : ckE 6000 gT s_197 (fun _ => 0) sp_197 c_197 h_197 = true := by decide +kernel
theorem k_197 (hB : BytesOK) (g : bG) (l : Launch) : Keeps g l gT c_197 := keeps_of hB.1 hB.2 (List.forall_mem_cons.mpr ⟨k_196 hB g l, List.forall_mem_cons.mpr ⟨k_194 hB g l, List.forall_mem_cons.mpr ⟨k_115 hB g l, nilK⟩⟩⟩) e_197 nilK
/-- Sheets.sizeOf ((('c', 181), ('u', 0)), ()) -/
def c_198 : aCt := (67, 1, some [], false, ([((-2147483648), 2147483647)], [], [], 212), [(2, (181, [])), (0, (0, [(0, 1)]))], [(([((-2147483648), 2147483647), (0, 40)], [], [], 212), some (0, (0, [(1, 1)])))])
def s_198 : List aCt := []
def h_198 : List (Nat × aS × Fm) := []
theorem e_198 : ckE 6000 gT s_198 (fun _ => 0) sp0 c_198 h_198 = true := by decide +kernel
theorem k_198 (hB : BytesOK) (g : bG) (l : Launch) : Keeps g l gT c_198 := keeps_of hB.1 hB.2 (nilK) e_198 nilK
/-- B.taken ((('c', 0), ('u', 0), ('u', 0)), ()) -/
def c_199 : aCt := (165, 4, some [], false, ([((-2147483648), 2147483647), ((-2147483648), 2147483647)], [], [], 212), [(2, (0, [])), (0, (0, [(0, 1)])), (0, (0, [(1, 1)]))], [(([((-2147483648), 2147483647), ((-2147483648), 2147483647), ((-2147483648), 2147483647)], [], [], 212), some (0, (0, [(2, 1)])))])
def s_199 : List aCt := [c_198, c_197]
def h_199 : List (Nat × aS × Fm) := []
theorem e_199 : ckE 6000 gT s_199 (fun _ => 0) sp0 c_199 h_199 = true := by decide +kernel
theorem k_199 (hB : BytesOK) (g : bG) (l : Launch) : Keeps g l gT c_199 := keeps_of hB.1 hB.2 (List.forall_mem_cons.mpr ⟨k_198 hB g l, List.forall_mem_cons.mpr ⟨k_197 hB g l, nilK⟩⟩) e_199 nilK
/-- B.amountOn ((('c', 0), ('u', 0)), ()) -/
def c_200 : aCt := (181, 2, some [], false, ([(0, 3)], [], [], 212), [(2, (0, [])), (0, (0, [(0, 1)]))], [(([(0, 3), ((-2147483648), 2147483647)], [], [], 212), some (0, (0, [(1, 1)])))])
def sp_200 : aSp := fun k pc S => if pc = 0 ∧ k = 181 then spL 1 [0, 1, 2] S else none
def s_200 : List aCt := []
def h_200 : List (Nat × aS × Fm) := []
theorem e_200 : ckE 6000 gT s_200 (fun _ => 0) sp_200 c_200 h_200 = true := by decide +kernel
theorem k_200 (hB : BytesOK) (g : bG) (l : Launch) : Keeps g l gT c_200 := keeps_of hB.1 hB.2 (nilK) e_200 nilK
