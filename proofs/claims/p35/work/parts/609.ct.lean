/-- Acts.reads ((('c', 189), ('u', 0)), ()) -/
def c_187 : aCt := (7, 1, some [(189, 0, 1), (190, 0, 30)], false, ([((-2147483648), 2147483647)], [], [], 212), [(2, (189, [])), (0, (0, [(0, 1)]))], [(([((-2147483648), 2147483647), ((-2147483648), 2147483647)], [], [], 212), some (0, (0, [(1, 1)])))])
def s_187 : List aCt := [c_185]
def h_187 : List (Nat × aS × Fm) := []
theorem e_187 : ckE 6000 gT s_187 (fun _ => 0) sp0 c_187 h_187 = true := by decide +kernel
theorem k_187 (hB : BytesOK) (g : bG) (l : Launch) : Keeps g l gT c_187 := keeps_of hB.1 hB.2 (List.forall_mem_cons.mpr ⟨k_185 hB g l, nilK⟩) e_187 nilK
/-- Acts.counts ((('c', 189), ('u', 0)), ()) -/
def c_188 : aCt := (8, 2, some [(189, 0, 1), (190, 0, 30)], false, ([((-2147483648), 2147483647)], [], [], 212), [(2, (189, [])), (0, (0, [(0, 1)]))], [(([((-2147483648), 2147483647), ((-2147483648), 2147483647)], [], [], 212), some (0, (0, [(1, 1)])))])
def s_188 : List aCt := [c_185, c_186, c_187]
def h_188 : List (Nat × aS × Fm) := []
theorem e_188 : ckE 6000 gT s_188 (fun _ => 0) sp0 c_188 h_188 = true := by decide +kernel
theorem k_188 (hB : BytesOK) (g : bG) (l : Launch) : Keeps g l gT c_188 := keeps_of hB.1 hB.2 (List.forall_mem_cons.mpr ⟨k_185 hB g l, List.forall_mem_cons.mpr ⟨k_186 hB g l, List.forall_mem_cons.mpr ⟨k_187 hB g l, nilK⟩⟩⟩) e_188 nilK
/-- Acts.pays ((('c', 189), ('u', 0)), ()) -/
def c_189 : aCt := (9, 1, some [(189, 0, 1), (189, 5, 6), (190, 0, 30)], false, ([((-2147483648), 2147483647)], [], [], 212), [(2, (189, [])), (0, (0, [(0, 1)]))], [(([((-2147483648), 2147483647), ((-2147483648), 2147483647)], [], [], 212), some (0, (0, [(1, 1)])))])
def sp_189 : aSp := fun k pc S => if pc = 43 ∧ k = 9 then spD [(-1), 0] S else none
def s_189 : List aCt := [c_185]
def h_189 : List (Nat × aS × Fm) := []
theorem e_189 : ckE 6000 gT s_189 (fun _ => 0) sp_189 c_189 h_189 = true := by decide +kernel
theorem k_189 (hB : BytesOK) (g : bG) (l : Launch) : Keeps g l gT c_189 := keeps_of hB.1 hB.2 (List.forall_mem_cons.mpr ⟨k_185 hB g l, nilK⟩) e_189 nilK
/-- Acts.ends ((('c', 189), ('u', 0)), ()) -/
def c_190 : aCt := (10, 3, some [(189, 0, 1), (189, 5, 6), (190, 0, 30)], false, ([((-2147483648), 2147483647)], [], [], 212), [(2, (189, [])), (0, (0, [(0, 1)]))], [(([((-2147483648), 2147483647), ((-2147483648), 2147483647)], [], [], 212), some (0, (0, [(1, 1)])))])
def s_190 : List aCt := [c_185, c_186, c_188, c_189]
def h_190 : List (Nat × aS × Fm) := []
theorem e_190 : ckE 6000 gT s_190 (fun _ => 0) sp0 c_190 h_190 = true := by decide +kernel
theorem k_190 (hB : BytesOK) (g : bG) (l : Launch) : Keeps g l gT c_190 := keeps_of hB.1 hB.2 (List.forall_mem_cons.mpr ⟨k_185 hB g l, List.forall_mem_cons.mpr ⟨k_186 hB g l, List.forall_mem_cons.mpr ⟨k_188 hB g l, List.forall_mem_cons.mpr ⟨k_189 hB g l, nilK⟩⟩⟩⟩) e_190 nilK
/-- Acts.run ((('c', 189), ('u', 0), ('u', 0), ('u', 0), ('u', 0), ('u', 0)), ()) -/
def c_191 : aCt := (4, 4, some [(189, 0, 1), (189, 2, 6), (190, 0, 30)], false, ([(0, 9), ((-2147483648), 2147483647), ((-2147483648), 2147483647), (0, 3), ((-2147483648), 2147483647)], [], [], 212), [(2, (189, [])), (0, (0, [(0, 1)])), (0, (0, [(1, 1)])), (0, (0, [(2, 1)])), (0, (0, [(3, 1)])), (0, (0, [(4, 1)]))], [(([(0, 9), ((-2147483648), 2147483647), ((-2147483648), 2147483647), (0, 3), ((-2147483648), 2147483647), ((-2147483648), 2147483647)], [], [], 212), some (0, (0, [(5, 1)])))])
def s_191 : List aCt := [c_187, c_188, c_189, c_190]
def h_191 : List (Nat × aS × Fm) := []
theorem e_191 : ckE 6000 gT s_191 (fun _ => 0) sp0 c_191 h_191 = true := by decide +kernel
theorem k_191 (hB : BytesOK) (g : bG) (l : Launch) : Keeps g l gT c_191 := keeps_of hB.1 hB.2 (List.forall_mem_cons.mpr ⟨k_187 hB g l, List.forall_mem_cons.mpr ⟨k_188 hB g l, List.forall_mem_cons.mpr ⟨k_189 hB g l, List.forall_mem_cons.mpr ⟨k_190 hB g l, nilK⟩⟩⟩⟩) e_191 nilK
/-- B.act ((('c', 0), ('u', 0), ('u', 0), ('u', 0)), ()) -/
def c_192 : aCt := (166, 5, some [(189, 0, 1), (189, 2, 6), (190, 0, 30)], false, ([((-2147483648), 2147483647), ((-2147483648), 2147483647), ((-2147483648), 2147483647)], [], [], 212), [(2, (0, [])), (0, (0, [(0, 1)])), (0, (0, [(1, 1)])), (0, (0, [(2, 1)]))], [(([((-2147483648), 2147483647), ((-2147483648), 2147483647), ((-2147483648), 2147483647), ((-2147483648), 2147483647)], [], [], 212), some (0, (0, [(3, 1)])))])
def s_192 : List aCt := [c_191, c_181, c_184]
def h_192 : List (Nat × aS × Fm) := []
theorem e_192 : ckE 6000 gT s_192 (fun _ => 0) sp0 c_192 h_192 = true := by decide +kernel
theorem k_192 (hB : BytesOK) (g : bG) (l : Launch) : Keeps g l gT c_192 := keeps_of hB.1 hB.2 (List.forall_mem_cons.mpr ⟨k_191 hB g l, List.forall_mem_cons.mpr ⟨k_181 hB g l, List.forall_mem_cons.mpr ⟨k_184 hB g l, nilK⟩⟩⟩) e_192 nilK
/-- B.trace ((('c', 0), ('u', 0)), ()) -/
def c_193 : aCt := (167, 1, some [], false, ([((-2147483648), 2147483647)], [], [], 212), [(2, (0, [])), (0, (0, [(0, 1)]))], [(([((-2147483648), 2147483647), ((-3), 99)], [], [], 212), some (0, (0, [(1, 1)])))])
def s_193 : List aCt := []
def h_193 : List (Nat × aS × Fm) := []
theorem e_193 : ckE 6000 gT s_193 (fun _ => 0) sp0 c_193 h_193 = true := by decide +kernel
theorem k_193 (hB : BytesOK) (g : bG) (l : Launch) : Keeps g l gT c_193 := keeps_of hB.1 hB.2 (nilK) e_193 nilK
/-- Needs.machines ((('c', 14),), ()) -/
def c_194 : aCt := (14, 0, some [], false, ([], [], [], 212), [(2, (14, []))], [(([((-2147483648), 2147483647)], [], [], 212), some (0, (0, [(0, 1)])))])
def s_194 : List aCt := []
def h_194_0 : Nat × aS × Fm := (4, ([(0, (2, (14, []))), (1, (0, (0, [(0, 1)]))), (2, (0, (0, [(1, 1)])))], [], ([((-2147483648), 2147483647), (0, 6)], [], [], 212)), (13, [(1, (-2))]))
def h_194 : List (Nat × aS × Fm) := [h_194_0]
theorem e_194 : ckE 6000 gT s_194 (fun _ => 0) sp0 c_194 h_194 = true := by decide +kernel
theorem g_194_0 : ([h_194_0].all fun H => ckH 6000 gT s_194 (fun _ => 0) sp0 c_194 h_194 H) = true := by decide +kernel
theorem k_194 (hB : BytesOK) (g : bG) (l : Launch) : Keeps g l gT c_194 := keeps_of hB.1 hB.2 (nilK) e_194 (List.all_eq_true.mp g_194_0)
/-- Pool.neededClaims ((('c', 1),), ()) -/
def c_195 : aCt := (21, 2, some [], false, ([], [], [], 212), [(2, (1, []))], [(([((-2147483648), 2147483647)], [], [], 212), some (0, (0, [(0, 1)])))])
def s_195 : List aCt := [c_17]
def h_195_0 : Nat × aS × Fm := (4, ([(0, (2, (1, []))), (1, (0, (0, [(1, 1)]))), (2, (0, (0, [(0, 1)])))], [], ([(0, 16), ((-2147483648), 2147483647)], [], [], 212)), (33, [(0, (-2))]))
def h_195 : List (Nat × aS × Fm) := [h_195_0]
theorem e_195 : ckE 6000 gT s_195 (fun _ => 0) sp0 c_195 h_195 = true := by decide +kernel
theorem g_195_0 : ([h_195_0].all fun H => ckH 6000 gT s_195 (fun _ => 0) sp0 c_195 h_195 H) = true := by decide +kernel
theorem k_195 (hB : BytesOK) (g : bG) (l : Launch) : Keeps g l gT c_195 := keeps_of hB.1 hB.2 (List.forall_mem_cons.mpr ⟨k_17 hB g l, nilK⟩) e_195 (List.all_eq_true.mp g_195_0)
/-- B.many ((('c', 0), ('u', 0)), ()) -/
def c_196 : aCt := (168, 3, some [], false, ([((-2147483648), 2147483647)], [], [], 212), [(2, (0, [])), (0, (0, [(0, 1)]))], [(([((-2147483648), 2147483647), ((-2147483648), 2147483647)], [], [], 212), some (0, (0, [(1, 1)])))])
def s_196 : List aCt := [c_194, c_195]
def h_196 : List (Nat × aS × Fm) := []
theorem e_196 : ckE 6000 gT s_196 (fun _ => 0) sp0 c_196 h_196 = true := by decide +kernel
theorem k_196 (hB : BytesOK) (g : bG) (l : Launch) : Keeps g l gT c_196 := keeps_of hB.1 hB.2 (List.forall_mem_cons.mpr ⟨k_194 hB g l, List.forall_mem_cons.mpr ⟨k_195 hB g l, nilK⟩⟩) e_196 nilK
/-- Terms.become ((('c', 127), ('c', 43)), ()) -/
def c_197 : aCt := (105, 2, some [(127, 0, 2), (127, 4, 6), (127, 8, 9), (127, 10, 12), (128, 0, 9), (129, 0, 9), (130, 0, 4), (131, 0, 3), (132, 0, 4), (133, 0, 220)], false, ([], [], [], 212), [(2, (127, [])), (2, (43, []))], [(([], [], [], 212), none)])
def s_197 : List aCt := []
def h_197 : List (Nat × aS × Fm) := []
theorem e_197 : ckE 6000 gT s_197 (fun _ => 0) sp0 c_197 h_197 = true := by decide +kernel
theorem k_197 (hB : BytesOK) (g : bG) (l : Launch) : Keeps g l gT c_197 := keeps_of hB.1 hB.2 (nilK) e_197 nilK
/-- Terms.become ((('c', 134), ('c', 50)), ()) -/
def c_198 : aCt := (105, 2, some [(134, 0, 2), (134, 4, 6), (134, 8, 9), (134, 10, 12), (135, 0, 9), (136, 0, 9), (137, 0, 4), (138, 0, 3), (139, 0, 4), (140, 0, 220)], false, ([], [], [], 212), [(2, (134, [])), (2, (50, []))], [(([], [], [], 212), none)])
def s_198 : List aCt := []
def h_198 : List (Nat × aS × Fm) := []
theorem e_198 : ckE 6000 gT s_198 (fun _ => 0) sp0 c_198 h_198 = true := by decide +kernel
theorem k_198 (hB : BytesOK) (g : bG) (l : Launch) : Keeps g l gT c_198 := keeps_of hB.1 hB.2 (nilK) e_198 nilK
/-- Terms.become ((('c', 141), ('c', 57)), ()) -/
def c_199 : aCt := (105, 2, some [(141, 0, 2), (141, 4, 6), (141, 8, 9), (141, 10, 12), (142, 0, 9), (143, 0, 9), (144, 0, 4), (145, 0, 3), (146, 0, 4), (147, 0, 220)], false, ([], [], [], 212), [(2, (141, [])), (2, (57, []))], [(([], [], [], 212), none)])
def s_199 : List aCt := []
def h_199 : List (Nat × aS × Fm) := []
theorem e_199 : ckE 6000 gT s_199 (fun _ => 0) sp0 c_199 h_199 = true := by decide +kernel
theorem k_199 (hB : BytesOK) (g : bG) (l : Launch) : Keeps g l gT c_199 := keeps_of hB.1 hB.2 (nilK) e_199 nilK
/-- Terms.become ((('c', 148), ('c', 64)), ()) -/
def c_200 : aCt := (105, 2, some [(148, 0, 2), (148, 4, 6), (148, 8, 9), (148, 10, 12), (149, 0, 9), (150, 0, 9), (151, 0, 4), (152, 0, 3), (153, 0, 4), (154, 0, 220)], false, ([], [], [], 212), [(2, (148, [])), (2, (64, []))], [(([], [], [], 212), none)])
def s_200 : List aCt := []
def h_200 : List (Nat × aS × Fm) := []
theorem e_200 : ckE 6000 gT s_200 (fun _ => 0) sp0 c_200 h_200 = true := by decide +kernel
theorem k_200 (hB : BytesOK) (g : bG) (l : Launch) : Keeps g l gT c_200 := keeps_of hB.1 hB.2 (nilK) e_200 nilK
/-- Terms.become ((('c', 155), ('c', 71)), ()) -/
def c_201 : aCt := (105, 2, some [(155, 0, 2), (155, 4, 6), (155, 8, 9), (155, 10, 12), (156, 0, 9), (157, 0, 9), (158, 0, 4), (159, 0, 3), (160, 0, 4), (161, 0, 220)], false, ([], [], [], 212), [(2, (155, [])), (2, (71, []))], [(([], [], [], 212), none)])
def s_201 : List aCt := []
def h_201 : List (Nat × aS × Fm) := []
theorem e_201 : ckE 6000 gT s_201 (fun _ => 0) sp0 c_201 h_201 = true := by decide +kernel
theorem k_201 (hB : BytesOK) (g : bG) (l : Launch) : Keeps g l gT c_201 := keeps_of hB.1 hB.2 (nilK) e_201 nilK
/-- Terms.become ((('c', 162), ('c', 78)), ()) -/
def c_202 : aCt := (105, 2, some [(162, 0, 2), (162, 4, 6), (162, 8, 9), (162, 10, 12), (163, 0, 9), (164, 0, 9), (165, 0, 4), (166, 0, 3), (167, 0, 4), (168, 0, 220)], false, ([], [], [], 212), [(2, (162, [])), (2, (78, []))], [(([], [], [], 212), none)])
def s_202 : List aCt := []
def h_202 : List (Nat × aS × Fm) := []
theorem e_202 : ckE 6000 gT s_202 (fun _ => 0) sp0 c_202 h_202 = true := by decide +kernel
theorem k_202 (hB : BytesOK) (g : bG) (l : Launch) : Keeps g l gT c_202 := keeps_of hB.1 hB.2 (nilK) e_202 nilK
/-- Terms.become ((('c', 43), ('c', 127)), ()) -/
def c_203 : aCt := (105, 2, some [(43, 0, 2), (43, 4, 6), (43, 8, 9), (43, 10, 12), (44, 0, 9), (45, 0, 9), (46, 0, 4), (47, 0, 3), (48, 0, 4), (49, 0, 220)], false, ([], [], [], 212), [(2, (43, [])), (2, (127, []))], [(([], [], [], 212), none)])
def s_203 : List aCt := []
def h_203 : List (Nat × aS × Fm) := []
theorem e_203 : ckE 6000 gT s_203 (fun _ => 0) sp0 c_203 h_203 = true := by decide +kernel
theorem k_203 (hB : BytesOK) (g : bG) (l : Launch) : Keeps g l gT c_203 := keeps_of hB.1 hB.2 (nilK) e_203 nilK
/-- Terms.become ((('c', 50), ('c', 134)), ()) -/
def c_204 : aCt := (105, 2, some [(50, 0, 2), (50, 4, 6), (50, 8, 9), (50, 10, 12), (51, 0, 9), (52, 0, 9), (53, 0, 4), (54, 0, 3), (55, 0, 4), (56, 0, 220)], false, ([], [], [], 212), [(2, (50, [])), (2, (134, []))], [(([], [], [], 212), none)])
def s_204 : List aCt := []
def h_204 : List (Nat × aS × Fm) := []
theorem e_204 : ckE 6000 gT s_204 (fun _ => 0) sp0 c_204 h_204 = true := by decide +kernel
theorem k_204 (hB : BytesOK) (g : bG) (l : Launch) : Keeps g l gT c_204 := keeps_of hB.1 hB.2 (nilK) e_204 nilK
