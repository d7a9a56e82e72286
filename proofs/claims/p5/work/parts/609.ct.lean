/-- B.trace ((('c', 0), ('u', 0)), ()) -/
def c_180 : aCt := (167, 1, some [], false, ([((-2147483648), 2147483647)], [], [], 212), [(2, (0, [])), (0, (0, [(0, 1)]))], [(([((-2147483648), 2147483647), ((-3), 99)], [], [], 212), some (0, (0, [(1, 1)])))])
def s_180 : List aCt := []
def h_180 : List (Nat × aS × Fm) := []
theorem e_180 : ckE 6000 gT s_180 (fun _ => 0) sp0 c_180 h_180 = true := by decide +kernel
theorem k_180 (hB : BytesOK) (g : bG) (l : Launch) : Keeps g l gT c_180 := keeps_of hB.1 hB.2 (nilK) e_180 nilK
/-- Needs.machines ((('c', 14),), ()) -/
def c_181 : aCt := (14, 0, some [], false, ([], [], [], 212), [(2, (14, []))], [(([((-2147483648), 2147483647)], [], [], 212), some (0, (0, [(0, 1)])))])
def s_181 : List aCt := []
def h_181_0 : Nat × aS × Fm := (4, ([(0, (2, (14, []))), (1, (0, (0, [(0, 1)]))), (2, (0, (0, [(1, 1)])))], [], ([((-2147483648), 2147483647), (0, 6)], [], [], 212)), (13, [(1, (-2))]))
def h_181 : List (Nat × aS × Fm) := [h_181_0]
theorem e_181 : ckE 6000 gT s_181 (fun _ => 0) sp0 c_181 h_181 = true := by decide +kernel
theorem g_181_0 : ([h_181_0].all fun H => ckH 6000 gT s_181 (fun _ => 0) sp0 c_181 h_181 H) = true := by decide +kernel
theorem k_181 (hB : BytesOK) (g : bG) (l : Launch) : Keeps g l gT c_181 := keeps_of hB.1 hB.2 (nilK) e_181 (List.all_eq_true.mp g_181_0)
/-- Pool.neededClaims ((('c', 1),), ()) -/
def c_182 : aCt := (21, 2, some [], false, ([], [], [], 212), [(2, (1, []))], [(([((-2147483648), 2147483647)], [], [], 212), some (0, (0, [(0, 1)])))])
def s_182 : List aCt := [c_11]
def h_182_0 : Nat × aS × Fm := (4, ([(0, (2, (1, []))), (1, (0, (0, [(1, 1)]))), (2, (0, (0, [(0, 1)])))], [], ([(0, 16), ((-2147483648), 2147483647)], [], [], 212)), (33, [(0, (-2))]))
def h_182 : List (Nat × aS × Fm) := [h_182_0]
theorem e_182 : ckE 6000 gT s_182 (fun _ => 0) sp0 c_182 h_182 = true := by decide +kernel
theorem g_182_0 : ([h_182_0].all fun H => ckH 6000 gT s_182 (fun _ => 0) sp0 c_182 h_182 H) = true := by decide +kernel
theorem k_182 (hB : BytesOK) (g : bG) (l : Launch) : Keeps g l gT c_182 := keeps_of hB.1 hB.2 (List.forall_mem_cons.mpr ⟨k_11 hB g l, nilK⟩) e_182 (List.all_eq_true.mp g_182_0)
/-- B.many ((('c', 0), ('u', 0)), ()) -/
def c_183 : aCt := (168, 3, some [], false, ([((-2147483648), 2147483647)], [], [], 212), [(2, (0, [])), (0, (0, [(0, 1)]))], [(([((-2147483648), 2147483647), ((-2147483648), 2147483647)], [], [], 212), some (0, (0, [(1, 1)])))])
def s_183 : List aCt := [c_181, c_182]
def h_183 : List (Nat × aS × Fm) := []
theorem e_183 : ckE 6000 gT s_183 (fun _ => 0) sp0 c_183 h_183 = true := by decide +kernel
theorem k_183 (hB : BytesOK) (g : bG) (l : Launch) : Keeps g l gT c_183 := keeps_of hB.1 hB.2 (List.forall_mem_cons.mpr ⟨k_181 hB g l, List.forall_mem_cons.mpr ⟨k_182 hB g l, nilK⟩⟩) e_183 nilK
/-- Terms.become ((('c', 127), ('c', 43)), ()) -/
def c_184 : aCt := (105, 2, some [(127, 0, 2), (127, 4, 6), (127, 8, 9), (127, 10, 12), (128, 0, 9), (129, 0, 9), (130, 0, 4), (131, 0, 3), (132, 0, 4), (133, 0, 220)], false, ([], [], [], 212), [(2, (127, [])), (2, (43, []))], [(([], [], [], 212), none)])
def s_184 : List aCt := []
def h_184 : List (Nat × aS × Fm) := []
theorem e_184 : ckE 6000 gT s_184 (fun _ => 0) sp0 c_184 h_184 = true := by decide +kernel
theorem k_184 (hB : BytesOK) (g : bG) (l : Launch) : Keeps g l gT c_184 := keeps_of hB.1 hB.2 (nilK) e_184 nilK
/-- Terms.become ((('c', 134), ('c', 50)), ()) -/
def c_185 : aCt := (105, 2, some [(134, 0, 2), (134, 4, 6), (134, 8, 9), (134, 10, 12), (135, 0, 9), (136, 0, 9), (137, 0, 4), (138, 0, 3), (139, 0, 4), (140, 0, 220)], false, ([], [], [], 212), [(2, (134, [])), (2, (50, []))], [(([], [], [], 212), none)])
def s_185 : List aCt := []
def h_185 : List (Nat × aS × Fm) := []
theorem e_185 : ckE 6000 gT s_185 (fun _ => 0) sp0 c_185 h_185 = true := by decide +kernel
theorem k_185 (hB : BytesOK) (g : bG) (l : Launch) : Keeps g l gT c_185 := keeps_of hB.1 hB.2 (nilK) e_185 nilK
/-- Terms.become ((('c', 141), ('c', 57)), ()) -/
def c_186 : aCt := (105, 2, some [(141, 0, 2), (141, 4, 6), (141, 8, 9), (141, 10, 12), (142, 0, 9), (143, 0, 9), (144, 0, 4), (145, 0, 3), (146, 0, 4), (147, 0, 220)], false, ([], [], [], 212), [(2, (141, [])), (2, (57, []))], [(([], [], [], 212), none)])
def s_186 : List aCt := []
def h_186 : List (Nat × aS × Fm) := []
theorem e_186 : ckE 6000 gT s_186 (fun _ => 0) sp0 c_186 h_186 = true := by decide +kernel
theorem k_186 (hB : BytesOK) (g : bG) (l : Launch) : Keeps g l gT c_186 := keeps_of hB.1 hB.2 (nilK) e_186 nilK
/-- Terms.become ((('c', 148), ('c', 64)), ()) -/
def c_187 : aCt := (105, 2, some [(148, 0, 2), (148, 4, 6), (148, 8, 9), (148, 10, 12), (149, 0, 9), (150, 0, 9), (151, 0, 4), (152, 0, 3), (153, 0, 4), (154, 0, 220)], false, ([], [], [], 212), [(2, (148, [])), (2, (64, []))], [(([], [], [], 212), none)])
def s_187 : List aCt := []
def h_187 : List (Nat × aS × Fm) := []
theorem e_187 : ckE 6000 gT s_187 (fun _ => 0) sp0 c_187 h_187 = true := by decide +kernel
theorem k_187 (hB : BytesOK) (g : bG) (l : Launch) : Keeps g l gT c_187 := keeps_of hB.1 hB.2 (nilK) e_187 nilK
/-- Terms.become ((('c', 155), ('c', 71)), ()) -/
def c_188 : aCt := (105, 2, some [(155, 0, 2), (155, 4, 6), (155, 8, 9), (155, 10, 12), (156, 0, 9), (157, 0, 9), (158, 0, 4), (159, 0, 3), (160, 0, 4), (161, 0, 220)], false, ([], [], [], 212), [(2, (155, [])), (2, (71, []))], [(([], [], [], 212), none)])
def s_188 : List aCt := []
def h_188 : List (Nat × aS × Fm) := []
theorem e_188 : ckE 6000 gT s_188 (fun _ => 0) sp0 c_188 h_188 = true := by decide +kernel
theorem k_188 (hB : BytesOK) (g : bG) (l : Launch) : Keeps g l gT c_188 := keeps_of hB.1 hB.2 (nilK) e_188 nilK
/-- Terms.become ((('c', 162), ('c', 78)), ()) -/
def c_189 : aCt := (105, 2, some [(162, 0, 2), (162, 4, 6), (162, 8, 9), (162, 10, 12), (163, 0, 9), (164, 0, 9), (165, 0, 4), (166, 0, 3), (167, 0, 4), (168, 0, 220)], false, ([], [], [], 212), [(2, (162, [])), (2, (78, []))], [(([], [], [], 212), none)])
def s_189 : List aCt := []
def h_189 : List (Nat × aS × Fm) := []
theorem e_189 : ckE 6000 gT s_189 (fun _ => 0) sp0 c_189 h_189 = true := by decide +kernel
theorem k_189 (hB : BytesOK) (g : bG) (l : Launch) : Keeps g l gT c_189 := keeps_of hB.1 hB.2 (nilK) e_189 nilK
/-- Terms.become ((('c', 43), ('c', 127)), ()) -/
def c_190 : aCt := (105, 2, some [(43, 0, 2), (43, 4, 6), (43, 8, 9), (43, 10, 12), (44, 0, 9), (45, 0, 9), (46, 0, 4), (47, 0, 3), (48, 0, 4), (49, 0, 220)], false, ([], [], [], 212), [(2, (43, [])), (2, (127, []))], [(([], [], [], 212), none)])
def s_190 : List aCt := []
def h_190 : List (Nat × aS × Fm) := []
theorem e_190 : ckE 6000 gT s_190 (fun _ => 0) sp0 c_190 h_190 = true := by decide +kernel
theorem k_190 (hB : BytesOK) (g : bG) (l : Launch) : Keeps g l gT c_190 := keeps_of hB.1 hB.2 (nilK) e_190 nilK
/-- Terms.become ((('c', 50), ('c', 134)), ()) -/
def c_191 : aCt := (105, 2, some [(50, 0, 2), (50, 4, 6), (50, 8, 9), (50, 10, 12), (51, 0, 9), (52, 0, 9), (53, 0, 4), (54, 0, 3), (55, 0, 4), (56, 0, 220)], false, ([], [], [], 212), [(2, (50, [])), (2, (134, []))], [(([], [], [], 212), none)])
def s_191 : List aCt := []
def h_191 : List (Nat × aS × Fm) := []
theorem e_191 : ckE 6000 gT s_191 (fun _ => 0) sp0 c_191 h_191 = true := by decide +kernel
theorem k_191 (hB : BytesOK) (g : bG) (l : Launch) : Keeps g l gT c_191 := keeps_of hB.1 hB.2 (nilK) e_191 nilK
/-- Terms.become ((('c', 57), ('c', 141)), ()) -/
def c_192 : aCt := (105, 2, some [(57, 0, 2), (57, 4, 6), (57, 8, 9), (57, 10, 12), (58, 0, 9), (59, 0, 9), (60, 0, 4), (61, 0, 3), (62, 0, 4), (63, 0, 220)], false, ([], [], [], 212), [(2, (57, [])), (2, (141, []))], [(([], [], [], 212), none)])
def s_192 : List aCt := []
def h_192 : List (Nat × aS × Fm) := []
theorem e_192 : ckE 6000 gT s_192 (fun _ => 0) sp0 c_192 h_192 = true := by decide +kernel
theorem k_192 (hB : BytesOK) (g : bG) (l : Launch) : Keeps g l gT c_192 := keeps_of hB.1 hB.2 (nilK) e_192 nilK
/-- Terms.become ((('c', 64), ('c', 148)), ()) -/
def c_193 : aCt := (105, 2, some [(64, 0, 2), (64, 4, 6), (64, 8, 9), (64, 10, 12), (65, 0, 9), (66, 0, 9), (67, 0, 4), (68, 0, 3), (69, 0, 4), (70, 0, 220)], false, ([], [], [], 212), [(2, (64, [])), (2, (148, []))], [(([], [], [], 212), none)])
def s_193 : List aCt := []
def h_193 : List (Nat × aS × Fm) := []
theorem e_193 : ckE 6000 gT s_193 (fun _ => 0) sp0 c_193 h_193 = true := by decide +kernel
theorem k_193 (hB : BytesOK) (g : bG) (l : Launch) : Keeps g l gT c_193 := keeps_of hB.1 hB.2 (nilK) e_193 nilK
/-- Terms.become ((('c', 71), ('c', 155)), ()) -/
def c_194 : aCt := (105, 2, some [(71, 0, 2), (71, 4, 6), (71, 8, 9), (71, 10, 12), (72, 0, 9), (73, 0, 9), (74, 0, 4), (75, 0, 3), (76, 0, 4), (77, 0, 220)], false, ([], [], [], 212), [(2, (71, [])), (2, (155, []))], [(([], [], [], 212), none)])
def s_194 : List aCt := []
def h_194 : List (Nat × aS × Fm) := []
theorem e_194 : ckE 6000 gT s_194 (fun _ => 0) sp0 c_194 h_194 = true := by decide +kernel
theorem k_194 (hB : BytesOK) (g : bG) (l : Launch) : Keeps g l gT c_194 := keeps_of hB.1 hB.2 (nilK) e_194 nilK
/-- Terms.become ((('c', 78), ('c', 162)), ()) -/
def c_195 : aCt := (105, 2, some [(78, 0, 2), (78, 4, 6), (78, 8, 9), (78, 10, 12), (79, 0, 9), (80, 0, 9), (81, 0, 4), (82, 0, 3), (83, 0, 4), (84, 0, 220)], false, ([], [], [], 212), [(2, (78, [])), (2, (162, []))], [(([], [], [], 212), none)])
def s_195 : List aCt := []
def h_195 : List (Nat × aS × Fm) := []
theorem e_195 : ckE 6000 gT s_195 (fun _ => 0) sp0 c_195 h_195 = true := by decide +kernel
theorem k_195 (hB : BytesOK) (g : bG) (l : Launch) : Keeps g l gT c_195 := keeps_of hB.1 hB.2 (nilK) e_195 nilK
/-- M.isAlive ((('c', 193), ('u', 0), ('u', 0), ('u', 0)), ()) -/
def c_196 : aCt := (194, 1, some [], false, ([(0, 15), (0, 999), (0, 239)], [], [], 212), [(2, (193, [])), (0, (0, [(0, 1)])), (0, (0, [(1, 1)])), (0, (0, [(2, 1)]))], [(([(0, 15), (0, 999), (0, 239), (0, 1)], [], [], 212), some (0, (0, [(3, 1)])))])
def s_196 : List aCt := []
def h_196_0 : Nat × aS × Fm := (6, ([(0, (2, (193, []))), (1, (0, (0, [(0, 1)]))), (2, (0, (0, [(1, 1)]))), (3, (0, (0, [(2, 1)]))), (4, (0, (0, [(4, 1)]))), (5, (0, (0, [(3, 1)])))], [], ([(0, 15), (0, 999), (0, 239), (0, 20), (0, 1)], [], [], 212)), (41, [(3, (-2))]))
def h_196 : List (Nat × aS × Fm) := [h_196_0]
theorem e_196 : ckE 6000 gT s_196 (fun _ => 0) sp0 c_196 h_196 = true := by decide +kernel
theorem g_196_0 : ([h_196_0].all fun H => ckH 6000 gT s_196 (fun _ => 0) sp0 c_196 h_196 H) = true := by decide +kernel
theorem k_196 (hB : BytesOK) (g : bG) (l : Launch) : Keeps g l gT c_196 := keeps_of hB.1 hB.2 (nilK) e_196 (List.all_eq_true.mp g_196_0)
/-- M.isIn ((('c', 193), ('u', 0), ('u', 0)), ()) -/
def c_197 : aCt := (196, 0, some [], false, ([(0, 7), (0, 999)], [], [], 212), [(2, (193, [])), (0, (0, [(0, 1)])), (0, (0, [(1, 1)]))], [(([(0, 7), (0, 999), (0, 1)], [], [], 212), some (0, (0, [(2, 1)])))])
def s_197 : List aCt := []
def h_197_0 : Nat × aS × Fm := (8, ([(0, (2, (193, []))), (1, (0, (0, [(0, 1)]))), (2, (0, (0, [(1, 1)]))), (3, (0, (0, [(4, 1)]))), (4, (0, (0, [(3, 1)]))), (5, (0, (0, [(2, 1)])))], [], ([(0, 7), (0, 999), (0, 24), ((-1), 239), (0, 1)], [], [], 212)), (49, [(2, (-2))]))
def h_197 : List (Nat × aS × Fm) := [h_197_0]
theorem e_197 : ckE 6000 gT s_197 (fun _ => 0) sp0 c_197 h_197 = true := by decide +kernel
theorem g_197_0 : ([h_197_0].all fun H => ckH 6000 gT s_197 (fun _ => 0) sp0 c_197 h_197 H) = true := by decide +kernel
theorem k_197 (hB : BytesOK) (g : bG) (l : Launch) : Keeps g l gT c_197 := keeps_of hB.1 hB.2 (nilK) e_197 (List.all_eq_true.mp g_197_0)
/-- M.join ((('c', 193), ('u', 0), ('u', 0)), ()) -/
def c_198 : aCt := (197, 2, some [(194, 10, 11), (194, 204, 276)], false, ([((-2147483648), 2147483647), (0, 1)], [], [], 212), [(2, (193, [])), (0, (0, [(0, 1)])), (0, (0, [(1, 1)]))], [(([((-2147483648), 2147483647), (0, 1), ((-2), 1)], [], [], 212), some (0, (0, [(2, 1)])))])
def s_198 : List aCt := [c_197]
def h_198 : List (Nat × aS × Fm) := []
theorem e_198 : ckE 6000 gT s_198 (fun _ => 0) sp0 c_198 h_198 = true := by decide +kernel
theorem k_198 (hB : BytesOK) (g : bG) (l : Launch) : Keeps g l gT c_198 := keeps_of hB.1 hB.2 (List.forall_mem_cons.mpr ⟨k_197 hB g l, nilK⟩) e_198 nilK
