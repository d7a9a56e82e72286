/-- B.trace ((('c', 0), ('u', 0)), ()) -/
def c_144 : aCt := (167, 1, some [], false, ([((-2147483648), 2147483647)], [], [], 212), [(2, (0, [])), (0, (0, [(0, 1)]))], [(([((-2147483648), 2147483647), ((-3), 99)], [], [], 212), some (0, (0, [(1, 1)])))])
def s_144 : List aCt := []
def h_144 : List (Nat × aS × Fm) := []
theorem e_144 : ckE 6000 gT s_144 (fun _ => 0) sp0 c_144 h_144 = true := by decide +kernel
theorem k_144 (hB : BytesOK) (g : bG) (l : Launch) : Keeps g l gT c_144 := keeps_of hB.1 hB.2 (nilK) e_144 nilK
/-- Needs.machines ((('c', 14),), ()) -/
def c_145 : aCt := (14, 0, some [], false, ([], [], [], 212), [(2, (14, []))], [(([((-2147483648), 2147483647)], [], [], 212), some (0, (0, [(0, 1)])))])
def s_145 : List aCt := []
def h_145_0 : Nat × aS × Fm := (4, ([(0, (2, (14, []))), (1, (0, (0, [(0, 1)]))), (2, (0, (0, [(1, 1)])))], [], ([((-2147483648), 2147483647), (0, 6)], [], [], 212)), (13, [(1, (-2))]))
def h_145 : List (Nat × aS × Fm) := [h_145_0]
theorem e_145 : ckE 6000 gT s_145 (fun _ => 0) sp0 c_145 h_145 = true := by decide +kernel
theorem g_145_0 : ([h_145_0].all fun H => ckH 6000 gT s_145 (fun _ => 0) sp0 c_145 h_145 H) = true := by decide +kernel
theorem k_145 (hB : BytesOK) (g : bG) (l : Launch) : Keeps g l gT c_145 := keeps_of hB.1 hB.2 (nilK) e_145 (List.all_eq_true.mp g_145_0)
/-- Pool.neededClaims ((('c', 1),), ()) -/
def c_146 : aCt := (21, 2, some [], false, ([], [], [], 212), [(2, (1, []))], [(([((-2147483648), 2147483647)], [], [], 212), some (0, (0, [(0, 1)])))])
def s_146 : List aCt := [c_17]
def h_146_0 : Nat × aS × Fm := (4, ([(0, (2, (1, []))), (1, (0, (0, [(1, 1)]))), (2, (0, (0, [(0, 1)])))], [], ([(0, 16), ((-2147483648), 2147483647)], [], [], 212)), (33, [(0, (-2))]))
def h_146 : List (Nat × aS × Fm) := [h_146_0]
theorem e_146 : ckE 6000 gT s_146 (fun _ => 0) sp0 c_146 h_146 = true := by decide +kernel
theorem g_146_0 : ([h_146_0].all fun H => ckH 6000 gT s_146 (fun _ => 0) sp0 c_146 h_146 H) = true := by decide +kernel
theorem k_146 (hB : BytesOK) (g : bG) (l : Launch) : Keeps g l gT c_146 := keeps_of hB.1 hB.2 (List.forall_mem_cons.mpr ⟨k_17 hB g l, nilK⟩) e_146 (List.all_eq_true.mp g_146_0)
/-- B.many ((('c', 0), ('u', 0)), ()) -/
def c_147 : aCt := (168, 3, some [], false, ([((-2147483648), 2147483647)], [], [], 212), [(2, (0, [])), (0, (0, [(0, 1)]))], [(([((-2147483648), 2147483647), ((-2147483648), 2147483647)], [], [], 212), some (0, (0, [(1, 1)])))])
def s_147 : List aCt := [c_145, c_146]
def h_147 : List (Nat × aS × Fm) := []
theorem e_147 : ckE 6000 gT s_147 (fun _ => 0) sp0 c_147 h_147 = true := by decide +kernel
theorem k_147 (hB : BytesOK) (g : bG) (l : Launch) : Keeps g l gT c_147 := keeps_of hB.1 hB.2 (List.forall_mem_cons.mpr ⟨k_145 hB g l, List.forall_mem_cons.mpr ⟨k_146 hB g l, nilK⟩⟩) e_147 nilK
/-- Terms.become ((('c', 127), ('c', 43)), ()) -/
def c_148 : aCt := (105, 2, some [(127, 0, 2), (127, 4, 6), (127, 8, 9), (127, 10, 12), (128, 0, 9), (129, 0, 9), (130, 0, 4), (131, 0, 3), (132, 0, 4), (133, 0, 220)], false, ([], [], [], 212), [(2, (127, [])), (2, (43, []))], [(([], [], [], 212), none)])
def s_148 : List aCt := []
def h_148 : List (Nat × aS × Fm) := []
theorem e_148 : ckE 6000 gT s_148 (fun _ => 0) sp0 c_148 h_148 = true := by decide +kernel
theorem k_148 (hB : BytesOK) (g : bG) (l : Launch) : Keeps g l gT c_148 := keeps_of hB.1 hB.2 (nilK) e_148 nilK
/-- Terms.become ((('c', 134), ('c', 50)), ()) -/
def c_149 : aCt := (105, 2, some [(134, 0, 2), (134, 4, 6), (134, 8, 9), (134, 10, 12), (135, 0, 9), (136, 0, 9), (137, 0, 4), (138, 0, 3), (139, 0, 4), (140, 0, 220)], false, ([], [], [], 212), [(2, (134, [])), (2, (50, []))], [(([], [], [], 212), none)])
def s_149 : List aCt := []
def h_149 : List (Nat × aS × Fm) := []
theorem e_149 : ckE 6000 gT s_149 (fun _ => 0) sp0 c_149 h_149 = true := by decide +kernel
theorem k_149 (hB : BytesOK) (g : bG) (l : Launch) : Keeps g l gT c_149 := keeps_of hB.1 hB.2 (nilK) e_149 nilK
/-- Terms.become ((('c', 141), ('c', 57)), ()) -/
def c_150 : aCt := (105, 2, some [(141, 0, 2), (141, 4, 6), (141, 8, 9), (141, 10, 12), (142, 0, 9), (143, 0, 9), (144, 0, 4), (145, 0, 3), (146, 0, 4), (147, 0, 220)], false, ([], [], [], 212), [(2, (141, [])), (2, (57, []))], [(([], [], [], 212), none)])
def s_150 : List aCt := []
def h_150 : List (Nat × aS × Fm) := []
theorem e_150 : ckE 6000 gT s_150 (fun _ => 0) sp0 c_150 h_150 = true := by decide +kernel
theorem k_150 (hB : BytesOK) (g : bG) (l : Launch) : Keeps g l gT c_150 := keeps_of hB.1 hB.2 (nilK) e_150 nilK
/-- Terms.become ((('c', 148), ('c', 64)), ()) -/
def c_151 : aCt := (105, 2, some [(148, 0, 2), (148, 4, 6), (148, 8, 9), (148, 10, 12), (149, 0, 9), (150, 0, 9), (151, 0, 4), (152, 0, 3), (153, 0, 4), (154, 0, 220)], false, ([], [], [], 212), [(2, (148, [])), (2, (64, []))], [(([], [], [], 212), none)])
def s_151 : List aCt := []
def h_151 : List (Nat × aS × Fm) := []
theorem e_151 : ckE 6000 gT s_151 (fun _ => 0) sp0 c_151 h_151 = true := by decide +kernel
theorem k_151 (hB : BytesOK) (g : bG) (l : Launch) : Keeps g l gT c_151 := keeps_of hB.1 hB.2 (nilK) e_151 nilK
/-- Terms.become ((('c', 155), ('c', 71)), ()) -/
def c_152 : aCt := (105, 2, some [(155, 0, 2), (155, 4, 6), (155, 8, 9), (155, 10, 12), (156, 0, 9), (157, 0, 9), (158, 0, 4), (159, 0, 3), (160, 0, 4), (161, 0, 220)], false, ([], [], [], 212), [(2, (155, [])), (2, (71, []))], [(([], [], [], 212), none)])
def s_152 : List aCt := []
def h_152 : List (Nat × aS × Fm) := []
theorem e_152 : ckE 6000 gT s_152 (fun _ => 0) sp0 c_152 h_152 = true := by decide +kernel
theorem k_152 (hB : BytesOK) (g : bG) (l : Launch) : Keeps g l gT c_152 := keeps_of hB.1 hB.2 (nilK) e_152 nilK
/-- Terms.become ((('c', 162), ('c', 78)), ()) -/
def c_153 : aCt := (105, 2, some [(162, 0, 2), (162, 4, 6), (162, 8, 9), (162, 10, 12), (163, 0, 9), (164, 0, 9), (165, 0, 4), (166, 0, 3), (167, 0, 4), (168, 0, 220)], false, ([], [], [], 212), [(2, (162, [])), (2, (78, []))], [(([], [], [], 212), none)])
def s_153 : List aCt := []
def h_153 : List (Nat × aS × Fm) := []
theorem e_153 : ckE 6000 gT s_153 (fun _ => 0) sp0 c_153 h_153 = true := by decide +kernel
theorem k_153 (hB : BytesOK) (g : bG) (l : Launch) : Keeps g l gT c_153 := keeps_of hB.1 hB.2 (nilK) e_153 nilK
/-- Terms.become ((('c', 43), ('c', 127)), ()) -/
def c_154 : aCt := (105, 2, some [(43, 0, 2), (43, 4, 6), (43, 8, 9), (43, 10, 12), (44, 0, 9), (45, 0, 9), (46, 0, 4), (47, 0, 3), (48, 0, 4), (49, 0, 220)], false, ([], [], [], 212), [(2, (43, [])), (2, (127, []))], [(([], [], [], 212), none)])
def s_154 : List aCt := []
def h_154 : List (Nat × aS × Fm) := []
theorem e_154 : ckE 6000 gT s_154 (fun _ => 0) sp0 c_154 h_154 = true := by decide +kernel
theorem k_154 (hB : BytesOK) (g : bG) (l : Launch) : Keeps g l gT c_154 := keeps_of hB.1 hB.2 (nilK) e_154 nilK
/-- Terms.become ((('c', 50), ('c', 134)), ()) -/
def c_155 : aCt := (105, 2, some [(50, 0, 2), (50, 4, 6), (50, 8, 9), (50, 10, 12), (51, 0, 9), (52, 0, 9), (53, 0, 4), (54, 0, 3), (55, 0, 4), (56, 0, 220)], false, ([], [], [], 212), [(2, (50, [])), (2, (134, []))], [(([], [], [], 212), none)])
def s_155 : List aCt := []
def h_155 : List (Nat × aS × Fm) := []
theorem e_155 : ckE 6000 gT s_155 (fun _ => 0) sp0 c_155 h_155 = true := by decide +kernel
theorem k_155 (hB : BytesOK) (g : bG) (l : Launch) : Keeps g l gT c_155 := keeps_of hB.1 hB.2 (nilK) e_155 nilK
/-- Terms.become ((('c', 57), ('c', 141)), ()) -/
def c_156 : aCt := (105, 2, some [(57, 0, 2), (57, 4, 6), (57, 8, 9), (57, 10, 12), (58, 0, 9), (59, 0, 9), (60, 0, 4), (61, 0, 3), (62, 0, 4), (63, 0, 220)], false, ([], [], [], 212), [(2, (57, [])), (2, (141, []))], [(([], [], [], 212), none)])
def s_156 : List aCt := []
def h_156 : List (Nat × aS × Fm) := []
theorem e_156 : ckE 6000 gT s_156 (fun _ => 0) sp0 c_156 h_156 = true := by decide +kernel
theorem k_156 (hB : BytesOK) (g : bG) (l : Launch) : Keeps g l gT c_156 := keeps_of hB.1 hB.2 (nilK) e_156 nilK
/-- Terms.become ((('c', 64), ('c', 148)), ()) -/
def c_157 : aCt := (105, 2, some [(64, 0, 2), (64, 4, 6), (64, 8, 9), (64, 10, 12), (65, 0, 9), (66, 0, 9), (67, 0, 4), (68, 0, 3), (69, 0, 4), (70, 0, 220)], false, ([], [], [], 212), [(2, (64, [])), (2, (148, []))], [(([], [], [], 212), none)])
def s_157 : List aCt := []
def h_157 : List (Nat × aS × Fm) := []
theorem e_157 : ckE 6000 gT s_157 (fun _ => 0) sp0 c_157 h_157 = true := by decide +kernel
theorem k_157 (hB : BytesOK) (g : bG) (l : Launch) : Keeps g l gT c_157 := keeps_of hB.1 hB.2 (nilK) e_157 nilK
/-- Terms.become ((('c', 71), ('c', 155)), ()) -/
def c_158 : aCt := (105, 2, some [(71, 0, 2), (71, 4, 6), (71, 8, 9), (71, 10, 12), (72, 0, 9), (73, 0, 9), (74, 0, 4), (75, 0, 3), (76, 0, 4), (77, 0, 220)], false, ([], [], [], 212), [(2, (71, [])), (2, (155, []))], [(([], [], [], 212), none)])
def s_158 : List aCt := []
def h_158 : List (Nat × aS × Fm) := []
theorem e_158 : ckE 6000 gT s_158 (fun _ => 0) sp0 c_158 h_158 = true := by decide +kernel
theorem k_158 (hB : BytesOK) (g : bG) (l : Launch) : Keeps g l gT c_158 := keeps_of hB.1 hB.2 (nilK) e_158 nilK
/-- Terms.become ((('c', 78), ('c', 162)), ()) -/
def c_159 : aCt := (105, 2, some [(78, 0, 2), (78, 4, 6), (78, 8, 9), (78, 10, 12), (79, 0, 9), (80, 0, 9), (81, 0, 4), (82, 0, 3), (83, 0, 4), (84, 0, 220)], false, ([], [], [], 212), [(2, (78, [])), (2, (162, []))], [(([], [], [], 212), none)])
def s_159 : List aCt := []
def h_159 : List (Nat × aS × Fm) := []
theorem e_159 : ckE 6000 gT s_159 (fun _ => 0) sp0 c_159 h_159 = true := by decide +kernel
theorem k_159 (hB : BytesOK) (g : bG) (l : Launch) : Keeps g l gT c_159 := keeps_of hB.1 hB.2 (nilK) e_159 nilK
/-- M.months ((('c', 193), ('u', 0)), ()) -/
def c_160 : aCt := (189, 1, some [(194, 0, 1)], false, ([((-2147483648), 2147483647)], [], [], 212), [(2, (193, [])), (0, (0, [(0, 1)]))], [(([((-2147483648), 2147483647), ((-4), 239)], [], [], 212), some (0, (0, [(1, 1)])))])
def s_160 : List aCt := []
def h_160 : List (Nat × aS × Fm) := []
theorem e_160 : ckE 6000 gT s_160 (fun _ => 0) sp0 c_160 h_160 = true := by decide +kernel
theorem k_160 (hB : BytesOK) (g : bG) (l : Launch) : Keeps g l gT c_160 := keeps_of hB.1 hB.2 (nilK) e_160 nilK
/-- M.claim ((('c', 193), ('u', 0), ('u', 0), ('u', 0), ('u', 0)), ()) -/
def c_161 : aCt := (192, 2, some [(194, 1, 2), (194, 16, 144)], false, ([((-2147483648), 2147483647), ((-2147483648), 2147483647), ((-2147483648), 2147483647), ((-2147483648), 2147483647)], [], [], 212), [(2, (193, [])), (0, (0, [(0, 1)])), (0, (0, [(1, 1)])), (0, (0, [(2, 1)])), (0, (0, [(3, 1)]))], [(([((-2147483648), 2147483647), ((-2147483648), 2147483647), ((-2147483648), 2147483647), ((-2147483648), 2147483647), ((-2), 15)], [], [], 212), some (0, (0, [(4, 1)])))])
def s_161 : List aCt := []
def h_161 : List (Nat × aS × Fm) := []
theorem e_161 : ckE 6000 gT s_161 (fun _ => 0) sp0 c_161 h_161 = true := by decide +kernel
theorem k_161 (hB : BytesOK) (g : bG) (l : Launch) : Keeps g l gT c_161 := keeps_of hB.1 hB.2 (nilK) e_161 nilK
/-- M.word ((('c', 193), ('u', 0), ('u', 0)), ()) -/
def c_162 : aCt := (193, 2, some [(194, 2, 3), (194, 144, 204)], false, ([((-2147483648), 2147483647), (0, 1)], [], [], 212), [(2, (193, [])), (0, (0, [(0, 1)])), (0, (0, [(1, 1)]))], [(([((-2147483648), 2147483647), (0, 1), ((-2), 19)], [], [], 212), some (0, (0, [(2, 1)])))])
def s_162 : List aCt := []
def h_162 : List (Nat × aS × Fm) := []
theorem e_162 : ckE 6000 gT s_162 (fun _ => 0) sp0 c_162 h_162 = true := by decide +kernel
theorem k_162 (hB : BytesOK) (g : bG) (l : Launch) : Keeps g l gT c_162 := keeps_of hB.1 hB.2 (nilK) e_162 nilK
