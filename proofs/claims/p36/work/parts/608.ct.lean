/-- Acts.begin ((('c', 189), ('u', 0)), ()) -/
def c_159 : aCt := (5, 0, some [(189, 0, 1), (190, 0, 30)], false, ([(10, 99)], [], [], 212), [(2, (189, [])), (0, (0, [(0, 1)]))], [(([(10, 99)], [], [], 212), none)])
def s_159 : List aCt := []
def h_159 : List (Nat × aS × Fm) := []
theorem e_159 : ckE 6000 gT s_159 (fun _ => 0) sp0 c_159 h_159 = true := by decide +kernel
theorem k_159 (hB : BytesOK) (g : bG) (l : Launch) : Keeps g l gT c_159 := keeps_of hB.1 hB.2 (nilK) e_159 nilK
/-- Acts.isNeededKind ((('c', 189),), ()) -/
def c_160 : aCt := (6, 0, some [], false, ([], [], [], 212), [(2, (189, []))], [(([(0, 1)], [], [], 212), some (0, (0, [(0, 1)])))])
def s_160 : List aCt := []
def h_160 : List (Nat × aS × Fm) := []
theorem e_160 : ckE 6000 gT s_160 (fun _ => 0) sp0 c_160 h_160 = true := by decide +kernel
theorem k_160 (hB : BytesOK) (g : bG) (l : Launch) : Keeps g l gT c_160 := keeps_of hB.1 hB.2 (nilK) e_160 nilK
/-- Acts.reads ((('c', 189), ('u', 0)), ()) -/
def c_161 : aCt := (7, 1, some [(189, 0, 1), (190, 0, 30)], false, ([((-2147483648), 2147483647)], [], [], 212), [(2, (189, [])), (0, (0, [(0, 1)]))], [(([((-2147483648), 2147483647), ((-2147483648), 2147483647)], [], [], 212), some (0, (0, [(1, 1)])))])
def s_161 : List aCt := [c_159]
def h_161 : List (Nat × aS × Fm) := []
theorem e_161 : ckE 6000 gT s_161 (fun _ => 0) sp0 c_161 h_161 = true := by decide +kernel
theorem k_161 (hB : BytesOK) (g : bG) (l : Launch) : Keeps g l gT c_161 := keeps_of hB.1 hB.2 (List.forall_mem_cons.mpr ⟨k_159 hB g l, nilK⟩) e_161 nilK
/-- Acts.counts ((('c', 189), ('u', 0)), ()) -/
def c_162 : aCt := (8, 2, some [(189, 0, 1), (190, 0, 30)], false, ([((-2147483648), 2147483647)], [], [], 212), [(2, (189, [])), (0, (0, [(0, 1)]))], [(([((-2147483648), 2147483647), ((-2147483648), 2147483647)], [], [], 212), some (0, (0, [(1, 1)])))])
def s_162 : List aCt := [c_159, c_160, c_161]
def h_162 : List (Nat × aS × Fm) := []
theorem e_162 : ckE 6000 gT s_162 (fun _ => 0) sp0 c_162 h_162 = true := by decide +kernel
theorem k_162 (hB : BytesOK) (g : bG) (l : Launch) : Keeps g l gT c_162 := keeps_of hB.1 hB.2 (List.forall_mem_cons.mpr ⟨k_159 hB g l, List.forall_mem_cons.mpr ⟨k_160 hB g l, List.forall_mem_cons.mpr ⟨k_161 hB g l, nilK⟩⟩⟩) e_162 nilK
/-- Acts.pays ((('c', 189), ('u', 0)), ()) -/
def c_163 : aCt := (9, 1, some [(189, 0, 1), (189, 5, 6), (190, 0, 30)], false, ([((-2147483648), 2147483647)], [], [], 212), [(2, (189, [])), (0, (0, [(0, 1)]))], [(([((-2147483648), 2147483647), ((-2147483648), 2147483647)], [], [], 212), some (0, (0, [(1, 1)])))])
def sp_163 : aSp := fun k pc S => if pc = 43 ∧ k = 9 then spD [(-1), 0] S else none
def s_163 : List aCt := [c_159]
def h_163 : List (Nat × aS × Fm) := []
theorem e_163 : ckE 6000 gT s_163 (fun _ => 0) sp_163 c_163 h_163 = true := by decide +kernel
theorem k_163 (hB : BytesOK) (g : bG) (l : Launch) : Keeps g l gT c_163 := keeps_of hB.1 hB.2 (List.forall_mem_cons.mpr ⟨k_159 hB g l, nilK⟩) e_163 nilK
/-- Acts.ends ((('c', 189), ('u', 0)), ()) -/
def c_164 : aCt := (10, 3, some [(189, 0, 1), (189, 5, 6), (190, 0, 30)], false, ([((-2147483648), 2147483647)], [], [], 212), [(2, (189, [])), (0, (0, [(0, 1)]))], [(([((-2147483648), 2147483647), ((-2147483648), 2147483647)], [], [], 212), some (0, (0, [(1, 1)])))])
def s_164 : List aCt := [c_159, c_160, c_162, c_163]
def h_164 : List (Nat × aS × Fm) := []
theorem e_164 : ckE 6000 gT s_164 (fun _ => 0) sp0 c_164 h_164 = true := by decide +kernel
theorem k_164 (hB : BytesOK) (g : bG) (l : Launch) : Keeps g l gT c_164 := keeps_of hB.1 hB.2 (List.forall_mem_cons.mpr ⟨k_159 hB g l, List.forall_mem_cons.mpr ⟨k_160 hB g l, List.forall_mem_cons.mpr ⟨k_162 hB g l, List.forall_mem_cons.mpr ⟨k_163 hB g l, nilK⟩⟩⟩⟩) e_164 nilK
/-- Acts.run ((('c', 189), ('u', 0), ('u', 0), ('u', 0), ('u', 0), ('u', 0)), ()) -/
def c_165 : aCt := (4, 4, some [(189, 0, 1), (189, 2, 6), (190, 0, 30)], false, ([(0, 9), ((-2147483648), 2147483647), ((-2147483648), 2147483647), (0, 3), ((-2147483648), 2147483647)], [], [], 212), [(2, (189, [])), (0, (0, [(0, 1)])), (0, (0, [(1, 1)])), (0, (0, [(2, 1)])), (0, (0, [(3, 1)])), (0, (0, [(4, 1)]))], [(([(0, 9), ((-2147483648), 2147483647), ((-2147483648), 2147483647), (0, 3), ((-2147483648), 2147483647), ((-2147483648), 2147483647)], [], [], 212), some (0, (0, [(5, 1)])))])
def s_165 : List aCt := [c_161, c_162, c_163, c_164]
def h_165 : List (Nat × aS × Fm) := []
theorem e_165 : ckE 6000 gT s_165 (fun _ => 0) sp0 c_165 h_165 = true := by decide +kernel
theorem k_165 (hB : BytesOK) (g : bG) (l : Launch) : Keeps g l gT c_165 := keeps_of hB.1 hB.2 (List.forall_mem_cons.mpr ⟨k_161 hB g l, List.forall_mem_cons.mpr ⟨k_162 hB g l, List.forall_mem_cons.mpr ⟨k_163 hB g l, List.forall_mem_cons.mpr ⟨k_164 hB g l, nilK⟩⟩⟩⟩) e_165 nilK
/-- B.act ((('c', 0), ('u', 0), ('u', 0), ('u', 0)), ()) -/
def c_166 : aCt := (166, 5, some [(189, 0, 1), (189, 2, 6), (190, 0, 30)], false, ([((-2147483648), 2147483647), ((-2147483648), 2147483647), ((-2147483648), 2147483647)], [], [], 212), [(2, (0, [])), (0, (0, [(0, 1)])), (0, (0, [(1, 1)])), (0, (0, [(2, 1)]))], [(([((-2147483648), 2147483647), ((-2147483648), 2147483647), ((-2147483648), 2147483647), ((-2147483648), 2147483647)], [], [], 212), some (0, (0, [(3, 1)])))])
def s_166 : List aCt := [c_165, c_155, c_158]
def h_166 : List (Nat × aS × Fm) := []
theorem e_166 : ckE 6000 gT s_166 (fun _ => 0) sp0 c_166 h_166 = true := by decide +kernel
theorem k_166 (hB : BytesOK) (g : bG) (l : Launch) : Keeps g l gT c_166 := keeps_of hB.1 hB.2 (List.forall_mem_cons.mpr ⟨k_165 hB g l, List.forall_mem_cons.mpr ⟨k_155 hB g l, List.forall_mem_cons.mpr ⟨k_158 hB g l, nilK⟩⟩⟩) e_166 nilK
/-- B.trace ((('c', 0), ('u', 0)), ()) -/
def c_167 : aCt := (167, 1, some [], false, ([((-2147483648), 2147483647)], [], [], 212), [(2, (0, [])), (0, (0, [(0, 1)]))], [(([((-2147483648), 2147483647), ((-3), 99)], [], [], 212), some (0, (0, [(1, 1)])))])
def s_167 : List aCt := []
def h_167 : List (Nat × aS × Fm) := []
theorem e_167 : ckE 6000 gT s_167 (fun _ => 0) sp0 c_167 h_167 = true := by decide +kernel
theorem k_167 (hB : BytesOK) (g : bG) (l : Launch) : Keeps g l gT c_167 := keeps_of hB.1 hB.2 (nilK) e_167 nilK
/-- Needs.machines ((('c', 14),), ()) -/
def c_168 : aCt := (14, 0, some [], false, ([], [], [], 212), [(2, (14, []))], [(([((-2147483648), 2147483647)], [], [], 212), some (0, (0, [(0, 1)])))])
def s_168 : List aCt := []
def h_168_0 : Nat × aS × Fm := (4, ([(0, (2, (14, []))), (1, (0, (0, [(0, 1)]))), (2, (0, (0, [(1, 1)])))], [], ([((-2147483648), 2147483647), (0, 6)], [], [], 212)), (13, [(1, (-2))]))
def h_168 : List (Nat × aS × Fm) := [h_168_0]
theorem e_168 : ckE 6000 gT s_168 (fun _ => 0) sp0 c_168 h_168 = true := by decide +kernel
theorem g_168_0 : ([h_168_0].all fun H => ckH 6000 gT s_168 (fun _ => 0) sp0 c_168 h_168 H) = true := by decide +kernel
theorem k_168 (hB : BytesOK) (g : bG) (l : Launch) : Keeps g l gT c_168 := keeps_of hB.1 hB.2 (nilK) e_168 (List.all_eq_true.mp g_168_0)
/-- Pool.neededClaims ((('c', 1),), ()) -/
def c_169 : aCt := (21, 2, some [], false, ([], [], [], 212), [(2, (1, []))], [(([((-2147483648), 2147483647)], [], [], 212), some (0, (0, [(0, 1)])))])
def s_169 : List aCt := [c_6]
def h_169_0 : Nat × aS × Fm := (4, ([(0, (2, (1, []))), (1, (0, (0, [(1, 1)]))), (2, (0, (0, [(0, 1)])))], [], ([(0, 16), ((-2147483648), 2147483647)], [], [], 212)), (33, [(0, (-2))]))
def h_169 : List (Nat × aS × Fm) := [h_169_0]
theorem e_169 : ckE 6000 gT s_169 (fun _ => 0) sp0 c_169 h_169 = true := by decide +kernel
theorem g_169_0 : ([h_169_0].all fun H => ckH 6000 gT s_169 (fun _ => 0) sp0 c_169 h_169 H) = true := by decide +kernel
theorem k_169 (hB : BytesOK) (g : bG) (l : Launch) : Keeps g l gT c_169 := keeps_of hB.1 hB.2 (List.forall_mem_cons.mpr ⟨k_6 hB g l, nilK⟩) e_169 (List.all_eq_true.mp g_169_0)
/-- B.many ((('c', 0), ('u', 0)), ()) -/
def c_170 : aCt := (168, 3, some [], false, ([((-2147483648), 2147483647)], [], [], 212), [(2, (0, [])), (0, (0, [(0, 1)]))], [(([((-2147483648), 2147483647), ((-2147483648), 2147483647)], [], [], 212), some (0, (0, [(1, 1)])))])
def s_170 : List aCt := [c_168, c_169]
def h_170 : List (Nat × aS × Fm) := []
theorem e_170 : ckE 6000 gT s_170 (fun _ => 0) sp0 c_170 h_170 = true := by decide +kernel
theorem k_170 (hB : BytesOK) (g : bG) (l : Launch) : Keeps g l gT c_170 := keeps_of hB.1 hB.2 (List.forall_mem_cons.mpr ⟨k_168 hB g l, List.forall_mem_cons.mpr ⟨k_169 hB g l, nilK⟩⟩) e_170 nilK
/-- Terms.become ((('c', 127), ('c', 43)), ()) -/
def c_171 : aCt := (105, 2, some [(127, 0, 2), (127, 4, 6), (127, 8, 9), (127, 10, 12), (128, 0, 9), (129, 0, 9), (130, 0, 4), (131, 0, 3), (132, 0, 4), (133, 0, 220)], false, ([], [], [], 212), [(2, (127, [])), (2, (43, []))], [(([], [], [], 212), none)])
def s_171 : List aCt := []
def h_171 : List (Nat × aS × Fm) := []
theorem e_171 : ckE 6000 gT s_171 (fun _ => 0) sp0 c_171 h_171 = true := by decide +kernel
theorem k_171 (hB : BytesOK) (g : bG) (l : Launch) : Keeps g l gT c_171 := keeps_of hB.1 hB.2 (nilK) e_171 nilK
/-- Terms.become ((('c', 134), ('c', 50)), ()) -/
def c_172 : aCt := (105, 2, some [(134, 0, 2), (134, 4, 6), (134, 8, 9), (134, 10, 12), (135, 0, 9), (136, 0, 9), (137, 0, 4), (138, 0, 3), (139, 0, 4), (140, 0, 220)], false, ([], [], [], 212), [(2, (134, [])), (2, (50, []))], [(([], [], [], 212), none)])
def s_172 : List aCt := []
def h_172 : List (Nat × aS × Fm) := []
theorem e_172 : ckE 6000 gT s_172 (fun _ => 0) sp0 c_172 h_172 = true := by decide +kernel
theorem k_172 (hB : BytesOK) (g : bG) (l : Launch) : Keeps g l gT c_172 := keeps_of hB.1 hB.2 (nilK) e_172 nilK
/-- Terms.become ((('c', 141), ('c', 57)), ()) -/
def c_173 : aCt := (105, 2, some [(141, 0, 2), (141, 4, 6), (141, 8, 9), (141, 10, 12), (142, 0, 9), (143, 0, 9), (144, 0, 4), (145, 0, 3), (146, 0, 4), (147, 0, 220)], false, ([], [], [], 212), [(2, (141, [])), (2, (57, []))], [(([], [], [], 212), none)])
def s_173 : List aCt := []
def h_173 : List (Nat × aS × Fm) := []
theorem e_173 : ckE 6000 gT s_173 (fun _ => 0) sp0 c_173 h_173 = true := by decide +kernel
theorem k_173 (hB : BytesOK) (g : bG) (l : Launch) : Keeps g l gT c_173 := keeps_of hB.1 hB.2 (nilK) e_173 nilK
/-- Terms.become ((('c', 148), ('c', 64)), ()) -/
def c_174 : aCt := (105, 2, some [(148, 0, 2), (148, 4, 6), (148, 8, 9), (148, 10, 12), (149, 0, 9), (150, 0, 9), (151, 0, 4), (152, 0, 3), (153, 0, 4), (154, 0, 220)], false, ([], [], [], 212), [(2, (148, [])), (2, (64, []))], [(([], [], [], 212), none)])
def s_174 : List aCt := []
def h_174 : List (Nat × aS × Fm) := []
theorem e_174 : ckE 6000 gT s_174 (fun _ => 0) sp0 c_174 h_174 = true := by decide +kernel
theorem k_174 (hB : BytesOK) (g : bG) (l : Launch) : Keeps g l gT c_174 := keeps_of hB.1 hB.2 (nilK) e_174 nilK
/-- Terms.become ((('c', 155), ('c', 71)), ()) -/
def c_175 : aCt := (105, 2, some [(155, 0, 2), (155, 4, 6), (155, 8, 9), (155, 10, 12), (156, 0, 9), (157, 0, 9), (158, 0, 4), (159, 0, 3), (160, 0, 4), (161, 0, 220)], false, ([], [], [], 212), [(2, (155, [])), (2, (71, []))], [(([], [], [], 212), none)])
def s_175 : List aCt := []
def h_175 : List (Nat × aS × Fm) := []
theorem e_175 : ckE 6000 gT s_175 (fun _ => 0) sp0 c_175 h_175 = true := by decide +kernel
theorem k_175 (hB : BytesOK) (g : bG) (l : Launch) : Keeps g l gT c_175 := keeps_of hB.1 hB.2 (nilK) e_175 nilK
/-- Terms.become ((('c', 162), ('c', 78)), ()) -/
def c_176 : aCt := (105, 2, some [(162, 0, 2), (162, 4, 6), (162, 8, 9), (162, 10, 12), (163, 0, 9), (164, 0, 9), (165, 0, 4), (166, 0, 3), (167, 0, 4), (168, 0, 220)], false, ([], [], [], 212), [(2, (162, [])), (2, (78, []))], [(([], [], [], 212), none)])
def s_176 : List aCt := []
def h_176 : List (Nat × aS × Fm) := []
theorem e_176 : ckE 6000 gT s_176 (fun _ => 0) sp0 c_176 h_176 = true := by decide +kernel
theorem k_176 (hB : BytesOK) (g : bG) (l : Launch) : Keeps g l gT c_176 := keeps_of hB.1 hB.2 (nilK) e_176 nilK
/-- Terms.become ((('c', 43), ('c', 127)), ()) -/
def c_177 : aCt := (105, 2, some [(43, 0, 2), (43, 4, 6), (43, 8, 9), (43, 10, 12), (44, 0, 9), (45, 0, 9), (46, 0, 4), (47, 0, 3), (48, 0, 4), (49, 0, 220)], false, ([], [], [], 212), [(2, (43, [])), (2, (127, []))], [(([], [], [], 212), none)])
def s_177 : List aCt := []
def h_177 : List (Nat × aS × Fm) := []
theorem e_177 : ckE 6000 gT s_177 (fun _ => 0) sp0 c_177 h_177 = true := by decide +kernel
theorem k_177 (hB : BytesOK) (g : bG) (l : Launch) : Keeps g l gT c_177 := keeps_of hB.1 hB.2 (nilK) e_177 nilK
