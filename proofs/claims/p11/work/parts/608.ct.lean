/-- Sheets.sizeOf ((('c', 181), ('u', 0)), ()) -/
def c_166 : aCt := (67, 1, some [], false, ([((-2147483648), 2147483647)], [], [], 212), [(2, (181, [])), (0, (0, [(0, 1)]))], [(([((-2147483648), 2147483647), (0, 40)], [], [], 212), some (0, (0, [(1, 1)])))])
def s_166 : List aCt := []
def h_166 : List (Nat × aS × Fm) := []
theorem e_166 : ckE 6000 gT s_166 (fun _ => 0) sp0 c_166 h_166 = true := by decide +kernel
theorem k_166 (hB : BytesOK) (g : bG) (l : Launch) : Keeps g l gT c_166 := keeps_of hB.1 hB.2 (nilK) e_166 nilK
/-- B.taken ((('c', 0), ('u', 0), ('u', 0)), ()) -/
def c_167 : aCt := (165, 4, some [], false, ([((-2147483648), 2147483647), ((-2147483648), 2147483647)], [], [], 212), [(2, (0, [])), (0, (0, [(0, 1)])), (0, (0, [(1, 1)]))], [(([((-2147483648), 2147483647), ((-2147483648), 2147483647), ((-2147483648), 2147483647)], [], [], 212), some (0, (0, [(2, 1)])))])
def s_167 : List aCt := [c_166, c_165]
def h_167 : List (Nat × aS × Fm) := []
theorem e_167 : ckE 6000 gT s_167 (fun _ => 0) sp0 c_167 h_167 = true := by decide +kernel
theorem k_167 (hB : BytesOK) (g : bG) (l : Launch) : Keeps g l gT c_167 := keeps_of hB.1 hB.2 (List.forall_mem_cons.mpr ⟨k_166 hB g l, List.forall_mem_cons.mpr ⟨k_165 hB g l, nilK⟩⟩) e_167 nilK
/-- B.amountOn ((('c', 0), ('u', 0)), ()) -/
def c_168 : aCt := (181, 2, some [], false, ([(0, 3)], [], [], 212), [(2, (0, [])), (0, (0, [(0, 1)]))], [(([(0, 3), ((-2147483648), 2147483647)], [], [], 212), some (0, (0, [(1, 1)])))])
def sp_168 : aSp := fun k pc S => if pc = 0 ∧ k = 181 then spL 1 [0, 1, 2] S else none
def s_168 : List aCt := []
def h_168 : List (Nat × aS × Fm) := []
theorem e_168 : ckE 6000 gT s_168 (fun _ => 0) sp_168 c_168 h_168 = true := by decide +kernel
theorem k_168 (hB : BytesOK) (g : bG) (l : Launch) : Keeps g l gT c_168 := keeps_of hB.1 hB.2 (nilK) e_168 nilK
/-- Acts.begin ((('c', 189), ('u', 0)), ()) -/
def c_169 : aCt := (5, 0, some [(189, 0, 1), (190, 0, 30)], false, ([(10, 99)], [], [], 212), [(2, (189, [])), (0, (0, [(0, 1)]))], [(([(10, 99)], [], [], 212), none)])
def s_169 : List aCt := []
def h_169 : List (Nat × aS × Fm) := []
theorem e_169 : ckE 6000 gT s_169 (fun _ => 0) sp0 c_169 h_169 = true := by decide +kernel
theorem k_169 (hB : BytesOK) (g : bG) (l : Launch) : Keeps g l gT c_169 := keeps_of hB.1 hB.2 (nilK) e_169 nilK
/-- Acts.isNeededKind ((('c', 189),), ()) -/
def c_170 : aCt := (6, 0, some [], false, ([], [], [], 212), [(2, (189, []))], [(([(0, 1)], [], [], 212), some (0, (0, [(0, 1)])))])
def s_170 : List aCt := []
def h_170 : List (Nat × aS × Fm) := []
theorem e_170 : ckE 6000 gT s_170 (fun _ => 0) sp0 c_170 h_170 = true := by decide +kernel
theorem k_170 (hB : BytesOK) (g : bG) (l : Launch) : Keeps g l gT c_170 := keeps_of hB.1 hB.2 (nilK) e_170 nilK
/-- Acts.reads ((('c', 189), ('u', 0)), ()) -/
def c_171 : aCt := (7, 1, some [(189, 0, 1), (190, 0, 30)], false, ([((-2147483648), 2147483647)], [], [], 212), [(2, (189, [])), (0, (0, [(0, 1)]))], [(([((-2147483648), 2147483647), ((-2147483648), 2147483647)], [], [], 212), some (0, (0, [(1, 1)])))])
def s_171 : List aCt := [c_169]
def h_171 : List (Nat × aS × Fm) := []
theorem e_171 : ckE 6000 gT s_171 (fun _ => 0) sp0 c_171 h_171 = true := by decide +kernel
theorem k_171 (hB : BytesOK) (g : bG) (l : Launch) : Keeps g l gT c_171 := keeps_of hB.1 hB.2 (List.forall_mem_cons.mpr ⟨k_169 hB g l, nilK⟩) e_171 nilK
/-- Acts.counts ((('c', 189), ('u', 0)), ()) -/
def c_172 : aCt := (8, 2, some [(189, 0, 1), (190, 0, 30)], false, ([((-2147483648), 2147483647)], [], [], 212), [(2, (189, [])), (0, (0, [(0, 1)]))], [(([((-2147483648), 2147483647), ((-2147483648), 2147483647)], [], [], 212), some (0, (0, [(1, 1)])))])
def s_172 : List aCt := [c_169, c_170, c_171]
def h_172 : List (Nat × aS × Fm) := []
theorem e_172 : ckE 6000 gT s_172 (fun _ => 0) sp0 c_172 h_172 = true := by decide +kernel
theorem k_172 (hB : BytesOK) (g : bG) (l : Launch) : Keeps g l gT c_172 := keeps_of hB.1 hB.2 (List.forall_mem_cons.mpr ⟨k_169 hB g l, List.forall_mem_cons.mpr ⟨k_170 hB g l, List.forall_mem_cons.mpr ⟨k_171 hB g l, nilK⟩⟩⟩) e_172 nilK
/-- Acts.pays ((('c', 189), ('u', 0)), ()) -/
def c_173 : aCt := (9, 1, some [(189, 0, 1), (189, 5, 6), (190, 0, 30)], false, ([((-2147483648), 2147483647)], [], [], 212), [(2, (189, [])), (0, (0, [(0, 1)]))], [(([((-2147483648), 2147483647), ((-2147483648), 2147483647)], [], [], 212), some (0, (0, [(1, 1)])))])
def sp_173 : aSp := fun k pc S => if pc = 43 ∧ k = 9 then spD [(-1), 0] S else none
def s_173 : List aCt := [c_169]
def h_173 : List (Nat × aS × Fm) := []
theorem e_173 : ckE 6000 gT s_173 (fun _ => 0) sp_173 c_173 h_173 = true := by decide +kernel
theorem k_173 (hB : BytesOK) (g : bG) (l : Launch) : Keeps g l gT c_173 := keeps_of hB.1 hB.2 (List.forall_mem_cons.mpr ⟨k_169 hB g l, nilK⟩) e_173 nilK
/-- Acts.ends ((('c', 189), ('u', 0)), ()) -/
def c_174 : aCt := (10, 3, some [(189, 0, 1), (189, 5, 6), (190, 0, 30)], false, ([((-2147483648), 2147483647)], [], [], 212), [(2, (189, [])), (0, (0, [(0, 1)]))], [(([((-2147483648), 2147483647), ((-2147483648), 2147483647)], [], [], 212), some (0, (0, [(1, 1)])))])
def s_174 : List aCt := [c_169, c_170, c_172, c_173]
def h_174 : List (Nat × aS × Fm) := []
theorem e_174 : ckE 6000 gT s_174 (fun _ => 0) sp0 c_174 h_174 = true := by decide +kernel
theorem k_174 (hB : BytesOK) (g : bG) (l : Launch) : Keeps g l gT c_174 := keeps_of hB.1 hB.2 (List.forall_mem_cons.mpr ⟨k_169 hB g l, List.forall_mem_cons.mpr ⟨k_170 hB g l, List.forall_mem_cons.mpr ⟨k_172 hB g l, List.forall_mem_cons.mpr ⟨k_173 hB g l, nilK⟩⟩⟩⟩) e_174 nilK
/-- Acts.run ((('c', 189), ('u', 0), ('u', 0), ('u', 0), ('u', 0), ('u', 0)), ()) -/
def c_175 : aCt := (4, 4, some [(189, 0, 1), (189, 2, 6), (190, 0, 30)], false, ([(0, 9), ((-2147483648), 2147483647), ((-2147483648), 2147483647), (0, 3), ((-2147483648), 2147483647)], [], [], 212), [(2, (189, [])), (0, (0, [(0, 1)])), (0, (0, [(1, 1)])), (0, (0, [(2, 1)])), (0, (0, [(3, 1)])), (0, (0, [(4, 1)]))], [(([(0, 9), ((-2147483648), 2147483647), ((-2147483648), 2147483647), (0, 3), ((-2147483648), 2147483647), ((-2147483648), 2147483647)], [], [], 212), some (0, (0, [(5, 1)])))])
def s_175 : List aCt := [c_171, c_172, c_173, c_174]
def h_175 : List (Nat × aS × Fm) := []
theorem e_175 : ckE 6000 gT s_175 (fun _ => 0) sp0 c_175 h_175 = true := by decide +kernel
theorem k_175 (hB : BytesOK) (g : bG) (l : Launch) : Keeps g l gT c_175 := keeps_of hB.1 hB.2 (List.forall_mem_cons.mpr ⟨k_171 hB g l, List.forall_mem_cons.mpr ⟨k_172 hB g l, List.forall_mem_cons.mpr ⟨k_173 hB g l, List.forall_mem_cons.mpr ⟨k_174 hB g l, nilK⟩⟩⟩⟩) e_175 nilK
/-- B.act ((('c', 0), ('u', 0), ('u', 0), ('u', 0)), ()) -/
def c_176 : aCt := (166, 5, some [(189, 0, 1), (189, 2, 6), (190, 0, 30)], false, ([((-2147483648), 2147483647), ((-2147483648), 2147483647), ((-2147483648), 2147483647)], [], [], 212), [(2, (0, [])), (0, (0, [(0, 1)])), (0, (0, [(1, 1)])), (0, (0, [(2, 1)]))], [(([((-2147483648), 2147483647), ((-2147483648), 2147483647), ((-2147483648), 2147483647), ((-2147483648), 2147483647)], [], [], 212), some (0, (0, [(3, 1)])))])
def s_176 : List aCt := [c_175, c_165, c_168]
def h_176 : List (Nat × aS × Fm) := []
theorem e_176 : ckE 6000 gT s_176 (fun _ => 0) sp0 c_176 h_176 = true := by decide +kernel
theorem k_176 (hB : BytesOK) (g : bG) (l : Launch) : Keeps g l gT c_176 := keeps_of hB.1 hB.2 (List.forall_mem_cons.mpr ⟨k_175 hB g l, List.forall_mem_cons.mpr ⟨k_165 hB g l, List.forall_mem_cons.mpr ⟨k_168 hB g l, nilK⟩⟩⟩) e_176 nilK
/-- B.trace ((('c', 0), ('u', 0)), ()) -/
def c_177 : aCt := (167, 1, some [], false, ([((-2147483648), 2147483647)], [], [], 212), [(2, (0, [])), (0, (0, [(0, 1)]))], [(([((-2147483648), 2147483647), ((-3), 99)], [], [], 212), some (0, (0, [(1, 1)])))])
def s_177 : List aCt := []
def h_177 : List (Nat × aS × Fm) := []
theorem e_177 : ckE 6000 gT s_177 (fun _ => 0) sp0 c_177 h_177 = true := by decide +kernel
theorem k_177 (hB : BytesOK) (g : bG) (l : Launch) : Keeps g l gT c_177 := keeps_of hB.1 hB.2 (nilK) e_177 nilK
/-- Needs.machines ((('c', 14),), ()) -/
def c_178 : aCt := (14, 0, some [], false, ([], [], [], 212), [(2, (14, []))], [(([((-2147483648), 2147483647)], [], [], 212), some (0, (0, [(0, 1)])))])
def s_178 : List aCt := []
def h_178_0 : Nat × aS × Fm := (4, ([(0, (2, (14, []))), (1, (0, (0, [(0, 1)]))), (2, (0, (0, [(1, 1)])))], [], ([((-2147483648), 2147483647), (0, 6)], [], [], 212)), (13, [(1, (-2))]))
def h_178 : List (Nat × aS × Fm) := [h_178_0]
theorem e_178 : ckE 6000 gT s_178 (fun _ => 0) sp0 c_178 h_178 = true := by decide +kernel
theorem g_178_0 : ([h_178_0].all fun H => ckH 6000 gT s_178 (fun _ => 0) sp0 c_178 h_178 H) = true := by decide +kernel
theorem k_178 (hB : BytesOK) (g : bG) (l : Launch) : Keeps g l gT c_178 := keeps_of hB.1 hB.2 (nilK) e_178 (List.all_eq_true.mp g_178_0)
/-- Pool.neededClaims ((('c', 1),), ()) -/
def c_179 : aCt := (21, 2, some [], false, ([], [], [], 212), [(2, (1, []))], [(([((-2147483648), 2147483647)], [], [], 212), some (0, (0, [(0, 1)])))])
def s_179 : List aCt := [c_11]
def h_179_0 : Nat × aS × Fm := (4, ([(0, (2, (1, []))), (1, (0, (0, [(1, 1)]))), (2, (0, (0, [(0, 1)])))], [], ([(0, 16), ((-2147483648), 2147483647)], [], [], 212)), (33, [(0, (-2))]))
def h_179 : List (Nat × aS × Fm) := [h_179_0]
theorem e_179 : ckE 6000 gT s_179 (fun _ => 0) sp0 c_179 h_179 = true := by decide +kernel
theorem g_179_0 : ([h_179_0].all fun H => ckH 6000 gT s_179 (fun _ => 0) sp0 c_179 h_179 H) = true := by decide +kernel
theorem k_179 (hB : BytesOK) (g : bG) (l : Launch) : Keeps g l gT c_179 := keeps_of hB.1 hB.2 (List.forall_mem_cons.mpr ⟨k_11 hB g l, nilK⟩) e_179 (List.all_eq_true.mp g_179_0)
/-- B.many ((('c', 0), ('u', 0)), ()) -/
def c_180 : aCt := (168, 3, some [], false, ([((-2147483648), 2147483647)], [], [], 212), [(2, (0, [])), (0, (0, [(0, 1)]))], [(([((-2147483648), 2147483647), ((-2147483648), 2147483647)], [], [], 212), some (0, (0, [(1, 1)])))])
def s_180 : List aCt := [c_178, c_179]
def h_180 : List (Nat × aS × Fm) := []
theorem e_180 : ckE 6000 gT s_180 (fun _ => 0) sp0 c_180 h_180 = true := by decide +kernel
theorem k_180 (hB : BytesOK) (g : bG) (l : Launch) : Keeps g l gT c_180 := keeps_of hB.1 hB.2 (List.forall_mem_cons.mpr ⟨k_178 hB g l, List.forall_mem_cons.mpr ⟨k_179 hB g l, nilK⟩⟩) e_180 nilK
/-- Terms.become ((('c', 127), ('c', 43)), ()) -/
def c_181 : aCt := (105, 2, some [(127, 0, 2), (127, 4, 6), (127, 8, 9), (127, 10, 12), (128, 0, 9), (129, 0, 9), (130, 0, 4), (131, 0, 3), (132, 0, 4), (133, 0, 220)], false, ([], [], [], 212), [(2, (127, [])), (2, (43, []))], [(([], [], [], 212), none)])
def s_181 : List aCt := []
def h_181 : List (Nat × aS × Fm) := []
theorem e_181 : ckE 6000 gT s_181 (fun _ => 0) sp0 c_181 h_181 = true := by decide +kernel
theorem k_181 (hB : BytesOK) (g : bG) (l : Launch) : Keeps g l gT c_181 := keeps_of hB.1 hB.2 (nilK) e_181 nilK
/-- Terms.become ((('c', 134), ('c', 50)), ()) -/
def c_182 : aCt := (105, 2, some [(134, 0, 2), (134, 4, 6), (134, 8, 9), (134, 10, 12), (135, 0, 9), (136, 0, 9), (137, 0, 4), (138, 0, 3), (139, 0, 4), (140, 0, 220)], false, ([], [], [], 212), [(2, (134, [])), (2, (50, []))], [(([], [], [], 212), none)])
def s_182 : List aCt := []
def h_182 : List (Nat × aS × Fm) := []
theorem e_182 : ckE 6000 gT s_182 (fun _ => 0) sp0 c_182 h_182 = true := by decide +kernel
theorem k_182 (hB : BytesOK) (g : bG) (l : Launch) : Keeps g l gT c_182 := keeps_of hB.1 hB.2 (nilK) e_182 nilK
