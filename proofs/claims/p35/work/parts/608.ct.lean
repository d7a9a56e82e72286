/-- B.sheet ((('c', 0), ('u', 0), ('u', 0), ('u', 0)), ()) -/
def c_169 : aCt := (160, 2, some [(182, 0, 4), (183, 0, 4), (185, 0, 40), (186, 0, 40), (187, 0, 40), (188, 0, 40)], false, ([((-2147483648), 2147483647), ((-2147483648), 2147483647), ((-2147483648), 2147483647)], [], [], 212), [(2, (0, [])), (0, (0, [(0, 1)])), (0, (0, [(1, 1)])), (0, (0, [(2, 1)]))], [(([((-2147483648), 2147483647), ((-2147483648), 2147483647), ((-2147483648), 2147483647), ((-14), 1)], [], [], 212), some (0, (0, [(3, 1)])))])
def s_169 : List aCt := [c_168]
def h_169 : List (Nat × aS × Fm) := []
theorem e_169 : ckE 6000 gT s_169 (fun _ => 0) sp0 c_169 h_169 = true := by decide +kernel
theorem k_169 (hB : BytesOK) (g : bG) (l : Launch) : Keeps g l gT c_169 := keeps_of hB.1 hB.2 (List.forall_mem_cons.mpr ⟨k_168 hB g l, nilK⟩) e_169 nilK
/-- Sheets.narrowed ((('u', 0), ('u', 0)), ()) -/
def c_170 : aCt := (70, 0, some [], false, ([((-1), 3), ((-2147483648), 2147483647)], [], [], 212), [(0, (0, [(0, 1)])), (0, (0, [(1, 1)]))], [(([((-1), 3), ((-2147483648), 2147483647), ((-2147483648), 2147483647)], [], [], 212), some (1, (0, [(2, 1)])))])
def s_170 : List aCt := []
def h_170 : List (Nat × aS × Fm) := []
theorem e_170 : ckE 6000 gT s_170 (fun _ => 0) sp0 c_170 h_170 = true := by decide +kernel
theorem k_170 (hB : BytesOK) (g : bG) (l : Launch) : Keeps g l gT c_170 := keeps_of hB.1 hB.2 (nilK) e_170 nilK
/-- Sheets.change ((('c', 181), ('u', 0), ('u', 0), ('u', 0)), ()) -/
def c_171 : aCt := (69, 1, some [(185, 0, 40), (186, 0, 40), (187, 0, 40), (188, 0, 40)], false, ([((-2147483648), 2147483647), ((-2147483648), 2147483647), ((-2147483648), 2147483647)], [], [], 212), [(2, (181, [])), (0, (0, [(0, 1)])), (0, (0, [(1, 1)])), (0, (0, [(2, 1)]))], [(([((-2147483648), 2147483647), ((-2147483648), 2147483647), ((-2147483648), 2147483647), ((-12), 1)], [], [], 212), some (0, (0, [(3, 1)])))])
def sp_171 : aSp := fun k pc S => if pc = 43 ∧ k = 69 then spS 0 [0, 1, 2] S else none
def s_171 : List aCt := [c_170]
def h_171 : List (Nat × aS × Fm) := []
theorem e_171 : ckE 6000 gT s_171 (fun _ => 0) sp_171 c_171 h_171 = true := by decide +kernel
theorem k_171 (hB : BytesOK) (g : bG) (l : Launch) : Keeps g l gT c_171 := keeps_of hB.1 hB.2 (List.forall_mem_cons.mpr ⟨k_170 hB g l, nilK⟩) e_171 nilK
/-- B.put ((('c', 0), ('u', 0), ('u', 0), ('u', 0)), ()) -/
def c_172 : aCt := (161, 2, some [(185, 0, 40), (186, 0, 40), (187, 0, 40), (188, 0, 40)], false, ([((-2147483648), 2147483647), ((-2147483648), 2147483647), ((-2147483648), 2147483647)], [], [], 212), [(2, (0, [])), (0, (0, [(0, 1)])), (0, (0, [(1, 1)])), (0, (0, [(2, 1)]))], [(([((-2147483648), 2147483647), ((-2147483648), 2147483647), ((-2147483648), 2147483647), ((-12), 1)], [], [], 212), some (0, (0, [(3, 1)])))])
def s_172 : List aCt := [c_171]
def h_172 : List (Nat × aS × Fm) := []
theorem e_172 : ckE 6000 gT s_172 (fun _ => 0) sp0 c_172 h_172 = true := by decide +kernel
theorem k_172 (hB : BytesOK) (g : bG) (l : Launch) : Keeps g l gT c_172 := keeps_of hB.1 hB.2 (List.forall_mem_cons.mpr ⟨k_171 hB g l, nilK⟩) e_172 nilK
/-- Sheets.itemAt ((('c', 181), ('u', 0), ('u', 0), ('u', 0)), ()) -/
def c_173 : aCt := (71, 1, some [], false, ([((-2147483648), 2147483647), ((-2147483648), 2147483647), ((-2147483648), 2147483647)], [], [], 212), [(2, (181, [])), (0, (0, [(0, 1)])), (0, (0, [(1, 1)])), (0, (0, [(2, 1)]))], [(([((-2147483648), 2147483647), ((-2147483648), 2147483647), ((-2147483648), 2147483647), ((-2147483648), 2147483647)], [], [], 212), some (0, (0, [(3, 1)])))])
def sp_173 : aSp := fun k pc S => if pc = 65 ∧ k = 71 then spS 0 [0, 1, 2] S else none
def s_173 : List aCt := []
def h_173 : List (Nat × aS × Fm) := []
theorem e_173 : ckE 6000 gT s_173 (fun _ => 0) sp_173 c_173 h_173 = true := by decide +kernel
theorem k_173 (hB : BytesOK) (g : bG) (l : Launch) : Keeps g l gT c_173 := keeps_of hB.1 hB.2 (nilK) e_173 nilK
/-- B.item ((('c', 0), ('u', 0), ('u', 0), ('u', 0)), ()) -/
def c_174 : aCt := (162, 2, some [], false, ([((-2147483648), 2147483647), ((-2147483648), 2147483647), ((-2147483648), 2147483647)], [], [], 212), [(2, (0, [])), (0, (0, [(0, 1)])), (0, (0, [(1, 1)])), (0, (0, [(2, 1)]))], [(([((-2147483648), 2147483647), ((-2147483648), 2147483647), ((-2147483648), 2147483647), ((-2147483648), 2147483647)], [], [], 212), some (0, (0, [(3, 1)])))])
def s_174 : List aCt := [c_173]
def h_174 : List (Nat × aS × Fm) := []
theorem e_174 : ckE 6000 gT s_174 (fun _ => 0) sp0 c_174 h_174 = true := by decide +kernel
theorem k_174 (hB : BytesOK) (g : bG) (l : Launch) : Keeps g l gT c_174 := keeps_of hB.1 hB.2 (List.forall_mem_cons.mpr ⟨k_173 hB g l, nilK⟩) e_174 nilK
/-- Sheets.bringClaim ((('u', 1), ('c', 2)), ()) -/
def c_175 : aCt := (73, 2, some [(2, 1, 2), (3, 0, 16), (4, 0, 16), (5, 0, 16), (6, 0, 16), (7, 0, 16), (8, 0, 16), (9, 0, 16)], false, ([((-2147483648), 2147483647)], [], [], 212), [(1, (0, [(0, 1)])), (2, (2, []))], [(([((-2147483648), 2147483647), ((-2), 15)], [], [], 212), some (0, (0, [(1, 1)])))])
def s_175 : List aCt := [c_1]
def h_175 : List (Nat × aS × Fm) := []
theorem e_175 : ckE 6000 gT s_175 (fun _ => 0) sp0 c_175 h_175 = true := by decide +kernel
theorem k_175 (hB : BytesOK) (g : bG) (l : Launch) : Keeps g l gT c_175 := keeps_of hB.1 hB.2 (List.forall_mem_cons.mpr ⟨k_1 hB g l, nilK⟩) e_175 nilK
/-- Sheets.bringClaims ((('c', 181), ('u', 0), ('u', 0), ('u', 0), ('c', 2)), ()) -/
def c_176 : aCt := (72, 3, some [(2, 1, 2), (3, 0, 16), (4, 0, 16), (5, 0, 16), (6, 0, 16), (7, 0, 16), (8, 0, 16), (9, 0, 16)], false, ([(0, 3), ((-2147483648), 2147483647), (0, 6)], [], [], 212), [(2, (181, [])), (0, (0, [(0, 1)])), (0, (0, [(1, 1)])), (0, (0, [(2, 1)])), (2, (2, []))], [(([(0, 3), ((-2147483648), 2147483647), (0, 6), ((-2147483648), 2147483647)], [], [], 212), some (0, (0, [(3, 1)])))])
def sp_176 : aSp := fun k pc S => if pc = 71 ∧ k = 72 then spS 0 [0, 1, 2] S else none
def s_176 : List aCt := [c_175]
def h_176_0 : Nat × aS × Fm := (40, ([(0, (2, (181, []))), (1, (0, (0, [(0, 1)]))), (2, (0, (0, [(1, 1)]))), (3, (0, (0, [(2, 1)]))), (4, (2, (2, []))), (5, (0, (0, [(4, 1)]))), (6, (0, (0, [(3, 1)])))], [], ([(0, 3), ((-2147483648), 2147483647), (0, 6), (0, 6), ((-2147483648), 2147483647)], [], [], 212)), (13, [(3, (-2))]))
def h_176 : List (Nat × aS × Fm) := [h_176_0]
theorem e_176 : ckE 6000 gT s_176 (fun _ => 0) sp_176 c_176 h_176 = true := by decide +kernel
theorem g_176_0 : ([h_176_0].all fun H => ckH 6000 gT s_176 (fun _ => 0) sp_176 c_176 h_176 H) = true := by decide +kernel
theorem k_176 (hB : BytesOK) (g : bG) (l : Launch) : Keeps g l gT c_176 := keeps_of hB.1 hB.2 (List.forall_mem_cons.mpr ⟨k_175 hB g l, nilK⟩) e_176 (List.all_eq_true.mp g_176_0)
/-- B.comes ((('c', 0), ('u', 0), ('u', 0), ('u', 0)), ()) -/
def c_177 : aCt := (163, 4, some [(2, 1, 2), (3, 0, 16), (4, 0, 16), (5, 0, 16), (6, 0, 16), (7, 0, 16), (8, 0, 16), (9, 0, 16)], false, ([((-2147483648), 2147483647), ((-2147483648), 2147483647), ((-2147483648), 2147483647)], [], [], 212), [(2, (0, [])), (0, (0, [(0, 1)])), (0, (0, [(1, 1)])), (0, (0, [(2, 1)]))], [(([((-2147483648), 2147483647), ((-2147483648), 2147483647), ((-2147483648), 2147483647), ((-2147483648), 2147483647)], [], [], 212), some (0, (0, [(3, 1)])))])
def s_177 : List aCt := [c_176]
def h_177 : List (Nat × aS × Fm) := []
theorem e_177 : ckE 6000 gT s_177 (fun _ => 0) sp0 c_177 h_177 = true := by decide +kernel
theorem k_177 (hB : BytesOK) (g : bG) (l : Launch) : Keeps g l gT c_177 := keeps_of hB.1 hB.2 (List.forall_mem_cons.mpr ⟨k_176 hB g l, nilK⟩) e_177 nilK
/-- Sheets.sortOf ((('c', 181), ('u', 0)), ()) -/
def c_178 : aCt := (66, 1, some [], false, ([(0, 3)], [], [], 212), [(2, (181, [])), (0, (0, [(0, 1)]))], [(([(0, 3), ((-1), 3)], [], [], 212), some (0, (0, [(1, 1)])))])
def s_178 : List aCt := []
def h_178 : List (Nat × aS × Fm) := []
theorem e_178 : ckE 6000 gT s_178 (fun _ => 0) sp0 c_178 h_178 = true := by decide +kernel
theorem k_178 (hB : BytesOK) (g : bG) (l : Launch) : Keeps g l gT c_178 := keeps_of hB.1 hB.2 (nilK) e_178 nilK
/-- B.shelf ((('c', 0), ('u', 0), ('u', 0), ('u', 0)), ()) -/
def c_179 : aCt := (164, 2, some [(191, 0, 4), (192, 0, 4)], false, ([((-2147483648), 2147483647), ((-2147483648), 2147483647), ((-2147483648), 2147483647)], [], [], 212), [(2, (0, [])), (0, (0, [(0, 1)])), (0, (0, [(1, 1)])), (0, (0, [(2, 1)]))], [(([((-2147483648), 2147483647), ((-2147483648), 2147483647), ((-2147483648), 2147483647), ((-1), 1)], [], [], 212), some (0, (0, [(3, 1)])))])
def s_179 : List aCt := [c_178]
def h_179 : List (Nat × aS × Fm) := []
theorem e_179 : ckE 6000 gT s_179 (fun _ => 0) sp0 c_179 h_179 = true := by decide +kernel
theorem k_179 (hB : BytesOK) (g : bG) (l : Launch) : Keeps g l gT c_179 := keeps_of hB.1 hB.2 (List.forall_mem_cons.mpr ⟨k_178 hB g l, nilK⟩) e_179 nilK
/-- Pool.kindOfClaim ((('c', 1), ('u', 0)), ()) -/
def c_180 : aCt := (22, 2, some [], false, ([(0, 15)], [], [], 212), [(2, (1, [])), (0, (0, [(0, 1)]))], [(([(0, 15), (0, 3)], [], [], 212), some (0, (0, [(1, 1)])))])
def s_180 : List aCt := [c_17, c_22]
def h_180 : List (Nat × aS × Fm) := []
theorem e_180 : ckE 6000 gT s_180 (fun _ => 0) sp0 c_180 h_180 = true := by decide +kernel
theorem k_180 (hB : BytesOK) (g : bG) (l : Launch) : Keeps g l gT c_180 := keeps_of hB.1 hB.2 (List.forall_mem_cons.mpr ⟨k_17 hB g l, List.forall_mem_cons.mpr ⟨k_22 hB g l, nilK⟩⟩) e_180 nilK
/-- B.kindOn ((('c', 0), ('u', 0)), ()) -/
def c_181 : aCt := (180, 3, some [], false, ([(0, 3)], [], [], 212), [(2, (0, [])), (0, (0, [(0, 1)]))], [(([(0, 3), ((-1), 13)], [], [], 212), some (0, (0, [(1, 1)])))])
def sp_181 : aSp := fun k pc S => if pc = 0 ∧ k = 180 then spL 1 [0, 1, 2] S else none
def s_181 : List aCt := [c_180, c_178, c_101]
def h_181 : List (Nat × aS × Fm) := []
theorem e_181 : ckE 6000 gT s_181 (fun _ => 0) sp_181 c_181 h_181 = true := by decide +kernel
theorem k_181 (hB : BytesOK) (g : bG) (l : Launch) : Keeps g l gT c_181 := keeps_of hB.1 hB.2 (List.forall_mem_cons.mpr ⟨k_180 hB g l, List.forall_mem_cons.mpr ⟨k_178 hB g l, List.forall_mem_cons.mpr ⟨k_101 hB g l, nilK⟩⟩⟩) e_181 nilK
/-- Sheets.sizeOf ((('c', 181), ('u', 0)), ()) -/
def c_182 : aCt := (67, 1, some [], false, ([((-2147483648), 2147483647)], [], [], 212), [(2, (181, [])), (0, (0, [(0, 1)]))], [(([((-2147483648), 2147483647), (0, 40)], [], [], 212), some (0, (0, [(1, 1)])))])
def s_182 : List aCt := []
def h_182 : List (Nat × aS × Fm) := []
theorem e_182 : ckE 6000 gT s_182 (fun _ => 0) sp0 c_182 h_182 = true := by decide +kernel
theorem k_182 (hB : BytesOK) (g : bG) (l : Launch) : Keeps g l gT c_182 := keeps_of hB.1 hB.2 (nilK) e_182 nilK
/-- B.taken ((('c', 0), ('u', 0), ('u', 0)), ()) -/
def c_183 : aCt := (165, 4, some [], false, ([((-2147483648), 2147483647), ((-2147483648), 2147483647)], [], [], 212), [(2, (0, [])), (0, (0, [(0, 1)])), (0, (0, [(1, 1)]))], [(([((-2147483648), 2147483647), ((-2147483648), 2147483647), ((-2147483648), 2147483647)], [], [], 212), some (0, (0, [(2, 1)])))])
def s_183 : List aCt := [c_182, c_181]
def h_183 : List (Nat × aS × Fm) := []
theorem e_183 : ckE 6000 gT s_183 (fun _ => 0) sp0 c_183 h_183 = true := by decide +kernel
theorem k_183 (hB : BytesOK) (g : bG) (l : Launch) : Keeps g l gT c_183 := keeps_of hB.1 hB.2 (List.forall_mem_cons.mpr ⟨k_182 hB g l, List.forall_mem_cons.mpr ⟨k_181 hB g l, nilK⟩⟩) e_183 nilK
/-- B.amountOn ((('c', 0), ('u', 0)), ()) -/
def c_184 : aCt := (181, 2, some [], false, ([(0, 3)], [], [], 212), [(2, (0, [])), (0, (0, [(0, 1)]))], [(([(0, 3), ((-2147483648), 2147483647)], [], [], 212), some (0, (0, [(1, 1)])))])
def sp_184 : aSp := fun k pc S => if pc = 0 ∧ k = 181 then spL 1 [0, 1, 2] S else none
def s_184 : List aCt := []
def h_184 : List (Nat × aS × Fm) := []
theorem e_184 : ckE 6000 gT s_184 (fun _ => 0) sp_184 c_184 h_184 = true := by decide +kernel
theorem k_184 (hB : BytesOK) (g : bG) (l : Launch) : Keeps g l gT c_184 := keeps_of hB.1 hB.2 (nilK) e_184 nilK
/-- Acts.begin ((('c', 189), ('u', 0)), ()) -/
def c_185 : aCt := (5, 0, some [(189, 0, 1), (190, 0, 30)], false, ([(10, 99)], [], [], 212), [(2, (189, [])), (0, (0, [(0, 1)]))], [(([(10, 99)], [], [], 212), none)])
def s_185 : List aCt := []
def h_185 : List (Nat × aS × Fm) := []
theorem e_185 : ckE 6000 gT s_185 (fun _ => 0) sp0 c_185 h_185 = true := by decide +kernel
theorem k_185 (hB : BytesOK) (g : bG) (l : Launch) : Keeps g l gT c_185 := keeps_of hB.1 hB.2 (nilK) e_185 nilK
/-- Acts.isNeededKind ((('c', 189),), ()) -/
def c_186 : aCt := (6, 0, some [], false, ([], [], [], 212), [(2, (189, []))], [(([(0, 1)], [], [], 212), some (0, (0, [(0, 1)])))])
def s_186 : List aCt := []
def h_186 : List (Nat × aS × Fm) := []
theorem e_186 : ckE 6000 gT s_186 (fun _ => 0) sp0 c_186 h_186 = true := by decide +kernel
theorem k_186 (hB : BytesOK) (g : bG) (l : Launch) : Keeps g l gT c_186 := keeps_of hB.1 hB.2 (nilK) e_186 nilK
