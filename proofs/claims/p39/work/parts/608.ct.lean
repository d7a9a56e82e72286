/-- Pool.fairSum ((('c', 1), ('u', 0), ('u', 0), ('u', 0)), ()) -/
def c_170 : aCt := (41, 6, some [], false, ([(0, 7), (0, 239), (0, 4)], [], [], 212), [(2, (1, [])), (0, (0, [(0, 1)])), (0, (0, [(1, 1)])), (0, (0, [(2, 1)]))], [(([(0, 7), (0, 239), (0, 4), ((-2147483648), 2147483647)], [], [], 212), some (0, (0, [(3, 1)])))])
def s_170 : List aCt := [c_169]
def h_170_0 : Nat × aS × Fm := (23, ([(0, (2, (1, []))), (1, (0, (0, [(0, 1)]))), (2, (0, (0, [(1, 1)]))), (3, (0, (0, [(2, 1)]))), (4, (1, (0, [(3, 1)]))), (6, (1, (0, [(5, 1)]))), (8, (0, (0, [(4, 1)])))], [], ([(0, 7), (0, 239), (3, 4), (0, 9223372036854775807), (0, 3), (0, 9223372036854775807)], [], [], 212)), (7, [(4, (-2))]))
def h_170 : List (Nat × aS × Fm) := [h_170_0]
theorem e_170 : ckE 6000 gT s_170 (fun _ => 0) sp0 c_170 h_170 = true := by decide +kernel
theorem g_170_0 : ([h_170_0].all fun H => ckH 6000 gT s_170 (fun _ => 0) sp0 c_170 h_170 H) = true := by decide +kernel
theorem k_170 (hB : BytesOK) (g : bG) (l : Launch) : Keeps g l gT c_170 := keeps_of hB.1 hB.2 (List.forall_mem_cons.mpr ⟨k_169 hB g l, nilK⟩) e_170 (List.all_eq_true.mp g_170_0)
/-- B.fair ((('c', 0), ('u', 0), ('u', 0), ('u', 0)), ()) -/
def c_171 : aCt := (159, 7, some [], false, ([((-2147483648), 2147483647), ((-2147483648), 2147483647), ((-2147483648), 2147483647)], [], [], 212), [(2, (0, [])), (0, (0, [(0, 1)])), (0, (0, [(1, 1)])), (0, (0, [(2, 1)]))], [(([((-2147483648), 2147483647), ((-2147483648), 2147483647), ((-2147483648), 2147483647), ((-2147483648), 2147483647)], [], [], 212), some (0, (0, [(3, 1)])))])
def s_171 : List aCt := [c_170]
def h_171 : List (Nat × aS × Fm) := []
theorem e_171 : ckE 6000 gT s_171 (fun _ => 0) sp0 c_171 h_171 = true := by decide +kernel
theorem k_171 (hB : BytesOK) (g : bG) (l : Launch) : Keeps g l gT c_171 := keeps_of hB.1 hB.2 (List.forall_mem_cons.mpr ⟨k_170 hB g l, nilK⟩) e_171 nilK
/-- Sheets.narrowed ((('u', 0), ('u', 0)), ()) -/
def c_172 : aCt := (70, 0, some [], false, ([((-1), 3), ((-2147483648), 2147483647)], [], [], 212), [(0, (0, [(0, 1)])), (0, (0, [(1, 1)]))], [(([((-1), 3), ((-2147483648), 2147483647), ((-2147483648), 2147483647)], [], [], 212), some (1, (0, [(2, 1)])))])
def s_172 : List aCt := []
def h_172 : List (Nat × aS × Fm) := []
theorem e_172 : ckE 6000 gT s_172 (fun _ => 0) sp0 c_172 h_172 = true := by decide +kernel
theorem k_172 (hB : BytesOK) (g : bG) (l : Launch) : Keeps g l gT c_172 := keeps_of hB.1 hB.2 (nilK) e_172 nilK
/-- Sheets.change ((('c', 181), ('u', 0), ('u', 0), ('u', 0)), ()) -/
def c_173 : aCt := (69, 1, some [(185, 0, 40), (186, 0, 40), (187, 0, 40), (188, 0, 40)], false, ([((-2147483648), 2147483647), ((-2147483648), 2147483647), ((-2147483648), 2147483647)], [], [], 212), [(2, (181, [])), (0, (0, [(0, 1)])), (0, (0, [(1, 1)])), (0, (0, [(2, 1)]))], [(([((-2147483648), 2147483647), ((-2147483648), 2147483647), ((-2147483648), 2147483647), ((-12), 1)], [], [], 212), some (0, (0, [(3, 1)])))])
def sp_173 : aSp := fun k pc S => if pc = 43 ∧ k = 69 then spS 0 [0, 1, 2] S else none
def s_173 : List aCt := [c_172]
def h_173 : List (Nat × aS × Fm) := []
theorem e_173 : ckE 6000 gT s_173 (fun _ => 0) sp_173 c_173 h_173 = true := by decide +kernel
theorem k_173 (hB : BytesOK) (g : bG) (l : Launch) : Keeps g l gT c_173 := keeps_of hB.1 hB.2 (List.forall_mem_cons.mpr ⟨k_172 hB g l, nilK⟩) e_173 nilK
/-- B.put ((('c', 0), ('u', 0), ('u', 0), ('u', 0)), ()) -/
def c_174 : aCt := (161, 2, some [(185, 0, 40), (186, 0, 40), (187, 0, 40), (188, 0, 40)], false, ([((-2147483648), 2147483647), ((-2147483648), 2147483647), ((-2147483648), 2147483647)], [], [], 212), [(2, (0, [])), (0, (0, [(0, 1)])), (0, (0, [(1, 1)])), (0, (0, [(2, 1)]))], [(([((-2147483648), 2147483647), ((-2147483648), 2147483647), ((-2147483648), 2147483647), ((-12), 1)], [], [], 212), some (0, (0, [(3, 1)])))])
def s_174 : List aCt := [c_173]
def h_174 : List (Nat × aS × Fm) := []
theorem e_174 : ckE 6000 gT s_174 (fun _ => 0) sp0 c_174 h_174 = true := by decide +kernel
theorem k_174 (hB : BytesOK) (g : bG) (l : Launch) : Keeps g l gT c_174 := keeps_of hB.1 hB.2 (List.forall_mem_cons.mpr ⟨k_173 hB g l, nilK⟩) e_174 nilK
/-- Sheets.itemAt ((('c', 181), ('u', 0), ('u', 0), ('u', 0)), ()) -/
def c_175 : aCt := (71, 1, some [], false, ([((-2147483648), 2147483647), ((-2147483648), 2147483647), ((-2147483648), 2147483647)], [], [], 212), [(2, (181, [])), (0, (0, [(0, 1)])), (0, (0, [(1, 1)])), (0, (0, [(2, 1)]))], [(([((-2147483648), 2147483647), ((-2147483648), 2147483647), ((-2147483648), 2147483647), ((-2147483648), 2147483647)], [], [], 212), some (0, (0, [(3, 1)])))])
def sp_175 : aSp := fun k pc S => if pc = 65 ∧ k = 71 then spS 0 [0, 1, 2] S else none
def s_175 : List aCt := []
def h_175 : List (Nat × aS × Fm) := []
theorem e_175 : ckE 6000 gT s_175 (fun _ => 0) sp_175 c_175 h_175 = true := by decide +kernel
theorem k_175 (hB : BytesOK) (g : bG) (l : Launch) : Keeps g l gT c_175 := keeps_of hB.1 hB.2 (nilK) e_175 nilK
/-- B.item ((('c', 0), ('u', 0), ('u', 0), ('u', 0)), ()) -/
def c_176 : aCt := (162, 2, some [], false, ([((-2147483648), 2147483647), ((-2147483648), 2147483647), ((-2147483648), 2147483647)], [], [], 212), [(2, (0, [])), (0, (0, [(0, 1)])), (0, (0, [(1, 1)])), (0, (0, [(2, 1)]))], [(([((-2147483648), 2147483647), ((-2147483648), 2147483647), ((-2147483648), 2147483647), ((-2147483648), 2147483647)], [], [], 212), some (0, (0, [(3, 1)])))])
def s_176 : List aCt := [c_175]
def h_176 : List (Nat × aS × Fm) := []
theorem e_176 : ckE 6000 gT s_176 (fun _ => 0) sp0 c_176 h_176 = true := by decide +kernel
theorem k_176 (hB : BytesOK) (g : bG) (l : Launch) : Keeps g l gT c_176 := keeps_of hB.1 hB.2 (List.forall_mem_cons.mpr ⟨k_175 hB g l, nilK⟩) e_176 nilK
/-- Sheets.bringClaim ((('u', 1), ('c', 2)), ()) -/
def c_177 : aCt := (73, 2, some [(2, 1, 2), (3, 0, 16), (4, 0, 16), (5, 0, 16), (6, 0, 16), (7, 0, 16), (8, 0, 16), (9, 0, 16)], false, ([((-2147483648), 2147483647)], [], [], 212), [(1, (0, [(0, 1)])), (2, (2, []))], [(([((-2147483648), 2147483647), ((-2), 15)], [], [], 212), some (0, (0, [(1, 1)])))])
def s_177 : List aCt := [c_1]
def h_177 : List (Nat × aS × Fm) := []
theorem e_177 : ckE 6000 gT s_177 (fun _ => 0) sp0 c_177 h_177 = true := by decide +kernel
theorem k_177 (hB : BytesOK) (g : bG) (l : Launch) : Keeps g l gT c_177 := keeps_of hB.1 hB.2 (List.forall_mem_cons.mpr ⟨k_1 hB g l, nilK⟩) e_177 nilK
/-- Sheets.bringClaims ((('c', 181), ('u', 0), ('u', 0), ('u', 0), ('c', 2)), ()) -/
def c_178 : aCt := (72, 3, some [(2, 1, 2), (3, 0, 16), (4, 0, 16), (5, 0, 16), (6, 0, 16), (7, 0, 16), (8, 0, 16), (9, 0, 16)], false, ([(0, 3), ((-2147483648), 2147483647), (0, 6)], [], [], 212), [(2, (181, [])), (0, (0, [(0, 1)])), (0, (0, [(1, 1)])), (0, (0, [(2, 1)])), (2, (2, []))], [(([(0, 3), ((-2147483648), 2147483647), (0, 6), ((-2147483648), 2147483647)], [], [], 212), some (0, (0, [(3, 1)])))])
def sp_178 : aSp := fun k pc S => if pc = 71 ∧ k = 72 then spS 0 [0, 1, 2] S else none
def s_178 : List aCt := [c_177]
def h_178_0 : Nat × aS × Fm := (40, ([(0, (2, (181, []))), (1, (0, (0, [(0, 1)]))), (2, (0, (0, [(1, 1)]))), (3, (0, (0, [(2, 1)]))), (4, (2, (2, []))), (5, (0, (0, [(4, 1)]))), (6, (0, (0, [(3, 1)])))], [], ([(0, 3), ((-2147483648), 2147483647), (0, 6), (0, 6), ((-2147483648), 2147483647)], [], [], 212)), (13, [(3, (-2))]))
def h_178 : List (Nat × aS × Fm) := [h_178_0]
theorem e_178 : ckE 6000 gT s_178 (fun _ => 0) sp_178 c_178 h_178 = true := by decide +kernel
theorem g_178_0 : ([h_178_0].all fun H => ckH 6000 gT s_178 (fun _ => 0) sp_178 c_178 h_178 H) = true := by decide +kernel
theorem k_178 (hB : BytesOK) (g : bG) (l : Launch) : Keeps g l gT c_178 := keeps_of hB.1 hB.2 (List.forall_mem_cons.mpr ⟨k_177 hB g l, nilK⟩) e_178 (List.all_eq_true.mp g_178_0)
/-- B.comes ((('c', 0), ('u', 0), ('u', 0), ('u', 0)), ()) -/
def c_179 : aCt := (163, 4, some [(2, 1, 2), (3, 0, 16), (4, 0, 16), (5, 0, 16), (6, 0, 16), (7, 0, 16), (8, 0, 16), (9, 0, 16)], false, ([((-2147483648), 2147483647), ((-2147483648), 2147483647), ((-2147483648), 2147483647)], [], [], 212), [(2, (0, [])), (0, (0, [(0, 1)])), (0, (0, [(1, 1)])), (0, (0, [(2, 1)]))], [(([((-2147483648), 2147483647), ((-2147483648), 2147483647), ((-2147483648), 2147483647), ((-2147483648), 2147483647)], [], [], 212), some (0, (0, [(3, 1)])))])
def s_179 : List aCt := [c_178]
def h_179 : List (Nat × aS × Fm) := []
theorem e_179 : ckE 6000 gT s_179 (fun _ => 0) sp0 c_179 h_179 = true := by decide +kernel
theorem k_179 (hB : BytesOK) (g : bG) (l : Launch) : Keeps g l gT c_179 := keeps_of hB.1 hB.2 (List.forall_mem_cons.mpr ⟨k_178 hB g l, nilK⟩) e_179 nilK
/-- Sheets.sortOf ((('c', 181), ('u', 0)), ()) -/
def c_180 : aCt := (66, 1, some [], false, ([(0, 3)], [], [], 212), [(2, (181, [])), (0, (0, [(0, 1)]))], [(([(0, 3), ((-1), 3)], [], [], 212), some (0, (0, [(1, 1)])))])
def s_180 : List aCt := []
def h_180 : List (Nat × aS × Fm) := []
theorem e_180 : ckE 6000 gT s_180 (fun _ => 0) sp0 c_180 h_180 = true := by decide +kernel
theorem k_180 (hB : BytesOK) (g : bG) (l : Launch) : Keeps g l gT c_180 := keeps_of hB.1 hB.2 (nilK) e_180 nilK
/-- B.shelf ((('c', 0), ('u', 0), ('u', 0), ('u', 0)), ()) -/
def c_181 : aCt := (164, 2, some [(191, 0, 4), (192, 0, 4)], false, ([((-2147483648), 2147483647), ((-2147483648), 2147483647), ((-2147483648), 2147483647)], [], [], 212), [(2, (0, [])), (0, (0, [(0, 1)])), (0, (0, [(1, 1)])), (0, (0, [(2, 1)]))], [(([((-2147483648), 2147483647), ((-2147483648), 2147483647), ((-2147483648), 2147483647), ((-1), 1)], [], [], 212), some (0, (0, [(3, 1)])))])
def s_181 : List aCt := [c_180]
def h_181 : List (Nat × aS × Fm) := []
theorem e_181 : ckE 6000 gT s_181 (fun _ => 0) sp0 c_181 h_181 = true := by decide +kernel
theorem k_181 (hB : BytesOK) (g : bG) (l : Launch) : Keeps g l gT c_181 := keeps_of hB.1 hB.2 (List.forall_mem_cons.mpr ⟨k_180 hB g l, nilK⟩) e_181 nilK
/-- Pool.kindOfClaim ((('c', 1), ('u', 0)), ()) -/
def c_182 : aCt := (22, 2, some [], false, ([(0, 15)], [], [], 212), [(2, (1, [])), (0, (0, [(0, 1)]))], [(([(0, 15), (0, 3)], [], [], 212), some (0, (0, [(1, 1)])))])
def s_182 : List aCt := [c_17, c_22]
def h_182 : List (Nat × aS × Fm) := []
theorem e_182 : ckE 6000 gT s_182 (fun _ => 0) sp0 c_182 h_182 = true := by decide +kernel
theorem k_182 (hB : BytesOK) (g : bG) (l : Launch) : Keeps g l gT c_182 := keeps_of hB.1 hB.2 (List.forall_mem_cons.mpr ⟨k_17 hB g l, List.forall_mem_cons.mpr ⟨k_22 hB g l, nilK⟩⟩) e_182 nilK
/-- B.kindOn ((('c', 0), ('u', 0)), ()) -/
def c_183 : aCt := (180, 3, some [], false, ([(0, 3)], [], [], 212), [(2, (0, [])), (0, (0, [(0, 1)]))], [(([(0, 3), ((-1), 13)], [], [], 212), some (0, (0, [(1, 1)])))])
def sp_183 : aSp := fun k pc S => if pc = 0 ∧ k = 180 then spL 1 [0, 1, 2] S else none
def s_183 : List aCt := [c_182, c_180, c_101]
def h_183 : List (Nat × aS × Fm) := []
theorem e_183 : ckE 6000 gT s_183 (fun _ => 0) sp_183 c_183 h_183 = true := by decide +kernel
theorem k_183 (hB : BytesOK) (g : bG) (l : Launch) : Keeps g l gT c_183 := keeps_of hB.1 hB.2 (List.forall_mem_cons.mpr ⟨k_182 hB g l, List.forall_mem_cons.mpr ⟨k_180 hB g l, List.forall_mem_cons.mpr ⟨k_101 hB g l, nilK⟩⟩⟩) e_183 nilK
/-- Sheets.sizeOf ((('c', 181), ('u', 0)), ()) -/
def c_184 : aCt := (67, 1, some [], false, ([((-2147483648), 2147483647)], [], [], 212), [(2, (181, [])), (0, (0, [(0, 1)]))], [(([((-2147483648), 2147483647), (0, 40)], [], [], 212), some (0, (0, [(1, 1)])))])
def s_184 : List aCt := []
def h_184 : List (Nat × aS × Fm) := []
theorem e_184 : ckE 6000 gT s_184 (fun _ => 0) sp0 c_184 h_184 = true := by decide +kernel
theorem k_184 (hB : BytesOK) (g : bG) (l : Launch) : Keeps g l gT c_184 := keeps_of hB.1 hB.2 (nilK) e_184 nilK
/-- B.taken ((('c', 0), ('u', 0), ('u', 0)), ()) -/
def c_185 : aCt := (165, 4, some [], false, ([((-2147483648), 2147483647), ((-2147483648), 2147483647)], [], [], 212), [(2, (0, [])), (0, (0, [(0, 1)])), (0, (0, [(1, 1)]))], [(([((-2147483648), 2147483647), ((-2147483648), 2147483647), ((-2147483648), 2147483647)], [], [], 212), some (0, (0, [(2, 1)])))])
def s_185 : List aCt := [c_184, c_183]
def h_185 : List (Nat × aS × Fm) := []
theorem e_185 : ckE 6000 gT s_185 (fun _ => 0) sp0 c_185 h_185 = true := by decide +kernel
theorem k_185 (hB : BytesOK) (g : bG) (l : Launch) : Keeps g l gT c_185 := keeps_of hB.1 hB.2 (List.forall_mem_cons.mpr ⟨k_184 hB g l, List.forall_mem_cons.mpr ⟨k_183 hB g l, nilK⟩⟩) e_185 nilK
/-- B.amountOn ((('c', 0), ('u', 0)), ()) -/
def c_186 : aCt := (181, 2, some [], false, ([(0, 3)], [], [], 212), [(2, (0, [])), (0, (0, [(0, 1)]))], [(([(0, 3), ((-2147483648), 2147483647)], [], [], 212), some (0, (0, [(1, 1)])))])
def sp_186 : aSp := fun k pc S => if pc = 0 ∧ k = 181 then spL 1 [0, 1, 2] S else none
def s_186 : List aCt := []
def h_186 : List (Nat × aS × Fm) := []
theorem e_186 : ckE 6000 gT s_186 (fun _ => 0) sp_186 c_186 h_186 = true := by decide +kernel
theorem k_186 (hB : BytesOK) (g : bG) (l : Launch) : Keeps g l gT c_186 := keeps_of hB.1 hB.2 (nilK) e_186 nilK
