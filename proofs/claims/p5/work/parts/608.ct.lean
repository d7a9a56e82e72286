/-- B.shelf ((('c', 0), ('u', 0), ('u', 0), ('u', 0)), ()) -/
def c_166 : aCt := (164, 2, some [(191, 0, 4), (192, 0, 4)], false, ([((-2147483648), 2147483647), ((-2147483648), 2147483647), ((-2147483648), 2147483647)], [], [], 212), [(2, (0, [])), (0, (0, [(0, 1)])), (0, (0, [(1, 1)])), (0, (0, [(2, 1)]))], [(([((-2147483648), 2147483647), ((-2147483648), 2147483647), ((-2147483648), 2147483647), ((-1), 1)], [], [], 212), some (0, (0, [(3, 1)])))])
def s_166 : List aCt := [c_165]
def h_166 : List (Nat × aS × Fm) := []
theorem e_166 : ckE 6000 gT s_166 (fun _ => 0) sp0 c_166 h_166 = true := by decide +kernel
theorem k_166 (hB : BytesOK) (g : bG) (l : Launch) : Keeps g l gT c_166 := keeps_of hB.1 hB.2 (List.forall_mem_cons.mpr ⟨k_165 hB g l, nilK⟩) e_166 nilK
/-- Pool.kindOfClaim ((('c', 1), ('u', 0)), ()) -/
def c_167 : aCt := (22, 2, some [], false, ([(0, 15)], [], [], 212), [(2, (1, [])), (0, (0, [(0, 1)]))], [(([(0, 15), (0, 3)], [], [], 212), some (0, (0, [(1, 1)])))])
def s_167 : List aCt := [c_11, c_16]
def h_167 : List (Nat × aS × Fm) := []
theorem e_167 : ckE 6000 gT s_167 (fun _ => 0) sp0 c_167 h_167 = true := by decide +kernel
theorem k_167 (hB : BytesOK) (g : bG) (l : Launch) : Keeps g l gT c_167 := keeps_of hB.1 hB.2 (List.forall_mem_cons.mpr ⟨k_11 hB g l, List.forall_mem_cons.mpr ⟨k_16 hB g l, nilK⟩⟩) e_167 nilK
/-- B.kindOn ((('c', 0), ('u', 0)), ()) -/
def c_168 : aCt := (180, 3, some [], false, ([(0, 3)], [], [], 212), [(2, (0, [])), (0, (0, [(0, 1)]))], [(([(0, 3), ((-1), 13)], [], [], 212), some (0, (0, [(1, 1)])))])
def sp_168 : aSp := fun k pc S => if pc = 0 ∧ k = 180 then spL 1 [0, 1, 2] S else none
def s_168 : List aCt := [c_167, c_165, c_92]
def h_168 : List (Nat × aS × Fm) := []
theorem e_168 : ckE 6000 gT s_168 (fun _ => 0) sp_168 c_168 h_168 = true := by decide +kernel
theorem k_168 (hB : BytesOK) (g : bG) (l : Launch) : Keeps g l gT c_168 := keeps_of hB.1 hB.2 (List.forall_mem_cons.mpr ⟨k_167 hB g l, List.forall_mem_cons.mpr ⟨k_165 hB g l, List.forall_mem_cons.mpr ⟨k_92 hB g l, nilK⟩⟩⟩) e_168 nilK
/-- Sheets.sizeOf ((('c', 181), ('u', 0)), ()) -/
def c_169 : aCt := (67, 1, some [], false, ([((-2147483648), 2147483647)], [], [], 212), [(2, (181, [])), (0, (0, [(0, 1)]))], [(([((-2147483648), 2147483647), (0, 40)], [], [], 212), some (0, (0, [(1, 1)])))])
def s_169 : List aCt := []
def h_169 : List (Nat × aS × Fm) := []
theorem e_169 : ckE 6000 gT s_169 (fun _ => 0) sp0 c_169 h_169 = true := by decide +kernel
theorem k_169 (hB : BytesOK) (g : bG) (l : Launch) : Keeps g l gT c_169 := keeps_of hB.1 hB.2 (nilK) e_169 nilK
/-- B.taken ((('c', 0), ('u', 0), ('u', 0)), ()) -/
def c_170 : aCt := (165, 4, some [], false, ([((-2147483648), 2147483647), ((-2147483648), 2147483647)], [], [], 212), [(2, (0, [])), (0, (0, [(0, 1)])), (0, (0, [(1, 1)]))], [(([((-2147483648), 2147483647), ((-2147483648), 2147483647), ((-2147483648), 2147483647)], [], [], 212), some (0, (0, [(2, 1)])))])
def s_170 : List aCt := [c_169, c_168]
def h_170 : List (Nat × aS × Fm) := []
theorem e_170 : ckE 6000 gT s_170 (fun _ => 0) sp0 c_170 h_170 = true := by decide +kernel
theorem k_170 (hB : BytesOK) (g : bG) (l : Launch) : Keeps g l gT c_170 := keeps_of hB.1 hB.2 (List.forall_mem_cons.mpr ⟨k_169 hB g l, List.forall_mem_cons.mpr ⟨k_168 hB g l, nilK⟩⟩) e_170 nilK
/-- B.amountOn ((('c', 0), ('u', 0)), ()) -/
def c_171 : aCt := (181, 2, some [], false, ([(0, 3)], [], [], 212), [(2, (0, [])), (0, (0, [(0, 1)]))], [(([(0, 3), ((-2147483648), 2147483647)], [], [], 212), some (0, (0, [(1, 1)])))])
def sp_171 : aSp := fun k pc S => if pc = 0 ∧ k = 181 then spL 1 [0, 1, 2] S else none
def s_171 : List aCt := []
def h_171 : List (Nat × aS × Fm) := []
theorem e_171 : ckE 6000 gT s_171 (fun _ => 0) sp_171 c_171 h_171 = true := by decide +kernel
theorem k_171 (hB : BytesOK) (g : bG) (l : Launch) : Keeps g l gT c_171 := keeps_of hB.1 hB.2 (nilK) e_171 nilK
/-- Acts.begin ((('c', 189), ('u', 0)), ()) -/
def c_172 : aCt := (5, 0, some [(189, 0, 1), (190, 0, 30)], false, ([(10, 99)], [], [], 212), [(2, (189, [])), (0, (0, [(0, 1)]))], [(([(10, 99)], [], [], 212), none)])
def s_172 : List aCt := []
def h_172 : List (Nat × aS × Fm) := []
theorem e_172 : ckE 6000 gT s_172 (fun _ => 0) sp0 c_172 h_172 = true := by decide +kernel
theorem k_172 (hB : BytesOK) (g : bG) (l : Launch) : Keeps g l gT c_172 := keeps_of hB.1 hB.2 (nilK) e_172 nilK
/-- Acts.isNeededKind ((('c', 189),), ()) -/
def c_173 : aCt := (6, 0, some [], false, ([], [], [], 212), [(2, (189, []))], [(([(0, 1)], [], [], 212), some (0, (0, [(0, 1)])))])
def s_173 : List aCt := []
def h_173 : List (Nat × aS × Fm) := []
theorem e_173 : ckE 6000 gT s_173 (fun _ => 0) sp0 c_173 h_173 = true := by decide +kernel
theorem k_173 (hB : BytesOK) (g : bG) (l : Launch) : Keeps g l gT c_173 := keeps_of hB.1 hB.2 (nilK) e_173 nilK
/-- Acts.reads ((('c', 189), ('u', 0)), ()) -/
def c_174 : aCt := (7, 1, some [(189, 0, 1), (190, 0, 30)], false, ([((-2147483648), 2147483647)], [], [], 212), [(2, (189, [])), (0, (0, [(0, 1)]))], [(([((-2147483648), 2147483647), ((-2147483648), 2147483647)], [], [], 212), some (0, (0, [(1, 1)])))])
def s_174 : List aCt := [c_172]
def h_174 : List (Nat × aS × Fm) := []
theorem e_174 : ckE 6000 gT s_174 (fun _ => 0) sp0 c_174 h_174 = true := by decide +kernel
theorem k_174 (hB : BytesOK) (g : bG) (l : Launch) : Keeps g l gT c_174 := keeps_of hB.1 hB.2 (List.forall_mem_cons.mpr ⟨k_172 hB g l, nilK⟩) e_174 nilK
/-- Acts.counts ((('c', 189), ('u', 0)), ()) -/
def c_175 : aCt := (8, 2, some [(189, 0, 1), (190, 0, 30)], false, ([((-2147483648), 2147483647)], [], [], 212), [(2, (189, [])), (0, (0, [(0, 1)]))], [(([((-2147483648), 2147483647), ((-2147483648), 2147483647)], [], [], 212), some (0, (0, [(1, 1)])))])
def s_175 : List aCt := [c_172, c_173, c_174]
def h_175 : List (Nat × aS × Fm) := []
theorem e_175 : ckE 6000 gT s_175 (fun _ => 0) sp0 c_175 h_175 = true := by decide +kernel
theorem k_175 (hB : BytesOK) (g : bG) (l : Launch) : Keeps g l gT c_175 := keeps_of hB.1 hB.2 (List.forall_mem_cons.mpr ⟨k_172 hB g l, List.forall_mem_cons.mpr ⟨k_173 hB g l, List.forall_mem_cons.mpr ⟨k_174 hB g l, nilK⟩⟩⟩) e_175 nilK
/-- Acts.pays ((('c', 189), ('u', 0)), ()) -/
def c_176 : aCt := (9, 1, some [(189, 0, 1), (189, 5, 6), (190, 0, 30)], false, ([((-2147483648), 2147483647)], [], [], 212), [(2, (189, [])), (0, (0, [(0, 1)]))], [(([((-2147483648), 2147483647), ((-2147483648), 2147483647)], [], [], 212), some (0, (0, [(1, 1)])))])
def sp_176 : aSp := fun k pc S => if pc = 43 ∧ k = 9 then spD [(-1), 0] S else none
def s_176 : List aCt := [c_172]
def h_176 : List (Nat × aS × Fm) := []
theorem e_176 : ckE 6000 gT s_176 (fun _ => 0) sp_176 c_176 h_176 = true := by decide +kernel
theorem k_176 (hB : BytesOK) (g : bG) (l : Launch) : Keeps g l gT c_176 := keeps_of hB.1 hB.2 (List.forall_mem_cons.mpr ⟨k_172 hB g l, nilK⟩) e_176 nilK
/-- Acts.ends ((('c', 189), ('u', 0)), ()) -/
def c_177 : aCt := (10, 3, some [(189, 0, 1), (189, 5, 6), (190, 0, 30)], false, ([((-2147483648), 2147483647)], [], [], 212), [(2, (189, [])), (0, (0, [(0, 1)]))], [(([((-2147483648), 2147483647), ((-2147483648), 2147483647)], [], [], 212), some (0, (0, [(1, 1)])))])
def s_177 : List aCt := [c_172, c_173, c_175, c_176]
def h_177 : List (Nat × aS × Fm) := []
theorem e_177 : ckE 6000 gT s_177 (fun _ => 0) sp0 c_177 h_177 = true := by decide +kernel
theorem k_177 (hB : BytesOK) (g : bG) (l : Launch) : Keeps g l gT c_177 := keeps_of hB.1 hB.2 (List.forall_mem_cons.mpr ⟨k_172 hB g l, List.forall_mem_cons.mpr ⟨k_173 hB g l, List.forall_mem_cons.mpr ⟨k_175 hB g l, List.forall_mem_cons.mpr ⟨k_176 hB g l, nilK⟩⟩⟩⟩) e_177 nilK
/-- Acts.run ((('c', 189), ('u', 0), ('u', 0), ('u', 0), ('u', 0), ('u', 0)), ()) -/
def c_178 : aCt := (4, 4, some [(189, 0, 1), (189, 2, 6), (190, 0, 30)], false, ([(0, 9), ((-2147483648), 2147483647), ((-2147483648), 2147483647), (0, 3), ((-2147483648), 2147483647)], [], [], 212), [(2, (189, [])), (0, (0, [(0, 1)])), (0, (0, [(1, 1)])), (0, (0, [(2, 1)])), (0, (0, [(3, 1)])), (0, (0, [(4, 1)]))], [(([(0, 9), ((-2147483648), 2147483647), ((-2147483648), 2147483647), (0, 3), ((-2147483648), 2147483647), ((-2147483648), 2147483647)], [], [], 212), some (0, (0, [(5, 1)])))])
def s_178 : List aCt := [c_174, c_175, c_176, c_177]
def h_178 : List (Nat × aS × Fm) := []
theorem e_178 : ckE 6000 gT s_178 (fun _ => 0) sp0 c_178 h_178 = true := by decide +kernel
theorem k_178 (hB : BytesOK) (g : bG) (l : Launch) : Keeps g l gT c_178 := keeps_of hB.1 hB.2 (List.forall_mem_cons.mpr ⟨k_174 hB g l, List.forall_mem_cons.mpr ⟨k_175 hB g l, List.forall_mem_cons.mpr ⟨k_176 hB g l, List.forall_mem_cons.mpr ⟨k_177 hB g l, nilK⟩⟩⟩⟩) e_178 nilK
/-- B.act ((('c', 0), ('u', 0), ('u', 0), ('u', 0)), ()) -/
def c_179 : aCt := (166, 5, some [(189, 0, 1), (189, 2, 6), (190, 0, 30)], false, ([((-2147483648), 2147483647), ((-2147483648), 2147483647), ((-2147483648), 2147483647)], [], [], 212), [(2, (0, [])), (0, (0, [(0, 1)])), (0, (0, [(1, 1)])), (0, (0, [(2, 1)]))], [(([((-2147483648), 2147483647), ((-2147483648), 2147483647), ((-2147483648), 2147483647), ((-2147483648), 2147483647)], [], [], 212), some (0, (0, [(3, 1)])))])
def s_179 : List aCt := [c_178, c_168, c_171]
def h_179 : List (Nat × aS × Fm) := []
theorem e_179 : ckE 6000 gT s_179 (fun _ => 0) sp0 c_179 h_179 = true := by decide +kernel
theorem k_179 (hB : BytesOK) (g : bG) (l : Launch) : Keeps g l gT c_179 := keeps_of hB.1 hB.2 (List.forall_mem_cons.mpr ⟨k_178 hB g l, List.forall_mem_cons.mpr ⟨k_168 hB g l, List.forall_mem_cons.mpr ⟨k_171 hB g l, nilK⟩⟩⟩) e_179 nilK
