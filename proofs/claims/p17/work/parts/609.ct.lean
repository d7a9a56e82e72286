/-- B.item ((('c', 0), ('u', 0), ('u', 0), ('u', 0)), ()) -/
def c_187 : aCt := (162, 2, some [], false, ([((-2147483648), 2147483647), ((-2147483648), 2147483647), ((-2147483648), 2147483647)], [], [], 212), [(2, (0, [])), (0, (0, [(0, 1)])), (0, (0, [(1, 1)])), (0, (0, [(2, 1)]))], [(([((-2147483648), 2147483647), ((-2147483648), 2147483647), ((-2147483648), 2147483647), ((-2147483648), 2147483647)], [], [], 212), some (0, (0, [(3, 1)])))])
def s_187 : List aCt := [c_186]
def h_187 : List (Nat × aS × Fm) := []
theorem e_187 : ckE 6000 gT s_187 (fun _ => 0) sp0 c_187 h_187 = true := by decide +kernel
theorem k_187 (hB : BytesOK) (g : bG) (l : Launch) : Keeps g l gT c_187 := keeps_of hB.1 hB.2 (List.forall_mem_cons.mpr ⟨k_186 hB g l, nilK⟩) e_187 nilK
/-- Sheets.bringClaim ((('u', 1), ('c', 2)), ()) -/
def c_188 : aCt := (73, 2, some [(2, 1, 2), (3, 0, 16), (4, 0, 16), (5, 0, 16), (6, 0, 16), (7, 0, 16), (8, 0, 16), (9, 0, 16)], false, ([((-2147483648), 2147483647)], [], [], 212), [(1, (0, [(0, 1)])), (2, (2, []))], [(([((-2147483648), 2147483647), ((-2), 15)], [], [], 212), some (0, (0, [(1, 1)])))])
def s_188 : List aCt := [c_12]
def h_188 : List (Nat × aS × Fm) := []
theorem e_188 : ckE 6000 gT s_188 (fun _ => 0) sp0 c_188 h_188 = true := by decide +kernel
theorem k_188 (hB : BytesOK) (g : bG) (l : Launch) : Keeps g l gT c_188 := keeps_of hB.1 hB.2 (List.forall_mem_cons.mpr ⟨k_12 hB g l, nilK⟩) e_188 nilK
/-- Sheets.bringClaims ((('c', 181), ('u', 0), ('u', 0), ('u', 0), ('c', 2)), ()) -/
def c_189 : aCt := (72, 3, some [(2, 1, 2), (3, 0, 16), (4, 0, 16), (5, 0, 16), (6, 0, 16), (7, 0, 16), (8, 0, 16), (9, 0, 16)], false, ([(0, 3), ((-2147483648), 2147483647), (0, 6)], [], [], 212), [(2, (181, [])), (0, (0, [(0, 1)])), (0, (0, [(1, 1)])), (0, (0, [(2, 1)])), (2, (2, []))], [(([(0, 3), ((-2147483648), 2147483647), (0, 6), ((-2147483648), 2147483647)], [], [], 212), some (0, (0, [(3, 1)])))])
def sp_189 : aSp := fun k pc S => if pc = 71 ∧ k = 72 then spS 0 [0, 1, 2] S else none
def s_189 : List aCt := [c_188]
def h_189_0 : Nat × aS × Fm := (40, ([(0, (2, (181, []))), (1, (0, (0, [(0, 1)]))), (2, (0, (0, [(1, 1)]))), (3, (0, (0, [(2, 1)]))), (4, (2, (2, []))), (5, (0, (0, [(4, 1)]))), (6, (0, (0, [(3, 1)])))], [], ([(0, 3), ((-2147483648), 2147483647), (0, 6), (0, 6), ((-2147483648), 2147483647)], [], [], 212)), (13, [(3, (-2))]))
def h_189 : List (Nat × aS × Fm) := [h_189_0]
theorem e_189 : ckE 6000 gT s_189 (fun _ => 0) sp_189 c_189 h_189 = true := by decide +kernel
theorem g_189_0 : ([h_189_0].all fun H => ckH 6000 gT s_189 (fun _ => 0) sp_189 c_189 h_189 H) = true := by decide +kernel
theorem k_189 (hB : BytesOK) (g : bG) (l : Launch) : Keeps g l gT c_189 := keeps_of hB.1 hB.2 (List.forall_mem_cons.mpr ⟨k_188 hB g l, nilK⟩) e_189 (List.all_eq_true.mp g_189_0)
/-- B.comes ((('c', 0), ('u', 0), ('u', 0), ('u', 0)), ()) -/
def c_190 : aCt := (163, 4, some [(2, 1, 2), (3, 0, 16), (4, 0, 16), (5, 0, 16), (6, 0, 16), (7, 0, 16), (8, 0, 16), (9, 0, 16)], false, ([((-2147483648), 2147483647), ((-2147483648), 2147483647), ((-2147483648), 2147483647)], [], [], 212), [(2, (0, [])), (0, (0, [(0, 1)])), (0, (0, [(1, 1)])), (0, (0, [(2, 1)]))], [(([((-2147483648), 2147483647), ((-2147483648), 2147483647), ((-2147483648), 2147483647), ((-2147483648), 2147483647)], [], [], 212), some (0, (0, [(3, 1)])))])
def s_190 : List aCt := [c_189]
def h_190 : List (Nat × aS × Fm) := []
theorem e_190 : ckE 6000 gT s_190 (fun _ => 0) sp0 c_190 h_190 = true := by decide +kernel
theorem k_190 (hB : BytesOK) (g : bG) (l : Launch) : Keeps g l gT c_190 := keeps_of hB.1 hB.2 (List.forall_mem_cons.mpr ⟨k_189 hB g l, nilK⟩) e_190 nilK
/-- Sheets.sortOf ((('c', 181), ('u', 0)), ()) -/
def c_191 : aCt := (66, 1, some [], false, ([(0, 3)], [], [], 212), [(2, (181, [])), (0, (0, [(0, 1)]))], [(([(0, 3), ((-1), 3)], [], [], 212), some (0, (0, [(1, 1)])))])
def s_191 : List aCt := []
def h_191 : List (Nat × aS × Fm) := []
theorem e_191 : ckE 6000 gT s_191 (fun _ => 0) sp0 c_191 h_191 = true := by decide +kernel
theorem k_191 (hB : BytesOK) (g : bG) (l : Launch) : Keeps g l gT c_191 := keeps_of hB.1 hB.2 (nilK) e_191 nilK
/-- B.shelf ((('c', 0), ('u', 0), ('u', 0), ('u', 0)), ()) -/
def c_192 : aCt := (164, 2, some [(191, 0, 4), (192, 0, 4)], false, ([((-2147483648), 2147483647), ((-2147483648), 2147483647), ((-2147483648), 2147483647)], [], [], 212), [(2, (0, [])), (0, (0, [(0, 1)])), (0, (0, [(1, 1)])), (0, (0, [(2, 1)]))], [(([((-2147483648), 2147483647), ((-2147483648), 2147483647), ((-2147483648), 2147483647), ((-1), 1)], [], [], 212), some (0, (0, [(3, 1)])))])
def s_192 : List aCt := [c_191]
def h_192 : List (Nat × aS × Fm) := []
theorem e_192 : ckE 6000 gT s_192 (fun _ => 0) sp0 c_192 h_192 = true := by decide +kernel
theorem k_192 (hB : BytesOK) (g : bG) (l : Launch) : Keeps g l gT c_192 := keeps_of hB.1 hB.2 (List.forall_mem_cons.mpr ⟨k_191 hB g l, nilK⟩) e_192 nilK
/-- Pool.kindOfClaim ((('c', 1), ('u', 0)), ()) -/
def c_193 : aCt := (22, 2, some [], false, ([(0, 15)], [], [], 212), [(2, (1, [])), (0, (0, [(0, 1)]))], [(([(0, 15), (0, 3)], [], [], 212), some (0, (0, [(1, 1)])))])
def s_193 : List aCt := [c_28, c_33]
def h_193 : List (Nat × aS × Fm) := []
theorem e_193 : ckE 6000 gT s_193 (fun _ => 0) sp0 c_193 h_193 = true := by decide +kernel
theorem k_193 (hB : BytesOK) (g : bG) (l : Launch) : Keeps g l gT c_193 := keeps_of hB.1 hB.2 (List.forall_mem_cons.mpr ⟨k_28 hB g l, List.forall_mem_cons.mpr ⟨k_33 hB g l, nilK⟩⟩) e_193 nilK
/-- B.kindOn ((('c', 0), ('u', 0)), ()) -/
def c_194 : aCt := (180, 3, some [], false, ([(0, 3)], [], [], 212), [(2, (0, [])), (0, (0, [(0, 1)]))], [(([(0, 3), ((-1), 13)], [], [], 212), some (0, (0, [(1, 1)])))])
def sp_194 : aSp := fun k pc S => if pc = 0 ∧ k = 180 then spL 1 [0, 1, 2] S else none
def s_194 : List aCt := [c_193, c_191, c_110]
def h_194 : List (Nat × aS × Fm) := []
theorem e_194 : ckE 6000 gT s_194 (fun _ => 0) sp_194 c_194 h_194 = true := by decide +kernel
theorem k_194 (hB : BytesOK) (g : bG) (l : Launch) : Keeps g l gT c_194 := keeps_of hB.1 hB.2 (List.forall_mem_cons.mpr ⟨k_193 hB g l, List.forall_mem_cons.mpr ⟨k_191 hB g l, List.forall_mem_cons.mpr ⟨k_110 hB g l, nilK⟩⟩⟩) e_194 nilK
/-- Sheets.sizeOf ((('c', 181), ('u', 0)), ()) -/
def c_195 : aCt := (67, 1, some [], false, ([((-2147483648), 2147483647)], [], [], 212), [(2, (181, [])), (0, (0, [(0, 1)]))], [(([((-2147483648), 2147483647), (0, 40)], [], [], 212), some (0, (0, [(1, 1)])))])
def s_195 : List aCt := []
def h_195 : List (Nat × aS × Fm) := []
theorem e_195 : ckE 6000 gT s_195 (fun _ => 0) sp0 c_195 h_195 = true := by decide +kernel
theorem k_195 (hB : BytesOK) (g : bG) (l : Launch) : Keeps g l gT c_195 := keeps_of hB.1 hB.2 (nilK) e_195 nilK
/-- B.taken ((('c', 0), ('u', 0), ('u', 0)), ()) -/
def c_196 : aCt := (165, 4, some [], false, ([((-2147483648), 2147483647), ((-2147483648), 2147483647)], [], [], 212), [(2, (0, [])), (0, (0, [(0, 1)])), (0, (0, [(1, 1)]))], [(([((-2147483648), 2147483647), ((-2147483648), 2147483647), ((-2147483648), 2147483647)], [], [], 212), some (0, (0, [(2, 1)])))])
def s_196 : List aCt := [c_195, c_194]
def h_196 : List (Nat × aS × Fm) := []
theorem e_196 : ckE 6000 gT s_196 (fun _ => 0) sp0 c_196 h_196 = true := by decide +kernel
theorem k_196 (hB : BytesOK) (g : bG) (l : Launch) : Keeps g l gT c_196 := keeps_of hB.1 hB.2 (List.forall_mem_cons.mpr ⟨k_195 hB g l, List.forall_mem_cons.mpr ⟨k_194 hB g l, nilK⟩⟩) e_196 nilK
/-- B.amountOn ((('c', 0), ('u', 0)), ()) -/
def c_197 : aCt := (181, 2, some [], false, ([(0, 3)], [], [], 212), [(2, (0, [])), (0, (0, [(0, 1)]))], [(([(0, 3), ((-2147483648), 2147483647)], [], [], 212), some (0, (0, [(1, 1)])))])
def sp_197 : aSp := fun k pc S => if pc = 0 ∧ k = 181 then spL 1 [0, 1, 2] S else none
def s_197 : List aCt := []
def h_197 : List (Nat × aS × Fm) := []
theorem e_197 : ckE 6000 gT s_197 (fun _ => 0) sp_197 c_197 h_197 = true := by decide +kernel
theorem k_197 (hB : BytesOK) (g : bG) (l : Launch) : Keeps g l gT c_197 := keeps_of hB.1 hB.2 (nilK) e_197 nilK
/-- Acts.begin ((('c', 189), ('u', 0)), ()) -/
def c_198 : aCt := (5, 0, some [(189, 0, 1), (190, 0, 30)], false, ([(10, 99)], [], [], 212), [(2, (189, [])), (0, (0, [(0, 1)]))], [(([(10, 99)], [], [], 212), none)])
def s_198 : List aCt := []
def h_198 : List (Nat × aS × Fm) := []
theorem e_198 : ckE 6000 gT s_198 (fun _ => 0) sp0 c_198 h_198 = true := by decide +kernel
theorem k_198 (hB : BytesOK) (g : bG) (l : Launch) : Keeps g l gT c_198 := keeps_of hB.1 hB.2 (nilK) e_198 nilK
/-- Acts.isNeededKind ((('c', 189),), ()) -/
def c_199 : aCt := (6, 0, some [], false, ([], [], [], 212), [(2, (189, []))], [(([(0, 1)], [], [], 212), some (0, (0, [(0, 1)])))])
def s_199 : List aCt := []
def h_199 : List (Nat × aS × Fm) := []
theorem e_199 : ckE 6000 gT s_199 (fun _ => 0) sp0 c_199 h_199 = true := by decide +kernel
theorem k_199 (hB : BytesOK) (g : bG) (l : Launch) : Keeps g l gT c_199 := keeps_of hB.1 hB.2 (nilK) e_199 nilK
/-- Acts.reads ((('c', 189), ('u', 0)), ()) -/
def c_200 : aCt := (7, 1, some [(189, 0, 1), (190, 0, 30)], false, ([((-2147483648), 2147483647)], [], [], 212), [(2, (189, [])), (0, (0, [(0, 1)]))], [(([((-2147483648), 2147483647), ((-2147483648), 2147483647)], [], [], 212), some (0, (0, [(1, 1)])))])
def s_200 : List aCt := [c_198]
def h_200 : List (Nat × aS × Fm) := []
theorem e_200 : ckE 6000 gT s_200 (fun _ => 0) sp0 c_200 h_200 = true := by decide +kernel
theorem k_200 (hB : BytesOK) (g : bG) (l : Launch) : Keeps g l gT c_200 := keeps_of hB.1 hB.2 (List.forall_mem_cons.mpr ⟨k_198 hB g l, nilK⟩) e_200 nilK
/-- Acts.counts ((('c', 189), ('u', 0)), ()) -/
def c_201 : aCt := (8, 2, some [(189, 0, 1), (190, 0, 30)], false, ([((-2147483648), 2147483647)], [], [], 212), [(2, (189, [])), (0, (0, [(0, 1)]))], [(([((-2147483648), 2147483647), ((-2147483648), 2147483647)], [], [], 212), some (0, (0, [(1, 1)])))])
def s_201 : List aCt := [c_198, c_199, c_200]
def h_201 : List (Nat × aS × Fm) := []
theorem e_201 : ckE 6000 gT s_201 (fun _ => 0) sp0 c_201 h_201 = true := by decide +kernel
theorem k_201 (hB : BytesOK) (g : bG) (l : Launch) : Keeps g l gT c_201 := keeps_of hB.1 hB.2 (List.forall_mem_cons.mpr ⟨k_198 hB g l, List.forall_mem_cons.mpr ⟨k_199 hB g l, List.forall_mem_cons.mpr ⟨k_200 hB g l, nilK⟩⟩⟩) e_201 nilK
/-- Acts.pays ((('c', 189), ('u', 0)), ()) -/
def c_202 : aCt := (9, 1, some [(189, 0, 1), (189, 5, 6), (190, 0, 30)], false, ([((-2147483648), 2147483647)], [], [], 212), [(2, (189, [])), (0, (0, [(0, 1)]))], [(([((-2147483648), 2147483647), ((-2147483648), 2147483647)], [], [], 212), some (0, (0, [(1, 1)])))])
def sp_202 : aSp := fun k pc S => if pc = 43 ∧ k = 9 then spD [(-1), 0] S else none
def s_202 : List aCt := [c_198]
def h_202 : List (Nat × aS × Fm) := []
theorem e_202 : ckE 6000 gT s_202 (fun _ => 0) sp_202 c_202 h_202 = true := by decide +kernel
theorem k_202 (hB : BytesOK) (g : bG) (l : Launch) : Keeps g l gT c_202 := keeps_of hB.1 hB.2 (List.forall_mem_cons.mpr ⟨k_198 hB g l, nilK⟩) e_202 nilK
