/-- Sheets.sortOf ((('c', 181), ('u', 0)), ()) -/
def c_129 : aCt := (66, 1, some [], false, ([(0, 3)], [], [], 212), [(2, (181, [])), (0, (0, [(0, 1)]))], [(([(0, 3), ((-1), 3)], [], [], 212), some (0, (0, [(1, 1)])))])
def s_129 : List aCt := []
def h_129 : List (Nat × aS × Fm) := []
theorem e_129 : ckE 6000 gT s_129 (fun _ => 0) sp0 c_129 h_129 = true := by decide +kernel
theorem k_129 (hB : BytesOK) (g : bG) (l : Launch) : Keeps g l gT c_129 := keeps_of hB.1 hB.2 (nilK) e_129 nilK
/-- B.shelf ((('c', 0), ('u', 0), ('u', 0), ('u', 0)), ()) -/
def c_130 : aCt := (164, 2, some [(191, 0, 4), (192, 0, 4)], false, ([((-2147483648), 2147483647), ((-2147483648), 2147483647), ((-2147483648), 2147483647)], [], [], 212), [(2, (0, [])), (0, (0, [(0, 1)])), (0, (0, [(1, 1)])), (0, (0, [(2, 1)]))], [(([((-2147483648), 2147483647), ((-2147483648), 2147483647), ((-2147483648), 2147483647), ((-1), 1)], [], [], 212), some (0, (0, [(3, 1)])))])
def s_130 : List aCt := [c_129]
def h_130 : List (Nat × aS × Fm) := []
theorem e_130 : ckE 6000 gT s_130 (fun _ => 0) sp0 c_130 h_130 = true := by decide +kernel
theorem k_130 (hB : BytesOK) (g : bG) (l : Launch) : Keeps g l gT c_130 := keeps_of hB.1 hB.2 (List.forall_mem_cons.mpr ⟨k_129 hB g l, nilK⟩) e_130 nilK
/-- Pool.kindOfClaim ((('c', 1), ('u', 0)), ()) -/
def c_131 : aCt := (22, 2, some [], false, ([(0, 15)], [], [], 212), [(2, (1, [])), (0, (0, [(0, 1)]))], [(([(0, 15), (0, 3)], [], [], 212), some (0, (0, [(1, 1)])))])
def s_131 : List aCt := [c_17, c_22]
def h_131 : List (Nat × aS × Fm) := []
theorem e_131 : ckE 6000 gT s_131 (fun _ => 0) sp0 c_131 h_131 = true := by decide +kernel
theorem k_131 (hB : BytesOK) (g : bG) (l : Launch) : Keeps g l gT c_131 := keeps_of hB.1 hB.2 (List.forall_mem_cons.mpr ⟨k_17 hB g l, List.forall_mem_cons.mpr ⟨k_22 hB g l, nilK⟩⟩) e_131 nilK
/-- B.kindOn ((('c', 0), ('u', 0)), ()) -/
def c_132 : aCt := (180, 3, some [], false, ([(0, 3)], [], [], 212), [(2, (0, [])), (0, (0, [(0, 1)]))], [(([(0, 3), ((-1), 13)], [], [], 212), some (0, (0, [(1, 1)])))])
def sp_132 : aSp := fun k pc S => if pc = 0 ∧ k = 180 then spL 1 [0, 1, 2] S else none
def s_132 : List aCt := [c_131, c_129, c_48]
def h_132 : List (Nat × aS × Fm) := []
theorem e_132 : ckE 6000 gT s_132 (fun _ => 0) sp_132 c_132 h_132 = true := by decide +kernel
theorem k_132 (hB : BytesOK) (g : bG) (l : Launch) : Keeps g l gT c_132 := keeps_of hB.1 hB.2 (List.forall_mem_cons.mpr ⟨k_131 hB g l, List.forall_mem_cons.mpr ⟨k_129 hB g l, List.forall_mem_cons.mpr ⟨k_48 hB g l, nilK⟩⟩⟩) e_132 nilK
/-- Sheets.sizeOf ((('c', 181), ('u', 0)), ()) -/
def c_133 : aCt := (67, 1, some [], false, ([((-2147483648), 2147483647)], [], [], 212), [(2, (181, [])), (0, (0, [(0, 1)]))], [(([((-2147483648), 2147483647), (0, 40)], [], [], 212), some (0, (0, [(1, 1)])))])
def s_133 : List aCt := []
def h_133 : List (Nat × aS × Fm) := []
theorem e_133 : ckE 6000 gT s_133 (fun _ => 0) sp0 c_133 h_133 = true := by decide +kernel
theorem k_133 (hB : BytesOK) (g : bG) (l : Launch) : Keeps g l gT c_133 := keeps_of hB.1 hB.2 (nilK) e_133 nilK
/-- B.taken ((('c', 0), ('u', 0), ('u', 0)), ()) -/
def c_134 : aCt := (165, 4, some [], false, ([((-2147483648), 2147483647), ((-2147483648), 2147483647)], [], [], 212), [(2, (0, [])), (0, (0, [(0, 1)])), (0, (0, [(1, 1)]))], [(([((-2147483648), 2147483647), ((-2147483648), 2147483647), ((-2147483648), 2147483647)], [], [], 212), some (0, (0, [(2, 1)])))])
def s_134 : List aCt := [c_133, c_132]
def h_134 : List (Nat × aS × Fm) := []
theorem e_134 : ckE 6000 gT s_134 (fun _ => 0) sp0 c_134 h_134 = true := by decide +kernel
theorem k_134 (hB : BytesOK) (g : bG) (l : Launch) : Keeps g l gT c_134 := keeps_of hB.1 hB.2 (List.forall_mem_cons.mpr ⟨k_133 hB g l, List.forall_mem_cons.mpr ⟨k_132 hB g l, nilK⟩⟩) e_134 nilK
/-- B.amountOn ((('c', 0), ('u', 0)), ()) -/
def c_135 : aCt := (181, 2, some [], false, ([(0, 3)], [], [], 212), [(2, (0, [])), (0, (0, [(0, 1)]))], [(([(0, 3), ((-2147483648), 2147483647)], [], [], 212), some (0, (0, [(1, 1)])))])
def sp_135 : aSp := fun k pc S => if pc = 0 ∧ k = 181 then spL 1 [0, 1, 2] S else none
def s_135 : List aCt := []
def h_135 : List (Nat × aS × Fm) := []
theorem e_135 : ckE 6000 gT s_135 (fun _ => 0) sp_135 c_135 h_135 = true := by decide +kernel
theorem k_135 (hB : BytesOK) (g : bG) (l : Launch) : Keeps g l gT c_135 := keeps_of hB.1 hB.2 (nilK) e_135 nilK
/-- Acts.begin ((('c', 189), ('u', 0)), ()) -/
def c_136 : aCt := (5, 0, some [(189, 0, 1), (190, 0, 30)], false, ([(10, 99)], [], [], 212), [(2, (189, [])), (0, (0, [(0, 1)]))], [(([(10, 99)], [], [], 212), none)])
def s_136 : List aCt := []
def h_136 : List (Nat × aS × Fm) := []
theorem e_136 : ckE 6000 gT s_136 (fun _ => 0) sp0 c_136 h_136 = true := by decide +kernel
theorem k_136 (hB : BytesOK) (g : bG) (l : Launch) : Keeps g l gT c_136 := keeps_of hB.1 hB.2 (nilK) e_136 nilK
/-- Acts.isNeededKind ((('c', 189),), ()) -/
def c_137 : aCt := (6, 0, some [], false, ([], [], [], 212), [(2, (189, []))], [(([(0, 1)], [], [], 212), some (0, (0, [(0, 1)])))])
def s_137 : List aCt := []
def h_137 : List (Nat × aS × Fm) := []
theorem e_137 : ckE 6000 gT s_137 (fun _ => 0) sp0 c_137 h_137 = true := by decide +kernel
theorem k_137 (hB : BytesOK) (g : bG) (l : Launch) : Keeps g l gT c_137 := keeps_of hB.1 hB.2 (nilK) e_137 nilK
/-- Acts.reads ((('c', 189), ('u', 0)), ()) -/
def c_138 : aCt := (7, 1, some [(189, 0, 1), (190, 0, 30)], false, ([((-2147483648), 2147483647)], [], [], 212), [(2, (189, [])), (0, (0, [(0, 1)]))], [(([((-2147483648), 2147483647), ((-2147483648), 2147483647)], [], [], 212), some (0, (0, [(1, 1)])))])
def s_138 : List aCt := [c_136]
def h_138 : List (Nat × aS × Fm) := []
theorem e_138 : ckE 6000 gT s_138 (fun _ => 0) sp0 c_138 h_138 = true := by decide +kernel
theorem k_138 (hB : BytesOK) (g : bG) (l : Launch) : Keeps g l gT c_138 := keeps_of hB.1 hB.2 (List.forall_mem_cons.mpr ⟨k_136 hB g l, nilK⟩) e_138 nilK
/-- Acts.counts ((('c', 189), ('u', 0)), ()) -/
def c_139 : aCt := (8, 2, some [(189, 0, 1), (190, 0, 30)], false, ([((-2147483648), 2147483647)], [], [], 212), [(2, (189, [])), (0, (0, [(0, 1)]))], [(([((-2147483648), 2147483647), ((-2147483648), 2147483647)], [], [], 212), some (0, (0, [(1, 1)])))])
def s_139 : List aCt := [c_136, c_137, c_138]
def h_139 : List (Nat × aS × Fm) := []
theorem e_139 : ckE 6000 gT s_139 (fun _ => 0) sp0 c_139 h_139 = true := by decide +kernel
theorem k_139 (hB : BytesOK) (g : bG) (l : Launch) : Keeps g l gT c_139 := keeps_of hB.1 hB.2 (List.forall_mem_cons.mpr ⟨k_136 hB g l, List.forall_mem_cons.mpr ⟨k_137 hB g l, List.forall_mem_cons.mpr ⟨k_138 hB g l, nilK⟩⟩⟩) e_139 nilK
/-- Acts.pays ((('c', 189), ('u', 0)), ()) -/
def c_140 : aCt := (9, 1, some [(189, 0, 1), (189, 5, 6), (190, 0, 30)], false, ([((-2147483648), 2147483647)], [], [], 212), [(2, (189, [])), (0, (0, [(0, 1)]))], [(([((-2147483648), 2147483647), ((-2147483648), 2147483647)], [], [], 212), some (0, (0, [(1, 1)])))])
def sp_140 : aSp := fun k pc S => if pc = 43 ∧ k = 9 then spD [(-1), 0] S else none
def s_140 : List aCt := [c_136]
def h_140 : List (Nat × aS × Fm) := []
theorem e_140 : ckE 6000 gT s_140 (fun _ => 0) sp_140 c_140 h_140 = true := by decide +kernel
theorem k_140 (hB : BytesOK) (g : bG) (l : Launch) : Keeps g l gT c_140 := keeps_of hB.1 hB.2 (List.forall_mem_cons.mpr ⟨k_136 hB g l, nilK⟩) e_140 nilK
/-- Acts.ends ((('c', 189), ('u', 0)), ()) -/
def c_141 : aCt := (10, 3, some [(189, 0, 1), (189, 5, 6), (190, 0, 30)], false, ([((-2147483648), 2147483647)], [], [], 212), [(2, (189, [])), (0, (0, [(0, 1)]))], [(([((-2147483648), 2147483647), ((-2147483648), 2147483647)], [], [], 212), some (0, (0, [(1, 1)])))])
def s_141 : List aCt := [c_136, c_137, c_139, c_140]
def h_141 : List (Nat × aS × Fm) := []
theorem e_141 : ckE 6000 gT s_141 (fun _ => 0) sp0 c_141 h_141 = true := by decide +kernel
theorem k_141 (hB : BytesOK) (g : bG) (l : Launch) : Keeps g l gT c_141 := keeps_of hB.1 hB.2 (List.forall_mem_cons.mpr ⟨k_136 hB g l, List.forall_mem_cons.mpr ⟨k_137 hB g l, List.forall_mem_cons.mpr ⟨k_139 hB g l, List.forall_mem_cons.mpr ⟨k_140 hB g l, nilK⟩⟩⟩⟩) e_141 nilK
/-- Acts.run ((('c', 189), ('u', 0), ('u', 0), ('u', 0), ('u', 0), ('u', 0)), ()) -/
def c_142 : aCt := (4, 4, some [(189, 0, 1), (189, 2, 6), (190, 0, 30)], false, ([(0, 9), ((-2147483648), 2147483647), ((-2147483648), 2147483647), (0, 3), ((-2147483648), 2147483647)], [], [], 212), [(2, (189, [])), (0, (0, [(0, 1)])), (0, (0, [(1, 1)])), (0, (0, [(2, 1)])), (0, (0, [(3, 1)])), (0, (0, [(4, 1)]))], [(([(0, 9), ((-2147483648), 2147483647), ((-2147483648), 2147483647), (0, 3), ((-2147483648), 2147483647), ((-2147483648), 2147483647)], [], [], 212), some (0, (0, [(5, 1)])))])
def s_142 : List aCt := [c_138, c_139, c_140, c_141]
def h_142 : List (Nat × aS × Fm) := []
theorem e_142 : ckE 6000 gT s_142 (fun _ => 0) sp0 c_142 h_142 = true := by decide +kernel
theorem k_142 (hB : BytesOK) (g : bG) (l : Launch) : Keeps g l gT c_142 := keeps_of hB.1 hB.2 (List.forall_mem_cons.mpr ⟨k_138 hB g l, List.forall_mem_cons.mpr ⟨k_139 hB g l, List.forall_mem_cons.mpr ⟨k_140 hB g l, List.forall_mem_cons.mpr ⟨k_141 hB g l, nilK⟩⟩⟩⟩) e_142 nilK
/-- B.act ((('c', 0), ('u', 0), ('u', 0), ('u', 0)), ()) -/
def c_143 : aCt := (166, 5, some [(189, 0, 1), (189, 2, 6), (190, 0, 30)], false, ([((-2147483648), 2147483647), ((-2147483648), 2147483647), ((-2147483648), 2147483647)], [], [], 212), [(2, (0, [])), (0, (0, [(0, 1)])), (0, (0, [(1, 1)])), (0, (0, [(2, 1)]))], [(([((-2147483648), 2147483647), ((-2147483648), 2147483647), ((-2147483648), 2147483647), ((-2147483648), 2147483647)], [], [], 212), some (0, (0, [(3, 1)])))])
def s_143 : List aCt := [c_142, c_132, c_135]
def h_143 : List (Nat × aS × Fm) := []
theorem e_143 : ckE 6000 gT s_143 (fun _ => 0) sp0 c_143 h_143 = true := by decide +kernel
theorem k_143 (hB : BytesOK) (g : bG) (l : Launch) : Keeps g l gT c_143 := keeps_of hB.1 hB.2 (List.forall_mem_cons.mpr ⟨k_142 hB g l, List.forall_mem_cons.mpr ⟨k_132 hB g l, List.forall_mem_cons.mpr ⟨k_135 hB g l, nilK⟩⟩⟩) e_143 nilK
