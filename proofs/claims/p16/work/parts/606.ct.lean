/-- Acts.begin ((('c', 189), ('u', 0)), ()) -/
def c_128 : aCt := (5, 0, some [(189, 0, 1), (190, 0, 30)], false, ([(10, 99)], [], [], 212), [(2, (189, [])), (0, (0, [(0, 1)]))], [(([(10, 99)], [], [], 212), none)])
def s_128 : List aCt := []
def h_128 : List (Nat × aS × Fm) := []
theorem e_128 : ckE 6000 gT s_128 (fun _ => 0) sp0 c_128 h_128 = true := by decide +kernel
theorem k_128 (hB : BytesOK) (g : bG) (l : Launch) : Keeps g l gT c_128 := keeps_of hB.1 hB.2 (nilK) e_128 nilK
/-- Acts.isNeededKind ((('c', 189),), ()) -/
def c_129 : aCt := (6, 0, some [], false, ([], [], [], 212), [(2, (189, []))], [(([(0, 1)], [], [], 212), some (0, (0, [(0, 1)])))])
def s_129 : List aCt := []
def h_129 : List (Nat × aS × Fm) := []
theorem e_129 : ckE 6000 gT s_129 (fun _ => 0) sp0 c_129 h_129 = true := by decide +kernel
theorem k_129 (hB : BytesOK) (g : bG) (l : Launch) : Keeps g l gT c_129 := keeps_of hB.1 hB.2 (nilK) e_129 nilK
/-- Acts.reads ((('c', 189), ('u', 0)), ()) -/
def c_130 : aCt := (7, 1, some [(189, 0, 1), (190, 0, 30)], false, ([((-2147483648), 2147483647)], [], [], 212), [(2, (189, [])), (0, (0, [(0, 1)]))], [(([((-2147483648), 2147483647), ((-2147483648), 2147483647)], [], [], 212), some (0, (0, [(1, 1)])))])
def s_130 : List aCt := [c_128]
def h_130 : List (Nat × aS × Fm) := []
theorem e_130 : ckE 6000 gT s_130 (fun _ => 0) sp0 c_130 h_130 = true := by decide +kernel
theorem k_130 (hB : BytesOK) (g : bG) (l : Launch) : Keeps g l gT c_130 := keeps_of hB.1 hB.2 (List.forall_mem_cons.mpr ⟨k_128 hB g l, nilK⟩) e_130 nilK
/-- Acts.counts ((('c', 189), ('u', 0)), ()) -/
def c_131 : aCt := (8, 2, some [(189, 0, 1), (190, 0, 30)], false, ([((-2147483648), 2147483647)], [], [], 212), [(2, (189, [])), (0, (0, [(0, 1)]))], [(([((-2147483648), 2147483647), ((-2147483648), 2147483647)], [], [], 212), some (0, (0, [(1, 1)])))])
def s_131 : List aCt := [c_128, c_129, c_130]
def h_131 : List (Nat × aS × Fm) := []
theorem e_131 : ckE 6000 gT s_131 (fun _ => 0) sp0 c_131 h_131 = true := by decide +kernel
theorem k_131 (hB : BytesOK) (g : bG) (l : Launch) : Keeps g l gT c_131 := keeps_of hB.1 hB.2 (List.forall_mem_cons.mpr ⟨k_128 hB g l, List.forall_mem_cons.mpr ⟨k_129 hB g l, List.forall_mem_cons.mpr ⟨k_130 hB g l, nilK⟩⟩⟩) e_131 nilK
/-- Acts.pays ((('c', 189), ('u', 0)), ()) -/
def c_132 : aCt := (9, 1, some [(189, 0, 1), (189, 5, 6), (190, 0, 30)], false, ([((-2147483648), 2147483647)], [], [], 212), [(2, (189, [])), (0, (0, [(0, 1)]))], [(([((-2147483648), 2147483647), ((-2147483648), 2147483647)], [], [], 212), some (0, (0, [(1, 1)])))])
def sp_132 : aSp := fun k pc S => if pc = 43 ∧ k = 9 then spD [(-1), 0] S else none
def s_132 : List aCt := [c_128]
def h_132 : List (Nat × aS × Fm) := []
theorem e_132 : ckE 6000 gT s_132 (fun _ => 0) sp_132 c_132 h_132 = true := by decide +kernel
theorem k_132 (hB : BytesOK) (g : bG) (l : Launch) : Keeps g l gT c_132 := keeps_of hB.1 hB.2 (List.forall_mem_cons.mpr ⟨k_128 hB g l, nilK⟩) e_132 nilK
/-- Acts.ends ((('c', 189), ('u', 0)), ()) -/
def c_133 : aCt := (10, 3, some [(189, 0, 1), (189, 5, 6), (190, 0, 30)], false, ([((-2147483648), 2147483647)], [], [], 212), [(2, (189, [])), (0, (0, [(0, 1)]))], [(([((-2147483648), 2147483647), ((-2147483648), 2147483647)], [], [], 212), some (0, (0, [(1, 1)])))])
def s_133 : List aCt := [c_128, c_129, c_131, c_132]
def h_133 : List (Nat × aS × Fm) := []
theorem e_133 : ckE 6000 gT s_133 (fun _ => 0) sp0 c_133 h_133 = true := by decide +kernel
theorem k_133 (hB : BytesOK) (g : bG) (l : Launch) : Keeps g l gT c_133 := keeps_of hB.1 hB.2 (List.forall_mem_cons.mpr ⟨k_128 hB g l, List.forall_mem_cons.mpr ⟨k_129 hB g l, List.forall_mem_cons.mpr ⟨k_131 hB g l, List.forall_mem_cons.mpr ⟨k_132 hB g l, nilK⟩⟩⟩⟩) e_133 nilK
/-- Acts.run ((('c', 189), ('u', 0), ('u', 0), ('u', 0), ('u', 0), ('u', 0)), ()) -/
def c_134 : aCt := (4, 4, some [(189, 0, 1), (189, 2, 6), (190, 0, 30)], false, ([(0, 9), ((-2147483648), 2147483647), ((-2147483648), 2147483647), (0, 3), ((-2147483648), 2147483647)], [], [], 212), [(2, (189, [])), (0, (0, [(0, 1)])), (0, (0, [(1, 1)])), (0, (0, [(2, 1)])), (0, (0, [(3, 1)])), (0, (0, [(4, 1)]))], [(([(0, 9), ((-2147483648), 2147483647), ((-2147483648), 2147483647), (0, 3), ((-2147483648), 2147483647), ((-2147483648), 2147483647)], [], [], 212), some (0, (0, [(5, 1)])))])
def s_134 : List aCt := [c_130, c_131, c_132, c_133]
def h_134 : List (Nat × aS × Fm) := []
theorem e_134 : ckE 6000 gT s_134 (fun _ => 0) sp0 c_134 h_134 = true := by decide +kernel
theorem k_134 (hB : BytesOK) (g : bG) (l : Launch) : Keeps g l gT c_134 := keeps_of hB.1 hB.2 (List.forall_mem_cons.mpr ⟨k_130 hB g l, List.forall_mem_cons.mpr ⟨k_131 hB g l, List.forall_mem_cons.mpr ⟨k_132 hB g l, List.forall_mem_cons.mpr ⟨k_133 hB g l, nilK⟩⟩⟩⟩) e_134 nilK
/-- B.act ((('c', 0), ('u', 0), ('u', 0), ('u', 0)), ()) -/
def c_135 : aCt := (166, 5, some [(189, 0, 1), (189, 2, 6), (190, 0, 30)], false, ([((-2147483648), 2147483647), ((-2147483648), 2147483647), ((-2147483648), 2147483647)], [], [], 212), [(2, (0, [])), (0, (0, [(0, 1)])), (0, (0, [(1, 1)])), (0, (0, [(2, 1)]))], [(([((-2147483648), 2147483647), ((-2147483648), 2147483647), ((-2147483648), 2147483647), ((-2147483648), 2147483647)], [], [], 212), some (0, (0, [(3, 1)])))])
def s_135 : List aCt := [c_134, c_124, c_127]
def h_135 : List (Nat × aS × Fm) := []
theorem e_135 : ckE 6000 gT s_135 (fun _ => 0) sp0 c_135 h_135 = true := by decide +kernel
theorem k_135 (hB : BytesOK) (g : bG) (l : Launch) : Keeps g l gT c_135 := keeps_of hB.1 hB.2 (List.forall_mem_cons.mpr ⟨k_134 hB g l, List.forall_mem_cons.mpr ⟨k_124 hB g l, List.forall_mem_cons.mpr ⟨k_127 hB g l, nilK⟩⟩⟩) e_135 nilK
/-- B.trace ((('c', 0), ('u', 0)), ()) -/
def c_136 : aCt := (167, 1, some [], false, ([((-2147483648), 2147483647)], [], [], 212), [(2, (0, [])), (0, (0, [(0, 1)]))], [(([((-2147483648), 2147483647), ((-3), 99)], [], [], 212), some (0, (0, [(1, 1)])))])
def s_136 : List aCt := []
def h_136 : List (Nat × aS × Fm) := []
theorem e_136 : ckE 6000 gT s_136 (fun _ => 0) sp0 c_136 h_136 = true := by decide +kernel
theorem k_136 (hB : BytesOK) (g : bG) (l : Launch) : Keeps g l gT c_136 := keeps_of hB.1 hB.2 (nilK) e_136 nilK
/-- Needs.machines ((('c', 14),), ()) -/
def c_137 : aCt := (14, 0, some [], false, ([], [], [], 212), [(2, (14, []))], [(([((-2147483648), 2147483647)], [], [], 212), some (0, (0, [(0, 1)])))])
def s_137 : List aCt := []
def h_137_0 : Nat × aS × Fm := (4, ([(0, (2, (14, []))), (1, (0, (0, [(0, 1)]))), (2, (0, (0, [(1, 1)])))], [], ([((-2147483648), 2147483647), (0, 6)], [], [], 212)), (13, [(1, (-2))]))
def h_137 : List (Nat × aS × Fm) := [h_137_0]
theorem e_137 : ckE 6000 gT s_137 (fun _ => 0) sp0 c_137 h_137 = true := by decide +kernel
theorem g_137_0 : ([h_137_0].all fun H => ckH 6000 gT s_137 (fun _ => 0) sp0 c_137 h_137 H) = true := by decide +kernel
theorem k_137 (hB : BytesOK) (g : bG) (l : Launch) : Keeps g l gT c_137 := keeps_of hB.1 hB.2 (nilK) e_137 (List.all_eq_true.mp g_137_0)
/-- Pool.neededClaims ((('c', 1),), ()) -/
def c_138 : aCt := (21, 2, some [], false, ([], [], [], 212), [(2, (1, []))], [(([((-2147483648), 2147483647)], [], [], 212), some (0, (0, [(0, 1)])))])
def s_138 : List aCt := [c_16]
def h_138_0 : Nat × aS × Fm := (4, ([(0, (2, (1, []))), (1, (0, (0, [(1, 1)]))), (2, (0, (0, [(0, 1)])))], [], ([(0, 16), ((-2147483648), 2147483647)], [], [], 212)), (33, [(0, (-2))]))
def h_138 : List (Nat × aS × Fm) := [h_138_0]
theorem e_138 : ckE 6000 gT s_138 (fun _ => 0) sp0 c_138 h_138 = true := by decide +kernel
theorem g_138_0 : ([h_138_0].all fun H => ckH 6000 gT s_138 (fun _ => 0) sp0 c_138 h_138 H) = true := by decide +kernel
theorem k_138 (hB : BytesOK) (g : bG) (l : Launch) : Keeps g l gT c_138 := keeps_of hB.1 hB.2 (List.forall_mem_cons.mpr ⟨k_16 hB g l, nilK⟩) e_138 (List.all_eq_true.mp g_138_0)
/-- B.many ((('c', 0), ('u', 0)), ()) -/
def c_139 : aCt := (168, 3, some [], false, ([((-2147483648), 2147483647)], [], [], 212), [(2, (0, [])), (0, (0, [(0, 1)]))], [(([((-2147483648), 2147483647), ((-2147483648), 2147483647)], [], [], 212), some (0, (0, [(1, 1)])))])
def s_139 : List aCt := [c_137, c_138]
def h_139 : List (Nat × aS × Fm) := []
theorem e_139 : ckE 6000 gT s_139 (fun _ => 0) sp0 c_139 h_139 = true := by decide +kernel
theorem k_139 (hB : BytesOK) (g : bG) (l : Launch) : Keeps g l gT c_139 := keeps_of hB.1 hB.2 (List.forall_mem_cons.mpr ⟨k_137 hB g l, List.forall_mem_cons.mpr ⟨k_138 hB g l, nilK⟩⟩) e_139 nilK
/-- Terms.become ((('c', 127), ('c', 43)), ()) -/
def c_140 : aCt := (105, 2, some [(127, 0, 2), (127, 4, 6), (127, 8, 9), (127, 10, 12), (128, 0, 9), (129, 0, 9), (130, 0, 4), (131, 0, 3), (132, 0, 4), (133, 0, 220)], false, ([], [], [], 212), [(2, (127, [])), (2, (43, []))], [(([], [], [], 212), none)])
def s_140 : List aCt := []
def h_140 : List (Nat × aS × Fm) := []
theorem e_140 : ckE 6000 gT s_140 (fun _ => 0) sp0 c_140 h_140 = true := by decide +kernel
theorem k_140 (hB : BytesOK) (g : bG) (l : Launch) : Keeps g l gT c_140 := keeps_of hB.1 hB.2 (nilK) e_140 nilK
/-- Terms.become ((('c', 134), ('c', 50)), ()) -/
def c_141 : aCt := (105, 2, some [(134, 0, 2), (134, 4, 6), (134, 8, 9), (134, 10, 12), (135, 0, 9), (136, 0, 9), (137, 0, 4), (138, 0, 3), (139, 0, 4), (140, 0, 220)], false, ([], [], [], 212), [(2, (134, [])), (2, (50, []))], [(([], [], [], 212), none)])
def s_141 : List aCt := []
def h_141 : List (Nat × aS × Fm) := []
theorem e_141 : ckE 6000 gT s_141 (fun _ => 0) sp0 c_141 h_141 = true := by decide +kernel
theorem k_141 (hB : BytesOK) (g : bG) (l : Launch) : Keeps g l gT c_141 := keeps_of hB.1 hB.2 (nilK) e_141 nilK
/-- Terms.become ((('c', 141), ('c', 57)), ()) -/
def c_142 : aCt := (105, 2, some [(141, 0, 2), (141, 4, 6), (141, 8, 9), (141, 10, 12), (142, 0, 9), (143, 0, 9), (144, 0, 4), (145, 0, 3), (146, 0, 4), (147, 0, 220)], false, ([], [], [], 212), [(2, (141, [])), (2, (57, []))], [(([], [], [], 212), none)])
def s_142 : List aCt := []
def h_142 : List (Nat × aS × Fm) := []
theorem e_142 : ckE 6000 gT s_142 (fun _ => 0) sp0 c_142 h_142 = true := by decide +kernel
theorem k_142 (hB : BytesOK) (g : bG) (l : Launch) : Keeps g l gT c_142 := keeps_of hB.1 hB.2 (nilK) e_142 nilK
/-- Terms.become ((('c', 148), ('c', 64)), ()) -/
def c_143 : aCt := (105, 2, some [(148, 0, 2), (148, 4, 6), (148, 8, 9), (148, 10, 12), (149, 0, 9), (150, 0, 9), (151, 0, 4), (152, 0, 3), (153, 0, 4), (154, 0, 220)], false, ([], [], [], 212), [(2, (148, [])), (2, (64, []))], [(([], [], [], 212), none)])
def s_143 : List aCt := []
def h_143 : List (Nat × aS × Fm) := []
theorem e_143 : ckE 6000 gT s_143 (fun _ => 0) sp0 c_143 h_143 = true := by decide +kernel
theorem k_143 (hB : BytesOK) (g : bG) (l : Launch) : Keeps g l gT c_143 := keeps_of hB.1 hB.2 (nilK) e_143 nilK
/-- Terms.become ((('c', 155), ('c', 71)), ()) -/
def c_144 : aCt := (105, 2, some [(155, 0, 2), (155, 4, 6), (155, 8, 9), (155, 10, 12), (156, 0, 9), (157, 0, 9), (158, 0, 4), (159, 0, 3), (160, 0, 4), (161, 0, 220)], false, ([], [], [], 212), [(2, (155, [])), (2, (71, []))], [(([], [], [], 212), none)])
def s_144 : List aCt := []
def h_144 : List (Nat × aS × Fm) := []
theorem e_144 : ckE 6000 gT s_144 (fun _ => 0) sp0 c_144 h_144 = true := by decide +kernel
theorem k_144 (hB : BytesOK) (g : bG) (l : Launch) : Keeps g l gT c_144 := keeps_of hB.1 hB.2 (nilK) e_144 nilK
/-- Terms.become ((('c', 162), ('c', 78)), ()) -/
def c_145 : aCt := (105, 2, some [(162, 0, 2), (162, 4, 6), (162, 8, 9), (162, 10, 12), (163, 0, 9), (164, 0, 9), (165, 0, 4), (166, 0, 3), (167, 0, 4), (168, 0, 220)], false, ([], [], [], 212), [(2, (162, [])), (2, (78, []))], [(([], [], [], 212), none)])
def s_145 : List aCt := []
def h_145 : List (Nat × aS × Fm) := []
theorem e_145 : ckE 6000 gT s_145 (fun _ => 0) sp0 c_145 h_145 = true := by decide +kernel
theorem k_145 (hB : BytesOK) (g : bG) (l : Launch) : Keeps g l gT c_145 := keeps_of hB.1 hB.2 (nilK) e_145 nilK
/-- Terms.become ((('c', 43), ('c', 127)), ()) -/
def c_146 : aCt := (105, 2, some [(43, 0, 2), (43, 4, 6), (43, 8, 9), (43, 10, 12), (44, 0, 9), (45, 0, 9), (46, 0, 4), (47, 0, 3), (48, 0, 4), (49, 0, 220)], false, ([], [], [], 212), [(2, (43, [])), (2, (127, []))], [(([], [], [], 212), none)])
def s_146 : List aCt := []
def h_146 : List (Nat × aS × Fm) := []
theorem e_146 : ckE 6000 gT s_146 (fun _ => 0) sp0 c_146 h_146 = true := by decide +kernel
theorem k_146 (hB : BytesOK) (g : bG) (l : Launch) : Keeps g l gT c_146 := keeps_of hB.1 hB.2 (nilK) e_146 nilK
