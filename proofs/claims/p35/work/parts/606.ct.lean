/-- B.owe ((('c', 0), ('u', 0), ('u', 0), ('u', 0)), ()) -/
def c_125 : aCt := (142, 4, some [], false, ([((-2147483648), 2147483647), ((-2147483648), 2147483647), ((-2147483648), 2147483647)], [], [], 212), [(2, (0, [])), (0, (0, [(0, 1)])), (0, (0, [(1, 1)])), (0, (0, [(2, 1)]))], [(([((-2147483648), 2147483647), ((-2147483648), 2147483647), ((-2147483648), 2147483647), ((-2147483648), 2147483647)], [], [], 212), some (0, (0, [(3, 1)])))])
def s_125 : List aCt := [c_124]
def h_125 : List (Nat × aS × Fm) := []
theorem e_125 : ckE 6000 gT s_125 (fun _ => 0) sp0 c_125 h_125 = true := by decide +kernel
theorem k_125 (hB : BytesOK) (g : bG) (l : Launch) : Keeps g l gT c_125 := keeps_of hB.1 hB.2 (List.forall_mem_cons.mpr ⟨k_124 hB g l, nilK⟩) e_125 nilK
/-- Trade.addPayment ((('c', 17), ('u', 0), ('u', 0), ('u', 0)), ()) -/
def c_126 : aCt := (115, 1, some [(17, 10, 11), (25, 0, 16), (26, 0, 16), (27, 0, 16)], false, ([((-2147483648), 2147483647), ((-2147483648), 2147483647), ((-2147483648), 2147483647)], [], [], 212), [(2, (17, [])), (0, (0, [(0, 1)])), (0, (0, [(1, 1)])), (0, (0, [(2, 1)]))], [(([((-2147483648), 2147483647), ((-2147483648), 2147483647), ((-2147483648), 2147483647), ((-2), 16)], [], [], 212), some (0, (0, [(3, 1)])))])
def s_126 : List aCt := []
def h_126 : List (Nat × aS × Fm) := []
theorem e_126 : ckE 6000 gT s_126 (fun _ => 0) sp0 c_126 h_126 = true := by decide +kernel
theorem k_126 (hB : BytesOK) (g : bG) (l : Launch) : Keeps g l gT c_126 := keeps_of hB.1 hB.2 (nilK) e_126 nilK
/-- B.paid ((('c', 0), ('u', 0), ('u', 0), ('u', 0)), ()) -/
def c_127 : aCt := (143, 2, some [(17, 10, 11), (25, 0, 16), (26, 0, 16), (27, 0, 16)], false, ([((-2147483648), 2147483647), ((-2147483648), 2147483647), ((-2147483648), 2147483647)], [], [], 212), [(2, (0, [])), (0, (0, [(0, 1)])), (0, (0, [(1, 1)])), (0, (0, [(2, 1)]))], [(([((-2147483648), 2147483647), ((-2147483648), 2147483647), ((-2147483648), 2147483647), ((-2), 16)], [], [], 212), some (0, (0, [(3, 1)])))])
def s_127 : List aCt := [c_126]
def h_127 : List (Nat × aS × Fm) := []
theorem e_127 : ckE 6000 gT s_127 (fun _ => 0) sp0 c_127 h_127 = true := by decide +kernel
theorem k_127 (hB : BytesOK) (g : bG) (l : Launch) : Keeps g l gT c_127 := keeps_of hB.1 hB.2 (List.forall_mem_cons.mpr ⟨k_126 hB g l, nilK⟩) e_127 nilK
/-- Trade.paidFor ((('c', 17), ('u', 0), ('u', 0)), ()) -/
def c_128 : aCt := (116, 0, some [], false, ([(0, 5), (0, 238)], [], [], 212), [(2, (17, [])), (0, (0, [(0, 1)])), (0, (0, [(1, 1)]))], [(([(0, 5), (0, 238), ((-2147483648), 2147483647)], [], [], 212), some (0, (0, [(2, 1)])))])
def s_128 : List aCt := []
def h_128_0 : Nat × aS × Fm := (5, ([(0, (2, (17, []))), (1, (0, (0, [(0, 1)]))), (2, (0, (0, [(1, 1)]))), (3, (0, (0, [(3, 1)]))), (4, (0, (0, [(2, 1)])))], [], ([(0, 5), (0, 238), (0, 16), ((-2147483648), 2147483647)], [], [], 212)), (33, [(2, (-2))]))
def h_128 : List (Nat × aS × Fm) := [h_128_0]
theorem e_128 : ckE 6000 gT s_128 (fun _ => 0) sp0 c_128 h_128 = true := by decide +kernel
theorem g_128_0 : ([h_128_0].all fun H => ckH 6000 gT s_128 (fun _ => 0) sp0 c_128 h_128 H) = true := by decide +kernel
theorem k_128 (hB : BytesOK) (g : bG) (l : Launch) : Keeps g l gT c_128 := keeps_of hB.1 hB.2 (nilK) e_128 (List.all_eq_true.mp g_128_0)
/-- Pool.backSum ((('c', 1), ('u', 0), ('u', 0)), ()) -/
def c_129 : aCt := (30, 4, some [], false, ([(0, 5), (0, 239)], [], [], 212), [(2, (1, [])), (0, (0, [(0, 1)])), (0, (0, [(1, 1)]))], [(([(0, 5), (0, 239), ((-9223372036854775808), 2000000000)], [], [], 212), some (1, (0, [(2, 1)])))])
def s_129 : List aCt := [c_122, c_124, c_128]
def h_129_0 : Nat × aS × Fm := (5, ([(0, (2, (1, []))), (1, (0, (0, [(0, 1)]))), (2, (0, (0, [(1, 1)]))), (3, (1, (0, [(3, 1)]))), (5, (0, (0, [(2, 1)])))], [], ([(0, 5), (0, 239), (0, 239), ((-9223372036854775808), 9223372036854775807)], [], [], 212)), (479, [(2, (-2))]))
def h_129 : List (Nat × aS × Fm) := [h_129_0]
theorem e_129 : ckE 6000 gT s_129 (fun _ => 0) sp0 c_129 h_129 = true := by decide +kernel
theorem g_129_0 : ([h_129_0].all fun H => ckH 6000 gT s_129 (fun _ => 0) sp0 c_129 h_129 H) = true := by decide +kernel
theorem k_129 (hB : BytesOK) (g : bG) (l : Launch) : Keeps g l gT c_129 := keeps_of hB.1 hB.2 (List.forall_mem_cons.mpr ⟨k_122 hB g l, List.forall_mem_cons.mpr ⟨k_124 hB g l, List.forall_mem_cons.mpr ⟨k_128 hB g l, nilK⟩⟩⟩) e_129 (List.all_eq_true.mp g_129_0)
/-- B.back ((('c', 0), ('u', 0), ('u', 0)), ()) -/
def c_130 : aCt := (144, 5, some [], false, ([((-2147483648), 2147483647), ((-2147483648), 2147483647)], [], [], 212), [(2, (0, [])), (0, (0, [(0, 1)])), (0, (0, [(1, 1)]))], [(([((-2147483648), 2147483647), ((-2147483648), 2147483647), ((-2147483648), 2147483647)], [], [], 212), some (0, (0, [(2, 1)])))])
def s_130 : List aCt := [c_129]
def h_130 : List (Nat × aS × Fm) := []
theorem e_130 : ckE 6000 gT s_130 (fun _ => 0) sp0 c_130 h_130 = true := by decide +kernel
theorem k_130 (hB : BytesOK) (g : bG) (l : Launch) : Keeps g l gT c_130 := keeps_of hB.1 hB.2 (List.forall_mem_cons.mpr ⟨k_129 hB g l, nilK⟩) e_130 nilK
/-- Trade.addDraw ((('c', 17), ('u', 0), ('u', 0), ('u', 0)), ()) -/
def c_131 : aCt := (117, 1, some [(17, 14, 15), (28, 0, 12), (29, 0, 12)], false, ([((-2147483648), 2147483647), ((-2147483648), 2147483647), ((-2147483648), 2147483647)], [], [], 212), [(2, (17, [])), (0, (0, [(0, 1)])), (0, (0, [(1, 1)])), (0, (0, [(2, 1)]))], [(([((-2147483648), 2147483647), ((-2147483648), 2147483647), ((-2147483648), 2147483647), ((-2), 11)], [], [], 212), some (0, (0, [(3, 1)])))])
def s_131 : List aCt := []
def h_131 : List (Nat × aS × Fm) := []
theorem e_131 : ckE 6000 gT s_131 (fun _ => 0) sp0 c_131 h_131 = true := by decide +kernel
theorem k_131 (hB : BytesOK) (g : bG) (l : Launch) : Keeps g l gT c_131 := keeps_of hB.1 hB.2 (nilK) e_131 nilK
/-- B.drawn ((('c', 0), ('u', 0), ('u', 0), ('u', 0)), ()) -/
def c_132 : aCt := (145, 2, some [(17, 14, 15), (28, 0, 12), (29, 0, 12)], false, ([((-2147483648), 2147483647), ((-2147483648), 2147483647), ((-2147483648), 2147483647)], [], [], 212), [(2, (0, [])), (0, (0, [(0, 1)])), (0, (0, [(1, 1)])), (0, (0, [(2, 1)]))], [(([((-2147483648), 2147483647), ((-2147483648), 2147483647), ((-2147483648), 2147483647), ((-2), 11)], [], [], 212), some (0, (0, [(3, 1)])))])
def s_132 : List aCt := [c_131]
def h_132 : List (Nat × aS × Fm) := []
theorem e_132 : ckE 6000 gT s_132 (fun _ => 0) sp0 c_132 h_132 = true := by decide +kernel
theorem k_132 (hB : BytesOK) (g : bG) (l : Launch) : Keeps g l gT c_132 := keeps_of hB.1 hB.2 (List.forall_mem_cons.mpr ⟨k_131 hB g l, nilK⟩) e_132 nilK
/-- Trade.isFirstDraw ((('c', 17), ('u', 0)), ()) -/
def c_133 : aCt := (119, 0, some [], false, ([(0, 11)], [], [], 212), [(2, (17, [])), (0, (0, [(0, 1)]))], [(([(0, 11), (0, 1)], [], [], 212), some (0, (0, [(1, 1)])))])
def s_133 : List aCt := []
def h_133_0 : Nat × aS × Fm := (2, ([(0, (2, (17, []))), (1, (0, (0, [(0, 1)]))), (2, (0, (0, [(1, 1)])))], [], ([(0, 11), (0, 11)], [], [], 212)), (23, [(1, (-2))]))
def h_133 : List (Nat × aS × Fm) := [h_133_0]
theorem e_133 : ckE 6000 gT s_133 (fun _ => 0) sp0 c_133 h_133 = true := by decide +kernel
theorem g_133_0 : ([h_133_0].all fun H => ckH 6000 gT s_133 (fun _ => 0) sp0 c_133 h_133 H) = true := by decide +kernel
theorem k_133 (hB : BytesOK) (g : bG) (l : Launch) : Keeps g l gT c_133 := keeps_of hB.1 hB.2 (nilK) e_133 (List.all_eq_true.mp g_133_0)
/-- Trade.greatestFrom ((('c', 17), ('u', 0)), ()) -/
def c_134 : aCt := (120, 1, some [], false, ([(0, 2147483647)], [], [], 212), [(2, (17, [])), (0, (0, [(0, 1)]))], [(([(0, 2147483647), (0, 9999)], [], [], 212), some (0, (0, [(1, 1)])))])
def s_134 : List aCt := []
def h_134_0 : Nat × aS × Fm := (4, ([(0, (2, (17, []))), (1, (0, (0, [(0, 1)]))), (2, (0, (0, [(2, 1)]))), (3, (0, (0, [(1, 1)])))], [], ([(0, 2147483647), (0, 12), (0, 9999)], [], [], 212)), (25, [(1, (-2))]))
def h_134 : List (Nat × aS × Fm) := [h_134_0]
theorem e_134 : ckE 6000 gT s_134 (fun _ => 0) sp0 c_134 h_134 = true := by decide +kernel
theorem g_134_0 : ([h_134_0].all fun H => ckH 6000 gT s_134 (fun _ => 0) sp0 c_134 h_134 H) = true := by decide +kernel
theorem k_134 (hB : BytesOK) (g : bG) (l : Launch) : Keeps g l gT c_134 := keeps_of hB.1 hB.2 (nilK) e_134 (List.all_eq_true.mp g_134_0)
/-- Trade.belowDrawn ((('c', 17), ('u', 0), ('u', 0)), ()) -/
def c_135 : aCt := (118, 2, some [], false, ([(0, 5), (0, 239)], [], [], 212), [(2, (17, [])), (0, (0, [(0, 1)])), (0, (0, [(1, 1)]))], [(([(0, 5), (0, 239), ((-2147483648), 2147483647)], [], [], 212), some (0, (0, [(2, 1)])))])
def s_135 : List aCt := [c_97, c_133, c_134]
def h_135_0 : Nat × aS × Fm := (5, ([(0, (2, (17, []))), (1, (0, (0, [(0, 1)]))), (2, (0, (0, [(1, 1)]))), (3, (0, (0, [(3, 1)]))), (4, (0, (0, [(2, 1)])))], [], ([(0, 5), (0, 239), (0, 12), ((-2147483648), 2147483647)], [], [], 212)), (25, [(2, (-2))]))
def h_135 : List (Nat × aS × Fm) := [h_135_0]
theorem e_135 : ckE 6000 gT s_135 (fun _ => 0) sp0 c_135 h_135 = true := by decide +kernel
theorem g_135_0 : ([h_135_0].all fun H => ckH 6000 gT s_135 (fun _ => 0) sp0 c_135 h_135 H) = true := by decide +kernel
theorem k_135 (hB : BytesOK) (g : bG) (l : Launch) : Keeps g l gT c_135 := keeps_of hB.1 hB.2 (List.forall_mem_cons.mpr ⟨k_97 hB g l, List.forall_mem_cons.mpr ⟨k_133 hB g l, List.forall_mem_cons.mpr ⟨k_134 hB g l, nilK⟩⟩⟩) e_135 (List.all_eq_true.mp g_135_0)
/-- B.under ((('c', 0), ('u', 0), ('u', 0)), ()) -/
def c_136 : aCt := (146, 3, some [], false, ([((-2147483648), 2147483647), ((-2147483648), 2147483647)], [], [], 212), [(2, (0, [])), (0, (0, [(0, 1)])), (0, (0, [(1, 1)]))], [(([((-2147483648), 2147483647), ((-2147483648), 2147483647), ((-2147483648), 2147483647)], [], [], 212), some (0, (0, [(2, 1)])))])
def s_136 : List aCt := [c_135]
def h_136 : List (Nat × aS × Fm) := []
theorem e_136 : ckE 6000 gT s_136 (fun _ => 0) sp0 c_136 h_136 = true := by decide +kernel
theorem k_136 (hB : BytesOK) (g : bG) (l : Launch) : Keeps g l gT c_136 := keeps_of hB.1 hB.2 (List.forall_mem_cons.mpr ⟨k_135 hB g l, nilK⟩) e_136 nilK
/-- Pool.monthSum ((('c', 1), ('u', 0), ('u', 0)), ()) -/
def c_137 : aCt := (31, 4, some [], false, ([(0, 239), (0, 239)], [], [], 212), [(2, (1, [])), (0, (0, [(0, 1)])), (0, (0, [(1, 1)]))], [(([(0, 239), (0, 239), ((-9223372036854775808), 9223372036854775807)], [], [], 212), some (1, (0, [(2, 1)])))])
def s_137 : List aCt := [c_124]
def h_137_0 : Nat × aS × Fm := (5, ([(0, (2, (1, []))), (1, (0, (0, [(0, 1)]))), (2, (0, (0, [(1, 1)]))), (3, (1, (0, [(3, 1)]))), (5, (0, (0, [(2, 1)])))], [], ([(0, 239), (0, 239), (0, 6), ((-9223372036854775808), 9223372036854775807)], [], [], 212)), (13, [(2, (-2))]))
def h_137 : List (Nat × aS × Fm) := [h_137_0]
theorem e_137 : ckE 6000 gT s_137 (fun _ => 0) sp0 c_137 h_137 = true := by decide +kernel
theorem g_137_0 : ([h_137_0].all fun H => ckH 6000 gT s_137 (fun _ => 0) sp0 c_137 h_137 H) = true := by decide +kernel
theorem k_137 (hB : BytesOK) (g : bG) (l : Launch) : Keeps g l gT c_137 := keeps_of hB.1 hB.2 (List.forall_mem_cons.mpr ⟨k_124 hB g l, nilK⟩) e_137 (List.all_eq_true.mp g_137_0)
/-- B.sum ((('c', 0), ('u', 0), ('u', 0)), ()) -/
def c_138 : aCt := (147, 5, some [], false, ([((-2147483648), 2147483647), ((-2147483648), 2147483647)], [], [], 212), [(2, (0, [])), (0, (0, [(0, 1)])), (0, (0, [(1, 1)]))], [(([((-2147483648), 2147483647), ((-2147483648), 2147483647), ((-2147483648), 2147483647)], [], [], 212), some (0, (0, [(2, 1)])))])
def s_138 : List aCt := [c_137]
def h_138 : List (Nat × aS × Fm) := []
theorem e_138 : ckE 6000 gT s_138 (fun _ => 0) sp0 c_138 h_138 = true := by decide +kernel
theorem k_138 (hB : BytesOK) (g : bG) (l : Launch) : Keeps g l gT c_138 := keeps_of hB.1 hB.2 (List.forall_mem_cons.mpr ⟨k_137 hB g l, nilK⟩) e_138 nilK
/-- java/lang/Integer.bitCount ((('u', 0),), ()) -/
def c_139 : aCt := (297, 0, some [], false, ([((-2147483648), 2147483647)], [], [], 212), [(0, (0, [(0, 1)]))], [(([((-2147483648), 2147483647), (0, 63)], [], [], 212), some (0, (0, [(1, 1)])))])
def s_139 : List aCt := []
def h_139 : List (Nat × aS × Fm) := []
theorem e_139 : ckE 6000 gT s_139 (fun _ => 0) sp0 c_139 h_139 = true := by decide +kernel
theorem k_139 (hB : BytesOK) (g : bG) (l : Launch) : Keeps g l gT c_139 := keeps_of hB.1 hB.2 (nilK) e_139 nilK
/-- Pool.weightOf ((('c', 1), ('u', 0), ('u', 0), ('u', 0), ('u', 0)), ()) -/
def c_140 : aCt := (32, 2, some [], false, ([(0, 7), (0, 239), (0, 239), ((-1), 2)], [], [], 212), [(2, (1, [])), (0, (0, [(0, 1)])), (0, (0, [(1, 1)])), (0, (0, [(2, 1)])), (0, (0, [(3, 1)]))], [(([(0, 7), (0, 239), (0, 239), ((-1), 2), (0, 207)], [], [], 212), some (0, (0, [(4, 1)])))])
def sp_140 : aSp := fun k pc S => if pc = 21 ∧ k = 32 then spL 7 [] S else none
def s_140 : List aCt := [c_17, c_6, c_139]
def h_140_0 : Nat × aS × Fm := (9, ([(0, (2, (1, []))), (1, (0, (0, [(0, 1)]))), (2, (0, (0, [(1, 1)]))), (3, (0, (0, [(2, 1)]))), (4, (0, (0, [(3, 1)]))), (5, (0, (0, [(5, 1)]))), (6, (0, (0, [(6, 1)]))), (7, (0, (0, [(4, 1)])))], [], ([(0, 7), (0, 239), (0, 239), ((-1), 2), (0, 16), (0, 144), ((-2147483648), 2147483647)], [(0, [(4, (-9)), (5, 1)])], [], 212)), (33, [(4, (-2))]))
def h_140 : List (Nat × aS × Fm) := [h_140_0]
theorem e_140 : ckE 6000 gT s_140 (fun _ => 0) sp_140 c_140 h_140 = true := by decide +kernel
theorem g_140_0 : ([h_140_0].all fun H => ckH 6000 gT s_140 (fun _ => 0) sp_140 c_140 h_140 H) = true := by decide +kernel
theorem k_140 (hB : BytesOK) (g : bG) (l : Launch) : Keeps g l gT c_140 := keeps_of hB.1 hB.2 (List.forall_mem_cons.mpr ⟨k_17 hB g l, List.forall_mem_cons.mpr ⟨k_6 hB g l, List.forall_mem_cons.mpr ⟨k_139 hB g l, nilK⟩⟩⟩) e_140 (List.all_eq_true.mp g_140_0)
/-- Pool.weigh ((('c', 1), ('u', 0), ('u', 0)), ()) -/
def c_141 : aCt := (33, 3, some [(1, 8, 9), (42, 0, 8)], false, ([(0, 239), (0, 239)], [], [], 212), [(2, (1, [])), (0, (0, [(0, 1)])), (0, (0, [(1, 1)]))], [(([(0, 239), (0, 239)], [], [], 212), none)])
def sp_141 : aSp := fun k pc S => if pc = 24 ∧ k = 33 then spL 4 [] S else none
def s_141 : List aCt := [c_122, c_140, c_8]
def h_141_0 : Nat × aS × Fm := (17, ([(0, (2, (1, []))), (1, (0, (0, [(0, 1)]))), (2, (0, (0, [(1, 1)]))), (3, (0, (0, [(4, 1)]))), (4, (0, (0, [(2, 1)])))], [], ([(0, 239), (0, 239), (0, 8), (0, 1763), ((-1), 2)], [(0, [(2, (-207)), (3, 1)])], [((1, 8), (0, [(3, 1)]))], 212)), (17, [(2, (-2))]))
def h_141 : List (Nat × aS × Fm) := [h_141_0]
theorem e_141 : ckE 6000 gT s_141 (fun _ => 0) sp_141 c_141 h_141 = true := by decide +kernel
theorem g_141_0 : ([h_141_0].all fun H => ckH 6000 gT s_141 (fun _ => 0) sp_141 c_141 h_141 H) = true := by decide +kernel
theorem k_141 (hB : BytesOK) (g : bG) (l : Launch) : Keeps g l gT c_141 := keeps_of hB.1 hB.2 (List.forall_mem_cons.mpr ⟨k_122 hB g l, List.forall_mem_cons.mpr ⟨k_140 hB g l, List.forall_mem_cons.mpr ⟨k_8 hB g l, nilK⟩⟩⟩) e_141 (List.all_eq_true.mp g_141_0)
/-- Pool.cutPart ((('c', 1), ('u', 0), ('u', 1)), ()) -/
def c_142 : aCt := (35, 0, some [], false, ([(0, 7), ((-9223372036854775808), 9223372036854775807)], [], [], 212), [(2, (1, [])), (0, (0, [(0, 1)])), (1, (0, [(1, 1)]))], [(([(0, 7), ((-9223372036854775808), 9223372036854775807), ((-9223372036854775808), 9223372036854775807)], [], [], 212), some (1, (0, [(2, 1)])))])
def s_142 : List aCt := []
def h_142 : List (Nat × aS × Fm) := []
theorem e_142 : ckE 6000 gT s_142 (fun _ => 0) sp0 c_142 h_142 = true := by decide +kernel
theorem k_142 (hB : BytesOK) (g : bG) (l : Launch) : Keeps g l gT c_142 := keeps_of hB.1 hB.2 (nilK) e_142 nilK
/-- Pool.shareOf ((('c', 1), ('u', 0), ('u', 1)), ()) -/
def c_143 : aCt := (36, 1, some [], false, ([(0, 7), ((-9223372036854775808), 9223372036854775807)], [], [], 212), [(2, (1, [])), (0, (0, [(0, 1)])), (1, (0, [(1, 1)]))], [(([(0, 7), ((-9223372036854775808), 9223372036854775807), ((-9223372036854775808), 9223372036854775807)], [], [], 212), some (1, (0, [(2, 1)])))])
def s_143 : List aCt := [c_142]
def h_143_0 : Nat × aS × Fm := (27, ([(0, (2, (1, []))), (1, (0, (0, [(0, 1)]))), (2, (1, (0, [(1, 1)]))), (4, (1, (0, [(2, 1)]))), (6, (0, (0, [(4, 1)]))), (7, (0, (0, [(3, 1)])))], [], ([(0, 7), ((-9223372036854775808), 9223372036854775807), ((-9223372036854775808), 9223372036854775807), (0, 8), ((-2147483648), 2147483647)], [], [], 212)), (17, [(3, (-2))]))
def h_143 : List (Nat × aS × Fm) := [h_143_0]
theorem e_143 : ckE 6000 gT s_143 (fun _ => 0) sp0 c_143 h_143 = true := by decide +kernel
theorem g_143_0 : ([h_143_0].all fun H => ckH 6000 gT s_143 (fun _ => 0) sp0 c_143 h_143 H) = true := by decide +kernel
theorem k_143 (hB : BytesOK) (g : bG) (l : Launch) : Keeps g l gT c_143 := keeps_of hB.1 hB.2 (List.forall_mem_cons.mpr ⟨k_142 hB g l, nilK⟩) e_143 (List.all_eq_true.mp g_143_0)
/-- B.share ((('c', 0), ('u', 0), ('u', 0), ('u', 0)), ()) -/
def c_144 : aCt := (148, 5, some [(1, 8, 9), (42, 0, 8)], false, ([((-2147483648), 2147483647), ((-2147483648), 2147483647), ((-2147483648), 2147483647)], [], [], 212), [(2, (0, [])), (0, (0, [(0, 1)])), (0, (0, [(1, 1)])), (0, (0, [(2, 1)]))], [(([((-2147483648), 2147483647), ((-2147483648), 2147483647), ((-2147483648), 2147483647), ((-2147483648), 2147483647)], [], [], 212), some (0, (0, [(3, 1)])))])
def s_144 : List aCt := [c_137, c_141, c_143]
def h_144 : List (Nat × aS × Fm) := []
theorem e_144 : ckE 6000 gT s_144 (fun _ => 0) sp0 c_144 h_144 = true := by decide +kernel
theorem k_144 (hB : BytesOK) (g : bG) (l : Launch) : Keeps g l gT c_144 := keeps_of hB.1 hB.2 (List.forall_mem_cons.mpr ⟨k_137 hB g l, List.forall_mem_cons.mpr ⟨k_141 hB g l, List.forall_mem_cons.mpr ⟨k_143 hB g l, nilK⟩⟩⟩) e_144 nilK
/-- Rows.become ((('c', 178), ('c', 1), ('u', 0)), ()) -/
def c_145 : aCt := (59, 5, some [(1, 8, 9), (42, 0, 8), (178, 0, 1), (179, 0, 8), (180, 0, 8)], false, ([(0, 239)], [], [], 212), [(2, (178, [])), (2, (1, [])), (0, (0, [(0, 1)]))], [(([(0, 239)], [], [], 212), none)])
def sp_145 : aSp := fun k pc S => if pc = 53 ∧ k = 59 then spL 5 [] S else none
def s_145 : List aCt := [c_137, c_141, c_143]
def h_145_0 : Nat × aS × Fm := (33, ([(0, (2, (178, []))), (1, (2, (1, []))), (2, (0, (0, [(0, 1)]))), (3, (1, (0, [(3, 1)]))), (5, (0, (0, [(1, 1)])))], [], ([(0, 239), (0, 8), (0, 8), ((-9223372036854775808), 9223372036854775807)], [(0, [(1, (-1)), (2, 1)])], [((178, 0), (0, [(2, 1)]))], 212)), (17, [(1, (-2))]))
def h_145 : List (Nat × aS × Fm) := [h_145_0]
theorem e_145 : ckE 6000 gT s_145 (fun _ => 0) sp_145 c_145 h_145 = true := by decide +kernel
theorem g_145_0 : ([h_145_0].all fun H => ckH 6000 gT s_145 (fun _ => 0) sp_145 c_145 h_145 H) = true := by decide +kernel
theorem k_145 (hB : BytesOK) (g : bG) (l : Launch) : Keeps g l gT c_145 := keeps_of hB.1 hB.2 (List.forall_mem_cons.mpr ⟨k_137 hB g l, List.forall_mem_cons.mpr ⟨k_141 hB g l, List.forall_mem_cons.mpr ⟨k_143 hB g l, nilK⟩⟩⟩) e_145 (List.all_eq_true.mp g_145_0)
/-- B.prove ((('c', 0), ('u', 0)), ()) -/
def c_146 : aCt := (149, 6, some [(1, 8, 9), (42, 0, 8), (178, 0, 1), (179, 0, 8), (180, 0, 8)], false, ([((-2147483648), 2147483647)], [], [], 212), [(2, (0, [])), (0, (0, [(0, 1)]))], [(([((-2147483648), 2147483647), ((-1), 8)], [], [], 212), some (0, (0, [(1, 1)])))])
def s_146 : List aCt := [c_145]
def h_146 : List (Nat × aS × Fm) := []
theorem e_146 : ckE 6000 gT s_146 (fun _ => 0) sp0 c_146 h_146 = true := by decide +kernel
theorem k_146 (hB : BytesOK) (g : bG) (l : Launch) : Keeps g l gT c_146 := keeps_of hB.1 hB.2 (List.forall_mem_cons.mpr ⟨k_145 hB g l, nilK⟩) e_146 nilK
/-- B.row ((('c', 0), ('u', 0), ('u', 0)), ()) -/
def c_147 : aCt := (150, 2, some [], false, ([((-2147483648), 2147483647), ((-2147483648), 2147483647)], [], [], 212), [(2, (0, [])), (0, (0, [(0, 1)])), (0, (0, [(1, 1)]))], [(([((-2147483648), 2147483647), ((-2147483648), 2147483647), ((-2147483648), 2147483647)], [], [], 212), some (0, (0, [(2, 1)])))])
def s_147 : List aCt := []
def h_147 : List (Nat × aS × Fm) := []
theorem e_147 : ckE 6000 gT s_147 (fun _ => 0) sp0 c_147 h_147 = true := by decide +kernel
theorem k_147 (hB : BytesOK) (g : bG) (l : Launch) : Keeps g l gT c_147 := keeps_of hB.1 hB.2 (nilK) e_147 nilK
