/-- Trade.isFirstDraw ((('c', 17), ('u', 0)), ()) -/
def c_121 : aCt := (119, 0, some [], false, ([(0, 11)], [], [], 212), [(2, (17, [])), (0, (0, [(0, 1)]))], [(([(0, 11), (0, 1)], [], [], 212), some (0, (0, [(1, 1)])))])
def s_121 : List aCt := []
def h_121_0 : Nat × aS × Fm := (2, ([(0, (2, (17, []))), (1, (0, (0, [(0, 1)]))), (2, (0, (0, [(1, 1)])))], [], ([(0, 11), (0, 11)], [], [], 212)), (23, [(1, (-2))]))
def h_121 : List (Nat × aS × Fm) := [h_121_0]
theorem e_121 : ckE 6000 gT s_121 (fun _ => 0) sp0 c_121 h_121 = true := by decide +kernel
theorem g_121_0 : ([h_121_0].all fun H => ckH 6000 gT s_121 (fun _ => 0) sp0 c_121 h_121 H) = true := by decide +kernel
theorem k_121 (hB : BytesOK) (g : bG) (l : Launch) : Keeps g l gT c_121 := keeps_of hB.1 hB.2 (nilK) e_121 (List.all_eq_true.mp g_121_0)
/-- Trade.greatestFrom ((('c', 17), ('u', 0)), ()) -/
def c_122 : aCt := (120, 1, some [], false, ([(0, 2147483647)], [], [], 212), [(2, (17, [])), (0, (0, [(0, 1)]))], [(([(0, 2147483647), (0, 9999)], [], [], 212), some (0, (0, [(1, 1)])))])
def s_122 : List aCt := []
def h_122_0 : Nat × aS × Fm := (4, ([(0, (2, (17, []))), (1, (0, (0, [(0, 1)]))), (2, (0, (0, [(2, 1)]))), (3, (0, (0, [(1, 1)])))], [], ([(0, 2147483647), (0, 12), (0, 9999)], [], [], 212)), (25, [(1, (-2))]))
def h_122 : List (Nat × aS × Fm) := [h_122_0]
theorem e_122 : ckE 6000 gT s_122 (fun _ => 0) sp0 c_122 h_122 = true := by decide +kernel
theorem g_122_0 : ([h_122_0].all fun H => ckH 6000 gT s_122 (fun _ => 0) sp0 c_122 h_122 H) = true := by decide +kernel
theorem k_122 (hB : BytesOK) (g : bG) (l : Launch) : Keeps g l gT c_122 := keeps_of hB.1 hB.2 (nilK) e_122 (List.all_eq_true.mp g_122_0)
/-- Trade.belowDrawn ((('c', 17), ('u', 0), ('u', 0)), ()) -/
def c_123 : aCt := (118, 2, some [], false, ([(0, 5), (0, 239)], [], [], 212), [(2, (17, [])), (0, (0, [(0, 1)])), (0, (0, [(1, 1)]))], [(([(0, 5), (0, 239), ((-2147483648), 2147483647)], [], [], 212), some (0, (0, [(2, 1)])))])
def s_123 : List aCt := [c_85, c_121, c_122]
def h_123_0 : Nat × aS × Fm := (5, ([(0, (2, (17, []))), (1, (0, (0, [(0, 1)]))), (2, (0, (0, [(1, 1)]))), (3, (0, (0, [(3, 1)]))), (4, (0, (0, [(2, 1)])))], [], ([(0, 5), (0, 239), (0, 12), ((-2147483648), 2147483647)], [], [], 212)), (25, [(2, (-2))]))
def h_123 : List (Nat × aS × Fm) := [h_123_0]
theorem e_123 : ckE 6000 gT s_123 (fun _ => 0) sp0 c_123 h_123 = true := by decide +kernel
theorem g_123_0 : ([h_123_0].all fun H => ckH 6000 gT s_123 (fun _ => 0) sp0 c_123 h_123 H) = true := by decide +kernel
theorem k_123 (hB : BytesOK) (g : bG) (l : Launch) : Keeps g l gT c_123 := keeps_of hB.1 hB.2 (List.forall_mem_cons.mpr ⟨k_85 hB g l, List.forall_mem_cons.mpr ⟨k_121 hB g l, List.forall_mem_cons.mpr ⟨k_122 hB g l, nilK⟩⟩⟩) e_123 (List.all_eq_true.mp g_123_0)
/-- B.under ((('c', 0), ('u', 0), ('u', 0)), ()) -/
def c_124 : aCt := (146, 3, some [], false, ([((-2147483648), 2147483647), ((-2147483648), 2147483647)], [], [], 212), [(2, (0, [])), (0, (0, [(0, 1)])), (0, (0, [(1, 1)]))], [(([((-2147483648), 2147483647), ((-2147483648), 2147483647), ((-2147483648), 2147483647)], [], [], 212), some (0, (0, [(2, 1)])))])
def s_124 : List aCt := [c_123]
def h_124 : List (Nat × aS × Fm) := []
theorem e_124 : ckE 6000 gT s_124 (fun _ => 0) sp0 c_124 h_124 = true := by decide +kernel
theorem k_124 (hB : BytesOK) (g : bG) (l : Launch) : Keeps g l gT c_124 := keeps_of hB.1 hB.2 (List.forall_mem_cons.mpr ⟨k_123 hB g l, nilK⟩) e_124 nilK
/-- Pool.monthSum ((('c', 1), ('u', 0), ('u', 0)), ()) -/
def c_125 : aCt := (31, 4, some [], false, ([(0, 239), (0, 239)], [], [], 212), [(2, (1, [])), (0, (0, [(0, 1)])), (0, (0, [(1, 1)]))], [(([(0, 239), (0, 239), ((-9223372036854775808), 9223372036854775807)], [], [], 212), some (1, (0, [(2, 1)])))])
def s_125 : List aCt := [c_112]
def h_125_0 : Nat × aS × Fm := (5, ([(0, (2, (1, []))), (1, (0, (0, [(0, 1)]))), (2, (0, (0, [(1, 1)]))), (3, (1, (0, [(3, 1)]))), (5, (0, (0, [(2, 1)])))], [], ([(0, 239), (0, 239), (0, 6), ((-9223372036854775808), 9223372036854775807)], [], [], 212)), (13, [(2, (-2))]))
def h_125 : List (Nat × aS × Fm) := [h_125_0]
theorem e_125 : ckE 6000 gT s_125 (fun _ => 0) sp0 c_125 h_125 = true := by decide +kernel
theorem g_125_0 : ([h_125_0].all fun H => ckH 6000 gT s_125 (fun _ => 0) sp0 c_125 h_125 H) = true := by decide +kernel
theorem k_125 (hB : BytesOK) (g : bG) (l : Launch) : Keeps g l gT c_125 := keeps_of hB.1 hB.2 (List.forall_mem_cons.mpr ⟨k_112 hB g l, nilK⟩) e_125 (List.all_eq_true.mp g_125_0)
/-- B.sum ((('c', 0), ('u', 0), ('u', 0)), ()) -/
def c_126 : aCt := (147, 5, some [], false, ([((-2147483648), 2147483647), ((-2147483648), 2147483647)], [], [], 212), [(2, (0, [])), (0, (0, [(0, 1)])), (0, (0, [(1, 1)]))], [(([((-2147483648), 2147483647), ((-2147483648), 2147483647), ((-2147483648), 2147483647)], [], [], 212), some (0, (0, [(2, 1)])))])
def s_126 : List aCt := [c_125]
def h_126 : List (Nat × aS × Fm) := []
theorem e_126 : ckE 6000 gT s_126 (fun _ => 0) sp0 c_126 h_126 = true := by decide +kernel
theorem k_126 (hB : BytesOK) (g : bG) (l : Launch) : Keeps g l gT c_126 := keeps_of hB.1 hB.2 (List.forall_mem_cons.mpr ⟨k_125 hB g l, nilK⟩) e_126 nilK
/-- java/lang/Integer.bitCount ((('u', 0),), ()) -/
def c_127 : aCt := (297, 0, some [], false, ([((-2147483648), 2147483647)], [], [], 212), [(0, (0, [(0, 1)]))], [(([((-2147483648), 2147483647), (0, 63)], [], [], 212), some (0, (0, [(1, 1)])))])
def s_127 : List aCt := []
def h_127 : List (Nat × aS × Fm) := []
theorem e_127 : ckE 6000 gT s_127 (fun _ => 0) sp0 c_127 h_127 = true := by decide +kernel
theorem k_127 (hB : BytesOK) (g : bG) (l : Launch) : Keeps g l gT c_127 := keeps_of hB.1 hB.2 (nilK) e_127 nilK
/-- Pool.weightOf ((('c', 1), ('u', 0), ('u', 0), ('u', 0), ('u', 0)), ()) -/
def c_128 : aCt := (32, 2, some [], false, ([(0, 7), (0, 239), (0, 239), ((-1), 2)], [], [], 212), [(2, (1, [])), (0, (0, [(0, 1)])), (0, (0, [(1, 1)])), (0, (0, [(2, 1)])), (0, (0, [(3, 1)]))], [(([(0, 7), (0, 239), (0, 239), ((-1), 2), (0, 207)], [], [], 212), some (0, (0, [(4, 1)])))])
def sp_128 : aSp := fun k pc S => if pc = 21 ∧ k = 32 then spL 7 [] S else none
def s_128 : List aCt := [c_11, c_4, c_127]
def h_128_0 : Nat × aS × Fm := (9, ([(0, (2, (1, []))), (1, (0, (0, [(0, 1)]))), (2, (0, (0, [(1, 1)]))), (3, (0, (0, [(2, 1)]))), (4, (0, (0, [(3, 1)]))), (5, (0, (0, [(5, 1)]))), (6, (0, (0, [(6, 1)]))), (7, (0, (0, [(4, 1)])))], [], ([(0, 7), (0, 239), (0, 239), ((-1), 2), (0, 16), (0, 144), ((-2147483648), 2147483647)], [(0, [(4, (-9)), (5, 1)])], [], 212)), (33, [(4, (-2))]))
def h_128 : List (Nat × aS × Fm) := [h_128_0]
theorem e_128 : ckE 6000 gT s_128 (fun _ => 0) sp_128 c_128 h_128 = true := by decide +kernel
theorem g_128_0 : ([h_128_0].all fun H => ckH 6000 gT s_128 (fun _ => 0) sp_128 c_128 h_128 H) = true := by decide +kernel
theorem k_128 (hB : BytesOK) (g : bG) (l : Launch) : Keeps g l gT c_128 := keeps_of hB.1 hB.2 (List.forall_mem_cons.mpr ⟨k_11 hB g l, List.forall_mem_cons.mpr ⟨k_4 hB g l, List.forall_mem_cons.mpr ⟨k_127 hB g l, nilK⟩⟩⟩) e_128 (List.all_eq_true.mp g_128_0)
/-- Pool.weigh ((('c', 1), ('u', 0), ('u', 0)), ()) -/
def c_129 : aCt := (33, 3, some [(1, 8, 9), (42, 0, 8)], false, ([(0, 239), (0, 239)], [], [], 212), [(2, (1, [])), (0, (0, [(0, 1)])), (0, (0, [(1, 1)]))], [(([(0, 239), (0, 239)], [], [], 212), none)])
def sp_129 : aSp := fun k pc S => if pc = 24 ∧ k = 33 then spL 4 [] S else none
def s_129 : List aCt := [c_110, c_128, c_6]
def h_129_0 : Nat × aS × Fm := (17, ([(0, (2, (1, []))), (1, (0, (0, [(0, 1)]))), (2, (0, (0, [(1, 1)]))), (3, (0, (0, [(4, 1)]))), (4, (0, (0, [(2, 1)])))], [], ([(0, 239), (0, 239), (0, 8), (0, 1763), ((-1), 2)], [(0, [(2, (-207)), (3, 1)])], [((1, 8), (0, [(3, 1)]))], 212)), (17, [(2, (-2))]))
def h_129 : List (Nat × aS × Fm) := [h_129_0]
theorem e_129 : ckE 6000 gT s_129 (fun _ => 0) sp_129 c_129 h_129 = true := by decide +kernel
theorem g_129_0 : ([h_129_0].all fun H => ckH 6000 gT s_129 (fun _ => 0) sp_129 c_129 h_129 H) = true := by decide +kernel
theorem k_129 (hB : BytesOK) (g : bG) (l : Launch) : Keeps g l gT c_129 := keeps_of hB.1 hB.2 (List.forall_mem_cons.mpr ⟨k_110 hB g l, List.forall_mem_cons.mpr ⟨k_128 hB g l, List.forall_mem_cons.mpr ⟨k_6 hB g l, nilK⟩⟩⟩) e_129 (List.all_eq_true.mp g_129_0)
/-- Pool.cutPart ((('c', 1), ('u', 0), ('u', 1)), ()) -/
def c_130 : aCt := (35, 0, some [], false, ([(0, 7), ((-9223372036854775808), 9223372036854775807)], [], [], 212), [(2, (1, [])), (0, (0, [(0, 1)])), (1, (0, [(1, 1)]))], [(([(0, 7), ((-9223372036854775808), 9223372036854775807), ((-9223372036854775808), 9223372036854775807)], [], [], 212), some (1, (0, [(2, 1)])))])
def s_130 : List aCt := []
def h_130 : List (Nat × aS × Fm) := []
theorem e_130 : ckE 6000 gT s_130 (fun _ => 0) sp0 c_130 h_130 = true := by decide +kernel
theorem k_130 (hB : BytesOK) (g : bG) (l : Launch) : Keeps g l gT c_130 := keeps_of hB.1 hB.2 (nilK) e_130 nilK
/-- Pool.shareOf ((('c', 1), ('u', 0), ('u', 1)), ()) -/
def c_131 : aCt := (36, 1, some [], false, ([(0, 7), ((-9223372036854775808), 9223372036854775807)], [], [], 212), [(2, (1, [])), (0, (0, [(0, 1)])), (1, (0, [(1, 1)]))], [(([(0, 7), ((-9223372036854775808), 9223372036854775807), ((-9223372036854775808), 9223372036854775807)], [], [], 212), some (1, (0, [(2, 1)])))])
def s_131 : List aCt := [c_130]
def h_131_0 : Nat × aS × Fm := (27, ([(0, (2, (1, []))), (1, (0, (0, [(0, 1)]))), (2, (1, (0, [(1, 1)]))), (4, (1, (0, [(2, 1)]))), (6, (0, (0, [(4, 1)]))), (7, (0, (0, [(3, 1)])))], [], ([(0, 7), ((-9223372036854775808), 9223372036854775807), ((-9223372036854775808), 9223372036854775807), (0, 8), ((-2147483648), 2147483647)], [], [], 212)), (17, [(3, (-2))]))
def h_131 : List (Nat × aS × Fm) := [h_131_0]
theorem e_131 : ckE 6000 gT s_131 (fun _ => 0) sp0 c_131 h_131 = true := by decide +kernel
theorem g_131_0 : ([h_131_0].all fun H => ckH 6000 gT s_131 (fun _ => 0) sp0 c_131 h_131 H) = true := by decide +kernel
theorem k_131 (hB : BytesOK) (g : bG) (l : Launch) : Keeps g l gT c_131 := keeps_of hB.1 hB.2 (List.forall_mem_cons.mpr ⟨k_130 hB g l, nilK⟩) e_131 (List.all_eq_true.mp g_131_0)
/-- B.share ((('c', 0), ('u', 0), ('u', 0), ('u', 0)), ()) -/
def c_132 : aCt := (148, 5, some [(1, 8, 9), (42, 0, 8)], false, ([((-2147483648), 2147483647), ((-2147483648), 2147483647), ((-2147483648), 2147483647)], [], [], 212), [(2, (0, [])), (0, (0, [(0, 1)])), (0, (0, [(1, 1)])), (0, (0, [(2, 1)]))], [(([((-2147483648), 2147483647), ((-2147483648), 2147483647), ((-2147483648), 2147483647), ((-2147483648), 2147483647)], [], [], 212), some (0, (0, [(3, 1)])))])
def s_132 : List aCt := [c_125, c_129, c_131]
def h_132 : List (Nat × aS × Fm) := []
theorem e_132 : ckE 6000 gT s_132 (fun _ => 0) sp0 c_132 h_132 = true := by decide +kernel
theorem k_132 (hB : BytesOK) (g : bG) (l : Launch) : Keeps g l gT c_132 := keeps_of hB.1 hB.2 (List.forall_mem_cons.mpr ⟨k_125 hB g l, List.forall_mem_cons.mpr ⟨k_129 hB g l, List.forall_mem_cons.mpr ⟨k_131 hB g l, nilK⟩⟩⟩) e_132 nilK
/-- Rows.become ((('c', 178), ('c', 1), ('u', 0)), ()) -/
def c_133 : aCt := (59, 5, some [(1, 8, 9), (42, 0, 8), (178, 0, 1), (179, 0, 8), (180, 0, 8)], false, ([(0, 239)], [], [], 212), [(2, (178, [])), (2, (1, [])), (0, (0, [(0, 1)]))], [(([(0, 239)], [], [], 212), none)])
def sp_133 : aSp := fun k pc S => if pc = 53 ∧ k = 59 then spL 5 [] S else none
def s_133 : List aCt := [c_125, c_129, c_131]
def h_133_0 : Nat × aS × Fm := (33, ([(0, (2, (178, []))), (1, (2, (1, []))), (2, (0, (0, [(0, 1)]))), (3, (1, (0, [(3, 1)]))), (5, (0, (0, [(1, 1)])))], [], ([(0, 239), (0, 8), (0, 8), ((-9223372036854775808), 9223372036854775807)], [(0, [(1, (-1)), (2, 1)])], [((178, 0), (0, [(2, 1)]))], 212)), (17, [(1, (-2))]))
def h_133 : List (Nat × aS × Fm) := [h_133_0]
theorem e_133 : ckE 6000 gT s_133 (fun _ => 0) sp_133 c_133 h_133 = true := by decide +kernel
theorem g_133_0 : ([h_133_0].all fun H => ckH 6000 gT s_133 (fun _ => 0) sp_133 c_133 h_133 H) = true := by decide +kernel
theorem k_133 (hB : BytesOK) (g : bG) (l : Launch) : Keeps g l gT c_133 := keeps_of hB.1 hB.2 (List.forall_mem_cons.mpr ⟨k_125 hB g l, List.forall_mem_cons.mpr ⟨k_129 hB g l, List.forall_mem_cons.mpr ⟨k_131 hB g l, nilK⟩⟩⟩) e_133 (List.all_eq_true.mp g_133_0)
/-- B.prove ((('c', 0), ('u', 0)), ()) -/
def c_134 : aCt := (149, 6, some [(1, 8, 9), (42, 0, 8), (178, 0, 1), (179, 0, 8), (180, 0, 8)], false, ([((-2147483648), 2147483647)], [], [], 212), [(2, (0, [])), (0, (0, [(0, 1)]))], [(([((-2147483648), 2147483647), ((-1), 8)], [], [], 212), some (0, (0, [(1, 1)])))])
def s_134 : List aCt := [c_133]
def h_134 : List (Nat × aS × Fm) := []
theorem e_134 : ckE 6000 gT s_134 (fun _ => 0) sp0 c_134 h_134 = true := by decide +kernel
theorem k_134 (hB : BytesOK) (g : bG) (l : Launch) : Keeps g l gT c_134 := keeps_of hB.1 hB.2 (List.forall_mem_cons.mpr ⟨k_133 hB g l, nilK⟩) e_134 nilK
/-- B.row ((('c', 0), ('u', 0), ('u', 0)), ()) -/
def c_135 : aCt := (150, 2, some [], false, ([((-2147483648), 2147483647), ((-2147483648), 2147483647)], [], [], 212), [(2, (0, [])), (0, (0, [(0, 1)])), (0, (0, [(1, 1)]))], [(([((-2147483648), 2147483647), ((-2147483648), 2147483647), ((-2147483648), 2147483647)], [], [], 212), some (0, (0, [(2, 1)])))])
def s_135 : List aCt := []
def h_135 : List (Nat × aS × Fm) := []
theorem e_135 : ckE 6000 gT s_135 (fun _ => 0) sp0 c_135 h_135 = true := by decide +kernel
theorem k_135 (hB : BytesOK) (g : bG) (l : Launch) : Keeps g l gT c_135 := keeps_of hB.1 hB.2 (nilK) e_135 nilK
/-- Rows.alter ((('c', 178), ('u', 0), ('u', 0), ('u', 0)), ()) -/
def c_136 : aCt := (62, 2, some [(179, 0, 8), (180, 0, 8)], false, ([((-2147483648), 2147483647), ((-2147483648), 2147483647), ((-2147483648), 2147483647)], [], [], 212), [(2, (178, [])), (0, (0, [(0, 1)])), (0, (0, [(1, 1)])), (0, (0, [(2, 1)]))], [(([((-2147483648), 2147483647), ((-2147483648), 2147483647), ((-2147483648), 2147483647), ((-2147483648), 2147483647)], [], [], 212), some (0, (0, [(3, 1)])))])
def s_136 : List aCt := []
def h_136 : List (Nat × aS × Fm) := []
theorem e_136 : ckE 6000 gT s_136 (fun _ => 0) sp0 c_136 h_136 = true := by decide +kernel
theorem k_136 (hB : BytesOK) (g : bG) (l : Launch) : Keeps g l gT c_136 := keeps_of hB.1 hB.2 (nilK) e_136 nilK
/-- B.alterRow ((('c', 0), ('u', 0), ('u', 0), ('u', 0)), ()) -/
def c_137 : aCt := (151, 3, some [(179, 0, 8), (180, 0, 8)], false, ([((-2147483648), 2147483647), ((-2147483648), 2147483647), ((-2147483648), 2147483647)], [], [], 212), [(2, (0, [])), (0, (0, [(0, 1)])), (0, (0, [(1, 1)])), (0, (0, [(2, 1)]))], [(([((-2147483648), 2147483647), ((-2147483648), 2147483647), ((-2147483648), 2147483647), ((-2147483648), 2147483647)], [], [], 212), some (0, (0, [(3, 1)])))])
def s_137 : List aCt := [c_136]
def h_137 : List (Nat × aS × Fm) := []
theorem e_137 : ckE 6000 gT s_137 (fun _ => 0) sp0 c_137 h_137 = true := by decide +kernel
theorem k_137 (hB : BytesOK) (g : bG) (l : Launch) : Keeps g l gT c_137 := keeps_of hB.1 hB.2 (List.forall_mem_cons.mpr ⟨k_136 hB g l, nilK⟩) e_137 nilK
/-- Rows.isRight ((('c', 178), ('u', 0), ('c', 1), ('u', 1)), ()) -/
def c_138 : aCt := (64, 1, some [], false, ([(0, 7), ((-9223372036854775808), 9223372036854775807)], [], [], 212), [(2, (178, [])), (0, (0, [(0, 1)])), (2, (1, [])), (1, (0, [(1, 1)]))], [(([(0, 7), ((-9223372036854775808), 9223372036854775807), (0, 1)], [], [], 212), some (0, (0, [(2, 1)])))])
def sp_138 : aSp := fun k pc S => if pc = 0 ∧ k = 64 then spL 1 [0, 1, 2, 3, 4, 5, 6] S else none
def s_138 : List aCt := [c_130]
def h_138 : List (Nat × aS × Fm) := []
theorem e_138 : ckE 6000 gT s_138 (fun _ => 0) sp_138 c_138 h_138 = true := by decide +kernel
theorem k_138 (hB : BytesOK) (g : bG) (l : Launch) : Keeps g l gT c_138 := keeps_of hB.1 hB.2 (List.forall_mem_cons.mpr ⟨k_130 hB g l, nilK⟩) e_138 nilK
/-- Rows.firstWrong ((('c', 178), ('c', 1), ('u', 0)), ()) -/
def c_139 : aCt := (63, 5, some [(1, 8, 9), (42, 0, 8)], false, ([(0, 239)], [], [], 212), [(2, (178, [])), (2, (1, [])), (0, (0, [(0, 1)]))], [(([(0, 239), (0, 8)], [], [], 212), some (0, (0, [(1, 1)])))])
def s_139 : List aCt := [c_125, c_129, c_138]
def h_139_0 : Nat × aS × Fm := (57, ([(0, (2, (178, []))), (1, (2, (1, []))), (2, (0, (0, [(0, 1)]))), (3, (1, (0, [(3, 1)]))), (5, (1, (0, [(1, 1)]))), (7, (0, (0, [(2, 1)])))], [], ([(0, 239), ((-9223372036854775808), 9223372036854775807), (0, 8), ((-9223372036854775808), 9223372036854775807)], [], [], 212)), (17, [(2, (-2))]))
def h_139 : List (Nat × aS × Fm) := [h_139_0]
theorem e_139 : ckE 6000 gT s_139 (fun _ => 0) sp0 c_139 h_139 = true := by decide +kernel
theorem g_139_0 : ([h_139_0].all fun H => ckH 6000 gT s_139 (fun _ => 0) sp0 c_139 h_139 H) = true := by decide +kernel
theorem k_139 (hB : BytesOK) (g : bG) (l : Launch) : Keeps g l gT c_139 := keeps_of hB.1 hB.2 (List.forall_mem_cons.mpr ⟨k_125 hB g l, List.forall_mem_cons.mpr ⟨k_129 hB g l, List.forall_mem_cons.mpr ⟨k_138 hB g l, nilK⟩⟩⟩) e_139 (List.all_eq_true.mp g_139_0)
/-- B.judge ((('c', 0), ('u', 0)), ()) -/
def c_140 : aCt := (152, 6, some [(1, 8, 9), (42, 0, 8)], false, ([((-2147483648), 2147483647)], [], [], 212), [(2, (0, [])), (0, (0, [(0, 1)]))], [(([((-2147483648), 2147483647), ((-1), 8)], [], [], 212), some (0, (0, [(1, 1)])))])
def s_140 : List aCt := [c_139]
def h_140 : List (Nat × aS × Fm) := []
theorem e_140 : ckE 6000 gT s_140 (fun _ => 0) sp0 c_140 h_140 = true := by decide +kernel
theorem k_140 (hB : BytesOK) (g : bG) (l : Launch) : Keeps g l gT c_140 := keeps_of hB.1 hB.2 (List.forall_mem_cons.mpr ⟨k_139 hB g l, nilK⟩) e_140 nilK
/-- B.ask ((('c', 0), ('u', 0), ('u', 0)), ()) -/
def c_141 : aCt := (153, 1, some [(31, 0, 8)], false, ([((-2147483648), 2147483647), ((-2147483648), 2147483647)], [], [], 212), [(2, (0, [])), (0, (0, [(0, 1)])), (0, (0, [(1, 1)]))], [(([((-2147483648), 2147483647), ((-2147483648), 2147483647), ((-1), 9999)], [], [], 212), some (0, (0, [(2, 1)])))])
def s_141 : List aCt := []
def h_141 : List (Nat × aS × Fm) := []
theorem e_141 : ckE 6000 gT s_141 (fun _ => 0) sp0 c_141 h_141 = true := by decide +kernel
theorem k_141 (hB : BytesOK) (g : bG) (l : Launch) : Keeps g l gT c_141 := keeps_of hB.1 hB.2 (nilK) e_141 nilK
/-- Pool.weighAllByHeads ((('c', 1), ('u', 0)), ()) -/
def c_142 : aCt := (34, 3, some [(1, 8, 9), (42, 0, 8)], false, ([(0, 239)], [], [], 212), [(2, (1, [])), (0, (0, [(0, 1)]))], [(([(0, 239)], [], [], 212), none)])
def sp_142 : aSp := fun k pc S => if pc = 13 ∧ k = 34 then spL 2 [] S else none
def s_142 : List aCt := [c_128]
def h_142_0 : Nat × aS × Fm := (7, ([(0, (2, (1, []))), (1, (0, (0, [(0, 1)]))), (2, (0, (0, [(2, 1)])))], [], ([(0, 239), (0, 1763), (0, 8)], [(0, [(1, 1), (2, (-207))])], [((1, 8), (0, [(1, 1)]))], 212)), (17, [(2, (-2))]))
def h_142 : List (Nat × aS × Fm) := [h_142_0]
theorem e_142 : ckE 6000 gT s_142 (fun _ => 0) sp_142 c_142 h_142 = true := by decide +kernel
theorem g_142_0 : ([h_142_0].all fun H => ckH 6000 gT s_142 (fun _ => 0) sp_142 c_142 h_142 H) = true := by decide +kernel
theorem k_142 (hB : BytesOK) (g : bG) (l : Launch) : Keeps g l gT c_142 := keeps_of hB.1 hB.2 (List.forall_mem_cons.mpr ⟨k_128 hB g l, nilK⟩) e_142 (List.all_eq_true.mp g_142_0)
