/-- Trade.paidFor ((('c', 17), ('u', 0), ('u', 0)), ()) -/
def c_140 : aCt := (116, 0, some [], false, ([(0, 5), (0, 238)], [], [], 212), [(2, (17, [])), (0, (0, [(0, 1)])), (0, (0, [(1, 1)]))], [(([(0, 5), (0, 238), ((-2147483648), 2147483647)], [], [], 212), some (0, (0, [(2, 1)])))])
def s_140 : List aCt := []
def h_140_0 : Nat × aS × Fm := (5, ([(0, (2, (17, []))), (1, (0, (0, [(0, 1)]))), (2, (0, (0, [(1, 1)]))), (3, (0, (0, [(3, 1)]))), (4, (0, (0, [(2, 1)])))], [], ([(0, 5), (0, 238), (0, 16), ((-2147483648), 2147483647)], [], [], 212)), (33, [(2, (-2))]))
def h_140 : List (Nat × aS × Fm) := [h_140_0]
theorem e_140 : ckE 6000 gT s_140 (fun _ => 0) sp0 c_140 h_140 = true := by decide +kernel
theorem g_140_0 : ([h_140_0].all fun H => ckH 6000 gT s_140 (fun _ => 0) sp0 c_140 h_140 H) = true := by decide +kernel
theorem k_140 (hB : BytesOK) (g : bG) (l : Launch) : Keeps g l gT c_140 := keeps_of hB.1 hB.2 (nilK) e_140 (List.all_eq_true.mp g_140_0)
/-- Pool.backSum ((('c', 1), ('u', 0), ('u', 0)), ()) -/
def c_141 : aCt := (30, 4, some [], false, ([(0, 5), (0, 239)], [], [], 212), [(2, (1, [])), (0, (0, [(0, 1)])), (0, (0, [(1, 1)]))], [(([(0, 5), (0, 239), ((-9223372036854775808), 2000000000)], [], [], 212), some (1, (0, [(2, 1)])))])
def s_141 : List aCt := [c_134, c_136, c_140]
def h_141_0 : Nat × aS × Fm := (5, ([(0, (2, (1, []))), (1, (0, (0, [(0, 1)]))), (2, (0, (0, [(1, 1)]))), (3, (1, (0, [(3, 1)]))), (5, (0, (0, [(2, 1)])))], [], ([(0, 5), (0, 239), (0, 239), ((-9223372036854775808), 9223372036854775807)], [], [], 212)), (479, [(2, (-2))]))
def h_141 : List (Nat × aS × Fm) := [h_141_0]
theorem e_141 : ckE 6000 gT s_141 (fun _ => 0) sp0 c_141 h_141 = true := by decide +kernel
theorem g_141_0 : ([h_141_0].all fun H => ckH 6000 gT s_141 (fun _ => 0) sp0 c_141 h_141 H) = true := by decide +kernel
theorem k_141 (hB : BytesOK) (g : bG) (l : Launch) : Keeps g l gT c_141 := keeps_of hB.1 hB.2 (List.forall_mem_cons.mpr ⟨k_134 hB g l, List.forall_mem_cons.mpr ⟨k_136 hB g l, List.forall_mem_cons.mpr ⟨k_140 hB g l, nilK⟩⟩⟩) e_141 (List.all_eq_true.mp g_141_0)
/-- B.back ((('c', 0), ('u', 0), ('u', 0)), ()) -/
def c_142 : aCt := (144, 5, some [], false, ([((-2147483648), 2147483647), ((-2147483648), 2147483647)], [], [], 212), [(2, (0, [])), (0, (0, [(0, 1)])), (0, (0, [(1, 1)]))], [(([((-2147483648), 2147483647), ((-2147483648), 2147483647), ((-2147483648), 2147483647)], [], [], 212), some (0, (0, [(2, 1)])))])
def s_142 : List aCt := [c_141]
def h_142 : List (Nat × aS × Fm) := []
theorem e_142 : ckE 6000 gT s_142 (fun _ => 0) sp0 c_142 h_142 = true := by decide +kernel
theorem k_142 (hB : BytesOK) (g : bG) (l : Launch) : Keeps g l gT c_142 := keeps_of hB.1 hB.2 (List.forall_mem_cons.mpr ⟨k_141 hB g l, nilK⟩) e_142 nilK
/-- Trade.isFirstDraw ((('c', 17), ('u', 0)), ()) -/
def c_143 : aCt := (119, 0, some [], false, ([(0, 11)], [], [], 212), [(2, (17, [])), (0, (0, [(0, 1)]))], [(([(0, 11), (0, 1)], [], [], 212), some (0, (0, [(1, 1)])))])
def s_143 : List aCt := []
def h_143_0 : Nat × aS × Fm := (2, ([(0, (2, (17, []))), (1, (0, (0, [(0, 1)]))), (2, (0, (0, [(1, 1)])))], [], ([(0, 11), (0, 11)], [], [], 212)), (23, [(1, (-2))]))
def h_143 : List (Nat × aS × Fm) := [h_143_0]
theorem e_143 : ckE 6000 gT s_143 (fun _ => 0) sp0 c_143 h_143 = true := by decide +kernel
theorem g_143_0 : ([h_143_0].all fun H => ckH 6000 gT s_143 (fun _ => 0) sp0 c_143 h_143 H) = true := by decide +kernel
theorem k_143 (hB : BytesOK) (g : bG) (l : Launch) : Keeps g l gT c_143 := keeps_of hB.1 hB.2 (nilK) e_143 (List.all_eq_true.mp g_143_0)
/-- Trade.greatestFrom ((('c', 17), ('u', 0)), ()) -/
def c_144 : aCt := (120, 1, some [], false, ([(0, 65535)], [], [], 212), [(2, (17, [])), (0, (0, [(0, 1)]))], [(([(0, 65535), (0, 9999)], [], [], 212), some (0, (0, [(1, 1)])))])
def s_144 : List aCt := []
def h_144_0 : Nat × aS × Fm := (4, ([(0, (2, (17, []))), (1, (0, (0, [(0, 1)]))), (2, (0, (0, [(2, 1)]))), (3, (0, (0, [(1, 1)])))], [], ([(0, 65535), (0, 12), (0, 9999)], [], [], 212)), (25, [(1, (-2))]))
def h_144 : List (Nat × aS × Fm) := [h_144_0]
theorem e_144 : ckE 6000 gT s_144 (fun _ => 0) sp0 c_144 h_144 = true := by decide +kernel
theorem g_144_0 : ([h_144_0].all fun H => ckH 6000 gT s_144 (fun _ => 0) sp0 c_144 h_144 H) = true := by decide +kernel
theorem k_144 (hB : BytesOK) (g : bG) (l : Launch) : Keeps g l gT c_144 := keeps_of hB.1 hB.2 (nilK) e_144 (List.all_eq_true.mp g_144_0)
/-- Trade.belowDrawn ((('c', 17), ('u', 0), ('u', 0)), ()) -/
def c_145 : aCt := (118, 2, some [], false, ([(0, 5), (0, 239)], [], [], 212), [(2, (17, [])), (0, (0, [(0, 1)])), (0, (0, [(1, 1)]))], [(([(0, 5), (0, 239), ((-2147483648), 2147483647)], [], [], 212), some (0, (0, [(2, 1)])))])
def s_145 : List aCt := [c_109, c_143, c_144]
def h_145_0 : Nat × aS × Fm := (5, ([(0, (2, (17, []))), (1, (0, (0, [(0, 1)]))), (2, (0, (0, [(1, 1)]))), (3, (0, (0, [(3, 1)]))), (4, (0, (0, [(2, 1)])))], [], ([(0, 5), (0, 239), (0, 12), ((-2147483648), 2147483647)], [], [], 212)), (25, [(2, (-2))]))
def h_145 : List (Nat × aS × Fm) := [h_145_0]
theorem e_145 : ckE 6000 gT s_145 (fun _ => 0) sp0 c_145 h_145 = true := by decide +kernel
theorem g_145_0 : ([h_145_0].all fun H => ckH 6000 gT s_145 (fun _ => 0) sp0 c_145 h_145 H) = true := by decide +kernel
theorem k_145 (hB : BytesOK) (g : bG) (l : Launch) : Keeps g l gT c_145 := keeps_of hB.1 hB.2 (List.forall_mem_cons.mpr ⟨k_109 hB g l, List.forall_mem_cons.mpr ⟨k_143 hB g l, List.forall_mem_cons.mpr ⟨k_144 hB g l, nilK⟩⟩⟩) e_145 (List.all_eq_true.mp g_145_0)
/-- B.under ((('c', 0), ('u', 0), ('u', 0)), ()) -/
def c_146 : aCt := (146, 3, some [], false, ([((-2147483648), 2147483647), ((-2147483648), 2147483647)], [], [], 212), [(2, (0, [])), (0, (0, [(0, 1)])), (0, (0, [(1, 1)]))], [(([((-2147483648), 2147483647), ((-2147483648), 2147483647), ((-2147483648), 2147483647)], [], [], 212), some (0, (0, [(2, 1)])))])
def s_146 : List aCt := [c_145]
def h_146 : List (Nat × aS × Fm) := []
theorem e_146 : ckE 6000 gT s_146 (fun _ => 0) sp0 c_146 h_146 = true := by decide +kernel
theorem k_146 (hB : BytesOK) (g : bG) (l : Launch) : Keeps g l gT c_146 := keeps_of hB.1 hB.2 (List.forall_mem_cons.mpr ⟨k_145 hB g l, nilK⟩) e_146 nilK
/-- Pool.monthSum ((('c', 1), ('u', 0), ('u', 0)), ()) -/
def c_147 : aCt := (31, 4, some [], false, ([(0, 239), (0, 239)], [], [], 212), [(2, (1, [])), (0, (0, [(0, 1)])), (0, (0, [(1, 1)]))], [(([(0, 239), (0, 239), ((-9223372036854775808), 9223372036854775807)], [], [], 212), some (1, (0, [(2, 1)])))])
def s_147 : List aCt := [c_136]
def h_147_0 : Nat × aS × Fm := (5, ([(0, (2, (1, []))), (1, (0, (0, [(0, 1)]))), (2, (0, (0, [(1, 1)]))), (3, (1, (0, [(3, 1)]))), (5, (0, (0, [(2, 1)])))], [], ([(0, 239), (0, 239), (0, 6), ((-9223372036854775808), 9223372036854775807)], [], [], 212)), (13, [(2, (-2))]))
def h_147 : List (Nat × aS × Fm) := [h_147_0]
theorem e_147 : ckE 6000 gT s_147 (fun _ => 0) sp0 c_147 h_147 = true := by decide +kernel
theorem g_147_0 : ([h_147_0].all fun H => ckH 6000 gT s_147 (fun _ => 0) sp0 c_147 h_147 H) = true := by decide +kernel
theorem k_147 (hB : BytesOK) (g : bG) (l : Launch) : Keeps g l gT c_147 := keeps_of hB.1 hB.2 (List.forall_mem_cons.mpr ⟨k_136 hB g l, nilK⟩) e_147 (List.all_eq_true.mp g_147_0)
/-- B.sum ((('c', 0), ('u', 0), ('u', 0)), ()) -/
def c_148 : aCt := (147, 5, some [], false, ([((-2147483648), 2147483647), ((-2147483648), 2147483647)], [], [], 212), [(2, (0, [])), (0, (0, [(0, 1)])), (0, (0, [(1, 1)]))], [(([((-2147483648), 2147483647), ((-2147483648), 2147483647), ((-2147483648), 2147483647)], [], [], 212), some (0, (0, [(2, 1)])))])
def s_148 : List aCt := [c_147]
def h_148 : List (Nat × aS × Fm) := []
theorem e_148 : ckE 6000 gT s_148 (fun _ => 0) sp0 c_148 h_148 = true := by decide +kernel
theorem k_148 (hB : BytesOK) (g : bG) (l : Launch) : Keeps g l gT c_148 := keeps_of hB.1 hB.2 (List.forall_mem_cons.mpr ⟨k_147 hB g l, nilK⟩) e_148 nilK
/-- java/lang/Integer.bitCount ((('u', 0),), ()) -/
def c_149 : aCt := (297, 0, some [], false, ([((-2147483648), 2147483647)], [], [], 212), [(0, (0, [(0, 1)]))], [(([((-2147483648), 2147483647), (0, 63)], [], [], 212), some (0, (0, [(1, 1)])))])
def s_149 : List aCt := []
def h_149 : List (Nat × aS × Fm) := []
theorem e_149 : ckE 6000 gT s_149 (fun _ => 0) sp0 c_149 h_149 = true := by decide +kernel
theorem k_149 (hB : BytesOK) (g : bG) (l : Launch) : Keeps g l gT c_149 := keeps_of hB.1 hB.2 (nilK) e_149 nilK
/-- Pool.weightOf ((('c', 1), ('u', 0), ('u', 0), ('u', 0), ('u', 0)), ()) -/
def c_150 : aCt := (32, 2, some [], false, ([(0, 7), (0, 239), (0, 239), ((-1), 2)], [], [], 212), [(2, (1, [])), (0, (0, [(0, 1)])), (0, (0, [(1, 1)])), (0, (0, [(2, 1)])), (0, (0, [(3, 1)]))], [(([(0, 7), (0, 239), (0, 239), ((-1), 2), (0, 207)], [], [], 212), some (0, (0, [(4, 1)])))])
def sp_150 : aSp := fun k pc S => if pc = 21 ∧ k = 32 then spL 7 [] S else none
def s_150 : List aCt := [c_29, c_18, c_149]
def h_150_0 : Nat × aS × Fm := (9, ([(0, (2, (1, []))), (1, (0, (0, [(0, 1)]))), (2, (0, (0, [(1, 1)]))), (3, (0, (0, [(2, 1)]))), (4, (0, (0, [(3, 1)]))), (5, (0, (0, [(5, 1)]))), (6, (0, (0, [(6, 1)]))), (7, (0, (0, [(4, 1)])))], [], ([(0, 7), (0, 239), (0, 239), ((-1), 2), (0, 16), (0, 144), ((-2147483648), 2147483647)], [(0, [(4, (-9)), (5, 1)])], [], 212)), (33, [(4, (-2))]))
def h_150 : List (Nat × aS × Fm) := [h_150_0]
theorem e_150 : ckE 6000 gT s_150 (fun _ => 0) sp_150 c_150 h_150 = true := by decide +kernel
theorem g_150_0 : ([h_150_0].all fun H => ckH 6000 gT s_150 (fun _ => 0) sp_150 c_150 h_150 H) = true := by decide +kernel
theorem k_150 (hB : BytesOK) (g : bG) (l : Launch) : Keeps g l gT c_150 := keeps_of hB.1 hB.2 (List.forall_mem_cons.mpr ⟨k_29 hB g l, List.forall_mem_cons.mpr ⟨k_18 hB g l, List.forall_mem_cons.mpr ⟨k_149 hB g l, nilK⟩⟩⟩) e_150 (List.all_eq_true.mp g_150_0)
/-- Pool.weigh ((('c', 1), ('u', 0), ('u', 0)), ()) -/
def c_151 : aCt := (33, 3, some [(1, 8, 9), (42, 0, 8)], false, ([(0, 239), (0, 239)], [], [], 212), [(2, (1, [])), (0, (0, [(0, 1)])), (0, (0, [(1, 1)]))], [(([(0, 239), (0, 239)], [], [], 212), none)])
def sp_151 : aSp := fun k pc S => if pc = 24 ∧ k = 33 then spL 4 [] S else none
def s_151 : List aCt := [c_134, c_150, c_20]
def h_151_0 : Nat × aS × Fm := (17, ([(0, (2, (1, []))), (1, (0, (0, [(0, 1)]))), (2, (0, (0, [(1, 1)]))), (3, (0, (0, [(4, 1)]))), (4, (0, (0, [(2, 1)])))], [], ([(0, 239), (0, 239), (0, 8), (0, 1763), ((-1), 2)], [(0, [(2, (-207)), (3, 1)])], [((1, 8), (0, [(3, 1)]))], 212)), (17, [(2, (-2))]))
def h_151 : List (Nat × aS × Fm) := [h_151_0]
theorem e_151 : ckE 6000 gT s_151 (fun _ => 0) sp_151 c_151 h_151 = true := by decide +kernel
theorem g_151_0 : ([h_151_0].all fun H => ckH 6000 gT s_151 (fun _ => 0) sp_151 c_151 h_151 H) = true := by decide +kernel
theorem k_151 (hB : BytesOK) (g : bG) (l : Launch) : Keeps g l gT c_151 := keeps_of hB.1 hB.2 (List.forall_mem_cons.mpr ⟨k_134 hB g l, List.forall_mem_cons.mpr ⟨k_150 hB g l, List.forall_mem_cons.mpr ⟨k_20 hB g l, nilK⟩⟩⟩) e_151 (List.all_eq_true.mp g_151_0)
/-- Pool.cutPart ((('c', 1), ('u', 0), ('u', 1)), ()) -/
def c_152 : aCt := (35, 0, some [], false, ([(0, 7), ((-9223372036854775808), 9223372036854775807)], [], [], 212), [(2, (1, [])), (0, (0, [(0, 1)])), (1, (0, [(1, 1)]))], [(([(0, 7), ((-9223372036854775808), 9223372036854775807), ((-9223372036854775808), 9223372036854775807)], [], [], 212), some (1, (0, [(2, 1)])))])
def s_152 : List aCt := []
def h_152 : List (Nat × aS × Fm) := []
theorem e_152 : ckE 6000 gT s_152 (fun _ => 0) sp0 c_152 h_152 = true := by decide +kernel
theorem k_152 (hB : BytesOK) (g : bG) (l : Launch) : Keeps g l gT c_152 := keeps_of hB.1 hB.2 (nilK) e_152 nilK
/-- Pool.shareOf ((('c', 1), ('u', 0), ('u', 1)), ()) -/
def c_153 : aCt := (36, 1, some [], false, ([(0, 7), ((-9223372036854775808), 9223372036854775807)], [], [], 212), [(2, (1, [])), (0, (0, [(0, 1)])), (1, (0, [(1, 1)]))], [(([(0, 7), ((-9223372036854775808), 9223372036854775807), ((-9223372036854775808), 9223372036854775807)], [], [], 212), some (1, (0, [(2, 1)])))])
def s_153 : List aCt := [c_152]
def h_153_0 : Nat × aS × Fm := (27, ([(0, (2, (1, []))), (1, (0, (0, [(0, 1)]))), (2, (1, (0, [(1, 1)]))), (4, (1, (0, [(2, 1)]))), (6, (0, (0, [(4, 1)]))), (7, (0, (0, [(3, 1)])))], [], ([(0, 7), ((-9223372036854775808), 9223372036854775807), ((-9223372036854775808), 9223372036854775807), (0, 8), ((-2147483648), 2147483647)], [], [], 212)), (17, [(3, (-2))]))
def h_153 : List (Nat × aS × Fm) := [h_153_0]
theorem e_153 : ckE 6000 gT s_153 (fun _ => 0) sp0 c_153 h_153 = true := by decide +kernel
theorem g_153_0 : ([h_153_0].all fun H => ckH 6000 gT s_153 (fun _ => 0) sp0 c_153 h_153 H) = true := by decide +kernel
theorem k_153 (hB : BytesOK) (g : bG) (l : Launch) : Keeps g l gT c_153 := keeps_of hB.1 hB.2 (List.forall_mem_cons.mpr ⟨k_152 hB g l, nilK⟩) e_153 (List.all_eq_true.mp g_153_0)
/-- B.share ((('c', 0), ('u', 0), ('u', 0), ('u', 0)), ()) -/
def c_154 : aCt := (148, 5, some [(1, 8, 9), (42, 0, 8)], false, ([((-2147483648), 2147483647), ((-2147483648), 2147483647), ((-2147483648), 2147483647)], [], [], 212), [(2, (0, [])), (0, (0, [(0, 1)])), (0, (0, [(1, 1)])), (0, (0, [(2, 1)]))], [(([((-2147483648), 2147483647), ((-2147483648), 2147483647), ((-2147483648), 2147483647), ((-2147483648), 2147483647)], [], [], 212), some (0, (0, [(3, 1)])))])
def s_154 : List aCt := [c_147, c_151, c_153]
def h_154 : List (Nat × aS × Fm) := []
theorem e_154 : ckE 6000 gT s_154 (fun _ => 0) sp0 c_154 h_154 = true := by decide +kernel
theorem k_154 (hB : BytesOK) (g : bG) (l : Launch) : Keeps g l gT c_154 := keeps_of hB.1 hB.2 (List.forall_mem_cons.mpr ⟨k_147 hB g l, List.forall_mem_cons.mpr ⟨k_151 hB g l, List.forall_mem_cons.mpr ⟨k_153 hB g l, nilK⟩⟩⟩) e_154 nilK
/-- Rows.become ((('c', 178), ('c', 1), ('u', 0)), ()) -/
def c_155 : aCt := (59, 5, some [(1, 8, 9), (42, 0, 8), (178, 0, 1), (179, 0, 8), (180, 0, 8)], false, ([(0, 239)], [], [], 212), [(2, (178, [])), (2, (1, [])), (0, (0, [(0, 1)]))], [(([(0, 239)], [], [], 212), none)])
def sp_155 : aSp := fun k pc S => if pc = 53 ∧ k = 59 then spL 5 [] S else none
def s_155 : List aCt := [c_147, c_151, c_153]
def h_155_0 : Nat × aS × Fm := (33, ([(0, (2, (178, []))), (1, (2, (1, []))), (2, (0, (0, [(0, 1)]))), (3, (1, (0, [(3, 1)]))), (5, (0, (0, [(1, 1)])))], [], ([(0, 239), (0, 8), (0, 8), ((-9223372036854775808), 9223372036854775807)], [(0, [(1, (-1)), (2, 1)])], [((178, 0), (0, [(2, 1)]))], 212)), (17, [(1, (-2))]))
def h_155 : List (Nat × aS × Fm) := [h_155_0]
theorem e_155 : ckE 6000 gT s_155 (fun _ => 0) sp_155 c_155 h_155 = true := by decide +kernel
theorem g_155_0 : ([h_155_0].all fun H => ckH 6000 gT s_155 (fun _ => 0) sp_155 c_155 h_155 H) = true := by decide +kernel
theorem k_155 (hB : BytesOK) (g : bG) (l : Launch) : Keeps g l gT c_155 := keeps_of hB.1 hB.2 (List.forall_mem_cons.mpr ⟨k_147 hB g l, List.forall_mem_cons.mpr ⟨k_151 hB g l, List.forall_mem_cons.mpr ⟨k_153 hB g l, nilK⟩⟩⟩) e_155 (List.all_eq_true.mp g_155_0)
/-- B.prove ((('c', 0), ('u', 0)), ()) -/
def c_156 : aCt := (149, 6, some [(1, 8, 9), (42, 0, 8), (178, 0, 1), (179, 0, 8), (180, 0, 8)], false, ([((-2147483648), 2147483647)], [], [], 212), [(2, (0, [])), (0, (0, [(0, 1)]))], [(([((-2147483648), 2147483647), ((-1), 8)], [], [], 212), some (0, (0, [(1, 1)])))])
def s_156 : List aCt := [c_155]
def h_156 : List (Nat × aS × Fm) := []
theorem e_156 : ckE 6000 gT s_156 (fun _ => 0) sp0 c_156 h_156 = true := by decide +kernel
theorem k_156 (hB : BytesOK) (g : bG) (l : Launch) : Keeps g l gT c_156 := keeps_of hB.1 hB.2 (List.forall_mem_cons.mpr ⟨k_155 hB g l, nilK⟩) e_156 nilK
/-- B.row ((('c', 0), ('u', 0), ('u', 0)), ()) -/
def c_157 : aCt := (150, 2, some [], false, ([((-2147483648), 2147483647), ((-2147483648), 2147483647)], [], [], 212), [(2, (0, [])), (0, (0, [(0, 1)])), (0, (0, [(1, 1)]))], [(([((-2147483648), 2147483647), ((-2147483648), 2147483647), ((-2147483648), 2147483647)], [], [], 212), some (0, (0, [(2, 1)])))])
def s_157 : List aCt := []
def h_157 : List (Nat × aS × Fm) := []
theorem e_157 : ckE 6000 gT s_157 (fun _ => 0) sp0 c_157 h_157 = true := by decide +kernel
theorem k_157 (hB : BytesOK) (g : bG) (l : Launch) : Keeps g l gT c_157 := keeps_of hB.1 hB.2 (nilK) e_157 nilK
/-- Rows.alter ((('c', 178), ('u', 0), ('u', 0), ('u', 0)), ()) -/
def c_158 : aCt := (62, 2, some [(179, 0, 8), (180, 0, 8)], false, ([((-2147483648), 2147483647), ((-2147483648), 2147483647), ((-2147483648), 2147483647)], [], [], 212), [(2, (178, [])), (0, (0, [(0, 1)])), (0, (0, [(1, 1)])), (0, (0, [(2, 1)]))], [(([((-2147483648), 2147483647), ((-2147483648), 2147483647), ((-2147483648), 2147483647), ((-2147483648), 2147483647)], [], [], 212), some (0, (0, [(3, 1)])))])
def s_158 : List aCt := []
def h_158 : List (Nat × aS × Fm) := []
theorem e_158 : ckE 6000 gT s_158 (fun _ => 0) sp0 c_158 h_158 = true := by decide +kernel
theorem k_158 (hB : BytesOK) (g : bG) (l : Launch) : Keeps g l gT c_158 := keeps_of hB.1 hB.2 (nilK) e_158 nilK
/-- B.alterRow ((('c', 0), ('u', 0), ('u', 0), ('u', 0)), ()) -/
def c_159 : aCt := (151, 3, some [(179, 0, 8), (180, 0, 8)], false, ([((-2147483648), 2147483647), ((-2147483648), 2147483647), ((-2147483648), 2147483647)], [], [], 212), [(2, (0, [])), (0, (0, [(0, 1)])), (0, (0, [(1, 1)])), (0, (0, [(2, 1)]))], [(([((-2147483648), 2147483647), ((-2147483648), 2147483647), ((-2147483648), 2147483647), ((-2147483648), 2147483647)], [], [], 212), some (0, (0, [(3, 1)])))])
def s_159 : List aCt := [c_158]
def h_159 : List (Nat × aS × Fm) := []
theorem e_159 : ckE 6000 gT s_159 (fun _ => 0) sp0 c_159 h_159 = true := by decide +kernel
theorem k_159 (hB : BytesOK) (g : bG) (l : Launch) : Keeps g l gT c_159 := keeps_of hB.1 hB.2 (List.forall_mem_cons.mpr ⟨k_158 hB g l, nilK⟩) e_159 nilK
/-- Rows.isRight ((('c', 178), ('u', 0), ('c', 1), ('u', 1)), ()) -/
def c_160 : aCt := (64, 1, some [], false, ([(0, 7), ((-9223372036854775808), 9223372036854775807)], [], [], 212), [(2, (178, [])), (0, (0, [(0, 1)])), (2, (1, [])), (1, (0, [(1, 1)]))], [(([(0, 7), ((-9223372036854775808), 9223372036854775807), (0, 1)], [], [], 212), some (0, (0, [(2, 1)])))])
def sp_160 : aSp := fun k pc S => if pc = 0 ∧ k = 64 then spL 1 [0, 1, 2, 3, 4, 5, 6] S else none
def s_160 : List aCt := [c_152]
def h_160 : List (Nat × aS × Fm) := []
theorem e_160 : ckE 6000 gT s_160 (fun _ => 0) sp_160 c_160 h_160 = true := by decide +kernel
theorem k_160 (hB : BytesOK) (g : bG) (l : Launch) : Keeps g l gT c_160 := keeps_of hB.1 hB.2 (List.forall_mem_cons.mpr ⟨k_152 hB g l, nilK⟩) e_160 nilK
