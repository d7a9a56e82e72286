/-- B.drawn ((('c', 0), ('u', 0), ('u', 0), ('u', 0)), ()) -/
def c_141 : aCt := (145, 2, some [(17, 14, 15), (28, 0, 12), (29, 0, 12)], false, ([((-2147483648), 2147483647), ((-2147483648), 2147483647), ((-2147483648), 2147483647)], [], [], 212), [(2, (0, [])), (0, (0, [(0, 1)])), (0, (0, [(1, 1)])), (0, (0, [(2, 1)]))], [(([((-2147483648), 2147483647), ((-2147483648), 2147483647), ((-2147483648), 2147483647), ((-2), 11)], [], [], 212), some (0, (0, [(3, 1)])))])
def s_141 : List aCt := [c_140]
def h_141 : List (Nat × aS × Fm) := []
theorem e_141 : ckE 6000 gT s_141 (fun _ => 0) sp0 c_141 h_141 = true := by decide +kernel
theorem k_141 (hB : BytesOK) (g : bG) (l : Launch) : Keeps g l gT c_141 := keeps_of hB.1 hB.2 (List.forall_mem_cons.mpr ⟨k_140 hB g l, nilK⟩) e_141 nilK
/-- Trade.isFirstDraw ((('c', 17), ('u', 0)), ()) -/
def c_142 : aCt := (119, 0, some [], false, ([(0, 11)], [], [], 212), [(2, (17, [])), (0, (0, [(0, 1)]))], [(([(0, 11), (0, 1)], [], [], 212), some (0, (0, [(1, 1)])))])
def s_142 : List aCt := []
def h_142_0 : Nat × aS × Fm := (2, ([(0, (2, (17, []))), (1, (0, (0, [(0, 1)]))), (2, (0, (0, [(1, 1)])))], [], ([(0, 11), (0, 11)], [], [], 212)), (23, [(1, (-2))]))
def h_142 : List (Nat × aS × Fm) := [h_142_0]
theorem e_142 : ckE 6000 gT s_142 (fun _ => 0) sp0 c_142 h_142 = true := by decide +kernel
theorem g_142_0 : ([h_142_0].all fun H => ckH 6000 gT s_142 (fun _ => 0) sp0 c_142 h_142 H) = true := by decide +kernel
theorem k_142 (hB : BytesOK) (g : bG) (l : Launch) : Keeps g l gT c_142 := keeps_of hB.1 hB.2 (nilK) e_142 (List.all_eq_true.mp g_142_0)
/-- Trade.greatestFrom ((('c', 17), ('u', 0)), ()) -/
def c_143 : aCt := (120, 1, some [], false, ([(0, 2147483647)], [], [], 212), [(2, (17, [])), (0, (0, [(0, 1)]))], [(([(0, 2147483647), (0, 9999)], [], [], 212), some (0, (0, [(1, 1)])))])
def s_143 : List aCt := []
def h_143_0 : Nat × aS × Fm := (4, ([(0, (2, (17, []))), (1, (0, (0, [(0, 1)]))), (2, (0, (0, [(2, 1)]))), (3, (0, (0, [(1, 1)])))], [], ([(0, 2147483647), (0, 12), (0, 9999)], [], [], 212)), (25, [(1, (-2))]))
def h_143 : List (Nat × aS × Fm) := [h_143_0]
theorem e_143 : ckE 6000 gT s_143 (fun _ => 0) sp0 c_143 h_143 = true := by decide +kernel
theorem g_143_0 : ([h_143_0].all fun H => ckH 6000 gT s_143 (fun _ => 0) sp0 c_143 h_143 H) = true := by decide +kernel
theorem k_143 (hB : BytesOK) (g : bG) (l : Launch) : Keeps g l gT c_143 := keeps_of hB.1 hB.2 (nilK) e_143 (List.all_eq_true.mp g_143_0)
/-- Trade.belowDrawn ((('c', 17), ('u', 0), ('u', 0)), ()) -/
def c_144 : aCt := (118, 2, some [], false, ([(0, 5), (0, 239)], [], [], 212), [(2, (17, [])), (0, (0, [(0, 1)])), (0, (0, [(1, 1)]))], [(([(0, 5), (0, 239), ((-2147483648), 2147483647)], [], [], 212), some (0, (0, [(2, 1)])))])
def s_144 : List aCt := [c_106, c_142, c_143]
def h_144_0 : Nat × aS × Fm := (5, ([(0, (2, (17, []))), (1, (0, (0, [(0, 1)]))), (2, (0, (0, [(1, 1)]))), (3, (0, (0, [(3, 1)]))), (4, (0, (0, [(2, 1)])))], [], ([(0, 5), (0, 239), (0, 12), ((-2147483648), 2147483647)], [], [], 212)), (25, [(2, (-2))]))
def h_144 : List (Nat × aS × Fm) := [h_144_0]
theorem e_144 : ckE 6000 gT s_144 (fun _ => 0) sp0 c_144 h_144 = true := by decide +kernel
theorem g_144_0 : ([h_144_0].all fun H => ckH 6000 gT s_144 (fun _ => 0) sp0 c_144 h_144 H) = true := by decide +kernel
theorem k_144 (hB : BytesOK) (g : bG) (l : Launch) : Keeps g l gT c_144 := keeps_of hB.1 hB.2 (List.forall_mem_cons.mpr ⟨k_106 hB g l, List.forall_mem_cons.mpr ⟨k_142 hB g l, List.forall_mem_cons.mpr ⟨k_143 hB g l, nilK⟩⟩⟩) e_144 (List.all_eq_true.mp g_144_0)
/-- B.under ((('c', 0), ('u', 0), ('u', 0)), ()) -/
def c_145 : aCt := (146, 3, some [], false, ([((-2147483648), 2147483647), ((-2147483648), 2147483647)], [], [], 212), [(2, (0, [])), (0, (0, [(0, 1)])), (0, (0, [(1, 1)]))], [(([((-2147483648), 2147483647), ((-2147483648), 2147483647), ((-2147483648), 2147483647)], [], [], 212), some (0, (0, [(2, 1)])))])
def s_145 : List aCt := [c_144]
def h_145 : List (Nat × aS × Fm) := []
theorem e_145 : ckE 6000 gT s_145 (fun _ => 0) sp0 c_145 h_145 = true := by decide +kernel
theorem k_145 (hB : BytesOK) (g : bG) (l : Launch) : Keeps g l gT c_145 := keeps_of hB.1 hB.2 (List.forall_mem_cons.mpr ⟨k_144 hB g l, nilK⟩) e_145 nilK
/-- Pool.monthSum ((('c', 1), ('u', 0), ('u', 0)), ()) -/
def c_146 : aCt := (31, 4, some [], false, ([(0, 239), (0, 239)], [], [], 212), [(2, (1, [])), (0, (0, [(0, 1)])), (0, (0, [(1, 1)]))], [(([(0, 239), (0, 239), ((-9223372036854775808), 9223372036854775807)], [], [], 212), some (1, (0, [(2, 1)])))])
def s_146 : List aCt := [c_133]
def h_146_0 : Nat × aS × Fm := (5, ([(0, (2, (1, []))), (1, (0, (0, [(0, 1)]))), (2, (0, (0, [(1, 1)]))), (3, (1, (0, [(3, 1)]))), (5, (0, (0, [(2, 1)])))], [], ([(0, 239), (0, 239), (0, 6), ((-9223372036854775808), 9223372036854775807)], [], [], 212)), (13, [(2, (-2))]))
def h_146 : List (Nat × aS × Fm) := [h_146_0]
theorem e_146 : ckE 6000 gT s_146 (fun _ => 0) sp0 c_146 h_146 = true := by decide +kernel
theorem g_146_0 : ([h_146_0].all fun H => ckH 6000 gT s_146 (fun _ => 0) sp0 c_146 h_146 H) = true := by decide +kernel
theorem k_146 (hB : BytesOK) (g : bG) (l : Launch) : Keeps g l gT c_146 := keeps_of hB.1 hB.2 (List.forall_mem_cons.mpr ⟨k_133 hB g l, nilK⟩) e_146 (List.all_eq_true.mp g_146_0)
/-- B.sum ((('c', 0), ('u', 0), ('u', 0)), ()) -/
def c_147 : aCt := (147, 5, some [], false, ([((-2147483648), 2147483647), ((-2147483648), 2147483647)], [], [], 212), [(2, (0, [])), (0, (0, [(0, 1)])), (0, (0, [(1, 1)]))], [(([((-2147483648), 2147483647), ((-2147483648), 2147483647), ((-2147483648), 2147483647)], [], [], 212), some (0, (0, [(2, 1)])))])
def s_147 : List aCt := [c_146]
def h_147 : List (Nat × aS × Fm) := []
theorem e_147 : ckE 6000 gT s_147 (fun _ => 0) sp0 c_147 h_147 = true := by decide +kernel
theorem k_147 (hB : BytesOK) (g : bG) (l : Launch) : Keeps g l gT c_147 := keeps_of hB.1 hB.2 (List.forall_mem_cons.mpr ⟨k_146 hB g l, nilK⟩) e_147 nilK
/-- java/lang/Integer.bitCount ((('u', 0),), ()) -/
def c_148 : aCt := (297, 0, some [], false, ([((-2147483648), 2147483647)], [], [], 212), [(0, (0, [(0, 1)]))], [(([((-2147483648), 2147483647), (0, 63)], [], [], 212), some (0, (0, [(1, 1)])))])
def s_148 : List aCt := []
def h_148 : List (Nat × aS × Fm) := []
theorem e_148 : ckE 6000 gT s_148 (fun _ => 0) sp0 c_148 h_148 = true := by decide +kernel
theorem k_148 (hB : BytesOK) (g : bG) (l : Launch) : Keeps g l gT c_148 := keeps_of hB.1 hB.2 (nilK) e_148 nilK
/-- Pool.weightOf ((('c', 1), ('u', 0), ('u', 0), ('u', 0), ('u', 0)), ()) -/
def c_149 : aCt := (32, 2, some [], false, ([(0, 7), (0, 239), (0, 239), ((-1), 2)], [], [], 212), [(2, (1, [])), (0, (0, [(0, 1)])), (0, (0, [(1, 1)])), (0, (0, [(2, 1)])), (0, (0, [(3, 1)]))], [(([(0, 7), (0, 239), (0, 239), ((-1), 2), (0, 207)], [], [], 212), some (0, (0, [(4, 1)])))])
def sp_149 : aSp := fun k pc S => if pc = 21 ∧ k = 32 then spL 7 [] S else none
def s_149 : List aCt := [c_28, c_17, c_148]
def h_149_0 : Nat × aS × Fm := (9, ([(0, (2, (1, []))), (1, (0, (0, [(0, 1)]))), (2, (0, (0, [(1, 1)]))), (3, (0, (0, [(2, 1)]))), (4, (0, (0, [(3, 1)]))), (5, (0, (0, [(5, 1)]))), (6, (0, (0, [(6, 1)]))), (7, (0, (0, [(4, 1)])))], [], ([(0, 7), (0, 239), (0, 239), ((-1), 2), (0, 16), (0, 144), ((-2147483648), 2147483647)], [(0, [(4, (-9)), (5, 1)])], [], 212)), (33, [(4, (-2))]))
def h_149 : List (Nat × aS × Fm) := [h_149_0]
theorem e_149 : ckE 6000 gT s_149 (fun _ => 0) sp_149 c_149 h_149 = true := by decide +kernel
theorem g_149_0 : ([h_149_0].all fun H => ckH 6000 gT s_149 (fun _ => 0) sp_149 c_149 h_149 H) = true := by decide +kernel
theorem k_149 (hB : BytesOK) (g : bG) (l : Launch) : Keeps g l gT c_149 := keeps_of hB.1 hB.2 (List.forall_mem_cons.mpr ⟨k_28 hB g l, List.forall_mem_cons.mpr ⟨k_17 hB g l, List.forall_mem_cons.mpr ⟨k_148 hB g l, nilK⟩⟩⟩) e_149 (List.all_eq_true.mp g_149_0)
/-- Pool.weigh ((('c', 1), ('u', 0), ('u', 0)), ()) -/
def c_150 : aCt := (33, 3, some [(1, 8, 9), (42, 0, 8)], false, ([(0, 239), (0, 239)], [], [], 212), [(2, (1, [])), (0, (0, [(0, 1)])), (0, (0, [(1, 1)]))], [(([(0, 239), (0, 239)], [], [], 212), none)])
def sp_150 : aSp := fun k pc S => if pc = 24 ∧ k = 33 then spL 4 [] S else none
def s_150 : List aCt := [c_131, c_149, c_19]
def h_150_0 : Nat × aS × Fm := (17, ([(0, (2, (1, []))), (1, (0, (0, [(0, 1)]))), (2, (0, (0, [(1, 1)]))), (3, (0, (0, [(4, 1)]))), (4, (0, (0, [(2, 1)])))], [], ([(0, 239), (0, 239), (0, 8), (0, 1763), ((-1), 2)], [(0, [(2, (-207)), (3, 1)])], [((1, 8), (0, [(3, 1)]))], 212)), (17, [(2, (-2))]))
def h_150 : List (Nat × aS × Fm) := [h_150_0]
theorem e_150 : ckE 6000 gT s_150 (fun _ => 0) sp_150 c_150 h_150 = true := by decide +kernel
theorem g_150_0 : ([h_150_0].all fun H => ckH 6000 gT s_150 (fun _ => 0) sp_150 c_150 h_150 H) = true := by decide +kernel
theorem k_150 (hB : BytesOK) (g : bG) (l : Launch) : Keeps g l gT c_150 := keeps_of hB.1 hB.2 (List.forall_mem_cons.mpr ⟨k_131 hB g l, List.forall_mem_cons.mpr ⟨k_149 hB g l, List.forall_mem_cons.mpr ⟨k_19 hB g l, nilK⟩⟩⟩) e_150 (List.all_eq_true.mp g_150_0)
/-- Pool.cutPart ((('c', 1), ('u', 0), ('u', 1)), ()) -/
def c_151 : aCt := (35, 0, some [], false, ([(0, 7), ((-9223372036854775808), 9223372036854775807)], [], [], 212), [(2, (1, [])), (0, (0, [(0, 1)])), (1, (0, [(1, 1)]))], [(([(0, 7), ((-9223372036854775808), 9223372036854775807), ((-9223372036854775808), 9223372036854775807)], [], [], 212), some (1, (0, [(2, 1)])))])
def s_151 : List aCt := []
def h_151 : List (Nat × aS × Fm) := []
theorem e_151 : ckE 6000 gT s_151 (fun _ => 0) sp0 c_151 h_151 = true := by decide +kernel
theorem k_151 (hB : BytesOK) (g : bG) (l : Launch) : Keeps g l gT c_151 := keeps_of hB.1 hB.2 (nilK) e_151 nilK
/-- Pool.shareOf ((('c', 1), ('u', 0), ('u', 1)), ()) -/
def c_152 : aCt := (36, 1, some [], false, ([(0, 7), ((-9223372036854775808), 9223372036854775807)], [], [], 212), [(2, (1, [])), (0, (0, [(0, 1)])), (1, (0, [(1, 1)]))], [(([(0, 7), ((-9223372036854775808), 9223372036854775807), ((-9223372036854775808), 9223372036854775807)], [], [], 212), some (1, (0, [(2, 1)])))])
def s_152 : List aCt := [c_151]
def h_152_0 : Nat × aS × Fm := (27, ([(0, (2, (1, []))), (1, (0, (0, [(0, 1)]))), (2, (1, (0, [(1, 1)]))), (4, (1, (0, [(2, 1)]))), (6, (0, (0, [(4, 1)]))), (7, (0, (0, [(3, 1)])))], [], ([(0, 7), ((-9223372036854775808), 9223372036854775807), ((-9223372036854775808), 9223372036854775807), (0, 8), ((-2147483648), 2147483647)], [], [], 212)), (17, [(3, (-2))]))
def h_152 : List (Nat × aS × Fm) := [h_152_0]
theorem e_152 : ckE 6000 gT s_152 (fun _ => 0) sp0 c_152 h_152 = true := by decide +kernel
theorem g_152_0 : ([h_152_0].all fun H => ckH 6000 gT s_152 (fun _ => 0) sp0 c_152 h_152 H) = true := by decide +kernel
theorem k_152 (hB : BytesOK) (g : bG) (l : Launch) : Keeps g l gT c_152 := keeps_of hB.1 hB.2 (List.forall_mem_cons.mpr ⟨k_151 hB g l, nilK⟩) e_152 (List.all_eq_true.mp g_152_0)
/-- B.share ((('c', 0), ('u', 0), ('u', 0), ('u', 0)), ()) -/
def c_153 : aCt := (148, 5, some [(1, 8, 9), (42, 0, 8)], false, ([((-2147483648), 2147483647), ((-2147483648), 2147483647), ((-2147483648), 2147483647)], [], [], 212), [(2, (0, [])), (0, (0, [(0, 1)])), (0, (0, [(1, 1)])), (0, (0, [(2, 1)]))], [(([((-2147483648), 2147483647), ((-2147483648), 2147483647), ((-2147483648), 2147483647), ((-2147483648), 2147483647)], [], [], 212), some (0, (0, [(3, 1)])))])
def s_153 : List aCt := [c_146, c_150, c_152]
def h_153 : List (Nat × aS × Fm) := []
theorem e_153 : ckE 6000 gT s_153 (fun _ => 0) sp0 c_153 h_153 = true := by decide +kernel
theorem k_153 (hB : BytesOK) (g : bG) (l : Launch) : Keeps g l gT c_153 := keeps_of hB.1 hB.2 (List.forall_mem_cons.mpr ⟨k_146 hB g l, List.forall_mem_cons.mpr ⟨k_150 hB g l, List.forall_mem_cons.mpr ⟨k_152 hB g l, nilK⟩⟩⟩) e_153 nilK
/-- Rows.become ((('c', 178), ('c', 1), ('u', 0)), ()) -/
def c_154 : aCt := (59, 5, some [(1, 8, 9), (42, 0, 8), (178, 0, 1), (179, 0, 8), (180, 0, 8)], false, ([(0, 239)], [], [], 212), [(2, (178, [])), (2, (1, [])), (0, (0, [(0, 1)]))], [(([(0, 239)], [], [], 212), none)])
def sp_154 : aSp := fun k pc S => if pc = 53 ∧ k = 59 then spL 5 [] S else none
def s_154 : List aCt := [c_146, c_150, c_152]
def h_154_0 : Nat × aS × Fm := (33, ([(0, (2, (178, []))), (1, (2, (1, []))), (2, (0, (0, [(0, 1)]))), (3, (1, (0, [(3, 1)]))), (5, (0, (0, [(1, 1)])))], [], ([(0, 239), (0, 8), (0, 8), ((-9223372036854775808), 9223372036854775807)], [(0, [(1, (-1)), (2, 1)])], [((178, 0), (0, [(2, 1)]))], 212)), (17, [(1, (-2))]))
def h_154 : List (Nat × aS × Fm) := [h_154_0]
theorem e_154 : ckE 6000 gT s_154 (fun _ => 0) sp_154 c_154 h_154 = true := by decide +kernel
theorem g_154_0 : ([h_154_0].all fun H => ckH 6000 gT s_154 (fun _ => 0) sp_154 c_154 h_154 H) = true := by decide +kernel
theorem k_154 (hB : BytesOK) (g : bG) (l : Launch) : Keeps g l gT c_154 := keeps_of hB.1 hB.2 (List.forall_mem_cons.mpr ⟨k_146 hB g l, List.forall_mem_cons.mpr ⟨k_150 hB g l, List.forall_mem_cons.mpr ⟨k_152 hB g l, nilK⟩⟩⟩) e_154 (List.all_eq_true.mp g_154_0)
/-- B.prove ((('c', 0), ('u', 0)), ()) -/
def c_155 : aCt := (149, 6, some [(1, 8, 9), (42, 0, 8), (178, 0, 1), (179, 0, 8), (180, 0, 8)], false, ([((-2147483648), 2147483647)], [], [], 212), [(2, (0, [])), (0, (0, [(0, 1)]))], [(([((-2147483648), 2147483647), ((-1), 8)], [], [], 212), some (0, (0, [(1, 1)])))])
def s_155 : List aCt := [c_154]
def h_155 : List (Nat × aS × Fm) := []
theorem e_155 : ckE 6000 gT s_155 (fun _ => 0) sp0 c_155 h_155 = true := by decide +kernel
theorem k_155 (hB : BytesOK) (g : bG) (l : Launch) : Keeps g l gT c_155 := keeps_of hB.1 hB.2 (List.forall_mem_cons.mpr ⟨k_154 hB g l, nilK⟩) e_155 nilK
/-- B.row ((('c', 0), ('u', 0), ('u', 0)), ()) -/
def c_156 : aCt := (150, 2, some [], false, ([((-2147483648), 2147483647), ((-2147483648), 2147483647)], [], [], 212), [(2, (0, [])), (0, (0, [(0, 1)])), (0, (0, [(1, 1)]))], [(([((-2147483648), 2147483647), ((-2147483648), 2147483647), ((-2147483648), 2147483647)], [], [], 212), some (0, (0, [(2, 1)])))])
def s_156 : List aCt := []
def h_156 : List (Nat × aS × Fm) := []
theorem e_156 : ckE 6000 gT s_156 (fun _ => 0) sp0 c_156 h_156 = true := by decide +kernel
theorem k_156 (hB : BytesOK) (g : bG) (l : Launch) : Keeps g l gT c_156 := keeps_of hB.1 hB.2 (nilK) e_156 nilK
/-- Rows.alter ((('c', 178), ('u', 0), ('u', 0), ('u', 0)), ()) -/
def c_157 : aCt := (62, 2, some [(179, 0, 8), (180, 0, 8)], false, ([((-2147483648), 2147483647), ((-2147483648), 2147483647), ((-2147483648), 2147483647)], [], [], 212), [(2, (178, [])), (0, (0, [(0, 1)])), (0, (0, [(1, 1)])), (0, (0, [(2, 1)]))], [(([((-2147483648), 2147483647), ((-2147483648), 2147483647), ((-2147483648), 2147483647), ((-2147483648), 2147483647)], [], [], 212), some (0, (0, [(3, 1)])))])
def s_157 : List aCt := []
def h_157 : List (Nat × aS × Fm) := []
theorem e_157 : ckE 6000 gT s_157 (fun _ => 0) sp0 c_157 h_157 = true := by decide +kernel
theorem k_157 (hB : BytesOK) (g : bG) (l : Launch) : Keeps g l gT c_157 := keeps_of hB.1 hB.2 (nilK) e_157 nilK
/-- B.alterRow ((('c', 0), ('u', 0), ('u', 0), ('u', 0)), ()) -/
def c_158 : aCt := (151, 3, some [(179, 0, 8), (180, 0, 8)], false, ([((-2147483648), 2147483647), ((-2147483648), 2147483647), ((-2147483648), 2147483647)], [], [], 212), [(2, (0, [])), (0, (0, [(0, 1)])), (0, (0, [(1, 1)])), (0, (0, [(2, 1)]))], [(([((-2147483648), 2147483647), ((-2147483648), 2147483647), ((-2147483648), 2147483647), ((-2147483648), 2147483647)], [], [], 212), some (0, (0, [(3, 1)])))])
def s_158 : List aCt := [c_157]
def h_158 : List (Nat × aS × Fm) := []
theorem e_158 : ckE 6000 gT s_158 (fun _ => 0) sp0 c_158 h_158 = true := by decide +kernel
theorem k_158 (hB : BytesOK) (g : bG) (l : Launch) : Keeps g l gT c_158 := keeps_of hB.1 hB.2 (List.forall_mem_cons.mpr ⟨k_157 hB g l, nilK⟩) e_158 nilK
/-- Rows.isRight ((('c', 178), ('u', 0), ('c', 1), ('u', 1)), ()) -/
def c_159 : aCt := (64, 1, some [], false, ([(0, 7), ((-9223372036854775808), 9223372036854775807)], [], [], 212), [(2, (178, [])), (0, (0, [(0, 1)])), (2, (1, [])), (1, (0, [(1, 1)]))], [(([(0, 7), ((-9223372036854775808), 9223372036854775807), (0, 1)], [], [], 212), some (0, (0, [(2, 1)])))])
def sp_159 : aSp := fun k pc S => if pc = 0 ∧ k = 64 then spL 1 [0, 1, 2, 3, 4, 5, 6] S else none
def s_159 : List aCt := [c_151]
def h_159 : List (Nat × aS × Fm) := []
theorem e_159 : ckE 6000 gT s_159 (fun _ => 0) sp_159 c_159 h_159 = true := by decide +kernel
theorem k_159 (hB : BytesOK) (g : bG) (l : Launch) : Keeps g l gT c_159 := keeps_of hB.1 hB.2 (List.forall_mem_cons.mpr ⟨k_151 hB g l, nilK⟩) e_159 nilK
/-- Rows.firstWrong ((('c', 178), ('c', 1), ('u', 0)), ()) -/
def c_160 : aCt := (63, 5, some [(1, 8, 9), (42, 0, 8)], false, ([(0, 239)], [], [], 212), [(2, (178, [])), (2, (1, [])), (0, (0, [(0, 1)]))], [(([(0, 239), (0, 8)], [], [], 212), some (0, (0, [(1, 1)])))])
def s_160 : List aCt := [c_146, c_150, c_159]
def h_160_0 : Nat × aS × Fm := (57, ([(0, (2, (178, []))), (1, (2, (1, []))), (2, (0, (0, [(0, 1)]))), (3, (1, (0, [(3, 1)]))), (5, (1, (0, [(1, 1)]))), (7, (0, (0, [(2, 1)])))], [], ([(0, 239), ((-9223372036854775808), 9223372036854775807), (0, 8), ((-9223372036854775808), 9223372036854775807)], [], [], 212)), (17, [(2, (-2))]))
def h_160 : List (Nat × aS × Fm) := [h_160_0]
theorem e_160 : ckE 6000 gT s_160 (fun _ => 0) sp0 c_160 h_160 = true := by decide +kernel
theorem g_160_0 : ([h_160_0].all fun H => ckH 6000 gT s_160 (fun _ => 0) sp0 c_160 h_160 H) = true := by decide +kernel
theorem k_160 (hB : BytesOK) (g : bG) (l : Launch) : Keeps g l gT c_160 := keeps_of hB.1 hB.2 (List.forall_mem_cons.mpr ⟨k_146 hB g l, List.forall_mem_cons.mpr ⟨k_150 hB g l, List.forall_mem_cons.mpr ⟨k_159 hB g l, nilK⟩⟩⟩) e_160 (List.all_eq_true.mp g_160_0)
/-- B.judge ((('c', 0), ('u', 0)), ()) -/
def c_161 : aCt := (152, 6, some [(1, 8, 9), (42, 0, 8)], false, ([((-2147483648), 2147483647)], [], [], 212), [(2, (0, [])), (0, (0, [(0, 1)]))], [(([((-2147483648), 2147483647), ((-1), 8)], [], [], 212), some (0, (0, [(1, 1)])))])
def s_161 : List aCt := [c_160]
def h_161 : List (Nat × aS × Fm) := []
theorem e_161 : ckE 6000 gT s_161 (fun _ => 0) sp0 c_161 h_161 = true := by decide +kernel
theorem k_161 (hB : BytesOK) (g : bG) (l : Launch) : Keeps g l gT c_161 := keeps_of hB.1 hB.2 (List.forall_mem_cons.mpr ⟨k_160 hB g l, nilK⟩) e_161 nilK
/-- B.ask ((('c', 0), ('u', 0), ('u', 0)), ()) -/
def c_162 : aCt := (153, 1, some [(31, 0, 8)], false, ([((-2147483648), 2147483647), ((-2147483648), 2147483647)], [], [], 212), [(2, (0, [])), (0, (0, [(0, 1)])), (0, (0, [(1, 1)]))], [(([((-2147483648), 2147483647), ((-2147483648), 2147483647), ((-1), 9999)], [], [], 212), some (0, (0, [(2, 1)])))])
def s_162 : List aCt := []
def h_162 : List (Nat × aS × Fm) := []
theorem e_162 : ckE 6000 gT s_162 (fun _ => 0) sp0 c_162 h_162 = true := by decide +kernel
theorem k_162 (hB : BytesOK) (g : bG) (l : Launch) : Keeps g l gT c_162 := keeps_of hB.1 hB.2 (nilK) e_162 nilK
