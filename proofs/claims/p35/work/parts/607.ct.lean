/-- Rows.alter ((('c', 178), ('u', 0), ('u', 0), ('u', 0)), ()) -/
def c_148 : aCt := (62, 2, some [(179, 0, 8), (180, 0, 8)], false, ([((-2147483648), 2147483647), ((-2147483648), 2147483647), ((-2147483648), 2147483647)], [], [], 212), [(2, (178, [])), (0, (0, [(0, 1)])), (0, (0, [(1, 1)])), (0, (0, [(2, 1)]))], [(([((-2147483648), 2147483647), ((-2147483648), 2147483647), ((-2147483648), 2147483647), ((-2147483648), 2147483647)], [], [], 212), some (0, (0, [(3, 1)])))])
def s_148 : List aCt := []
def h_148 : List (Nat × aS × Fm) := []
theorem e_148 : ckE 6000 gT s_148 (fun _ => 0) sp0 c_148 h_148 = true := by decide +kernel
theorem k_148 (hB : BytesOK) (g : bG) (l : Launch) : Keeps g l gT c_148 := keeps_of hB.1 hB.2 (nilK) e_148 nilK
/-- B.alterRow ((('c', 0), ('u', 0), ('u', 0), ('u', 0)), ()) -/
def c_149 : aCt := (151, 3, some [(179, 0, 8), (180, 0, 8)], false, ([((-2147483648), 2147483647), ((-2147483648), 2147483647), ((-2147483648), 2147483647)], [], [], 212), [(2, (0, [])), (0, (0, [(0, 1)])), (0, (0, [(1, 1)])), (0, (0, [(2, 1)]))], [(([((-2147483648), 2147483647), ((-2147483648), 2147483647), ((-2147483648), 2147483647), ((-2147483648), 2147483647)], [], [], 212), some (0, (0, [(3, 1)])))])
def s_149 : List aCt := [c_148]
def h_149 : List (Nat × aS × Fm) := []
theorem e_149 : ckE 6000 gT s_149 (fun _ => 0) sp0 c_149 h_149 = true := by decide +kernel
theorem k_149 (hB : BytesOK) (g : bG) (l : Launch) : Keeps g l gT c_149 := keeps_of hB.1 hB.2 (List.forall_mem_cons.mpr ⟨k_148 hB g l, nilK⟩) e_149 nilK
/-- Rows.isRight ((('c', 178), ('u', 0), ('c', 1), ('u', 1)), ()) -/
def c_150 : aCt := (64, 1, some [], false, ([(0, 7), ((-9223372036854775808), 9223372036854775807)], [], [], 212), [(2, (178, [])), (0, (0, [(0, 1)])), (2, (1, [])), (1, (0, [(1, 1)]))], [(([(0, 7), ((-9223372036854775808), 9223372036854775807), (0, 1)], [], [], 212), some (0, (0, [(2, 1)])))])
def sp_150 : aSp := fun k pc S => if pc = 0 ∧ k = 64 then spL 1 [0, 1, 2, 3, 4, 5, 6] S else none
def s_150 : List aCt := [c_142]
def h_150 : List (Nat × aS × Fm) := []
theorem e_150 : ckE 6000 gT s_150 (fun _ => 0) sp_150 c_150 h_150 = true := by decide +kernel
theorem k_150 (hB : BytesOK) (g : bG) (l : Launch) : Keeps g l gT c_150 := keeps_of hB.1 hB.2 (List.forall_mem_cons.mpr ⟨k_142 hB g l, nilK⟩) e_150 nilK
/-- Rows.firstWrong ((('c', 178), ('c', 1), ('u', 0)), ()) -/
def c_151 : aCt := (63, 5, some [(1, 8, 9), (42, 0, 8)], false, ([(0, 239)], [], [], 212), [(2, (178, [])), (2, (1, [])), (0, (0, [(0, 1)]))], [(([(0, 239), (0, 8)], [], [], 212), some (0, (0, [(1, 1)])))])
def s_151 : List aCt := [c_137, c_141, c_150]
def h_151_0 : Nat × aS × Fm := (57, ([(0, (2, (178, []))), (1, (2, (1, []))), (2, (0, (0, [(0, 1)]))), (3, (1, (0, [(3, 1)]))), (5, (1, (0, [(1, 1)]))), (7, (0, (0, [(2, 1)])))], [], ([(0, 239), ((-9223372036854775808), 9223372036854775807), (0, 8), ((-9223372036854775808), 9223372036854775807)], [], [], 212)), (17, [(2, (-2))]))
def h_151 : List (Nat × aS × Fm) := [h_151_0]
theorem e_151 : ckE 6000 gT s_151 (fun _ => 0) sp0 c_151 h_151 = true := by decide +kernel
theorem g_151_0 : ([h_151_0].all fun H => ckH 6000 gT s_151 (fun _ => 0) sp0 c_151 h_151 H) = true := by decide +kernel
theorem k_151 (hB : BytesOK) (g : bG) (l : Launch) : Keeps g l gT c_151 := keeps_of hB.1 hB.2 (List.forall_mem_cons.mpr ⟨k_137 hB g l, List.forall_mem_cons.mpr ⟨k_141 hB g l, List.forall_mem_cons.mpr ⟨k_150 hB g l, nilK⟩⟩⟩) e_151 (List.all_eq_true.mp g_151_0)
/-- B.judge ((('c', 0), ('u', 0)), ()) -/
def c_152 : aCt := (152, 6, some [(1, 8, 9), (42, 0, 8)], false, ([((-2147483648), 2147483647)], [], [], 212), [(2, (0, [])), (0, (0, [(0, 1)]))], [(([((-2147483648), 2147483647), ((-1), 8)], [], [], 212), some (0, (0, [(1, 1)])))])
def s_152 : List aCt := [c_151]
def h_152 : List (Nat × aS × Fm) := []
theorem e_152 : ckE 6000 gT s_152 (fun _ => 0) sp0 c_152 h_152 = true := by decide +kernel
theorem k_152 (hB : BytesOK) (g : bG) (l : Launch) : Keeps g l gT c_152 := keeps_of hB.1 hB.2 (List.forall_mem_cons.mpr ⟨k_151 hB g l, nilK⟩) e_152 nilK
/-- B.ask ((('c', 0), ('u', 0), ('u', 0)), ()) -/
def c_153 : aCt := (153, 1, some [(31, 0, 8)], false, ([((-2147483648), 2147483647), ((-2147483648), 2147483647)], [], [], 212), [(2, (0, [])), (0, (0, [(0, 1)])), (0, (0, [(1, 1)]))], [(([((-2147483648), 2147483647), ((-2147483648), 2147483647), ((-1), 9999)], [], [], 212), some (0, (0, [(2, 1)])))])
def s_153 : List aCt := []
def h_153 : List (Nat × aS × Fm) := []
theorem e_153 : ckE 6000 gT s_153 (fun _ => 0) sp0 c_153 h_153 = true := by decide +kernel
theorem k_153 (hB : BytesOK) (g : bG) (l : Launch) : Keeps g l gT c_153 := keeps_of hB.1 hB.2 (nilK) e_153 nilK
/-- Pool.weighAllByHeads ((('c', 1), ('u', 0)), ()) -/
def c_154 : aCt := (34, 3, some [(1, 8, 9), (42, 0, 8)], false, ([(0, 239)], [], [], 212), [(2, (1, [])), (0, (0, [(0, 1)]))], [(([(0, 239)], [], [], 212), none)])
def sp_154 : aSp := fun k pc S => if pc = 13 ∧ k = 34 then spL 2 [] S else none
def s_154 : List aCt := [c_140]
def h_154_0 : Nat × aS × Fm := (7, ([(0, (2, (1, []))), (1, (0, (0, [(0, 1)]))), (2, (0, (0, [(2, 1)])))], [], ([(0, 239), (0, 1763), (0, 8)], [(0, [(1, 1), (2, (-207))])], [((1, 8), (0, [(1, 1)]))], 212)), (17, [(2, (-2))]))
def h_154 : List (Nat × aS × Fm) := [h_154_0]
theorem e_154 : ckE 6000 gT s_154 (fun _ => 0) sp_154 c_154 h_154 = true := by decide +kernel
theorem g_154_0 : ([h_154_0].all fun H => ckH 6000 gT s_154 (fun _ => 0) sp_154 c_154 h_154 H) = true := by decide +kernel
theorem k_154 (hB : BytesOK) (g : bG) (l : Launch) : Keeps g l gT c_154 := keeps_of hB.1 hB.2 (List.forall_mem_cons.mpr ⟨k_140 hB g l, nilK⟩) e_154 (List.all_eq_true.mp g_154_0)
/-- Pool.ringPart ((('c', 1), ('u', 0), ('u', 0), ('u', 0)), ()) -/
def c_155 : aCt := (39, 0, some [], false, ([(0, 7), ((-2147483648), 2147483647), (0, 99999)], [], [], 212), [(2, (1, [])), (0, (0, [(0, 1)])), (0, (0, [(1, 1)])), (0, (0, [(2, 1)]))], [(([(0, 7), ((-2147483648), 2147483647), (0, 99999), ((-9223372036854775808), 9223372036854775807)], [], [], 212), some (1, (0, [(3, 1)])))])
def s_155 : List aCt := []
def h_155 : List (Nat × aS × Fm) := []
theorem e_155 : ckE 6000 gT s_155 (fun _ => 0) sp0 c_155 h_155 = true := by decide +kernel
theorem k_155 (hB : BytesOK) (g : bG) (l : Launch) : Keeps g l gT c_155 := keeps_of hB.1 hB.2 (nilK) e_155 nilK
/-- Pool.holdsTogether ((('c', 1), ('u', 0), ('u', 0)), ()) -/
def c_156 : aCt := (38, 1, some [], false, ([(0, 255), (0, 99999)], [], [], 212), [(2, (1, [])), (0, (0, [(0, 1)])), (0, (0, [(1, 1)]))], [(([(0, 255), (0, 99999), (0, 1)], [], [], 212), some (0, (0, [(2, 1)])))])
def s_156 : List aCt := [c_155]
def h_156_0 : Nat × aS × Fm := (5, ([(0, (2, (1, []))), (1, (0, (0, [(0, 1)]))), (2, (0, (0, [(1, 1)]))), (3, (0, (0, [(2, 1)]))), (4, (0, (0, [(3, 1)])))], [], ([(0, 255), (0, 99999), ((-2147483648), 2147483647), (0, 8)], [], [], 212)), (35, [(3, (-2))]))
def h_156_1 : Nat × aS × Fm := (55, ([(0, (2, (1, []))), (1, (0, (0, [(0, 1)]))), (2, (0, (0, [(1, 1)]))), (3, (0, (0, [(2, 1)]))), (4, (0, (0, [(3, 1)])))], [], ([(0, 255), (0, 99999), ((-2147483648), 2147483647), (0, 8)], [], [], 212)), (17, [(3, (-2))]))
def h_156 : List (Nat × aS × Fm) := [h_156_0, h_156_1]
theorem e_156 : ckE 6000 gT s_156 (fun _ => 0) sp0 c_156 h_156 = true := by decide +kernel
theorem g_156_0 : ([h_156_0, h_156_1].all fun H => ckH 6000 gT s_156 (fun _ => 0) sp0 c_156 h_156 H) = true := by decide +kernel
theorem k_156 (hB : BytesOK) (g : bG) (l : Launch) : Keeps g l gT c_156 := keeps_of hB.1 hB.2 (List.forall_mem_cons.mpr ⟨k_155 hB g l, nilK⟩) e_156 (List.all_eq_true.mp g_156_0)
/-- Pool.widestRing ((('c', 1), ('u', 0), ('u', 0)), ()) -/
def c_157 : aCt := (37, 4, some [(1, 8, 9), (42, 0, 8)], false, ([(0, 239), (0, 99999)], [], [], 212), [(2, (1, [])), (0, (0, [(0, 1)])), (0, (0, [(1, 1)]))], [(([(0, 239), (0, 99999), ((-3), 255)], [], [], 212), some (0, (0, [(2, 1)])))])
def s_157 : List aCt := [c_154, c_156, c_139]
def h_157_0 : Nat × aS × Fm := (11, ([(0, (2, (1, []))), (1, (0, (0, [(0, 1)]))), (2, (0, (0, [(1, 1)]))), (3, (0, (0, [(3, 1)]))), (4, (0, (0, [(2, 1)])))], [], ([(0, 239), (0, 99999), (0, 256), ((-3), 255)], [], [], 212)), (513, [(2, (-2))]))
def h_157 : List (Nat × aS × Fm) := [h_157_0]
theorem e_157 : ckE 6000 gT s_157 (fun _ => 0) sp0 c_157 h_157 = true := by decide +kernel
theorem g_157_0 : ([h_157_0].all fun H => ckH 6000 gT s_157 (fun _ => 0) sp0 c_157 h_157 H) = true := by decide +kernel
theorem k_157 (hB : BytesOK) (g : bG) (l : Launch) : Keeps g l gT c_157 := keeps_of hB.1 hB.2 (List.forall_mem_cons.mpr ⟨k_154 hB g l, List.forall_mem_cons.mpr ⟨k_156 hB g l, List.forall_mem_cons.mpr ⟨k_139 hB g l, nilK⟩⟩⟩) e_157 (List.all_eq_true.mp g_157_0)
/-- B.ring ((('c', 0), ('u', 0), ('u', 0)), ()) -/
def c_158 : aCt := (154, 5, some [(1, 8, 9), (42, 0, 8)], false, ([((-2147483648), 2147483647), ((-2147483648), 2147483647)], [], [], 212), [(2, (0, [])), (0, (0, [(0, 1)])), (0, (0, [(1, 1)]))], [(([((-2147483648), 2147483647), ((-2147483648), 2147483647), ((-3), 255)], [], [], 212), some (0, (0, [(2, 1)])))])
def s_158 : List aCt := [c_157]
def h_158 : List (Nat × aS × Fm) := []
theorem e_158 : ckE 6000 gT s_158 (fun _ => 0) sp0 c_158 h_158 = true := by decide +kernel
theorem k_158 (hB : BytesOK) (g : bG) (l : Launch) : Keeps g l gT c_158 := keeps_of hB.1 hB.2 (List.forall_mem_cons.mpr ⟨k_157 hB g l, nilK⟩) e_158 nilK
/-- Talks.hasCrossed ((('c', 30), ('u', 0), ('u', 0)), ()) -/
def c_159 : aCt := (76, 0, some [], false, ([(0, 7), (0, 5)], [], [], 212), [(2, (30, [])), (0, (0, [(0, 1)])), (0, (0, [(1, 1)]))], [(([(0, 7), (0, 5), (0, 1)], [], [], 212), some (0, (0, [(2, 1)])))])
def s_159 : List aCt := []
def h_159 : List (Nat × aS × Fm) := []
theorem e_159 : ckE 6000 gT s_159 (fun _ => 0) sp0 c_159 h_159 = true := by decide +kernel
theorem k_159 (hB : BytesOK) (g : bG) (l : Launch) : Keeps g l gT c_159 := keeps_of hB.1 hB.2 (nilK) e_159 nilK
/-- Needs.stepsOfMachine ((('c', 14), ('u', 0)), ()) -/
def c_160 : aCt := (17, 0, some [], false, ([(0, 333333)], [], [], 212), [(2, (14, [])), (0, (0, [(0, 1)]))], [(([(0, 333333), (0, 65535)], [], [], 212), some (0, (0, [(1, 1)])))])
def s_160 : List aCt := []
def h_160_0 : Nat × aS × Fm := (7, ([(0, (2, (14, []))), (1, (0, (0, [(0, 1)]))), (2, (0, (0, [(1, 1)]))), (3, (0, (0, [(2, 1)]))), (4, (0, (0, [(3, 1)])))], [], ([(0, 333333), (0, 65535), (0, 333333), (0, 6)], [], [], 212)), (13, [(3, (-2))]))
def h_160 : List (Nat × aS × Fm) := [h_160_0]
theorem e_160 : ckE 6000 gT s_160 (fun _ => 0) sp0 c_160 h_160 = true := by decide +kernel
theorem g_160_0 : ([h_160_0].all fun H => ckH 6000 gT s_160 (fun _ => 0) sp0 c_160 h_160 H) = true := by decide +kernel
theorem k_160 (hB : BytesOK) (g : bG) (l : Launch) : Keeps g l gT c_160 := keeps_of hB.1 hB.2 (nilK) e_160 (List.all_eq_true.mp g_160_0)
/-- Pool.holeBits ((('c', 1), ('u', 0), ('u', 0), ('u', 0)), ()) -/
def c_161 : aCt := (40, 1, some [], false, ([(0, 59999), (0, 239), (0, 1)], [], [], 212), [(2, (1, [])), (0, (0, [(0, 1)])), (0, (0, [(1, 1)])), (0, (0, [(2, 1)]))], [(([(0, 59999), (0, 239), (0, 1), ((-2147483648), 2147483647)], [], [], 212), some (0, (0, [(3, 1)])))])
def s_161 : List aCt := [c_160, c_6, c_8, c_159]
def h_161_0 : Nat × aS × Fm := (49, ([(0, (2, (1, []))), (1, (0, (0, [(0, 1)]))), (2, (0, (0, [(1, 1)]))), (3, (0, (0, [(2, 1)]))), (4, (0, (0, [(3, 1)]))), (5, (0, (0, [(4, 1)]))), (6, (0, (0, [(5, 1)]))), (7, (0, (0, [(6, 1)]))), (8, (0, (0, [(8, 1)]))), (9, (0, (0, [(7, 1)])))], [], ([(0, 59999), (0, 239), (0, 1), (0, 5), (0, 9), (0, 999), (0, 65535), (0, 16), ((-2147483648), 2147483647)], [], [], 212)), (33, [(7, (-2))]))
def h_161 : List (Nat × aS × Fm) := [h_161_0]
theorem e_161 : ckE 6000 gT s_161 (fun _ => 0) sp0 c_161 h_161 = true := by decide +kernel
theorem g_161_0 : ([h_161_0].all fun H => ckH 6000 gT s_161 (fun _ => 0) sp0 c_161 h_161 H) = true := by decide +kernel
theorem k_161 (hB : BytesOK) (g : bG) (l : Launch) : Keeps g l gT c_161 := keeps_of hB.1 hB.2 (List.forall_mem_cons.mpr ⟨k_160 hB g l, List.forall_mem_cons.mpr ⟨k_6 hB g l, List.forall_mem_cons.mpr ⟨k_8 hB g l, List.forall_mem_cons.mpr ⟨k_159 hB g l, nilK⟩⟩⟩⟩) e_161 (List.all_eq_true.mp g_161_0)
/-- B.holes ((('c', 0), ('u', 0), ('u', 0), ('u', 0)), ()) -/
def c_162 : aCt := (157, 2, some [], false, ([((-2147483648), 2147483647), ((-2147483648), 2147483647), (0, 1)], [], [], 212), [(2, (0, [])), (0, (0, [(0, 1)])), (0, (0, [(1, 1)])), (0, (0, [(2, 1)]))], [(([((-2147483648), 2147483647), ((-2147483648), 2147483647), (0, 1), ((-2147483648), 2147483647)], [], [], 212), some (0, (0, [(3, 1)])))])
def sp_162 : aSp := fun k pc S => if pc = 0 ∧ k = 157 then spL 1 [59999] S else none
def s_162 : List aCt := [c_161]
def h_162 : List (Nat × aS × Fm) := []
theorem e_162 : ckE 6000 gT s_162 (fun _ => 0) sp_162 c_162 h_162 = true := by decide +kernel
theorem k_162 (hB : BytesOK) (g : bG) (l : Launch) : Keeps g l gT c_162 := keeps_of hB.1 hB.2 (List.forall_mem_cons.mpr ⟨k_161 hB g l, nilK⟩) e_162 nilK
/-- Talks.addLike ((('c', 30), ('u', 0), ('u', 0)), ()) -/
def c_163 : aCt := (78, 0, some [(30, 3, 6)], false, ([((-2147483648), 2147483647), ((-2147483648), 2147483647)], [], [], 212), [(2, (30, [])), (0, (0, [(0, 1)])), (0, (0, [(1, 1)]))], [(([((-2147483648), 2147483647), ((-2147483648), 2147483647), ((-2), 8)], [], [], 212), some (0, (0, [(2, 1)])))])
def s_163 : List aCt := []
def h_163 : List (Nat × aS × Fm) := []
theorem e_163 : ckE 6000 gT s_163 (fun _ => 0) sp0 c_163 h_163 = true := by decide +kernel
theorem k_163 (hB : BytesOK) (g : bG) (l : Launch) : Keeps g l gT c_163 := keeps_of hB.1 hB.2 (nilK) e_163 nilK
/-- B.like ((('c', 0), ('u', 0), ('u', 0)), ()) -/
def c_164 : aCt := (158, 1, some [(30, 3, 6)], false, ([((-2147483648), 2147483647), ((-2147483648), 2147483647)], [], [], 212), [(2, (0, [])), (0, (0, [(0, 1)])), (0, (0, [(1, 1)]))], [(([((-2147483648), 2147483647), ((-2147483648), 2147483647), ((-2), 8)], [], [], 212), some (0, (0, [(2, 1)])))])
def s_164 : List aCt := [c_163]
def h_164 : List (Nat × aS × Fm) := []
theorem e_164 : ckE 6000 gT s_164 (fun _ => 0) sp0 c_164 h_164 = true := by decide +kernel
theorem k_164 (hB : BytesOK) (g : bG) (l : Launch) : Keeps g l gT c_164 := keeps_of hB.1 hB.2 (List.forall_mem_cons.mpr ⟨k_163 hB g l, nilK⟩) e_164 nilK
/-- Pool.fairBy ((('c', 1), ('u', 0), ('u', 0), ('u', 0)), ()) -/
def c_165 : aCt := (42, 5, some [], false, ([(0, 7), (0, 239), (0, 2)], [], [], 212), [(2, (1, [])), (0, (0, [(0, 1)])), (0, (0, [(1, 1)])), (0, (0, [(2, 1)]))], [(([(0, 7), (0, 239), (0, 2), ((-9223372036854775808), 9223372036854775807)], [], [], 212), some (1, (0, [(3, 1)])))])
def sp_165 : aSp := fun k pc S => if pc = 41 ∧ k = 42 then spS 0 [(-1), 0] S else if pc = 115 ∧ k = 42 then spD [(-1), 0] S else none
def s_165 : List aCt := [c_137, c_140]
def h_165_0 : Nat × aS × Fm := (77, ([(0, (2, (1, []))), (1, (0, (0, [(0, 1)]))), (2, (0, (0, [(1, 1)]))), (3, (0, (0, [(2, 1)]))), (4, (0, (0, [(4, 1)]))), (5, (1, (0, [(3, 1)]))), (7, (1, (0, [(5, 1)]))), (9, (0, (0, [(6, 1)])))], [], ([(0, 7), (0, 239), (1, 2), (0, 207), (0, 2), ((-9223372036854775808), 9223372036854775807), (0, 8)], [], [], 212)), (17, [(6, (-2))]))
def h_165 : List (Nat × aS × Fm) := [h_165_0]
theorem e_165 : ckE 6000 gT s_165 (fun _ => 0) sp_165 c_165 h_165 = true := by decide +kernel
theorem g_165_0 : ([h_165_0].all fun H => ckH 6000 gT s_165 (fun _ => 0) sp_165 c_165 h_165 H) = true := by decide +kernel
theorem k_165 (hB : BytesOK) (g : bG) (l : Launch) : Keeps g l gT c_165 := keeps_of hB.1 hB.2 (List.forall_mem_cons.mpr ⟨k_137 hB g l, List.forall_mem_cons.mpr ⟨k_140 hB g l, nilK⟩⟩) e_165 (List.all_eq_true.mp g_165_0)
/-- Pool.fairSum ((('c', 1), ('u', 0), ('u', 0), ('u', 0)), ()) -/
def c_166 : aCt := (41, 6, some [], false, ([(0, 7), (0, 239), (0, 4)], [], [], 212), [(2, (1, [])), (0, (0, [(0, 1)])), (0, (0, [(1, 1)])), (0, (0, [(2, 1)]))], [(([(0, 7), (0, 239), (0, 4), ((-2147483648), 2147483647)], [], [], 212), some (0, (0, [(3, 1)])))])
def s_166 : List aCt := [c_165]
def h_166_0 : Nat × aS × Fm := (23, ([(0, (2, (1, []))), (1, (0, (0, [(0, 1)]))), (2, (0, (0, [(1, 1)]))), (3, (0, (0, [(2, 1)]))), (4, (1, (0, [(3, 1)]))), (6, (1, (0, [(5, 1)]))), (8, (0, (0, [(4, 1)])))], [], ([(0, 7), (0, 239), (3, 4), (0, 9223372036854775807), (0, 3), (0, 9223372036854775807)], [], [], 212)), (7, [(4, (-2))]))
def h_166 : List (Nat × aS × Fm) := [h_166_0]
theorem e_166 : ckE 6000 gT s_166 (fun _ => 0) sp0 c_166 h_166 = true := by decide +kernel
theorem g_166_0 : ([h_166_0].all fun H => ckH 6000 gT s_166 (fun _ => 0) sp0 c_166 h_166 H) = true := by decide +kernel
theorem k_166 (hB : BytesOK) (g : bG) (l : Launch) : Keeps g l gT c_166 := keeps_of hB.1 hB.2 (List.forall_mem_cons.mpr ⟨k_165 hB g l, nilK⟩) e_166 (List.all_eq_true.mp g_166_0)
/-- B.fair ((('c', 0), ('u', 0), ('u', 0), ('u', 0)), ()) -/
def c_167 : aCt := (159, 7, some [], false, ([((-2147483648), 2147483647), ((-2147483648), 2147483647), ((-2147483648), 2147483647)], [], [], 212), [(2, (0, [])), (0, (0, [(0, 1)])), (0, (0, [(1, 1)])), (0, (0, [(2, 1)]))], [(([((-2147483648), 2147483647), ((-2147483648), 2147483647), ((-2147483648), 2147483647), ((-2147483648), 2147483647)], [], [], 212), some (0, (0, [(3, 1)])))])
def s_167 : List aCt := [c_166]
def h_167 : List (Nat × aS × Fm) := []
theorem e_167 : ckE 6000 gT s_167 (fun _ => 0) sp0 c_167 h_167 = true := by decide +kernel
theorem k_167 (hB : BytesOK) (g : bG) (l : Launch) : Keeps g l gT c_167 := keeps_of hB.1 hB.2 (List.forall_mem_cons.mpr ⟨k_166 hB g l, nilK⟩) e_167 nilK
/-- Sheets.become ((('c', 181), ('u', 0), ('u', 0), ('u', 0)), ()) -/
def c_168 : aCt := (68, 1, some [(182, 0, 4), (183, 0, 4), (185, 0, 40), (186, 0, 40), (187, 0, 40), (188, 0, 40)], false, ([((-2147483648), 2147483647), ((-2147483648), 2147483647), ((-2147483648), 2147483647)], [], [], 212), [(2, (181, [])), (0, (0, [(0, 1)])), (0, (0, [(1, 1)])), (0, (0, [(2, 1)]))], [(([((-2147483648), 2147483647), ((-2147483648), 2147483647), ((-2147483648), 2147483647), ((-14), 1)], [], [], 212), some (0, (0, [(3, 1)])))])
def sp_168 : aSp := fun k pc S => if pc = 77 ∧ k = 68 then spS 0 [0, 1, 2] S else none
def s_168 : List aCt := []
def h_168_0 : Nat × aS × Fm := (65, ([(0, (2, (181, []))), (1, (0, (0, [(0, 1)]))), (2, (0, (0, [(1, 1)]))), (3, (0, (0, [(2, 1)]))), (4, (0, (0, [(3, 1)])))], [], ([(0, 3), ((-1), 3), ((-2147483648), 2147483647), (0, 40)], [], [], 212)), (81, [(3, (-2))]))
def h_168 : List (Nat × aS × Fm) := [h_168_0]
theorem e_168 : ckE 6000 gT s_168 (fun _ => 0) sp_168 c_168 h_168 = true := by decide +kernel
theorem g_168_0 : ([h_168_0].all fun H => ckH 6000 gT s_168 (fun _ => 0) sp_168 c_168 h_168 H) = true := by decide +kernel
theorem k_168 (hB : BytesOK) (g : bG) (l : Launch) : Keeps g l gT c_168 := keeps_of hB.1 hB.2 (nilK) e_168 (List.all_eq_true.mp g_168_0)
