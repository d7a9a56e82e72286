/-- Rows.firstWrong ((('c', 178), ('c', 1), ('u', 0)), ()) -/
def c_142 : aCt := (63, 5, some [(1, 8, 9), (42, 0, 8)], false, ([(0, 239)], [], [], 212), [(2, (178, [])), (2, (1, [])), (0, (0, [(0, 1)]))], [(([(0, 239), (0, 8)], [], [], 212), some (0, (0, [(1, 1)])))])
def s_142 : List aCt := [c_128, c_132, c_141]
def h_142_0 : Nat × aS × Fm := (57, ([(0, (2, (178, []))), (1, (2, (1, []))), (2, (0, (0, [(0, 1)]))), (3, (1, (0, [(3, 1)]))), (5, (1, (0, [(1, 1)]))), (7, (0, (0, [(2, 1)])))], [], ([(0, 239), ((-9223372036854775808), 9223372036854775807), (0, 8), ((-9223372036854775808), 9223372036854775807)], [], [], 212)), (17, [(2, (-2))]))
def h_142 : List (Nat × aS × Fm) := [h_142_0]
theorem e_142 : ckE 6000 gT s_142 (fun _ => 0) sp0 c_142 h_142 = true := by decide +kernel
theorem g_142_0 : ([h_142_0].all fun H => ckH 6000 gT s_142 (fun _ => 0) sp0 c_142 h_142 H) = true := by decide +kernel
theorem k_142 (hB : BytesOK) (g : bG) (l : Launch) : Keeps g l gT c_142 := keeps_of hB.1 hB.2 (List.forall_mem_cons.mpr ⟨k_128 hB g l, List.forall_mem_cons.mpr ⟨k_132 hB g l, List.forall_mem_cons.mpr ⟨k_141 hB g l, nilK⟩⟩⟩) e_142 (List.all_eq_true.mp g_142_0)
/-- B.judge ((('c', 0), ('u', 0)), ()) -/
def c_143 : aCt := (152, 6, some [(1, 8, 9), (42, 0, 8)], false, ([((-2147483648), 2147483647)], [], [], 212), [(2, (0, [])), (0, (0, [(0, 1)]))], [(([((-2147483648), 2147483647), ((-1), 8)], [], [], 212), some (0, (0, [(1, 1)])))])
def s_143 : List aCt := [c_142]
def h_143 : List (Nat × aS × Fm) := []
theorem e_143 : ckE 6000 gT s_143 (fun _ => 0) sp0 c_143 h_143 = true := by decide +kernel
theorem k_143 (hB : BytesOK) (g : bG) (l : Launch) : Keeps g l gT c_143 := keeps_of hB.1 hB.2 (List.forall_mem_cons.mpr ⟨k_142 hB g l, nilK⟩) e_143 nilK
/-- B.ask ((('c', 0), ('u', 0), ('u', 0)), ()) -/
def c_144 : aCt := (153, 1, some [(31, 0, 8)], false, ([((-2147483648), 2147483647), ((-2147483648), 2147483647)], [], [], 212), [(2, (0, [])), (0, (0, [(0, 1)])), (0, (0, [(1, 1)]))], [(([((-2147483648), 2147483647), ((-2147483648), 2147483647), ((-1), 9999)], [], [], 212), some (0, (0, [(2, 1)])))])
def s_144 : List aCt := []
def h_144 : List (Nat × aS × Fm) := []
theorem e_144 : ckE 6000 gT s_144 (fun _ => 0) sp0 c_144 h_144 = true := by decide +kernel
theorem k_144 (hB : BytesOK) (g : bG) (l : Launch) : Keeps g l gT c_144 := keeps_of hB.1 hB.2 (nilK) e_144 nilK
/-- Pool.weighAllByHeads ((('c', 1), ('u', 0)), ()) -/
def c_145 : aCt := (34, 3, some [(1, 8, 9), (42, 0, 8)], false, ([(0, 239)], [], [], 212), [(2, (1, [])), (0, (0, [(0, 1)]))], [(([(0, 239)], [], [], 212), none)])
def sp_145 : aSp := fun k pc S => if pc = 13 ∧ k = 34 then spL 2 [] S else none
def s_145 : List aCt := [c_131]
def h_145_0 : Nat × aS × Fm := (7, ([(0, (2, (1, []))), (1, (0, (0, [(0, 1)]))), (2, (0, (0, [(2, 1)])))], [], ([(0, 239), (0, 1763), (0, 8)], [(0, [(1, 1), (2, (-207))])], [((1, 8), (0, [(1, 1)]))], 212)), (17, [(2, (-2))]))
def h_145 : List (Nat × aS × Fm) := [h_145_0]
theorem e_145 : ckE 6000 gT s_145 (fun _ => 0) sp_145 c_145 h_145 = true := by decide +kernel
theorem g_145_0 : ([h_145_0].all fun H => ckH 6000 gT s_145 (fun _ => 0) sp_145 c_145 h_145 H) = true := by decide +kernel
theorem k_145 (hB : BytesOK) (g : bG) (l : Launch) : Keeps g l gT c_145 := keeps_of hB.1 hB.2 (List.forall_mem_cons.mpr ⟨k_131 hB g l, nilK⟩) e_145 (List.all_eq_true.mp g_145_0)
/-- Pool.ringPart ((('c', 1), ('u', 0), ('u', 0), ('u', 0)), ()) -/
def c_146 : aCt := (39, 0, some [], false, ([(0, 7), ((-2147483648), 2147483647), (0, 99999)], [], [], 212), [(2, (1, [])), (0, (0, [(0, 1)])), (0, (0, [(1, 1)])), (0, (0, [(2, 1)]))], [(([(0, 7), ((-2147483648), 2147483647), (0, 99999), ((-9223372036854775808), 9223372036854775807)], [], [], 212), some (1, (0, [(3, 1)])))])
def s_146 : List aCt := []
def h_146 : List (Nat × aS × Fm) := []
theorem e_146 : ckE 6000 gT s_146 (fun _ => 0) sp0 c_146 h_146 = true := by decide +kernel
theorem k_146 (hB : BytesOK) (g : bG) (l : Launch) : Keeps g l gT c_146 := keeps_of hB.1 hB.2 (nilK) e_146 nilK
/-- Pool.holdsTogether ((('c', 1), ('u', 0), ('u', 0)), ()) -/
def c_147 : aCt := (38, 1, some [], false, ([(0, 255), (0, 99999)], [], [], 212), [(2, (1, [])), (0, (0, [(0, 1)])), (0, (0, [(1, 1)]))], [(([(0, 255), (0, 99999), (0, 1)], [], [], 212), some (0, (0, [(2, 1)])))])
def s_147 : List aCt := [c_146]
def h_147_0 : Nat × aS × Fm := (5, ([(0, (2, (1, []))), (1, (0, (0, [(0, 1)]))), (2, (0, (0, [(1, 1)]))), (3, (0, (0, [(2, 1)]))), (4, (0, (0, [(3, 1)])))], [], ([(0, 255), (0, 99999), ((-2147483648), 2147483647), (0, 8)], [], [], 212)), (35, [(3, (-2))]))
def h_147_1 : Nat × aS × Fm := (55, ([(0, (2, (1, []))), (1, (0, (0, [(0, 1)]))), (2, (0, (0, [(1, 1)]))), (3, (0, (0, [(2, 1)]))), (4, (0, (0, [(3, 1)])))], [], ([(0, 255), (0, 99999), ((-2147483648), 2147483647), (0, 8)], [], [], 212)), (17, [(3, (-2))]))
def h_147 : List (Nat × aS × Fm) := [h_147_0, h_147_1]
theorem e_147 : ckE 6000 gT s_147 (fun _ => 0) sp0 c_147 h_147 = true := by decide +kernel
theorem g_147_0 : ([h_147_0, h_147_1].all fun H => ckH 6000 gT s_147 (fun _ => 0) sp0 c_147 h_147 H) = true := by decide +kernel
theorem k_147 (hB : BytesOK) (g : bG) (l : Launch) : Keeps g l gT c_147 := keeps_of hB.1 hB.2 (List.forall_mem_cons.mpr ⟨k_146 hB g l, nilK⟩) e_147 (List.all_eq_true.mp g_147_0)
/-- Pool.widestRing ((('c', 1), ('u', 0), ('u', 0)), ()) -/
def c_148 : aCt := (37, 4, some [(1, 8, 9), (42, 0, 8)], false, ([(0, 239), (0, 99999)], [], [], 212), [(2, (1, [])), (0, (0, [(0, 1)])), (0, (0, [(1, 1)]))], [(([(0, 239), (0, 99999), ((-3), 255)], [], [], 212), some (0, (0, [(2, 1)])))])
def s_148 : List aCt := [c_145, c_147, c_130]
def h_148_0 : Nat × aS × Fm := (11, ([(0, (2, (1, []))), (1, (0, (0, [(0, 1)]))), (2, (0, (0, [(1, 1)]))), (3, (0, (0, [(3, 1)]))), (4, (0, (0, [(2, 1)])))], [], ([(0, 239), (0, 99999), (0, 256), ((-3), 255)], [], [], 212)), (513, [(2, (-2))]))
def h_148 : List (Nat × aS × Fm) := [h_148_0]
theorem e_148 : ckE 6000 gT s_148 (fun _ => 0) sp0 c_148 h_148 = true := by decide +kernel
theorem g_148_0 : ([h_148_0].all fun H => ckH 6000 gT s_148 (fun _ => 0) sp0 c_148 h_148 H) = true := by decide +kernel
theorem k_148 (hB : BytesOK) (g : bG) (l : Launch) : Keeps g l gT c_148 := keeps_of hB.1 hB.2 (List.forall_mem_cons.mpr ⟨k_145 hB g l, List.forall_mem_cons.mpr ⟨k_147 hB g l, List.forall_mem_cons.mpr ⟨k_130 hB g l, nilK⟩⟩⟩) e_148 (List.all_eq_true.mp g_148_0)
/-- B.ring ((('c', 0), ('u', 0), ('u', 0)), ()) -/
def c_149 : aCt := (154, 5, some [(1, 8, 9), (42, 0, 8)], false, ([((-2147483648), 2147483647), ((-2147483648), 2147483647)], [], [], 212), [(2, (0, [])), (0, (0, [(0, 1)])), (0, (0, [(1, 1)]))], [(([((-2147483648), 2147483647), ((-2147483648), 2147483647), ((-3), 255)], [], [], 212), some (0, (0, [(2, 1)])))])
def s_149 : List aCt := [c_148]
def h_149 : List (Nat × aS × Fm) := []
theorem e_149 : ckE 6000 gT s_149 (fun _ => 0) sp0 c_149 h_149 = true := by decide +kernel
theorem k_149 (hB : BytesOK) (g : bG) (l : Launch) : Keeps g l gT c_149 := keeps_of hB.1 hB.2 (List.forall_mem_cons.mpr ⟨k_148 hB g l, nilK⟩) e_149 nilK
/-- Talks.setMachine ((('c', 30), ('u', 0), ('u', 0)), ()) -/
def c_150 : aCt := (75, 1, some [(32, 0, 6)], false, ([((-2147483648), 2147483647), ((-2147483648), 2147483647)], [], [], 212), [(2, (30, [])), (0, (0, [(0, 1)])), (0, (0, [(1, 1)]))], [(([((-2147483648), 2147483647), ((-2147483648), 2147483647), ((-1), 333333)], [], [], 212), some (0, (0, [(2, 1)])))])
def s_150 : List aCt := []
def h_150_0 : Nat × aS × Fm := (24, ([(0, (2, (30, []))), (1, (0, (0, [(0, 1)]))), (2, (0, (0, [(1, 1)]))), (3, (0, (0, [(2, 1)]))), (4, (0, (0, [(3, 1)])))], [], ([(0, 5), (0, 333333), (0, 333333), (0, 6)], [], [], 212)), (13, [(3, (-2))]))
def h_150 : List (Nat × aS × Fm) := [h_150_0]
theorem e_150 : ckE 6000 gT s_150 (fun _ => 0) sp0 c_150 h_150 = true := by decide +kernel
theorem g_150_0 : ([h_150_0].all fun H => ckH 6000 gT s_150 (fun _ => 0) sp0 c_150 h_150 H) = true := by decide +kernel
theorem k_150 (hB : BytesOK) (g : bG) (l : Launch) : Keeps g l gT c_150 := keeps_of hB.1 hB.2 (nilK) e_150 (List.all_eq_true.mp g_150_0)
/-- B.machine ((('c', 0), ('u', 0), ('u', 0)), ()) -/
def c_151 : aCt := (155, 2, some [(32, 0, 6)], false, ([((-2147483648), 2147483647), ((-2147483648), 2147483647)], [], [], 212), [(2, (0, [])), (0, (0, [(0, 1)])), (0, (0, [(1, 1)]))], [(([((-2147483648), 2147483647), ((-2147483648), 2147483647), ((-1), 333333)], [], [], 212), some (0, (0, [(2, 1)])))])
def s_151 : List aCt := [c_150]
def h_151 : List (Nat × aS × Fm) := []
theorem e_151 : ckE 6000 gT s_151 (fun _ => 0) sp0 c_151 h_151 = true := by decide +kernel
theorem k_151 (hB : BytesOK) (g : bG) (l : Launch) : Keeps g l gT c_151 := keeps_of hB.1 hB.2 (List.forall_mem_cons.mpr ⟨k_150 hB g l, nilK⟩) e_151 nilK
/-- Talks.hasCrossed ((('c', 30), ('u', 0), ('u', 0)), ()) -/
def c_152 : aCt := (76, 0, some [], false, ([(0, 7), (0, 5)], [], [], 212), [(2, (30, [])), (0, (0, [(0, 1)])), (0, (0, [(1, 1)]))], [(([(0, 7), (0, 5), (0, 1)], [], [], 212), some (0, (0, [(2, 1)])))])
def s_152 : List aCt := []
def h_152 : List (Nat × aS × Fm) := []
theorem e_152 : ckE 6000 gT s_152 (fun _ => 0) sp0 c_152 h_152 = true := by decide +kernel
theorem k_152 (hB : BytesOK) (g : bG) (l : Launch) : Keeps g l gT c_152 := keeps_of hB.1 hB.2 (nilK) e_152 nilK
/-- Talks.setCrossed ((('c', 30), ('u', 0), ('u', 0), ('u', 0)), ()) -/
def c_153 : aCt := (77, 1, some [(33, 0, 8)], false, ([((-2147483648), 2147483647), ((-2147483648), 2147483647), (0, 1)], [], [], 212), [(2, (30, [])), (0, (0, [(0, 1)])), (0, (0, [(1, 1)])), (0, (0, [(2, 1)]))], [(([((-2147483648), 2147483647), ((-2147483648), 2147483647), (0, 1), ((-1), 1)], [], [], 212), some (0, (0, [(3, 1)])))])
def s_153 : List aCt := [c_0, c_152]
def h_153 : List (Nat × aS × Fm) := []
theorem e_153 : ckE 6000 gT s_153 (fun _ => 0) sp0 c_153 h_153 = true := by decide +kernel
theorem k_153 (hB : BytesOK) (g : bG) (l : Launch) : Keeps g l gT c_153 := keeps_of hB.1 hB.2 (List.forall_mem_cons.mpr ⟨k_0 hB g l, List.forall_mem_cons.mpr ⟨k_152 hB g l, nilK⟩⟩) e_153 nilK
/-- B.crossed ((('c', 0), ('u', 0), ('u', 0), ('u', 0)), ()) -/
def c_154 : aCt := (156, 2, some [(33, 0, 8)], false, ([((-2147483648), 2147483647), ((-2147483648), 2147483647), (0, 1)], [], [], 212), [(2, (0, [])), (0, (0, [(0, 1)])), (0, (0, [(1, 1)])), (0, (0, [(2, 1)]))], [(([((-2147483648), 2147483647), ((-2147483648), 2147483647), (0, 1), ((-1), 1)], [], [], 212), some (0, (0, [(3, 1)])))])
def s_154 : List aCt := [c_153]
def h_154 : List (Nat × aS × Fm) := []
theorem e_154 : ckE 6000 gT s_154 (fun _ => 0) sp0 c_154 h_154 = true := by decide +kernel
theorem k_154 (hB : BytesOK) (g : bG) (l : Launch) : Keeps g l gT c_154 := keeps_of hB.1 hB.2 (List.forall_mem_cons.mpr ⟨k_153 hB g l, nilK⟩) e_154 nilK
/-- Needs.stepsOfMachine ((('c', 14), ('u', 0)), ()) -/
def c_155 : aCt := (17, 0, some [], false, ([(0, 333333)], [], [], 212), [(2, (14, [])), (0, (0, [(0, 1)]))], [(([(0, 333333), (0, 65535)], [], [], 212), some (0, (0, [(1, 1)])))])
def s_155 : List aCt := []
def h_155_0 : Nat × aS × Fm := (7, ([(0, (2, (14, []))), (1, (0, (0, [(0, 1)]))), (2, (0, (0, [(1, 1)]))), (3, (0, (0, [(2, 1)]))), (4, (0, (0, [(3, 1)])))], [], ([(0, 333333), (0, 65535), (0, 333333), (0, 6)], [], [], 212)), (13, [(3, (-2))]))
def h_155 : List (Nat × aS × Fm) := [h_155_0]
theorem e_155 : ckE 6000 gT s_155 (fun _ => 0) sp0 c_155 h_155 = true := by decide +kernel
theorem g_155_0 : ([h_155_0].all fun H => ckH 6000 gT s_155 (fun _ => 0) sp0 c_155 h_155 H) = true := by decide +kernel
theorem k_155 (hB : BytesOK) (g : bG) (l : Launch) : Keeps g l gT c_155 := keeps_of hB.1 hB.2 (nilK) e_155 (List.all_eq_true.mp g_155_0)
/-- Pool.holeBits ((('c', 1), ('u', 0), ('u', 0), ('u', 0)), ()) -/
def c_156 : aCt := (40, 1, some [], false, ([(0, 59999), (0, 239), (0, 1)], [], [], 212), [(2, (1, [])), (0, (0, [(0, 1)])), (0, (0, [(1, 1)])), (0, (0, [(2, 1)]))], [(([(0, 59999), (0, 239), (0, 1), ((-2147483648), 2147483647)], [], [], 212), some (0, (0, [(3, 1)])))])
def s_156 : List aCt := [c_155, c_1, c_2, c_152]
def h_156_0 : Nat × aS × Fm := (49, ([(0, (2, (1, []))), (1, (0, (0, [(0, 1)]))), (2, (0, (0, [(1, 1)]))), (3, (0, (0, [(2, 1)]))), (4, (0, (0, [(3, 1)]))), (5, (0, (0, [(4, 1)]))), (6, (0, (0, [(5, 1)]))), (7, (0, (0, [(6, 1)]))), (8, (0, (0, [(8, 1)]))), (9, (0, (0, [(7, 1)])))], [], ([(0, 59999), (0, 239), (0, 1), (0, 5), (0, 9), (0, 999), (0, 65535), (0, 16), ((-2147483648), 2147483647)], [], [], 212)), (33, [(7, (-2))]))
def h_156 : List (Nat × aS × Fm) := [h_156_0]
theorem e_156 : ckE 6000 gT s_156 (fun _ => 0) sp0 c_156 h_156 = true := by decide +kernel
theorem g_156_0 : ([h_156_0].all fun H => ckH 6000 gT s_156 (fun _ => 0) sp0 c_156 h_156 H) = true := by decide +kernel
theorem k_156 (hB : BytesOK) (g : bG) (l : Launch) : Keeps g l gT c_156 := keeps_of hB.1 hB.2 (List.forall_mem_cons.mpr ⟨k_155 hB g l, List.forall_mem_cons.mpr ⟨k_1 hB g l, List.forall_mem_cons.mpr ⟨k_2 hB g l, List.forall_mem_cons.mpr ⟨k_152 hB g l, nilK⟩⟩⟩⟩) e_156 (List.all_eq_true.mp g_156_0)
/-- B.holes ((('c', 0), ('u', 0), ('u', 0), ('u', 0)), ()) -/
def c_157 : aCt := (157, 2, some [], false, ([((-2147483648), 2147483647), ((-2147483648), 2147483647), (0, 1)], [], [], 212), [(2, (0, [])), (0, (0, [(0, 1)])), (0, (0, [(1, 1)])), (0, (0, [(2, 1)]))], [(([((-2147483648), 2147483647), ((-2147483648), 2147483647), (0, 1), ((-2147483648), 2147483647)], [], [], 212), some (0, (0, [(3, 1)])))])
def sp_157 : aSp := fun k pc S => if pc = 0 ∧ k = 157 then spL 1 [59999] S else none
def s_157 : List aCt := [c_156]
def h_157 : List (Nat × aS × Fm) := []
theorem e_157 : ckE 6000 gT s_157 (fun _ => 0) sp_157 c_157 h_157 = true := by decide +kernel
theorem k_157 (hB : BytesOK) (g : bG) (l : Launch) : Keeps g l gT c_157 := keeps_of hB.1 hB.2 (List.forall_mem_cons.mpr ⟨k_156 hB g l, nilK⟩) e_157 nilK
/-- Talks.addLike ((('c', 30), ('u', 0), ('u', 0)), ()) -/
def c_158 : aCt := (78, 0, some [(30, 3, 6)], false, ([((-2147483648), 2147483647), ((-2147483648), 2147483647)], [], [], 212), [(2, (30, [])), (0, (0, [(0, 1)])), (0, (0, [(1, 1)]))], [(([((-2147483648), 2147483647), ((-2147483648), 2147483647), ((-2), 8)], [], [], 212), some (0, (0, [(2, 1)])))])
def s_158 : List aCt := []
def h_158 : List (Nat × aS × Fm) := []
theorem e_158 : ckE 6000 gT s_158 (fun _ => 0) sp0 c_158 h_158 = true := by decide +kernel
theorem k_158 (hB : BytesOK) (g : bG) (l : Launch) : Keeps g l gT c_158 := keeps_of hB.1 hB.2 (nilK) e_158 nilK
/-- B.like ((('c', 0), ('u', 0), ('u', 0)), ()) -/
def c_159 : aCt := (158, 1, some [(30, 3, 6)], false, ([((-2147483648), 2147483647), ((-2147483648), 2147483647)], [], [], 212), [(2, (0, [])), (0, (0, [(0, 1)])), (0, (0, [(1, 1)]))], [(([((-2147483648), 2147483647), ((-2147483648), 2147483647), ((-2), 8)], [], [], 212), some (0, (0, [(2, 1)])))])
def s_159 : List aCt := [c_158]
def h_159 : List (Nat × aS × Fm) := []
theorem e_159 : ckE 6000 gT s_159 (fun _ => 0) sp0 c_159 h_159 = true := by decide +kernel
theorem k_159 (hB : BytesOK) (g : bG) (l : Launch) : Keeps g l gT c_159 := keeps_of hB.1 hB.2 (List.forall_mem_cons.mpr ⟨k_158 hB g l, nilK⟩) e_159 nilK
/-- Pool.fairBy ((('c', 1), ('u', 0), ('u', 0), ('u', 0)), ()) -/
def c_160 : aCt := (42, 5, some [], false, ([(0, 7), (0, 239), (0, 2)], [], [], 212), [(2, (1, [])), (0, (0, [(0, 1)])), (0, (0, [(1, 1)])), (0, (0, [(2, 1)]))], [(([(0, 7), (0, 239), (0, 2), ((-9223372036854775808), 9223372036854775807)], [], [], 212), some (1, (0, [(3, 1)])))])
def sp_160 : aSp := fun k pc S => if pc = 41 ∧ k = 42 then spS 0 [(-1), 0] S else if pc = 115 ∧ k = 42 then spD [(-1), 0] S else none
def s_160 : List aCt := [c_128, c_131]
def h_160_0 : Nat × aS × Fm := (77, ([(0, (2, (1, []))), (1, (0, (0, [(0, 1)]))), (2, (0, (0, [(1, 1)]))), (3, (0, (0, [(2, 1)]))), (4, (0, (0, [(4, 1)]))), (5, (1, (0, [(3, 1)]))), (7, (1, (0, [(5, 1)]))), (9, (0, (0, [(6, 1)])))], [], ([(0, 7), (0, 239), (1, 2), (0, 207), (0, 2), ((-9223372036854775808), 9223372036854775807), (0, 8)], [], [], 212)), (17, [(6, (-2))]))
def h_160 : List (Nat × aS × Fm) := [h_160_0]
theorem e_160 : ckE 6000 gT s_160 (fun _ => 0) sp_160 c_160 h_160 = true := by decide +kernel
theorem g_160_0 : ([h_160_0].all fun H => ckH 6000 gT s_160 (fun _ => 0) sp_160 c_160 h_160 H) = true := by decide +kernel
theorem k_160 (hB : BytesOK) (g : bG) (l : Launch) : Keeps g l gT c_160 := keeps_of hB.1 hB.2 (List.forall_mem_cons.mpr ⟨k_128 hB g l, List.forall_mem_cons.mpr ⟨k_131 hB g l, nilK⟩⟩) e_160 (List.all_eq_true.mp g_160_0)
/-- Pool.fairSum ((('c', 1), ('u', 0), ('u', 0), ('u', 0)), ()) -/
def c_161 : aCt := (41, 6, some [], false, ([(0, 7), (0, 239), (0, 4)], [], [], 212), [(2, (1, [])), (0, (0, [(0, 1)])), (0, (0, [(1, 1)])), (0, (0, [(2, 1)]))], [(([(0, 7), (0, 239), (0, 4), ((-2147483648), 2147483647)], [], [], 212), some (0, (0, [(3, 1)])))])
def s_161 : List aCt := [c_160]
def h_161_0 : Nat × aS × Fm := (23, ([(0, (2, (1, []))), (1, (0, (0, [(0, 1)]))), (2, (0, (0, [(1, 1)]))), (3, (0, (0, [(2, 1)]))), (4, (1, (0, [(3, 1)]))), (6, (1, (0, [(5, 1)]))), (8, (0, (0, [(4, 1)])))], [], ([(0, 7), (0, 239), (3, 4), (0, 9223372036854775807), (0, 3), (0, 9223372036854775807)], [], [], 212)), (7, [(4, (-2))]))
def h_161 : List (Nat × aS × Fm) := [h_161_0]
theorem e_161 : ckE 6000 gT s_161 (fun _ => 0) sp0 c_161 h_161 = true := by decide +kernel
theorem g_161_0 : ([h_161_0].all fun H => ckH 6000 gT s_161 (fun _ => 0) sp0 c_161 h_161 H) = true := by decide +kernel
theorem k_161 (hB : BytesOK) (g : bG) (l : Launch) : Keeps g l gT c_161 := keeps_of hB.1 hB.2 (List.forall_mem_cons.mpr ⟨k_160 hB g l, nilK⟩) e_161 (List.all_eq_true.mp g_161_0)
/-- B.fair ((('c', 0), ('u', 0), ('u', 0), ('u', 0)), ()) -/
def c_162 : aCt := (159, 7, some [], false, ([((-2147483648), 2147483647), ((-2147483648), 2147483647), ((-2147483648), 2147483647)], [], [], 212), [(2, (0, [])), (0, (0, [(0, 1)])), (0, (0, [(1, 1)])), (0, (0, [(2, 1)]))], [(([((-2147483648), 2147483647), ((-2147483648), 2147483647), ((-2147483648), 2147483647), ((-2147483648), 2147483647)], [], [], 212), some (0, (0, [(3, 1)])))])
def s_162 : List aCt := [c_161]
def h_162 : List (Nat × aS × Fm) := []
theorem e_162 : ckE 6000 gT s_162 (fun _ => 0) sp0 c_162 h_162 = true := by decide +kernel
theorem k_162 (hB : BytesOK) (g : bG) (l : Launch) : Keeps g l gT c_162 := keeps_of hB.1 hB.2 (List.forall_mem_cons.mpr ⟨k_161 hB g l, nilK⟩) e_162 nilK
/-- Sheets.itemAt ((('c', 181), ('u', 0), ('u', 0), ('u', 0)), ()) -/
def c_163 : aCt := (71, 1, some [], false, ([((-2147483648), 2147483647), ((-2147483648), 2147483647), ((-2147483648), 2147483647)], [], [], 212), [(2, (181, [])), (0, (0, [(0, 1)])), (0, (0, [(1, 1)])), (0, (0, [(2, 1)]))], [(([((-2147483648), 2147483647), ((-2147483648), 2147483647), ((-2147483648), 2147483647), ((-2147483648), 2147483647)], [], [], 212), some (0, (0, [(3, 1)])))])
def sp_163 : aSp := fun k pc S => if pc = 65 ∧ k = 71 then spS 0 [0, 1, 2] S else none
def s_163 : List aCt := []
def h_163 : List (Nat × aS × Fm) := []
theorem e_163 : ckE 6000 gT s_163 (fun _ => 0) sp_163 c_163 h_163 = true := by decide +kernel
theorem k_163 (hB : BytesOK) (g : bG) (l : Launch) : Keeps g l gT c_163 := keeps_of hB.1 hB.2 (nilK) e_163 nilK
/-- B.item ((('c', 0), ('u', 0), ('u', 0), ('u', 0)), ()) -/
def c_164 : aCt := (162, 2, some [], false, ([((-2147483648), 2147483647), ((-2147483648), 2147483647), ((-2147483648), 2147483647)], [], [], 212), [(2, (0, [])), (0, (0, [(0, 1)])), (0, (0, [(1, 1)])), (0, (0, [(2, 1)]))], [(([((-2147483648), 2147483647), ((-2147483648), 2147483647), ((-2147483648), 2147483647), ((-2147483648), 2147483647)], [], [], 212), some (0, (0, [(3, 1)])))])
def s_164 : List aCt := [c_163]
def h_164 : List (Nat × aS × Fm) := []
theorem e_164 : ckE 6000 gT s_164 (fun _ => 0) sp0 c_164 h_164 = true := by decide +kernel
theorem k_164 (hB : BytesOK) (g : bG) (l : Launch) : Keeps g l gT c_164 := keeps_of hB.1 hB.2 (List.forall_mem_cons.mpr ⟨k_163 hB g l, nilK⟩) e_164 nilK
/-- Sheets.sortOf ((('c', 181), ('u', 0)), ()) -/
def c_165 : aCt := (66, 1, some [], false, ([(0, 3)], [], [], 212), [(2, (181, [])), (0, (0, [(0, 1)]))], [(([(0, 3), ((-1), 3)], [], [], 212), some (0, (0, [(1, 1)])))])
def s_165 : List aCt := []
def h_165 : List (Nat × aS × Fm) := []
theorem e_165 : ckE 6000 gT s_165 (fun _ => 0) sp0 c_165 h_165 = true := by decide +kernel
theorem k_165 (hB : BytesOK) (g : bG) (l : Launch) : Keeps g l gT c_165 := keeps_of hB.1 hB.2 (nilK) e_165 nilK
