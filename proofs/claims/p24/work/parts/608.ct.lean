/-- Rows.firstWrong ((('c', 178), ('c', 1), ('u', 0)), ()) -/
def c_161 : aCt := (63, 5, some [(1, 8, 9), (42, 0, 8)], false, ([(0, 239)], [], [], 212), [(2, (178, [])), (2, (1, [])), (0, (0, [(0, 1)]))], [(([(0, 239), (0, 8)], [], [], 212), some (0, (0, [(1, 1)])))])
def s_161 : List aCt := [c_147, c_151, c_160]
def h_161_0 : Nat × aS × Fm := (57, ([(0, (2, (178, []))), (1, (2, (1, []))), (2, (0, (0, [(0, 1)]))), (3, (1, (0, [(3, 1)]))), (5, (1, (0, [(1, 1)]))), (7, (0, (0, [(2, 1)])))], [], ([(0, 239), ((-9223372036854775808), 9223372036854775807), (0, 8), ((-9223372036854775808), 9223372036854775807)], [], [], 212)), (17, [(2, (-2))]))
def h_161 : List (Nat × aS × Fm) := [h_161_0]
theorem e_161 : ckE 6000 gT s_161 (fun _ => 0) sp0 c_161 h_161 = true := by decide +kernel
theorem g_161_0 : ([h_161_0].all fun H => ckH 6000 gT s_161 (fun _ => 0) sp0 c_161 h_161 H) = true := by decide +kernel
theorem k_161 (hB : BytesOK) (g : bG) (l : Launch) : Keeps g l gT c_161 := keeps_of hB.1 hB.2 (List.forall_mem_cons.mpr ⟨k_147 hB g l, List.forall_mem_cons.mpr ⟨k_151 hB g l, List.forall_mem_cons.mpr ⟨k_160 hB g l, nilK⟩⟩⟩) e_161 (List.all_eq_true.mp g_161_0)
/-- B.judge ((('c', 0), ('u', 0)), ()) -/
def c_162 : aCt := (152, 6, some [(1, 8, 9), (42, 0, 8)], false, ([((-2147483648), 2147483647)], [], [], 212), [(2, (0, [])), (0, (0, [(0, 1)]))], [(([((-2147483648), 2147483647), ((-1), 8)], [], [], 212), some (0, (0, [(1, 1)])))])
def s_162 : List aCt := [c_161]
def h_162 : List (Nat × aS × Fm) := []
theorem e_162 : ckE 6000 gT s_162 (fun _ => 0) sp0 c_162 h_162 = true := by decide +kernel
theorem k_162 (hB : BytesOK) (g : bG) (l : Launch) : Keeps g l gT c_162 := keeps_of hB.1 hB.2 (List.forall_mem_cons.mpr ⟨k_161 hB g l, nilK⟩) e_162 nilK
/-- B.ask ((('c', 0), ('u', 0), ('u', 0)), ()) -/
def c_163 : aCt := (153, 1, some [(31, 0, 8)], false, ([((-2147483648), 2147483647), ((-2147483648), 2147483647)], [], [], 212), [(2, (0, [])), (0, (0, [(0, 1)])), (0, (0, [(1, 1)]))], [(([((-2147483648), 2147483647), ((-2147483648), 2147483647), ((-1), 9999)], [], [], 212), some (0, (0, [(2, 1)])))])
def s_163 : List aCt := []
def h_163 : List (Nat × aS × Fm) := []
theorem e_163 : ckE 6000 gT s_163 (fun _ => 0) sp0 c_163 h_163 = true := by decide +kernel
theorem k_163 (hB : BytesOK) (g : bG) (l : Launch) : Keeps g l gT c_163 := keeps_of hB.1 hB.2 (nilK) e_163 nilK
/-- Pool.weighAllByHeads ((('c', 1), ('u', 0)), ()) -/
def c_164 : aCt := (34, 3, some [(1, 8, 9), (42, 0, 8)], false, ([(0, 239)], [], [], 212), [(2, (1, [])), (0, (0, [(0, 1)]))], [(([(0, 239)], [], [], 212), none)])
def sp_164 : aSp := fun k pc S => if pc = 13 ∧ k = 34 then spL 2 [] S else none
def s_164 : List aCt := [c_150]
def h_164_0 : Nat × aS × Fm := (7, ([(0, (2, (1, []))), (1, (0, (0, [(0, 1)]))), (2, (0, (0, [(2, 1)])))], [], ([(0, 239), (0, 1763), (0, 8)], [(0, [(1, 1), (2, (-207))])], [((1, 8), (0, [(1, 1)]))], 212)), (17, [(2, (-2))]))
def h_164 : List (Nat × aS × Fm) := [h_164_0]
theorem e_164 : ckE 6000 gT s_164 (fun _ => 0) sp_164 c_164 h_164 = true := by decide +kernel
theorem g_164_0 : ([h_164_0].all fun H => ckH 6000 gT s_164 (fun _ => 0) sp_164 c_164 h_164 H) = true := by decide +kernel
theorem k_164 (hB : BytesOK) (g : bG) (l : Launch) : Keeps g l gT c_164 := keeps_of hB.1 hB.2 (List.forall_mem_cons.mpr ⟨k_150 hB g l, nilK⟩) e_164 (List.all_eq_true.mp g_164_0)
/-- Pool.ringPart ((('c', 1), ('u', 0), ('u', 0), ('u', 0)), ()) -/
def c_165 : aCt := (39, 0, some [], false, ([(0, 7), ((-2147483648), 2147483647), (0, 99999)], [], [], 212), [(2, (1, [])), (0, (0, [(0, 1)])), (0, (0, [(1, 1)])), (0, (0, [(2, 1)]))], [(([(0, 7), ((-2147483648), 2147483647), (0, 99999), ((-9223372036854775808), 9223372036854775807)], [], [], 212), some (1, (0, [(3, 1)])))])
def s_165 : List aCt := []
def h_165 : List (Nat × aS × Fm) := []
theorem e_165 : ckE 6000 gT s_165 (fun _ => 0) sp0 c_165 h_165 = true := by decide +kernel
theorem k_165 (hB : BytesOK) (g : bG) (l : Launch) : Keeps g l gT c_165 := keeps_of hB.1 hB.2 (nilK) e_165 nilK
/-- Pool.holdsTogether ((('c', 1), ('u', 0), ('u', 0)), ()) -/
def c_166 : aCt := (38, 1, some [], false, ([(0, 255), (0, 99999)], [], [], 212), [(2, (1, [])), (0, (0, [(0, 1)])), (0, (0, [(1, 1)]))], [(([(0, 255), (0, 99999), (0, 1)], [], [], 212), some (0, (0, [(2, 1)])))])
def s_166 : List aCt := [c_165]
def h_166_0 : Nat × aS × Fm := (5, ([(0, (2, (1, []))), (1, (0, (0, [(0, 1)]))), (2, (0, (0, [(1, 1)]))), (3, (0, (0, [(2, 1)]))), (4, (0, (0, [(3, 1)])))], [], ([(0, 255), (0, 99999), ((-2147483648), 2147483647), (0, 8)], [], [], 212)), (35, [(3, (-2))]))
def h_166_1 : Nat × aS × Fm := (55, ([(0, (2, (1, []))), (1, (0, (0, [(0, 1)]))), (2, (0, (0, [(1, 1)]))), (3, (0, (0, [(2, 1)]))), (4, (0, (0, [(3, 1)])))], [], ([(0, 255), (0, 99999), ((-2147483648), 2147483647), (0, 8)], [], [], 212)), (17, [(3, (-2))]))
def h_166 : List (Nat × aS × Fm) := [h_166_0, h_166_1]
theorem e_166 : ckE 6000 gT s_166 (fun _ => 0) sp0 c_166 h_166 = true := by decide +kernel
theorem g_166_0 : ([h_166_0, h_166_1].all fun H => ckH 6000 gT s_166 (fun _ => 0) sp0 c_166 h_166 H) = true := by decide +kernel
theorem k_166 (hB : BytesOK) (g : bG) (l : Launch) : Keeps g l gT c_166 := keeps_of hB.1 hB.2 (List.forall_mem_cons.mpr ⟨k_165 hB g l, nilK⟩) e_166 (List.all_eq_true.mp g_166_0)
/-- Pool.widestRing ((('c', 1), ('u', 0), ('u', 0)), ()) -/
def c_167 : aCt := (37, 4, some [(1, 8, 9), (42, 0, 8)], false, ([(0, 239), (0, 99999)], [], [], 212), [(2, (1, [])), (0, (0, [(0, 1)])), (0, (0, [(1, 1)]))], [(([(0, 239), (0, 99999), ((-3), 255)], [], [], 212), some (0, (0, [(2, 1)])))])
def s_167 : List aCt := [c_164, c_166, c_149]
def h_167_0 : Nat × aS × Fm := (11, ([(0, (2, (1, []))), (1, (0, (0, [(0, 1)]))), (2, (0, (0, [(1, 1)]))), (3, (0, (0, [(3, 1)]))), (4, (0, (0, [(2, 1)])))], [], ([(0, 239), (0, 99999), (0, 256), ((-3), 255)], [], [], 212)), (513, [(2, (-2))]))
def h_167 : List (Nat × aS × Fm) := [h_167_0]
theorem e_167 : ckE 6000 gT s_167 (fun _ => 0) sp0 c_167 h_167 = true := by decide +kernel
theorem g_167_0 : ([h_167_0].all fun H => ckH 6000 gT s_167 (fun _ => 0) sp0 c_167 h_167 H) = true := by decide +kernel
theorem k_167 (hB : BytesOK) (g : bG) (l : Launch) : Keeps g l gT c_167 := keeps_of hB.1 hB.2 (List.forall_mem_cons.mpr ⟨k_164 hB g l, List.forall_mem_cons.mpr ⟨k_166 hB g l, List.forall_mem_cons.mpr ⟨k_149 hB g l, nilK⟩⟩⟩) e_167 (List.all_eq_true.mp g_167_0)
/-- B.ring ((('c', 0), ('u', 0), ('u', 0)), ()) -/
def c_168 : aCt := (154, 5, some [(1, 8, 9), (42, 0, 8)], false, ([((-2147483648), 2147483647), ((-2147483648), 2147483647)], [], [], 212), [(2, (0, [])), (0, (0, [(0, 1)])), (0, (0, [(1, 1)]))], [(([((-2147483648), 2147483647), ((-2147483648), 2147483647), ((-3), 255)], [], [], 212), some (0, (0, [(2, 1)])))])
def s_168 : List aCt := [c_167]
def h_168 : List (Nat × aS × Fm) := []
theorem e_168 : ckE 6000 gT s_168 (fun _ => 0) sp0 c_168 h_168 = true := by decide +kernel
theorem k_168 (hB : BytesOK) (g : bG) (l : Launch) : Keeps g l gT c_168 := keeps_of hB.1 hB.2 (List.forall_mem_cons.mpr ⟨k_167 hB g l, nilK⟩) e_168 nilK
/-- Talks.setMachine ((('c', 30), ('u', 0), ('u', 0)), ()) -/
def c_169 : aCt := (75, 1, some [(32, 0, 6)], false, ([((-2147483648), 2147483647), ((-2147483648), 2147483647)], [], [], 212), [(2, (30, [])), (0, (0, [(0, 1)])), (0, (0, [(1, 1)]))], [(([((-2147483648), 2147483647), ((-2147483648), 2147483647), ((-1), 333333)], [], [], 212), some (0, (0, [(2, 1)])))])
def s_169 : List aCt := []
def h_169_0 : Nat × aS × Fm := (24, ([(0, (2, (30, []))), (1, (0, (0, [(0, 1)]))), (2, (0, (0, [(1, 1)]))), (3, (0, (0, [(2, 1)]))), (4, (0, (0, [(3, 1)])))], [], ([(0, 5), (0, 333333), (0, 333333), (0, 6)], [], [], 212)), (13, [(3, (-2))]))
def h_169 : List (Nat × aS × Fm) := [h_169_0]
theorem e_169 : ckE 6000 gT s_169 (fun _ => 0) sp0 c_169 h_169 = true := by decide +kernel
theorem g_169_0 : ([h_169_0].all fun H => ckH 6000 gT s_169 (fun _ => 0) sp0 c_169 h_169 H) = true := by decide +kernel
theorem k_169 (hB : BytesOK) (g : bG) (l : Launch) : Keeps g l gT c_169 := keeps_of hB.1 hB.2 (nilK) e_169 (List.all_eq_true.mp g_169_0)
/-- B.machine ((('c', 0), ('u', 0), ('u', 0)), ()) -/
def c_170 : aCt := (155, 2, some [(32, 0, 6)], false, ([((-2147483648), 2147483647), ((-2147483648), 2147483647)], [], [], 212), [(2, (0, [])), (0, (0, [(0, 1)])), (0, (0, [(1, 1)]))], [(([((-2147483648), 2147483647), ((-2147483648), 2147483647), ((-1), 333333)], [], [], 212), some (0, (0, [(2, 1)])))])
def s_170 : List aCt := [c_169]
def h_170 : List (Nat × aS × Fm) := []
theorem e_170 : ckE 6000 gT s_170 (fun _ => 0) sp0 c_170 h_170 = true := by decide +kernel
theorem k_170 (hB : BytesOK) (g : bG) (l : Launch) : Keeps g l gT c_170 := keeps_of hB.1 hB.2 (List.forall_mem_cons.mpr ⟨k_169 hB g l, nilK⟩) e_170 nilK
/-- Talks.hasCrossed ((('c', 30), ('u', 0), ('u', 0)), ()) -/
def c_171 : aCt := (76, 0, some [], false, ([(0, 7), (0, 5)], [], [], 212), [(2, (30, [])), (0, (0, [(0, 1)])), (0, (0, [(1, 1)]))], [(([(0, 7), (0, 5), (0, 1)], [], [], 212), some (0, (0, [(2, 1)])))])
def s_171 : List aCt := []
def h_171 : List (Nat × aS × Fm) := []
theorem e_171 : ckE 6000 gT s_171 (fun _ => 0) sp0 c_171 h_171 = true := by decide +kernel
theorem k_171 (hB : BytesOK) (g : bG) (l : Launch) : Keeps g l gT c_171 := keeps_of hB.1 hB.2 (nilK) e_171 nilK
/-- Talks.setCrossed ((('c', 30), ('u', 0), ('u', 0), ('u', 0)), ()) -/
def c_172 : aCt := (77, 1, some [(33, 0, 8)], false, ([((-2147483648), 2147483647), ((-2147483648), 2147483647), (0, 1)], [], [], 212), [(2, (30, [])), (0, (0, [(0, 1)])), (0, (0, [(1, 1)])), (0, (0, [(2, 1)]))], [(([((-2147483648), 2147483647), ((-2147483648), 2147483647), (0, 1), ((-1), 1)], [], [], 212), some (0, (0, [(3, 1)])))])
def s_172 : List aCt := [c_15, c_171]
def h_172 : List (Nat × aS × Fm) := []
theorem e_172 : ckE 6000 gT s_172 (fun _ => 0) sp0 c_172 h_172 = true := by decide +kernel
theorem k_172 (hB : BytesOK) (g : bG) (l : Launch) : Keeps g l gT c_172 := keeps_of hB.1 hB.2 (List.forall_mem_cons.mpr ⟨k_15 hB g l, List.forall_mem_cons.mpr ⟨k_171 hB g l, nilK⟩⟩) e_172 nilK
/-- B.crossed ((('c', 0), ('u', 0), ('u', 0), ('u', 0)), ()) -/
def c_173 : aCt := (156, 2, some [(33, 0, 8)], false, ([((-2147483648), 2147483647), ((-2147483648), 2147483647), (0, 1)], [], [], 212), [(2, (0, [])), (0, (0, [(0, 1)])), (0, (0, [(1, 1)])), (0, (0, [(2, 1)]))], [(([((-2147483648), 2147483647), ((-2147483648), 2147483647), (0, 1), ((-1), 1)], [], [], 212), some (0, (0, [(3, 1)])))])
def s_173 : List aCt := [c_172]
def h_173 : List (Nat × aS × Fm) := []
theorem e_173 : ckE 6000 gT s_173 (fun _ => 0) sp0 c_173 h_173 = true := by decide +kernel
theorem k_173 (hB : BytesOK) (g : bG) (l : Launch) : Keeps g l gT c_173 := keeps_of hB.1 hB.2 (List.forall_mem_cons.mpr ⟨k_172 hB g l, nilK⟩) e_173 nilK
/-- Needs.stepsOfMachine ((('c', 14), ('u', 0)), ()) -/
def c_174 : aCt := (17, 0, some [], false, ([(0, 333333)], [], [], 212), [(2, (14, [])), (0, (0, [(0, 1)]))], [(([(0, 333333), (0, 65535)], [], [], 212), some (0, (0, [(1, 1)])))])
def s_174 : List aCt := []
def h_174_0 : Nat × aS × Fm := (7, ([(0, (2, (14, []))), (1, (0, (0, [(0, 1)]))), (2, (0, (0, [(1, 1)]))), (3, (0, (0, [(2, 1)]))), (4, (0, (0, [(3, 1)])))], [], ([(0, 333333), (0, 65535), (0, 333333), (0, 6)], [], [], 212)), (13, [(3, (-2))]))
def h_174 : List (Nat × aS × Fm) := [h_174_0]
theorem e_174 : ckE 6000 gT s_174 (fun _ => 0) sp0 c_174 h_174 = true := by decide +kernel
theorem g_174_0 : ([h_174_0].all fun H => ckH 6000 gT s_174 (fun _ => 0) sp0 c_174 h_174 H) = true := by decide +kernel
theorem k_174 (hB : BytesOK) (g : bG) (l : Launch) : Keeps g l gT c_174 := keeps_of hB.1 hB.2 (nilK) e_174 (List.all_eq_true.mp g_174_0)
/-- Pool.holeBits ((('c', 1), ('u', 0), ('u', 0), ('u', 0)), ()) -/
def c_175 : aCt := (40, 1, some [], false, ([(0, 53239), (0, 239), (0, 1)], [], [], 212), [(2, (1, [])), (0, (0, [(0, 1)])), (0, (0, [(1, 1)])), (0, (0, [(2, 1)]))], [(([(0, 53239), (0, 239), (0, 1), ((-2147483648), 2147483647)], [], [], 212), some (0, (0, [(3, 1)])))])
def s_175 : List aCt := [c_174, c_18, c_20, c_171]
def h_175_0 : Nat × aS × Fm := (49, ([(0, (2, (1, []))), (1, (0, (0, [(0, 1)]))), (2, (0, (0, [(1, 1)]))), (3, (0, (0, [(2, 1)]))), (4, (0, (0, [(3, 1)]))), (5, (0, (0, [(4, 1)]))), (6, (0, (0, [(5, 1)]))), (7, (0, (0, [(6, 1)]))), (8, (0, (0, [(8, 1)]))), (9, (0, (0, [(7, 1)])))], [], ([(0, 53239), (0, 239), (0, 1), (0, 5), (0, 9), (0, 999), (0, 65535), (0, 16), ((-2147483648), 2147483647)], [], [], 212)), (33, [(7, (-2))]))
def h_175 : List (Nat × aS × Fm) := [h_175_0]
theorem e_175 : ckE 6000 gT s_175 (fun _ => 0) sp0 c_175 h_175 = true := by decide +kernel
theorem g_175_0 : ([h_175_0].all fun H => ckH 6000 gT s_175 (fun _ => 0) sp0 c_175 h_175 H) = true := by decide +kernel
theorem k_175 (hB : BytesOK) (g : bG) (l : Launch) : Keeps g l gT c_175 := keeps_of hB.1 hB.2 (List.forall_mem_cons.mpr ⟨k_174 hB g l, List.forall_mem_cons.mpr ⟨k_18 hB g l, List.forall_mem_cons.mpr ⟨k_20 hB g l, List.forall_mem_cons.mpr ⟨k_171 hB g l, nilK⟩⟩⟩⟩) e_175 (List.all_eq_true.mp g_175_0)
/-- B.holes ((('c', 0), ('u', 0), ('u', 0), ('u', 0)), ()) -/
def c_176 : aCt := (157, 2, some [], false, ([((-2147483648), 2147483647), ((-2147483648), 2147483647), (0, 1)], [], [], 212), [(2, (0, [])), (0, (0, [(0, 1)])), (0, (0, [(1, 1)])), (0, (0, [(2, 1)]))], [(([((-2147483648), 2147483647), ((-2147483648), 2147483647), (0, 1), ((-2147483648), 2147483647)], [], [], 212), some (0, (0, [(3, 1)])))])
def sp_176 : aSp := fun k pc S => if pc = 0 ∧ k = 157 then spL 1 [59999] S else none
def s_176 : List aCt := [c_175]
def h_176 : List (Nat × aS × Fm) := []
theorem e_176 : ckE 6000 gT s_176 (fun _ => 0) sp_176 c_176 h_176 = true := by decide +kernel
theorem k_176 (hB : BytesOK) (g : bG) (l : Launch) : Keeps g l gT c_176 := keeps_of hB.1 hB.2 (List.forall_mem_cons.mpr ⟨k_175 hB g l, nilK⟩) e_176 nilK
/-- Talks.addLike ((('c', 30), ('u', 0), ('u', 0)), ()) -/
def c_177 : aCt := (78, 0, some [(30, 3, 6)], false, ([((-2147483648), 2147483647), ((-2147483648), 2147483647)], [], [], 212), [(2, (30, [])), (0, (0, [(0, 1)])), (0, (0, [(1, 1)]))], [(([((-2147483648), 2147483647), ((-2147483648), 2147483647), ((-2), 8)], [], [], 212), some (0, (0, [(2, 1)])))])
def s_177 : List aCt := []
def h_177 : List (Nat × aS × Fm) := []
theorem e_177 : ckE 6000 gT s_177 (fun _ => 0) sp0 c_177 h_177 = true := by decide +kernel
theorem k_177 (hB : BytesOK) (g : bG) (l : Launch) : Keeps g l gT c_177 := keeps_of hB.1 hB.2 (nilK) e_177 nilK
/-- B.like ((('c', 0), ('u', 0), ('u', 0)), ()) -/
def c_178 : aCt := (158, 1, some [(30, 3, 6)], false, ([((-2147483648), 2147483647), ((-2147483648), 2147483647)], [], [], 212), [(2, (0, [])), (0, (0, [(0, 1)])), (0, (0, [(1, 1)]))], [(([((-2147483648), 2147483647), ((-2147483648), 2147483647), ((-2), 8)], [], [], 212), some (0, (0, [(2, 1)])))])
def s_178 : List aCt := [c_177]
def h_178 : List (Nat × aS × Fm) := []
theorem e_178 : ckE 6000 gT s_178 (fun _ => 0) sp0 c_178 h_178 = true := by decide +kernel
theorem k_178 (hB : BytesOK) (g : bG) (l : Launch) : Keeps g l gT c_178 := keeps_of hB.1 hB.2 (List.forall_mem_cons.mpr ⟨k_177 hB g l, nilK⟩) e_178 nilK
/-- Pool.fairBy ((('c', 1), ('u', 0), ('u', 0), ('u', 0)), ()) -/
def c_179 : aCt := (42, 5, some [], false, ([(0, 7), (0, 239), (0, 2)], [], [], 212), [(2, (1, [])), (0, (0, [(0, 1)])), (0, (0, [(1, 1)])), (0, (0, [(2, 1)]))], [(([(0, 7), (0, 239), (0, 2), ((-9223372036854775808), 9223372036854775807)], [], [], 212), some (1, (0, [(3, 1)])))])
def sp_179 : aSp := fun k pc S => if pc = 41 ∧ k = 42 then spS 0 [(-1), 0] S else if pc = 115 ∧ k = 42 then spD [(-1), 0] S else none
def s_179 : List aCt := [c_147, c_150]
def h_179_0 : Nat × aS × Fm := (77, ([(0, (2, (1, []))), (1, (0, (0, [(0, 1)]))), (2, (0, (0, [(1, 1)]))), (3, (0, (0, [(2, 1)]))), (4, (0, (0, [(4, 1)]))), (5, (1, (0, [(3, 1)]))), (7, (1, (0, [(5, 1)]))), (9, (0, (0, [(6, 1)])))], [], ([(0, 7), (0, 239), (1, 2), (0, 207), (0, 2), ((-9223372036854775808), 9223372036854775807), (0, 8)], [], [], 212)), (17, [(6, (-2))]))
def h_179 : List (Nat × aS × Fm) := [h_179_0]
theorem e_179 : ckE 6000 gT s_179 (fun _ => 0) sp_179 c_179 h_179 = true := by decide +kernel
theorem g_179_0 : ([h_179_0].all fun H => ckH 6000 gT s_179 (fun _ => 0) sp_179 c_179 h_179 H) = true := by decide +kernel
theorem k_179 (hB : BytesOK) (g : bG) (l : Launch) : Keeps g l gT c_179 := keeps_of hB.1 hB.2 (List.forall_mem_cons.mpr ⟨k_147 hB g l, List.forall_mem_cons.mpr ⟨k_150 hB g l, nilK⟩⟩) e_179 (List.all_eq_true.mp g_179_0)
/-- Pool.fairSum ((('c', 1), ('u', 0), ('u', 0), ('u', 0)), ()) -/
def c_180 : aCt := (41, 6, some [], false, ([(0, 7), (0, 239), (0, 4)], [], [], 212), [(2, (1, [])), (0, (0, [(0, 1)])), (0, (0, [(1, 1)])), (0, (0, [(2, 1)]))], [(([(0, 7), (0, 239), (0, 4), ((-2147483648), 2147483647)], [], [], 212), some (0, (0, [(3, 1)])))])
def s_180 : List aCt := [c_179]
def h_180_0 : Nat × aS × Fm := (23, ([(0, (2, (1, []))), (1, (0, (0, [(0, 1)]))), (2, (0, (0, [(1, 1)]))), (3, (0, (0, [(2, 1)]))), (4, (1, (0, [(3, 1)]))), (6, (1, (0, [(5, 1)]))), (8, (0, (0, [(4, 1)])))], [], ([(0, 7), (0, 239), (3, 4), (0, 9223372036854775807), (0, 3), (0, 9223372036854775807)], [], [], 212)), (7, [(4, (-2))]))
def h_180 : List (Nat × aS × Fm) := [h_180_0]
theorem e_180 : ckE 6000 gT s_180 (fun _ => 0) sp0 c_180 h_180 = true := by decide +kernel
theorem g_180_0 : ([h_180_0].all fun H => ckH 6000 gT s_180 (fun _ => 0) sp0 c_180 h_180 H) = true := by decide +kernel
theorem k_180 (hB : BytesOK) (g : bG) (l : Launch) : Keeps g l gT c_180 := keeps_of hB.1 hB.2 (List.forall_mem_cons.mpr ⟨k_179 hB g l, nilK⟩) e_180 (List.all_eq_true.mp g_180_0)
/-- B.fair ((('c', 0), ('u', 0), ('u', 0), ('u', 0)), ()) -/
def c_181 : aCt := (159, 7, some [], false, ([((-2147483648), 2147483647), ((-2147483648), 2147483647), ((-2147483648), 2147483647)], [], [], 212), [(2, (0, [])), (0, (0, [(0, 1)])), (0, (0, [(1, 1)])), (0, (0, [(2, 1)]))], [(([((-2147483648), 2147483647), ((-2147483648), 2147483647), ((-2147483648), 2147483647), ((-2147483648), 2147483647)], [], [], 212), some (0, (0, [(3, 1)])))])
def s_181 : List aCt := [c_180]
def h_181 : List (Nat × aS × Fm) := []
theorem e_181 : ckE 6000 gT s_181 (fun _ => 0) sp0 c_181 h_181 = true := by decide +kernel
theorem k_181 (hB : BytesOK) (g : bG) (l : Launch) : Keeps g l gT c_181 := keeps_of hB.1 hB.2 (List.forall_mem_cons.mpr ⟨k_180 hB g l, nilK⟩) e_181 nilK
/-- Sheets.become ((('c', 181), ('u', 0), ('u', 0), ('u', 0)), ()) -/
def c_182 : aCt := (68, 1, some [(182, 0, 4), (183, 0, 4), (185, 0, 40), (186, 0, 40), (187, 0, 40), (188, 0, 40)], false, ([((-2147483648), 2147483647), ((-2147483648), 2147483647), ((-2147483648), 2147483647)], [], [], 212), [(2, (181, [])), (0, (0, [(0, 1)])), (0, (0, [(1, 1)])), (0, (0, [(2, 1)]))], [(([((-2147483648), 2147483647), ((-2147483648), 2147483647), ((-2147483648), 2147483647), ((-14), 1)], [], [], 212), some (0, (0, [(3, 1)])))])
def sp_182 : aSp := fun k pc S => if pc = 77 ∧ k = 68 then spS 0 [0, 1, 2] S else none
def s_182 : List aCt := []
def h_182_0 : Nat × aS × Fm := (65, ([(0, (2, (181, []))), (1, (0, (0, [(0, 1)]))), (2, (0, (0, [(1, 1)]))), (3, (0, (0, [(2, 1)]))), (4, (0, (0, [(3, 1)])))], [], ([(0, 3), ((-1), 3), ((-2147483648), 2147483647), (0, 40)], [], [], 212)), (81, [(3, (-2))]))
def h_182 : List (Nat × aS × Fm) := [h_182_0]
theorem e_182 : ckE 6000 gT s_182 (fun _ => 0) sp_182 c_182 h_182 = true := by decide +kernel
theorem g_182_0 : ([h_182_0].all fun H => ckH 6000 gT s_182 (fun _ => 0) sp_182 c_182 h_182 H) = true := by decide +kernel
theorem k_182 (hB : BytesOK) (g : bG) (l : Launch) : Keeps g l gT c_182 := keeps_of hB.1 hB.2 (nilK) e_182 (List.all_eq_true.mp g_182_0)
/-- B.sheet ((('c', 0), ('u', 0), ('u', 0), ('u', 0)), ()) -/
def c_183 : aCt := (160, 2, some [(182, 0, 4), (183, 0, 4), (185, 0, 40), (186, 0, 40), (187, 0, 40), (188, 0, 40)], false, ([((-2147483648), 2147483647), ((-2147483648), 2147483647), ((-2147483648), 2147483647)], [], [], 212), [(2, (0, [])), (0, (0, [(0, 1)])), (0, (0, [(1, 1)])), (0, (0, [(2, 1)]))], [(([((-2147483648), 2147483647), ((-2147483648), 2147483647), ((-2147483648), 2147483647), ((-14), 1)], [], [], 212), some (0, (0, [(3, 1)])))])
def s_183 : List aCt := [c_182]
def h_183 : List (Nat × aS × Fm) := []
theorem e_183 : ckE 6000 gT s_183 (fun _ => 0) sp0 c_183 h_183 = true := by decide +kernel
theorem k_183 (hB : BytesOK) (g : bG) (l : Launch) : Keeps g l gT c_183 := keeps_of hB.1 hB.2 (List.forall_mem_cons.mpr ⟨k_182 hB g l, nilK⟩) e_183 nilK
/-- Sheets.narrowed ((('u', 0), ('u', 0)), ()) -/
def c_184 : aCt := (70, 0, some [], false, ([((-1), 3), ((-2147483648), 2147483647)], [], [], 212), [(0, (0, [(0, 1)])), (0, (0, [(1, 1)]))], [(([((-1), 3), ((-2147483648), 2147483647), ((-2147483648), 2147483647)], [], [], 212), some (1, (0, [(2, 1)])))])
def s_184 : List aCt := []
def h_184 : List (Nat × aS × Fm) := []
theorem e_184 : ckE 6000 gT s_184 (fun _ => 0) sp0 c_184 h_184 = true := by decide +kernel
theorem k_184 (hB : BytesOK) (g : bG) (l : Launch) : Keeps g l gT c_184 := keeps_of hB.1 hB.2 (nilK) e_184 nilK
