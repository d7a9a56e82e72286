/-- Pool.weighAllByHeads ((('c', 1), ('u', 0)), ()) -/
def c_163 : aCt := (34, 3, some [(1, 8, 9), (42, 0, 8)], false, ([(0, 239)], [], [], 212), [(2, (1, [])), (0, (0, [(0, 1)]))], [(([(0, 239)], [], [], 212), none)])
def sp_163 : aSp := fun k pc S => if pc = 13 ∧ k = 34 then spL 2 [] S else none
def s_163 : List aCt := [c_149]
def h_163_0 : Nat × aS × Fm := (7, ([(0, (2, (1, []))), (1, (0, (0, [(0, 1)]))), (2, (0, (0, [(2, 1)])))], [], ([(0, 239), (0, 1763), (0, 8)], [(0, [(1, 1), (2, (-207))])], [((1, 8), (0, [(1, 1)]))], 212)), (17, [(2, (-2))]))
def h_163 : List (Nat × aS × Fm) := [h_163_0]
theorem e_163 : ckE 6000 gT s_163 (fun _ => 0) sp_163 c_163 h_163 = true := by decide +kernel
theorem g_163_0 : ([h_163_0].all fun H => ckH 6000 gT s_163 (fun _ => 0) sp_163 c_163 h_163 H) = true := by decide +kernel
theorem k_163 (hB : BytesOK) (g : bG) (l : Launch) : Keeps g l gT c_163 := keeps_of hB.1 hB.2 (List.forall_mem_cons.mpr ⟨k_149 hB g l, nilK⟩) e_163 (List.all_eq_true.mp g_163_0)
/-- Pool.ringPart ((('c', 1), ('u', 0), ('u', 0), ('u', 0)), ()) -/
def c_164 : aCt := (39, 0, some [], false, ([(0, 7), ((-2147483648), 2147483647), (0, 99999)], [], [], 212), [(2, (1, [])), (0, (0, [(0, 1)])), (0, (0, [(1, 1)])), (0, (0, [(2, 1)]))], [(([(0, 7), ((-2147483648), 2147483647), (0, 99999), ((-9223372036854775808), 9223372036854775807)], [], [], 212), some (1, (0, [(3, 1)])))])
def s_164 : List aCt := []
def h_164 : List (Nat × aS × Fm) := []
theorem e_164 : ckE 6000 gT s_164 (fun _ => 0) sp0 c_164 h_164 = true := by decide +kernel
theorem k_164 (hB : BytesOK) (g : bG) (l : Launch) : Keeps g l gT c_164 := keeps_of hB.1 hB.2 (nilK) e_164 nilK
/-- Pool.holdsTogether ((('c', 1), ('u', 0), ('u', 0)), ()) -/
def c_165 : aCt := (38, 1, some [], false, ([(0, 255), (0, 99999)], [], [], 212), [(2, (1, [])), (0, (0, [(0, 1)])), (0, (0, [(1, 1)]))], [(([(0, 255), (0, 99999), (0, 1)], [], [], 212), some (0, (0, [(2, 1)])))])
def s_165 : List aCt := [c_164]
def h_165_0 : Nat × aS × Fm := (5, ([(0, (2, (1, []))), (1, (0, (0, [(0, 1)]))), (2, (0, (0, [(1, 1)]))), (3, (0, (0, [(2, 1)]))), (4, (0, (0, [(3, 1)])))], [], ([(0, 255), (0, 99999), ((-2147483648), 2147483647), (0, 8)], [], [], 212)), (35, [(3, (-2))]))
def h_165_1 : Nat × aS × Fm := (55, ([(0, (2, (1, []))), (1, (0, (0, [(0, 1)]))), (2, (0, (0, [(1, 1)]))), (3, (0, (0, [(2, 1)]))), (4, (0, (0, [(3, 1)])))], [], ([(0, 255), (0, 99999), ((-2147483648), 2147483647), (0, 8)], [], [], 212)), (17, [(3, (-2))]))
def h_165 : List (Nat × aS × Fm) := [h_165_0, h_165_1]
theorem e_165 : ckE 6000 gT s_165 (fun _ => 0) sp0 c_165 h_165 = true := by decide +kernel
theorem g_165_0 : ([h_165_0, h_165_1].all fun H => ckH 6000 gT s_165 (fun _ => 0) sp0 c_165 h_165 H) = true := by decide +kernel
theorem k_165 (hB : BytesOK) (g : bG) (l : Launch) : Keeps g l gT c_165 := keeps_of hB.1 hB.2 (List.forall_mem_cons.mpr ⟨k_164 hB g l, nilK⟩) e_165 (List.all_eq_true.mp g_165_0)
/-- Pool.widestRing ((('c', 1), ('u', 0), ('u', 0)), ()) -/
def c_166 : aCt := (37, 4, some [(1, 8, 9), (42, 0, 8)], false, ([(0, 239), (0, 99999)], [], [], 212), [(2, (1, [])), (0, (0, [(0, 1)])), (0, (0, [(1, 1)]))], [(([(0, 239), (0, 99999), ((-3), 255)], [], [], 212), some (0, (0, [(2, 1)])))])
def s_166 : List aCt := [c_163, c_165, c_148]
def h_166_0 : Nat × aS × Fm := (11, ([(0, (2, (1, []))), (1, (0, (0, [(0, 1)]))), (2, (0, (0, [(1, 1)]))), (3, (0, (0, [(3, 1)]))), (4, (0, (0, [(2, 1)])))], [], ([(0, 239), (0, 99999), (0, 256), ((-3), 255)], [], [], 212)), (513, [(2, (-2))]))
def h_166 : List (Nat × aS × Fm) := [h_166_0]
theorem e_166 : ckE 6000 gT s_166 (fun _ => 0) sp0 c_166 h_166 = true := by decide +kernel
theorem g_166_0 : ([h_166_0].all fun H => ckH 6000 gT s_166 (fun _ => 0) sp0 c_166 h_166 H) = true := by decide +kernel
theorem k_166 (hB : BytesOK) (g : bG) (l : Launch) : Keeps g l gT c_166 := keeps_of hB.1 hB.2 (List.forall_mem_cons.mpr ⟨k_163 hB g l, List.forall_mem_cons.mpr ⟨k_165 hB g l, List.forall_mem_cons.mpr ⟨k_148 hB g l, nilK⟩⟩⟩) e_166 (List.all_eq_true.mp g_166_0)
/-- B.ring ((('c', 0), ('u', 0), ('u', 0)), ()) -/
def c_167 : aCt := (154, 5, some [(1, 8, 9), (42, 0, 8)], false, ([((-2147483648), 2147483647), ((-2147483648), 2147483647)], [], [], 212), [(2, (0, [])), (0, (0, [(0, 1)])), (0, (0, [(1, 1)]))], [(([((-2147483648), 2147483647), ((-2147483648), 2147483647), ((-3), 255)], [], [], 212), some (0, (0, [(2, 1)])))])
def s_167 : List aCt := [c_166]
def h_167 : List (Nat × aS × Fm) := []
theorem e_167 : ckE 6000 gT s_167 (fun _ => 0) sp0 c_167 h_167 = true := by decide +kernel
theorem k_167 (hB : BytesOK) (g : bG) (l : Launch) : Keeps g l gT c_167 := keeps_of hB.1 hB.2 (List.forall_mem_cons.mpr ⟨k_166 hB g l, nilK⟩) e_167 nilK
/-- Talks.setMachine ((('c', 30), ('u', 0), ('u', 0)), ()) -/
def c_168 : aCt := (75, 1, some [(32, 0, 6)], false, ([((-2147483648), 2147483647), ((-2147483648), 2147483647)], [], [], 212), [(2, (30, [])), (0, (0, [(0, 1)])), (0, (0, [(1, 1)]))], [(([((-2147483648), 2147483647), ((-2147483648), 2147483647), ((-1), 333333)], [], [], 212), some (0, (0, [(2, 1)])))])
def s_168 : List aCt := []
def h_168_0 : Nat × aS × Fm := (24, ([(0, (2, (30, []))), (1, (0, (0, [(0, 1)]))), (2, (0, (0, [(1, 1)]))), (3, (0, (0, [(2, 1)]))), (4, (0, (0, [(3, 1)])))], [], ([(0, 5), (0, 333333), (0, 333333), (0, 6)], [], [], 212)), (13, [(3, (-2))]))
def h_168 : List (Nat × aS × Fm) := [h_168_0]
theorem e_168 : ckE 6000 gT s_168 (fun _ => 0) sp0 c_168 h_168 = true := by decide +kernel
theorem g_168_0 : ([h_168_0].all fun H => ckH 6000 gT s_168 (fun _ => 0) sp0 c_168 h_168 H) = true := by decide +kernel
theorem k_168 (hB : BytesOK) (g : bG) (l : Launch) : Keeps g l gT c_168 := keeps_of hB.1 hB.2 (nilK) e_168 (List.all_eq_true.mp g_168_0)
/-- B.machine ((('c', 0), ('u', 0), ('u', 0)), ()) -/
def c_169 : aCt := (155, 2, some [(32, 0, 6)], false, ([((-2147483648), 2147483647), ((-2147483648), 2147483647)], [], [], 212), [(2, (0, [])), (0, (0, [(0, 1)])), (0, (0, [(1, 1)]))], [(([((-2147483648), 2147483647), ((-2147483648), 2147483647), ((-1), 333333)], [], [], 212), some (0, (0, [(2, 1)])))])
def s_169 : List aCt := [c_168]
def h_169 : List (Nat × aS × Fm) := []
theorem e_169 : ckE 6000 gT s_169 (fun _ => 0) sp0 c_169 h_169 = true := by decide +kernel
theorem k_169 (hB : BytesOK) (g : bG) (l : Launch) : Keeps g l gT c_169 := keeps_of hB.1 hB.2 (List.forall_mem_cons.mpr ⟨k_168 hB g l, nilK⟩) e_169 nilK
/-- Talks.hasCrossed ((('c', 30), ('u', 0), ('u', 0)), ()) -/
def c_170 : aCt := (76, 0, some [], false, ([(0, 7), (0, 5)], [], [], 212), [(2, (30, [])), (0, (0, [(0, 1)])), (0, (0, [(1, 1)]))], [(([(0, 7), (0, 5), (0, 1)], [], [], 212), some (0, (0, [(2, 1)])))])
def s_170 : List aCt := []
def h_170 : List (Nat × aS × Fm) := []
theorem e_170 : ckE 6000 gT s_170 (fun _ => 0) sp0 c_170 h_170 = true := by decide +kernel
theorem k_170 (hB : BytesOK) (g : bG) (l : Launch) : Keeps g l gT c_170 := keeps_of hB.1 hB.2 (nilK) e_170 nilK
/-- Talks.setCrossed ((('c', 30), ('u', 0), ('u', 0), ('u', 0)), ()) -/
def c_171 : aCt := (77, 1, some [(33, 0, 8)], false, ([((-2147483648), 2147483647), ((-2147483648), 2147483647), (0, 1)], [], [], 212), [(2, (30, [])), (0, (0, [(0, 1)])), (0, (0, [(1, 1)])), (0, (0, [(2, 1)]))], [(([((-2147483648), 2147483647), ((-2147483648), 2147483647), (0, 1), ((-1), 1)], [], [], 212), some (0, (0, [(3, 1)])))])
def s_171 : List aCt := [c_14, c_170]
def h_171 : List (Nat × aS × Fm) := []
theorem e_171 : ckE 6000 gT s_171 (fun _ => 0) sp0 c_171 h_171 = true := by decide +kernel
theorem k_171 (hB : BytesOK) (g : bG) (l : Launch) : Keeps g l gT c_171 := keeps_of hB.1 hB.2 (List.forall_mem_cons.mpr ⟨k_14 hB g l, List.forall_mem_cons.mpr ⟨k_170 hB g l, nilK⟩⟩) e_171 nilK
/-- B.crossed ((('c', 0), ('u', 0), ('u', 0), ('u', 0)), ()) -/
def c_172 : aCt := (156, 2, some [(33, 0, 8)], false, ([((-2147483648), 2147483647), ((-2147483648), 2147483647), (0, 1)], [], [], 212), [(2, (0, [])), (0, (0, [(0, 1)])), (0, (0, [(1, 1)])), (0, (0, [(2, 1)]))], [(([((-2147483648), 2147483647), ((-2147483648), 2147483647), (0, 1), ((-1), 1)], [], [], 212), some (0, (0, [(3, 1)])))])
def s_172 : List aCt := [c_171]
def h_172 : List (Nat × aS × Fm) := []
theorem e_172 : ckE 6000 gT s_172 (fun _ => 0) sp0 c_172 h_172 = true := by decide +kernel
theorem k_172 (hB : BytesOK) (g : bG) (l : Launch) : Keeps g l gT c_172 := keeps_of hB.1 hB.2 (List.forall_mem_cons.mpr ⟨k_171 hB g l, nilK⟩) e_172 nilK
/-- Needs.stepsOfMachine ((('c', 14), ('u', 0)), ()) -/
def c_173 : aCt := (17, 0, some [], false, ([(0, 333333)], [], [], 212), [(2, (14, [])), (0, (0, [(0, 1)]))], [(([(0, 333333), (0, 65535)], [], [], 212), some (0, (0, [(1, 1)])))])
def s_173 : List aCt := []
def h_173_0 : Nat × aS × Fm := (7, ([(0, (2, (14, []))), (1, (0, (0, [(0, 1)]))), (2, (0, (0, [(1, 1)]))), (3, (0, (0, [(2, 1)]))), (4, (0, (0, [(3, 1)])))], [], ([(0, 333333), (0, 65535), (0, 333333), (0, 6)], [], [], 212)), (13, [(3, (-2))]))
def h_173 : List (Nat × aS × Fm) := [h_173_0]
theorem e_173 : ckE 6000 gT s_173 (fun _ => 0) sp0 c_173 h_173 = true := by decide +kernel
theorem g_173_0 : ([h_173_0].all fun H => ckH 6000 gT s_173 (fun _ => 0) sp0 c_173 h_173 H) = true := by decide +kernel
theorem k_173 (hB : BytesOK) (g : bG) (l : Launch) : Keeps g l gT c_173 := keeps_of hB.1 hB.2 (nilK) e_173 (List.all_eq_true.mp g_173_0)
/-- Pool.holeBits ((('c', 1), ('u', 0), ('u', 0), ('u', 0)), ()) -/
def c_174 : aCt := (40, 1, some [], false, ([(0, 53239), (0, 239), (0, 1)], [], [], 212), [(2, (1, [])), (0, (0, [(0, 1)])), (0, (0, [(1, 1)])), (0, (0, [(2, 1)]))], [(([(0, 53239), (0, 239), (0, 1), ((-2147483648), 2147483647)], [], [], 212), some (0, (0, [(3, 1)])))])
def s_174 : List aCt := [c_173, c_17, c_19, c_170]
def h_174_0 : Nat × aS × Fm := (49, ([(0, (2, (1, []))), (1, (0, (0, [(0, 1)]))), (2, (0, (0, [(1, 1)]))), (3, (0, (0, [(2, 1)]))), (4, (0, (0, [(3, 1)]))), (5, (0, (0, [(4, 1)]))), (6, (0, (0, [(5, 1)]))), (7, (0, (0, [(6, 1)]))), (8, (0, (0, [(8, 1)]))), (9, (0, (0, [(7, 1)])))], [], ([(0, 53239), (0, 239), (0, 1), (0, 5), (0, 9), (0, 999), (0, 65535), (0, 16), ((-2147483648), 2147483647)], [], [], 212)), (33, [(7, (-2))]))
def h_174 : List (Nat × aS × Fm) := [h_174_0]
theorem e_174 : ckE 6000 gT s_174 (fun _ => 0) sp0 c_174 h_174 = true := by decide +kernel
theorem g_174_0 : ([h_174_0].all fun H => ckH 6000 gT s_174 (fun _ => 0) sp0 c_174 h_174 H) = true := by decide +kernel
theorem k_174 (hB : BytesOK) (g : bG) (l : Launch) : Keeps g l gT c_174 := keeps_of hB.1 hB.2 (List.forall_mem_cons.mpr ⟨k_173 hB g l, List.forall_mem_cons.mpr ⟨k_17 hB g l, List.forall_mem_cons.mpr ⟨k_19 hB g l, List.forall_mem_cons.mpr ⟨k_170 hB g l, nilK⟩⟩⟩⟩) e_174 (List.all_eq_true.mp g_174_0)
/-- B.holes ((('c', 0), ('u', 0), ('u', 0), ('u', 0)), ()) -/
def c_175 : aCt := (157, 2, some [], false, ([((-2147483648), 2147483647), ((-2147483648), 2147483647), (0, 1)], [], [], 212), [(2, (0, [])), (0, (0, [(0, 1)])), (0, (0, [(1, 1)])), (0, (0, [(2, 1)]))], [(([((-2147483648), 2147483647), ((-2147483648), 2147483647), (0, 1), ((-2147483648), 2147483647)], [], [], 212), some (0, (0, [(3, 1)])))])
def sp_175 : aSp := fun k pc S => if pc = 0 ∧ k = 157 then spL 1 [59999] S else none
def s_175 : List aCt := [c_174]
def h_175 : List (Nat × aS × Fm) := []
theorem e_175 : ckE 6000 gT s_175 (fun _ => 0) sp_175 c_175 h_175 = true := by decide +kernel
theorem k_175 (hB : BytesOK) (g : bG) (l : Launch) : Keeps g l gT c_175 := keeps_of hB.1 hB.2 (List.forall_mem_cons.mpr ⟨k_174 hB g l, nilK⟩) e_175 nilK
/-- Talks.addLike ((('c', 30), ('u', 0), ('u', 0)), ()) -/
def c_176 : aCt := (78, 0, some [(30, 3, 6)], false, ([((-2147483648), 2147483647), ((-2147483648), 2147483647)], [], [], 212), [(2, (30, [])), (0, (0, [(0, 1)])), (0, (0, [(1, 1)]))], [(([((-2147483648), 2147483647), ((-2147483648), 2147483647), ((-2), 8)], [], [], 212), some (0, (0, [(2, 1)])))])
def s_176 : List aCt := []
def h_176 : List (Nat × aS × Fm) := []
theorem e_176 : ckE 6000 gT s_176 (fun _ => 0) sp0 c_176 h_176 = true := by decide +kernel
theorem k_176 (hB : BytesOK) (g : bG) (l : Launch) : Keeps g l gT c_176 := keeps_of hB.1 hB.2 (nilK) e_176 nilK
/-- B.like ((('c', 0), ('u', 0), ('u', 0)), ()) -/
def c_177 : aCt := (158, 1, some [(30, 3, 6)], false, ([((-2147483648), 2147483647), ((-2147483648), 2147483647)], [], [], 212), [(2, (0, [])), (0, (0, [(0, 1)])), (0, (0, [(1, 1)]))], [(([((-2147483648), 2147483647), ((-2147483648), 2147483647), ((-2), 8)], [], [], 212), some (0, (0, [(2, 1)])))])
def s_177 : List aCt := [c_176]
def h_177 : List (Nat × aS × Fm) := []
theorem e_177 : ckE 6000 gT s_177 (fun _ => 0) sp0 c_177 h_177 = true := by decide +kernel
theorem k_177 (hB : BytesOK) (g : bG) (l : Launch) : Keeps g l gT c_177 := keeps_of hB.1 hB.2 (List.forall_mem_cons.mpr ⟨k_176 hB g l, nilK⟩) e_177 nilK
/-- Pool.fairBy ((('c', 1), ('u', 0), ('u', 0), ('u', 0)), ()) -/
def c_178 : aCt := (42, 5, some [], false, ([(0, 7), (0, 239), (0, 2)], [], [], 212), [(2, (1, [])), (0, (0, [(0, 1)])), (0, (0, [(1, 1)])), (0, (0, [(2, 1)]))], [(([(0, 7), (0, 239), (0, 2), ((-9223372036854775808), 9223372036854775807)], [], [], 212), some (1, (0, [(3, 1)])))])
def sp_178 : aSp := fun k pc S => if pc = 41 ∧ k = 42 then spS 0 [(-1), 0] S else if pc = 115 ∧ k = 42 then spD [(-1), 0] S else none
def s_178 : List aCt := [c_146, c_149]
def h_178_0 : Nat × aS × Fm := (77, ([(0, (2, (1, []))), (1, (0, (0, [(0, 1)]))), (2, (0, (0, [(1, 1)]))), (3, (0, (0, [(2, 1)]))), (4, (0, (0, [(4, 1)]))), (5, (1, (0, [(3, 1)]))), (7, (1, (0, [(5, 1)]))), (9, (0, (0, [(6, 1)])))], [], ([(0, 7), (0, 239), (1, 2), (0, 207), (0, 2), ((-9223372036854775808), 9223372036854775807), (0, 8)], [], [], 212)), (17, [(6, (-2))]))
def h_178 : List (Nat × aS × Fm) := [h_178_0]
theorem e_178 : ckE 6000 gT s_178 (fun _ => 0) sp_178 c_178 h_178 = true := by decide +kernel
theorem g_178_0 : ([h_178_0].all fun H => ckH 6000 gT s_178 (fun _ => 0) sp_178 c_178 h_178 H) = true := by decide +kernel
theorem k_178 (hB : BytesOK) (g : bG) (l : Launch) : Keeps g l gT c_178 := keeps_of hB.1 hB.2 (List.forall_mem_cons.mpr ⟨k_146 hB g l, List.forall_mem_cons.mpr ⟨k_149 hB g l, nilK⟩⟩) e_178 (List.all_eq_true.mp g_178_0)
/-- Pool.fairSum ((('c', 1), ('u', 0), ('u', 0), ('u', 0)), ()) -/
def c_179 : aCt := (41, 6, some [], false, ([(0, 7), (0, 239), (0, 4)], [], [], 212), [(2, (1, [])), (0, (0, [(0, 1)])), (0, (0, [(1, 1)])), (0, (0, [(2, 1)]))], [(([(0, 7), (0, 239), (0, 4), ((-2147483648), 2147483647)], [], [], 212), some (0, (0, [(3, 1)])))])
def s_179 : List aCt := [c_178]
def h_179_0 : Nat × aS × Fm := (23, ([(0, (2, (1, []))), (1, (0, (0, [(0, 1)]))), (2, (0, (0, [(1, 1)]))), (3, (0, (0, [(2, 1)]))), (4, (1, (0, [(3, 1)]))), (6, (1, (0, [(5, 1)]))), (8, (0, (0, [(4, 1)])))], [], ([(0, 7), (0, 239), (3, 4), (0, 9223372036854775807), (0, 3), (0, 9223372036854775807)], [], [], 212)), (7, [(4, (-2))]))
def h_179 : List (Nat × aS × Fm) := [h_179_0]
theorem e_179 : ckE 6000 gT s_179 (fun _ => 0) sp0 c_179 h_179 = true := by decide +kernel
theorem g_179_0 : ([h_179_0].all fun H => ckH 6000 gT s_179 (fun _ => 0) sp0 c_179 h_179 H) = true := by decide +kernel
theorem k_179 (hB : BytesOK) (g : bG) (l : Launch) : Keeps g l gT c_179 := keeps_of hB.1 hB.2 (List.forall_mem_cons.mpr ⟨k_178 hB g l, nilK⟩) e_179 (List.all_eq_true.mp g_179_0)
/-- B.fair ((('c', 0), ('u', 0), ('u', 0), ('u', 0)), ()) -/
def c_180 : aCt := (159, 7, some [], false, ([((-2147483648), 2147483647), ((-2147483648), 2147483647), ((-2147483648), 2147483647)], [], [], 212), [(2, (0, [])), (0, (0, [(0, 1)])), (0, (0, [(1, 1)])), (0, (0, [(2, 1)]))], [(([((-2147483648), 2147483647), ((-2147483648), 2147483647), ((-2147483648), 2147483647), ((-2147483648), 2147483647)], [], [], 212), some (0, (0, [(3, 1)])))])
def s_180 : List aCt := [c_179]
def h_180 : List (Nat × aS × Fm) := []
theorem e_180 : ckE 6000 gT s_180 (fun _ => 0) sp0 c_180 h_180 = true := by decide +kernel
theorem k_180 (hB : BytesOK) (g : bG) (l : Launch) : Keeps g l gT c_180 := keeps_of hB.1 hB.2 (List.forall_mem_cons.mpr ⟨k_179 hB g l, nilK⟩) e_180 nilK
/-- Sheets.become ((('c', 181), ('u', 0), ('u', 0), ('u', 0)), ()) -/
def c_181 : aCt := (68, 1, some [(182, 0, 4), (183, 0, 4), (185, 0, 40), (186, 0, 40), (187, 0, 40), (188, 0, 40)], false, ([((-2147483648), 2147483647), ((-2147483648), 2147483647), ((-2147483648), 2147483647)], [], [], 212), [(2, (181, [])), (0, (0, [(0, 1)])), (0, (0, [(1, 1)])), (0, (0, [(2, 1)]))], [(([((-2147483648), 2147483647), ((-2147483648), 2147483647), ((-2147483648), 2147483647), ((-14), 1)], [], [], 212), some (0, (0, [(3, 1)])))])
def sp_181 : aSp := fun k pc S => if pc = 77 ∧ k = 68 then spS 0 [0, 1, 2] S else none
def s_181 : List aCt := []
def h_181_0 : Nat × aS × Fm := (65, ([(0, (2, (181, []))), (1, (0, (0, [(0, 1)]))), (2, (0, (0, [(1, 1)]))), (3, (0, (0, [(2, 1)]))), (4, (0, (0, [(3, 1)])))], [], ([(0, 3), ((-1), 3), ((-2147483648), 2147483647), (0, 40)], [], [], 212)), (81, [(3, (-2))]))
def h_181 : List (Nat × aS × Fm) := [h_181_0]
theorem e_181 : ckE 6000 gT s_181 (fun _ => 0) sp_181 c_181 h_181 = true := by decide +kernel
theorem g_181_0 : ([h_181_0].all fun H => ckH 6000 gT s_181 (fun _ => 0) sp_181 c_181 h_181 H) = true := by decide +kernel
theorem k_181 (hB : BytesOK) (g : bG) (l : Launch) : Keeps g l gT c_181 := keeps_of hB.1 hB.2 (nilK) e_181 (List.all_eq_true.mp g_181_0)
/-- B.sheet ((('c', 0), ('u', 0), ('u', 0), ('u', 0)), ()) -/
def c_182 : aCt := (160, 2, some [(182, 0, 4), (183, 0, 4), (185, 0, 40), (186, 0, 40), (187, 0, 40), (188, 0, 40)], false, ([((-2147483648), 2147483647), ((-2147483648), 2147483647), ((-2147483648), 2147483647)], [], [], 212), [(2, (0, [])), (0, (0, [(0, 1)])), (0, (0, [(1, 1)])), (0, (0, [(2, 1)]))], [(([((-2147483648), 2147483647), ((-2147483648), 2147483647), ((-2147483648), 2147483647), ((-14), 1)], [], [], 212), some (0, (0, [(3, 1)])))])
def s_182 : List aCt := [c_181]
def h_182 : List (Nat × aS × Fm) := []
theorem e_182 : ckE 6000 gT s_182 (fun _ => 0) sp0 c_182 h_182 = true := by decide +kernel
theorem k_182 (hB : BytesOK) (g : bG) (l : Launch) : Keeps g l gT c_182 := keeps_of hB.1 hB.2 (List.forall_mem_cons.mpr ⟨k_181 hB g l, nilK⟩) e_182 nilK
/-- Sheets.narrowed ((('u', 0), ('u', 0)), ()) -/
def c_183 : aCt := (70, 0, some [], false, ([((-1), 3), ((-2147483648), 2147483647)], [], [], 212), [(0, (0, [(0, 1)])), (0, (0, [(1, 1)]))], [(([((-1), 3), ((-2147483648), 2147483647), ((-2147483648), 2147483647)], [], [], 212), some (1, (0, [(2, 1)])))])
def s_183 : List aCt := []
def h_183 : List (Nat × aS × Fm) := []
theorem e_183 : ckE 6000 gT s_183 (fun _ => 0) sp0 c_183 h_183 = true := by decide +kernel
theorem k_183 (hB : BytesOK) (g : bG) (l : Launch) : Keeps g l gT c_183 := keeps_of hB.1 hB.2 (nilK) e_183 nilK
/-- Sheets.change ((('c', 181), ('u', 0), ('u', 0), ('u', 0)), ()) -/
def c_184 : aCt := (69, 1, some [(185, 0, 40), (186, 0, 40), (187, 0, 40), (188, 0, 40)], false, ([((-2147483648), 2147483647), ((-2147483648), 2147483647), ((-2147483648), 2147483647)], [], [], 212), [(2, (181, [])), (0, (0, [(0, 1)])), (0, (0, [(1, 1)])), (0, (0, [(2, 1)]))], [(([((-2147483648), 2147483647), ((-2147483648), 2147483647), ((-2147483648), 2147483647), ((-12), 1)], [], [], 212), some (0, (0, [(3, 1)])))])
def sp_184 : aSp := fun k pc S => if pc = 43 ∧ k = 69 then spS 0 [0, 1, 2] S else none
def s_184 : List aCt := [c_183]
def h_184 : List (Nat × aS × Fm) := []
theorem e_184 : ckE 6000 gT s_184 (fun _ => 0) sp_184 c_184 h_184 = true := by decide +kernel
theorem k_184 (hB : BytesOK) (g : bG) (l : Launch) : Keeps g l gT c_184 := keeps_of hB.1 hB.2 (List.forall_mem_cons.mpr ⟨k_183 hB g l, nilK⟩) e_184 nilK
/-- B.put ((('c', 0), ('u', 0), ('u', 0), ('u', 0)), ()) -/
def c_185 : aCt := (161, 2, some [(185, 0, 40), (186, 0, 40), (187, 0, 40), (188, 0, 40)], false, ([((-2147483648), 2147483647), ((-2147483648), 2147483647), ((-2147483648), 2147483647)], [], [], 212), [(2, (0, [])), (0, (0, [(0, 1)])), (0, (0, [(1, 1)])), (0, (0, [(2, 1)]))], [(([((-2147483648), 2147483647), ((-2147483648), 2147483647), ((-2147483648), 2147483647), ((-12), 1)], [], [], 212), some (0, (0, [(3, 1)])))])
def s_185 : List aCt := [c_184]
def h_185 : List (Nat × aS × Fm) := []
theorem e_185 : ckE 6000 gT s_185 (fun _ => 0) sp0 c_185 h_185 = true := by decide +kernel
theorem k_185 (hB : BytesOK) (g : bG) (l : Launch) : Keeps g l gT c_185 := keeps_of hB.1 hB.2 (List.forall_mem_cons.mpr ⟨k_184 hB g l, nilK⟩) e_185 nilK
/-- Sheets.itemAt ((('c', 181), ('u', 0), ('u', 0), ('u', 0)), ()) -/
def c_186 : aCt := (71, 1, some [], false, ([((-2147483648), 2147483647), ((-2147483648), 2147483647), ((-2147483648), 2147483647)], [], [], 212), [(2, (181, [])), (0, (0, [(0, 1)])), (0, (0, [(1, 1)])), (0, (0, [(2, 1)]))], [(([((-2147483648), 2147483647), ((-2147483648), 2147483647), ((-2147483648), 2147483647), ((-2147483648), 2147483647)], [], [], 212), some (0, (0, [(3, 1)])))])
def sp_186 : aSp := fun k pc S => if pc = 65 ∧ k = 71 then spS 0 [0, 1, 2] S else none
def s_186 : List aCt := []
def h_186 : List (Nat × aS × Fm) := []
theorem e_186 : ckE 6000 gT s_186 (fun _ => 0) sp_186 c_186 h_186 = true := by decide +kernel
theorem k_186 (hB : BytesOK) (g : bG) (l : Launch) : Keeps g l gT c_186 := keeps_of hB.1 hB.2 (nilK) e_186 nilK
