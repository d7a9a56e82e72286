/-- Acts.pays ((('c', 189), ('u', 0)), ()) -/
def c_203 : aCt := (9, 1, some [(189, 0, 1), (189, 5, 6), (190, 0, 30)], false, ([((-2147483648), 2147483647)], [], [], 212), [(2, (189, [])), (0, (0, [(0, 1)]))], [(([((-2147483648), 2147483647), ((-2147483648), 2147483647)], [], [], 212), some (0, (0, [(1, 1)])))])
def sp_203 : aSp := fun k pc S => if pc = 43 ∧ k = 9 then spD [(-1), 0] S else none
def s_203 : List aCt := [c_199]
def h_203 : List (Nat × aS × Fm) := []
theorem e_203 : ckE 6000 gT s_203 (fun _ => 0) sp_203 c_203 h_203 = true := by decide +kernel
theorem k_203 (hB : BytesOK) (g : bG) (l : Launch) : Keeps g l gT c_203 := keeps_of hB.1 hB.2 (List.forall_mem_cons.mpr ⟨k_199 hB g l, nilK⟩) e_203 nilK
/-- Acts.ends ((('c', 189), ('u', 0)), ()) -/
def c_204 : aCt := (10, 3, some [(189, 0, 1), (189, 5, 6), (190, 0, 30)], false, ([((-2147483648), 2147483647)], [], [], 212), [(2, (189, [])), (0, (0, [(0, 1)]))], [(([((-2147483648), 2147483647), ((-2147483648), 2147483647)], [], [], 212), some (0, (0, [(1, 1)])))])
def s_204 : List aCt := [c_199, c_200, c_202, c_203]
def h_204 : List (Nat × aS × Fm) := []
theorem e_204 : ckE 6000 gT s_204 (fun _ => 0) sp0 c_204 h_204 = true := by decide +kernel
theorem k_204 (hB : BytesOK) (g : bG) (l : Launch) : Keeps g l gT c_204 := keeps_of hB.1 hB.2 (List.forall_mem_cons.mpr ⟨k_199 hB g l, List.forall_mem_cons.mpr ⟨k_200 hB g l, List.forall_mem_cons.mpr ⟨k_202 hB g l, List.forall_mem_cons.mpr ⟨k_203 hB g l, nilK⟩⟩⟩⟩) e_204 nilK
/-- Acts.run ((('c', 189), ('u', 0), ('u', 0), ('u', 0), ('u', 0), ('u', 0)), ()) -/
def c_205 : aCt := (4, 4, some [(189, 0, 1), (189, 2, 6), (190, 0, 30)], false, ([(0, 9), ((-2147483648), 2147483647), ((-2147483648), 2147483647), (0, 3), ((-2147483648), 2147483647)], [], [], 212), [(2, (189, [])), (0, (0, [(0, 1)])), (0, (0, [(1, 1)])), (0, (0, [(2, 1)])), (0, (0, [(3, 1)])), (0, (0, [(4, 1)]))], [(([(0, 9), ((-2147483648), 2147483647), ((-2147483648), 2147483647), (0, 3), ((-2147483648), 2147483647), ((-2147483648), 2147483647)], [], [], 212), some (0, (0, [(5, 1)])))])
def s_205 : List aCt := [c_201, c_202, c_203, c_204]
def h_205 : List (Nat × aS × Fm) := []
theorem e_205 : ckE 6000 gT s_205 (fun _ => 0) sp0 c_205 h_205 = true := by decide +kernel
theorem k_205 (hB : BytesOK) (g : bG) (l : Launch) : Keeps g l gT c_205 := keeps_of hB.1 hB.2 (List.forall_mem_cons.mpr ⟨k_201 hB g l, List.forall_mem_cons.mpr ⟨k_202 hB g l, List.forall_mem_cons.mpr ⟨k_203 hB g l, List.forall_mem_cons.mpr ⟨k_204 hB g l, nilK⟩⟩⟩⟩) e_205 nilK
/-- B.act ((('c', 0), ('u', 0), ('u', 0), ('u', 0)), ()) -/
def c_206 : aCt := (166, 5, some [(189, 0, 1), (189, 2, 6), (190, 0, 30)], false, ([((-2147483648), 2147483647), ((-2147483648), 2147483647), ((-2147483648), 2147483647)], [], [], 212), [(2, (0, [])), (0, (0, [(0, 1)])), (0, (0, [(1, 1)])), (0, (0, [(2, 1)]))], [(([((-2147483648), 2147483647), ((-2147483648), 2147483647), ((-2147483648), 2147483647), ((-2147483648), 2147483647)], [], [], 212), some (0, (0, [(3, 1)])))])
def s_206 : List aCt := [c_205, c_195, c_198]
def h_206 : List (Nat × aS × Fm) := []
theorem e_206 : ckE 6000 gT s_206 (fun _ => 0) sp0 c_206 h_206 = true := by decide +kernel
theorem k_206 (hB : BytesOK) (g : bG) (l : Launch) : Keeps g l gT c_206 := keeps_of hB.1 hB.2 (List.forall_mem_cons.mpr ⟨k_205 hB g l, List.forall_mem_cons.mpr ⟨k_195 hB g l, List.forall_mem_cons.mpr ⟨k_198 hB g l, nilK⟩⟩⟩) e_206 nilK
/-- B.trace ((('c', 0), ('u', 0)), ()) -/
def c_207 : aCt := (167, 1, some [], false, ([((-2147483648), 2147483647)], [], [], 212), [(2, (0, [])), (0, (0, [(0, 1)]))], [(([((-2147483648), 2147483647), ((-3), 99)], [], [], 212), some (0, (0, [(1, 1)])))])
def s_207 : List aCt := []
def h_207 : List (Nat × aS × Fm) := []
theorem e_207 : ckE 6000 gT s_207 (fun _ => 0) sp0 c_207 h_207 = true := by decide +kernel
theorem k_207 (hB : BytesOK) (g : bG) (l : Launch) : Keeps g l gT c_207 := keeps_of hB.1 hB.2 (nilK) e_207 nilK
/-- Needs.machines ((('c', 14),), ()) -/
def c_208 : aCt := (14, 0, some [], false, ([], [], [], 212), [(2, (14, []))], [(([((-2147483648), 2147483647)], [], [], 212), some (0, (0, [(0, 1)])))])
def s_208 : List aCt := []
def h_208_0 : Nat × aS × Fm := (4, ([(0, (2, (14, []))), (1, (0, (0, [(0, 1)]))), (2, (0, (0, [(1, 1)])))], [], ([((-2147483648), 2147483647), (0, 6)], [], [], 212)), (13, [(1, (-2))]))
def h_208 : List (Nat × aS × Fm) := [h_208_0]
theorem e_208 : ckE 6000 gT s_208 (fun _ => 0) sp0 c_208 h_208 = true := by decide +kernel
theorem g_208_0 : ([h_208_0].all fun H => ckH 6000 gT s_208 (fun _ => 0) sp0 c_208 h_208 H) = true := by decide +kernel
theorem k_208 (hB : BytesOK) (g : bG) (l : Launch) : Keeps g l gT c_208 := keeps_of hB.1 hB.2 (nilK) e_208 (List.all_eq_true.mp g_208_0)
/-- Pool.neededClaims ((('c', 1),), ()) -/
def c_209 : aCt := (21, 2, some [], false, ([], [], [], 212), [(2, (1, []))], [(([((-2147483648), 2147483647)], [], [], 212), some (0, (0, [(0, 1)])))])
def s_209 : List aCt := [c_29]
def h_209_0 : Nat × aS × Fm := (4, ([(0, (2, (1, []))), (1, (0, (0, [(1, 1)]))), (2, (0, (0, [(0, 1)])))], [], ([(0, 16), ((-2147483648), 2147483647)], [], [], 212)), (33, [(0, (-2))]))
def h_209 : List (Nat × aS × Fm) := [h_209_0]
theorem e_209 : ckE 6000 gT s_209 (fun _ => 0) sp0 c_209 h_209 = true := by decide +kernel
theorem g_209_0 : ([h_209_0].all fun H => ckH 6000 gT s_209 (fun _ => 0) sp0 c_209 h_209 H) = true := by decide +kernel
theorem k_209 (hB : BytesOK) (g : bG) (l : Launch) : Keeps g l gT c_209 := keeps_of hB.1 hB.2 (List.forall_mem_cons.mpr ⟨k_29 hB g l, nilK⟩) e_209 (List.all_eq_true.mp g_209_0)
/-- B.many ((('c', 0), ('u', 0)), ()) -/
def c_210 : aCt := (168, 3, some [], false, ([((-2147483648), 2147483647)], [], [], 212), [(2, (0, [])), (0, (0, [(0, 1)]))], [(([((-2147483648), 2147483647), ((-2147483648), 2147483647)], [], [], 212), some (0, (0, [(1, 1)])))])
def s_210 : List aCt := [c_208, c_209]
def h_210 : List (Nat × aS × Fm) := []
theorem e_210 : ckE 6000 gT s_210 (fun _ => 0) sp0 c_210 h_210 = true := by decide +kernel
theorem k_210 (hB : BytesOK) (g : bG) (l : Launch) : Keeps g l gT c_210 := keeps_of hB.1 hB.2 (List.forall_mem_cons.mpr ⟨k_208 hB g l, List.forall_mem_cons.mpr ⟨k_209 hB g l, nilK⟩⟩) e_210 nilK
/-- Needs.become ((('c', 14), ('c', 98)), ()) -/
def c_211 : aCt := (18, 2, some [(14, 0, 1), (15, 0, 6), (16, 0, 24)], false, ([], [], [], 212), [(2, (14, [])), (2, (98, []))], [(([], [], [], 212), none)])
def s_211 : List aCt := []
def h_211 : List (Nat × aS × Fm) := []
theorem e_211 : ckE 6000 gT s_211 (fun _ => 0) sp0 c_211 h_211 = true := by decide +kernel
theorem k_211 (hB : BytesOK) (g : bG) (l : Launch) : Keeps g l gT c_211 := keeps_of hB.1 hB.2 (nilK) e_211 nilK
/-- Needs.become ((('c', 98), ('c', 14)), ()) -/
def c_212 : aCt := (18, 2, some [(98, 0, 1), (99, 0, 6), (100, 0, 24)], false, ([], [], [], 212), [(2, (98, [])), (2, (14, []))], [(([], [], [], 212), none)])
def s_212 : List aCt := []
def h_212 : List (Nat × aS × Fm) := []
theorem e_212 : ckE 6000 gT s_212 (fun _ => 0) sp0 c_212 h_212 = true := by decide +kernel
theorem k_212 (hB : BytesOK) (g : bG) (l : Launch) : Keeps g l gT c_212 := keeps_of hB.1 hB.2 (nilK) e_212 nilK
/-- M.months ((('c', 193), ('u', 0)), ()) -/
def c_213 : aCt := (189, 1, some [(194, 0, 1)], false, ([((-2147483648), 2147483647)], [], [], 212), [(2, (193, [])), (0, (0, [(0, 1)]))], [(([((-2147483648), 2147483647), ((-4), 239)], [], [], 212), some (0, (0, [(1, 1)])))])
def s_213 : List aCt := []
def h_213 : List (Nat × aS × Fm) := []
theorem e_213 : ckE 6000 gT s_213 (fun _ => 0) sp0 c_213 h_213 = true := by decide +kernel
theorem k_213 (hB : BytesOK) (g : bG) (l : Launch) : Keeps g l gT c_213 := keeps_of hB.1 hB.2 (nilK) e_213 nilK
/-- M.claim ((('c', 193), ('u', 0), ('u', 0), ('u', 0), ('u', 0)), ()) -/
def c_214 : aCt := (192, 2, some [(194, 1, 2), (194, 16, 144)], false, ([((-2147483648), 2147483647), ((-2147483648), 2147483647), ((-2147483648), 2147483647), ((-2147483648), 2147483647)], [], [], 212), [(2, (193, [])), (0, (0, [(0, 1)])), (0, (0, [(1, 1)])), (0, (0, [(2, 1)])), (0, (0, [(3, 1)]))], [(([((-2147483648), 2147483647), ((-2147483648), 2147483647), ((-2147483648), 2147483647), ((-2147483648), 2147483647), ((-2), 15)], [], [], 212), some (0, (0, [(4, 1)])))])
def s_214 : List aCt := []
def h_214 : List (Nat × aS × Fm) := []
theorem e_214 : ckE 6000 gT s_214 (fun _ => 0) sp0 c_214 h_214 = true := by decide +kernel
theorem k_214 (hB : BytesOK) (g : bG) (l : Launch) : Keeps g l gT c_214 := keeps_of hB.1 hB.2 (nilK) e_214 nilK
/-- M.word ((('c', 193), ('u', 0), ('u', 0)), ()) -/
def c_215 : aCt := (193, 2, some [(194, 2, 3), (194, 144, 204)], false, ([((-2147483648), 2147483647), (0, 1)], [], [], 212), [(2, (193, [])), (0, (0, [(0, 1)])), (0, (0, [(1, 1)]))], [(([((-2147483648), 2147483647), (0, 1), ((-2), 19)], [], [], 212), some (0, (0, [(2, 1)])))])
def s_215 : List aCt := []
def h_215 : List (Nat × aS × Fm) := []
theorem e_215 : ckE 6000 gT s_215 (fun _ => 0) sp0 c_215 h_215 = true := by decide +kernel
theorem k_215 (hB : BytesOK) (g : bG) (l : Launch) : Keeps g l gT c_215 := keeps_of hB.1 hB.2 (nilK) e_215 nilK
/-- M.isAlive ((('c', 193), ('u', 0), ('u', 0), ('u', 0)), ()) -/
def c_216 : aCt := (194, 1, some [], false, ([(0, 15), (0, 999), (0, 239)], [], [], 212), [(2, (193, [])), (0, (0, [(0, 1)])), (0, (0, [(1, 1)])), (0, (0, [(2, 1)]))], [(([(0, 15), (0, 999), (0, 239), (0, 1)], [], [], 212), some (0, (0, [(3, 1)])))])
def s_216 : List aCt := []
def h_216_0 : Nat × aS × Fm := (6, ([(0, (2, (193, []))), (1, (0, (0, [(0, 1)]))), (2, (0, (0, [(1, 1)]))), (3, (0, (0, [(2, 1)]))), (4, (0, (0, [(4, 1)]))), (5, (0, (0, [(3, 1)])))], [], ([(0, 15), (0, 999), (0, 239), (0, 20), (0, 1)], [], [], 212)), (41, [(3, (-2))]))
def h_216 : List (Nat × aS × Fm) := [h_216_0]
theorem e_216 : ckE 6000 gT s_216 (fun _ => 0) sp0 c_216 h_216 = true := by decide +kernel
theorem g_216_0 : ([h_216_0].all fun H => ckH 6000 gT s_216 (fun _ => 0) sp0 c_216 h_216 H) = true := by decide +kernel
theorem k_216 (hB : BytesOK) (g : bG) (l : Launch) : Keeps g l gT c_216 := keeps_of hB.1 hB.2 (nilK) e_216 (List.all_eq_true.mp g_216_0)
/-- M.alive ((('c', 193), ('u', 0), ('u', 0), ('u', 0)), ()) -/
def c_217 : aCt := (195, 2, some [], false, ([((-2147483648), 2147483647), ((-2147483648), 2147483647), ((-2147483648), 2147483647)], [], [], 212), [(2, (193, [])), (0, (0, [(0, 1)])), (0, (0, [(1, 1)])), (0, (0, [(2, 1)]))], [(([((-2147483648), 2147483647), ((-2147483648), 2147483647), ((-2147483648), 2147483647), ((-1), 1)], [], [], 212), some (0, (0, [(3, 1)])))])
def s_217 : List aCt := [c_216]
def h_217 : List (Nat × aS × Fm) := []
theorem e_217 : ckE 6000 gT s_217 (fun _ => 0) sp0 c_217 h_217 = true := by decide +kernel
theorem k_217 (hB : BytesOK) (g : bG) (l : Launch) : Keeps g l gT c_217 := keeps_of hB.1 hB.2 (List.forall_mem_cons.mpr ⟨k_216 hB g l, nilK⟩) e_217 nilK
/-- M.isIn ((('c', 193), ('u', 0), ('u', 0)), ()) -/
def c_218 : aCt := (196, 0, some [], false, ([(0, 7), (0, 999)], [], [], 212), [(2, (193, [])), (0, (0, [(0, 1)])), (0, (0, [(1, 1)]))], [(([(0, 7), (0, 999), (0, 1)], [], [], 212), some (0, (0, [(2, 1)])))])
def s_218 : List aCt := []
def h_218_0 : Nat × aS × Fm := (8, ([(0, (2, (193, []))), (1, (0, (0, [(0, 1)]))), (2, (0, (0, [(1, 1)]))), (3, (0, (0, [(4, 1)]))), (4, (0, (0, [(3, 1)]))), (5, (0, (0, [(2, 1)])))], [], ([(0, 7), (0, 999), (0, 24), ((-1), 239), (0, 1)], [], [], 212)), (49, [(2, (-2))]))
def h_218 : List (Nat × aS × Fm) := [h_218_0]
theorem e_218 : ckE 6000 gT s_218 (fun _ => 0) sp0 c_218 h_218 = true := by decide +kernel
theorem g_218_0 : ([h_218_0].all fun H => ckH 6000 gT s_218 (fun _ => 0) sp0 c_218 h_218 H) = true := by decide +kernel
theorem k_218 (hB : BytesOK) (g : bG) (l : Launch) : Keeps g l gT c_218 := keeps_of hB.1 hB.2 (nilK) e_218 (List.all_eq_true.mp g_218_0)
/-- M.join ((('c', 193), ('u', 0), ('u', 0)), ()) -/
def c_219 : aCt := (197, 2, some [(194, 10, 11), (194, 204, 276)], false, ([((-2147483648), 2147483647), (0, 1)], [], [], 212), [(2, (193, [])), (0, (0, [(0, 1)])), (0, (0, [(1, 1)]))], [(([((-2147483648), 2147483647), (0, 1), ((-2), 1)], [], [], 212), some (0, (0, [(2, 1)])))])
def s_219 : List aCt := [c_218]
def h_219 : List (Nat × aS × Fm) := []
theorem e_219 : ckE 6000 gT s_219 (fun _ => 0) sp0 c_219 h_219 = true := by decide +kernel
theorem k_219 (hB : BytesOK) (g : bG) (l : Launch) : Keeps g l gT c_219 := keeps_of hB.1 hB.2 (List.forall_mem_cons.mpr ⟨k_218 hB g l, nilK⟩) e_219 nilK
/-- M.members ((('c', 193), ('u', 0)), ()) -/
def c_220 : aCt := (198, 2, some [], false, ([((-2147483648), 2147483647)], [], [], 212), [(2, (193, [])), (0, (0, [(0, 1)]))], [(([((-2147483648), 2147483647), ((-2147483648), 2147483647)], [], [], 212), some (0, (0, [(1, 1)])))])
def s_220 : List aCt := [c_218]
def h_220_0 : Nat × aS × Fm := (13, ([(0, (2, (193, []))), (1, (0, (0, [(0, 1)]))), (2, (0, (0, [(2, 1)]))), (3, (0, (0, [(1, 1)])))], [], ([(0, 239), (0, 8), ((-2147483648), 2147483647)], [], [], 212)), (17, [(1, (-2))]))
def h_220 : List (Nat × aS × Fm) := [h_220_0]
theorem e_220 : ckE 6000 gT s_220 (fun _ => 0) sp0 c_220 h_220 = true := by decide +kernel
theorem g_220_0 : ([h_220_0].all fun H => ckH 6000 gT s_220 (fun _ => 0) sp0 c_220 h_220 H) = true := by decide +kernel
theorem k_220 (hB : BytesOK) (g : bG) (l : Launch) : Keeps g l gT c_220 := keeps_of hB.1 hB.2 (List.forall_mem_cons.mpr ⟨k_218 hB g l, nilK⟩) e_220 (List.all_eq_true.mp g_220_0)
/-- M.must ((('c', 193), ('u', 0)), (((194, 3), ('u',)), ((194, 276), ('u',)), ((194, 281), ('u',)), ((194, 286), ('u',)), ((194, 291), ('u',)), ((194, -/
def c_221 : aCt := (199, 2, some [(194, 3, 4), (194, 276, 306)], false, ([((-2147483648), 2147483647), (0, 6), (0, 4), (0, 4), (0, 4), (0, 4), (0, 4), (0, 4)], [(0, [(1, 1), (2, (-6))]), ((-1), [(1, 1), (3, (-6))]), ((-2), [(1, 1), (4, (-6))]), ((-3), [(1, 1), (5, (-6))]), ((-4), [(1, 1), (6, (-6))]), ((-5), [(1, 1), (7, (-6))])], [((194, 3), (0, [(1, 1)])), ((194, 276), (0, [(2, 1)])), ((194, 281), (0, [(3, 1)])), ((194, 286), (0, [(4, 1)])), ((194, 291), (0, [(5, 1)])), ((194, 296), (0, [(6, 1)])), ((194, 301), (0, [(7, 1)]))], 212), [(2, (193, [])), (0, (0, [(0, 1)]))], [(([((-2147483648), 2147483647), (0, 6), (0, 4), (0, 4), (0, 4), (0, 4), (0, 4), (0, 4), (0, 6), (0, 4), ((-2), 5), (0, 4), (0, 4), (0, 4), (0, 4), (0, 4)], [(0, [(8, 1), (9, (-6))]), ((-1), [(8, 1), (11, (-6))]), ((-2), [(8, 1), (12, (-6))]), ((-3), [(8, 1), (13, (-6))]), ((-4), [(8, 1), (14, (-6))]), ((-5), [(8, 1), (15, (-6))])], [((194, 3), (0, [(8, 1)])), ((194, 276), (0, [(9, 1)])), ((194, 281), (0, [(11, 1)])), ((194, 286), (0, [(12, 1)])), ((194, 291), (0, [(13, 1)])), ((194, 296), (0, [(14, 1)])), ((194, 301), (0, [(15, 1)]))], 212), some (0, (0, [(10, 1)])))])
def sp_221 : aSp := fun k pc S => if pc = 0 ∧ k = 199 then spP 194 3 [0, 1, 2, 3, 4, 5] S else none
def s_221 : List aCt := []
def h_221 : List (Nat × aS × Fm) := []
theorem e_221 : ckE 6000 gT s_221 (fun _ => 0) sp_221 c_221 h_221 = true := by decide +kernel
theorem k_221 (hB : BytesOK) (g : bG) (l : Launch) : Keeps g l gT c_221 := keeps_of hB.1 hB.2 (nilK) e_221 nilK
