/-- B.months ((('c', 0), ('u', 0)), ()) -/
def c_0 : aCt := (123, 0, some [(2, 0, 1)], false, ([((-2147483648), 2147483647)], [], [], 212), [(2, (0, [])), (0, (0, [(0, 1)]))], [(([((-2147483648), 2147483647), ((-4), 320)], [], [], 212), some (0, (0, [(1, 1)])))])
def s_0 : List aCt := []
def h_0 : List (Nat × aS × Fm) := []
theorem e_0 : ckE 6000 gT s_0 (fun _ => 0) sp0 c_0 h_0 = true := by decide +kernel
theorem k_0 (g : bG) (l : Launch) : Keeps g l gT c_0 := keeps_of hT_all hM_all ((fun _ h => nomatch h)) e_0 (fun _ h => nomatch h)
/-- Rights.addClaim ((('c', 2), ('u', 0), ('u', 0), ('u', 0), ('u', 0)), ()) -/
def c_1 : aCt := (46, 1, some [(2, 1, 2), (3, 0, 16), (4, 0, 16), (5, 0, 16), (6, 0, 16), (7, 0, 16), (8, 0, 16), (9, 0, 16)], false, ([((-2147483648), 2147483647), ((-2147483648), 2147483647), ((-2147483648), 2147483647), ((-2147483648), 2147483647)], [], [], 212), [(2, (2, [])), (0, (0, [(0, 1)])), (0, (0, [(1, 1)])), (0, (0, [(2, 1)])), (0, (0, [(3, 1)]))], [(([((-2147483648), 2147483647), ((-2147483648), 2147483647), ((-2147483648), 2147483647), ((-2147483648), 2147483647), ((-2), 15)], [], [], 212), some (0, (0, [(4, 1)])))])
def sp_1 : aSp := fun k pc S => if pc = 0 ∧ k = 46 then spL 1 [799] S else none
def s_1 : List aCt := []
def h_1 : List (Nat × aS × Fm) := []
theorem e_1 : ckE 6000 gT s_1 (fun _ => 0) sp_1 c_1 h_1 = true := by decide +kernel
theorem k_1 (g : bG) (l : Launch) : Keeps g l gT c_1 := keeps_of hT_all hM_all ((fun _ h => nomatch h)) e_1 (fun _ h => nomatch h)
/-- B.claim ((('c', 0), ('u', 0), ('u', 0), ('u', 0), ('u', 0)), ()) -/
def c_2 : aCt := (124, 2, some [(2, 1, 2), (3, 0, 16), (4, 0, 16), (5, 0, 16), (6, 0, 16), (7, 0, 16), (8, 0, 16), (9, 0, 16)], false, ([((-2147483648), 2147483647), ((-2147483648), 2147483647), ((-2147483648), 2147483647), ((-2147483648), 2147483647)], [], [], 212), [(2, (0, [])), (0, (0, [(0, 1)])), (0, (0, [(1, 1)])), (0, (0, [(2, 1)])), (0, (0, [(3, 1)]))], [(([((-2147483648), 2147483647), ((-2147483648), 2147483647), ((-2147483648), 2147483647), ((-2147483648), 2147483647), ((-2), 15)], [], [], 212), some (0, (0, [(4, 1)])))])
def s_2 : List aCt := [c_1]
def h_2 : List (Nat × aS × Fm) := []
theorem e_2 : ckE 6000 gT s_2 (fun _ => 0) sp0 c_2 h_2 = true := by decide +kernel
theorem k_2 (g : bG) (l : Launch) : Keeps g l gT c_2 := keeps_of hT_all hM_all (List.forall_mem_cons.mpr ⟨k_1 g l, (fun _ h => nomatch h)⟩) e_2 (fun _ h => nomatch h)
/-- Rights.withBit ((('u', 0), ('u', 0), ('u', 0)), ()) -/
def c_3 : aCt := (49, 0, some [], false, ([((-2147483648), 2147483647), (0, 23), (0, 1)], [], [], 212), [(0, (0, [(0, 1)])), (0, (0, [(1, 1)])), (0, (0, [(2, 1)]))], [(([((-2147483648), 2147483647), (0, 23), (0, 1), ((-2147483648), 2147483647)], [], [], 212), some (0, (0, [(3, 1)])))])
def s_3 : List aCt := []
def h_3 : List (Nat × aS × Fm) := []
theorem e_3 : ckE 6000 gT s_3 (fun _ => 0) sp0 c_3 h_3 = true := by decide +kernel
theorem k_3 (g : bG) (l : Launch) : Keeps g l gT c_3 := keeps_of hT_all hM_all ((fun _ h => nomatch h)) e_3 (fun _ h => nomatch h)
/-- Rights.addWord ((('c', 2), ('u', 0), ('u', 0)), ()) -/
def c_4 : aCt := (47, 1, some [(2, 11, 13), (10, 0, 20), (11, 0, 20)], false, ([((-2147483648), 2147483647), (0, 1)], [], [], 212), [(2, (2, [])), (0, (0, [(0, 1)])), (0, (0, [(1, 1)]))], [(([((-2147483648), 2147483647), (0, 1), ((-2), 19)], [], [], 212), some (0, (0, [(2, 1)])))])
def s_4 : List aCt := [c_3]
def h_4 : List (Nat × aS × Fm) := []
theorem e_4 : ckE 6000 gT s_4 (fun _ => 0) sp0 c_4 h_4 = true := by decide +kernel
theorem k_4 (g : bG) (l : Launch) : Keeps g l gT c_4 := keeps_of hT_all hM_all (List.forall_mem_cons.mpr ⟨k_3 g l, (fun _ h => nomatch h)⟩) e_4 (fun _ h => nomatch h)
/-- B.word ((('c', 0), ('u', 0), ('u', 0)), ()) -/
def c_5 : aCt := (125, 2, some [(2, 11, 13), (10, 0, 20), (11, 0, 20)], false, ([((-2147483648), 2147483647), (0, 1)], [], [], 212), [(2, (0, [])), (0, (0, [(0, 1)])), (0, (0, [(1, 1)]))], [(([((-2147483648), 2147483647), (0, 1), ((-2), 19)], [], [], 212), some (0, (0, [(2, 1)])))])
def s_5 : List aCt := [c_4]
def h_5 : List (Nat × aS × Fm) := []
theorem e_5 : ckE 6000 gT s_5 (fun _ => 0) sp0 c_5 h_5 = true := by decide +kernel
theorem k_5 (g : bG) (l : Launch) : Keeps g l gT c_5 := keeps_of hT_all hM_all (List.forall_mem_cons.mpr ⟨k_4 g l, (fun _ h => nomatch h)⟩) e_5 (fun _ h => nomatch h)
/-- Rights.livesAt ((('c', 2), ('u', 0), ('u', 0), ('u', 0)), ()) -/
def c_6 : aCt := (50, 0, some [], false, ([(0, 15), (0, 999), (0, 239)], [], [], 212), [(2, (2, [])), (0, (0, [(0, 1)])), (0, (0, [(1, 1)])), (0, (0, [(2, 1)]))], [(([(0, 15), (0, 999), (0, 239), (0, 1)], [], [], 212), some (0, (0, [(3, 1)])))])
def s_6 : List aCt := []
def h_6_0 : Nat × aS × Fm := (42, ([(0, (2, (2, []))), (1, (0, (0, [(0, 1)]))), (2, (0, (0, [(1, 1)]))), (3, (0, (0, [(2, 1)]))), (4, (0, (0, [(3, 1)])))], [], ([(0, 15), (0, 999), (0, 239), ((-1), 19)], [], [], 212)), (3, [(3, 2)]))
def h_6 : List (Nat × aS × Fm) := [h_6_0]
theorem e_6 : ckE 6000 gT s_6 (fun _ => 0) sp0 c_6 h_6 = true := by decide +kernel
theorem g_6_0 : ([h_6_0].all fun H => ckH 6000 gT s_6 (fun _ => 0) sp0 c_6 h_6 H) = true := by decide +kernel
theorem k_6 (g : bG) (l : Launch) : Keeps g l gT c_6 := keeps_of hT_all hM_all ((fun _ h => nomatch h)) e_6 (List.all_eq_true.mp g_6_0)
/-- B.alive ((('c', 0), ('u', 0), ('u', 0), ('u', 0)), ()) -/
def c_7 : aCt := (126, 1, some [], false, ([((-2147483648), 2147483647), ((-2147483648), 2147483647), ((-2147483648), 2147483647)], [], [], 212), [(2, (0, [])), (0, (0, [(0, 1)])), (0, (0, [(1, 1)])), (0, (0, [(2, 1)]))], [(([((-2147483648), 2147483647), ((-2147483648), 2147483647), ((-2147483648), 2147483647), ((-1), 1)], [], [], 212), some (0, (0, [(3, 1)])))])
def s_7 : List aCt := [c_6]
def h_7 : List (Nat × aS × Fm) := []
theorem e_7 : ckE 6000 gT s_7 (fun _ => 0) sp0 c_7 h_7 = true := by decide +kernel
theorem k_7 (g : bG) (l : Launch) : Keeps g l gT c_7 := keeps_of hT_all hM_all (List.forall_mem_cons.mpr ⟨k_6 g l, (fun _ h => nomatch h)⟩) e_7 (fun _ h => nomatch h)
/-- Rights.isIn ((('c', 2), ('u', 0), ('u', 0)), ()) -/
def c_8 : aCt := (51, 0, some [], false, ([(0, 7), (0, 999)], [], [], 212), [(2, (2, [])), (0, (0, [(0, 1)])), (0, (0, [(1, 1)]))], [(([(0, 7), (0, 999), (0, 1)], [], [], 212), some (0, (0, [(2, 1)])))])
def s_8 : List aCt := []
def h_8_0 : Nat × aS × Fm := (7, ([(0, (2, (2, []))), (1, (0, (0, [(0, 1)]))), (2, (0, (0, [(1, 1)]))), (3, (0, (0, [(2, 1)])))], [], ([(0, 7), (0, 999), ((-1), 23)], [], [], 212)), (3, [(2, 2)]))
def h_8 : List (Nat × aS × Fm) := [h_8_0]
theorem e_8 : ckE 6000 gT s_8 (fun _ => 0) sp0 c_8 h_8 = true := by decide +kernel
theorem g_8_0 : ([h_8_0].all fun H => ckH 6000 gT s_8 (fun _ => 0) sp0 c_8 h_8 H) = true := by decide +kernel
theorem k_8 (g : bG) (l : Launch) : Keeps g l gT c_8 := keeps_of hT_all hM_all ((fun _ h => nomatch h)) e_8 (List.all_eq_true.mp g_8_0)
/-- Rights.addJoin ((('c', 2), ('u', 0), ('u', 0)), ()) -/
def c_9 : aCt := (48, 1, some [(2, 15, 17), (12, 0, 24), (13, 0, 24)], false, ([((-2147483648), 2147483647), (0, 1)], [], [], 212), [(2, (2, [])), (0, (0, [(0, 1)])), (0, (0, [(1, 1)]))], [(([((-2147483648), 2147483647), (0, 1), ((-2), 1)], [], [], 212), some (0, (0, [(2, 1)])))])
def s_9 : List aCt := [c_3, c_8]
def h_9 : List (Nat × aS × Fm) := []
theorem e_9 : ckE 6000 gT s_9 (fun _ => 0) sp0 c_9 h_9 = true := by decide +kernel
theorem k_9 (g : bG) (l : Launch) : Keeps g l gT c_9 := keeps_of hT_all hM_all (List.forall_mem_cons.mpr ⟨k_3 g l, List.forall_mem_cons.mpr ⟨k_8 g l, (fun _ h => nomatch h)⟩⟩) e_9 (fun _ h => nomatch h)
/-- B.join ((('c', 0), ('u', 0), ('u', 0)), ()) -/
def c_10 : aCt := (127, 2, some [(2, 15, 17), (12, 0, 24), (13, 0, 24)], false, ([((-2147483648), 2147483647), (0, 1)], [], [], 212), [(2, (0, [])), (0, (0, [(0, 1)])), (0, (0, [(1, 1)]))], [(([((-2147483648), 2147483647), (0, 1), ((-2), 1)], [], [], 212), some (0, (0, [(2, 1)])))])
def s_10 : List aCt := [c_9]
def h_10 : List (Nat × aS × Fm) := []
theorem e_10 : ckE 6000 gT s_10 (fun _ => 0) sp0 c_10 h_10 = true := by decide +kernel
theorem k_10 (g : bG) (l : Launch) : Keeps g l gT c_10 := keeps_of hT_all hM_all (List.forall_mem_cons.mpr ⟨k_9 g l, (fun _ h => nomatch h)⟩) e_10 (fun _ h => nomatch h)
/-- Rights.insiders ((('c', 2), ('u', 0)), ()) -/
def c_11 : aCt := (52, 1, some [], false, ([(0, 239)], [], [], 212), [(2, (2, [])), (0, (0, [(0, 1)]))], [(([(0, 239), ((-2147483648), 2147483647)], [], [], 212), some (0, (0, [(1, 1)])))])
def s_11 : List aCt := [c_8]
def h_11_0 : Nat × aS × Fm := (4, ([(0, (2, (2, []))), (1, (0, (0, [(0, 1)]))), (2, (0, (0, [(2, 1)]))), (3, (0, (0, [(1, 1)])))], [], ([(0, 239), (0, 8), ((-2147483648), 2147483647)], [], [], 212)), (17, [(1, (-2))]))
def h_11 : List (Nat × aS × Fm) := [h_11_0]
theorem e_11 : ckE 6000 gT s_11 (fun _ => 0) sp0 c_11 h_11 = true := by decide +kernel
theorem g_11_0 : ([h_11_0].all fun H => ckH 6000 gT s_11 (fun _ => 0) sp0 c_11 h_11 H) = true := by decide +kernel
theorem k_11 (g : bG) (l : Launch) : Keeps g l gT c_11 := keeps_of hT_all hM_all (List.forall_mem_cons.mpr ⟨k_8 g l, (fun _ h => nomatch h)⟩) e_11 (List.all_eq_true.mp g_11_0)
/-- B.members ((('c', 0), ('u', 0)), ()) -/
def c_12 : aCt := (128, 2, some [], false, ([((-2147483648), 2147483647)], [], [], 212), [(2, (0, [])), (0, (0, [(0, 1)]))], [(([((-2147483648), 2147483647), ((-2147483648), 2147483647)], [], [], 212), some (0, (0, [(1, 1)])))])
def s_12 : List aCt := [c_11]
def h_12 : List (Nat × aS × Fm) := []
theorem e_12 : ckE 6000 gT s_12 (fun _ => 0) sp0 c_12 h_12 = true := by decide +kernel
theorem k_12 (g : bG) (l : Launch) : Keeps g l gT c_12 := keeps_of hT_all hM_all (List.forall_mem_cons.mpr ⟨k_11 g l, (fun _ h => nomatch h)⟩) e_12 (fun _ h => nomatch h)
/-- Needs.addMust ((('c', 14), ('u', 0)), ()) -/
def c_13 : aCt := (12, 1, some [(14, 0, 1), (15, 0, 6), (16, 0, 24)], false, ([((-2147483648), 2147483647)], [], [], 212), [(2, (14, [])), (0, (0, [(0, 1)]))], [(([((-2147483648), 2147483647), ((-2), 5)], [], [], 212), some (0, (0, [(1, 1)])))])
def s_13 : List aCt := []
def h_13 : List (Nat × aS × Fm) := []
theorem e_13 : ckE 6000 gT s_13 (fun _ => 0) sp0 c_13 h_13 = true := by decide +kernel
theorem k_13 (g : bG) (l : Launch) : Keeps g l gT c_13 := keeps_of hT_all hM_all ((fun _ h => nomatch h)) e_13 (fun _ h => nomatch h)
/-- B.must ((('c', 0), ('u', 0)), ()) -/
def c_14 : aCt := (129, 2, some [(14, 0, 1), (15, 0, 6), (16, 0, 24)], false, ([((-2147483648), 2147483647)], [], [], 212), [(2, (0, [])), (0, (0, [(0, 1)]))], [(([((-2147483648), 2147483647), ((-2), 5)], [], [], 212), some (0, (0, [(1, 1)])))])
def s_14 : List aCt := [c_13]
def h_14 : List (Nat × aS × Fm) := []
theorem e_14 : ckE 6000 gT s_14 (fun _ => 0) sp0 c_14 h_14 = true := by decide +kernel
theorem k_14 (g : bG) (l : Launch) : Keeps g l gT c_14 := keeps_of hT_all hM_all (List.forall_mem_cons.mpr ⟨k_13 g l, (fun _ h => nomatch h)⟩) e_14 (fun _ h => nomatch h)
/-- Needs.addWay ((('c', 14), ('u', 0), ('u', 0)), ()) -/
def c_15 : aCt := (13, 1, some [(15, 0, 6), (16, 0, 24)], false, ([((-2147483648), 2147483647), ((-2147483648), 2147483647)], [], [], 212), [(2, (14, [])), (0, (0, [(0, 1)])), (0, (0, [(1, 1)]))], [(([((-2147483648), 2147483647), ((-2147483648), 2147483647), ((-2), 3)], [], [], 212), some (0, (0, [(2, 1)])))])
def sp_15 : aSp := fun k pc S => if pc = 0 ∧ k = 13 then spL 1 [(-1), 0, 1, 2, 3, 4, 5] S else none
def s_15 : List aCt := []
def h_15 : List (Nat × aS × Fm) := []
theorem e_15 : ckE 6000 gT s_15 (fun _ => 0) sp_15 c_15 h_15 = true := by decide +kernel
theorem k_15 (g : bG) (l : Launch) : Keeps g l gT c_15 := keeps_of hT_all hM_all ((fun _ h => nomatch h)) e_15 (fun _ h => nomatch h)
/-- B.way ((('c', 0), ('u', 0), ('u', 0)), ()) -/
def c_16 : aCt := (130, 2, some [(15, 0, 6), (16, 0, 24)], false, ([((-2147483648), 2147483647), ((-2147483648), 2147483647)], [], [], 212), [(2, (0, [])), (0, (0, [(0, 1)])), (0, (0, [(1, 1)]))], [(([((-2147483648), 2147483647), ((-2147483648), 2147483647), ((-2), 3)], [], [], 212), some (0, (0, [(2, 1)])))])
def s_16 : List aCt := [c_15]
def h_16 : List (Nat × aS × Fm) := []
theorem e_16 : ckE 6000 gT s_16 (fun _ => 0) sp0 c_16 h_16 = true := by decide +kernel
theorem k_16 (g : bG) (l : Launch) : Keeps g l gT c_16 := keeps_of hT_all hM_all (List.forall_mem_cons.mpr ⟨k_15 g l, (fun _ h => nomatch h)⟩) e_16 (fun _ h => nomatch h)
/-- Needs.stepsOfAll ((('c', 14), ('c', 0)), ()) -/
def c_17 : aCt := (15, 0, some [], false, ([], [], [], 212), [(2, (14, [])), (0, (0, []))], [(([(0, 65535)], [], [], 212), some (0, (0, [(0, 1)])))])
def s_17 : List aCt := []
def h_17_0 : Nat × aS × Fm := (4, ([(0, (2, (14, []))), (1, (0, (0, []))), (2, (0, (0, [(0, 1)]))), (3, (0, (0, [(1, 1)])))], [], ([(0, 65535), (0, 6)], [], [], 212)), (83, [(1, (-12))]))
def h_17_1 : Nat × aS × Fm := (20, ([(0, (2, (14, []))), (1, (0, (0, []))), (2, (0, (0, [(2, 1)]))), (3, (0, (0, [(3, 1)]))), (4, (0, (0, [(0, 1)]))), (5, (0, (0, [(1, 1)])))], [], ([(0, 4095), (0, 4), (0, 65535), (0, 5)], [], [], 212)), (81, [(1, (-2)), (3, (-12))]))
def h_17 : List (Nat × aS × Fm) := [h_17_0, h_17_1]
theorem e_17 : ckE 6000 gT s_17 (fun _ => 0) sp0 c_17 h_17 = true := by decide +kernel
theorem g_17_0 : ([h_17_0, h_17_1].all fun H => ckH 6000 gT s_17 (fun _ => 0) sp0 c_17 h_17 H) = true := by decide +kernel
theorem k_17 (g : bG) (l : Launch) : Keeps g l gT c_17 := keeps_of hT_all hM_all ((fun _ h => nomatch h)) e_17 (List.all_eq_true.mp g_17_0)
/-- B.needed ((('c', 0), ('u', 0)), ()) -/
def c_18 : aCt := (131, 2, some [], false, ([((-2147483648), 2147483647)], [], [], 212), [(2, (0, [])), (0, (0, [(0, 1)]))], [(([((-2147483648), 2147483647), ((-1), 1)], [], [], 212), some (0, (0, [(1, 1)])))])
def s_18 : List aCt := [c_17]
def h_18 : List (Nat × aS × Fm) := []
theorem e_18 : ckE 6000 gT s_18 (fun _ => 0) sp0 c_18 h_18 = true := by decide +kernel
theorem k_18 (g : bG) (l : Launch) : Keeps g l gT c_18 := keeps_of hT_all hM_all (List.forall_mem_cons.mpr ⟨k_17 g l, (fun _ h => nomatch h)⟩) e_18 (fun _ h => nomatch h)
/-- Needs.stepsOfAll ((('c', 14), ('u', 0)), ()) -/
def c_19 : aCt := (15, 0, some [], false, ([(1, 6)], [], [], 212), [(2, (14, [])), (0, (0, [(0, 1)]))], [(([(1, 6), (0, 65535)], [], [], 212), some (0, (0, [(1, 1)])))])
def s_19 : List aCt := []
def h_19_0 : Nat × aS × Fm := (4, ([(0, (2, (14, []))), (1, (0, (0, [(0, 1)]))), (2, (0, (0, [(1, 1)]))), (3, (0, (0, [(2, 1)])))], [], ([(1, 6), (0, 65535), (1, 6)], [], [], 212)), (83, [(2, (-12))]))
def h_19_1 : Nat × aS × Fm := (20, ([(0, (2, (14, []))), (1, (0, (0, [(0, 1)]))), (2, (0, (0, [(3, 1)]))), (3, (0, (0, [(4, 1)]))), (4, (0, (0, [(1, 1)]))), (5, (0, (0, [(2, 1)])))], [], ([(1, 6), (0, 4095), (0, 4), (0, 65535), (1, 5)], [], [], 212)), (81, [(2, (-2)), (4, (-12))]))
def h_19 : List (Nat × aS × Fm) := [h_19_0, h_19_1]
theorem e_19 : ckE 6000 gT s_19 (fun _ => 0) sp0 c_19 h_19 = true := by decide +kernel
theorem g_19_0 : ([h_19_0, h_19_1].all fun H => ckH 6000 gT s_19 (fun _ => 0) sp0 c_19 h_19 H) = true := by decide +kernel
theorem k_19 (g : bG) (l : Launch) : Keeps g l gT c_19 := keeps_of hT_all hM_all ((fun _ h => nomatch h)) e_19 (List.all_eq_true.mp g_19_0)
/-- Needs.wayAround ((('c', 14), ('u', 0)), ()) -/
def c_20 : aCt := (16, 1, some [], false, ([(0, 4095)], [], [], 212), [(2, (14, [])), (0, (0, [(0, 1)]))], [(([(0, 4095), ((-2147483648), 2147483647)], [], [], 212), some (0, (0, [(1, 1)])))])
def s_20 : List aCt := [c_17, c_19]
def h_20_0 : Nat × aS × Fm := (25, ([(0, (2, (14, []))), (1, (0, (0, [(0, 1)]))), (2, (0, (0, [(1, 1)]))), (3, (0, (0, [(4, 1)]))), (4, (0, (0, [(2, 1)]))), (5, (0, (0, [(3, 1)])))], [], ([(0, 4095), (0, 65535), ((-2147483648), 2147483647), (0, 6), ((-2147483648), 2147483647)], [], [], 212)), (69, [(3, (-10))]))
def h_20_1 : Nat × aS × Fm := (49, ([(0, (2, (14, []))), (1, (0, (0, [(0, 1)]))), (2, (0, (0, [(3, 1)]))), (3, (0, (0, [(4, 1)]))), (4, (0, (0, [(5, 1)]))), (5, (0, (0, [(6, 1)]))), (6, (0, (0, [(1, 1)]))), (7, (0, (0, [(2, 1)])))], [], ([(0, 4095), (0, 65535), (0, 3), (0, 65535), ((-2147483648), 2147483647), ((-2147483648), 2147483647), (0, 5)], [], [], 212)), (67, [(2, (-2)), (6, (-10))]))
def h_20 : List (Nat × aS × Fm) := [h_20_0, h_20_1]
theorem e_20 : ckE 6000 gT s_20 (fun _ => 0) sp0 c_20 h_20 = true := by decide +kernel
theorem g_20_0 : ([h_20_0, h_20_1].all fun H => ckH 6000 gT s_20 (fun _ => 0) sp0 c_20 h_20 H) = true := by decide +kernel
theorem k_20 (g : bG) (l : Launch) : Keeps g l gT c_20 := keeps_of hT_all hM_all (List.forall_mem_cons.mpr ⟨k_17 g l, List.forall_mem_cons.mpr ⟨k_19 g l, (fun _ h => nomatch h)⟩⟩) e_20 (List.all_eq_true.mp g_20_0)
/-- B.round ((('c', 0), ('u', 0)), ()) -/
def c_21 : aCt := (132, 2, some [], false, ([((-2147483648), 2147483647)], [], [], 212), [(2, (0, [])), (0, (0, [(0, 1)]))], [(([((-2147483648), 2147483647), ((-2147483648), 2147483647)], [], [], 212), some (0, (0, [(1, 1)])))])
def s_21 : List aCt := [c_20]
def h_21 : List (Nat × aS × Fm) := []
theorem e_21 : ckE 6000 gT s_21 (fun _ => 0) sp0 c_21 h_21 = true := by decide +kernel
theorem k_21 (g : bG) (l : Launch) : Keeps g l gT c_21 := keeps_of hT_all hM_all (List.forall_mem_cons.mpr ⟨k_20 g l, (fun _ h => nomatch h)⟩) e_21 (fun _ h => nomatch h)
/-- Rights.isSworn ((('c', 2), ('u', 0)), ()) -/
def c_22 : aCt := (53, 0, some [], false, ([(0, 15)], [], [], 212), [(2, (2, [])), (0, (0, [(0, 1)]))], [(([(0, 15), (0, 1)], [], [], 212), some (0, (0, [(1, 1)])))])
def s_22 : List aCt := []
def h_22 : List (Nat × aS × Fm) := []
theorem e_22 : ckE 6000 gT s_22 (fun _ => 0) sp0 c_22 h_22 = true := by decide +kernel
theorem k_22 (g : bG) (l : Launch) : Keeps g l gT c_22 := keeps_of hT_all hM_all ((fun _ h => nomatch h)) e_22 (fun _ h => nomatch h)
/-- Rights.swearTo ((('c', 2), ('u', 0)), ()) -/
def c_23 : aCt := (55, 1, some [(2, 9, 10)], false, ([(0, 15)], [], [], 212), [(2, (2, [])), (0, (0, [(0, 1)]))], [(([(0, 15), (0, 1)], [], [], 212), some (0, (0, [(1, 1)])))])
def s_23 : List aCt := [c_22]
def h_23 : List (Nat × aS × Fm) := []
theorem e_23 : ckE 6000 gT s_23 (fun _ => 0) sp0 c_23 h_23 = true := by decide +kernel
theorem k_23 (g : bG) (l : Launch) : Keeps g l gT c_23 := keeps_of hT_all hM_all (List.forall_mem_cons.mpr ⟨k_22 g l, (fun _ h => nomatch h)⟩) e_23 (fun _ h => nomatch h)
/-- Rights.isLookedAt ((('c', 2), ('u', 0)), ()) -/
def c_24 : aCt := (54, 0, some [], false, ([(0, 15)], [], [], 212), [(2, (2, [])), (0, (0, [(0, 1)]))], [(([(0, 15), (0, 1)], [], [], 212), some (0, (0, [(1, 1)])))])
def s_24 : List aCt := []
def h_24 : List (Nat × aS × Fm) := []
theorem e_24 : ckE 6000 gT s_24 (fun _ => 0) sp0 c_24 h_24 = true := by decide +kernel
theorem k_24 (g : bG) (l : Launch) : Keeps g l gT c_24 := keeps_of hT_all hM_all ((fun _ h => nomatch h)) e_24 (fun _ h => nomatch h)
/-- Rights.lookAt ((('c', 2), ('u', 0)), ()) -/
def c_25 : aCt := (56, 1, some [(2, 10, 11)], false, ([(0, 15)], [], [], 212), [(2, (2, [])), (0, (0, [(0, 1)]))], [(([(0, 15), ((-4), 1)], [], [], 212), some (0, (0, [(1, 1)])))])
def s_25 : List aCt := [c_22, c_24]
def h_25 : List (Nat × aS × Fm) := []
theorem e_25 : ckE 6000 gT s_25 (fun _ => 0) sp0 c_25 h_25 = true := by decide +kernel
theorem k_25 (g : bG) (l : Launch) : Keeps g l gT c_25 := keeps_of hT_all hM_all (List.forall_mem_cons.mpr ⟨k_22 g l, List.forall_mem_cons.mpr ⟨k_24 g l, (fun _ h => nomatch h)⟩⟩) e_25 (fun _ h => nomatch h)
/-- B.swear ((('c', 0), ('u', 0), ('u', 0)), ()) -/
def c_26 : aCt := (133, 2, some [(2, 9, 11)], false, ([((-2147483648), 2147483647), ((-2147483648), 2147483647)], [], [], 212), [(2, (0, [])), (0, (0, [(0, 1)])), (0, (0, [(1, 1)]))], [(([((-2147483648), 2147483647), ((-2147483648), 2147483647), ((-4), 1)], [], [], 212), some (0, (0, [(2, 1)])))])
def s_26 : List aCt := [c_23, c_25]
def h_26 : List (Nat × aS × Fm) := []
theorem e_26 : ckE 6000 gT s_26 (fun _ => 0) sp0 c_26 h_26 = true := by decide +kernel
theorem k_26 (g : bG) (l : Launch) : Keeps g l gT c_26 := keeps_of hT_all hM_all (List.forall_mem_cons.mpr ⟨k_23 g l, List.forall_mem_cons.mpr ⟨k_25 g l, (fun _ h => nomatch h)⟩⟩) e_26 (fun _ h => nomatch h)
/-- Pool.amongSworn ((('c', 1), ('u', 0)), ()) -/
def c_27 : aCt := (23, 2, some [], false, ([(0, 1)], [], [], 212), [(2, (1, [])), (0, (0, [(0, 1)]))], [(([(0, 1), ((-2147483648), 2147483647)], [], [], 212), some (0, (0, [(1, 1)])))])
def s_27 : List aCt := [c_17, c_22, c_24]
def h_27_0 : Nat × aS × Fm := (4, ([(0, (2, (1, []))), (1, (0, (0, [(0, 1)]))), (2, (0, (0, [(2, 1)]))), (3, (0, (0, [(1, 1)])))], [], ([(0, 1), (0, 16), ((-2147483648), 2147483647)], [], [], 212)), (33, [(1, (-2))]))
def h_27 : List (Nat × aS × Fm) := [h_27_0]
theorem e_27 : ckE 6000 gT s_27 (fun _ => 0) sp0 c_27 h_27 = true := by decide +kernel
theorem g_27_0 : ([h_27_0].all fun H => ckH 6000 gT s_27 (fun _ => 0) sp0 c_27 h_27 H) = true := by decide +kernel
theorem k_27 (g : bG) (l : Launch) : Keeps g l gT c_27 := keeps_of hT_all hM_all (List.forall_mem_cons.mpr ⟨k_17 g l, List.forall_mem_cons.mpr ⟨k_22 g l, List.forall_mem_cons.mpr ⟨k_24 g l, (fun _ h => nomatch h)⟩⟩⟩) e_27 (List.all_eq_true.mp g_27_0)
/-- B.among ((('c', 0), ('u', 0)), ()) -/
def c_28 : aCt := (134, 3, some [], false, ([(0, 1)], [], [], 212), [(2, (0, [])), (0, (0, [(0, 1)]))], [(([(0, 1), ((-2147483648), 2147483647)], [], [], 212), some (0, (0, [(1, 1)])))])
def s_28 : List aCt := [c_27]
def h_28 : List (Nat × aS × Fm) := []
theorem e_28 : ckE 6000 gT s_28 (fun _ => 0) sp0 c_28 h_28 = true := by decide +kernel
theorem k_28 (g : bG) (l : Launch) : Keeps g l gT c_28 := keeps_of hT_all hM_all (List.forall_mem_cons.mpr ⟨k_27 g l, (fun _ h => nomatch h)⟩) e_28 (fun _ h => nomatch h)
/-- Tape.takeBytes ((('c', 169), ('u', 1), ('u', 0)), ()) -/
def c_29 : aCt := (81, 0, some [(169, 0, 1), (170, 0, 220)], false, ([((-9223372036854775808), 9223372036854775807), ((-2147483648), 2147483647)], [], [], 212), [(2, (169, [])), (1, (0, [(0, 1)])), (0, (0, [(1, 1)]))], [(([((-9223372036854775808), 9223372036854775807), ((-2147483648), 2147483647), ((-2), 238)], [], [], 212), some (0, (0, [(2, 1)])))])
def s_29 : List aCt := []
def h_29 : List (Nat × aS × Fm) := []
theorem e_29 : ckE 6000 gT s_29 (fun _ => 0) sp0 c_29 h_29 = true := by decide +kernel
theorem k_29 (g : bG) (l : Launch) : Keeps g l gT c_29 := keeps_of hT_all hM_all ((fun _ h => nomatch h)) e_29 (fun _ h => nomatch h)
/-- B.feed ((('c', 0), ('u', 1), ('u', 0)), ()) -/
def c_30 : aCt := (135, 1, some [(169, 0, 1), (170, 0, 220)], false, ([((-9223372036854775808), 9223372036854775807), ((-2147483648), 2147483647)], [], [], 212), [(2, (0, [])), (1, (0, [(0, 1)])), (0, (0, [(1, 1)]))], [(([((-9223372036854775808), 9223372036854775807), ((-2147483648), 2147483647), ((-2), 238)], [], [], 212), some (0, (0, [(2, 1)])))])
def s_30 : List aCt := [c_29]
def h_30 : List (Nat × aS × Fm) := []
theorem e_30 : ckE 6000 gT s_30 (fun _ => 0) sp0 c_30 h_30 = true := by decide +kernel
theorem k_30 (g : bG) (l : Launch) : Keeps g l gT c_30 := keeps_of hT_all hM_all (List.forall_mem_cons.mpr ⟨k_29 g l, (fun _ h => nomatch h)⟩) e_30 (fun _ h => nomatch h)
/-- Terms.become ((('c', 43), ('c', 171)), ()) -/
def c_31 : aCt := (105, 2, some [(43, 0, 2), (43, 4, 6), (43, 8, 9), (43, 10, 12), (44, 0, 9), (45, 0, 9), (46, 0, 4), (47, 0, 3), (48, 0, 4), (49, 0, 220)], false, ([], [], [], 212), [(2, (43, [])), (2, (171, []))], [(([], [], [], 212), none)])
def s_31 : List aCt := []
def h_31 : List (Nat × aS × Fm) := []
theorem e_31 : ckE 6000 gT s_31 (fun _ => 0) sp0 c_31 h_31 = true := by decide +kernel
theorem k_31 (g : bG) (l : Launch) : Keeps g l gT c_31 := keeps_of hT_all hM_all ((fun _ h => nomatch h)) e_31 (fun _ h => nomatch h)
/-- Terms.become ((('c', 50), ('c', 171)), ()) -/
def c_32 : aCt := (105, 2, some [(50, 0, 2), (50, 4, 6), (50, 8, 9), (50, 10, 12), (51, 0, 9), (52, 0, 9), (53, 0, 4), (54, 0, 3), (55, 0, 4), (56, 0, 220)], false, ([], [], [], 212), [(2, (50, [])), (2, (171, []))], [(([], [], [], 212), none)])
def s_32 : List aCt := []
def h_32 : List (Nat × aS × Fm) := []
theorem e_32 : ckE 6000 gT s_32 (fun _ => 0) sp0 c_32 h_32 = true := by decide +kernel
theorem k_32 (g : bG) (l : Launch) : Keeps g l gT c_32 := keeps_of hT_all hM_all ((fun _ h => nomatch h)) e_32 (fun _ h => nomatch h)
/-- Terms.become ((('c', 57), ('c', 171)), ()) -/
def c_33 : aCt := (105, 2, some [(57, 0, 2), (57, 4, 6), (57, 8, 9), (57, 10, 12), (58, 0, 9), (59, 0, 9), (60, 0, 4), (61, 0, 3), (62, 0, 4), (63, 0, 220)], false, ([], [], [], 212), [(2, (57, [])), (2, (171, []))], [(([], [], [], 212), none)])
def s_33 : List aCt := []
def h_33 : List (Nat × aS × Fm) := []
theorem e_33 : ckE 6000 gT s_33 (fun _ => 0) sp0 c_33 h_33 = true := by decide +kernel
theorem k_33 (g : bG) (l : Launch) : Keeps g l gT c_33 := keeps_of hT_all hM_all ((fun _ h => nomatch h)) e_33 (fun _ h => nomatch h)
/-- Terms.become ((('c', 64), ('c', 171)), ()) -/
def c_34 : aCt := (105, 2, some [(64, 0, 2), (64, 4, 6), (64, 8, 9), (64, 10, 12), (65, 0, 9), (66, 0, 9), (67, 0, 4), (68, 0, 3), (69, 0, 4), (70, 0, 220)], false, ([], [], [], 212), [(2, (64, [])), (2, (171, []))], [(([], [], [], 212), none)])
def s_34 : List aCt := []
def h_34 : List (Nat × aS × Fm) := []
theorem e_34 : ckE 6000 gT s_34 (fun _ => 0) sp0 c_34 h_34 = true := by decide +kernel
theorem k_34 (g : bG) (l : Launch) : Keeps g l gT c_34 := keeps_of hT_all hM_all ((fun _ h => nomatch h)) e_34 (fun _ h => nomatch h)
/-- Terms.become ((('c', 71), ('c', 171)), ()) -/
def c_35 : aCt := (105, 2, some [(71, 0, 2), (71, 4, 6), (71, 8, 9), (71, 10, 12), (72, 0, 9), (73, 0, 9), (74, 0, 4), (75, 0, 3), (76, 0, 4), (77, 0, 220)], false, ([], [], [], 212), [(2, (71, [])), (2, (171, []))], [(([], [], [], 212), none)])
def s_35 : List aCt := []
def h_35 : List (Nat × aS × Fm) := []
theorem e_35 : ckE 6000 gT s_35 (fun _ => 0) sp0 c_35 h_35 = true := by decide +kernel
theorem k_35 (g : bG) (l : Launch) : Keeps g l gT c_35 := keeps_of hT_all hM_all ((fun _ h => nomatch h)) e_35 (fun _ h => nomatch h)
/-- Terms.become ((('c', 78), ('c', 171)), ()) -/
def c_36 : aCt := (105, 2, some [(78, 0, 2), (78, 4, 6), (78, 8, 9), (78, 10, 12), (79, 0, 9), (80, 0, 9), (81, 0, 4), (82, 0, 3), (83, 0, 4), (84, 0, 220)], false, ([], [], [], 212), [(2, (78, [])), (2, (171, []))], [(([], [], [], 212), none)])
def s_36 : List aCt := []
def h_36 : List (Nat × aS × Fm) := []
theorem e_36 : ckE 6000 gT s_36 (fun _ => 0) sp0 c_36 h_36 = true := by decide +kernel
theorem k_36 (g : bG) (l : Launch) : Keeps g l gT c_36 := keeps_of hT_all hM_all ((fun _ h => nomatch h)) e_36 (fun _ h => nomatch h)
/-- Tape.fail ((('c', 169),), ()) -/
def c_37 : aCt := (83, 0, some [(169, 7, 8)], false, ([], [], [], 212), [(2, (169, []))], [(([], [], [], 212), some (0, (0, [])))])
def s_37 : List aCt := []
def h_37 : List (Nat × aS × Fm) := []
theorem e_37 : ckE 6000 gT s_37 (fun _ => 0) sp0 c_37 h_37 = true := by decide +kernel
theorem k_37 (g : bG) (l : Launch) : Keeps g l gT c_37 := keeps_of hT_all hM_all ((fun _ h => nomatch h)) e_37 (fun _ h => nomatch h)
/-- Tape.goOn ((('c', 169),), ()) -/
def c_38 : aCt := (84, 0, some [(169, 3, 7)], false, ([], [], [], 212), [(2, (169, []))], [(([], [], [], 212), none)])
def s_38 : List aCt := []
def h_38_0 : Nat × aS × Fm := (5, ([(0, (2, (169, []))), (1, (0, (0, [(0, 1)])))], [], ([(0, 220)], [], [], 212)), (1325, [(0, (-2))]))
def h_38_1 : Nat × aS × Fm := (83, ([(0, (2, (169, []))), (1, (0, (0, [(0, 1)])))], [], ([(0, 220)], [], [], 212)), (883, [(0, (-2))]))
def h_38_2 : Nat × aS × Fm := (146, ([(0, (2, (169, []))), (1, (0, (0, [(0, 1)])))], [], ([(0, 220)], [], [], 212)), (441, [(0, (-2))]))
def h_38 : List (Nat × aS × Fm) := [h_38_0, h_38_1, h_38_2]
theorem e_38 : ckE 6000 gT s_38 (fun _ => 0) sp0 c_38 h_38 = true := by decide +kernel
theorem g_38_0 : ([h_38_0, h_38_1, h_38_2].all fun H => ckH 6000 gT s_38 (fun _ => 0) sp0 c_38 h_38 H) = true := by decide +kernel
theorem k_38 (g : bG) (l : Launch) : Keeps g l gT c_38 := keeps_of hT_all hM_all ((fun _ h => nomatch h)) e_38 (List.all_eq_true.mp g_38_0)
/-- Terms.addCode ((('c', 171), ('u', 0)), ()) -/
def c_39 : aCt := (100, 0, some [(171, 11, 12), (177, 0, 220)], false, ([((-4), 65535)], [], [], 212), [(2, (171, [])), (0, (0, [(0, 1)]))], [(([((-4), 65535)], [], [], 212), none)])
def s_39 : List aCt := []
def h_39 : List (Nat × aS × Fm) := []
theorem e_39 : ckE 6000 gT s_39 (fun _ => 0) sp0 c_39 h_39 = true := by decide +kernel
theorem k_39 (g : bG) (l : Launch) : Keeps g l gT c_39 := keeps_of hT_all hM_all ((fun _ h => nomatch h)) e_39 (fun _ h => nomatch h)
/-- Tape.isByte ((('c', 169), ('u', 0)), ()) -/
def c_40 : aCt := (86, 0, some [], false, ([(40, 62)], [], [], 212), [(2, (169, [])), (0, (0, [(0, 1)]))], [(([(40, 62), (0, 1)], [], [], 212), some (0, (0, [(1, 1)])))])
def s_40 : List aCt := []
def h_40 : List (Nat × aS × Fm) := []
theorem e_40 : ckE 6000 gT s_40 (fun _ => 0) sp0 c_40 h_40 = true := by decide +kernel
theorem k_40 (g : bG) (l : Launch) : Keeps g l gT c_40 := keeps_of hT_all hM_all ((fun _ h => nomatch h)) e_40 (fun _ h => nomatch h)
/-- Tape.isWord ((('c', 169), ('c', 524)), ()) -/
def c_41 : aCt := (85, 4, some [], false, ([], [], [], 212), [(2, (169, [])), (2, (524, []))], [(([(0, 1)], [], [], 212), some (0, (0, [(0, 1)])))])
def s_41 : List aCt := []
def h_41 : List (Nat × aS × Fm) := []
theorem e_41 : ckE 6000 gT s_41 (fun _ => 0) sp0 c_41 h_41 = true := by decide +kernel
theorem k_41 (g : bG) (l : Launch) : Keeps g l gT c_41 := keeps_of hT_all hM_all ((fun _ h => nomatch h)) e_41 (fun _ h => nomatch h)
/-- Tape.takeWord ((('c', 169), ('c', 524)), ()) -/
def c_42 : aCt := (87, 5, some [(169, 3, 8)], false, ([], [], [], 212), [(2, (169, [])), (2, (524, []))], [(([(0, 1)], [], [], 212), some (0, (0, [(0, 1)])))])
def s_42 : List aCt := [c_37, c_38, c_41]
def h_42 : List (Nat × aS × Fm) := []
theorem e_42 : ckE 6000 gT s_42 (fun _ => 0) sp0 c_42 h_42 = true := by decide +kernel
theorem k_42 (g : bG) (l : Launch) : Keeps g l gT c_42 := keeps_of hT_all hM_all (List.forall_mem_cons.mpr ⟨k_37 g l, List.forall_mem_cons.mpr ⟨k_38 g l, List.forall_mem_cons.mpr ⟨k_41 g l, (fun _ h => nomatch h)⟩⟩⟩) e_42 (fun _ h => nomatch h)
/-- Tape.takeNumber ((('c', 169), ('c', 0), ('c', 999)), ()) -/
def c_43 : aCt := (88, 1, some [(169, 3, 8)], false, ([], [], [], 212), [(2, (169, [])), (0, (0, [])), (0, (999, []))], [(([((-1), 999)], [], [], 212), some (0, (0, [(0, 1)])))])
def s_43 : List aCt := [c_37, c_38]
def h_43 : List (Nat × aS × Fm) := []
theorem e_43 : ckE 6000 gT s_43 (fun _ => 0) sp0 c_43 h_43 = true := by decide +kernel
theorem k_43 (g : bG) (l : Launch) : Keeps g l gT c_43 := keeps_of hT_all hM_all (List.forall_mem_cons.mpr ⟨k_37 g l, List.forall_mem_cons.mpr ⟨k_38 g l, (fun _ h => nomatch h)⟩⟩) e_43 (fun _ h => nomatch h)
