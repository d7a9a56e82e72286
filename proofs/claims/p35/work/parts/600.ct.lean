/-- B.months ((('c', 0), ('u', 0)), ()) -/
def c_0 : aCt := (123, 0, some [(2, 0, 1)], false, ([((-2147483648), 2147483647)], [], [], 212), [(2, (0, [])), (0, (0, [(0, 1)]))], [(([((-2147483648), 2147483647), ((-4), 239)], [], [], 212), some (0, (0, [(1, 1)])))])
def s_0 : List aCt := []
def h_0 : List (Nat × aS × Fm) := []
theorem e_0 : ckE 6000 gT s_0 (fun _ => 0) sp0 c_0 h_0 = true := by decide +kernel
theorem k_0 (hB : BytesOK) (g : bG) (l : Launch) : Keeps g l gT c_0 := keeps_of hB.1 hB.2 (nilK) e_0 nilK
/-- Rights.addClaim ((('c', 2), ('u', 0), ('u', 0), ('u', 0), ('u', 0)), ()) -/
def c_1 : aCt := (46, 1, some [(2, 1, 2), (3, 0, 16), (4, 0, 16), (5, 0, 16), (6, 0, 16), (7, 0, 16), (8, 0, 16), (9, 0, 16)], false, ([((-2147483648), 2147483647), ((-2147483648), 2147483647), ((-2147483648), 2147483647), ((-2147483648), 2147483647)], [], [], 212), [(2, (2, [])), (0, (0, [(0, 1)])), (0, (0, [(1, 1)])), (0, (0, [(2, 1)])), (0, (0, [(3, 1)]))], [(([((-2147483648), 2147483647), ((-2147483648), 2147483647), ((-2147483648), 2147483647), ((-2147483648), 2147483647), ((-2), 15)], [], [], 212), some (0, (0, [(4, 1)])))])
def sp_1 : aSp := fun k pc S => if pc = 0 ∧ k = 46 then spL 1 [799] S else none
def s_1 : List aCt := []
def h_1 : List (Nat × aS × Fm) := []
theorem e_1 : ckE 6000 gT s_1 (fun _ => 0) sp_1 c_1 h_1 = true := by decide +kernel
theorem k_1 (hB : BytesOK) (g : bG) (l : Launch) : Keeps g l gT c_1 := keeps_of hB.1 hB.2 (nilK) e_1 nilK
/-- B.claim ((('c', 0), ('u', 0), ('u', 0), ('u', 0), ('u', 0)), ()) -/
def c_2 : aCt := (124, 2, some [(2, 1, 2), (3, 0, 16), (4, 0, 16), (5, 0, 16), (6, 0, 16), (7, 0, 16), (8, 0, 16), (9, 0, 16)], false, ([((-2147483648), 2147483647), ((-2147483648), 2147483647), ((-2147483648), 2147483647), ((-2147483648), 2147483647)], [], [], 212), [(2, (0, [])), (0, (0, [(0, 1)])), (0, (0, [(1, 1)])), (0, (0, [(2, 1)])), (0, (0, [(3, 1)]))], [(([((-2147483648), 2147483647), ((-2147483648), 2147483647), ((-2147483648), 2147483647), ((-2147483648), 2147483647), ((-2), 15)], [], [], 212), some (0, (0, [(4, 1)])))])
def s_2 : List aCt := [c_1]
def h_2 : List (Nat × aS × Fm) := []
theorem e_2 : ckE 6000 gT s_2 (fun _ => 0) sp0 c_2 h_2 = true := by decide +kernel
theorem k_2 (hB : BytesOK) (g : bG) (l : Launch) : Keeps g l gT c_2 := keeps_of hB.1 hB.2 (List.forall_mem_cons.mpr ⟨k_1 hB g l, nilK⟩) e_2 nilK
/-- Rights.withBit ((('u', 0), ('u', 0), ('u', 0)), ()) -/
def c_3 : aCt := (49, 0, some [], false, ([((-2147483648), 2147483647), (0, 23), (0, 1)], [], [], 212), [(0, (0, [(0, 1)])), (0, (0, [(1, 1)])), (0, (0, [(2, 1)]))], [(([((-2147483648), 2147483647), (0, 23), (0, 1), ((-2147483648), 2147483647)], [], [], 212), some (0, (0, [(3, 1)])))])
def s_3 : List aCt := []
def h_3 : List (Nat × aS × Fm) := []
theorem e_3 : ckE 6000 gT s_3 (fun _ => 0) sp0 c_3 h_3 = true := by decide +kernel
theorem k_3 (hB : BytesOK) (g : bG) (l : Launch) : Keeps g l gT c_3 := keeps_of hB.1 hB.2 (nilK) e_3 nilK
/-- Rights.addWord ((('c', 2), ('u', 0), ('u', 0)), ()) -/
def c_4 : aCt := (47, 1, some [(2, 11, 13), (10, 0, 20), (11, 0, 20)], false, ([((-2147483648), 2147483647), (0, 1)], [], [], 212), [(2, (2, [])), (0, (0, [(0, 1)])), (0, (0, [(1, 1)]))], [(([((-2147483648), 2147483647), (0, 1), ((-2), 19)], [], [], 212), some (0, (0, [(2, 1)])))])
def s_4 : List aCt := [c_3]
def h_4 : List (Nat × aS × Fm) := []
theorem e_4 : ckE 6000 gT s_4 (fun _ => 0) sp0 c_4 h_4 = true := by decide +kernel
theorem k_4 (hB : BytesOK) (g : bG) (l : Launch) : Keeps g l gT c_4 := keeps_of hB.1 hB.2 (List.forall_mem_cons.mpr ⟨k_3 hB g l, nilK⟩) e_4 nilK
/-- B.word ((('c', 0), ('u', 0), ('u', 0)), ()) -/
def c_5 : aCt := (125, 2, some [(2, 11, 13), (10, 0, 20), (11, 0, 20)], false, ([((-2147483648), 2147483647), (0, 1)], [], [], 212), [(2, (0, [])), (0, (0, [(0, 1)])), (0, (0, [(1, 1)]))], [(([((-2147483648), 2147483647), (0, 1), ((-2), 19)], [], [], 212), some (0, (0, [(2, 1)])))])
def s_5 : List aCt := [c_4]
def h_5 : List (Nat × aS × Fm) := []
theorem e_5 : ckE 6000 gT s_5 (fun _ => 0) sp0 c_5 h_5 = true := by decide +kernel
theorem k_5 (hB : BytesOK) (g : bG) (l : Launch) : Keeps g l gT c_5 := keeps_of hB.1 hB.2 (List.forall_mem_cons.mpr ⟨k_4 hB g l, nilK⟩) e_5 nilK
/-- Rights.livesAt ((('c', 2), ('u', 0), ('u', 0), ('u', 0)), ()) -/
def c_6 : aCt := (50, 0, some [], false, ([(0, 15), (0, 999), (0, 239)], [], [], 212), [(2, (2, [])), (0, (0, [(0, 1)])), (0, (0, [(1, 1)])), (0, (0, [(2, 1)]))], [(([(0, 15), (0, 999), (0, 239), (0, 1)], [], [], 212), some (0, (0, [(3, 1)])))])
def s_6 : List aCt := []
def h_6_0 : Nat × aS × Fm := (42, ([(0, (2, (2, []))), (1, (0, (0, [(0, 1)]))), (2, (0, (0, [(1, 1)]))), (3, (0, (0, [(2, 1)]))), (4, (0, (0, [(3, 1)])))], [], ([(0, 15), (0, 999), (0, 239), ((-1), 19)], [], [], 212)), (3, [(3, 2)]))
def h_6 : List (Nat × aS × Fm) := [h_6_0]
theorem e_6 : ckE 6000 gT s_6 (fun _ => 0) sp0 c_6 h_6 = true := by decide +kernel
theorem g_6_0 : ([h_6_0].all fun H => ckH 6000 gT s_6 (fun _ => 0) sp0 c_6 h_6 H) = true := by decide +kernel
theorem k_6 (hB : BytesOK) (g : bG) (l : Launch) : Keeps g l gT c_6 := keeps_of hB.1 hB.2 (nilK) e_6 (List.all_eq_true.mp g_6_0)
/-- B.alive ((('c', 0), ('u', 0), ('u', 0), ('u', 0)), ()) -/
def c_7 : aCt := (126, 1, some [], false, ([((-2147483648), 2147483647), ((-2147483648), 2147483647), ((-2147483648), 2147483647)], [], [], 212), [(2, (0, [])), (0, (0, [(0, 1)])), (0, (0, [(1, 1)])), (0, (0, [(2, 1)]))], [(([((-2147483648), 2147483647), ((-2147483648), 2147483647), ((-2147483648), 2147483647), ((-1), 1)], [], [], 212), some (0, (0, [(3, 1)])))])
def s_7 : List aCt := [c_6]
def h_7 : List (Nat × aS × Fm) := []
theorem e_7 : ckE 6000 gT s_7 (fun _ => 0) sp0 c_7 h_7 = true := by decide +kernel
theorem k_7 (hB : BytesOK) (g : bG) (l : Launch) : Keeps g l gT c_7 := keeps_of hB.1 hB.2 (List.forall_mem_cons.mpr ⟨k_6 hB g l, nilK⟩) e_7 nilK
/-- Rights.isIn ((('c', 2), ('u', 0), ('u', 0)), ()) -/
def c_8 : aCt := (51, 0, some [], false, ([(0, 7), (0, 999)], [], [], 212), [(2, (2, [])), (0, (0, [(0, 1)])), (0, (0, [(1, 1)]))], [(([(0, 7), (0, 999), (0, 1)], [], [], 212), some (0, (0, [(2, 1)])))])
def s_8 : List aCt := []
def h_8_0 : Nat × aS × Fm := (7, ([(0, (2, (2, []))), (1, (0, (0, [(0, 1)]))), (2, (0, (0, [(1, 1)]))), (3, (0, (0, [(2, 1)])))], [], ([(0, 7), (0, 999), ((-1), 23)], [], [], 212)), (3, [(2, 2)]))
def h_8 : List (Nat × aS × Fm) := [h_8_0]
theorem e_8 : ckE 6000 gT s_8 (fun _ => 0) sp0 c_8 h_8 = true := by decide +kernel
theorem g_8_0 : ([h_8_0].all fun H => ckH 6000 gT s_8 (fun _ => 0) sp0 c_8 h_8 H) = true := by decide +kernel
theorem k_8 (hB : BytesOK) (g : bG) (l : Launch) : Keeps g l gT c_8 := keeps_of hB.1 hB.2 (nilK) e_8 (List.all_eq_true.mp g_8_0)
/-- Rights.addJoin ((('c', 2), ('u', 0), ('u', 0)), ()) -/
def c_9 : aCt := (48, 1, some [(2, 15, 17), (12, 0, 24), (13, 0, 24)], false, ([((-2147483648), 2147483647), (0, 1)], [], [], 212), [(2, (2, [])), (0, (0, [(0, 1)])), (0, (0, [(1, 1)]))], [(([((-2147483648), 2147483647), (0, 1), ((-2), 1)], [], [], 212), some (0, (0, [(2, 1)])))])
def s_9 : List aCt := [c_3, c_8]
def h_9 : List (Nat × aS × Fm) := []
theorem e_9 : ckE 6000 gT s_9 (fun _ => 0) sp0 c_9 h_9 = true := by decide +kernel
theorem k_9 (hB : BytesOK) (g : bG) (l : Launch) : Keeps g l gT c_9 := keeps_of hB.1 hB.2 (List.forall_mem_cons.mpr ⟨k_3 hB g l, List.forall_mem_cons.mpr ⟨k_8 hB g l, nilK⟩⟩) e_9 nilK
/-- B.join ((('c', 0), ('u', 0), ('u', 0)), ()) -/
def c_10 : aCt := (127, 2, some [(2, 15, 17), (12, 0, 24), (13, 0, 24)], false, ([((-2147483648), 2147483647), (0, 1)], [], [], 212), [(2, (0, [])), (0, (0, [(0, 1)])), (0, (0, [(1, 1)]))], [(([((-2147483648), 2147483647), (0, 1), ((-2), 1)], [], [], 212), some (0, (0, [(2, 1)])))])
def s_10 : List aCt := [c_9]
def h_10 : List (Nat × aS × Fm) := []
theorem e_10 : ckE 6000 gT s_10 (fun _ => 0) sp0 c_10 h_10 = true := by decide +kernel
theorem k_10 (hB : BytesOK) (g : bG) (l : Launch) : Keeps g l gT c_10 := keeps_of hB.1 hB.2 (List.forall_mem_cons.mpr ⟨k_9 hB g l, nilK⟩) e_10 nilK
/-- Rights.insiders ((('c', 2), ('u', 0)), ()) -/
def c_11 : aCt := (52, 1, some [], false, ([(0, 239)], [], [], 212), [(2, (2, [])), (0, (0, [(0, 1)]))], [(([(0, 239), ((-2147483648), 2147483647)], [], [], 212), some (0, (0, [(1, 1)])))])
def s_11 : List aCt := [c_8]
def h_11_0 : Nat × aS × Fm := (4, ([(0, (2, (2, []))), (1, (0, (0, [(0, 1)]))), (2, (0, (0, [(2, 1)]))), (3, (0, (0, [(1, 1)])))], [], ([(0, 239), (0, 8), ((-2147483648), 2147483647)], [], [], 212)), (17, [(1, (-2))]))
def h_11 : List (Nat × aS × Fm) := [h_11_0]
theorem e_11 : ckE 6000 gT s_11 (fun _ => 0) sp0 c_11 h_11 = true := by decide +kernel
theorem g_11_0 : ([h_11_0].all fun H => ckH 6000 gT s_11 (fun _ => 0) sp0 c_11 h_11 H) = true := by decide +kernel
theorem k_11 (hB : BytesOK) (g : bG) (l : Launch) : Keeps g l gT c_11 := keeps_of hB.1 hB.2 (List.forall_mem_cons.mpr ⟨k_8 hB g l, nilK⟩) e_11 (List.all_eq_true.mp g_11_0)
/-- B.members ((('c', 0), ('u', 0)), ()) -/
def c_12 : aCt := (128, 2, some [], false, ([((-2147483648), 2147483647)], [], [], 212), [(2, (0, [])), (0, (0, [(0, 1)]))], [(([((-2147483648), 2147483647), ((-2147483648), 2147483647)], [], [], 212), some (0, (0, [(1, 1)])))])
def s_12 : List aCt := [c_11]
def h_12 : List (Nat × aS × Fm) := []
theorem e_12 : ckE 6000 gT s_12 (fun _ => 0) sp0 c_12 h_12 = true := by decide +kernel
theorem k_12 (hB : BytesOK) (g : bG) (l : Launch) : Keeps g l gT c_12 := keeps_of hB.1 hB.2 (List.forall_mem_cons.mpr ⟨k_11 hB g l, nilK⟩) e_12 nilK
/-- Needs.addMust ((('c', 14), ('u', 0)), ()) -/
def c_13 : aCt := (12, 1, some [(14, 0, 1), (15, 0, 6), (16, 0, 24)], false, ([((-2147483648), 2147483647)], [], [], 212), [(2, (14, [])), (0, (0, [(0, 1)]))], [(([((-2147483648), 2147483647), ((-2), 5)], [], [], 212), some (0, (0, [(1, 1)])))])
def s_13 : List aCt := []
def h_13 : List (Nat × aS × Fm) := []
theorem e_13 : ckE 6000 gT s_13 (fun _ => 0) sp0 c_13 h_13 = true := by decide +kernel
theorem k_13 (hB : BytesOK) (g : bG) (l : Launch) : Keeps g l gT c_13 := keeps_of hB.1 hB.2 (nilK) e_13 nilK
/-- B.must ((('c', 0), ('u', 0)), ()) -/
def c_14 : aCt := (129, 2, some [(14, 0, 1), (15, 0, 6), (16, 0, 24)], false, ([((-2147483648), 2147483647)], [], [], 212), [(2, (0, [])), (0, (0, [(0, 1)]))], [(([((-2147483648), 2147483647), ((-2), 5)], [], [], 212), some (0, (0, [(1, 1)])))])
def s_14 : List aCt := [c_13]
def h_14 : List (Nat × aS × Fm) := []
theorem e_14 : ckE 6000 gT s_14 (fun _ => 0) sp0 c_14 h_14 = true := by decide +kernel
theorem k_14 (hB : BytesOK) (g : bG) (l : Launch) : Keeps g l gT c_14 := keeps_of hB.1 hB.2 (List.forall_mem_cons.mpr ⟨k_13 hB g l, nilK⟩) e_14 nilK
/-- Needs.addWay ((('c', 14), ('u', 0), ('u', 0)), ()) -/
def c_15 : aCt := (13, 1, some [(15, 0, 6), (16, 0, 24)], false, ([((-2147483648), 2147483647), ((-2147483648), 2147483647)], [], [], 212), [(2, (14, [])), (0, (0, [(0, 1)])), (0, (0, [(1, 1)]))], [(([((-2147483648), 2147483647), ((-2147483648), 2147483647), ((-2), 3)], [], [], 212), some (0, (0, [(2, 1)])))])
def sp_15 : aSp := fun k pc S => if pc = 0 ∧ k = 13 then spL 1 [(-1), 0, 1, 2, 3, 4, 5] S else none
def s_15 : List aCt := []
def h_15 : List (Nat × aS × Fm) := []
theorem e_15 : ckE 6000 gT s_15 (fun _ => 0) sp_15 c_15 h_15 = true := by decide +kernel
theorem k_15 (hB : BytesOK) (g : bG) (l : Launch) : Keeps g l gT c_15 := keeps_of hB.1 hB.2 (nilK) e_15 nilK
/-- B.way ((('c', 0), ('u', 0), ('u', 0)), ()) -/
def c_16 : aCt := (130, 2, some [(15, 0, 6), (16, 0, 24)], false, ([((-2147483648), 2147483647), ((-2147483648), 2147483647)], [], [], 212), [(2, (0, [])), (0, (0, [(0, 1)])), (0, (0, [(1, 1)]))], [(([((-2147483648), 2147483647), ((-2147483648), 2147483647), ((-2), 3)], [], [], 212), some (0, (0, [(2, 1)])))])
def s_16 : List aCt := [c_15]
def h_16 : List (Nat × aS × Fm) := []
theorem e_16 : ckE 6000 gT s_16 (fun _ => 0) sp0 c_16 h_16 = true := by decide +kernel
theorem k_16 (hB : BytesOK) (g : bG) (l : Launch) : Keeps g l gT c_16 := keeps_of hB.1 hB.2 (List.forall_mem_cons.mpr ⟨k_15 hB g l, nilK⟩) e_16 nilK
/-- Needs.stepsOfAll ((('c', 14), ('c', 0)), ()) -/
def c_17 : aCt := (15, 0, some [], false, ([], [], [], 212), [(2, (14, [])), (0, (0, []))], [(([(0, 65535)], [], [], 212), some (0, (0, [(0, 1)])))])
def s_17 : List aCt := []
def h_17_0 : Nat × aS × Fm := (4, ([(0, (2, (14, []))), (1, (0, (0, []))), (2, (0, (0, [(0, 1)]))), (3, (0, (0, [(1, 1)])))], [], ([(0, 65535), (0, 6)], [], [], 212)), (83, [(1, (-12))]))
def h_17_1 : Nat × aS × Fm := (20, ([(0, (2, (14, []))), (1, (0, (0, []))), (2, (0, (0, [(2, 1)]))), (3, (0, (0, [(3, 1)]))), (4, (0, (0, [(0, 1)]))), (5, (0, (0, [(1, 1)])))], [], ([(0, 4095), (0, 4), (0, 65535), (0, 5)], [], [], 212)), (81, [(1, (-2)), (3, (-12))]))
def h_17 : List (Nat × aS × Fm) := [h_17_0, h_17_1]
theorem e_17 : ckE 6000 gT s_17 (fun _ => 0) sp0 c_17 h_17 = true := by decide +kernel
theorem g_17_0 : ([h_17_0, h_17_1].all fun H => ckH 6000 gT s_17 (fun _ => 0) sp0 c_17 h_17 H) = true := by decide +kernel
theorem k_17 (hB : BytesOK) (g : bG) (l : Launch) : Keeps g l gT c_17 := keeps_of hB.1 hB.2 (nilK) e_17 (List.all_eq_true.mp g_17_0)
/-- B.needed ((('c', 0), ('u', 0)), ()) -/
def c_18 : aCt := (131, 2, some [], false, ([((-2147483648), 2147483647)], [], [], 212), [(2, (0, [])), (0, (0, [(0, 1)]))], [(([((-2147483648), 2147483647), ((-1), 1)], [], [], 212), some (0, (0, [(1, 1)])))])
def s_18 : List aCt := [c_17]
def h_18 : List (Nat × aS × Fm) := []
theorem e_18 : ckE 6000 gT s_18 (fun _ => 0) sp0 c_18 h_18 = true := by decide +kernel
theorem k_18 (hB : BytesOK) (g : bG) (l : Launch) : Keeps g l gT c_18 := keeps_of hB.1 hB.2 (List.forall_mem_cons.mpr ⟨k_17 hB g l, nilK⟩) e_18 nilK
/-- Needs.stepsOfAll ((('c', 14), ('u', 0)), ()) -/
def c_19 : aCt := (15, 0, some [], false, ([(1, 6)], [], [], 212), [(2, (14, [])), (0, (0, [(0, 1)]))], [(([(1, 6), (0, 65535)], [], [], 212), some (0, (0, [(1, 1)])))])
def s_19 : List aCt := []
def h_19_0 : Nat × aS × Fm := (4, ([(0, (2, (14, []))), (1, (0, (0, [(0, 1)]))), (2, (0, (0, [(1, 1)]))), (3, (0, (0, [(2, 1)])))], [], ([(1, 6), (0, 65535), (1, 6)], [], [], 212)), (83, [(2, (-12))]))
def h_19_1 : Nat × aS × Fm := (20, ([(0, (2, (14, []))), (1, (0, (0, [(0, 1)]))), (2, (0, (0, [(3, 1)]))), (3, (0, (0, [(4, 1)]))), (4, (0, (0, [(1, 1)]))), (5, (0, (0, [(2, 1)])))], [], ([(1, 6), (0, 4095), (0, 4), (0, 65535), (1, 5)], [], [], 212)), (81, [(2, (-2)), (4, (-12))]))
def h_19 : List (Nat × aS × Fm) := [h_19_0, h_19_1]
theorem e_19 : ckE 6000 gT s_19 (fun _ => 0) sp0 c_19 h_19 = true := by decide +kernel
theorem g_19_0 : ([h_19_0, h_19_1].all fun H => ckH 6000 gT s_19 (fun _ => 0) sp0 c_19 h_19 H) = true := by decide +kernel
theorem k_19 (hB : BytesOK) (g : bG) (l : Launch) : Keeps g l gT c_19 := keeps_of hB.1 hB.2 (nilK) e_19 (List.all_eq_true.mp g_19_0)
/-- Needs.wayAround ((('c', 14), ('u', 0)), ()) -/
def c_20 : aCt := (16, 1, some [], false, ([(0, 4095)], [], [], 212), [(2, (14, [])), (0, (0, [(0, 1)]))], [(([(0, 4095), ((-2147483648), 2147483647)], [], [], 212), some (0, (0, [(1, 1)])))])
def s_20 : List aCt := [c_17, c_19]
def h_20_0 : Nat × aS × Fm := (25, ([(0, (2, (14, []))), (1, (0, (0, [(0, 1)]))), (2, (0, (0, [(1, 1)]))), (3, (0, (0, [(4, 1)]))), (4, (0, (0, [(2, 1)]))), (5, (0, (0, [(3, 1)])))], [], ([(0, 4095), (0, 65535), ((-2147483648), 2147483647), (0, 6), ((-2147483648), 2147483647)], [], [], 212)), (69, [(3, (-10))]))
def h_20_1 : Nat × aS × Fm := (49, ([(0, (2, (14, []))), (1, (0, (0, [(0, 1)]))), (2, (0, (0, [(3, 1)]))), (3, (0, (0, [(4, 1)]))), (4, (0, (0, [(5, 1)]))), (5, (0, (0, [(6, 1)]))), (6, (0, (0, [(1, 1)]))), (7, (0, (0, [(2, 1)])))], [], ([(0, 4095), (0, 65535), (0, 3), (0, 65535), ((-2147483648), 2147483647), ((-2147483648), 2147483647), (0, 5)], [], [], 212)), (67, [(2, (-2)), (6, (-10))]))
def h_20 : List (Nat × aS × Fm) := [h_20_0, h_20_1]
theorem e_20 : ckE 6000 gT s_20 (fun _ => 0) sp0 c_20 h_20 = true := by decide +kernel
theorem g_20_0 : ([h_20_0, h_20_1].all fun H => ckH 6000 gT s_20 (fun _ => 0) sp0 c_20 h_20 H) = true := by decide +kernel
theorem k_20 (hB : BytesOK) (g : bG) (l : Launch) : Keeps g l gT c_20 := keeps_of hB.1 hB.2 (List.forall_mem_cons.mpr ⟨k_17 hB g l, List.forall_mem_cons.mpr ⟨k_19 hB g l, nilK⟩⟩) e_20 (List.all_eq_true.mp g_20_0)
/-- B.round ((('c', 0), ('u', 0)), ()) -/
def c_21 : aCt := (132, 2, some [], false, ([((-2147483648), 2147483647)], [], [], 212), [(2, (0, [])), (0, (0, [(0, 1)]))], [(([((-2147483648), 2147483647), ((-2147483648), 2147483647)], [], [], 212), some (0, (0, [(1, 1)])))])
def s_21 : List aCt := [c_20]
def h_21 : List (Nat × aS × Fm) := []
theorem e_21 : ckE 6000 gT s_21 (fun _ => 0) sp0 c_21 h_21 = true := by decide +kernel
theorem k_21 (hB : BytesOK) (g : bG) (l : Launch) : Keeps g l gT c_21 := keeps_of hB.1 hB.2 (List.forall_mem_cons.mpr ⟨k_20 hB g l, nilK⟩) e_21 nilK
/-- Rights.isSworn ((('c', 2), ('u', 0)), ()) -/
def c_22 : aCt := (53, 0, some [], false, ([(0, 15)], [], [], 212), [(2, (2, [])), (0, (0, [(0, 1)]))], [(([(0, 15), (0, 1)], [], [], 212), some (0, (0, [(1, 1)])))])
def s_22 : List aCt := []
def h_22 : List (Nat × aS × Fm) := []
theorem e_22 : ckE 6000 gT s_22 (fun _ => 0) sp0 c_22 h_22 = true := by decide +kernel
theorem k_22 (hB : BytesOK) (g : bG) (l : Launch) : Keeps g l gT c_22 := keeps_of hB.1 hB.2 (nilK) e_22 nilK
