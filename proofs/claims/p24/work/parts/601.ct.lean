/-- B.alive ((('c', 0), ('u', 0), ('u', 0), ('u', 0)), ()) -/
def c_19 : aCt := (126, 1, some [], false, ([((-2147483648), 2147483647), ((-2147483648), 2147483647), ((-2147483648), 2147483647)], [], [], 212), [(2, (0, [])), (0, (0, [(0, 1)])), (0, (0, [(1, 1)])), (0, (0, [(2, 1)]))], [(([((-2147483648), 2147483647), ((-2147483648), 2147483647), ((-2147483648), 2147483647), ((-1), 1)], [], [], 212), some (0, (0, [(3, 1)])))])
def s_19 : List aCt := [c_18]
def h_19 : List (Nat × aS × Fm) := []
theorem e_19 : ckE 6000 gT s_19 (fun _ => 0) sp0 c_19 h_19 = true := by decide +kernel
theorem k_19 (hB : BytesOK) (g : bG) (l : Launch) : Keeps g l gT c_19 := keeps_of hB.1 hB.2 (List.forall_mem_cons.mpr ⟨k_18 hB g l, nilK⟩) e_19 nilK
/-- Rights.isIn ((('c', 2), ('u', 0), ('u', 0)), ()) -/
def c_20 : aCt := (51, 0, some [], false, ([(0, 7), (0, 999)], [], [], 212), [(2, (2, [])), (0, (0, [(0, 1)])), (0, (0, [(1, 1)]))], [(([(0, 7), (0, 999), (0, 1)], [], [], 212), some (0, (0, [(2, 1)])))])
def s_20 : List aCt := []
def h_20_0 : Nat × aS × Fm := (7, ([(0, (2, (2, []))), (1, (0, (0, [(0, 1)]))), (2, (0, (0, [(1, 1)]))), (3, (0, (0, [(2, 1)])))], [], ([(0, 7), (0, 999), ((-1), 23)], [], [], 212)), (3, [(2, 2)]))
def h_20 : List (Nat × aS × Fm) := [h_20_0]
theorem e_20 : ckE 6000 gT s_20 (fun _ => 0) sp0 c_20 h_20 = true := by decide +kernel
theorem g_20_0 : ([h_20_0].all fun H => ckH 6000 gT s_20 (fun _ => 0) sp0 c_20 h_20 H) = true := by decide +kernel
theorem k_20 (hB : BytesOK) (g : bG) (l : Launch) : Keeps g l gT c_20 := keeps_of hB.1 hB.2 (nilK) e_20 (List.all_eq_true.mp g_20_0)
/-- Rights.addJoin ((('c', 2), ('u', 0), ('u', 0)), ()) -/
def c_21 : aCt := (48, 1, some [(2, 15, 17), (12, 0, 24), (13, 0, 24)], false, ([((-2147483648), 2147483647), (0, 1)], [], [], 212), [(2, (2, [])), (0, (0, [(0, 1)])), (0, (0, [(1, 1)]))], [(([((-2147483648), 2147483647), (0, 1), ((-2), 1)], [], [], 212), some (0, (0, [(2, 1)])))])
def s_21 : List aCt := [c_15, c_20]
def h_21 : List (Nat × aS × Fm) := []
theorem e_21 : ckE 6000 gT s_21 (fun _ => 0) sp0 c_21 h_21 = true := by decide +kernel
theorem k_21 (hB : BytesOK) (g : bG) (l : Launch) : Keeps g l gT c_21 := keeps_of hB.1 hB.2 (List.forall_mem_cons.mpr ⟨k_15 hB g l, List.forall_mem_cons.mpr ⟨k_20 hB g l, nilK⟩⟩) e_21 nilK
/-- B.join ((('c', 0), ('u', 0), ('u', 0)), ()) -/
def c_22 : aCt := (127, 2, some [(2, 15, 17), (12, 0, 24), (13, 0, 24)], false, ([((-2147483648), 2147483647), (0, 1)], [], [], 212), [(2, (0, [])), (0, (0, [(0, 1)])), (0, (0, [(1, 1)]))], [(([((-2147483648), 2147483647), (0, 1), ((-2), 1)], [], [], 212), some (0, (0, [(2, 1)])))])
def s_22 : List aCt := [c_21]
def h_22 : List (Nat × aS × Fm) := []
theorem e_22 : ckE 6000 gT s_22 (fun _ => 0) sp0 c_22 h_22 = true := by decide +kernel
theorem k_22 (hB : BytesOK) (g : bG) (l : Launch) : Keeps g l gT c_22 := keeps_of hB.1 hB.2 (List.forall_mem_cons.mpr ⟨k_21 hB g l, nilK⟩) e_22 nilK
/-- Rights.insiders ((('c', 2), ('u', 0)), ()) -/
def c_23 : aCt := (52, 1, some [], false, ([(0, 239)], [], [], 212), [(2, (2, [])), (0, (0, [(0, 1)]))], [(([(0, 239), ((-2147483648), 2147483647)], [], [], 212), some (0, (0, [(1, 1)])))])
def s_23 : List aCt := [c_20]
def h_23_0 : Nat × aS × Fm := (4, ([(0, (2, (2, []))), (1, (0, (0, [(0, 1)]))), (2, (0, (0, [(2, 1)]))), (3, (0, (0, [(1, 1)])))], [], ([(0, 239), (0, 8), ((-2147483648), 2147483647)], [], [], 212)), (17, [(1, (-2))]))
def h_23 : List (Nat × aS × Fm) := [h_23_0]
theorem e_23 : ckE 6000 gT s_23 (fun _ => 0) sp0 c_23 h_23 = true := by decide +kernel
theorem g_23_0 : ([h_23_0].all fun H => ckH 6000 gT s_23 (fun _ => 0) sp0 c_23 h_23 H) = true := by decide +kernel
theorem k_23 (hB : BytesOK) (g : bG) (l : Launch) : Keeps g l gT c_23 := keeps_of hB.1 hB.2 (List.forall_mem_cons.mpr ⟨k_20 hB g l, nilK⟩) e_23 (List.all_eq_true.mp g_23_0)
/-- B.members ((('c', 0), ('u', 0)), ()) -/
def c_24 : aCt := (128, 2, some [], false, ([((-2147483648), 2147483647)], [], [], 212), [(2, (0, [])), (0, (0, [(0, 1)]))], [(([((-2147483648), 2147483647), ((-2147483648), 2147483647)], [], [], 212), some (0, (0, [(1, 1)])))])
def s_24 : List aCt := [c_23]
def h_24 : List (Nat × aS × Fm) := []
theorem e_24 : ckE 6000 gT s_24 (fun _ => 0) sp0 c_24 h_24 = true := by decide +kernel
theorem k_24 (hB : BytesOK) (g : bG) (l : Launch) : Keeps g l gT c_24 := keeps_of hB.1 hB.2 (List.forall_mem_cons.mpr ⟨k_23 hB g l, nilK⟩) e_24 nilK
/-- Needs.addMust ((('c', 14), ('u', 0)), ()) -/
def c_25 : aCt := (12, 1, some [(14, 0, 1), (15, 0, 6), (16, 0, 24)], false, ([((-2147483648), 2147483647)], [], [], 212), [(2, (14, [])), (0, (0, [(0, 1)]))], [(([((-2147483648), 2147483647), ((-2), 5)], [], [], 212), some (0, (0, [(1, 1)])))])
def s_25 : List aCt := []
def h_25 : List (Nat × aS × Fm) := []
theorem e_25 : ckE 6000 gT s_25 (fun _ => 0) sp0 c_25 h_25 = true := by decide +kernel
theorem k_25 (hB : BytesOK) (g : bG) (l : Launch) : Keeps g l gT c_25 := keeps_of hB.1 hB.2 (nilK) e_25 nilK
/-- B.must ((('c', 0), ('u', 0)), ()) -/
def c_26 : aCt := (129, 2, some [(14, 0, 1), (15, 0, 6), (16, 0, 24)], false, ([((-2147483648), 2147483647)], [], [], 212), [(2, (0, [])), (0, (0, [(0, 1)]))], [(([((-2147483648), 2147483647), ((-2), 5)], [], [], 212), some (0, (0, [(1, 1)])))])
def s_26 : List aCt := [c_25]
def h_26 : List (Nat × aS × Fm) := []
theorem e_26 : ckE 6000 gT s_26 (fun _ => 0) sp0 c_26 h_26 = true := by decide +kernel
theorem k_26 (hB : BytesOK) (g : bG) (l : Launch) : Keeps g l gT c_26 := keeps_of hB.1 hB.2 (List.forall_mem_cons.mpr ⟨k_25 hB g l, nilK⟩) e_26 nilK
/-- Needs.addWay ((('c', 14), ('u', 0), ('u', 0)), ()) -/
def c_27 : aCt := (13, 1, some [(15, 0, 6), (16, 0, 24)], false, ([((-2147483648), 2147483647), ((-2147483648), 2147483647)], [], [], 212), [(2, (14, [])), (0, (0, [(0, 1)])), (0, (0, [(1, 1)]))], [(([((-2147483648), 2147483647), ((-2147483648), 2147483647), ((-2), 3)], [], [], 212), some (0, (0, [(2, 1)])))])
def sp_27 : aSp := fun k pc S => if pc = 0 ∧ k = 13 then spL 1 [(-1), 0, 1, 2, 3, 4, 5] S else none
def s_27 : List aCt := []
def h_27 : List (Nat × aS × Fm) := []
theorem e_27 : ckE 6000 gT s_27 (fun _ => 0) sp_27 c_27 h_27 = true := by decide +kernel
theorem k_27 (hB : BytesOK) (g : bG) (l : Launch) : Keeps g l gT c_27 := keeps_of hB.1 hB.2 (nilK) e_27 nilK
/-- B.way ((('c', 0), ('u', 0), ('u', 0)), ()) -/
def c_28 : aCt := (130, 2, some [(15, 0, 6), (16, 0, 24)], false, ([((-2147483648), 2147483647), ((-2147483648), 2147483647)], [], [], 212), [(2, (0, [])), (0, (0, [(0, 1)])), (0, (0, [(1, 1)]))], [(([((-2147483648), 2147483647), ((-2147483648), 2147483647), ((-2), 3)], [], [], 212), some (0, (0, [(2, 1)])))])
def s_28 : List aCt := [c_27]
def h_28 : List (Nat × aS × Fm) := []
theorem e_28 : ckE 6000 gT s_28 (fun _ => 0) sp0 c_28 h_28 = true := by decide +kernel
theorem k_28 (hB : BytesOK) (g : bG) (l : Launch) : Keeps g l gT c_28 := keeps_of hB.1 hB.2 (List.forall_mem_cons.mpr ⟨k_27 hB g l, nilK⟩) e_28 nilK
/-- Needs.stepsOfAll ((('c', 14), ('c', 0)), ()) -/
def c_29 : aCt := (15, 0, some [], false, ([], [], [], 212), [(2, (14, [])), (0, (0, []))], [(([(0, 65535)], [], [], 212), some (0, (0, [(0, 1)])))])
def s_29 : List aCt := []
def h_29_0 : Nat × aS × Fm := (4, ([(0, (2, (14, []))), (1, (0, (0, []))), (2, (0, (0, [(0, 1)]))), (3, (0, (0, [(1, 1)])))], [], ([(0, 65535), (0, 6)], [], [], 212)), (83, [(1, (-12))]))
def h_29_1 : Nat × aS × Fm := (20, ([(0, (2, (14, []))), (1, (0, (0, []))), (2, (0, (0, [(2, 1)]))), (3, (0, (0, [(3, 1)]))), (4, (0, (0, [(0, 1)]))), (5, (0, (0, [(1, 1)])))], [], ([(0, 4095), (0, 4), (0, 65535), (0, 5)], [], [], 212)), (81, [(1, (-2)), (3, (-12))]))
def h_29 : List (Nat × aS × Fm) := [h_29_0, h_29_1]
theorem e_29 : ckE 6000 gT s_29 (fun _ => 0) sp0 c_29 h_29 = true := by decide +kernel
theorem g_29_0 : ([h_29_0, h_29_1].all fun H => ckH 6000 gT s_29 (fun _ => 0) sp0 c_29 h_29 H) = true := by decide +kernel
theorem k_29 (hB : BytesOK) (g : bG) (l : Launch) : Keeps g l gT c_29 := keeps_of hB.1 hB.2 (nilK) e_29 (List.all_eq_true.mp g_29_0)
/-- B.needed ((('c', 0), ('u', 0)), ()) -/
def c_30 : aCt := (131, 2, some [], false, ([((-2147483648), 2147483647)], [], [], 212), [(2, (0, [])), (0, (0, [(0, 1)]))], [(([((-2147483648), 2147483647), ((-1), 1)], [], [], 212), some (0, (0, [(1, 1)])))])
def s_30 : List aCt := [c_29]
def h_30 : List (Nat × aS × Fm) := []
theorem e_30 : ckE 6000 gT s_30 (fun _ => 0) sp0 c_30 h_30 = true := by decide +kernel
theorem k_30 (hB : BytesOK) (g : bG) (l : Launch) : Keeps g l gT c_30 := keeps_of hB.1 hB.2 (List.forall_mem_cons.mpr ⟨k_29 hB g l, nilK⟩) e_30 nilK
/-- Needs.stepsOfAll ((('c', 14), ('u', 0)), ()) -/
def c_31 : aCt := (15, 0, some [], false, ([(1, 6)], [], [], 212), [(2, (14, [])), (0, (0, [(0, 1)]))], [(([(1, 6), (0, 65535)], [], [], 212), some (0, (0, [(1, 1)])))])
def s_31 : List aCt := []
def h_31_0 : Nat × aS × Fm := (4, ([(0, (2, (14, []))), (1, (0, (0, [(0, 1)]))), (2, (0, (0, [(1, 1)]))), (3, (0, (0, [(2, 1)])))], [], ([(1, 6), (0, 65535), (1, 6)], [], [], 212)), (83, [(2, (-12))]))
def h_31_1 : Nat × aS × Fm := (20, ([(0, (2, (14, []))), (1, (0, (0, [(0, 1)]))), (2, (0, (0, [(3, 1)]))), (3, (0, (0, [(4, 1)]))), (4, (0, (0, [(1, 1)]))), (5, (0, (0, [(2, 1)])))], [], ([(1, 6), (0, 4095), (0, 4), (0, 65535), (1, 5)], [], [], 212)), (81, [(2, (-2)), (4, (-12))]))
def h_31 : List (Nat × aS × Fm) := [h_31_0, h_31_1]
theorem e_31 : ckE 6000 gT s_31 (fun _ => 0) sp0 c_31 h_31 = true := by decide +kernel
theorem g_31_0 : ([h_31_0, h_31_1].all fun H => ckH 6000 gT s_31 (fun _ => 0) sp0 c_31 h_31 H) = true := by decide +kernel
theorem k_31 (hB : BytesOK) (g : bG) (l : Launch) : Keeps g l gT c_31 := keeps_of hB.1 hB.2 (nilK) e_31 (List.all_eq_true.mp g_31_0)
/-- Needs.wayAround ((('c', 14), ('u', 0)), ()) -/
def c_32 : aCt := (16, 1, some [], false, ([(0, 4095)], [], [], 212), [(2, (14, [])), (0, (0, [(0, 1)]))], [(([(0, 4095), ((-2147483648), 2147483647)], [], [], 212), some (0, (0, [(1, 1)])))])
def s_32 : List aCt := [c_29, c_31]
def h_32_0 : Nat × aS × Fm := (25, ([(0, (2, (14, []))), (1, (0, (0, [(0, 1)]))), (2, (0, (0, [(1, 1)]))), (3, (0, (0, [(4, 1)]))), (4, (0, (0, [(2, 1)]))), (5, (0, (0, [(3, 1)])))], [], ([(0, 4095), (0, 65535), ((-2147483648), 2147483647), (0, 6), ((-2147483648), 2147483647)], [], [], 212)), (69, [(3, (-10))]))
def h_32_1 : Nat × aS × Fm := (49, ([(0, (2, (14, []))), (1, (0, (0, [(0, 1)]))), (2, (0, (0, [(3, 1)]))), (3, (0, (0, [(4, 1)]))), (4, (0, (0, [(5, 1)]))), (5, (0, (0, [(6, 1)]))), (6, (0, (0, [(1, 1)]))), (7, (0, (0, [(2, 1)])))], [], ([(0, 4095), (0, 65535), (0, 3), (0, 65535), ((-2147483648), 2147483647), ((-2147483648), 2147483647), (0, 5)], [], [], 212)), (67, [(2, (-2)), (6, (-10))]))
def h_32 : List (Nat × aS × Fm) := [h_32_0, h_32_1]
theorem e_32 : ckE 6000 gT s_32 (fun _ => 0) sp0 c_32 h_32 = true := by decide +kernel
theorem g_32_0 : ([h_32_0, h_32_1].all fun H => ckH 6000 gT s_32 (fun _ => 0) sp0 c_32 h_32 H) = true := by decide +kernel
theorem k_32 (hB : BytesOK) (g : bG) (l : Launch) : Keeps g l gT c_32 := keeps_of hB.1 hB.2 (List.forall_mem_cons.mpr ⟨k_29 hB g l, List.forall_mem_cons.mpr ⟨k_31 hB g l, nilK⟩⟩) e_32 (List.all_eq_true.mp g_32_0)
/-- B.round ((('c', 0), ('u', 0)), ()) -/
def c_33 : aCt := (132, 2, some [], false, ([((-2147483648), 2147483647)], [], [], 212), [(2, (0, [])), (0, (0, [(0, 1)]))], [(([((-2147483648), 2147483647), ((-2147483648), 2147483647)], [], [], 212), some (0, (0, [(1, 1)])))])
def s_33 : List aCt := [c_32]
def h_33 : List (Nat × aS × Fm) := []
theorem e_33 : ckE 6000 gT s_33 (fun _ => 0) sp0 c_33 h_33 = true := by decide +kernel
theorem k_33 (hB : BytesOK) (g : bG) (l : Launch) : Keeps g l gT c_33 := keeps_of hB.1 hB.2 (List.forall_mem_cons.mpr ⟨k_32 hB g l, nilK⟩) e_33 nilK
/-- Rights.isSworn ((('c', 2), ('u', 0)), ()) -/
def c_34 : aCt := (53, 0, some [], false, ([(0, 15)], [], [], 212), [(2, (2, [])), (0, (0, [(0, 1)]))], [(([(0, 15), (0, 1)], [], [], 212), some (0, (0, [(1, 1)])))])
def s_34 : List aCt := []
def h_34 : List (Nat × aS × Fm) := []
theorem e_34 : ckE 6000 gT s_34 (fun _ => 0) sp0 c_34 h_34 = true := by decide +kernel
theorem k_34 (hB : BytesOK) (g : bG) (l : Launch) : Keeps g l gT c_34 := keeps_of hB.1 hB.2 (nilK) e_34 nilK
/-- Rights.swearTo ((('c', 2), ('u', 0)), ()) -/
def c_35 : aCt := (55, 1, some [(2, 9, 10)], false, ([(0, 15)], [], [], 212), [(2, (2, [])), (0, (0, [(0, 1)]))], [(([(0, 15), (0, 1)], [], [], 212), some (0, (0, [(1, 1)])))])
def s_35 : List aCt := [c_34]
def h_35 : List (Nat × aS × Fm) := []
theorem e_35 : ckE 6000 gT s_35 (fun _ => 0) sp0 c_35 h_35 = true := by decide +kernel
theorem k_35 (hB : BytesOK) (g : bG) (l : Launch) : Keeps g l gT c_35 := keeps_of hB.1 hB.2 (List.forall_mem_cons.mpr ⟨k_34 hB g l, nilK⟩) e_35 nilK
/-- Rights.isLookedAt ((('c', 2), ('u', 0)), ()) -/
def c_36 : aCt := (54, 0, some [], false, ([(0, 15)], [], [], 212), [(2, (2, [])), (0, (0, [(0, 1)]))], [(([(0, 15), (0, 1)], [], [], 212), some (0, (0, [(1, 1)])))])
def s_36 : List aCt := []
def h_36 : List (Nat × aS × Fm) := []
theorem e_36 : ckE 6000 gT s_36 (fun _ => 0) sp0 c_36 h_36 = true := by decide +kernel
theorem k_36 (hB : BytesOK) (g : bG) (l : Launch) : Keeps g l gT c_36 := keeps_of hB.1 hB.2 (nilK) e_36 nilK
/-- Rights.lookAt ((('c', 2), ('u', 0)), ()) -/
def c_37 : aCt := (56, 1, some [(2, 10, 11)], false, ([(0, 15)], [], [], 212), [(2, (2, [])), (0, (0, [(0, 1)]))], [(([(0, 15), ((-4), 1)], [], [], 212), some (0, (0, [(1, 1)])))])
def s_37 : List aCt := [c_34, c_36]
def h_37 : List (Nat × aS × Fm) := []
theorem e_37 : ckE 6000 gT s_37 (fun _ => 0) sp0 c_37 h_37 = true := by decide +kernel
theorem k_37 (hB : BytesOK) (g : bG) (l : Launch) : Keeps g l gT c_37 := keeps_of hB.1 hB.2 (List.forall_mem_cons.mpr ⟨k_34 hB g l, List.forall_mem_cons.mpr ⟨k_36 hB g l, nilK⟩⟩) e_37 nilK
/-- B.swear ((('c', 0), ('u', 0), ('u', 0)), ()) -/
def c_38 : aCt := (133, 2, some [(2, 9, 11)], false, ([((-2147483648), 2147483647), ((-2147483648), 2147483647)], [], [], 212), [(2, (0, [])), (0, (0, [(0, 1)])), (0, (0, [(1, 1)]))], [(([((-2147483648), 2147483647), ((-2147483648), 2147483647), ((-4), 1)], [], [], 212), some (0, (0, [(2, 1)])))])
def s_38 : List aCt := [c_35, c_37]
def h_38 : List (Nat × aS × Fm) := []
theorem e_38 : ckE 6000 gT s_38 (fun _ => 0) sp0 c_38 h_38 = true := by decide +kernel
theorem k_38 (hB : BytesOK) (g : bG) (l : Launch) : Keeps g l gT c_38 := keeps_of hB.1 hB.2 (List.forall_mem_cons.mpr ⟨k_35 hB g l, List.forall_mem_cons.mpr ⟨k_37 hB g l, nilK⟩⟩) e_38 nilK
/-- Pool.amongSworn ((('c', 1), ('u', 0)), ()) -/
def c_39 : aCt := (23, 2, some [], false, ([(0, 1)], [], [], 212), [(2, (1, [])), (0, (0, [(0, 1)]))], [(([(0, 1), ((-2147483648), 2147483647)], [], [], 212), some (0, (0, [(1, 1)])))])
def s_39 : List aCt := [c_29, c_34, c_36]
def h_39_0 : Nat × aS × Fm := (4, ([(0, (2, (1, []))), (1, (0, (0, [(0, 1)]))), (2, (0, (0, [(2, 1)]))), (3, (0, (0, [(1, 1)])))], [], ([(0, 1), (0, 16), ((-2147483648), 2147483647)], [], [], 212)), (33, [(1, (-2))]))
def h_39 : List (Nat × aS × Fm) := [h_39_0]
theorem e_39 : ckE 6000 gT s_39 (fun _ => 0) sp0 c_39 h_39 = true := by decide +kernel
theorem g_39_0 : ([h_39_0].all fun H => ckH 6000 gT s_39 (fun _ => 0) sp0 c_39 h_39 H) = true := by decide +kernel
theorem k_39 (hB : BytesOK) (g : bG) (l : Launch) : Keeps g l gT c_39 := keeps_of hB.1 hB.2 (List.forall_mem_cons.mpr ⟨k_29 hB g l, List.forall_mem_cons.mpr ⟨k_34 hB g l, List.forall_mem_cons.mpr ⟨k_36 hB g l, nilK⟩⟩⟩) e_39 (List.all_eq_true.mp g_39_0)
/-- B.among ((('c', 0), ('u', 0)), ()) -/
def c_40 : aCt := (134, 3, some [], false, ([(0, 1)], [], [], 212), [(2, (0, [])), (0, (0, [(0, 1)]))], [(([(0, 1), ((-2147483648), 2147483647)], [], [], 212), some (0, (0, [(1, 1)])))])
def s_40 : List aCt := [c_39]
def h_40 : List (Nat × aS × Fm) := []
theorem e_40 : ckE 6000 gT s_40 (fun _ => 0) sp0 c_40 h_40 = true := by decide +kernel
theorem k_40 (hB : BytesOK) (g : bG) (l : Launch) : Keeps g l gT c_40 := keeps_of hB.1 hB.2 (List.forall_mem_cons.mpr ⟨k_39 hB g l, nilK⟩) e_40 nilK
/-- Tape.takeBytes ((('c', 169), ('u', 1), ('u', 0)), ()) -/
def c_41 : aCt := (81, 0, some [(169, 0, 1), (170, 0, 220)], false, ([((-9223372036854775808), 9223372036854775807), ((-2147483648), 2147483647)], [], [], 212), [(2, (169, [])), (1, (0, [(0, 1)])), (0, (0, [(1, 1)]))], [(([((-9223372036854775808), 9223372036854775807), ((-2147483648), 2147483647), ((-2), 220)], [], [], 212), some (0, (0, [(2, 1)])))])
def s_41 : List aCt := []
def h_41 : List (Nat × aS × Fm) := []
theorem e_41 : ckE 6000 gT s_41 (fun _ => 0) sp0 c_41 h_41 = true := by decide +kernel
theorem k_41 (hB : BytesOK) (g : bG) (l : Launch) : Keeps g l gT c_41 := keeps_of hB.1 hB.2 (nilK) e_41 nilK
