/-- Rights.lookAt ((('c', 2), ('u', 0)), ()) -/
def c_24 : aCt := (56, 1, some [(2, 10, 11)], false, ([(0, 15)], [], [], 212), [(2, (2, [])), (0, (0, [(0, 1)]))], [(([(0, 15), ((-4), 1)], [], [], 212), some (0, (0, [(1, 1)])))])
def s_24 : List aCt := [c_21, c_23]
def h_24 : List (Nat × aS × Fm) := []
theorem e_24 : ckE 6000 gT s_24 (fun _ => 0) sp0 c_24 h_24 = true := by decide +kernel
theorem k_24 (hB : BytesOK) (g : bG) (l : Launch) : Keeps g l gT c_24 := keeps_of hB.1 hB.2 (List.forall_mem_cons.mpr ⟨k_21 hB g l, List.forall_mem_cons.mpr ⟨k_23 hB g l, nilK⟩⟩) e_24 nilK
/-- B.swear ((('c', 0), ('u', 0), ('u', 0)), ()) -/
def c_25 : aCt := (133, 2, some [(2, 9, 11)], false, ([((-2147483648), 2147483647), ((-2147483648), 2147483647)], [], [], 212), [(2, (0, [])), (0, (0, [(0, 1)])), (0, (0, [(1, 1)]))], [(([((-2147483648), 2147483647), ((-2147483648), 2147483647), ((-4), 1)], [], [], 212), some (0, (0, [(2, 1)])))])
def s_25 : List aCt := [c_22, c_24]
def h_25 : List (Nat × aS × Fm) := []
theorem e_25 : ckE 6000 gT s_25 (fun _ => 0) sp0 c_25 h_25 = true := by decide +kernel
theorem k_25 (hB : BytesOK) (g : bG) (l : Launch) : Keeps g l gT c_25 := keeps_of hB.1 hB.2 (List.forall_mem_cons.mpr ⟨k_22 hB g l, List.forall_mem_cons.mpr ⟨k_24 hB g l, nilK⟩⟩) e_25 nilK
/-- Pool.amongSworn ((('c', 1), ('u', 0)), ()) -/
def c_26 : aCt := (23, 2, some [], false, ([(0, 1)], [], [], 212), [(2, (1, [])), (0, (0, [(0, 1)]))], [(([(0, 1), ((-2147483648), 2147483647)], [], [], 212), some (0, (0, [(1, 1)])))])
def s_26 : List aCt := [c_16, c_21, c_23]
def h_26_0 : Nat × aS × Fm := (4, ([(0, (2, (1, []))), (1, (0, (0, [(0, 1)]))), (2, (0, (0, [(2, 1)]))), (3, (0, (0, [(1, 1)])))], [], ([(0, 1), (0, 16), ((-2147483648), 2147483647)], [], [], 212)), (33, [(1, (-2))]))
def h_26 : List (Nat × aS × Fm) := [h_26_0]
theorem e_26 : ckE 6000 gT s_26 (fun _ => 0) sp0 c_26 h_26 = true := by decide +kernel
theorem g_26_0 : ([h_26_0].all fun H => ckH 6000 gT s_26 (fun _ => 0) sp0 c_26 h_26 H) = true := by decide +kernel
theorem k_26 (hB : BytesOK) (g : bG) (l : Launch) : Keeps g l gT c_26 := keeps_of hB.1 hB.2 (List.forall_mem_cons.mpr ⟨k_16 hB g l, List.forall_mem_cons.mpr ⟨k_21 hB g l, List.forall_mem_cons.mpr ⟨k_23 hB g l, nilK⟩⟩⟩) e_26 (List.all_eq_true.mp g_26_0)
/-- B.among ((('c', 0), ('u', 0)), ()) -/
def c_27 : aCt := (134, 3, some [], false, ([(0, 1)], [], [], 212), [(2, (0, [])), (0, (0, [(0, 1)]))], [(([(0, 1), ((-2147483648), 2147483647)], [], [], 212), some (0, (0, [(1, 1)])))])
def s_27 : List aCt := [c_26]
def h_27 : List (Nat × aS × Fm) := []
theorem e_27 : ckE 6000 gT s_27 (fun _ => 0) sp0 c_27 h_27 = true := by decide +kernel
theorem k_27 (hB : BytesOK) (g : bG) (l : Launch) : Keeps g l gT c_27 := keeps_of hB.1 hB.2 (List.forall_mem_cons.mpr ⟨k_26 hB g l, nilK⟩) e_27 nilK
/-- Terms.become ((('c', 43), ('c', 171)), ()) -/
def c_28 : aCt := (105, 2, some [(43, 0, 2), (43, 4, 6), (43, 8, 9), (43, 10, 12), (44, 0, 9), (45, 0, 9), (46, 0, 4), (47, 0, 3), (48, 0, 4), (49, 0, 220)], false, ([], [], [], 212), [(2, (43, [])), (2, (171, []))], [(([], [], [], 212), none)])
def s_28 : List aCt := []
def h_28 : List (Nat × aS × Fm) := []
theorem e_28 : ckE 6000 gT s_28 (fun _ => 0) sp0 c_28 h_28 = true := by decide +kernel
theorem k_28 (hB : BytesOK) (g : bG) (l : Launch) : Keeps g l gT c_28 := keeps_of hB.1 hB.2 (nilK) e_28 nilK
/-- Terms.become ((('c', 50), ('c', 171)), ()) -/
def c_29 : aCt := (105, 2, some [(50, 0, 2), (50, 4, 6), (50, 8, 9), (50, 10, 12), (51, 0, 9), (52, 0, 9), (53, 0, 4), (54, 0, 3), (55, 0, 4), (56, 0, 220)], false, ([], [], [], 212), [(2, (50, [])), (2, (171, []))], [(([], [], [], 212), none)])
def s_29 : List aCt := []
def h_29 : List (Nat × aS × Fm) := []
theorem e_29 : ckE 6000 gT s_29 (fun _ => 0) sp0 c_29 h_29 = true := by decide +kernel
theorem k_29 (hB : BytesOK) (g : bG) (l : Launch) : Keeps g l gT c_29 := keeps_of hB.1 hB.2 (nilK) e_29 nilK
/-- Terms.become ((('c', 57), ('c', 171)), ()) -/
def c_30 : aCt := (105, 2, some [(57, 0, 2), (57, 4, 6), (57, 8, 9), (57, 10, 12), (58, 0, 9), (59, 0, 9), (60, 0, 4), (61, 0, 3), (62, 0, 4), (63, 0, 220)], false, ([], [], [], 212), [(2, (57, [])), (2, (171, []))], [(([], [], [], 212), none)])
def s_30 : List aCt := []
def h_30 : List (Nat × aS × Fm) := []
theorem e_30 : ckE 6000 gT s_30 (fun _ => 0) sp0 c_30 h_30 = true := by decide +kernel
theorem k_30 (hB : BytesOK) (g : bG) (l : Launch) : Keeps g l gT c_30 := keeps_of hB.1 hB.2 (nilK) e_30 nilK
/-- Terms.become ((('c', 64), ('c', 171)), ()) -/
def c_31 : aCt := (105, 2, some [(64, 0, 2), (64, 4, 6), (64, 8, 9), (64, 10, 12), (65, 0, 9), (66, 0, 9), (67, 0, 4), (68, 0, 3), (69, 0, 4), (70, 0, 220)], false, ([], [], [], 212), [(2, (64, [])), (2, (171, []))], [(([], [], [], 212), none)])
def s_31 : List aCt := []
def h_31 : List (Nat × aS × Fm) := []
theorem e_31 : ckE 6000 gT s_31 (fun _ => 0) sp0 c_31 h_31 = true := by decide +kernel
theorem k_31 (hB : BytesOK) (g : bG) (l : Launch) : Keeps g l gT c_31 := keeps_of hB.1 hB.2 (nilK) e_31 nilK
/-- Terms.become ((('c', 71), ('c', 171)), ()) -/
def c_32 : aCt := (105, 2, some [(71, 0, 2), (71, 4, 6), (71, 8, 9), (71, 10, 12), (72, 0, 9), (73, 0, 9), (74, 0, 4), (75, 0, 3), (76, 0, 4), (77, 0, 220)], false, ([], [], [], 212), [(2, (71, [])), (2, (171, []))], [(([], [], [], 212), none)])
def s_32 : List aCt := []
def h_32 : List (Nat × aS × Fm) := []
theorem e_32 : ckE 6000 gT s_32 (fun _ => 0) sp0 c_32 h_32 = true := by decide +kernel
theorem k_32 (hB : BytesOK) (g : bG) (l : Launch) : Keeps g l gT c_32 := keeps_of hB.1 hB.2 (nilK) e_32 nilK
/-- Terms.become ((('c', 78), ('c', 171)), ()) -/
def c_33 : aCt := (105, 2, some [(78, 0, 2), (78, 4, 6), (78, 8, 9), (78, 10, 12), (79, 0, 9), (80, 0, 9), (81, 0, 4), (82, 0, 3), (83, 0, 4), (84, 0, 220)], false, ([], [], [], 212), [(2, (78, [])), (2, (171, []))], [(([], [], [], 212), none)])
def s_33 : List aCt := []
def h_33 : List (Nat × aS × Fm) := []
theorem e_33 : ckE 6000 gT s_33 (fun _ => 0) sp0 c_33 h_33 = true := by decide +kernel
theorem k_33 (hB : BytesOK) (g : bG) (l : Launch) : Keeps g l gT c_33 := keeps_of hB.1 hB.2 (nilK) e_33 nilK
/-- Trade.addBoxes ((('c', 17), ('u', 0), ('u', 0), ('u', 0)), ()) -/
def c_34 : aCt := (107, 0, some [(17, 0, 1), (18, 0, 24), (19, 0, 24), (20, 0, 24)], false, ([(0, 2147483647), ((-2147483648), 2147483647), (0, 239)], [], [], 212), [(2, (17, [])), (0, (0, [(0, 1)])), (0, (0, [(1, 1)])), (0, (0, [(2, 1)]))], [(([(0, 2147483647), ((-2147483648), 2147483647), (0, 239), ((-2), 23)], [], [], 212), some (0, (0, [(3, 1)])))])
def s_34 : List aCt := []
def h_34 : List (Nat × aS × Fm) := []
theorem e_34 : ckE 6000 gT s_34 (fun _ => 0) sp0 c_34 h_34 = true := by decide +kernel
theorem k_34 (hB : BytesOK) (g : bG) (l : Launch) : Keeps g l gT c_34 := keeps_of hB.1 hB.2 (nilK) e_34 nilK
/-- B.boxes ((('c', 0), ('u', 0), ('u', 0)), ()) -/
def c_35 : aCt := (138, 1, some [(17, 0, 1), (18, 0, 24), (19, 0, 24), (20, 0, 24)], false, ([((-2147483648), 2147483647), ((-2147483648), 2147483647)], [], [], 212), [(2, (0, [])), (0, (0, [(0, 1)])), (0, (0, [(1, 1)]))], [(([((-2147483648), 2147483647), ((-2147483648), 2147483647), ((-2), 23)], [], [], 212), some (0, (0, [(2, 1)])))])
def s_35 : List aCt := [c_34]
def h_35 : List (Nat × aS × Fm) := []
theorem e_35 : ckE 6000 gT s_35 (fun _ => 0) sp0 c_35 h_35 = true := by decide +kernel
theorem k_35 (hB : BytesOK) (g : bG) (l : Launch) : Keeps g l gT c_35 := keeps_of hB.1 hB.2 (List.forall_mem_cons.mpr ⟨k_34 hB g l, nilK⟩) e_35 nilK
/-- Trade.countAt ((('c', 17), ('u', 0), ('u', 0)), ()) -/
def c_36 : aCt := (108, 0, some [], false, ([(0, 2147483647), (0, 239)], [], [], 212), [(2, (17, [])), (0, (0, [(0, 1)])), (0, (0, [(1, 1)]))], [(([(0, 2147483647), (0, 239), ((-2147483648), 2147483647)], [], [], 212), some (0, (0, [(2, 1)])))])
def s_36 : List aCt := []
def h_36_0 : Nat × aS × Fm := (5, ([(0, (2, (17, []))), (1, (0, (0, [(0, 1)]))), (2, (0, (0, [(1, 1)]))), (3, (0, (0, [(3, 1)]))), (4, (0, (0, [(2, 1)])))], [], ([(0, 2147483647), (0, 239), (0, 24), ((-2147483648), 2147483647)], [], [], 212)), (49, [(2, (-2))]))
def h_36 : List (Nat × aS × Fm) := [h_36_0]
theorem e_36 : ckE 6000 gT s_36 (fun _ => 0) sp0 c_36 h_36 = true := by decide +kernel
theorem g_36_0 : ([h_36_0].all fun H => ckH 6000 gT s_36 (fun _ => 0) sp0 c_36 h_36 H) = true := by decide +kernel
theorem k_36 (hB : BytesOK) (g : bG) (l : Launch) : Keeps g l gT c_36 := keeps_of hB.1 hB.2 (nilK) e_36 (List.all_eq_true.mp g_36_0)
/-- B.count ((('c', 0), ('u', 0), ('u', 0)), ()) -/
def c_37 : aCt := (139, 1, some [], false, ([((-2147483648), 2147483647), ((-2147483648), 2147483647)], [], [], 212), [(2, (0, [])), (0, (0, [(0, 1)])), (0, (0, [(1, 1)]))], [(([((-2147483648), 2147483647), ((-2147483648), 2147483647), ((-2147483648), 2147483647)], [], [], 212), some (0, (0, [(2, 1)])))])
def s_37 : List aCt := [c_36]
def h_37 : List (Nat × aS × Fm) := []
theorem e_37 : ckE 6000 gT s_37 (fun _ => 0) sp0 c_37 h_37 = true := by decide +kernel
theorem k_37 (hB : BytesOK) (g : bG) (l : Launch) : Keeps g l gT c_37 := keeps_of hB.1 hB.2 (List.forall_mem_cons.mpr ⟨k_36 hB g l, nilK⟩) e_37 nilK
/-- Trade.addLeave ((('c', 17), ('u', 0), ('u', 0), ('u', 0), ('u', 0), ('u', 0)), ()) -/
def c_38 : aCt := (109, 1, some [(17, 4, 6), (21, 0, 8), (22, 0, 8), (23, 0, 8), (24, 0, 8)], false, ([((-2147483648), 2147483647), ((-2147483648), 2147483647), ((-2147483648), 2147483647), ((-2147483648), 2147483647), (0, 1)], [], [], 212), [(2, (17, [])), (0, (0, [(0, 1)])), (0, (0, [(1, 1)])), (0, (0, [(2, 1)])), (0, (0, [(3, 1)])), (0, (0, [(4, 1)]))], [(([((-2147483648), 2147483647), ((-2147483648), 2147483647), ((-2147483648), 2147483647), ((-2147483648), 2147483647), (0, 1), ((-2), 7)], [], [], 212), some (0, (0, [(5, 1)])))])
def s_38 : List aCt := [c_2]
def h_38 : List (Nat × aS × Fm) := []
theorem e_38 : ckE 6000 gT s_38 (fun _ => 0) sp0 c_38 h_38 = true := by decide +kernel
theorem k_38 (hB : BytesOK) (g : bG) (l : Launch) : Keeps g l gT c_38 := keeps_of hB.1 hB.2 (List.forall_mem_cons.mpr ⟨k_2 hB g l, nilK⟩) e_38 nilK
/-- B.leave ((('c', 0), ('u', 0), ('u', 0), ('u', 0), ('u', 0), ('u', 0)), ()) -/
def c_39 : aCt := (140, 2, some [(17, 4, 6), (21, 0, 8), (22, 0, 8), (23, 0, 8), (24, 0, 8)], false, ([((-2147483648), 2147483647), ((-2147483648), 2147483647), ((-2147483648), 2147483647), ((-2147483648), 2147483647), (0, 1)], [], [], 212), [(2, (0, [])), (0, (0, [(0, 1)])), (0, (0, [(1, 1)])), (0, (0, [(2, 1)])), (0, (0, [(3, 1)])), (0, (0, [(4, 1)]))], [(([((-2147483648), 2147483647), ((-2147483648), 2147483647), ((-2147483648), 2147483647), ((-2147483648), 2147483647), (0, 1), ((-2), 7)], [], [], 212), some (0, (0, [(5, 1)])))])
def s_39 : List aCt := [c_38]
def h_39 : List (Nat × aS × Fm) := []
theorem e_39 : ckE 6000 gT s_39 (fun _ => 0) sp0 c_39 h_39 = true := by decide +kernel
theorem k_39 (hB : BytesOK) (g : bG) (l : Launch) : Keeps g l gT c_39 := keeps_of hB.1 hB.2 (List.forall_mem_cons.mpr ⟨k_38 hB g l, nilK⟩) e_39 nilK
/-- Trade.isFavoured ((('c', 17), ('u', 0)), ()) -/
def c_40 : aCt := (110, 0, some [], false, ([(0, 7)], [], [], 212), [(2, (17, [])), (0, (0, [(0, 1)]))], [(([(0, 7), (0, 1)], [], [], 212), some (0, (0, [(1, 1)])))])
def s_40 : List aCt := []
def h_40 : List (Nat × aS × Fm) := []
theorem e_40 : ckE 6000 gT s_40 (fun _ => 0) sp0 c_40 h_40 = true := by decide +kernel
theorem k_40 (hB : BytesOK) (g : bG) (l : Launch) : Keeps g l gT c_40 := keeps_of hB.1 hB.2 (nilK) e_40 nilK
/-- Trade.isLeaveFor ((('c', 17), ('u', 0), ('u', 0)), ()) -/
def c_41 : aCt := (111, 0, some [], false, ([(0, 7), (0, 239)], [], [], 212), [(2, (17, [])), (0, (0, [(0, 1)])), (0, (0, [(1, 1)]))], [(([(0, 7), (0, 239), (0, 1)], [], [], 212), some (0, (0, [(2, 1)])))])
def s_41 : List aCt := []
def h_41 : List (Nat × aS × Fm) := []
theorem e_41 : ckE 6000 gT s_41 (fun _ => 0) sp0 c_41 h_41 = true := by decide +kernel
theorem k_41 (hB : BytesOK) (g : bG) (l : Launch) : Keeps g l gT c_41 := keeps_of hB.1 hB.2 (nilK) e_41 nilK
/-- Trade.latestLeave ((('c', 17), ('u', 0), ('u', 0)), ()) -/
def c_42 : aCt := (112, 1, some [], false, ([(0, 5), (0, 239)], [], [], 212), [(2, (17, [])), (0, (0, [(0, 1)])), (0, (0, [(1, 1)]))], [(([(0, 5), (0, 239), ((-1), 7)], [], [], 212), some (0, (0, [(2, 1)])))])
def s_42 : List aCt := [c_41]
def h_42_0 : Nat × aS × Fm := (7, ([(0, (2, (17, []))), (1, (0, (0, [(0, 1)]))), (2, (0, (0, [(1, 1)]))), (3, (0, (0, [(2, 1)])))], [], ([(0, 5), (0, 239), ((-1), 7)], [], [], 212)), (3, [(2, 2)]))
def h_42 : List (Nat × aS × Fm) := [h_42_0]
theorem e_42 : ckE 6000 gT s_42 (fun _ => 0) sp0 c_42 h_42 = true := by decide +kernel
theorem g_42_0 : ([h_42_0].all fun H => ckH 6000 gT s_42 (fun _ => 0) sp0 c_42 h_42 H) = true := by decide +kernel
theorem k_42 (hB : BytesOK) (g : bG) (l : Launch) : Keeps g l gT c_42 := keeps_of hB.1 hB.2 (List.forall_mem_cons.mpr ⟨k_41 hB g l, nilK⟩) e_42 (List.all_eq_true.mp g_42_0)
/-- Trade.leastPart ((('c', 17), ('u', 0)), ()) -/
def c_43 : aCt := (114, 1, some [], false, ([(0, 239)], [], [], 212), [(2, (17, [])), (0, (0, [(0, 1)]))], [(([(0, 239), ((-2147483648), 100)], [], [], 212), some (0, (0, [(1, 1)])))])
def s_43 : List aCt := [c_40, c_41]
def h_43_0 : Nat × aS × Fm := (5, ([(0, (2, (17, []))), (1, (0, (0, [(0, 1)]))), (2, (0, (0, [(2, 1)]))), (3, (0, (0, [(1, 1)])))], [], ([(0, 239), (0, 8), ((-2147483648), 100)], [], [], 212)), (17, [(1, (-2))]))
def h_43 : List (Nat × aS × Fm) := [h_43_0]
theorem e_43 : ckE 6000 gT s_43 (fun _ => 0) sp0 c_43 h_43 = true := by decide +kernel
theorem g_43_0 : ([h_43_0].all fun H => ckH 6000 gT s_43 (fun _ => 0) sp0 c_43 h_43 H) = true := by decide +kernel
theorem k_43 (hB : BytesOK) (g : bG) (l : Launch) : Keeps g l gT c_43 := keeps_of hB.1 hB.2 (List.forall_mem_cons.mpr ⟨k_40 hB g l, List.forall_mem_cons.mpr ⟨k_41 hB g l, nilK⟩⟩) e_43 (List.all_eq_true.mp g_43_0)
/-- Trade.partOf ((('c', 17), ('u', 0), ('u', 0)), ()) -/
def c_44 : aCt := (113, 2, some [], false, ([(0, 5), (0, 239)], [], [], 212), [(2, (17, [])), (0, (0, [(0, 1)])), (0, (0, [(1, 1)]))], [(([(0, 5), (0, 239), ((-2147483648), 2147483647)], [], [], 212), some (0, (0, [(2, 1)])))])
def s_44 : List aCt := [c_40, c_42, c_43]
def h_44 : List (Nat × aS × Fm) := []
theorem e_44 : ckE 6000 gT s_44 (fun _ => 0) sp0 c_44 h_44 = true := by decide +kernel
theorem k_44 (hB : BytesOK) (g : bG) (l : Launch) : Keeps g l gT c_44 := keeps_of hB.1 hB.2 (List.forall_mem_cons.mpr ⟨k_40 hB g l, List.forall_mem_cons.mpr ⟨k_42 hB g l, List.forall_mem_cons.mpr ⟨k_43 hB g l, nilK⟩⟩⟩) e_44 nilK
/-- B.part ((('c', 0), ('u', 0), ('u', 0)), ()) -/
def c_45 : aCt := (141, 3, some [], false, ([((-2147483648), 2147483647), ((-2147483648), 2147483647)], [], [], 212), [(2, (0, [])), (0, (0, [(0, 1)])), (0, (0, [(1, 1)]))], [(([((-2147483648), 2147483647), ((-2147483648), 2147483647), ((-2147483648), 2147483647)], [], [], 212), some (0, (0, [(2, 1)])))])
def s_45 : List aCt := [c_44]
def h_45 : List (Nat × aS × Fm) := []
theorem e_45 : ckE 6000 gT s_45 (fun _ => 0) sp0 c_45 h_45 = true := by decide +kernel
theorem k_45 (hB : BytesOK) (g : bG) (l : Launch) : Keeps g l gT c_45 := keeps_of hB.1 hB.2 (List.forall_mem_cons.mpr ⟨k_44 hB g l, nilK⟩) e_45 nilK
