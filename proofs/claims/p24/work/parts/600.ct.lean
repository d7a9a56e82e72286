/-- Terms.become ((('c', 127), ('c', 43)), ()) -/
def c_0 : aCt := (105, 2, some [(127, 0, 2), (127, 4, 6), (127, 8, 9), (127, 10, 12), (128, 0, 9), (129, 0, 9), (130, 0, 4), (131, 0, 3), (132, 0, 4), (133, 0, 220)], false, ([], [], [], 212), [(2, (127, [])), (2, (43, []))], [(([], [], [], 212), none)])
def s_0 : List aCt := []
def h_0 : List (Nat × aS × Fm) := []
theorem e_0 : ckE 6000 gT s_0 (fun _ => 0) sp0 c_0 h_0 = true := by decide +kernel
theorem k_0 (hB : BytesOK) (g : bG) (l : Launch) : Keeps g l gT c_0 := keeps_of hB.1 hB.2 (nilK) e_0 nilK
/-- Terms.become ((('c', 134), ('c', 50)), ()) -/
def c_1 : aCt := (105, 2, some [(134, 0, 2), (134, 4, 6), (134, 8, 9), (134, 10, 12), (135, 0, 9), (136, 0, 9), (137, 0, 4), (138, 0, 3), (139, 0, 4), (140, 0, 220)], false, ([], [], [], 212), [(2, (134, [])), (2, (50, []))], [(([], [], [], 212), none)])
def s_1 : List aCt := []
def h_1 : List (Nat × aS × Fm) := []
theorem e_1 : ckE 6000 gT s_1 (fun _ => 0) sp0 c_1 h_1 = true := by decide +kernel
theorem k_1 (hB : BytesOK) (g : bG) (l : Launch) : Keeps g l gT c_1 := keeps_of hB.1 hB.2 (nilK) e_1 nilK
/-- Terms.become ((('c', 141), ('c', 57)), ()) -/
def c_2 : aCt := (105, 2, some [(141, 0, 2), (141, 4, 6), (141, 8, 9), (141, 10, 12), (142, 0, 9), (143, 0, 9), (144, 0, 4), (145, 0, 3), (146, 0, 4), (147, 0, 220)], false, ([], [], [], 212), [(2, (141, [])), (2, (57, []))], [(([], [], [], 212), none)])
def s_2 : List aCt := []
def h_2 : List (Nat × aS × Fm) := []
theorem e_2 : ckE 6000 gT s_2 (fun _ => 0) sp0 c_2 h_2 = true := by decide +kernel
theorem k_2 (hB : BytesOK) (g : bG) (l : Launch) : Keeps g l gT c_2 := keeps_of hB.1 hB.2 (nilK) e_2 nilK
/-- Terms.become ((('c', 148), ('c', 64)), ()) -/
def c_3 : aCt := (105, 2, some [(148, 0, 2), (148, 4, 6), (148, 8, 9), (148, 10, 12), (149, 0, 9), (150, 0, 9), (151, 0, 4), (152, 0, 3), (153, 0, 4), (154, 0, 220)], false, ([], [], [], 212), [(2, (148, [])), (2, (64, []))], [(([], [], [], 212), none)])
def s_3 : List aCt := []
def h_3 : List (Nat × aS × Fm) := []
theorem e_3 : ckE 6000 gT s_3 (fun _ => 0) sp0 c_3 h_3 = true := by decide +kernel
theorem k_3 (hB : BytesOK) (g : bG) (l : Launch) : Keeps g l gT c_3 := keeps_of hB.1 hB.2 (nilK) e_3 nilK
/-- Terms.become ((('c', 155), ('c', 71)), ()) -/
def c_4 : aCt := (105, 2, some [(155, 0, 2), (155, 4, 6), (155, 8, 9), (155, 10, 12), (156, 0, 9), (157, 0, 9), (158, 0, 4), (159, 0, 3), (160, 0, 4), (161, 0, 220)], false, ([], [], [], 212), [(2, (155, [])), (2, (71, []))], [(([], [], [], 212), none)])
def s_4 : List aCt := []
def h_4 : List (Nat × aS × Fm) := []
theorem e_4 : ckE 6000 gT s_4 (fun _ => 0) sp0 c_4 h_4 = true := by decide +kernel
theorem k_4 (hB : BytesOK) (g : bG) (l : Launch) : Keeps g l gT c_4 := keeps_of hB.1 hB.2 (nilK) e_4 nilK
/-- Terms.become ((('c', 162), ('c', 78)), ()) -/
def c_5 : aCt := (105, 2, some [(162, 0, 2), (162, 4, 6), (162, 8, 9), (162, 10, 12), (163, 0, 9), (164, 0, 9), (165, 0, 4), (166, 0, 3), (167, 0, 4), (168, 0, 220)], false, ([], [], [], 212), [(2, (162, [])), (2, (78, []))], [(([], [], [], 212), none)])
def s_5 : List aCt := []
def h_5 : List (Nat × aS × Fm) := []
theorem e_5 : ckE 6000 gT s_5 (fun _ => 0) sp0 c_5 h_5 = true := by decide +kernel
theorem k_5 (hB : BytesOK) (g : bG) (l : Launch) : Keeps g l gT c_5 := keeps_of hB.1 hB.2 (nilK) e_5 nilK
/-- Terms.become ((('c', 43), ('c', 127)), ()) -/
def c_6 : aCt := (105, 2, some [(43, 0, 2), (43, 4, 6), (43, 8, 9), (43, 10, 12), (44, 0, 9), (45, 0, 9), (46, 0, 4), (47, 0, 3), (48, 0, 4), (49, 0, 220)], false, ([], [], [], 212), [(2, (43, [])), (2, (127, []))], [(([], [], [], 212), none)])
def s_6 : List aCt := []
def h_6 : List (Nat × aS × Fm) := []
theorem e_6 : ckE 6000 gT s_6 (fun _ => 0) sp0 c_6 h_6 = true := by decide +kernel
theorem k_6 (hB : BytesOK) (g : bG) (l : Launch) : Keeps g l gT c_6 := keeps_of hB.1 hB.2 (nilK) e_6 nilK
/-- Terms.become ((('c', 50), ('c', 134)), ()) -/
def c_7 : aCt := (105, 2, some [(50, 0, 2), (50, 4, 6), (50, 8, 9), (50, 10, 12), (51, 0, 9), (52, 0, 9), (53, 0, 4), (54, 0, 3), (55, 0, 4), (56, 0, 220)], false, ([], [], [], 212), [(2, (50, [])), (2, (134, []))], [(([], [], [], 212), none)])
def s_7 : List aCt := []
def h_7 : List (Nat × aS × Fm) := []
theorem e_7 : ckE 6000 gT s_7 (fun _ => 0) sp0 c_7 h_7 = true := by decide +kernel
theorem k_7 (hB : BytesOK) (g : bG) (l : Launch) : Keeps g l gT c_7 := keeps_of hB.1 hB.2 (nilK) e_7 nilK
/-- Terms.become ((('c', 57), ('c', 141)), ()) -/
def c_8 : aCt := (105, 2, some [(57, 0, 2), (57, 4, 6), (57, 8, 9), (57, 10, 12), (58, 0, 9), (59, 0, 9), (60, 0, 4), (61, 0, 3), (62, 0, 4), (63, 0, 220)], false, ([], [], [], 212), [(2, (57, [])), (2, (141, []))], [(([], [], [], 212), none)])
def s_8 : List aCt := []
def h_8 : List (Nat × aS × Fm) := []
theorem e_8 : ckE 6000 gT s_8 (fun _ => 0) sp0 c_8 h_8 = true := by decide +kernel
theorem k_8 (hB : BytesOK) (g : bG) (l : Launch) : Keeps g l gT c_8 := keeps_of hB.1 hB.2 (nilK) e_8 nilK
/-- Terms.become ((('c', 64), ('c', 148)), ()) -/
def c_9 : aCt := (105, 2, some [(64, 0, 2), (64, 4, 6), (64, 8, 9), (64, 10, 12), (65, 0, 9), (66, 0, 9), (67, 0, 4), (68, 0, 3), (69, 0, 4), (70, 0, 220)], false, ([], [], [], 212), [(2, (64, [])), (2, (148, []))], [(([], [], [], 212), none)])
def s_9 : List aCt := []
def h_9 : List (Nat × aS × Fm) := []
theorem e_9 : ckE 6000 gT s_9 (fun _ => 0) sp0 c_9 h_9 = true := by decide +kernel
theorem k_9 (hB : BytesOK) (g : bG) (l : Launch) : Keeps g l gT c_9 := keeps_of hB.1 hB.2 (nilK) e_9 nilK
/-- Terms.become ((('c', 71), ('c', 155)), ()) -/
def c_10 : aCt := (105, 2, some [(71, 0, 2), (71, 4, 6), (71, 8, 9), (71, 10, 12), (72, 0, 9), (73, 0, 9), (74, 0, 4), (75, 0, 3), (76, 0, 4), (77, 0, 220)], false, ([], [], [], 212), [(2, (71, [])), (2, (155, []))], [(([], [], [], 212), none)])
def s_10 : List aCt := []
def h_10 : List (Nat × aS × Fm) := []
theorem e_10 : ckE 6000 gT s_10 (fun _ => 0) sp0 c_10 h_10 = true := by decide +kernel
theorem k_10 (hB : BytesOK) (g : bG) (l : Launch) : Keeps g l gT c_10 := keeps_of hB.1 hB.2 (nilK) e_10 nilK
/-- Terms.become ((('c', 78), ('c', 162)), ()) -/
def c_11 : aCt := (105, 2, some [(78, 0, 2), (78, 4, 6), (78, 8, 9), (78, 10, 12), (79, 0, 9), (80, 0, 9), (81, 0, 4), (82, 0, 3), (83, 0, 4), (84, 0, 220)], false, ([], [], [], 212), [(2, (78, [])), (2, (162, []))], [(([], [], [], 212), none)])
def s_11 : List aCt := []
def h_11 : List (Nat × aS × Fm) := []
theorem e_11 : ckE 6000 gT s_11 (fun _ => 0) sp0 c_11 h_11 = true := by decide +kernel
theorem k_11 (hB : BytesOK) (g : bG) (l : Launch) : Keeps g l gT c_11 := keeps_of hB.1 hB.2 (nilK) e_11 nilK
/-- B.months ((('c', 0), ('u', 0)), ()) -/
def c_12 : aCt := (123, 0, some [(2, 0, 1)], false, ([((-2147483648), 2147483647)], [], [], 212), [(2, (0, [])), (0, (0, [(0, 1)]))], [(([((-2147483648), 2147483647), ((-4), 239)], [], [], 212), some (0, (0, [(1, 1)])))])
def s_12 : List aCt := []
def h_12 : List (Nat × aS × Fm) := []
theorem e_12 : ckE 6000 gT s_12 (fun _ => 0) sp0 c_12 h_12 = true := by decide +kernel
theorem k_12 (hB : BytesOK) (g : bG) (l : Launch) : Keeps g l gT c_12 := keeps_of hB.1 hB.2 (nilK) e_12 nilK
/-- Rights.addClaim ((('c', 2), ('u', 0), ('u', 0), ('u', 0), ('u', 0)), ()) -/
def c_13 : aCt := (46, 1, some [(2, 1, 2), (3, 0, 16), (4, 0, 16), (5, 0, 16), (6, 0, 16), (7, 0, 16), (8, 0, 16), (9, 0, 16)], false, ([((-2147483648), 2147483647), ((-2147483648), 2147483647), ((-2147483648), 2147483647), ((-2147483648), 2147483647)], [], [], 212), [(2, (2, [])), (0, (0, [(0, 1)])), (0, (0, [(1, 1)])), (0, (0, [(2, 1)])), (0, (0, [(3, 1)]))], [(([((-2147483648), 2147483647), ((-2147483648), 2147483647), ((-2147483648), 2147483647), ((-2147483648), 2147483647), ((-2), 15)], [], [], 212), some (0, (0, [(4, 1)])))])
def sp_13 : aSp := fun k pc S => if pc = 0 ∧ k = 46 then spL 1 [799] S else none
def s_13 : List aCt := []
def h_13 : List (Nat × aS × Fm) := []
theorem e_13 : ckE 6000 gT s_13 (fun _ => 0) sp_13 c_13 h_13 = true := by decide +kernel
theorem k_13 (hB : BytesOK) (g : bG) (l : Launch) : Keeps g l gT c_13 := keeps_of hB.1 hB.2 (nilK) e_13 nilK
/-- B.claim ((('c', 0), ('u', 0), ('u', 0), ('u', 0), ('u', 0)), ()) -/
def c_14 : aCt := (124, 2, some [(2, 1, 2), (3, 0, 16), (4, 0, 16), (5, 0, 16), (6, 0, 16), (7, 0, 16), (8, 0, 16), (9, 0, 16)], false, ([((-2147483648), 2147483647), ((-2147483648), 2147483647), ((-2147483648), 2147483647), ((-2147483648), 2147483647)], [], [], 212), [(2, (0, [])), (0, (0, [(0, 1)])), (0, (0, [(1, 1)])), (0, (0, [(2, 1)])), (0, (0, [(3, 1)]))], [(([((-2147483648), 2147483647), ((-2147483648), 2147483647), ((-2147483648), 2147483647), ((-2147483648), 2147483647), ((-2), 15)], [], [], 212), some (0, (0, [(4, 1)])))])
def s_14 : List aCt := [c_13]
def h_14 : List (Nat × aS × Fm) := []
theorem e_14 : ckE 6000 gT s_14 (fun _ => 0) sp0 c_14 h_14 = true := by decide +kernel
theorem k_14 (hB : BytesOK) (g : bG) (l : Launch) : Keeps g l gT c_14 := keeps_of hB.1 hB.2 (List.forall_mem_cons.mpr ⟨k_13 hB g l, nilK⟩) e_14 nilK
/-- Rights.withBit ((('u', 0), ('u', 0), ('u', 0)), ()) -/
def c_15 : aCt := (49, 0, some [], false, ([((-2147483648), 2147483647), (0, 23), (0, 1)], [], [], 212), [(0, (0, [(0, 1)])), (0, (0, [(1, 1)])), (0, (0, [(2, 1)]))], [(([((-2147483648), 2147483647), (0, 23), (0, 1), ((-2147483648), 2147483647)], [], [], 212), some (0, (0, [(3, 1)])))])
def s_15 : List aCt := []
def h_15 : List (Nat × aS × Fm) := []
theorem e_15 : ckE 6000 gT s_15 (fun _ => 0) sp0 c_15 h_15 = true := by decide +kernel
theorem k_15 (hB : BytesOK) (g : bG) (l : Launch) : Keeps g l gT c_15 := keeps_of hB.1 hB.2 (nilK) e_15 nilK
/-- Rights.addWord ((('c', 2), ('u', 0), ('u', 0)), ()) -/
def c_16 : aCt := (47, 1, some [(2, 11, 13), (10, 0, 20), (11, 0, 20)], false, ([((-2147483648), 2147483647), (0, 1)], [], [], 212), [(2, (2, [])), (0, (0, [(0, 1)])), (0, (0, [(1, 1)]))], [(([((-2147483648), 2147483647), (0, 1), ((-2), 19)], [], [], 212), some (0, (0, [(2, 1)])))])
def s_16 : List aCt := [c_15]
def h_16 : List (Nat × aS × Fm) := []
theorem e_16 : ckE 6000 gT s_16 (fun _ => 0) sp0 c_16 h_16 = true := by decide +kernel
theorem k_16 (hB : BytesOK) (g : bG) (l : Launch) : Keeps g l gT c_16 := keeps_of hB.1 hB.2 (List.forall_mem_cons.mpr ⟨k_15 hB g l, nilK⟩) e_16 nilK
/-- B.word ((('c', 0), ('u', 0), ('u', 0)), ()) -/
def c_17 : aCt := (125, 2, some [(2, 11, 13), (10, 0, 20), (11, 0, 20)], false, ([((-2147483648), 2147483647), (0, 1)], [], [], 212), [(2, (0, [])), (0, (0, [(0, 1)])), (0, (0, [(1, 1)]))], [(([((-2147483648), 2147483647), (0, 1), ((-2), 19)], [], [], 212), some (0, (0, [(2, 1)])))])
def s_17 : List aCt := [c_16]
def h_17 : List (Nat × aS × Fm) := []
theorem e_17 : ckE 6000 gT s_17 (fun _ => 0) sp0 c_17 h_17 = true := by decide +kernel
theorem k_17 (hB : BytesOK) (g : bG) (l : Launch) : Keeps g l gT c_17 := keeps_of hB.1 hB.2 (List.forall_mem_cons.mpr ⟨k_16 hB g l, nilK⟩) e_17 nilK
/-- Rights.livesAt ((('c', 2), ('u', 0), ('u', 0), ('u', 0)), ()) -/
def c_18 : aCt := (50, 0, some [], false, ([(0, 15), (0, 999), (0, 239)], [], [], 212), [(2, (2, [])), (0, (0, [(0, 1)])), (0, (0, [(1, 1)])), (0, (0, [(2, 1)]))], [(([(0, 15), (0, 999), (0, 239), (0, 1)], [], [], 212), some (0, (0, [(3, 1)])))])
def s_18 : List aCt := []
def h_18_0 : Nat × aS × Fm := (42, ([(0, (2, (2, []))), (1, (0, (0, [(0, 1)]))), (2, (0, (0, [(1, 1)]))), (3, (0, (0, [(2, 1)]))), (4, (0, (0, [(3, 1)])))], [], ([(0, 15), (0, 999), (0, 239), ((-1), 19)], [], [], 212)), (3, [(3, 2)]))
def h_18 : List (Nat × aS × Fm) := [h_18_0]
theorem e_18 : ckE 6000 gT s_18 (fun _ => 0) sp0 c_18 h_18 = true := by decide +kernel
theorem g_18_0 : ([h_18_0].all fun H => ckH 6000 gT s_18 (fun _ => 0) sp0 c_18 h_18 H) = true := by decide +kernel
theorem k_18 (hB : BytesOK) (g : bG) (l : Launch) : Keeps g l gT c_18 := keeps_of hB.1 hB.2 (nilK) e_18 (List.all_eq_true.mp g_18_0)
