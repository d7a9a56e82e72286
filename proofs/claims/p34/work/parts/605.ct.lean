/-- Terms.clear ((('c', 171),), ()) -/
def c_99 : aCt := (98, 0, some [(171, 0, 2), (171, 4, 6), (171, 8, 9), (171, 10, 12), (174, 0, 4), (176, 0, 4)], false, ([], [], [], 212), [(2, (171, []))], [(([], [], [], 212), none)])
def s_99 : List aCt := []
def h_99_0 : Nat × aS × Fm := (34, ([(0, (2, (171, []))), (1, (0, (0, [(0, 1)])))], [], ([(0, 4)], [], [], 212)), (9, [(0, (-2))]))
def h_99 : List (Nat × aS × Fm) := [h_99_0]
theorem e_99 : ckE 6000 gT s_99 (fun _ => 0) sp0 c_99 h_99 = true := by decide +kernel
theorem g_99_0 : ([h_99_0].all fun H => ckH 6000 gT s_99 (fun _ => 0) sp0 c_99 h_99 H) = true := by decide +kernel
theorem k_99 (hB : BytesOK) (g : bG) (l : Launch) : Keeps g l gT c_99 := keeps_of hB.1 hB.2 (nilK) e_99 (List.all_eq_true.mp g_99_0)
/-- Tape.parse ((('c', 169),), ()) -/
def c_100 : aCt := (82, 17, some [(169, 3, 8), (171, 0, 2), (171, 4, 6), (171, 8, 9), (171, 10, 12), (172, 0, 9), (173, 0, 9), (174, 0, 4), (175, 0, 3), (176, 0, 4), (177, 0, 220)], false, ([], [], [], 212), [(2, (169, []))], [(([((-1), 220)], [], [], 212), some (0, (0, [(0, 1)])))])
def s_100 : List aCt := [c_51, c_52, c_98, c_99]
def h_100_0 : Nat × aS × Fm := (23, ([(0, (2, (169, []))), (1, (0, (0, [(0, 1)])))], [], ([(0, 10)], [], [], 212)), (21, [(0, (-2))]))
def h_100 : List (Nat × aS × Fm) := [h_100_0]
theorem e_100 : ckE 6000 gT s_100 (fun _ => 0) sp0 c_100 h_100 = true := by decide +kernel
theorem g_100_0 : ([h_100_0].all fun H => ckH 6000 gT s_100 (fun _ => 0) sp0 c_100 h_100 H) = true := by decide +kernel
theorem k_100 (hB : BytesOK) (g : bG) (l : Launch) : Keeps g l gT c_100 := keeps_of hB.1 hB.2 (List.forall_mem_cons.mpr ⟨k_51 hB g l, List.forall_mem_cons.mpr ⟨k_52 hB g l, List.forall_mem_cons.mpr ⟨k_98 hB g l, List.forall_mem_cons.mpr ⟨k_99 hB g l, nilK⟩⟩⟩⟩) e_100 (List.all_eq_true.mp g_100_0)
/-- B.read ((('c', 0),), ()) -/
def c_101 : aCt := (136, 18, some [(1, 4, 5), (43, 0, 2), (43, 4, 6), (43, 8, 9), (43, 10, 12), (44, 0, 9), (45, 0, 9), (46, 0, 4), (47, 0, 3), (48, 0, 4), (49, 0, 220), (50, 0, 2), (50, 4, 6), (50, 8, 9), (50, 10, 12), (51, 0, 9), (52, 0, 9), (53, 0, 4), (54, 0, 3), (55, 0, 4), (56, 0, 220), (57, 0, 2), (57, 4, 6), (57, 8, 9), (57, 10, 12), (58, 0, 9), (59, 0, 9), (60, 0, 4), (61, 0, 3), (62, 0, 4), (63, 0, 220), (64, 0, 2), (64, 4, 6), (64, 8, 9), (64, 10, 12), (65, 0, 9), (66, 0, 9), (67, 0, 4), (68, 0, 3), (69, 0, 4), (70, 0, 220), (71, 0, 2), (71, 4, 6), (71, 8, 9), (71, 10, 12), (72, 0, 9), (73, 0, 9), (74, 0, 4), (75, 0, 3), (76, 0, 4), (77, 0, 220), (78, 0, 2), (78, 4, 6), (78, 8, 9), (78, 10, 12), (79, 0, 9), (80, 0, 9), (81, 0, 4), (82, 0, 3), (83, 0, 4), (84, 0, 220), (169, 0, 1), (169, 3, 8), (171, 0, 2), (171, 4, 6), (171, 8, 9), (171, 10, 12), (172, 0, 9), (173, 0, 9), (174, 0, 4), (175, 0, 3), (176, 0, 4), (177, 0, 220)], false, ([], [], [], 212), [(2, (0, []))], [(([((-1000), 5)], [], [], 212), some (0, (0, [(0, 1)])))])
def sp_101 : aSp := fun k pc S => if pc = 20 ∧ k = 24 then spS 0 [0, 1, 2, 3, 4] S else none
def s_101 : List aCt := [c_100, c_45, c_46, c_47, c_48, c_49, c_50]
def h_101 : List (Nat × aS × Fm) := []
theorem e_101 : ckE 6000 gT s_101 (fun _ => 0) sp_101 c_101 h_101 = true := by decide +kernel
theorem k_101 (hB : BytesOK) (g : bG) (l : Launch) : Keeps g l gT c_101 := keeps_of hB.1 hB.2 (List.forall_mem_cons.mpr ⟨k_100 hB g l, List.forall_mem_cons.mpr ⟨k_45 hB g l, List.forall_mem_cons.mpr ⟨k_46 hB g l, List.forall_mem_cons.mpr ⟨k_47 hB g l, List.forall_mem_cons.mpr ⟨k_48 hB g l, List.forall_mem_cons.mpr ⟨k_49 hB g l, List.forall_mem_cons.mpr ⟨k_50 hB g l, nilK⟩⟩⟩⟩⟩⟩⟩) e_101 nilK
/-- Terms.fact ((('c', 43), ('u', 0)), ()) -/
def c_102 : aCt := (101, 0, some [], false, ([((-2147483648), 2147483647)], [], [], 212), [(2, (43, [])), (0, (0, [(0, 1)]))], [(([((-2147483648), 2147483647), ((-9), 999)], [], [], 212), some (0, (0, [(1, 1)])))])
def s_102 : List aCt := []
def h_102 : List (Nat × aS × Fm) := []
theorem e_102 : ckE 6000 gT s_102 (fun _ => 0) sp0 c_102 h_102 = true := by decide +kernel
theorem k_102 (hB : BytesOK) (g : bG) (l : Launch) : Keeps g l gT c_102 := keeps_of hB.1 hB.2 (nilK) e_102 nilK
/-- Terms.fact ((('c', 50), ('u', 0)), ()) -/
def c_103 : aCt := (101, 0, some [], false, ([((-2147483648), 2147483647)], [], [], 212), [(2, (50, [])), (0, (0, [(0, 1)]))], [(([((-2147483648), 2147483647), ((-9), 999)], [], [], 212), some (0, (0, [(1, 1)])))])
def s_103 : List aCt := []
def h_103 : List (Nat × aS × Fm) := []
theorem e_103 : ckE 6000 gT s_103 (fun _ => 0) sp0 c_103 h_103 = true := by decide +kernel
theorem k_103 (hB : BytesOK) (g : bG) (l : Launch) : Keeps g l gT c_103 := keeps_of hB.1 hB.2 (nilK) e_103 nilK
/-- Terms.fact ((('c', 57), ('u', 0)), ()) -/
def c_104 : aCt := (101, 0, some [], false, ([((-2147483648), 2147483647)], [], [], 212), [(2, (57, [])), (0, (0, [(0, 1)]))], [(([((-2147483648), 2147483647), ((-9), 999)], [], [], 212), some (0, (0, [(1, 1)])))])
def s_104 : List aCt := []
def h_104 : List (Nat × aS × Fm) := []
theorem e_104 : ckE 6000 gT s_104 (fun _ => 0) sp0 c_104 h_104 = true := by decide +kernel
theorem k_104 (hB : BytesOK) (g : bG) (l : Launch) : Keeps g l gT c_104 := keeps_of hB.1 hB.2 (nilK) e_104 nilK
/-- Terms.fact ((('c', 64), ('u', 0)), ()) -/
def c_105 : aCt := (101, 0, some [], false, ([((-2147483648), 2147483647)], [], [], 212), [(2, (64, [])), (0, (0, [(0, 1)]))], [(([((-2147483648), 2147483647), ((-9), 999)], [], [], 212), some (0, (0, [(1, 1)])))])
def s_105 : List aCt := []
def h_105 : List (Nat × aS × Fm) := []
theorem e_105 : ckE 6000 gT s_105 (fun _ => 0) sp0 c_105 h_105 = true := by decide +kernel
theorem k_105 (hB : BytesOK) (g : bG) (l : Launch) : Keeps g l gT c_105 := keeps_of hB.1 hB.2 (nilK) e_105 nilK
/-- Terms.fact ((('c', 71), ('u', 0)), ()) -/
def c_106 : aCt := (101, 0, some [], false, ([((-2147483648), 2147483647)], [], [], 212), [(2, (71, [])), (0, (0, [(0, 1)]))], [(([((-2147483648), 2147483647), ((-9), 999)], [], [], 212), some (0, (0, [(1, 1)])))])
def s_106 : List aCt := []
def h_106 : List (Nat × aS × Fm) := []
theorem e_106 : ckE 6000 gT s_106 (fun _ => 0) sp0 c_106 h_106 = true := by decide +kernel
theorem k_106 (hB : BytesOK) (g : bG) (l : Launch) : Keeps g l gT c_106 := keeps_of hB.1 hB.2 (nilK) e_106 nilK
/-- Terms.fact ((('c', 78), ('u', 0)), ()) -/
def c_107 : aCt := (101, 0, some [], false, ([((-2147483648), 2147483647)], [], [], 212), [(2, (78, [])), (0, (0, [(0, 1)]))], [(([((-2147483648), 2147483647), ((-9), 999)], [], [], 212), some (0, (0, [(1, 1)])))])
def s_107 : List aCt := []
def h_107 : List (Nat × aS × Fm) := []
theorem e_107 : ckE 6000 gT s_107 (fun _ => 0) sp0 c_107 h_107 = true := by decide +kernel
theorem k_107 (hB : BytesOK) (g : bG) (l : Launch) : Keeps g l gT c_107 := keeps_of hB.1 hB.2 (nilK) e_107 nilK
/-- B.version ((('c', 0), ('u', 0), ('u', 0)), ()) -/
def c_108 : aCt := (137, 1, some [], false, ([((-2147483648), 2147483647), ((-2147483648), 2147483647)], [], [], 212), [(2, (0, [])), (0, (0, [(0, 1)])), (0, (0, [(1, 1)]))], [(([((-2147483648), 2147483647), ((-2147483648), 2147483647), ((-9), 999)], [], [], 212), some (0, (0, [(2, 1)])))])
def sp_108 : aSp := fun k pc S => if pc = 17 ∧ k = 25 then spS 0 [0, 1, 2, 3, 4] S else none
def s_108 : List aCt := [c_102, c_103, c_104, c_105, c_106, c_107]
def h_108 : List (Nat × aS × Fm) := []
theorem e_108 : ckE 6000 gT s_108 (fun _ => 0) sp_108 c_108 h_108 = true := by decide +kernel
theorem k_108 (hB : BytesOK) (g : bG) (l : Launch) : Keeps g l gT c_108 := keeps_of hB.1 hB.2 (List.forall_mem_cons.mpr ⟨k_102 hB g l, List.forall_mem_cons.mpr ⟨k_103 hB g l, List.forall_mem_cons.mpr ⟨k_104 hB g l, List.forall_mem_cons.mpr ⟨k_105 hB g l, List.forall_mem_cons.mpr ⟨k_106 hB g l, List.forall_mem_cons.mpr ⟨k_107 hB g l, nilK⟩⟩⟩⟩⟩⟩) e_108 nilK
/-- Trade.addBoxes ((('c', 17), ('u', 0), ('u', 0), ('u', 0)), ()) -/
def c_109 : aCt := (107, 0, some [(17, 0, 1), (18, 0, 24), (19, 0, 24), (20, 0, 24)], false, ([(0, 2147483647), ((-2147483648), 2147483647), (0, 239)], [], [], 212), [(2, (17, [])), (0, (0, [(0, 1)])), (0, (0, [(1, 1)])), (0, (0, [(2, 1)]))], [(([(0, 2147483647), ((-2147483648), 2147483647), (0, 239), ((-2), 23)], [], [], 212), some (0, (0, [(3, 1)])))])
def s_109 : List aCt := []
def h_109 : List (Nat × aS × Fm) := []
theorem e_109 : ckE 6000 gT s_109 (fun _ => 0) sp0 c_109 h_109 = true := by decide +kernel
theorem k_109 (hB : BytesOK) (g : bG) (l : Launch) : Keeps g l gT c_109 := keeps_of hB.1 hB.2 (nilK) e_109 nilK
/-- B.boxes ((('c', 0), ('u', 0), ('u', 0)), ()) -/
def c_110 : aCt := (138, 1, some [(17, 0, 1), (18, 0, 24), (19, 0, 24), (20, 0, 24)], false, ([((-2147483648), 2147483647), ((-2147483648), 2147483647)], [], [], 212), [(2, (0, [])), (0, (0, [(0, 1)])), (0, (0, [(1, 1)]))], [(([((-2147483648), 2147483647), ((-2147483648), 2147483647), ((-2), 23)], [], [], 212), some (0, (0, [(2, 1)])))])
def s_110 : List aCt := [c_109]
def h_110 : List (Nat × aS × Fm) := []
theorem e_110 : ckE 6000 gT s_110 (fun _ => 0) sp0 c_110 h_110 = true := by decide +kernel
theorem k_110 (hB : BytesOK) (g : bG) (l : Launch) : Keeps g l gT c_110 := keeps_of hB.1 hB.2 (List.forall_mem_cons.mpr ⟨k_109 hB g l, nilK⟩) e_110 nilK
/-- Trade.countAt ((('c', 17), ('u', 0), ('u', 0)), ()) -/
def c_111 : aCt := (108, 0, some [], false, ([(0, 2147483647), (0, 239)], [], [], 212), [(2, (17, [])), (0, (0, [(0, 1)])), (0, (0, [(1, 1)]))], [(([(0, 2147483647), (0, 239), ((-2147483648), 2147483647)], [], [], 212), some (0, (0, [(2, 1)])))])
def s_111 : List aCt := []
def h_111_0 : Nat × aS × Fm := (5, ([(0, (2, (17, []))), (1, (0, (0, [(0, 1)]))), (2, (0, (0, [(1, 1)]))), (3, (0, (0, [(3, 1)]))), (4, (0, (0, [(2, 1)])))], [], ([(0, 2147483647), (0, 239), (0, 24), ((-2147483648), 2147483647)], [], [], 212)), (49, [(2, (-2))]))
def h_111 : List (Nat × aS × Fm) := [h_111_0]
theorem e_111 : ckE 6000 gT s_111 (fun _ => 0) sp0 c_111 h_111 = true := by decide +kernel
theorem g_111_0 : ([h_111_0].all fun H => ckH 6000 gT s_111 (fun _ => 0) sp0 c_111 h_111 H) = true := by decide +kernel
theorem k_111 (hB : BytesOK) (g : bG) (l : Launch) : Keeps g l gT c_111 := keeps_of hB.1 hB.2 (nilK) e_111 (List.all_eq_true.mp g_111_0)
/-- B.count ((('c', 0), ('u', 0), ('u', 0)), ()) -/
def c_112 : aCt := (139, 1, some [], false, ([((-2147483648), 2147483647), ((-2147483648), 2147483647)], [], [], 212), [(2, (0, [])), (0, (0, [(0, 1)])), (0, (0, [(1, 1)]))], [(([((-2147483648), 2147483647), ((-2147483648), 2147483647), ((-2147483648), 2147483647)], [], [], 212), some (0, (0, [(2, 1)])))])
def s_112 : List aCt := [c_111]
def h_112 : List (Nat × aS × Fm) := []
theorem e_112 : ckE 6000 gT s_112 (fun _ => 0) sp0 c_112 h_112 = true := by decide +kernel
theorem k_112 (hB : BytesOK) (g : bG) (l : Launch) : Keeps g l gT c_112 := keeps_of hB.1 hB.2 (List.forall_mem_cons.mpr ⟨k_111 hB g l, nilK⟩) e_112 nilK
/-- Trade.addLeave ((('c', 17), ('u', 0), ('u', 0), ('u', 0), ('u', 0), ('u', 0)), ()) -/
def c_113 : aCt := (109, 1, some [(17, 4, 6), (21, 0, 8), (22, 0, 8), (23, 0, 8), (24, 0, 8)], false, ([((-2147483648), 2147483647), ((-2147483648), 2147483647), ((-2147483648), 2147483647), ((-2147483648), 2147483647), (0, 1)], [], [], 212), [(2, (17, [])), (0, (0, [(0, 1)])), (0, (0, [(1, 1)])), (0, (0, [(2, 1)])), (0, (0, [(3, 1)])), (0, (0, [(4, 1)]))], [(([((-2147483648), 2147483647), ((-2147483648), 2147483647), ((-2147483648), 2147483647), ((-2147483648), 2147483647), (0, 1), ((-2), 7)], [], [], 212), some (0, (0, [(5, 1)])))])
def s_113 : List aCt := [c_17]
def h_113 : List (Nat × aS × Fm) := []
theorem e_113 : ckE 6000 gT s_113 (fun _ => 0) sp0 c_113 h_113 = true := by decide +kernel
theorem k_113 (hB : BytesOK) (g : bG) (l : Launch) : Keeps g l gT c_113 := keeps_of hB.1 hB.2 (List.forall_mem_cons.mpr ⟨k_17 hB g l, nilK⟩) e_113 nilK
/-- B.leave ((('c', 0), ('u', 0), ('u', 0), ('u', 0), ('u', 0), ('u', 0)), ()) -/
def c_114 : aCt := (140, 2, some [(17, 4, 6), (21, 0, 8), (22, 0, 8), (23, 0, 8), (24, 0, 8)], false, ([((-2147483648), 2147483647), ((-2147483648), 2147483647), ((-2147483648), 2147483647), ((-2147483648), 2147483647), (0, 1)], [], [], 212), [(2, (0, [])), (0, (0, [(0, 1)])), (0, (0, [(1, 1)])), (0, (0, [(2, 1)])), (0, (0, [(3, 1)])), (0, (0, [(4, 1)]))], [(([((-2147483648), 2147483647), ((-2147483648), 2147483647), ((-2147483648), 2147483647), ((-2147483648), 2147483647), (0, 1), ((-2), 7)], [], [], 212), some (0, (0, [(5, 1)])))])
def s_114 : List aCt := [c_113]
def h_114 : List (Nat × aS × Fm) := []
theorem e_114 : ckE 6000 gT s_114 (fun _ => 0) sp0 c_114 h_114 = true := by decide +kernel
theorem k_114 (hB : BytesOK) (g : bG) (l : Launch) : Keeps g l gT c_114 := keeps_of hB.1 hB.2 (List.forall_mem_cons.mpr ⟨k_113 hB g l, nilK⟩) e_114 nilK
/-- Trade.isFavoured ((('c', 17), ('u', 0)), ()) -/
def c_115 : aCt := (110, 0, some [], false, ([(0, 7)], [], [], 212), [(2, (17, [])), (0, (0, [(0, 1)]))], [(([(0, 7), (0, 1)], [], [], 212), some (0, (0, [(1, 1)])))])
def s_115 : List aCt := []
def h_115 : List (Nat × aS × Fm) := []
theorem e_115 : ckE 6000 gT s_115 (fun _ => 0) sp0 c_115 h_115 = true := by decide +kernel
theorem k_115 (hB : BytesOK) (g : bG) (l : Launch) : Keeps g l gT c_115 := keeps_of hB.1 hB.2 (nilK) e_115 nilK
/-- Trade.isLeaveFor ((('c', 17), ('u', 0), ('u', 0)), ()) -/
def c_116 : aCt := (111, 0, some [], false, ([(0, 7), (0, 239)], [], [], 212), [(2, (17, [])), (0, (0, [(0, 1)])), (0, (0, [(1, 1)]))], [(([(0, 7), (0, 239), (0, 1)], [], [], 212), some (0, (0, [(2, 1)])))])
def s_116 : List aCt := []
def h_116 : List (Nat × aS × Fm) := []
theorem e_116 : ckE 6000 gT s_116 (fun _ => 0) sp0 c_116 h_116 = true := by decide +kernel
theorem k_116 (hB : BytesOK) (g : bG) (l : Launch) : Keeps g l gT c_116 := keeps_of hB.1 hB.2 (nilK) e_116 nilK
/-- Trade.latestLeave ((('c', 17), ('u', 0), ('u', 0)), ()) -/
def c_117 : aCt := (112, 1, some [], false, ([(0, 5), (0, 239)], [], [], 212), [(2, (17, [])), (0, (0, [(0, 1)])), (0, (0, [(1, 1)]))], [(([(0, 5), (0, 239), ((-1), 7)], [], [], 212), some (0, (0, [(2, 1)])))])
def s_117 : List aCt := [c_116]
def h_117_0 : Nat × aS × Fm := (7, ([(0, (2, (17, []))), (1, (0, (0, [(0, 1)]))), (2, (0, (0, [(1, 1)]))), (3, (0, (0, [(2, 1)])))], [], ([(0, 5), (0, 239), ((-1), 7)], [], [], 212)), (3, [(2, 2)]))
def h_117 : List (Nat × aS × Fm) := [h_117_0]
theorem e_117 : ckE 6000 gT s_117 (fun _ => 0) sp0 c_117 h_117 = true := by decide +kernel
theorem g_117_0 : ([h_117_0].all fun H => ckH 6000 gT s_117 (fun _ => 0) sp0 c_117 h_117 H) = true := by decide +kernel
theorem k_117 (hB : BytesOK) (g : bG) (l : Launch) : Keeps g l gT c_117 := keeps_of hB.1 hB.2 (List.forall_mem_cons.mpr ⟨k_116 hB g l, nilK⟩) e_117 (List.all_eq_true.mp g_117_0)
/-- Trade.leastPart ((('c', 17), ('u', 0)), ()) -/
def c_118 : aCt := (114, 1, some [], false, ([(0, 239)], [], [], 212), [(2, (17, [])), (0, (0, [(0, 1)]))], [(([(0, 239), ((-2147483648), 100)], [], [], 212), some (0, (0, [(1, 1)])))])
def s_118 : List aCt := [c_115, c_116]
def h_118_0 : Nat × aS × Fm := (5, ([(0, (2, (17, []))), (1, (0, (0, [(0, 1)]))), (2, (0, (0, [(2, 1)]))), (3, (0, (0, [(1, 1)])))], [], ([(0, 239), (0, 8), ((-2147483648), 100)], [], [], 212)), (17, [(1, (-2))]))
def h_118 : List (Nat × aS × Fm) := [h_118_0]
theorem e_118 : ckE 6000 gT s_118 (fun _ => 0) sp0 c_118 h_118 = true := by decide +kernel
theorem g_118_0 : ([h_118_0].all fun H => ckH 6000 gT s_118 (fun _ => 0) sp0 c_118 h_118 H) = true := by decide +kernel
theorem k_118 (hB : BytesOK) (g : bG) (l : Launch) : Keeps g l gT c_118 := keeps_of hB.1 hB.2 (List.forall_mem_cons.mpr ⟨k_115 hB g l, List.forall_mem_cons.mpr ⟨k_116 hB g l, nilK⟩⟩) e_118 (List.all_eq_true.mp g_118_0)
/-- Trade.partOf ((('c', 17), ('u', 0), ('u', 0)), ()) -/
def c_119 : aCt := (113, 2, some [], false, ([(0, 5), (0, 239)], [], [], 212), [(2, (17, [])), (0, (0, [(0, 1)])), (0, (0, [(1, 1)]))], [(([(0, 5), (0, 239), ((-2147483648), 2147483647)], [], [], 212), some (0, (0, [(2, 1)])))])
def s_119 : List aCt := [c_115, c_117, c_118]
def h_119 : List (Nat × aS × Fm) := []
theorem e_119 : ckE 6000 gT s_119 (fun _ => 0) sp0 c_119 h_119 = true := by decide +kernel
theorem k_119 (hB : BytesOK) (g : bG) (l : Launch) : Keeps g l gT c_119 := keeps_of hB.1 hB.2 (List.forall_mem_cons.mpr ⟨k_115 hB g l, List.forall_mem_cons.mpr ⟨k_117 hB g l, List.forall_mem_cons.mpr ⟨k_118 hB g l, nilK⟩⟩⟩) e_119 nilK
/-- B.part ((('c', 0), ('u', 0), ('u', 0)), ()) -/
def c_120 : aCt := (141, 3, some [], false, ([((-2147483648), 2147483647), ((-2147483648), 2147483647)], [], [], 212), [(2, (0, [])), (0, (0, [(0, 1)])), (0, (0, [(1, 1)]))], [(([((-2147483648), 2147483647), ((-2147483648), 2147483647), ((-2147483648), 2147483647)], [], [], 212), some (0, (0, [(2, 1)])))])
def s_120 : List aCt := [c_119]
def h_120 : List (Nat × aS × Fm) := []
theorem e_120 : ckE 6000 gT s_120 (fun _ => 0) sp0 c_120 h_120 = true := by decide +kernel
theorem k_120 (hB : BytesOK) (g : bG) (l : Launch) : Keeps g l gT c_120 := keeps_of hB.1 hB.2 (List.forall_mem_cons.mpr ⟨k_119 hB g l, nilK⟩) e_120 nilK
/-- Terms.rateOf ((('c', 35), ('u', 0)), ()) -/
def c_121 : aCt := (102, 0, some [], false, ([((-2147483648), 2147483647)], [], [], 212), [(2, (35, [])), (0, (0, [(0, 1)]))], [(([((-2147483648), 2147483647)], [], [], 212), some (1, (0, [])))])
def s_121 : List aCt := []
def h_121_0 : Nat × aS × Fm := (8, ([(0, (2, (35, []))), (1, (0, (0, [(0, 1)]))), (2, (1, (0, []))), (4, (0, (0, [(1, 1)]))), (5, (0, (0, [(2, 1)])))], [], ([((-2147483648), 2147483647), ((-2147483648), 2147483647), (0, 1)], [], [], 212)), (3, [(2, (-2))]))
def h_121 : List (Nat × aS × Fm) := [h_121_0]
theorem e_121 : ckE 6000 gT s_121 (fun _ => 0) sp0 c_121 h_121 = true := by decide +kernel
theorem g_121_0 : ([h_121_0].all fun H => ckH 6000 gT s_121 (fun _ => 0) sp0 c_121 h_121 H) = true := by decide +kernel
theorem k_121 (hB : BytesOK) (g : bG) (l : Launch) : Keeps g l gT c_121 := keeps_of hB.1 hB.2 (nilK) e_121 (List.all_eq_true.mp g_121_0)
/-- Terms.rateOf ((('c', 43), ('u', 0)), ()) -/
def c_122 : aCt := (102, 1, some [], false, ([((-2147483648), 2147483647)], [], [], 212), [(2, (43, [])), (0, (0, [(0, 1)]))], [(([((-2147483648), 2147483647), ((-9223372036854775808), 9223372036854775807)], [], [], 212), some (1, (0, [(1, 1)])))])
def s_122 : List aCt := []
def h_122_0 : Nat × aS × Fm := (8, ([(0, (2, (43, []))), (1, (0, (0, [(0, 1)]))), (2, (1, (0, [(3, 1)]))), (4, (0, (0, [(1, 1)]))), (5, (0, (0, [(2, 1)])))], [], ([((-2147483648), 2147483647), ((-2147483648), 2147483647), (0, 4), ((-9223372036854775808), 9223372036854775807)], [], [], 212)), (9, [(2, (-2))]))
def h_122 : List (Nat × aS × Fm) := [h_122_0]
theorem e_122 : ckE 6000 gT s_122 (fun _ => 0) sp0 c_122 h_122 = true := by decide +kernel
theorem g_122_0 : ([h_122_0].all fun H => ckH 6000 gT s_122 (fun _ => 0) sp0 c_122 h_122 H) = true := by decide +kernel
theorem k_122 (hB : BytesOK) (g : bG) (l : Launch) : Keeps g l gT c_122 := keeps_of hB.1 hB.2 (nilK) e_122 (List.all_eq_true.mp g_122_0)
