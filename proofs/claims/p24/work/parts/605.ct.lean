/-- Terms.fact ((('c', 50), ('u', 0)), ()) -/
def c_101 : aCt := (101, 0, some [], false, ([((-2147483648), 2147483647)], [], [], 212), [(2, (50, [])), (0, (0, [(0, 1)]))], [(([((-2147483648), 2147483647), ((-9), 999)], [], [], 212), some (0, (0, [(1, 1)])))])
def s_101 : List aCt := []
def h_101 : List (Nat × aS × Fm) := []
theorem e_101 : ckE 6000 gT s_101 (fun _ => 0) sp0 c_101 h_101 = true := by decide +kernel
theorem k_101 (hB : BytesOK) (g : bG) (l : Launch) : Keeps g l gT c_101 := keeps_of hB.1 hB.2 (nilK) e_101 nilK
/-- Terms.fact ((('c', 57), ('u', 0)), ()) -/
def c_102 : aCt := (101, 0, some [], false, ([((-2147483648), 2147483647)], [], [], 212), [(2, (57, [])), (0, (0, [(0, 1)]))], [(([((-2147483648), 2147483647), ((-9), 999)], [], [], 212), some (0, (0, [(1, 1)])))])
def s_102 : List aCt := []
def h_102 : List (Nat × aS × Fm) := []
theorem e_102 : ckE 6000 gT s_102 (fun _ => 0) sp0 c_102 h_102 = true := by decide +kernel
theorem k_102 (hB : BytesOK) (g : bG) (l : Launch) : Keeps g l gT c_102 := keeps_of hB.1 hB.2 (nilK) e_102 nilK
/-- Terms.fact ((('c', 64), ('u', 0)), ()) -/
def c_103 : aCt := (101, 0, some [], false, ([((-2147483648), 2147483647)], [], [], 212), [(2, (64, [])), (0, (0, [(0, 1)]))], [(([((-2147483648), 2147483647), ((-9), 999)], [], [], 212), some (0, (0, [(1, 1)])))])
def s_103 : List aCt := []
def h_103 : List (Nat × aS × Fm) := []
theorem e_103 : ckE 6000 gT s_103 (fun _ => 0) sp0 c_103 h_103 = true := by decide +kernel
theorem k_103 (hB : BytesOK) (g : bG) (l : Launch) : Keeps g l gT c_103 := keeps_of hB.1 hB.2 (nilK) e_103 nilK
/-- Terms.fact ((('c', 71), ('u', 0)), ()) -/
def c_104 : aCt := (101, 0, some [], false, ([((-2147483648), 2147483647)], [], [], 212), [(2, (71, [])), (0, (0, [(0, 1)]))], [(([((-2147483648), 2147483647), ((-9), 999)], [], [], 212), some (0, (0, [(1, 1)])))])
def s_104 : List aCt := []
def h_104 : List (Nat × aS × Fm) := []
theorem e_104 : ckE 6000 gT s_104 (fun _ => 0) sp0 c_104 h_104 = true := by decide +kernel
theorem k_104 (hB : BytesOK) (g : bG) (l : Launch) : Keeps g l gT c_104 := keeps_of hB.1 hB.2 (nilK) e_104 nilK
/-- Terms.fact ((('c', 78), ('u', 0)), ()) -/
def c_105 : aCt := (101, 0, some [], false, ([((-2147483648), 2147483647)], [], [], 212), [(2, (78, [])), (0, (0, [(0, 1)]))], [(([((-2147483648), 2147483647), ((-9), 999)], [], [], 212), some (0, (0, [(1, 1)])))])
def s_105 : List aCt := []
def h_105 : List (Nat × aS × Fm) := []
theorem e_105 : ckE 6000 gT s_105 (fun _ => 0) sp0 c_105 h_105 = true := by decide +kernel
theorem k_105 (hB : BytesOK) (g : bG) (l : Launch) : Keeps g l gT c_105 := keeps_of hB.1 hB.2 (nilK) e_105 nilK
/-- B.version ((('c', 0), ('u', 0), ('u', 0)), ()) -/
def c_106 : aCt := (137, 1, some [], false, ([((-2147483648), 2147483647), ((-2147483648), 2147483647)], [], [], 212), [(2, (0, [])), (0, (0, [(0, 1)])), (0, (0, [(1, 1)]))], [(([((-2147483648), 2147483647), ((-2147483648), 2147483647), ((-9), 999)], [], [], 212), some (0, (0, [(2, 1)])))])
def sp_106 : aSp := fun k pc S => if pc = 17 ∧ k = 25 then spS 0 [0, 1, 2, 3, 4] S else none
def s_106 : List aCt := [c_100, c_101, c_102, c_103, c_104, c_105]
def h_106 : List (Nat × aS × Fm) := []
theorem e_106 : ckE 6000 gT s_106 (fun _ => 0) sp_106 c_106 h_106 = true := by decide +kernel
theorem k_106 (hB : BytesOK) (g : bG) (l : Launch) : Keeps g l gT c_106 := keeps_of hB.1 hB.2 (List.forall_mem_cons.mpr ⟨k_100 hB g l, List.forall_mem_cons.mpr ⟨k_101 hB g l, List.forall_mem_cons.mpr ⟨k_102 hB g l, List.forall_mem_cons.mpr ⟨k_103 hB g l, List.forall_mem_cons.mpr ⟨k_104 hB g l, List.forall_mem_cons.mpr ⟨k_105 hB g l, nilK⟩⟩⟩⟩⟩⟩) e_106 nilK
/-- Trade.addBoxes ((('c', 17), ('u', 0), ('u', 0), ('u', 0)), ()) -/
def c_107 : aCt := (107, 0, some [(17, 0, 1), (18, 0, 24), (19, 0, 24), (20, 0, 24)], false, ([(0, 2147483060), ((-2147483648), 2147483647), (0, 239)], [], [], 212), [(2, (17, [])), (0, (0, [(0, 1)])), (0, (0, [(1, 1)])), (0, (0, [(2, 1)]))], [(([(0, 2147483060), ((-2147483648), 2147483647), (0, 239), ((-2), 23)], [], [], 212), some (0, (0, [(3, 1)])))])
def s_107 : List aCt := []
def h_107 : List (Nat × aS × Fm) := []
theorem e_107 : ckE 6000 gT s_107 (fun _ => 0) sp0 c_107 h_107 = true := by decide +kernel
theorem k_107 (hB : BytesOK) (g : bG) (l : Launch) : Keeps g l gT c_107 := keeps_of hB.1 hB.2 (nilK) e_107 nilK
/-- B.boxes ((('c', 0), ('u', 0), ('u', 0)), ()) -/
def c_108 : aCt := (138, 1, some [(17, 0, 1), (18, 0, 24), (19, 0, 24), (20, 0, 24)], false, ([((-2147483648), 2147483647), ((-2147483648), 2147483647)], [], [], 212), [(2, (0, [])), (0, (0, [(0, 1)])), (0, (0, [(1, 1)]))], [(([((-2147483648), 2147483647), ((-2147483648), 2147483647), ((-2), 23)], [], [], 212), some (0, (0, [(2, 1)])))])
def s_108 : List aCt := [c_107]
def h_108 : List (Nat × aS × Fm) := []
theorem e_108 : ckE 6000 gT s_108 (fun _ => 0) sp0 c_108 h_108 = true := by decide +kernel
theorem k_108 (hB : BytesOK) (g : bG) (l : Launch) : Keeps g l gT c_108 := keeps_of hB.1 hB.2 (List.forall_mem_cons.mpr ⟨k_107 hB g l, nilK⟩) e_108 nilK
/-- Trade.countAt ((('c', 17), ('u', 0), ('u', 0)), ()) -/
def c_109 : aCt := (108, 0, some [], false, ([(0, 2147483239), (0, 239)], [], [], 212), [(2, (17, [])), (0, (0, [(0, 1)])), (0, (0, [(1, 1)]))], [(([(0, 2147483239), (0, 239), ((-2147483648), 2147483647)], [], [], 212), some (0, (0, [(2, 1)])))])
def s_109 : List aCt := []
def h_109_0 : Nat × aS × Fm := (5, ([(0, (2, (17, []))), (1, (0, (0, [(0, 1)]))), (2, (0, (0, [(1, 1)]))), (3, (0, (0, [(3, 1)]))), (4, (0, (0, [(2, 1)])))], [], ([(0, 2147483239), (0, 239), (0, 24), ((-2147483648), 2147483647)], [], [], 212)), (49, [(2, (-2))]))
def h_109 : List (Nat × aS × Fm) := [h_109_0]
theorem e_109 : ckE 6000 gT s_109 (fun _ => 0) sp0 c_109 h_109 = true := by decide +kernel
theorem g_109_0 : ([h_109_0].all fun H => ckH 6000 gT s_109 (fun _ => 0) sp0 c_109 h_109 H) = true := by decide +kernel
theorem k_109 (hB : BytesOK) (g : bG) (l : Launch) : Keeps g l gT c_109 := keeps_of hB.1 hB.2 (nilK) e_109 (List.all_eq_true.mp g_109_0)
/-- B.count ((('c', 0), ('u', 0), ('u', 0)), ()) -/
def c_110 : aCt := (139, 1, some [], false, ([((-2147483648), 2147483647), ((-2147483648), 2147483647)], [], [], 212), [(2, (0, [])), (0, (0, [(0, 1)])), (0, (0, [(1, 1)]))], [(([((-2147483648), 2147483647), ((-2147483648), 2147483647), ((-2147483648), 2147483647)], [], [], 212), some (0, (0, [(2, 1)])))])
def s_110 : List aCt := [c_109]
def h_110 : List (Nat × aS × Fm) := []
theorem e_110 : ckE 6000 gT s_110 (fun _ => 0) sp0 c_110 h_110 = true := by decide +kernel
theorem k_110 (hB : BytesOK) (g : bG) (l : Launch) : Keeps g l gT c_110 := keeps_of hB.1 hB.2 (List.forall_mem_cons.mpr ⟨k_109 hB g l, nilK⟩) e_110 nilK
/-- Trade.addLeave ((('c', 17), ('u', 0), ('u', 0), ('u', 0), ('u', 0), ('u', 0)), ()) -/
def c_111 : aCt := (109, 1, some [(17, 4, 6), (21, 0, 8), (22, 0, 8), (23, 0, 8), (24, 0, 8)], false, ([((-2147483648), 2147483647), ((-2147483648), 2147483647), ((-2147483648), 2147483647), ((-2147483648), 2147483647), (0, 1)], [], [], 212), [(2, (17, [])), (0, (0, [(0, 1)])), (0, (0, [(1, 1)])), (0, (0, [(2, 1)])), (0, (0, [(3, 1)])), (0, (0, [(4, 1)]))], [(([((-2147483648), 2147483647), ((-2147483648), 2147483647), ((-2147483648), 2147483647), ((-2147483648), 2147483647), (0, 1), ((-2), 7)], [], [], 212), some (0, (0, [(5, 1)])))])
def s_111 : List aCt := [c_15]
def h_111 : List (Nat × aS × Fm) := []
theorem e_111 : ckE 6000 gT s_111 (fun _ => 0) sp0 c_111 h_111 = true := by decide +kernel
theorem k_111 (hB : BytesOK) (g : bG) (l : Launch) : Keeps g l gT c_111 := keeps_of hB.1 hB.2 (List.forall_mem_cons.mpr ⟨k_15 hB g l, nilK⟩) e_111 nilK
/-- B.leave ((('c', 0), ('u', 0), ('u', 0), ('u', 0), ('u', 0), ('u', 0)), ()) -/
def c_112 : aCt := (140, 2, some [(17, 4, 6), (21, 0, 8), (22, 0, 8), (23, 0, 8), (24, 0, 8)], false, ([((-2147483648), 2147483647), ((-2147483648), 2147483647), ((-2147483648), 2147483647), ((-2147483648), 2147483647), (0, 1)], [], [], 212), [(2, (0, [])), (0, (0, [(0, 1)])), (0, (0, [(1, 1)])), (0, (0, [(2, 1)])), (0, (0, [(3, 1)])), (0, (0, [(4, 1)]))], [(([((-2147483648), 2147483647), ((-2147483648), 2147483647), ((-2147483648), 2147483647), ((-2147483648), 2147483647), (0, 1), ((-2), 7)], [], [], 212), some (0, (0, [(5, 1)])))])
def s_112 : List aCt := [c_111]
def h_112 : List (Nat × aS × Fm) := []
theorem e_112 : ckE 6000 gT s_112 (fun _ => 0) sp0 c_112 h_112 = true := by decide +kernel
theorem k_112 (hB : BytesOK) (g : bG) (l : Launch) : Keeps g l gT c_112 := keeps_of hB.1 hB.2 (List.forall_mem_cons.mpr ⟨k_111 hB g l, nilK⟩) e_112 nilK
/-- Trade.isFavoured ((('c', 17), ('u', 0)), ()) -/
def c_113 : aCt := (110, 0, some [], false, ([(0, 7)], [], [], 212), [(2, (17, [])), (0, (0, [(0, 1)]))], [(([(0, 7), (0, 1)], [], [], 212), some (0, (0, [(1, 1)])))])
def s_113 : List aCt := []
def h_113 : List (Nat × aS × Fm) := []
theorem e_113 : ckE 6000 gT s_113 (fun _ => 0) sp0 c_113 h_113 = true := by decide +kernel
theorem k_113 (hB : BytesOK) (g : bG) (l : Launch) : Keeps g l gT c_113 := keeps_of hB.1 hB.2 (nilK) e_113 nilK
/-- Trade.isLeaveFor ((('c', 17), ('u', 0), ('u', 0)), ()) -/
def c_114 : aCt := (111, 0, some [], false, ([(0, 7), (0, 239)], [], [], 212), [(2, (17, [])), (0, (0, [(0, 1)])), (0, (0, [(1, 1)]))], [(([(0, 7), (0, 239), (0, 1)], [], [], 212), some (0, (0, [(2, 1)])))])
def s_114 : List aCt := []
def h_114 : List (Nat × aS × Fm) := []
theorem e_114 : ckE 6000 gT s_114 (fun _ => 0) sp0 c_114 h_114 = true := by decide +kernel
theorem k_114 (hB : BytesOK) (g : bG) (l : Launch) : Keeps g l gT c_114 := keeps_of hB.1 hB.2 (nilK) e_114 nilK
/-- Trade.latestLeave ((('c', 17), ('u', 0), ('u', 0)), ()) -/
def c_115 : aCt := (112, 1, some [], false, ([(0, 5), (0, 239)], [], [], 212), [(2, (17, [])), (0, (0, [(0, 1)])), (0, (0, [(1, 1)]))], [(([(0, 5), (0, 239), ((-1), 7)], [], [], 212), some (0, (0, [(2, 1)])))])
def s_115 : List aCt := [c_114]
def h_115_0 : Nat × aS × Fm := (7, ([(0, (2, (17, []))), (1, (0, (0, [(0, 1)]))), (2, (0, (0, [(1, 1)]))), (3, (0, (0, [(2, 1)])))], [], ([(0, 5), (0, 239), ((-1), 7)], [], [], 212)), (3, [(2, 2)]))
def h_115 : List (Nat × aS × Fm) := [h_115_0]
theorem e_115 : ckE 6000 gT s_115 (fun _ => 0) sp0 c_115 h_115 = true := by decide +kernel
theorem g_115_0 : ([h_115_0].all fun H => ckH 6000 gT s_115 (fun _ => 0) sp0 c_115 h_115 H) = true := by decide +kernel
theorem k_115 (hB : BytesOK) (g : bG) (l : Launch) : Keeps g l gT c_115 := keeps_of hB.1 hB.2 (List.forall_mem_cons.mpr ⟨k_114 hB g l, nilK⟩) e_115 (List.all_eq_true.mp g_115_0)
/-- Trade.leastPart ((('c', 17), ('u', 0)), ()) -/
def c_116 : aCt := (114, 1, some [], false, ([(0, 239)], [], [], 212), [(2, (17, [])), (0, (0, [(0, 1)]))], [(([(0, 239), ((-2147483648), 100)], [], [], 212), some (0, (0, [(1, 1)])))])
def s_116 : List aCt := [c_113, c_114]
def h_116_0 : Nat × aS × Fm := (5, ([(0, (2, (17, []))), (1, (0, (0, [(0, 1)]))), (2, (0, (0, [(2, 1)]))), (3, (0, (0, [(1, 1)])))], [], ([(0, 239), (0, 8), ((-2147483648), 100)], [], [], 212)), (17, [(1, (-2))]))
def h_116 : List (Nat × aS × Fm) := [h_116_0]
theorem e_116 : ckE 6000 gT s_116 (fun _ => 0) sp0 c_116 h_116 = true := by decide +kernel
theorem g_116_0 : ([h_116_0].all fun H => ckH 6000 gT s_116 (fun _ => 0) sp0 c_116 h_116 H) = true := by decide +kernel
theorem k_116 (hB : BytesOK) (g : bG) (l : Launch) : Keeps g l gT c_116 := keeps_of hB.1 hB.2 (List.forall_mem_cons.mpr ⟨k_113 hB g l, List.forall_mem_cons.mpr ⟨k_114 hB g l, nilK⟩⟩) e_116 (List.all_eq_true.mp g_116_0)
/-- Trade.partOf ((('c', 17), ('u', 0), ('u', 0)), ()) -/
def c_117 : aCt := (113, 2, some [], false, ([(0, 5), (0, 239)], [], [], 212), [(2, (17, [])), (0, (0, [(0, 1)])), (0, (0, [(1, 1)]))], [(([(0, 5), (0, 239), ((-2147483648), 2147483647)], [], [], 212), some (0, (0, [(2, 1)])))])
def s_117 : List aCt := [c_113, c_115, c_116]
def h_117 : List (Nat × aS × Fm) := []
theorem e_117 : ckE 6000 gT s_117 (fun _ => 0) sp0 c_117 h_117 = true := by decide +kernel
theorem k_117 (hB : BytesOK) (g : bG) (l : Launch) : Keeps g l gT c_117 := keeps_of hB.1 hB.2 (List.forall_mem_cons.mpr ⟨k_113 hB g l, List.forall_mem_cons.mpr ⟨k_115 hB g l, List.forall_mem_cons.mpr ⟨k_116 hB g l, nilK⟩⟩⟩) e_117 nilK
/-- B.part ((('c', 0), ('u', 0), ('u', 0)), ()) -/
def c_118 : aCt := (141, 3, some [], false, ([((-2147483648), 2147483647), ((-2147483648), 2147483647)], [], [], 212), [(2, (0, [])), (0, (0, [(0, 1)])), (0, (0, [(1, 1)]))], [(([((-2147483648), 2147483647), ((-2147483648), 2147483647), ((-2147483648), 2147483647)], [], [], 212), some (0, (0, [(2, 1)])))])
def s_118 : List aCt := [c_117]
def h_118 : List (Nat × aS × Fm) := []
theorem e_118 : ckE 6000 gT s_118 (fun _ => 0) sp0 c_118 h_118 = true := by decide +kernel
theorem k_118 (hB : BytesOK) (g : bG) (l : Launch) : Keeps g l gT c_118 := keeps_of hB.1 hB.2 (List.forall_mem_cons.mpr ⟨k_117 hB g l, nilK⟩) e_118 nilK
/-- Terms.rateOf ((('c', 35), ('u', 0)), ()) -/
def c_119 : aCt := (102, 0, some [], false, ([((-2147483648), 2147483647)], [], [], 212), [(2, (35, [])), (0, (0, [(0, 1)]))], [(([((-2147483648), 2147483647)], [], [], 212), some (1, (0, [])))])
def s_119 : List aCt := []
def h_119_0 : Nat × aS × Fm := (8, ([(0, (2, (35, []))), (1, (0, (0, [(0, 1)]))), (2, (1, (0, []))), (4, (0, (0, [(1, 1)]))), (5, (0, (0, [(2, 1)])))], [], ([((-2147483648), 2147483647), ((-2147483648), 2147483647), (0, 1)], [], [], 212)), (3, [(2, (-2))]))
def h_119 : List (Nat × aS × Fm) := [h_119_0]
theorem e_119 : ckE 6000 gT s_119 (fun _ => 0) sp0 c_119 h_119 = true := by decide +kernel
theorem g_119_0 : ([h_119_0].all fun H => ckH 6000 gT s_119 (fun _ => 0) sp0 c_119 h_119 H) = true := by decide +kernel
theorem k_119 (hB : BytesOK) (g : bG) (l : Launch) : Keeps g l gT c_119 := keeps_of hB.1 hB.2 (nilK) e_119 (List.all_eq_true.mp g_119_0)
/-- Terms.rateOf ((('c', 43), ('u', 0)), ()) -/
def c_120 : aCt := (102, 1, some [], false, ([((-2147483648), 2147483647)], [], [], 212), [(2, (43, [])), (0, (0, [(0, 1)]))], [(([((-2147483648), 2147483647), ((-9223372036854775808), 9223372036854775807)], [], [], 212), some (1, (0, [(1, 1)])))])
def s_120 : List aCt := []
def h_120_0 : Nat × aS × Fm := (8, ([(0, (2, (43, []))), (1, (0, (0, [(0, 1)]))), (2, (1, (0, [(3, 1)]))), (4, (0, (0, [(1, 1)]))), (5, (0, (0, [(2, 1)])))], [], ([((-2147483648), 2147483647), ((-2147483648), 2147483647), (0, 4), ((-9223372036854775808), 9223372036854775807)], [], [], 212)), (9, [(2, (-2))]))
def h_120 : List (Nat × aS × Fm) := [h_120_0]
theorem e_120 : ckE 6000 gT s_120 (fun _ => 0) sp0 c_120 h_120 = true := by decide +kernel
theorem g_120_0 : ([h_120_0].all fun H => ckH 6000 gT s_120 (fun _ => 0) sp0 c_120 h_120 H) = true := by decide +kernel
theorem k_120 (hB : BytesOK) (g : bG) (l : Launch) : Keeps g l gT c_120 := keeps_of hB.1 hB.2 (nilK) e_120 (List.all_eq_true.mp g_120_0)
/-- Terms.rateOf ((('c', 50), ('u', 0)), ()) -/
def c_121 : aCt := (102, 1, some [], false, ([((-2147483648), 2147483647)], [], [], 212), [(2, (50, [])), (0, (0, [(0, 1)]))], [(([((-2147483648), 2147483647), ((-9223372036854775808), 9223372036854775807)], [], [], 212), some (1, (0, [(1, 1)])))])
def s_121 : List aCt := []
def h_121_0 : Nat × aS × Fm := (8, ([(0, (2, (50, []))), (1, (0, (0, [(0, 1)]))), (2, (1, (0, [(3, 1)]))), (4, (0, (0, [(1, 1)]))), (5, (0, (0, [(2, 1)])))], [], ([((-2147483648), 2147483647), ((-2147483648), 2147483647), (0, 4), ((-9223372036854775808), 9223372036854775807)], [], [], 212)), (9, [(2, (-2))]))
def h_121 : List (Nat × aS × Fm) := [h_121_0]
theorem e_121 : ckE 6000 gT s_121 (fun _ => 0) sp0 c_121 h_121 = true := by decide +kernel
theorem g_121_0 : ([h_121_0].all fun H => ckH 6000 gT s_121 (fun _ => 0) sp0 c_121 h_121 H) = true := by decide +kernel
theorem k_121 (hB : BytesOK) (g : bG) (l : Launch) : Keeps g l gT c_121 := keeps_of hB.1 hB.2 (nilK) e_121 (List.all_eq_true.mp g_121_0)
/-- Terms.rateOf ((('c', 57), ('u', 0)), ()) -/
def c_122 : aCt := (102, 1, some [], false, ([((-2147483648), 2147483647)], [], [], 212), [(2, (57, [])), (0, (0, [(0, 1)]))], [(([((-2147483648), 2147483647), ((-9223372036854775808), 9223372036854775807)], [], [], 212), some (1, (0, [(1, 1)])))])
def s_122 : List aCt := []
def h_122_0 : Nat × aS × Fm := (8, ([(0, (2, (57, []))), (1, (0, (0, [(0, 1)]))), (2, (1, (0, [(3, 1)]))), (4, (0, (0, [(1, 1)]))), (5, (0, (0, [(2, 1)])))], [], ([((-2147483648), 2147483647), ((-2147483648), 2147483647), (0, 4), ((-9223372036854775808), 9223372036854775807)], [], [], 212)), (9, [(2, (-2))]))
def h_122 : List (Nat × aS × Fm) := [h_122_0]
theorem e_122 : ckE 6000 gT s_122 (fun _ => 0) sp0 c_122 h_122 = true := by decide +kernel
theorem g_122_0 : ([h_122_0].all fun H => ckH 6000 gT s_122 (fun _ => 0) sp0 c_122 h_122 H) = true := by decide +kernel
theorem k_122 (hB : BytesOK) (g : bG) (l : Launch) : Keeps g l gT c_122 := keeps_of hB.1 hB.2 (nilK) e_122 (List.all_eq_true.mp g_122_0)
/-- Terms.rateOf ((('c', 64), ('u', 0)), ()) -/
def c_123 : aCt := (102, 1, some [], false, ([((-2147483648), 2147483647)], [], [], 212), [(2, (64, [])), (0, (0, [(0, 1)]))], [(([((-2147483648), 2147483647), ((-9223372036854775808), 9223372036854775807)], [], [], 212), some (1, (0, [(1, 1)])))])
def s_123 : List aCt := []
def h_123_0 : Nat × aS × Fm := (8, ([(0, (2, (64, []))), (1, (0, (0, [(0, 1)]))), (2, (1, (0, [(1, 1)]))), (4, (0, (0, [(2, 1)]))), (5, (0, (0, [(3, 1)])))], [], ([((-2147483648), 2147483647), ((-9223372036854775808), 9223372036854775807), ((-2147483648), 2147483647), (0, 4)], [], [], 212)), (9, [(3, (-2))]))
def h_123 : List (Nat × aS × Fm) := [h_123_0]
theorem e_123 : ckE 6000 gT s_123 (fun _ => 0) sp0 c_123 h_123 = true := by decide +kernel
theorem g_123_0 : ([h_123_0].all fun H => ckH 6000 gT s_123 (fun _ => 0) sp0 c_123 h_123 H) = true := by decide +kernel
theorem k_123 (hB : BytesOK) (g : bG) (l : Launch) : Keeps g l gT c_123 := keeps_of hB.1 hB.2 (nilK) e_123 (List.all_eq_true.mp g_123_0)
/-- Terms.rateOf ((('c', 71), ('u', 0)), ()) -/
def c_124 : aCt := (102, 1, some [], false, ([((-2147483648), 2147483647)], [], [], 212), [(2, (71, [])), (0, (0, [(0, 1)]))], [(([((-2147483648), 2147483647), ((-9223372036854775808), 9223372036854775807)], [], [], 212), some (1, (0, [(1, 1)])))])
def s_124 : List aCt := []
def h_124_0 : Nat × aS × Fm := (8, ([(0, (2, (71, []))), (1, (0, (0, [(0, 1)]))), (2, (1, (0, [(3, 1)]))), (4, (0, (0, [(1, 1)]))), (5, (0, (0, [(2, 1)])))], [], ([((-2147483648), 2147483647), ((-2147483648), 2147483647), (0, 4), ((-9223372036854775808), 9223372036854775807)], [], [], 212)), (9, [(2, (-2))]))
def h_124 : List (Nat × aS × Fm) := [h_124_0]
theorem e_124 : ckE 6000 gT s_124 (fun _ => 0) sp0 c_124 h_124 = true := by decide +kernel
theorem g_124_0 : ([h_124_0].all fun H => ckH 6000 gT s_124 (fun _ => 0) sp0 c_124 h_124 H) = true := by decide +kernel
theorem k_124 (hB : BytesOK) (g : bG) (l : Launch) : Keeps g l gT c_124 := keeps_of hB.1 hB.2 (nilK) e_124 (List.all_eq_true.mp g_124_0)
