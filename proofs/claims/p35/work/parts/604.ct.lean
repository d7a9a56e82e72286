/-- Terms.addLine ((('c', 171), ('u', 0), ('u', 0)), ()) -/
def c_83 : aCt := (99, 0, some [(171, 1, 2), (172, 0, 9), (173, 0, 9)], false, ([(0, 5), ((-9), 999)], [], [], 212), [(2, (171, [])), (0, (0, [(0, 1)])), (0, (0, [(1, 1)]))], [(([(0, 5), ((-9), 999)], [], [], 212), none)])
def s_83 : List aCt := []
def h_83 : List (Nat × aS × Fm) := []
theorem e_83 : ckE 6000 gT s_83 (fun _ => 0) sp0 c_83 h_83 = true := by decide +kernel
theorem k_83 (hB : BytesOK) (g : bG) (l : Launch) : Keeps g l gT c_83 := keeps_of hB.1 hB.2 (nilK) e_83 nilK
/-- Tape.takeLine ((('c', 169),), ()) -/
def c_84 : aCt := (90, 16, some [(169, 3, 8), (171, 1, 2), (171, 4, 6), (171, 8, 9), (171, 10, 12), (172, 0, 9), (173, 0, 9), (174, 0, 4), (175, 0, 3), (176, 0, 4), (177, 0, 220)], false, ([], [], [], 212), [(2, (169, []))], [(([], [], [], 212), none)])
def s_84 : List aCt := [c_37, c_38, c_40, c_42, c_43, c_50, c_56, c_60, c_64, c_82, c_83, c_39]
def h_84 : List (Nat × aS × Fm) := []
theorem e_84 : ckE 6000 gT s_84 (fun _ => 0) sp0 c_84 h_84 = true := by decide +kernel
theorem k_84 (hB : BytesOK) (g : bG) (l : Launch) : Keeps g l gT c_84 := keeps_of hB.1 hB.2 (List.forall_mem_cons.mpr ⟨k_37 hB g l, List.forall_mem_cons.mpr ⟨k_38 hB g l, List.forall_mem_cons.mpr ⟨k_40 hB g l, List.forall_mem_cons.mpr ⟨k_42 hB g l, List.forall_mem_cons.mpr ⟨k_43 hB g l, List.forall_mem_cons.mpr ⟨k_50 hB g l, List.forall_mem_cons.mpr ⟨k_56 hB g l, List.forall_mem_cons.mpr ⟨k_60 hB g l, List.forall_mem_cons.mpr ⟨k_64 hB g l, List.forall_mem_cons.mpr ⟨k_82 hB g l, List.forall_mem_cons.mpr ⟨k_83 hB g l, List.forall_mem_cons.mpr ⟨k_39 hB g l, nilK⟩⟩⟩⟩⟩⟩⟩⟩⟩⟩⟩⟩) e_84 nilK
/-- Terms.clear ((('c', 171),), ()) -/
def c_85 : aCt := (98, 0, some [(171, 0, 2), (171, 4, 6), (171, 8, 9), (171, 10, 12), (174, 0, 4), (176, 0, 4)], false, ([], [], [], 212), [(2, (171, []))], [(([], [], [], 212), none)])
def s_85 : List aCt := []
def h_85_0 : Nat × aS × Fm := (34, ([(0, (2, (171, []))), (1, (0, (0, [(0, 1)])))], [], ([(0, 4)], [], [], 212)), (9, [(0, (-2))]))
def h_85 : List (Nat × aS × Fm) := [h_85_0]
theorem e_85 : ckE 6000 gT s_85 (fun _ => 0) sp0 c_85 h_85 = true := by decide +kernel
theorem g_85_0 : ([h_85_0].all fun H => ckH 6000 gT s_85 (fun _ => 0) sp0 c_85 h_85 H) = true := by decide +kernel
theorem k_85 (hB : BytesOK) (g : bG) (l : Launch) : Keeps g l gT c_85 := keeps_of hB.1 hB.2 (nilK) e_85 (List.all_eq_true.mp g_85_0)
/-- Tape.parse ((('c', 169),), ()) -/
def c_86 : aCt := (82, 17, some [(169, 3, 8), (171, 0, 2), (171, 4, 6), (171, 8, 9), (171, 10, 12), (172, 0, 9), (173, 0, 9), (174, 0, 4), (175, 0, 3), (176, 0, 4), (177, 0, 220)], false, ([], [], [], 212), [(2, (169, []))], [(([((-1), 220)], [], [], 212), some (0, (0, [(0, 1)])))])
def s_86 : List aCt := [c_37, c_38, c_84, c_85]
def h_86_0 : Nat × aS × Fm := (23, ([(0, (2, (169, []))), (1, (0, (0, [(0, 1)])))], [], ([(0, 10)], [], [], 212)), (21, [(0, (-2))]))
def h_86 : List (Nat × aS × Fm) := [h_86_0]
theorem e_86 : ckE 6000 gT s_86 (fun _ => 0) sp0 c_86 h_86 = true := by decide +kernel
theorem g_86_0 : ([h_86_0].all fun H => ckH 6000 gT s_86 (fun _ => 0) sp0 c_86 h_86 H) = true := by decide +kernel
theorem k_86 (hB : BytesOK) (g : bG) (l : Launch) : Keeps g l gT c_86 := keeps_of hB.1 hB.2 (List.forall_mem_cons.mpr ⟨k_37 hB g l, List.forall_mem_cons.mpr ⟨k_38 hB g l, List.forall_mem_cons.mpr ⟨k_84 hB g l, List.forall_mem_cons.mpr ⟨k_85 hB g l, nilK⟩⟩⟩⟩) e_86 (List.all_eq_true.mp g_86_0)
/-- B.read ((('c', 0),), ()) -/
def c_87 : aCt := (136, 18, some [(1, 4, 5), (43, 0, 2), (43, 4, 6), (43, 8, 9), (43, 10, 12), (44, 0, 9), (45, 0, 9), (46, 0, 4), (47, 0, 3), (48, 0, 4), (49, 0, 220), (50, 0, 2), (50, 4, 6), (50, 8, 9), (50, 10, 12), (51, 0, 9), (52, 0, 9), (53, 0, 4), (54, 0, 3), (55, 0, 4), (56, 0, 220), (57, 0, 2), (57, 4, 6), (57, 8, 9), (57, 10, 12), (58, 0, 9), (59, 0, 9), (60, 0, 4), (61, 0, 3), (62, 0, 4), (63, 0, 220), (64, 0, 2), (64, 4, 6), (64, 8, 9), (64, 10, 12), (65, 0, 9), (66, 0, 9), (67, 0, 4), (68, 0, 3), (69, 0, 4), (70, 0, 220), (71, 0, 2), (71, 4, 6), (71, 8, 9), (71, 10, 12), (72, 0, 9), (73, 0, 9), (74, 0, 4), (75, 0, 3), (76, 0, 4), (77, 0, 220), (78, 0, 2), (78, 4, 6), (78, 8, 9), (78, 10, 12), (79, 0, 9), (80, 0, 9), (81, 0, 4), (82, 0, 3), (83, 0, 4), (84, 0, 220), (169, 0, 1), (169, 3, 8), (171, 0, 2), (171, 4, 6), (171, 8, 9), (171, 10, 12), (172, 0, 9), (173, 0, 9), (174, 0, 4), (175, 0, 3), (176, 0, 4), (177, 0, 220)], false, ([], [], [], 212), [(2, (0, []))], [(([((-1000), 5)], [], [], 212), some (0, (0, [(0, 1)])))])
def sp_87 : aSp := fun k pc S => if pc = 20 ∧ k = 24 then spS 0 [0, 1, 2, 3, 4] S else none
def s_87 : List aCt := [c_86, c_31, c_32, c_33, c_34, c_35, c_36]
def h_87 : List (Nat × aS × Fm) := []
theorem e_87 : ckE 6000 gT s_87 (fun _ => 0) sp_87 c_87 h_87 = true := by decide +kernel
theorem k_87 (hB : BytesOK) (g : bG) (l : Launch) : Keeps g l gT c_87 := keeps_of hB.1 hB.2 (List.forall_mem_cons.mpr ⟨k_86 hB g l, List.forall_mem_cons.mpr ⟨k_31 hB g l, List.forall_mem_cons.mpr ⟨k_32 hB g l, List.forall_mem_cons.mpr ⟨k_33 hB g l, List.forall_mem_cons.mpr ⟨k_34 hB g l, List.forall_mem_cons.mpr ⟨k_35 hB g l, List.forall_mem_cons.mpr ⟨k_36 hB g l, nilK⟩⟩⟩⟩⟩⟩⟩) e_87 nilK
/-- Terms.fact ((('c', 43), ('u', 0)), ()) -/
def c_88 : aCt := (101, 0, some [], false, ([((-2147483648), 2147483647)], [], [], 212), [(2, (43, [])), (0, (0, [(0, 1)]))], [(([((-2147483648), 2147483647), ((-9), 999)], [], [], 212), some (0, (0, [(1, 1)])))])
def s_88 : List aCt := []
def h_88 : List (Nat × aS × Fm) := []
theorem e_88 : ckE 6000 gT s_88 (fun _ => 0) sp0 c_88 h_88 = true := by decide +kernel
theorem k_88 (hB : BytesOK) (g : bG) (l : Launch) : Keeps g l gT c_88 := keeps_of hB.1 hB.2 (nilK) e_88 nilK
/-- Terms.fact ((('c', 50), ('u', 0)), ()) -/
def c_89 : aCt := (101, 0, some [], false, ([((-2147483648), 2147483647)], [], [], 212), [(2, (50, [])), (0, (0, [(0, 1)]))], [(([((-2147483648), 2147483647), ((-9), 999)], [], [], 212), some (0, (0, [(1, 1)])))])
def s_89 : List aCt := []
def h_89 : List (Nat × aS × Fm) := []
theorem e_89 : ckE 6000 gT s_89 (fun _ => 0) sp0 c_89 h_89 = true := by decide +kernel
theorem k_89 (hB : BytesOK) (g : bG) (l : Launch) : Keeps g l gT c_89 := keeps_of hB.1 hB.2 (nilK) e_89 nilK
/-- Terms.fact ((('c', 57), ('u', 0)), ()) -/
def c_90 : aCt := (101, 0, some [], false, ([((-2147483648), 2147483647)], [], [], 212), [(2, (57, [])), (0, (0, [(0, 1)]))], [(([((-2147483648), 2147483647), ((-9), 999)], [], [], 212), some (0, (0, [(1, 1)])))])
def s_90 : List aCt := []
def h_90 : List (Nat × aS × Fm) := []
theorem e_90 : ckE 6000 gT s_90 (fun _ => 0) sp0 c_90 h_90 = true := by decide +kernel
theorem k_90 (hB : BytesOK) (g : bG) (l : Launch) : Keeps g l gT c_90 := keeps_of hB.1 hB.2 (nilK) e_90 nilK
/-- Terms.fact ((('c', 64), ('u', 0)), ()) -/
def c_91 : aCt := (101, 0, some [], false, ([((-2147483648), 2147483647)], [], [], 212), [(2, (64, [])), (0, (0, [(0, 1)]))], [(([((-2147483648), 2147483647), ((-9), 999)], [], [], 212), some (0, (0, [(1, 1)])))])
def s_91 : List aCt := []
def h_91 : List (Nat × aS × Fm) := []
theorem e_91 : ckE 6000 gT s_91 (fun _ => 0) sp0 c_91 h_91 = true := by decide +kernel
theorem k_91 (hB : BytesOK) (g : bG) (l : Launch) : Keeps g l gT c_91 := keeps_of hB.1 hB.2 (nilK) e_91 nilK
/-- Terms.fact ((('c', 71), ('u', 0)), ()) -/
def c_92 : aCt := (101, 0, some [], false, ([((-2147483648), 2147483647)], [], [], 212), [(2, (71, [])), (0, (0, [(0, 1)]))], [(([((-2147483648), 2147483647), ((-9), 999)], [], [], 212), some (0, (0, [(1, 1)])))])
def s_92 : List aCt := []
def h_92 : List (Nat × aS × Fm) := []
theorem e_92 : ckE 6000 gT s_92 (fun _ => 0) sp0 c_92 h_92 = true := by decide +kernel
theorem k_92 (hB : BytesOK) (g : bG) (l : Launch) : Keeps g l gT c_92 := keeps_of hB.1 hB.2 (nilK) e_92 nilK
/-- Terms.fact ((('c', 78), ('u', 0)), ()) -/
def c_93 : aCt := (101, 0, some [], false, ([((-2147483648), 2147483647)], [], [], 212), [(2, (78, [])), (0, (0, [(0, 1)]))], [(([((-2147483648), 2147483647), ((-9), 999)], [], [], 212), some (0, (0, [(1, 1)])))])
def s_93 : List aCt := []
def h_93 : List (Nat × aS × Fm) := []
theorem e_93 : ckE 6000 gT s_93 (fun _ => 0) sp0 c_93 h_93 = true := by decide +kernel
theorem k_93 (hB : BytesOK) (g : bG) (l : Launch) : Keeps g l gT c_93 := keeps_of hB.1 hB.2 (nilK) e_93 nilK
/-- B.version ((('c', 0), ('u', 0), ('u', 0)), ()) -/
def c_94 : aCt := (137, 1, some [], false, ([((-2147483648), 2147483647), ((-2147483648), 2147483647)], [], [], 212), [(2, (0, [])), (0, (0, [(0, 1)])), (0, (0, [(1, 1)]))], [(([((-2147483648), 2147483647), ((-2147483648), 2147483647), ((-9), 999)], [], [], 212), some (0, (0, [(2, 1)])))])
def sp_94 : aSp := fun k pc S => if pc = 17 ∧ k = 25 then spS 0 [0, 1, 2, 3, 4] S else none
def s_94 : List aCt := [c_88, c_89, c_90, c_91, c_92, c_93]
def h_94 : List (Nat × aS × Fm) := []
theorem e_94 : ckE 6000 gT s_94 (fun _ => 0) sp_94 c_94 h_94 = true := by decide +kernel
theorem k_94 (hB : BytesOK) (g : bG) (l : Launch) : Keeps g l gT c_94 := keeps_of hB.1 hB.2 (List.forall_mem_cons.mpr ⟨k_88 hB g l, List.forall_mem_cons.mpr ⟨k_89 hB g l, List.forall_mem_cons.mpr ⟨k_90 hB g l, List.forall_mem_cons.mpr ⟨k_91 hB g l, List.forall_mem_cons.mpr ⟨k_92 hB g l, List.forall_mem_cons.mpr ⟨k_93 hB g l, nilK⟩⟩⟩⟩⟩⟩) e_94 nilK
/-- Trade.addBoxes ((('c', 17), ('u', 0), ('u', 0), ('u', 0)), ()) -/
def c_95 : aCt := (107, 0, some [(17, 0, 1), (18, 0, 24), (19, 0, 24), (20, 0, 24)], false, ([(0, 2147483647), ((-2147483648), 2147483647), (0, 239)], [], [], 212), [(2, (17, [])), (0, (0, [(0, 1)])), (0, (0, [(1, 1)])), (0, (0, [(2, 1)]))], [(([(0, 2147483647), ((-2147483648), 2147483647), (0, 239), ((-2), 23)], [], [], 212), some (0, (0, [(3, 1)])))])
def s_95 : List aCt := []
def h_95 : List (Nat × aS × Fm) := []
theorem e_95 : ckE 6000 gT s_95 (fun _ => 0) sp0 c_95 h_95 = true := by decide +kernel
theorem k_95 (hB : BytesOK) (g : bG) (l : Launch) : Keeps g l gT c_95 := keeps_of hB.1 hB.2 (nilK) e_95 nilK
/-- B.boxes ((('c', 0), ('u', 0), ('u', 0)), ()) -/
def c_96 : aCt := (138, 1, some [(17, 0, 1), (18, 0, 24), (19, 0, 24), (20, 0, 24)], false, ([((-2147483648), 2147483647), ((-2147483648), 2147483647)], [], [], 212), [(2, (0, [])), (0, (0, [(0, 1)])), (0, (0, [(1, 1)]))], [(([((-2147483648), 2147483647), ((-2147483648), 2147483647), ((-2), 23)], [], [], 212), some (0, (0, [(2, 1)])))])
def s_96 : List aCt := [c_95]
def h_96 : List (Nat × aS × Fm) := []
theorem e_96 : ckE 6000 gT s_96 (fun _ => 0) sp0 c_96 h_96 = true := by decide +kernel
theorem k_96 (hB : BytesOK) (g : bG) (l : Launch) : Keeps g l gT c_96 := keeps_of hB.1 hB.2 (List.forall_mem_cons.mpr ⟨k_95 hB g l, nilK⟩) e_96 nilK
/-- Trade.countAt ((('c', 17), ('u', 0), ('u', 0)), ()) -/
def c_97 : aCt := (108, 0, some [], false, ([(0, 2147483647), (0, 239)], [], [], 212), [(2, (17, [])), (0, (0, [(0, 1)])), (0, (0, [(1, 1)]))], [(([(0, 2147483647), (0, 239), ((-2147483648), 2147483647)], [], [], 212), some (0, (0, [(2, 1)])))])
def s_97 : List aCt := []
def h_97_0 : Nat × aS × Fm := (5, ([(0, (2, (17, []))), (1, (0, (0, [(0, 1)]))), (2, (0, (0, [(1, 1)]))), (3, (0, (0, [(3, 1)]))), (4, (0, (0, [(2, 1)])))], [], ([(0, 2147483647), (0, 239), (0, 24), ((-2147483648), 2147483647)], [], [], 212)), (49, [(2, (-2))]))
def h_97 : List (Nat × aS × Fm) := [h_97_0]
theorem e_97 : ckE 6000 gT s_97 (fun _ => 0) sp0 c_97 h_97 = true := by decide +kernel
theorem g_97_0 : ([h_97_0].all fun H => ckH 6000 gT s_97 (fun _ => 0) sp0 c_97 h_97 H) = true := by decide +kernel
theorem k_97 (hB : BytesOK) (g : bG) (l : Launch) : Keeps g l gT c_97 := keeps_of hB.1 hB.2 (nilK) e_97 (List.all_eq_true.mp g_97_0)
/-- B.count ((('c', 0), ('u', 0), ('u', 0)), ()) -/
def c_98 : aCt := (139, 1, some [], false, ([((-2147483648), 2147483647), ((-2147483648), 2147483647)], [], [], 212), [(2, (0, [])), (0, (0, [(0, 1)])), (0, (0, [(1, 1)]))], [(([((-2147483648), 2147483647), ((-2147483648), 2147483647), ((-2147483648), 2147483647)], [], [], 212), some (0, (0, [(2, 1)])))])
def s_98 : List aCt := [c_97]
def h_98 : List (Nat × aS × Fm) := []
theorem e_98 : ckE 6000 gT s_98 (fun _ => 0) sp0 c_98 h_98 = true := by decide +kernel
theorem k_98 (hB : BytesOK) (g : bG) (l : Launch) : Keeps g l gT c_98 := keeps_of hB.1 hB.2 (List.forall_mem_cons.mpr ⟨k_97 hB g l, nilK⟩) e_98 nilK
/-- Trade.addLeave ((('c', 17), ('u', 0), ('u', 0), ('u', 0), ('u', 0), ('u', 0)), ()) -/
def c_99 : aCt := (109, 1, some [(17, 4, 6), (21, 0, 8), (22, 0, 8), (23, 0, 8), (24, 0, 8)], false, ([((-2147483648), 2147483647), ((-2147483648), 2147483647), ((-2147483648), 2147483647), ((-2147483648), 2147483647), (0, 1)], [], [], 212), [(2, (17, [])), (0, (0, [(0, 1)])), (0, (0, [(1, 1)])), (0, (0, [(2, 1)])), (0, (0, [(3, 1)])), (0, (0, [(4, 1)]))], [(([((-2147483648), 2147483647), ((-2147483648), 2147483647), ((-2147483648), 2147483647), ((-2147483648), 2147483647), (0, 1), ((-2), 7)], [], [], 212), some (0, (0, [(5, 1)])))])
def s_99 : List aCt := [c_3]
def h_99 : List (Nat × aS × Fm) := []
theorem e_99 : ckE 6000 gT s_99 (fun _ => 0) sp0 c_99 h_99 = true := by decide +kernel
theorem k_99 (hB : BytesOK) (g : bG) (l : Launch) : Keeps g l gT c_99 := keeps_of hB.1 hB.2 (List.forall_mem_cons.mpr ⟨k_3 hB g l, nilK⟩) e_99 nilK
/-- B.leave ((('c', 0), ('u', 0), ('u', 0), ('u', 0), ('u', 0), ('u', 0)), ()) -/
def c_100 : aCt := (140, 2, some [(17, 4, 6), (21, 0, 8), (22, 0, 8), (23, 0, 8), (24, 0, 8)], false, ([((-2147483648), 2147483647), ((-2147483648), 2147483647), ((-2147483648), 2147483647), ((-2147483648), 2147483647), (0, 1)], [], [], 212), [(2, (0, [])), (0, (0, [(0, 1)])), (0, (0, [(1, 1)])), (0, (0, [(2, 1)])), (0, (0, [(3, 1)])), (0, (0, [(4, 1)]))], [(([((-2147483648), 2147483647), ((-2147483648), 2147483647), ((-2147483648), 2147483647), ((-2147483648), 2147483647), (0, 1), ((-2), 7)], [], [], 212), some (0, (0, [(5, 1)])))])
def s_100 : List aCt := [c_99]
def h_100 : List (Nat × aS × Fm) := []
theorem e_100 : ckE 6000 gT s_100 (fun _ => 0) sp0 c_100 h_100 = true := by decide +kernel
theorem k_100 (hB : BytesOK) (g : bG) (l : Launch) : Keeps g l gT c_100 := keeps_of hB.1 hB.2 (List.forall_mem_cons.mpr ⟨k_99 hB g l, nilK⟩) e_100 nilK
/-- Trade.isFavoured ((('c', 17), ('u', 0)), ()) -/
def c_101 : aCt := (110, 0, some [], false, ([(0, 7)], [], [], 212), [(2, (17, [])), (0, (0, [(0, 1)]))], [(([(0, 7), (0, 1)], [], [], 212), some (0, (0, [(1, 1)])))])
def s_101 : List aCt := []
def h_101 : List (Nat × aS × Fm) := []
theorem e_101 : ckE 6000 gT s_101 (fun _ => 0) sp0 c_101 h_101 = true := by decide +kernel
theorem k_101 (hB : BytesOK) (g : bG) (l : Launch) : Keeps g l gT c_101 := keeps_of hB.1 hB.2 (nilK) e_101 nilK
/-- Trade.isLeaveFor ((('c', 17), ('u', 0), ('u', 0)), ()) -/
def c_102 : aCt := (111, 0, some [], false, ([(0, 7), (0, 239)], [], [], 212), [(2, (17, [])), (0, (0, [(0, 1)])), (0, (0, [(1, 1)]))], [(([(0, 7), (0, 239), (0, 1)], [], [], 212), some (0, (0, [(2, 1)])))])
def s_102 : List aCt := []
def h_102 : List (Nat × aS × Fm) := []
theorem e_102 : ckE 6000 gT s_102 (fun _ => 0) sp0 c_102 h_102 = true := by decide +kernel
theorem k_102 (hB : BytesOK) (g : bG) (l : Launch) : Keeps g l gT c_102 := keeps_of hB.1 hB.2 (nilK) e_102 nilK
/-- Trade.latestLeave ((('c', 17), ('u', 0), ('u', 0)), ()) -/
def c_103 : aCt := (112, 1, some [], false, ([(0, 5), (0, 239)], [], [], 212), [(2, (17, [])), (0, (0, [(0, 1)])), (0, (0, [(1, 1)]))], [(([(0, 5), (0, 239), ((-1), 7)], [], [], 212), some (0, (0, [(2, 1)])))])
def s_103 : List aCt := [c_102]
def h_103_0 : Nat × aS × Fm := (7, ([(0, (2, (17, []))), (1, (0, (0, [(0, 1)]))), (2, (0, (0, [(1, 1)]))), (3, (0, (0, [(2, 1)])))], [], ([(0, 5), (0, 239), ((-1), 7)], [], [], 212)), (3, [(2, 2)]))
def h_103 : List (Nat × aS × Fm) := [h_103_0]
theorem e_103 : ckE 6000 gT s_103 (fun _ => 0) sp0 c_103 h_103 = true := by decide +kernel
theorem g_103_0 : ([h_103_0].all fun H => ckH 6000 gT s_103 (fun _ => 0) sp0 c_103 h_103 H) = true := by decide +kernel
theorem k_103 (hB : BytesOK) (g : bG) (l : Launch) : Keeps g l gT c_103 := keeps_of hB.1 hB.2 (List.forall_mem_cons.mpr ⟨k_102 hB g l, nilK⟩) e_103 (List.all_eq_true.mp g_103_0)
/-- Trade.leastPart ((('c', 17), ('u', 0)), ()) -/
def c_104 : aCt := (114, 1, some [], false, ([(0, 239)], [], [], 212), [(2, (17, [])), (0, (0, [(0, 1)]))], [(([(0, 239), ((-2147483648), 100)], [], [], 212), some (0, (0, [(1, 1)])))])
def s_104 : List aCt := [c_101, c_102]
def h_104_0 : Nat × aS × Fm := (5, ([(0, (2, (17, []))), (1, (0, (0, [(0, 1)]))), (2, (0, (0, [(2, 1)]))), (3, (0, (0, [(1, 1)])))], [], ([(0, 239), (0, 8), ((-2147483648), 100)], [], [], 212)), (17, [(1, (-2))]))
def h_104 : List (Nat × aS × Fm) := [h_104_0]
theorem e_104 : ckE 6000 gT s_104 (fun _ => 0) sp0 c_104 h_104 = true := by decide +kernel
theorem g_104_0 : ([h_104_0].all fun H => ckH 6000 gT s_104 (fun _ => 0) sp0 c_104 h_104 H) = true := by decide +kernel
theorem k_104 (hB : BytesOK) (g : bG) (l : Launch) : Keeps g l gT c_104 := keeps_of hB.1 hB.2 (List.forall_mem_cons.mpr ⟨k_101 hB g l, List.forall_mem_cons.mpr ⟨k_102 hB g l, nilK⟩⟩) e_104 (List.all_eq_true.mp g_104_0)
/-- Trade.partOf ((('c', 17), ('u', 0), ('u', 0)), ()) -/
def c_105 : aCt := (113, 2, some [], false, ([(0, 5), (0, 239)], [], [], 212), [(2, (17, [])), (0, (0, [(0, 1)])), (0, (0, [(1, 1)]))], [(([(0, 5), (0, 239), ((-2147483648), 2147483647)], [], [], 212), some (0, (0, [(2, 1)])))])
def s_105 : List aCt := [c_101, c_103, c_104]
def h_105 : List (Nat × aS × Fm) := []
theorem e_105 : ckE 6000 gT s_105 (fun _ => 0) sp0 c_105 h_105 = true := by decide +kernel
theorem k_105 (hB : BytesOK) (g : bG) (l : Launch) : Keeps g l gT c_105 := keeps_of hB.1 hB.2 (List.forall_mem_cons.mpr ⟨k_101 hB g l, List.forall_mem_cons.mpr ⟨k_103 hB g l, List.forall_mem_cons.mpr ⟨k_104 hB g l, nilK⟩⟩⟩) e_105 nilK
