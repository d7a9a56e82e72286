/-- Tape.takeOne ((('c', 169), ('c', 4)), ()) -/
def c_64 : aCt := (95, 6, some [(169, 3, 8), (171, 11, 12), (177, 0, 220)], false, ([], [], [], 212), [(2, (169, [])), (0, (4, []))], [(([(0, 1)], [], [], 212), some (0, (0, [(0, 1)])))])
def s_64 : List aCt := [c_28, c_29, c_58, c_59, c_31, c_63, c_30]
def h_64_0 : Nat × aS × Fm := (4, ([(0, (2, (169, []))), (1, (0, (4, []))), (2, (0, (0, [(0, 1)]))), (3, (0, (0, [(1, 1)])))], [], ([(0, 1), (0, 220)], [], [], 212)), (441, [(1, (-2))]))
def h_64 : List (Nat × aS × Fm) := [h_64_0]
theorem e_64 : ckE 6000 gT s_64 (fun _ => 0) sp0 c_64 h_64 = true := by decide +kernel
theorem g_64_0 : ([h_64_0].all fun H => ckH 6000 gT s_64 (fun _ => 0) sp0 c_64 h_64 H) = true := by decide +kernel
theorem k_64 (hB : BytesOK) (g : bG) (l : Launch) : Keeps g l gT c_64 := keeps_of hB.1 hB.2 (List.forall_mem_cons.mpr ⟨k_28 hB g l, List.forall_mem_cons.mpr ⟨k_29 hB g l, List.forall_mem_cons.mpr ⟨k_58 hB g l, List.forall_mem_cons.mpr ⟨k_59 hB g l, List.forall_mem_cons.mpr ⟨k_31 hB g l, List.forall_mem_cons.mpr ⟨k_63 hB g l, List.forall_mem_cons.mpr ⟨k_30 hB g l, nilK⟩⟩⟩⟩⟩⟩⟩) e_64 (List.all_eq_true.mp g_64_0)
/-- Tape.takeCondition ((('c', 169), ('c', 4)), ()) -/
def c_65 : aCt := (94, 7, some [(169, 3, 8), (171, 11, 12), (177, 0, 220)], false, ([], [], [], 212), [(2, (169, [])), (0, (4, []))], [(([(0, 1)], [], [], 212), some (0, (0, [(0, 1)])))])
def s_65 : List aCt := [c_29, c_56, c_57, c_64, c_30]
def h_65_0 : Nat × aS × Fm := (14, ([(0, (2, (169, []))), (1, (0, (4, []))), (2, (0, (0, [(1, 1)]))), (3, (0, (0, [(0, 1)])))], [], ([(0, 220), (0, 1)], [], [], 212)), (441, [(0, (-2))]))
def h_65 : List (Nat × aS × Fm) := [h_65_0]
theorem e_65 : ckE 6000 gT s_65 (fun _ => 0) sp0 c_65 h_65 = true := by decide +kernel
theorem g_65_0 : ([h_65_0].all fun H => ckH 6000 gT s_65 (fun _ => 0) sp0 c_65 h_65 H) = true := by decide +kernel
theorem k_65 (hB : BytesOK) (g : bG) (l : Launch) : Keeps g l gT c_65 := keeps_of hB.1 hB.2 (List.forall_mem_cons.mpr ⟨k_29 hB g l, List.forall_mem_cons.mpr ⟨k_56 hB g l, List.forall_mem_cons.mpr ⟨k_57 hB g l, List.forall_mem_cons.mpr ⟨k_64 hB g l, List.forall_mem_cons.mpr ⟨k_30 hB g l, nilK⟩⟩⟩⟩⟩) e_65 (List.all_eq_true.mp g_65_0)
/-- Tape.takeOne ((('c', 169), ('c', 3)), ()) -/
def c_66 : aCt := (95, 8, some [(169, 3, 8), (171, 11, 12), (177, 0, 220)], false, ([], [], [], 212), [(2, (169, [])), (0, (3, []))], [(([(0, 1)], [], [], 212), some (0, (0, [(0, 1)])))])
def s_66 : List aCt := [c_28, c_29, c_58, c_59, c_31, c_65, c_63, c_30]
def h_66_0 : Nat × aS × Fm := (4, ([(0, (2, (169, []))), (1, (0, (3, []))), (2, (0, (0, [(0, 1)]))), (3, (0, (0, [(1, 1)])))], [], ([(0, 1), (0, 220)], [], [], 212)), (441, [(1, (-2))]))
def h_66 : List (Nat × aS × Fm) := [h_66_0]
theorem e_66 : ckE 6000 gT s_66 (fun _ => 0) sp0 c_66 h_66 = true := by decide +kernel
theorem g_66_0 : ([h_66_0].all fun H => ckH 6000 gT s_66 (fun _ => 0) sp0 c_66 h_66 H) = true := by decide +kernel
theorem k_66 (hB : BytesOK) (g : bG) (l : Launch) : Keeps g l gT c_66 := keeps_of hB.1 hB.2 (List.forall_mem_cons.mpr ⟨k_28 hB g l, List.forall_mem_cons.mpr ⟨k_29 hB g l, List.forall_mem_cons.mpr ⟨k_58 hB g l, List.forall_mem_cons.mpr ⟨k_59 hB g l, List.forall_mem_cons.mpr ⟨k_31 hB g l, List.forall_mem_cons.mpr ⟨k_65 hB g l, List.forall_mem_cons.mpr ⟨k_63 hB g l, List.forall_mem_cons.mpr ⟨k_30 hB g l, nilK⟩⟩⟩⟩⟩⟩⟩⟩) e_66 (List.all_eq_true.mp g_66_0)
/-- Tape.takeCondition ((('c', 169), ('c', 3)), ()) -/
def c_67 : aCt := (94, 9, some [(169, 3, 8), (171, 11, 12), (177, 0, 220)], false, ([], [], [], 212), [(2, (169, [])), (0, (3, []))], [(([(0, 1)], [], [], 212), some (0, (0, [(0, 1)])))])
def s_67 : List aCt := [c_29, c_56, c_57, c_66, c_30]
def h_67_0 : Nat × aS × Fm := (14, ([(0, (2, (169, []))), (1, (0, (3, []))), (2, (0, (0, [(1, 1)]))), (3, (0, (0, [(0, 1)])))], [], ([(0, 220), (0, 1)], [], [], 212)), (441, [(0, (-2))]))
def h_67 : List (Nat × aS × Fm) := [h_67_0]
theorem e_67 : ckE 6000 gT s_67 (fun _ => 0) sp0 c_67 h_67 = true := by decide +kernel
theorem g_67_0 : ([h_67_0].all fun H => ckH 6000 gT s_67 (fun _ => 0) sp0 c_67 h_67 H) = true := by decide +kernel
theorem k_67 (hB : BytesOK) (g : bG) (l : Launch) : Keeps g l gT c_67 := keeps_of hB.1 hB.2 (List.forall_mem_cons.mpr ⟨k_29 hB g l, List.forall_mem_cons.mpr ⟨k_56 hB g l, List.forall_mem_cons.mpr ⟨k_57 hB g l, List.forall_mem_cons.mpr ⟨k_66 hB g l, List.forall_mem_cons.mpr ⟨k_30 hB g l, nilK⟩⟩⟩⟩⟩) e_67 (List.all_eq_true.mp g_67_0)
/-- Tape.takeOne ((('c', 169), ('c', 2)), ()) -/
def c_68 : aCt := (95, 10, some [(169, 3, 8), (171, 11, 12), (177, 0, 220)], false, ([], [], [], 212), [(2, (169, [])), (0, (2, []))], [(([(0, 1)], [], [], 212), some (0, (0, [(0, 1)])))])
def s_68 : List aCt := [c_28, c_29, c_58, c_59, c_31, c_67, c_63, c_30]
def h_68_0 : Nat × aS × Fm := (4, ([(0, (2, (169, []))), (1, (0, (2, []))), (2, (0, (0, [(0, 1)]))), (3, (0, (0, [(1, 1)])))], [], ([(0, 1), (0, 220)], [], [], 212)), (441, [(1, (-2))]))
def h_68 : List (Nat × aS × Fm) := [h_68_0]
theorem e_68 : ckE 6000 gT s_68 (fun _ => 0) sp0 c_68 h_68 = true := by decide +kernel
theorem g_68_0 : ([h_68_0].all fun H => ckH 6000 gT s_68 (fun _ => 0) sp0 c_68 h_68 H) = true := by decide +kernel
theorem k_68 (hB : BytesOK) (g : bG) (l : Launch) : Keeps g l gT c_68 := keeps_of hB.1 hB.2 (List.forall_mem_cons.mpr ⟨k_28 hB g l, List.forall_mem_cons.mpr ⟨k_29 hB g l, List.forall_mem_cons.mpr ⟨k_58 hB g l, List.forall_mem_cons.mpr ⟨k_59 hB g l, List.forall_mem_cons.mpr ⟨k_31 hB g l, List.forall_mem_cons.mpr ⟨k_67 hB g l, List.forall_mem_cons.mpr ⟨k_63 hB g l, List.forall_mem_cons.mpr ⟨k_30 hB g l, nilK⟩⟩⟩⟩⟩⟩⟩⟩) e_68 (List.all_eq_true.mp g_68_0)
/-- Tape.takeCondition ((('c', 169), ('c', 2)), ()) -/
def c_69 : aCt := (94, 11, some [(169, 3, 8), (171, 11, 12), (177, 0, 220)], false, ([], [], [], 212), [(2, (169, [])), (0, (2, []))], [(([(0, 1)], [], [], 212), some (0, (0, [(0, 1)])))])
def s_69 : List aCt := [c_29, c_56, c_57, c_68, c_30]
def h_69_0 : Nat × aS × Fm := (14, ([(0, (2, (169, []))), (1, (0, (2, []))), (2, (0, (0, [(1, 1)]))), (3, (0, (0, [(0, 1)])))], [], ([(0, 220), (0, 1)], [], [], 212)), (441, [(0, (-2))]))
def h_69 : List (Nat × aS × Fm) := [h_69_0]
theorem e_69 : ckE 6000 gT s_69 (fun _ => 0) sp0 c_69 h_69 = true := by decide +kernel
theorem g_69_0 : ([h_69_0].all fun H => ckH 6000 gT s_69 (fun _ => 0) sp0 c_69 h_69 H) = true := by decide +kernel
theorem k_69 (hB : BytesOK) (g : bG) (l : Launch) : Keeps g l gT c_69 := keeps_of hB.1 hB.2 (List.forall_mem_cons.mpr ⟨k_29 hB g l, List.forall_mem_cons.mpr ⟨k_56 hB g l, List.forall_mem_cons.mpr ⟨k_57 hB g l, List.forall_mem_cons.mpr ⟨k_68 hB g l, List.forall_mem_cons.mpr ⟨k_30 hB g l, nilK⟩⟩⟩⟩⟩) e_69 (List.all_eq_true.mp g_69_0)
/-- Tape.takeOne ((('c', 169), ('c', 1)), ()) -/
def c_70 : aCt := (95, 12, some [(169, 3, 8), (171, 11, 12), (177, 0, 220)], false, ([], [], [], 212), [(2, (169, [])), (0, (1, []))], [(([(0, 1)], [], [], 212), some (0, (0, [(0, 1)])))])
def s_70 : List aCt := [c_28, c_29, c_58, c_59, c_31, c_69, c_63, c_30]
def h_70_0 : Nat × aS × Fm := (4, ([(0, (2, (169, []))), (1, (0, (1, []))), (2, (0, (0, [(0, 1)]))), (3, (0, (0, [(1, 1)])))], [], ([(0, 1), (0, 220)], [], [], 212)), (441, [(1, (-2))]))
def h_70 : List (Nat × aS × Fm) := [h_70_0]
theorem e_70 : ckE 6000 gT s_70 (fun _ => 0) sp0 c_70 h_70 = true := by decide +kernel
theorem g_70_0 : ([h_70_0].all fun H => ckH 6000 gT s_70 (fun _ => 0) sp0 c_70 h_70 H) = true := by decide +kernel
theorem k_70 (hB : BytesOK) (g : bG) (l : Launch) : Keeps g l gT c_70 := keeps_of hB.1 hB.2 (List.forall_mem_cons.mpr ⟨k_28 hB g l, List.forall_mem_cons.mpr ⟨k_29 hB g l, List.forall_mem_cons.mpr ⟨k_58 hB g l, List.forall_mem_cons.mpr ⟨k_59 hB g l, List.forall_mem_cons.mpr ⟨k_31 hB g l, List.forall_mem_cons.mpr ⟨k_69 hB g l, List.forall_mem_cons.mpr ⟨k_63 hB g l, List.forall_mem_cons.mpr ⟨k_30 hB g l, nilK⟩⟩⟩⟩⟩⟩⟩⟩) e_70 (List.all_eq_true.mp g_70_0)
/-- Tape.takeCondition ((('c', 169), ('c', 1)), ()) -/
def c_71 : aCt := (94, 13, some [(169, 3, 8), (171, 11, 12), (177, 0, 220)], false, ([], [], [], 212), [(2, (169, [])), (0, (1, []))], [(([(0, 1)], [], [], 212), some (0, (0, [(0, 1)])))])
def s_71 : List aCt := [c_29, c_56, c_57, c_70, c_30]
def h_71_0 : Nat × aS × Fm := (14, ([(0, (2, (169, []))), (1, (0, (1, []))), (2, (0, (0, [(1, 1)]))), (3, (0, (0, [(0, 1)])))], [], ([(0, 220), (0, 1)], [], [], 212)), (441, [(0, (-2))]))
def h_71 : List (Nat × aS × Fm) := [h_71_0]
theorem e_71 : ckE 6000 gT s_71 (fun _ => 0) sp0 c_71 h_71 = true := by decide +kernel
theorem g_71_0 : ([h_71_0].all fun H => ckH 6000 gT s_71 (fun _ => 0) sp0 c_71 h_71 H) = true := by decide +kernel
theorem k_71 (hB : BytesOK) (g : bG) (l : Launch) : Keeps g l gT c_71 := keeps_of hB.1 hB.2 (List.forall_mem_cons.mpr ⟨k_29 hB g l, List.forall_mem_cons.mpr ⟨k_56 hB g l, List.forall_mem_cons.mpr ⟨k_57 hB g l, List.forall_mem_cons.mpr ⟨k_70 hB g l, List.forall_mem_cons.mpr ⟨k_30 hB g l, nilK⟩⟩⟩⟩⟩) e_71 (List.all_eq_true.mp g_71_0)
/-- Tape.takeOne ((('c', 169), ('c', 0)), ()) -/
def c_72 : aCt := (95, 14, some [(169, 3, 8), (171, 11, 12), (177, 0, 220)], false, ([], [], [], 212), [(2, (169, [])), (0, (0, []))], [(([(0, 1)], [], [], 212), some (0, (0, [(0, 1)])))])
def s_72 : List aCt := [c_28, c_29, c_58, c_59, c_31, c_71, c_63, c_30]
def h_72_0 : Nat × aS × Fm := (4, ([(0, (2, (169, []))), (1, (0, (0, []))), (2, (0, (0, [(0, 1)]))), (3, (0, (0, [(1, 1)])))], [], ([(0, 1), (0, 220)], [], [], 212)), (441, [(1, (-2))]))
def h_72 : List (Nat × aS × Fm) := [h_72_0]
theorem e_72 : ckE 6000 gT s_72 (fun _ => 0) sp0 c_72 h_72 = true := by decide +kernel
theorem g_72_0 : ([h_72_0].all fun H => ckH 6000 gT s_72 (fun _ => 0) sp0 c_72 h_72 H) = true := by decide +kernel
theorem k_72 (hB : BytesOK) (g : bG) (l : Launch) : Keeps g l gT c_72 := keeps_of hB.1 hB.2 (List.forall_mem_cons.mpr ⟨k_28 hB g l, List.forall_mem_cons.mpr ⟨k_29 hB g l, List.forall_mem_cons.mpr ⟨k_58 hB g l, List.forall_mem_cons.mpr ⟨k_59 hB g l, List.forall_mem_cons.mpr ⟨k_31 hB g l, List.forall_mem_cons.mpr ⟨k_71 hB g l, List.forall_mem_cons.mpr ⟨k_63 hB g l, List.forall_mem_cons.mpr ⟨k_30 hB g l, nilK⟩⟩⟩⟩⟩⟩⟩⟩) e_72 (List.all_eq_true.mp g_72_0)
/-- Tape.takeCondition ((('c', 169), ('c', 0)), ()) -/
def c_73 : aCt := (94, 15, some [(169, 3, 8), (171, 11, 12), (177, 0, 220)], false, ([], [], [], 212), [(2, (169, [])), (0, (0, []))], [(([(0, 1)], [], [], 212), some (0, (0, [(0, 1)])))])
def s_73 : List aCt := [c_29, c_56, c_57, c_72, c_30]
def h_73_0 : Nat × aS × Fm := (14, ([(0, (2, (169, []))), (1, (0, (0, []))), (2, (0, (0, [(1, 1)]))), (3, (0, (0, [(0, 1)])))], [], ([(0, 220), (0, 1)], [], [], 212)), (441, [(0, (-2))]))
def h_73 : List (Nat × aS × Fm) := [h_73_0]
theorem e_73 : ckE 6000 gT s_73 (fun _ => 0) sp0 c_73 h_73 = true := by decide +kernel
theorem g_73_0 : ([h_73_0].all fun H => ckH 6000 gT s_73 (fun _ => 0) sp0 c_73 h_73 H) = true := by decide +kernel
theorem k_73 (hB : BytesOK) (g : bG) (l : Launch) : Keeps g l gT c_73 := keeps_of hB.1 hB.2 (List.forall_mem_cons.mpr ⟨k_29 hB g l, List.forall_mem_cons.mpr ⟨k_56 hB g l, List.forall_mem_cons.mpr ⟨k_57 hB g l, List.forall_mem_cons.mpr ⟨k_72 hB g l, List.forall_mem_cons.mpr ⟨k_30 hB g l, nilK⟩⟩⟩⟩⟩) e_73 (List.all_eq_true.mp g_73_0)
/-- Terms.addLine ((('c', 171), ('u', 0), ('u', 0)), ()) -/
def c_74 : aCt := (99, 0, some [(171, 1, 2), (172, 0, 9), (173, 0, 9)], false, ([(0, 5), ((-9), 999)], [], [], 212), [(2, (171, [])), (0, (0, [(0, 1)])), (0, (0, [(1, 1)]))], [(([(0, 5), ((-9), 999)], [], [], 212), none)])
def s_74 : List aCt := []
def h_74 : List (Nat × aS × Fm) := []
theorem e_74 : ckE 6000 gT s_74 (fun _ => 0) sp0 c_74 h_74 = true := by decide +kernel
theorem k_74 (hB : BytesOK) (g : bG) (l : Launch) : Keeps g l gT c_74 := keeps_of hB.1 hB.2 (nilK) e_74 nilK
/-- Tape.takeLine ((('c', 169),), ()) -/
def c_75 : aCt := (90, 16, some [(169, 3, 8), (171, 1, 2), (171, 4, 6), (171, 8, 9), (171, 10, 12), (172, 0, 9), (173, 0, 9), (174, 0, 4), (175, 0, 3), (176, 0, 4), (177, 0, 220)], false, ([], [], [], 212), [(2, (169, []))], [(([], [], [], 212), none)])
def s_75 : List aCt := [c_28, c_29, c_31, c_33, c_34, c_41, c_47, c_51, c_55, c_73, c_74, c_30]
def h_75 : List (Nat × aS × Fm) := []
theorem e_75 : ckE 6000 gT s_75 (fun _ => 0) sp0 c_75 h_75 = true := by decide +kernel
theorem k_75 (hB : BytesOK) (g : bG) (l : Launch) : Keeps g l gT c_75 := keeps_of hB.1 hB.2 (List.forall_mem_cons.mpr ⟨k_28 hB g l, List.forall_mem_cons.mpr ⟨k_29 hB g l, List.forall_mem_cons.mpr ⟨k_31 hB g l, List.forall_mem_cons.mpr ⟨k_33 hB g l, List.forall_mem_cons.mpr ⟨k_34 hB g l, List.forall_mem_cons.mpr ⟨k_41 hB g l, List.forall_mem_cons.mpr ⟨k_47 hB g l, List.forall_mem_cons.mpr ⟨k_51 hB g l, List.forall_mem_cons.mpr ⟨k_55 hB g l, List.forall_mem_cons.mpr ⟨k_73 hB g l, List.forall_mem_cons.mpr ⟨k_74 hB g l, List.forall_mem_cons.mpr ⟨k_30 hB g l, nilK⟩⟩⟩⟩⟩⟩⟩⟩⟩⟩⟩⟩) e_75 nilK
/-- Terms.clear ((('c', 171),), ()) -/
def c_76 : aCt := (98, 0, some [(171, 0, 2), (171, 4, 6), (171, 8, 9), (171, 10, 12), (174, 0, 4), (176, 0, 4)], false, ([], [], [], 212), [(2, (171, []))], [(([], [], [], 212), none)])
def s_76 : List aCt := []
def h_76_0 : Nat × aS × Fm := (34, ([(0, (2, (171, []))), (1, (0, (0, [(0, 1)])))], [], ([(0, 4)], [], [], 212)), (9, [(0, (-2))]))
def h_76 : List (Nat × aS × Fm) := [h_76_0]
theorem e_76 : ckE 6000 gT s_76 (fun _ => 0) sp0 c_76 h_76 = true := by decide +kernel
theorem g_76_0 : ([h_76_0].all fun H => ckH 6000 gT s_76 (fun _ => 0) sp0 c_76 h_76 H) = true := by decide +kernel
theorem k_76 (hB : BytesOK) (g : bG) (l : Launch) : Keeps g l gT c_76 := keeps_of hB.1 hB.2 (nilK) e_76 (List.all_eq_true.mp g_76_0)
/-- Tape.parse ((('c', 169),), ()) -/
def c_77 : aCt := (82, 17, some [(169, 3, 8), (171, 0, 2), (171, 4, 6), (171, 8, 9), (171, 10, 12), (172, 0, 9), (173, 0, 9), (174, 0, 4), (175, 0, 3), (176, 0, 4), (177, 0, 220)], false, ([], [], [], 212), [(2, (169, []))], [(([((-1), 220)], [], [], 212), some (0, (0, [(0, 1)])))])
def s_77 : List aCt := [c_28, c_29, c_75, c_76]
def h_77_0 : Nat × aS × Fm := (23, ([(0, (2, (169, []))), (1, (0, (0, [(0, 1)])))], [], ([(0, 10)], [], [], 212)), (21, [(0, (-2))]))
def h_77 : List (Nat × aS × Fm) := [h_77_0]
theorem e_77 : ckE 6000 gT s_77 (fun _ => 0) sp0 c_77 h_77 = true := by decide +kernel
theorem g_77_0 : ([h_77_0].all fun H => ckH 6000 gT s_77 (fun _ => 0) sp0 c_77 h_77 H) = true := by decide +kernel
theorem k_77 (hB : BytesOK) (g : bG) (l : Launch) : Keeps g l gT c_77 := keeps_of hB.1 hB.2 (List.forall_mem_cons.mpr ⟨k_28 hB g l, List.forall_mem_cons.mpr ⟨k_29 hB g l, List.forall_mem_cons.mpr ⟨k_75 hB g l, List.forall_mem_cons.mpr ⟨k_76 hB g l, nilK⟩⟩⟩⟩) e_77 (List.all_eq_true.mp g_77_0)
/-- B.read ((('c', 0),), ()) -/
def c_78 : aCt := (136, 18, some [(1, 4, 5), (43, 0, 2), (43, 4, 6), (43, 8, 9), (43, 10, 12), (44, 0, 9), (45, 0, 9), (46, 0, 4), (47, 0, 3), (48, 0, 4), (49, 0, 220), (50, 0, 2), (50, 4, 6), (50, 8, 9), (50, 10, 12), (51, 0, 9), (52, 0, 9), (53, 0, 4), (54, 0, 3), (55, 0, 4), (56, 0, 220), (57, 0, 2), (57, 4, 6), (57, 8, 9), (57, 10, 12), (58, 0, 9), (59, 0, 9), (60, 0, 4), (61, 0, 3), (62, 0, 4), (63, 0, 220), (64, 0, 2), (64, 4, 6), (64, 8, 9), (64, 10, 12), (65, 0, 9), (66, 0, 9), (67, 0, 4), (68, 0, 3), (69, 0, 4), (70, 0, 220), (71, 0, 2), (71, 4, 6), (71, 8, 9), (71, 10, 12), (72, 0, 9), (73, 0, 9), (74, 0, 4), (75, 0, 3), (76, 0, 4), (77, 0, 220), (78, 0, 2), (78, 4, 6), (78, 8, 9), (78, 10, 12), (79, 0, 9), (80, 0, 9), (81, 0, 4), (82, 0, 3), (83, 0, 4), (84, 0, 220), (169, 0, 1), (169, 3, 8), (171, 0, 2), (171, 4, 6), (171, 8, 9), (171, 10, 12), (172, 0, 9), (173, 0, 9), (174, 0, 4), (175, 0, 3), (176, 0, 4), (177, 0, 220)], false, ([], [], [], 212), [(2, (0, []))], [(([((-1000), 5)], [], [], 212), some (0, (0, [(0, 1)])))])
def sp_78 : aSp := fun k pc S => if pc = 20 ∧ k = 24 then spS 0 [0, 1, 2, 3, 4] S else none
def s_78 : List aCt := [c_77, c_22, c_23, c_24, c_25, c_26, c_27]
def h_78 : List (Nat × aS × Fm) := []
theorem e_78 : ckE 6000 gT s_78 (fun _ => 0) sp_78 c_78 h_78 = true := by decide +kernel
theorem k_78 (hB : BytesOK) (g : bG) (l : Launch) : Keeps g l gT c_78 := keeps_of hB.1 hB.2 (List.forall_mem_cons.mpr ⟨k_77 hB g l, List.forall_mem_cons.mpr ⟨k_22 hB g l, List.forall_mem_cons.mpr ⟨k_23 hB g l, List.forall_mem_cons.mpr ⟨k_24 hB g l, List.forall_mem_cons.mpr ⟨k_25 hB g l, List.forall_mem_cons.mpr ⟨k_26 hB g l, List.forall_mem_cons.mpr ⟨k_27 hB g l, nilK⟩⟩⟩⟩⟩⟩⟩) e_78 nilK
/-- Terms.fact ((('c', 43), ('u', 0)), ()) -/
def c_79 : aCt := (101, 0, some [], false, ([((-2147483648), 2147483647)], [], [], 212), [(2, (43, [])), (0, (0, [(0, 1)]))], [(([((-2147483648), 2147483647), ((-9), 999)], [], [], 212), some (0, (0, [(1, 1)])))])
def s_79 : List aCt := []
def h_79 : List (Nat × aS × Fm) := []
theorem e_79 : ckE 6000 gT s_79 (fun _ => 0) sp0 c_79 h_79 = true := by decide +kernel
theorem k_79 (hB : BytesOK) (g : bG) (l : Launch) : Keeps g l gT c_79 := keeps_of hB.1 hB.2 (nilK) e_79 nilK
/-- Terms.fact ((('c', 50), ('u', 0)), ()) -/
def c_80 : aCt := (101, 0, some [], false, ([((-2147483648), 2147483647)], [], [], 212), [(2, (50, [])), (0, (0, [(0, 1)]))], [(([((-2147483648), 2147483647), ((-9), 999)], [], [], 212), some (0, (0, [(1, 1)])))])
def s_80 : List aCt := []
def h_80 : List (Nat × aS × Fm) := []
theorem e_80 : ckE 6000 gT s_80 (fun _ => 0) sp0 c_80 h_80 = true := by decide +kernel
theorem k_80 (hB : BytesOK) (g : bG) (l : Launch) : Keeps g l gT c_80 := keeps_of hB.1 hB.2 (nilK) e_80 nilK
/-- Terms.fact ((('c', 57), ('u', 0)), ()) -/
def c_81 : aCt := (101, 0, some [], false, ([((-2147483648), 2147483647)], [], [], 212), [(2, (57, [])), (0, (0, [(0, 1)]))], [(([((-2147483648), 2147483647), ((-9), 999)], [], [], 212), some (0, (0, [(1, 1)])))])
def s_81 : List aCt := []
def h_81 : List (Nat × aS × Fm) := []
theorem e_81 : ckE 6000 gT s_81 (fun _ => 0) sp0 c_81 h_81 = true := by decide +kernel
theorem k_81 (hB : BytesOK) (g : bG) (l : Launch) : Keeps g l gT c_81 := keeps_of hB.1 hB.2 (nilK) e_81 nilK
