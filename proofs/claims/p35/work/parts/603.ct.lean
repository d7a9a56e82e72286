/-- Tape.isWord ((('c', 169), ('c', 531)), ()) -/
def c_66 : aCt := (85, 4, some [], false, ([], [], [], 212), [(2, (169, [])), (2, (531, []))], [(([(0, 1)], [], [], 212), some (0, (0, [(0, 1)])))])
def s_66 : List aCt := []
def h_66 : List (Nat × aS × Fm) := []
theorem e_66 : ckE 6000 gT s_66 (fun _ => 0) sp0 c_66 h_66 = true := by decide +kernel
theorem k_66 (hB : BytesOK) (g : bG) (l : Launch) : Keeps g l gT c_66 := keeps_of hB.1 hB.2 (nilK) e_66 nilK
/-- Tape.isWord ((('c', 169), ('c', 525)), ()) -/
def c_67 : aCt := (85, 4, some [], false, ([], [], [], 212), [(2, (169, [])), (2, (525, []))], [(([(0, 1)], [], [], 212), some (0, (0, [(0, 1)])))])
def s_67 : List aCt := []
def h_67 : List (Nat × aS × Fm) := []
theorem e_67 : ckE 6000 gT s_67 (fun _ => 0) sp0 c_67 h_67 = true := by decide +kernel
theorem k_67 (hB : BytesOK) (g : bG) (l : Launch) : Keeps g l gT c_67 := keeps_of hB.1 hB.2 (nilK) e_67 nilK
/-- Tape.isWord ((('c', 169), ('c', 526)), ()) -/
def c_68 : aCt := (85, 4, some [], false, ([], [], [], 212), [(2, (169, [])), (2, (526, []))], [(([(0, 1)], [], [], 212), some (0, (0, [(0, 1)])))])
def s_68 : List aCt := []
def h_68 : List (Nat × aS × Fm) := []
theorem e_68 : ckE 6000 gT s_68 (fun _ => 0) sp0 c_68 h_68 = true := by decide +kernel
theorem k_68 (hB : BytesOK) (g : bG) (l : Launch) : Keeps g l gT c_68 := keeps_of hB.1 hB.2 (nilK) e_68 nilK
/-- Tape.isWord ((('c', 169), ('c', 527)), ()) -/
def c_69 : aCt := (85, 4, some [], false, ([], [], [], 212), [(2, (169, [])), (2, (527, []))], [(([(0, 1)], [], [], 212), some (0, (0, [(0, 1)])))])
def s_69 : List aCt := []
def h_69 : List (Nat × aS × Fm) := []
theorem e_69 : ckE 6000 gT s_69 (fun _ => 0) sp0 c_69 h_69 = true := by decide +kernel
theorem k_69 (hB : BytesOK) (g : bG) (l : Launch) : Keeps g l gT c_69 := keeps_of hB.1 hB.2 (nilK) e_69 nilK
/-- Tape.isWord ((('c', 169), ('c', 528)), ()) -/
def c_70 : aCt := (85, 4, some [], false, ([], [], [], 212), [(2, (169, [])), (2, (528, []))], [(([(0, 1)], [], [], 212), some (0, (0, [(0, 1)])))])
def s_70 : List aCt := []
def h_70 : List (Nat × aS × Fm) := []
theorem e_70 : ckE 6000 gT s_70 (fun _ => 0) sp0 c_70 h_70 = true := by decide +kernel
theorem k_70 (hB : BytesOK) (g : bG) (l : Launch) : Keeps g l gT c_70 := keeps_of hB.1 hB.2 (nilK) e_70 nilK
/-- Tape.isWord ((('c', 169), ('c', 529)), ()) -/
def c_71 : aCt := (85, 4, some [], false, ([], [], [], 212), [(2, (169, [])), (2, (529, []))], [(([(0, 1)], [], [], 212), some (0, (0, [(0, 1)])))])
def s_71 : List aCt := []
def h_71 : List (Nat × aS × Fm) := []
theorem e_71 : ckE 6000 gT s_71 (fun _ => 0) sp0 c_71 h_71 = true := by decide +kernel
theorem k_71 (hB : BytesOK) (g : bG) (l : Launch) : Keeps g l gT c_71 := keeps_of hB.1 hB.2 (nilK) e_71 nilK
/-- Tape.takeComparison ((('c', 169),), ()) -/
def c_72 : aCt := (96, 5, some [(169, 3, 8), (171, 11, 12), (177, 0, 220)], false, ([], [], [], 212), [(2, (169, []))], [(([(0, 1)], [], [], 212), some (0, (0, [(0, 1)])))])
def s_72 : List aCt := [c_37, c_38, c_47, c_69, c_70, c_71, c_40, c_43, c_39]
def h_72 : List (Nat × aS × Fm) := []
theorem e_72 : ckE 6000 gT s_72 (fun _ => 0) sp0 c_72 h_72 = true := by decide +kernel
theorem k_72 (hB : BytesOK) (g : bG) (l : Launch) : Keeps g l gT c_72 := keeps_of hB.1 hB.2 (List.forall_mem_cons.mpr ⟨k_37 hB g l, List.forall_mem_cons.mpr ⟨k_38 hB g l, List.forall_mem_cons.mpr ⟨k_47 hB g l, List.forall_mem_cons.mpr ⟨k_69 hB g l, List.forall_mem_cons.mpr ⟨k_70 hB g l, List.forall_mem_cons.mpr ⟨k_71 hB g l, List.forall_mem_cons.mpr ⟨k_40 hB g l, List.forall_mem_cons.mpr ⟨k_43 hB g l, List.forall_mem_cons.mpr ⟨k_39 hB g l, nilK⟩⟩⟩⟩⟩⟩⟩⟩⟩) e_72 nilK
/-- Tape.takeOne ((('c', 169), ('c', 4)), ()) -/
def c_73 : aCt := (95, 6, some [(169, 3, 8), (171, 11, 12), (177, 0, 220)], false, ([], [], [], 212), [(2, (169, [])), (0, (4, []))], [(([(0, 1)], [], [], 212), some (0, (0, [(0, 1)])))])
def s_73 : List aCt := [c_37, c_38, c_67, c_68, c_40, c_72, c_39]
def h_73_0 : Nat × aS × Fm := (4, ([(0, (2, (169, []))), (1, (0, (4, []))), (2, (0, (0, [(0, 1)]))), (3, (0, (0, [(1, 1)])))], [], ([(0, 1), (0, 220)], [], [], 212)), (441, [(1, (-2))]))
def h_73 : List (Nat × aS × Fm) := [h_73_0]
theorem e_73 : ckE 6000 gT s_73 (fun _ => 0) sp0 c_73 h_73 = true := by decide +kernel
theorem g_73_0 : ([h_73_0].all fun H => ckH 6000 gT s_73 (fun _ => 0) sp0 c_73 h_73 H) = true := by decide +kernel
theorem k_73 (hB : BytesOK) (g : bG) (l : Launch) : Keeps g l gT c_73 := keeps_of hB.1 hB.2 (List.forall_mem_cons.mpr ⟨k_37 hB g l, List.forall_mem_cons.mpr ⟨k_38 hB g l, List.forall_mem_cons.mpr ⟨k_67 hB g l, List.forall_mem_cons.mpr ⟨k_68 hB g l, List.forall_mem_cons.mpr ⟨k_40 hB g l, List.forall_mem_cons.mpr ⟨k_72 hB g l, List.forall_mem_cons.mpr ⟨k_39 hB g l, nilK⟩⟩⟩⟩⟩⟩⟩) e_73 (List.all_eq_true.mp g_73_0)
/-- Tape.takeCondition ((('c', 169), ('c', 4)), ()) -/
def c_74 : aCt := (94, 7, some [(169, 3, 8), (171, 11, 12), (177, 0, 220)], false, ([], [], [], 212), [(2, (169, [])), (0, (4, []))], [(([(0, 1)], [], [], 212), some (0, (0, [(0, 1)])))])
def s_74 : List aCt := [c_38, c_65, c_66, c_73, c_39]
def h_74_0 : Nat × aS × Fm := (14, ([(0, (2, (169, []))), (1, (0, (4, []))), (2, (0, (0, [(1, 1)]))), (3, (0, (0, [(0, 1)])))], [], ([(0, 220), (0, 1)], [], [], 212)), (441, [(0, (-2))]))
def h_74 : List (Nat × aS × Fm) := [h_74_0]
theorem e_74 : ckE 6000 gT s_74 (fun _ => 0) sp0 c_74 h_74 = true := by decide +kernel
theorem g_74_0 : ([h_74_0].all fun H => ckH 6000 gT s_74 (fun _ => 0) sp0 c_74 h_74 H) = true := by decide +kernel
theorem k_74 (hB : BytesOK) (g : bG) (l : Launch) : Keeps g l gT c_74 := keeps_of hB.1 hB.2 (List.forall_mem_cons.mpr ⟨k_38 hB g l, List.forall_mem_cons.mpr ⟨k_65 hB g l, List.forall_mem_cons.mpr ⟨k_66 hB g l, List.forall_mem_cons.mpr ⟨k_73 hB g l, List.forall_mem_cons.mpr ⟨k_39 hB g l, nilK⟩⟩⟩⟩⟩) e_74 (List.all_eq_true.mp g_74_0)
/-- Tape.takeOne ((('c', 169), ('c', 3)), ()) -/
def c_75 : aCt := (95, 8, some [(169, 3, 8), (171, 11, 12), (177, 0, 220)], false, ([], [], [], 212), [(2, (169, [])), (0, (3, []))], [(([(0, 1)], [], [], 212), some (0, (0, [(0, 1)])))])
def s_75 : List aCt := [c_37, c_38, c_67, c_68, c_40, c_74, c_72, c_39]
def h_75_0 : Nat × aS × Fm := (4, ([(0, (2, (169, []))), (1, (0, (3, []))), (2, (0, (0, [(0, 1)]))), (3, (0, (0, [(1, 1)])))], [], ([(0, 1), (0, 220)], [], [], 212)), (441, [(1, (-2))]))
def h_75 : List (Nat × aS × Fm) := [h_75_0]
theorem e_75 : ckE 6000 gT s_75 (fun _ => 0) sp0 c_75 h_75 = true := by decide +kernel
theorem g_75_0 : ([h_75_0].all fun H => ckH 6000 gT s_75 (fun _ => 0) sp0 c_75 h_75 H) = true := by decide +kernel
theorem k_75 (hB : BytesOK) (g : bG) (l : Launch) : Keeps g l gT c_75 := keeps_of hB.1 hB.2 (List.forall_mem_cons.mpr ⟨k_37 hB g l, List.forall_mem_cons.mpr ⟨k_38 hB g l, List.forall_mem_cons.mpr ⟨k_67 hB g l, List.forall_mem_cons.mpr ⟨k_68 hB g l, List.forall_mem_cons.mpr ⟨k_40 hB g l, List.forall_mem_cons.mpr ⟨k_74 hB g l, List.forall_mem_cons.mpr ⟨k_72 hB g l, List.forall_mem_cons.mpr ⟨k_39 hB g l, nilK⟩⟩⟩⟩⟩⟩⟩⟩) e_75 (List.all_eq_true.mp g_75_0)
/-- Tape.takeCondition ((('c', 169), ('c', 3)), ()) -/
def c_76 : aCt := (94, 9, some [(169, 3, 8), (171, 11, 12), (177, 0, 220)], false, ([], [], [], 212), [(2, (169, [])), (0, (3, []))], [(([(0, 1)], [], [], 212), some (0, (0, [(0, 1)])))])
def s_76 : List aCt := [c_38, c_65, c_66, c_75, c_39]
def h_76_0 : Nat × aS × Fm := (14, ([(0, (2, (169, []))), (1, (0, (3, []))), (2, (0, (0, [(1, 1)]))), (3, (0, (0, [(0, 1)])))], [], ([(0, 220), (0, 1)], [], [], 212)), (441, [(0, (-2))]))
def h_76 : List (Nat × aS × Fm) := [h_76_0]
theorem e_76 : ckE 6000 gT s_76 (fun _ => 0) sp0 c_76 h_76 = true := by decide +kernel
theorem g_76_0 : ([h_76_0].all fun H => ckH 6000 gT s_76 (fun _ => 0) sp0 c_76 h_76 H) = true := by decide +kernel
theorem k_76 (hB : BytesOK) (g : bG) (l : Launch) : Keeps g l gT c_76 := keeps_of hB.1 hB.2 (List.forall_mem_cons.mpr ⟨k_38 hB g l, List.forall_mem_cons.mpr ⟨k_65 hB g l, List.forall_mem_cons.mpr ⟨k_66 hB g l, List.forall_mem_cons.mpr ⟨k_75 hB g l, List.forall_mem_cons.mpr ⟨k_39 hB g l, nilK⟩⟩⟩⟩⟩) e_76 (List.all_eq_true.mp g_76_0)
/-- Tape.takeOne ((('c', 169), ('c', 2)), ()) -/
def c_77 : aCt := (95, 10, some [(169, 3, 8), (171, 11, 12), (177, 0, 220)], false, ([], [], [], 212), [(2, (169, [])), (0, (2, []))], [(([(0, 1)], [], [], 212), some (0, (0, [(0, 1)])))])
def s_77 : List aCt := [c_37, c_38, c_67, c_68, c_40, c_76, c_72, c_39]
def h_77_0 : Nat × aS × Fm := (4, ([(0, (2, (169, []))), (1, (0, (2, []))), (2, (0, (0, [(0, 1)]))), (3, (0, (0, [(1, 1)])))], [], ([(0, 1), (0, 220)], [], [], 212)), (441, [(1, (-2))]))
def h_77 : List (Nat × aS × Fm) := [h_77_0]
theorem e_77 : ckE 6000 gT s_77 (fun _ => 0) sp0 c_77 h_77 = true := by decide +kernel
theorem g_77_0 : ([h_77_0].all fun H => ckH 6000 gT s_77 (fun _ => 0) sp0 c_77 h_77 H) = true := by decide +kernel
theorem k_77 (hB : BytesOK) (g : bG) (l : Launch) : Keeps g l gT c_77 := keeps_of hB.1 hB.2 (List.forall_mem_cons.mpr ⟨k_37 hB g l, List.forall_mem_cons.mpr ⟨k_38 hB g l, List.forall_mem_cons.mpr ⟨k_67 hB g l, List.forall_mem_cons.mpr ⟨k_68 hB g l, List.forall_mem_cons.mpr ⟨k_40 hB g l, List.forall_mem_cons.mpr ⟨k_76 hB g l, List.forall_mem_cons.mpr ⟨k_72 hB g l, List.forall_mem_cons.mpr ⟨k_39 hB g l, nilK⟩⟩⟩⟩⟩⟩⟩⟩) e_77 (List.all_eq_true.mp g_77_0)
/-- Tape.takeCondition ((('c', 169), ('c', 2)), ()) -/
def c_78 : aCt := (94, 11, some [(169, 3, 8), (171, 11, 12), (177, 0, 220)], false, ([], [], [], 212), [(2, (169, [])), (0, (2, []))], [(([(0, 1)], [], [], 212), some (0, (0, [(0, 1)])))])
def s_78 : List aCt := [c_38, c_65, c_66, c_77, c_39]
def h_78_0 : Nat × aS × Fm := (14, ([(0, (2, (169, []))), (1, (0, (2, []))), (2, (0, (0, [(1, 1)]))), (3, (0, (0, [(0, 1)])))], [], ([(0, 220), (0, 1)], [], [], 212)), (441, [(0, (-2))]))
def h_78 : List (Nat × aS × Fm) := [h_78_0]
theorem e_78 : ckE 6000 gT s_78 (fun _ => 0) sp0 c_78 h_78 = true := by decide +kernel
theorem g_78_0 : ([h_78_0].all fun H => ckH 6000 gT s_78 (fun _ => 0) sp0 c_78 h_78 H) = true := by decide +kernel
theorem k_78 (hB : BytesOK) (g : bG) (l : Launch) : Keeps g l gT c_78 := keeps_of hB.1 hB.2 (List.forall_mem_cons.mpr ⟨k_38 hB g l, List.forall_mem_cons.mpr ⟨k_65 hB g l, List.forall_mem_cons.mpr ⟨k_66 hB g l, List.forall_mem_cons.mpr ⟨k_77 hB g l, List.forall_mem_cons.mpr ⟨k_39 hB g l, nilK⟩⟩⟩⟩⟩) e_78 (List.all_eq_true.mp g_78_0)
/-- Tape.takeOne ((('c', 169), ('c', 1)), ()) -/
def c_79 : aCt := (95, 12, some [(169, 3, 8), (171, 11, 12), (177, 0, 220)], false, ([], [], [], 212), [(2, (169, [])), (0, (1, []))], [(([(0, 1)], [], [], 212), some (0, (0, [(0, 1)])))])
def s_79 : List aCt := [c_37, c_38, c_67, c_68, c_40, c_78, c_72, c_39]
def h_79_0 : Nat × aS × Fm := (4, ([(0, (2, (169, []))), (1, (0, (1, []))), (2, (0, (0, [(0, 1)]))), (3, (0, (0, [(1, 1)])))], [], ([(0, 1), (0, 220)], [], [], 212)), (441, [(1, (-2))]))
def h_79 : List (Nat × aS × Fm) := [h_79_0]
theorem e_79 : ckE 6000 gT s_79 (fun _ => 0) sp0 c_79 h_79 = true := by decide +kernel
theorem g_79_0 : ([h_79_0].all fun H => ckH 6000 gT s_79 (fun _ => 0) sp0 c_79 h_79 H) = true := by decide +kernel
theorem k_79 (hB : BytesOK) (g : bG) (l : Launch) : Keeps g l gT c_79 := keeps_of hB.1 hB.2 (List.forall_mem_cons.mpr ⟨k_37 hB g l, List.forall_mem_cons.mpr ⟨k_38 hB g l, List.forall_mem_cons.mpr ⟨k_67 hB g l, List.forall_mem_cons.mpr ⟨k_68 hB g l, List.forall_mem_cons.mpr ⟨k_40 hB g l, List.forall_mem_cons.mpr ⟨k_78 hB g l, List.forall_mem_cons.mpr ⟨k_72 hB g l, List.forall_mem_cons.mpr ⟨k_39 hB g l, nilK⟩⟩⟩⟩⟩⟩⟩⟩) e_79 (List.all_eq_true.mp g_79_0)
/-- Tape.takeCondition ((('c', 169), ('c', 1)), ()) -/
def c_80 : aCt := (94, 13, some [(169, 3, 8), (171, 11, 12), (177, 0, 220)], false, ([], [], [], 212), [(2, (169, [])), (0, (1, []))], [(([(0, 1)], [], [], 212), some (0, (0, [(0, 1)])))])
def s_80 : List aCt := [c_38, c_65, c_66, c_79, c_39]
def h_80_0 : Nat × aS × Fm := (14, ([(0, (2, (169, []))), (1, (0, (1, []))), (2, (0, (0, [(1, 1)]))), (3, (0, (0, [(0, 1)])))], [], ([(0, 220), (0, 1)], [], [], 212)), (441, [(0, (-2))]))
def h_80 : List (Nat × aS × Fm) := [h_80_0]
theorem e_80 : ckE 6000 gT s_80 (fun _ => 0) sp0 c_80 h_80 = true := by decide +kernel
theorem g_80_0 : ([h_80_0].all fun H => ckH 6000 gT s_80 (fun _ => 0) sp0 c_80 h_80 H) = true := by decide +kernel
theorem k_80 (hB : BytesOK) (g : bG) (l : Launch) : Keeps g l gT c_80 := keeps_of hB.1 hB.2 (List.forall_mem_cons.mpr ⟨k_38 hB g l, List.forall_mem_cons.mpr ⟨k_65 hB g l, List.forall_mem_cons.mpr ⟨k_66 hB g l, List.forall_mem_cons.mpr ⟨k_79 hB g l, List.forall_mem_cons.mpr ⟨k_39 hB g l, nilK⟩⟩⟩⟩⟩) e_80 (List.all_eq_true.mp g_80_0)
/-- Tape.takeOne ((('c', 169), ('c', 0)), ()) -/
def c_81 : aCt := (95, 14, some [(169, 3, 8), (171, 11, 12), (177, 0, 220)], false, ([], [], [], 212), [(2, (169, [])), (0, (0, []))], [(([(0, 1)], [], [], 212), some (0, (0, [(0, 1)])))])
def s_81 : List aCt := [c_37, c_38, c_67, c_68, c_40, c_80, c_72, c_39]
def h_81_0 : Nat × aS × Fm := (4, ([(0, (2, (169, []))), (1, (0, (0, []))), (2, (0, (0, [(0, 1)]))), (3, (0, (0, [(1, 1)])))], [], ([(0, 1), (0, 220)], [], [], 212)), (441, [(1, (-2))]))
def h_81 : List (Nat × aS × Fm) := [h_81_0]
theorem e_81 : ckE 6000 gT s_81 (fun _ => 0) sp0 c_81 h_81 = true := by decide +kernel
theorem g_81_0 : ([h_81_0].all fun H => ckH 6000 gT s_81 (fun _ => 0) sp0 c_81 h_81 H) = true := by decide +kernel
theorem k_81 (hB : BytesOK) (g : bG) (l : Launch) : Keeps g l gT c_81 := keeps_of hB.1 hB.2 (List.forall_mem_cons.mpr ⟨k_37 hB g l, List.forall_mem_cons.mpr ⟨k_38 hB g l, List.forall_mem_cons.mpr ⟨k_67 hB g l, List.forall_mem_cons.mpr ⟨k_68 hB g l, List.forall_mem_cons.mpr ⟨k_40 hB g l, List.forall_mem_cons.mpr ⟨k_80 hB g l, List.forall_mem_cons.mpr ⟨k_72 hB g l, List.forall_mem_cons.mpr ⟨k_39 hB g l, nilK⟩⟩⟩⟩⟩⟩⟩⟩) e_81 (List.all_eq_true.mp g_81_0)
/-- Tape.takeCondition ((('c', 169), ('c', 0)), ()) -/
def c_82 : aCt := (94, 15, some [(169, 3, 8), (171, 11, 12), (177, 0, 220)], false, ([], [], [], 212), [(2, (169, [])), (0, (0, []))], [(([(0, 1)], [], [], 212), some (0, (0, [(0, 1)])))])
def s_82 : List aCt := [c_38, c_65, c_66, c_81, c_39]
def h_82_0 : Nat × aS × Fm := (14, ([(0, (2, (169, []))), (1, (0, (0, []))), (2, (0, (0, [(1, 1)]))), (3, (0, (0, [(0, 1)])))], [], ([(0, 220), (0, 1)], [], [], 212)), (441, [(0, (-2))]))
def h_82 : List (Nat × aS × Fm) := [h_82_0]
theorem e_82 : ckE 6000 gT s_82 (fun _ => 0) sp0 c_82 h_82 = true := by decide +kernel
theorem g_82_0 : ([h_82_0].all fun H => ckH 6000 gT s_82 (fun _ => 0) sp0 c_82 h_82 H) = true := by decide +kernel
theorem k_82 (hB : BytesOK) (g : bG) (l : Launch) : Keeps g l gT c_82 := keeps_of hB.1 hB.2 (List.forall_mem_cons.mpr ⟨k_38 hB g l, List.forall_mem_cons.mpr ⟨k_65 hB g l, List.forall_mem_cons.mpr ⟨k_66 hB g l, List.forall_mem_cons.mpr ⟨k_81 hB g l, List.forall_mem_cons.mpr ⟨k_39 hB g l, nilK⟩⟩⟩⟩⟩) e_82 (List.all_eq_true.mp g_82_0)
