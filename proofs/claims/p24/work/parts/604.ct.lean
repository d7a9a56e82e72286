/-- Tape.takeComparison ((('c', 169),), ()) -/
def c_84 : aCt := (96, 5, some [(169, 3, 8), (171, 11, 12), (177, 0, 220)], false, ([], [], [], 212), [(2, (169, []))], [(([(0, 1)], [], [], 212), some (0, (0, [(0, 1)])))])
def s_84 : List aCt := [c_49, c_50, c_59, c_81, c_82, c_83, c_52, c_55, c_51]
def h_84 : List (Nat × aS × Fm) := []
theorem e_84 : ckE 6000 gT s_84 (fun _ => 0) sp0 c_84 h_84 = true := by decide +kernel
theorem k_84 (hB : BytesOK) (g : bG) (l : Launch) : Keeps g l gT c_84 := keeps_of hB.1 hB.2 (List.forall_mem_cons.mpr ⟨k_49 hB g l, List.forall_mem_cons.mpr ⟨k_50 hB g l, List.forall_mem_cons.mpr ⟨k_59 hB g l, List.forall_mem_cons.mpr ⟨k_81 hB g l, List.forall_mem_cons.mpr ⟨k_82 hB g l, List.forall_mem_cons.mpr ⟨k_83 hB g l, List.forall_mem_cons.mpr ⟨k_52 hB g l, List.forall_mem_cons.mpr ⟨k_55 hB g l, List.forall_mem_cons.mpr ⟨k_51 hB g l, nilK⟩⟩⟩⟩⟩⟩⟩⟩⟩) e_84 nilK
/-- Tape.takeOne ((('c', 169), ('c', 4)), ()) -/
def c_85 : aCt := (95, 6, some [(169, 3, 8), (171, 11, 12), (177, 0, 220)], false, ([], [], [], 212), [(2, (169, [])), (0, (4, []))], [(([(0, 1)], [], [], 212), some (0, (0, [(0, 1)])))])
def s_85 : List aCt := [c_49, c_50, c_79, c_80, c_52, c_84, c_51]
def h_85_0 : Nat × aS × Fm := (4, ([(0, (2, (169, []))), (1, (0, (4, []))), (2, (0, (0, [(0, 1)]))), (3, (0, (0, [(1, 1)])))], [], ([(0, 1), (0, 220)], [], [], 212)), (441, [(1, (-2))]))
def h_85 : List (Nat × aS × Fm) := [h_85_0]
theorem e_85 : ckE 6000 gT s_85 (fun _ => 0) sp0 c_85 h_85 = true := by decide +kernel
theorem g_85_0 : ([h_85_0].all fun H => ckH 6000 gT s_85 (fun _ => 0) sp0 c_85 h_85 H) = true := by decide +kernel
theorem k_85 (hB : BytesOK) (g : bG) (l : Launch) : Keeps g l gT c_85 := keeps_of hB.1 hB.2 (List.forall_mem_cons.mpr ⟨k_49 hB g l, List.forall_mem_cons.mpr ⟨k_50 hB g l, List.forall_mem_cons.mpr ⟨k_79 hB g l, List.forall_mem_cons.mpr ⟨k_80 hB g l, List.forall_mem_cons.mpr ⟨k_52 hB g l, List.forall_mem_cons.mpr ⟨k_84 hB g l, List.forall_mem_cons.mpr ⟨k_51 hB g l, nilK⟩⟩⟩⟩⟩⟩⟩) e_85 (List.all_eq_true.mp g_85_0)
/-- Tape.takeCondition ((('c', 169), ('c', 4)), ()) -/
def c_86 : aCt := (94, 7, some [(169, 3, 8), (171, 11, 12), (177, 0, 220)], false, ([], [], [], 212), [(2, (169, [])), (0, (4, []))], [(([(0, 1)], [], [], 212), some (0, (0, [(0, 1)])))])
def s_86 : List aCt := [c_50, c_77, c_78, c_85, c_51]
def h_86_0 : Nat × aS × Fm := (14, ([(0, (2, (169, []))), (1, (0, (4, []))), (2, (0, (0, [(1, 1)]))), (3, (0, (0, [(0, 1)])))], [], ([(0, 220), (0, 1)], [], [], 212)), (441, [(0, (-2))]))
def h_86 : List (Nat × aS × Fm) := [h_86_0]
theorem e_86 : ckE 6000 gT s_86 (fun _ => 0) sp0 c_86 h_86 = true := by decide +kernel
theorem g_86_0 : ([h_86_0].all fun H => ckH 6000 gT s_86 (fun _ => 0) sp0 c_86 h_86 H) = true := by decide +kernel
theorem k_86 (hB : BytesOK) (g : bG) (l : Launch) : Keeps g l gT c_86 := keeps_of hB.1 hB.2 (List.forall_mem_cons.mpr ⟨k_50 hB g l, List.forall_mem_cons.mpr ⟨k_77 hB g l, List.forall_mem_cons.mpr ⟨k_78 hB g l, List.forall_mem_cons.mpr ⟨k_85 hB g l, List.forall_mem_cons.mpr ⟨k_51 hB g l, nilK⟩⟩⟩⟩⟩) e_86 (List.all_eq_true.mp g_86_0)
/-- Tape.takeOne ((('c', 169), ('c', 3)), ()) -/
def c_87 : aCt := (95, 8, some [(169, 3, 8), (171, 11, 12), (177, 0, 220)], false, ([], [], [], 212), [(2, (169, [])), (0, (3, []))], [(([(0, 1)], [], [], 212), some (0, (0, [(0, 1)])))])
def s_87 : List aCt := [c_49, c_50, c_79, c_80, c_52, c_86, c_84, c_51]
def h_87_0 : Nat × aS × Fm := (4, ([(0, (2, (169, []))), (1, (0, (3, []))), (2, (0, (0, [(0, 1)]))), (3, (0, (0, [(1, 1)])))], [], ([(0, 1), (0, 220)], [], [], 212)), (441, [(1, (-2))]))
def h_87 : List (Nat × aS × Fm) := [h_87_0]
theorem e_87 : ckE 6000 gT s_87 (fun _ => 0) sp0 c_87 h_87 = true := by decide +kernel
theorem g_87_0 : ([h_87_0].all fun H => ckH 6000 gT s_87 (fun _ => 0) sp0 c_87 h_87 H) = true := by decide +kernel
theorem k_87 (hB : BytesOK) (g : bG) (l : Launch) : Keeps g l gT c_87 := keeps_of hB.1 hB.2 (List.forall_mem_cons.mpr ⟨k_49 hB g l, List.forall_mem_cons.mpr ⟨k_50 hB g l, List.forall_mem_cons.mpr ⟨k_79 hB g l, List.forall_mem_cons.mpr ⟨k_80 hB g l, List.forall_mem_cons.mpr ⟨k_52 hB g l, List.forall_mem_cons.mpr ⟨k_86 hB g l, List.forall_mem_cons.mpr ⟨k_84 hB g l, List.forall_mem_cons.mpr ⟨k_51 hB g l, nilK⟩⟩⟩⟩⟩⟩⟩⟩) e_87 (List.all_eq_true.mp g_87_0)
/-- Tape.takeCondition ((('c', 169), ('c', 3)), ()) -/
def c_88 : aCt := (94, 9, some [(169, 3, 8), (171, 11, 12), (177, 0, 220)], false, ([], [], [], 212), [(2, (169, [])), (0, (3, []))], [(([(0, 1)], [], [], 212), some (0, (0, [(0, 1)])))])
def s_88 : List aCt := [c_50, c_77, c_78, c_87, c_51]
def h_88_0 : Nat × aS × Fm := (14, ([(0, (2, (169, []))), (1, (0, (3, []))), (2, (0, (0, [(1, 1)]))), (3, (0, (0, [(0, 1)])))], [], ([(0, 220), (0, 1)], [], [], 212)), (441, [(0, (-2))]))
def h_88 : List (Nat × aS × Fm) := [h_88_0]
theorem e_88 : ckE 6000 gT s_88 (fun _ => 0) sp0 c_88 h_88 = true := by decide +kernel
theorem g_88_0 : ([h_88_0].all fun H => ckH 6000 gT s_88 (fun _ => 0) sp0 c_88 h_88 H) = true := by decide +kernel
theorem k_88 (hB : BytesOK) (g : bG) (l : Launch) : Keeps g l gT c_88 := keeps_of hB.1 hB.2 (List.forall_mem_cons.mpr ⟨k_50 hB g l, List.forall_mem_cons.mpr ⟨k_77 hB g l, List.forall_mem_cons.mpr ⟨k_78 hB g l, List.forall_mem_cons.mpr ⟨k_87 hB g l, List.forall_mem_cons.mpr ⟨k_51 hB g l, nilK⟩⟩⟩⟩⟩) e_88 (List.all_eq_true.mp g_88_0)
/-- Tape.takeOne ((('c', 169), ('c', 2)), ()) -/
def c_89 : aCt := (95, 10, some [(169, 3, 8), (171, 11, 12), (177, 0, 220)], false, ([], [], [], 212), [(2, (169, [])), (0, (2, []))], [(([(0, 1)], [], [], 212), some (0, (0, [(0, 1)])))])
def s_89 : List aCt := [c_49, c_50, c_79, c_80, c_52, c_88, c_84, c_51]
def h_89_0 : Nat × aS × Fm := (4, ([(0, (2, (169, []))), (1, (0, (2, []))), (2, (0, (0, [(0, 1)]))), (3, (0, (0, [(1, 1)])))], [], ([(0, 1), (0, 220)], [], [], 212)), (441, [(1, (-2))]))
def h_89 : List (Nat × aS × Fm) := [h_89_0]
theorem e_89 : ckE 6000 gT s_89 (fun _ => 0) sp0 c_89 h_89 = true := by decide +kernel
theorem g_89_0 : ([h_89_0].all fun H => ckH 6000 gT s_89 (fun _ => 0) sp0 c_89 h_89 H) = true := by decide +kernel
theorem k_89 (hB : BytesOK) (g : bG) (l : Launch) : Keeps g l gT c_89 := keeps_of hB.1 hB.2 (List.forall_mem_cons.mpr ⟨k_49 hB g l, List.forall_mem_cons.mpr ⟨k_50 hB g l, List.forall_mem_cons.mpr ⟨k_79 hB g l, List.forall_mem_cons.mpr ⟨k_80 hB g l, List.forall_mem_cons.mpr ⟨k_52 hB g l, List.forall_mem_cons.mpr ⟨k_88 hB g l, List.forall_mem_cons.mpr ⟨k_84 hB g l, List.forall_mem_cons.mpr ⟨k_51 hB g l, nilK⟩⟩⟩⟩⟩⟩⟩⟩) e_89 (List.all_eq_true.mp g_89_0)
/-- Tape.takeCondition ((('c', 169), ('c', 2)), ()) -/
def c_90 : aCt := (94, 11, some [(169, 3, 8), (171, 11, 12), (177, 0, 220)], false, ([], [], [], 212), [(2, (169, [])), (0, (2, []))], [(([(0, 1)], [], [], 212), some (0, (0, [(0, 1)])))])
def s_90 : List aCt := [c_50, c_77, c_78, c_89, c_51]
def h_90_0 : Nat × aS × Fm := (14, ([(0, (2, (169, []))), (1, (0, (2, []))), (2, (0, (0, [(1, 1)]))), (3, (0, (0, [(0, 1)])))], [], ([(0, 220), (0, 1)], [], [], 212)), (441, [(0, (-2))]))
def h_90 : List (Nat × aS × Fm) := [h_90_0]
theorem e_90 : ckE 6000 gT s_90 (fun _ => 0) sp0 c_90 h_90 = true := by decide +kernel
theorem g_90_0 : ([h_90_0].all fun H => ckH 6000 gT s_90 (fun _ => 0) sp0 c_90 h_90 H) = true := by decide +kernel
theorem k_90 (hB : BytesOK) (g : bG) (l : Launch) : Keeps g l gT c_90 := keeps_of hB.1 hB.2 (List.forall_mem_cons.mpr ⟨k_50 hB g l, List.forall_mem_cons.mpr ⟨k_77 hB g l, List.forall_mem_cons.mpr ⟨k_78 hB g l, List.forall_mem_cons.mpr ⟨k_89 hB g l, List.forall_mem_cons.mpr ⟨k_51 hB g l, nilK⟩⟩⟩⟩⟩) e_90 (List.all_eq_true.mp g_90_0)
/-- Tape.takeOne ((('c', 169), ('c', 1)), ()) -/
def c_91 : aCt := (95, 12, some [(169, 3, 8), (171, 11, 12), (177, 0, 220)], false, ([], [], [], 212), [(2, (169, [])), (0, (1, []))], [(([(0, 1)], [], [], 212), some (0, (0, [(0, 1)])))])
def s_91 : List aCt := [c_49, c_50, c_79, c_80, c_52, c_90, c_84, c_51]
def h_91_0 : Nat × aS × Fm := (4, ([(0, (2, (169, []))), (1, (0, (1, []))), (2, (0, (0, [(0, 1)]))), (3, (0, (0, [(1, 1)])))], [], ([(0, 1), (0, 220)], [], [], 212)), (441, [(1, (-2))]))
def h_91 : List (Nat × aS × Fm) := [h_91_0]
theorem e_91 : ckE 6000 gT s_91 (fun _ => 0) sp0 c_91 h_91 = true := by decide +kernel
theorem g_91_0 : ([h_91_0].all fun H => ckH 6000 gT s_91 (fun _ => 0) sp0 c_91 h_91 H) = true := by decide +kernel
theorem k_91 (hB : BytesOK) (g : bG) (l : Launch) : Keeps g l gT c_91 := keeps_of hB.1 hB.2 (List.forall_mem_cons.mpr ⟨k_49 hB g l, List.forall_mem_cons.mpr ⟨k_50 hB g l, List.forall_mem_cons.mpr ⟨k_79 hB g l, List.forall_mem_cons.mpr ⟨k_80 hB g l, List.forall_mem_cons.mpr ⟨k_52 hB g l, List.forall_mem_cons.mpr ⟨k_90 hB g l, List.forall_mem_cons.mpr ⟨k_84 hB g l, List.forall_mem_cons.mpr ⟨k_51 hB g l, nilK⟩⟩⟩⟩⟩⟩⟩⟩) e_91 (List.all_eq_true.mp g_91_0)
/-- Tape.takeCondition ((('c', 169), ('c', 1)), ()) -/
def c_92 : aCt := (94, 13, some [(169, 3, 8), (171, 11, 12), (177, 0, 220)], false, ([], [], [], 212), [(2, (169, [])), (0, (1, []))], [(([(0, 1)], [], [], 212), some (0, (0, [(0, 1)])))])
def s_92 : List aCt := [c_50, c_77, c_78, c_91, c_51]
def h_92_0 : Nat × aS × Fm := (14, ([(0, (2, (169, []))), (1, (0, (1, []))), (2, (0, (0, [(1, 1)]))), (3, (0, (0, [(0, 1)])))], [], ([(0, 220), (0, 1)], [], [], 212)), (441, [(0, (-2))]))
def h_92 : List (Nat × aS × Fm) := [h_92_0]
theorem e_92 : ckE 6000 gT s_92 (fun _ => 0) sp0 c_92 h_92 = true := by decide +kernel
theorem g_92_0 : ([h_92_0].all fun H => ckH 6000 gT s_92 (fun _ => 0) sp0 c_92 h_92 H) = true := by decide +kernel
theorem k_92 (hB : BytesOK) (g : bG) (l : Launch) : Keeps g l gT c_92 := keeps_of hB.1 hB.2 (List.forall_mem_cons.mpr ⟨k_50 hB g l, List.forall_mem_cons.mpr ⟨k_77 hB g l, List.forall_mem_cons.mpr ⟨k_78 hB g l, List.forall_mem_cons.mpr ⟨k_91 hB g l, List.forall_mem_cons.mpr ⟨k_51 hB g l, nilK⟩⟩⟩⟩⟩) e_92 (List.all_eq_true.mp g_92_0)
/-- Tape.takeOne ((('c', 169), ('c', 0)), ()) -/
def c_93 : aCt := (95, 14, some [(169, 3, 8), (171, 11, 12), (177, 0, 220)], false, ([], [], [], 212), [(2, (169, [])), (0, (0, []))], [(([(0, 1)], [], [], 212), some (0, (0, [(0, 1)])))])
def s_93 : List aCt := [c_49, c_50, c_79, c_80, c_52, c_92, c_84, c_51]
def h_93_0 : Nat × aS × Fm := (4, ([(0, (2, (169, []))), (1, (0, (0, []))), (2, (0, (0, [(0, 1)]))), (3, (0, (0, [(1, 1)])))], [], ([(0, 1), (0, 220)], [], [], 212)), (441, [(1, (-2))]))
def h_93 : List (Nat × aS × Fm) := [h_93_0]
theorem e_93 : ckE 6000 gT s_93 (fun _ => 0) sp0 c_93 h_93 = true := by decide +kernel
theorem g_93_0 : ([h_93_0].all fun H => ckH 6000 gT s_93 (fun _ => 0) sp0 c_93 h_93 H) = true := by decide +kernel
theorem k_93 (hB : BytesOK) (g : bG) (l : Launch) : Keeps g l gT c_93 := keeps_of hB.1 hB.2 (List.forall_mem_cons.mpr ⟨k_49 hB g l, List.forall_mem_cons.mpr ⟨k_50 hB g l, List.forall_mem_cons.mpr ⟨k_79 hB g l, List.forall_mem_cons.mpr ⟨k_80 hB g l, List.forall_mem_cons.mpr ⟨k_52 hB g l, List.forall_mem_cons.mpr ⟨k_92 hB g l, List.forall_mem_cons.mpr ⟨k_84 hB g l, List.forall_mem_cons.mpr ⟨k_51 hB g l, nilK⟩⟩⟩⟩⟩⟩⟩⟩) e_93 (List.all_eq_true.mp g_93_0)
/-- Tape.takeCondition ((('c', 169), ('c', 0)), ()) -/
def c_94 : aCt := (94, 15, some [(169, 3, 8), (171, 11, 12), (177, 0, 220)], false, ([], [], [], 212), [(2, (169, [])), (0, (0, []))], [(([(0, 1)], [], [], 212), some (0, (0, [(0, 1)])))])
def s_94 : List aCt := [c_50, c_77, c_78, c_93, c_51]
def h_94_0 : Nat × aS × Fm := (14, ([(0, (2, (169, []))), (1, (0, (0, []))), (2, (0, (0, [(1, 1)]))), (3, (0, (0, [(0, 1)])))], [], ([(0, 220), (0, 1)], [], [], 212)), (441, [(0, (-2))]))
def h_94 : List (Nat × aS × Fm) := [h_94_0]
theorem e_94 : ckE 6000 gT s_94 (fun _ => 0) sp0 c_94 h_94 = true := by decide +kernel
theorem g_94_0 : ([h_94_0].all fun H => ckH 6000 gT s_94 (fun _ => 0) sp0 c_94 h_94 H) = true := by decide +kernel
theorem k_94 (hB : BytesOK) (g : bG) (l : Launch) : Keeps g l gT c_94 := keeps_of hB.1 hB.2 (List.forall_mem_cons.mpr ⟨k_50 hB g l, List.forall_mem_cons.mpr ⟨k_77 hB g l, List.forall_mem_cons.mpr ⟨k_78 hB g l, List.forall_mem_cons.mpr ⟨k_93 hB g l, List.forall_mem_cons.mpr ⟨k_51 hB g l, nilK⟩⟩⟩⟩⟩) e_94 (List.all_eq_true.mp g_94_0)
/-- Terms.addLine ((('c', 171), ('u', 0), ('u', 0)), ()) -/
def c_95 : aCt := (99, 0, some [(171, 1, 2), (172, 0, 9), (173, 0, 9)], false, ([(0, 5), ((-9), 999)], [], [], 212), [(2, (171, [])), (0, (0, [(0, 1)])), (0, (0, [(1, 1)]))], [(([(0, 5), ((-9), 999)], [], [], 212), none)])
def s_95 : List aCt := []
def h_95 : List (Nat × aS × Fm) := []
theorem e_95 : ckE 6000 gT s_95 (fun _ => 0) sp0 c_95 h_95 = true := by decide +kernel
theorem k_95 (hB : BytesOK) (g : bG) (l : Launch) : Keeps g l gT c_95 := keeps_of hB.1 hB.2 (nilK) e_95 nilK
/-- Tape.takeLine ((('c', 169),), ()) -/
def c_96 : aCt := (90, 16, some [(169, 3, 8), (171, 1, 2), (171, 4, 6), (171, 8, 9), (171, 10, 12), (172, 0, 9), (173, 0, 9), (174, 0, 4), (175, 0, 3), (176, 0, 4), (177, 0, 220)], false, ([], [], [], 212), [(2, (169, []))], [(([], [], [], 212), none)])
def s_96 : List aCt := [c_49, c_50, c_52, c_54, c_55, c_62, c_68, c_72, c_76, c_94, c_95, c_51]
def h_96 : List (Nat × aS × Fm) := []
theorem e_96 : ckE 6000 gT s_96 (fun _ => 0) sp0 c_96 h_96 = true := by decide +kernel
theorem k_96 (hB : BytesOK) (g : bG) (l : Launch) : Keeps g l gT c_96 := keeps_of hB.1 hB.2 (List.forall_mem_cons.mpr ⟨k_49 hB g l, List.forall_mem_cons.mpr ⟨k_50 hB g l, List.forall_mem_cons.mpr ⟨k_52 hB g l, List.forall_mem_cons.mpr ⟨k_54 hB g l, List.forall_mem_cons.mpr ⟨k_55 hB g l, List.forall_mem_cons.mpr ⟨k_62 hB g l, List.forall_mem_cons.mpr ⟨k_68 hB g l, List.forall_mem_cons.mpr ⟨k_72 hB g l, List.forall_mem_cons.mpr ⟨k_76 hB g l, List.forall_mem_cons.mpr ⟨k_94 hB g l, List.forall_mem_cons.mpr ⟨k_95 hB g l, List.forall_mem_cons.mpr ⟨k_51 hB g l, nilK⟩⟩⟩⟩⟩⟩⟩⟩⟩⟩⟩⟩) e_96 nilK
/-- Terms.clear ((('c', 171),), ()) -/
def c_97 : aCt := (98, 0, some [(171, 0, 2), (171, 4, 6), (171, 8, 9), (171, 10, 12), (174, 0, 4), (176, 0, 4)], false, ([], [], [], 212), [(2, (171, []))], [(([], [], [], 212), none)])
def s_97 : List aCt := []
def h_97_0 : Nat × aS × Fm := (34, ([(0, (2, (171, []))), (1, (0, (0, [(0, 1)])))], [], ([(0, 4)], [], [], 212)), (9, [(0, (-2))]))
def h_97 : List (Nat × aS × Fm) := [h_97_0]
theorem e_97 : ckE 6000 gT s_97 (fun _ => 0) sp0 c_97 h_97 = true := by decide +kernel
theorem g_97_0 : ([h_97_0].all fun H => ckH 6000 gT s_97 (fun _ => 0) sp0 c_97 h_97 H) = true := by decide +kernel
theorem k_97 (hB : BytesOK) (g : bG) (l : Launch) : Keeps g l gT c_97 := keeps_of hB.1 hB.2 (nilK) e_97 (List.all_eq_true.mp g_97_0)
/-- Tape.parse ((('c', 169),), ()) -/
def c_98 : aCt := (82, 17, some [(169, 3, 8), (171, 0, 2), (171, 4, 6), (171, 8, 9), (171, 10, 12), (172, 0, 9), (173, 0, 9), (174, 0, 4), (175, 0, 3), (176, 0, 4), (177, 0, 220)], false, ([], [], [], 212), [(2, (169, []))], [(([((-1), 220)], [], [], 212), some (0, (0, [(0, 1)])))])
def s_98 : List aCt := [c_49, c_50, c_96, c_97]
def h_98_0 : Nat × aS × Fm := (23, ([(0, (2, (169, []))), (1, (0, (0, [(0, 1)])))], [], ([(0, 10)], [], [], 212)), (21, [(0, (-2))]))
def h_98 : List (Nat × aS × Fm) := [h_98_0]
theorem e_98 : ckE 6000 gT s_98 (fun _ => 0) sp0 c_98 h_98 = true := by decide +kernel
theorem g_98_0 : ([h_98_0].all fun H => ckH 6000 gT s_98 (fun _ => 0) sp0 c_98 h_98 H) = true := by decide +kernel
theorem k_98 (hB : BytesOK) (g : bG) (l : Launch) : Keeps g l gT c_98 := keeps_of hB.1 hB.2 (List.forall_mem_cons.mpr ⟨k_49 hB g l, List.forall_mem_cons.mpr ⟨k_50 hB g l, List.forall_mem_cons.mpr ⟨k_96 hB g l, List.forall_mem_cons.mpr ⟨k_97 hB g l, nilK⟩⟩⟩⟩) e_98 (List.all_eq_true.mp g_98_0)
/-- B.read ((('c', 0),), ()) -/
def c_99 : aCt := (136, 18, some [(1, 4, 5), (43, 0, 2), (43, 4, 6), (43, 8, 9), (43, 10, 12), (44, 0, 9), (45, 0, 9), (46, 0, 4), (47, 0, 3), (48, 0, 4), (49, 0, 220), (50, 0, 2), (50, 4, 6), (50, 8, 9), (50, 10, 12), (51, 0, 9), (52, 0, 9), (53, 0, 4), (54, 0, 3), (55, 0, 4), (56, 0, 220), (57, 0, 2), (57, 4, 6), (57, 8, 9), (57, 10, 12), (58, 0, 9), (59, 0, 9), (60, 0, 4), (61, 0, 3), (62, 0, 4), (63, 0, 220), (64, 0, 2), (64, 4, 6), (64, 8, 9), (64, 10, 12), (65, 0, 9), (66, 0, 9), (67, 0, 4), (68, 0, 3), (69, 0, 4), (70, 0, 220), (71, 0, 2), (71, 4, 6), (71, 8, 9), (71, 10, 12), (72, 0, 9), (73, 0, 9), (74, 0, 4), (75, 0, 3), (76, 0, 4), (77, 0, 220), (78, 0, 2), (78, 4, 6), (78, 8, 9), (78, 10, 12), (79, 0, 9), (80, 0, 9), (81, 0, 4), (82, 0, 3), (83, 0, 4), (84, 0, 220), (169, 0, 1), (169, 3, 8), (171, 0, 2), (171, 4, 6), (171, 8, 9), (171, 10, 12), (172, 0, 9), (173, 0, 9), (174, 0, 4), (175, 0, 3), (176, 0, 4), (177, 0, 220)], false, ([], [], [], 212), [(2, (0, []))], [(([((-1000), 5)], [], [], 212), some (0, (0, [(0, 1)])))])
def sp_99 : aSp := fun k pc S => if pc = 20 ∧ k = 24 then spS 0 [0, 1, 2, 3, 4] S else none
def s_99 : List aCt := [c_98, c_43, c_44, c_45, c_46, c_47, c_48]
def h_99 : List (Nat × aS × Fm) := []
theorem e_99 : ckE 6000 gT s_99 (fun _ => 0) sp_99 c_99 h_99 = true := by decide +kernel
theorem k_99 (hB : BytesOK) (g : bG) (l : Launch) : Keeps g l gT c_99 := keeps_of hB.1 hB.2 (List.forall_mem_cons.mpr ⟨k_98 hB g l, List.forall_mem_cons.mpr ⟨k_43 hB g l, List.forall_mem_cons.mpr ⟨k_44 hB g l, List.forall_mem_cons.mpr ⟨k_45 hB g l, List.forall_mem_cons.mpr ⟨k_46 hB g l, List.forall_mem_cons.mpr ⟨k_47 hB g l, List.forall_mem_cons.mpr ⟨k_48 hB g l, nilK⟩⟩⟩⟩⟩⟩⟩) e_99 nilK
/-- Terms.fact ((('c', 43), ('u', 0)), ()) -/
def c_100 : aCt := (101, 0, some [], false, ([((-2147483648), 2147483647)], [], [], 212), [(2, (43, [])), (0, (0, [(0, 1)]))], [(([((-2147483648), 2147483647), ((-9), 999)], [], [], 212), some (0, (0, [(1, 1)])))])
def s_100 : List aCt := []
def h_100 : List (Nat × aS × Fm) := []
theorem e_100 : ckE 6000 gT s_100 (fun _ => 0) sp0 c_100 h_100 = true := by decide +kernel
theorem k_100 (hB : BytesOK) (g : bG) (l : Launch) : Keeps g l gT c_100 := keeps_of hB.1 hB.2 (nilK) e_100 nilK
