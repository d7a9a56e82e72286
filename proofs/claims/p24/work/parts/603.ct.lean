/-- Tape.sortOfLine ((('c', 169),), ()) -/
def c_62 : aCt := (89, 5, some [], false, ([], [], [], 212), [(2, (169, []))], [(([((-1), 5)], [], [], 212), some (0, (0, [(0, 1)])))])
def s_62 : List aCt := [c_56, c_57, c_58, c_59, c_60, c_61]
def h_62 : List (Nat × aS × Fm) := []
theorem e_62 : ckE 6000 gT s_62 (fun _ => 0) sp0 c_62 h_62 = true := by decide +kernel
theorem k_62 (hB : BytesOK) (g : bG) (l : Launch) : Keeps g l gT c_62 := keeps_of hB.1 hB.2 (List.forall_mem_cons.mpr ⟨k_56 hB g l, List.forall_mem_cons.mpr ⟨k_57 hB g l, List.forall_mem_cons.mpr ⟨k_58 hB g l, List.forall_mem_cons.mpr ⟨k_59 hB g l, List.forall_mem_cons.mpr ⟨k_60 hB g l, List.forall_mem_cons.mpr ⟨k_61 hB g l, nilK⟩⟩⟩⟩⟩⟩) e_62 nilK
/-- Tape.isWord ((('c', 169), ('c', 519)), ()) -/
def c_63 : aCt := (85, 4, some [], false, ([], [], [], 212), [(2, (169, [])), (2, (519, []))], [(([(0, 1)], [], [], 212), some (0, (0, [(0, 1)])))])
def s_63 : List aCt := []
def h_63 : List (Nat × aS × Fm) := []
theorem e_63 : ckE 6000 gT s_63 (fun _ => 0) sp0 c_63 h_63 = true := by decide +kernel
theorem k_63 (hB : BytesOK) (g : bG) (l : Launch) : Keeps g l gT c_63 := keeps_of hB.1 hB.2 (nilK) e_63 nilK
/-- Tape.isWord ((('c', 169), ('c', 520)), ()) -/
def c_64 : aCt := (85, 4, some [], false, ([], [], [], 212), [(2, (169, [])), (2, (520, []))], [(([(0, 1)], [], [], 212), some (0, (0, [(0, 1)])))])
def s_64 : List aCt := []
def h_64 : List (Nat × aS × Fm) := []
theorem e_64 : ckE 6000 gT s_64 (fun _ => 0) sp0 c_64 h_64 = true := by decide +kernel
theorem k_64 (hB : BytesOK) (g : bG) (l : Launch) : Keeps g l gT c_64 := keeps_of hB.1 hB.2 (nilK) e_64 nilK
/-- Tape.isWord ((('c', 169), ('c', 521)), ()) -/
def c_65 : aCt := (85, 4, some [], false, ([], [], [], 212), [(2, (169, [])), (2, (521, []))], [(([(0, 1)], [], [], 212), some (0, (0, [(0, 1)])))])
def s_65 : List aCt := []
def h_65 : List (Nat × aS × Fm) := []
theorem e_65 : ckE 6000 gT s_65 (fun _ => 0) sp0 c_65 h_65 = true := by decide +kernel
theorem k_65 (hB : BytesOK) (g : bG) (l : Launch) : Keeps g l gT c_65 := keeps_of hB.1 hB.2 (nilK) e_65 nilK
/-- Tape.isWord ((('c', 169), ('c', 518)), ()) -/
def c_66 : aCt := (85, 4, some [], false, ([], [], [], 212), [(2, (169, [])), (2, (518, []))], [(([(0, 1)], [], [], 212), some (0, (0, [(0, 1)])))])
def s_66 : List aCt := []
def h_66 : List (Nat × aS × Fm) := []
theorem e_66 : ckE 6000 gT s_66 (fun _ => 0) sp0 c_66 h_66 = true := by decide +kernel
theorem k_66 (hB : BytesOK) (g : bG) (l : Launch) : Keeps g l gT c_66 := keeps_of hB.1 hB.2 (nilK) e_66 nilK
/-- Tape.takeWord ((('c', 169), ('c', 518)), ()) -/
def c_67 : aCt := (87, 5, some [(169, 3, 8)], false, ([], [], [], 212), [(2, (169, [])), (2, (518, []))], [(([(0, 1)], [], [], 212), some (0, (0, [(0, 1)])))])
def s_67 : List aCt := [c_49, c_50, c_66]
def h_67 : List (Nat × aS × Fm) := []
theorem e_67 : ckE 6000 gT s_67 (fun _ => 0) sp0 c_67 h_67 = true := by decide +kernel
theorem k_67 (hB : BytesOK) (g : bG) (l : Launch) : Keeps g l gT c_67 := keeps_of hB.1 hB.2 (List.forall_mem_cons.mpr ⟨k_49 hB g l, List.forall_mem_cons.mpr ⟨k_50 hB g l, List.forall_mem_cons.mpr ⟨k_66 hB g l, nilK⟩⟩⟩) e_67 nilK
/-- Tape.takeHow ((('c', 169),), ()) -/
def c_68 : aCt := (91, 6, some [(169, 3, 8), (171, 4, 5)], false, ([], [], [], 212), [(2, (169, []))], [(([((-1), 2)], [], [], 212), some (0, (0, [(0, 1)])))])
def s_68 : List aCt := [c_49, c_50, c_63, c_64, c_65, c_67]
def h_68 : List (Nat × aS × Fm) := []
theorem e_68 : ckE 6000 gT s_68 (fun _ => 0) sp0 c_68 h_68 = true := by decide +kernel
theorem k_68 (hB : BytesOK) (g : bG) (l : Launch) : Keeps g l gT c_68 := keeps_of hB.1 hB.2 (List.forall_mem_cons.mpr ⟨k_49 hB g l, List.forall_mem_cons.mpr ⟨k_50 hB g l, List.forall_mem_cons.mpr ⟨k_63 hB g l, List.forall_mem_cons.mpr ⟨k_64 hB g l, List.forall_mem_cons.mpr ⟨k_65 hB g l, List.forall_mem_cons.mpr ⟨k_67 hB g l, nilK⟩⟩⟩⟩⟩⟩) e_68 nilK
/-- Tape.isWord ((('c', 169), ('c', 522)), ()) -/
def c_69 : aCt := (85, 4, some [], false, ([], [], [], 212), [(2, (169, [])), (2, (522, []))], [(([(0, 1)], [], [], 212), some (0, (0, [(0, 1)])))])
def s_69 : List aCt := []
def h_69 : List (Nat × aS × Fm) := []
theorem e_69 : ckE 6000 gT s_69 (fun _ => 0) sp0 c_69 h_69 = true := by decide +kernel
theorem k_69 (hB : BytesOK) (g : bG) (l : Launch) : Keeps g l gT c_69 := keeps_of hB.1 hB.2 (nilK) e_69 nilK
/-- Tape.takeWord ((('c', 169), ('c', 513)), ()) -/
def c_70 : aCt := (87, 5, some [(169, 3, 8)], false, ([], [], [], 212), [(2, (169, [])), (2, (513, []))], [(([(0, 1)], [], [], 212), some (0, (0, [(0, 1)])))])
def s_70 : List aCt := [c_49, c_50, c_57]
def h_70 : List (Nat × aS × Fm) := []
theorem e_70 : ckE 6000 gT s_70 (fun _ => 0) sp0 c_70 h_70 = true := by decide +kernel
theorem k_70 (hB : BytesOK) (g : bG) (l : Launch) : Keeps g l gT c_70 := keeps_of hB.1 hB.2 (List.forall_mem_cons.mpr ⟨k_49 hB g l, List.forall_mem_cons.mpr ⟨k_50 hB g l, List.forall_mem_cons.mpr ⟨k_57 hB g l, nilK⟩⟩⟩) e_70 nilK
/-- Tape.takeNumber ((('c', 169), ('u', 0), ('c', 999)), ()) -/
def c_71 : aCt := (88, 1, some [(169, 3, 8)], false, ([(0, 1000)], [], [], 212), [(2, (169, [])), (0, (0, [(0, 1)])), (0, (999, []))], [(([(0, 1000), ((-1), 999)], [], [], 212), some (0, (0, [(1, 1)])))])
def s_71 : List aCt := [c_49, c_50]
def h_71 : List (Nat × aS × Fm) := []
theorem e_71 : ckE 6000 gT s_71 (fun _ => 0) sp0 c_71 h_71 = true := by decide +kernel
theorem k_71 (hB : BytesOK) (g : bG) (l : Launch) : Keeps g l gT c_71 := keeps_of hB.1 hB.2 (List.forall_mem_cons.mpr ⟨k_49 hB g l, List.forall_mem_cons.mpr ⟨k_50 hB g l, nilK⟩⟩) e_71 nilK
/-- Tape.takeRate ((('c', 169),), ()) -/
def c_72 : aCt := (92, 6, some [(169, 3, 8), (171, 5, 6), (174, 0, 4), (175, 0, 3)], false, ([], [], [], 212), [(2, (169, []))], [(([((-1), 999)], [], [], 212), some (0, (0, [(0, 1)])))])
def s_72 : List aCt := [c_49, c_50, c_69, c_70, c_55, c_71]
def h_72_0 : Nat × aS × Fm := (27, ([(0, (2, (169, []))), (1, (0, (0, [(0, 1)])))], [], ([(0, 3)], [], [], 212)), (7, [(0, (-2))]))
def h_72 : List (Nat × aS × Fm) := [h_72_0]
theorem e_72 : ckE 6000 gT s_72 (fun _ => 0) sp0 c_72 h_72 = true := by decide +kernel
theorem g_72_0 : ([h_72_0].all fun H => ckH 6000 gT s_72 (fun _ => 0) sp0 c_72 h_72 H) = true := by decide +kernel
theorem k_72 (hB : BytesOK) (g : bG) (l : Launch) : Keeps g l gT c_72 := keeps_of hB.1 hB.2 (List.forall_mem_cons.mpr ⟨k_49 hB g l, List.forall_mem_cons.mpr ⟨k_50 hB g l, List.forall_mem_cons.mpr ⟨k_69 hB g l, List.forall_mem_cons.mpr ⟨k_70 hB g l, List.forall_mem_cons.mpr ⟨k_55 hB g l, List.forall_mem_cons.mpr ⟨k_71 hB g l, nilK⟩⟩⟩⟩⟩⟩) e_72 (List.all_eq_true.mp g_72_0)
/-- Tape.isWord ((('c', 169), ('c', 523)), ()) -/
def c_73 : aCt := (85, 4, some [], false, ([], [], [], 212), [(2, (169, [])), (2, (523, []))], [(([(0, 1)], [], [], 212), some (0, (0, [(0, 1)])))])
def s_73 : List aCt := []
def h_73 : List (Nat × aS × Fm) := []
theorem e_73 : ckE 6000 gT s_73 (fun _ => 0) sp0 c_73 h_73 = true := by decide +kernel
theorem k_73 (hB : BytesOK) (g : bG) (l : Launch) : Keeps g l gT c_73 := keeps_of hB.1 hB.2 (nilK) e_73 nilK
/-- Tape.takeWord ((('c', 169), ('c', 523)), ()) -/
def c_74 : aCt := (87, 5, some [(169, 3, 8)], false, ([], [], [], 212), [(2, (169, [])), (2, (523, []))], [(([(0, 1)], [], [], 212), some (0, (0, [(0, 1)])))])
def s_74 : List aCt := [c_49, c_50, c_73]
def h_74 : List (Nat × aS × Fm) := []
theorem e_74 : ckE 6000 gT s_74 (fun _ => 0) sp0 c_74 h_74 = true := by decide +kernel
theorem k_74 (hB : BytesOK) (g : bG) (l : Launch) : Keeps g l gT c_74 := keeps_of hB.1 hB.2 (List.forall_mem_cons.mpr ⟨k_49 hB g l, List.forall_mem_cons.mpr ⟨k_50 hB g l, List.forall_mem_cons.mpr ⟨k_73 hB g l, nilK⟩⟩⟩) e_74 nilK
/-- Tape.takeNumber ((('c', 169), ('c', 0), ('c', 3)), ()) -/
def c_75 : aCt := (88, 1, some [(169, 3, 8)], false, ([], [], [], 212), [(2, (169, [])), (0, (0, [])), (0, (3, []))], [(([((-1), 3)], [], [], 212), some (0, (0, [(0, 1)])))])
def s_75 : List aCt := [c_49, c_50]
def h_75 : List (Nat × aS × Fm) := []
theorem e_75 : ckE 6000 gT s_75 (fun _ => 0) sp0 c_75 h_75 = true := by decide +kernel
theorem k_75 (hB : BytesOK) (g : bG) (l : Launch) : Keeps g l gT c_75 := keeps_of hB.1 hB.2 (List.forall_mem_cons.mpr ⟨k_49 hB g l, List.forall_mem_cons.mpr ⟨k_50 hB g l, nilK⟩⟩) e_75 nilK
/-- Tape.takeLand ((('c', 169),), ()) -/
def c_76 : aCt := (93, 6, some [(169, 3, 8), (176, 0, 4)], false, ([], [], [], 212), [(2, (169, []))], [(([((-1), 3)], [], [], 212), some (0, (0, [(0, 1)])))])
def s_76 : List aCt := [c_74, c_75, c_55]
def h_76 : List (Nat × aS × Fm) := []
theorem e_76 : ckE 6000 gT s_76 (fun _ => 0) sp0 c_76 h_76 = true := by decide +kernel
theorem k_76 (hB : BytesOK) (g : bG) (l : Launch) : Keeps g l gT c_76 := keeps_of hB.1 hB.2 (List.forall_mem_cons.mpr ⟨k_74 hB g l, List.forall_mem_cons.mpr ⟨k_75 hB g l, List.forall_mem_cons.mpr ⟨k_55 hB g l, nilK⟩⟩⟩) e_76 nilK
/-- Tape.isWord ((('c', 169), ('c', 530)), ()) -/
def c_77 : aCt := (85, 4, some [], false, ([], [], [], 212), [(2, (169, [])), (2, (530, []))], [(([(0, 1)], [], [], 212), some (0, (0, [(0, 1)])))])
def s_77 : List aCt := []
def h_77 : List (Nat × aS × Fm) := []
theorem e_77 : ckE 6000 gT s_77 (fun _ => 0) sp0 c_77 h_77 = true := by decide +kernel
theorem k_77 (hB : BytesOK) (g : bG) (l : Launch) : Keeps g l gT c_77 := keeps_of hB.1 hB.2 (nilK) e_77 nilK
/-- Tape.isWord ((('c', 169), ('c', 531)), ()) -/
def c_78 : aCt := (85, 4, some [], false, ([], [], [], 212), [(2, (169, [])), (2, (531, []))], [(([(0, 1)], [], [], 212), some (0, (0, [(0, 1)])))])
def s_78 : List aCt := []
def h_78 : List (Nat × aS × Fm) := []
theorem e_78 : ckE 6000 gT s_78 (fun _ => 0) sp0 c_78 h_78 = true := by decide +kernel
theorem k_78 (hB : BytesOK) (g : bG) (l : Launch) : Keeps g l gT c_78 := keeps_of hB.1 hB.2 (nilK) e_78 nilK
/-- Tape.isWord ((('c', 169), ('c', 525)), ()) -/
def c_79 : aCt := (85, 4, some [], false, ([], [], [], 212), [(2, (169, [])), (2, (525, []))], [(([(0, 1)], [], [], 212), some (0, (0, [(0, 1)])))])
def s_79 : List aCt := []
def h_79 : List (Nat × aS × Fm) := []
theorem e_79 : ckE 6000 gT s_79 (fun _ => 0) sp0 c_79 h_79 = true := by decide +kernel
theorem k_79 (hB : BytesOK) (g : bG) (l : Launch) : Keeps g l gT c_79 := keeps_of hB.1 hB.2 (nilK) e_79 nilK
/-- Tape.isWord ((('c', 169), ('c', 526)), ()) -/
def c_80 : aCt := (85, 4, some [], false, ([], [], [], 212), [(2, (169, [])), (2, (526, []))], [(([(0, 1)], [], [], 212), some (0, (0, [(0, 1)])))])
def s_80 : List aCt := []
def h_80 : List (Nat × aS × Fm) := []
theorem e_80 : ckE 6000 gT s_80 (fun _ => 0) sp0 c_80 h_80 = true := by decide +kernel
theorem k_80 (hB : BytesOK) (g : bG) (l : Launch) : Keeps g l gT c_80 := keeps_of hB.1 hB.2 (nilK) e_80 nilK
/-- Tape.isWord ((('c', 169), ('c', 527)), ()) -/
def c_81 : aCt := (85, 4, some [], false, ([], [], [], 212), [(2, (169, [])), (2, (527, []))], [(([(0, 1)], [], [], 212), some (0, (0, [(0, 1)])))])
def s_81 : List aCt := []
def h_81 : List (Nat × aS × Fm) := []
theorem e_81 : ckE 6000 gT s_81 (fun _ => 0) sp0 c_81 h_81 = true := by decide +kernel
theorem k_81 (hB : BytesOK) (g : bG) (l : Launch) : Keeps g l gT c_81 := keeps_of hB.1 hB.2 (nilK) e_81 nilK
/-- Tape.isWord ((('c', 169), ('c', 528)), ()) -/
def c_82 : aCt := (85, 4, some [], false, ([], [], [], 212), [(2, (169, [])), (2, (528, []))], [(([(0, 1)], [], [], 212), some (0, (0, [(0, 1)])))])
def s_82 : List aCt := []
def h_82 : List (Nat × aS × Fm) := []
theorem e_82 : ckE 6000 gT s_82 (fun _ => 0) sp0 c_82 h_82 = true := by decide +kernel
theorem k_82 (hB : BytesOK) (g : bG) (l : Launch) : Keeps g l gT c_82 := keeps_of hB.1 hB.2 (nilK) e_82 nilK
/-- Tape.isWord ((('c', 169), ('c', 529)), ()) -/
def c_83 : aCt := (85, 4, some [], false, ([], [], [], 212), [(2, (169, [])), (2, (529, []))], [(([(0, 1)], [], [], 212), some (0, (0, [(0, 1)])))])
def s_83 : List aCt := []
def h_83 : List (Nat × aS × Fm) := []
theorem e_83 : ckE 6000 gT s_83 (fun _ => 0) sp0 c_83 h_83 = true := by decide +kernel
theorem k_83 (hB : BytesOK) (g : bG) (l : Launch) : Keeps g l gT c_83 := keeps_of hB.1 hB.2 (nilK) e_83 nilK
