/-- Tape.isWord ((('c', 169), ('c', 512)), ()) -/
def c_44 : aCt := (85, 4, some [], false, ([], [], [], 212), [(2, (169, [])), (2, (512, []))], [(([(0, 1)], [], [], 212), some (0, (0, [(0, 1)])))])
def s_44 : List aCt := []
def h_44 : List (Nat × aS × Fm) := []
theorem e_44 : ckE 6000 gT s_44 (fun _ => 0) sp0 c_44 h_44 = true := by decide +kernel
theorem k_44 (hB : BytesOK) (g : bG) (l : Launch) : Keeps g l gT c_44 := keeps_of hB.1 hB.2 (nilK) e_44 nilK
/-- Tape.isWord ((('c', 169), ('c', 513)), ()) -/
def c_45 : aCt := (85, 4, some [], false, ([], [], [], 212), [(2, (169, [])), (2, (513, []))], [(([(0, 1)], [], [], 212), some (0, (0, [(0, 1)])))])
def s_45 : List aCt := []
def h_45 : List (Nat × aS × Fm) := []
theorem e_45 : ckE 6000 gT s_45 (fun _ => 0) sp0 c_45 h_45 = true := by decide +kernel
theorem k_45 (hB : BytesOK) (g : bG) (l : Launch) : Keeps g l gT c_45 := keeps_of hB.1 hB.2 (nilK) e_45 nilK
/-- Tape.isWord ((('c', 169), ('c', 514)), ()) -/
def c_46 : aCt := (85, 4, some [], false, ([], [], [], 212), [(2, (169, [])), (2, (514, []))], [(([(0, 1)], [], [], 212), some (0, (0, [(0, 1)])))])
def s_46 : List aCt := []
def h_46 : List (Nat × aS × Fm) := []
theorem e_46 : ckE 6000 gT s_46 (fun _ => 0) sp0 c_46 h_46 = true := by decide +kernel
theorem k_46 (hB : BytesOK) (g : bG) (l : Launch) : Keeps g l gT c_46 := keeps_of hB.1 hB.2 (nilK) e_46 nilK
/-- Tape.isWord ((('c', 169), ('c', 515)), ()) -/
def c_47 : aCt := (85, 4, some [], false, ([], [], [], 212), [(2, (169, [])), (2, (515, []))], [(([(0, 1)], [], [], 212), some (0, (0, [(0, 1)])))])
def s_47 : List aCt := []
def h_47 : List (Nat × aS × Fm) := []
theorem e_47 : ckE 6000 gT s_47 (fun _ => 0) sp0 c_47 h_47 = true := by decide +kernel
theorem k_47 (hB : BytesOK) (g : bG) (l : Launch) : Keeps g l gT c_47 := keeps_of hB.1 hB.2 (nilK) e_47 nilK
/-- Tape.isWord ((('c', 169), ('c', 516)), ()) -/
def c_48 : aCt := (85, 4, some [], false, ([], [], [], 212), [(2, (169, [])), (2, (516, []))], [(([(0, 1)], [], [], 212), some (0, (0, [(0, 1)])))])
def s_48 : List aCt := []
def h_48 : List (Nat × aS × Fm) := []
theorem e_48 : ckE 6000 gT s_48 (fun _ => 0) sp0 c_48 h_48 = true := by decide +kernel
theorem k_48 (hB : BytesOK) (g : bG) (l : Launch) : Keeps g l gT c_48 := keeps_of hB.1 hB.2 (nilK) e_48 nilK
/-- Tape.isWord ((('c', 169), ('c', 517)), ()) -/
def c_49 : aCt := (85, 4, some [], false, ([], [], [], 212), [(2, (169, [])), (2, (517, []))], [(([(0, 1)], [], [], 212), some (0, (0, [(0, 1)])))])
def s_49 : List aCt := []
def h_49 : List (Nat × aS × Fm) := []
theorem e_49 : ckE 6000 gT s_49 (fun _ => 0) sp0 c_49 h_49 = true := by decide +kernel
theorem k_49 (hB : BytesOK) (g : bG) (l : Launch) : Keeps g l gT c_49 := keeps_of hB.1 hB.2 (nilK) e_49 nilK
/-- Tape.sortOfLine ((('c', 169),), ()) -/
def c_50 : aCt := (89, 5, some [], false, ([], [], [], 212), [(2, (169, []))], [(([((-1), 5)], [], [], 212), some (0, (0, [(0, 1)])))])
def s_50 : List aCt := [c_44, c_45, c_46, c_47, c_48, c_49]
def h_50 : List (Nat × aS × Fm) := []
theorem e_50 : ckE 6000 gT s_50 (fun _ => 0) sp0 c_50 h_50 = true := by decide +kernel
theorem k_50 (hB : BytesOK) (g : bG) (l : Launch) : Keeps g l gT c_50 := keeps_of hB.1 hB.2 (List.forall_mem_cons.mpr ⟨k_44 hB g l, List.forall_mem_cons.mpr ⟨k_45 hB g l, List.forall_mem_cons.mpr ⟨k_46 hB g l, List.forall_mem_cons.mpr ⟨k_47 hB g l, List.forall_mem_cons.mpr ⟨k_48 hB g l, List.forall_mem_cons.mpr ⟨k_49 hB g l, nilK⟩⟩⟩⟩⟩⟩) e_50 nilK
/-- Tape.isWord ((('c', 169), ('c', 519)), ()) -/
def c_51 : aCt := (85, 4, some [], false, ([], [], [], 212), [(2, (169, [])), (2, (519, []))], [(([(0, 1)], [], [], 212), some (0, (0, [(0, 1)])))])
def s_51 : List aCt := []
def h_51 : List (Nat × aS × Fm) := []
theorem e_51 : ckE 6000 gT s_51 (fun _ => 0) sp0 c_51 h_51 = true := by decide +kernel
theorem k_51 (hB : BytesOK) (g : bG) (l : Launch) : Keeps g l gT c_51 := keeps_of hB.1 hB.2 (nilK) e_51 nilK
/-- Tape.isWord ((('c', 169), ('c', 520)), ()) -/
def c_52 : aCt := (85, 4, some [], false, ([], [], [], 212), [(2, (169, [])), (2, (520, []))], [(([(0, 1)], [], [], 212), some (0, (0, [(0, 1)])))])
def s_52 : List aCt := []
def h_52 : List (Nat × aS × Fm) := []
theorem e_52 : ckE 6000 gT s_52 (fun _ => 0) sp0 c_52 h_52 = true := by decide +kernel
theorem k_52 (hB : BytesOK) (g : bG) (l : Launch) : Keeps g l gT c_52 := keeps_of hB.1 hB.2 (nilK) e_52 nilK
/-- Tape.isWord ((('c', 169), ('c', 521)), ()) -/
def c_53 : aCt := (85, 4, some [], false, ([], [], [], 212), [(2, (169, [])), (2, (521, []))], [(([(0, 1)], [], [], 212), some (0, (0, [(0, 1)])))])
def s_53 : List aCt := []
def h_53 : List (Nat × aS × Fm) := []
theorem e_53 : ckE 6000 gT s_53 (fun _ => 0) sp0 c_53 h_53 = true := by decide +kernel
theorem k_53 (hB : BytesOK) (g : bG) (l : Launch) : Keeps g l gT c_53 := keeps_of hB.1 hB.2 (nilK) e_53 nilK
/-- Tape.isWord ((('c', 169), ('c', 518)), ()) -/
def c_54 : aCt := (85, 4, some [], false, ([], [], [], 212), [(2, (169, [])), (2, (518, []))], [(([(0, 1)], [], [], 212), some (0, (0, [(0, 1)])))])
def s_54 : List aCt := []
def h_54 : List (Nat × aS × Fm) := []
theorem e_54 : ckE 6000 gT s_54 (fun _ => 0) sp0 c_54 h_54 = true := by decide +kernel
theorem k_54 (hB : BytesOK) (g : bG) (l : Launch) : Keeps g l gT c_54 := keeps_of hB.1 hB.2 (nilK) e_54 nilK
/-- Tape.takeWord ((('c', 169), ('c', 518)), ()) -/
def c_55 : aCt := (87, 5, some [(169, 3, 8)], false, ([], [], [], 212), [(2, (169, [])), (2, (518, []))], [(([(0, 1)], [], [], 212), some (0, (0, [(0, 1)])))])
def s_55 : List aCt := [c_37, c_38, c_54]
def h_55 : List (Nat × aS × Fm) := []
theorem e_55 : ckE 6000 gT s_55 (fun _ => 0) sp0 c_55 h_55 = true := by decide +kernel
theorem k_55 (hB : BytesOK) (g : bG) (l : Launch) : Keeps g l gT c_55 := keeps_of hB.1 hB.2 (List.forall_mem_cons.mpr ⟨k_37 hB g l, List.forall_mem_cons.mpr ⟨k_38 hB g l, List.forall_mem_cons.mpr ⟨k_54 hB g l, nilK⟩⟩⟩) e_55 nilK
/-- Tape.takeHow ((('c', 169),), ()) -/
def c_56 : aCt := (91, 6, some [(169, 3, 8), (171, 4, 5)], false, ([], [], [], 212), [(2, (169, []))], [(([((-1), 2)], [], [], 212), some (0, (0, [(0, 1)])))])
def s_56 : List aCt := [c_37, c_38, c_51, c_52, c_53, c_55]
def h_56 : List (Nat × aS × Fm) := []
theorem e_56 : ckE 6000 gT s_56 (fun _ => 0) sp0 c_56 h_56 = true := by decide +kernel
theorem k_56 (hB : BytesOK) (g : bG) (l : Launch) : Keeps g l gT c_56 := keeps_of hB.1 hB.2 (List.forall_mem_cons.mpr ⟨k_37 hB g l, List.forall_mem_cons.mpr ⟨k_38 hB g l, List.forall_mem_cons.mpr ⟨k_51 hB g l, List.forall_mem_cons.mpr ⟨k_52 hB g l, List.forall_mem_cons.mpr ⟨k_53 hB g l, List.forall_mem_cons.mpr ⟨k_55 hB g l, nilK⟩⟩⟩⟩⟩⟩) e_56 nilK
/-- Tape.isWord ((('c', 169), ('c', 522)), ()) -/
def c_57 : aCt := (85, 4, some [], false, ([], [], [], 212), [(2, (169, [])), (2, (522, []))], [(([(0, 1)], [], [], 212), some (0, (0, [(0, 1)])))])
def s_57 : List aCt := []
def h_57 : List (Nat × aS × Fm) := []
theorem e_57 : ckE 6000 gT s_57 (fun _ => 0) sp0 c_57 h_57 = true := by decide +kernel
theorem k_57 (hB : BytesOK) (g : bG) (l : Launch) : Keeps g l gT c_57 := keeps_of hB.1 hB.2 (nilK) e_57 nilK
/-- Tape.takeWord ((('c', 169), ('c', 513)), ()) -/
def c_58 : aCt := (87, 5, some [(169, 3, 8)], false, ([], [], [], 212), [(2, (169, [])), (2, (513, []))], [(([(0, 1)], [], [], 212), some (0, (0, [(0, 1)])))])
def s_58 : List aCt := [c_37, c_38, c_45]
def h_58 : List (Nat × aS × Fm) := []
theorem e_58 : ckE 6000 gT s_58 (fun _ => 0) sp0 c_58 h_58 = true := by decide +kernel
theorem k_58 (hB : BytesOK) (g : bG) (l : Launch) : Keeps g l gT c_58 := keeps_of hB.1 hB.2 (List.forall_mem_cons.mpr ⟨k_37 hB g l, List.forall_mem_cons.mpr ⟨k_38 hB g l, List.forall_mem_cons.mpr ⟨k_45 hB g l, nilK⟩⟩⟩) e_58 nilK
/-- Tape.takeNumber ((('c', 169), ('u', 0), ('c', 999)), ()) -/
def c_59 : aCt := (88, 1, some [(169, 3, 8)], false, ([(0, 1000)], [], [], 212), [(2, (169, [])), (0, (0, [(0, 1)])), (0, (999, []))], [(([(0, 1000), ((-1), 999)], [], [], 212), some (0, (0, [(1, 1)])))])
def s_59 : List aCt := [c_37, c_38]
def h_59 : List (Nat × aS × Fm) := []
theorem e_59 : ckE 6000 gT s_59 (fun _ => 0) sp0 c_59 h_59 = true := by decide +kernel
theorem k_59 (hB : BytesOK) (g : bG) (l : Launch) : Keeps g l gT c_59 := keeps_of hB.1 hB.2 (List.forall_mem_cons.mpr ⟨k_37 hB g l, List.forall_mem_cons.mpr ⟨k_38 hB g l, nilK⟩⟩) e_59 nilK
/-- Tape.takeRate ((('c', 169),), ()) -/
def c_60 : aCt := (92, 6, some [(169, 3, 8), (171, 5, 6), (174, 0, 4), (175, 0, 3)], false, ([], [], [], 212), [(2, (169, []))], [(([((-1), 999)], [], [], 212), some (0, (0, [(0, 1)])))])
def s_60 : List aCt := [c_37, c_38, c_57, c_58, c_43, c_59]
def h_60_0 : Nat × aS × Fm := (27, ([(0, (2, (169, []))), (1, (0, (0, [(0, 1)])))], [], ([(0, 3)], [], [], 212)), (7, [(0, (-2))]))
def h_60 : List (Nat × aS × Fm) := [h_60_0]
theorem e_60 : ckE 6000 gT s_60 (fun _ => 0) sp0 c_60 h_60 = true := by decide +kernel
theorem g_60_0 : ([h_60_0].all fun H => ckH 6000 gT s_60 (fun _ => 0) sp0 c_60 h_60 H) = true := by decide +kernel
theorem k_60 (hB : BytesOK) (g : bG) (l : Launch) : Keeps g l gT c_60 := keeps_of hB.1 hB.2 (List.forall_mem_cons.mpr ⟨k_37 hB g l, List.forall_mem_cons.mpr ⟨k_38 hB g l, List.forall_mem_cons.mpr ⟨k_57 hB g l, List.forall_mem_cons.mpr ⟨k_58 hB g l, List.forall_mem_cons.mpr ⟨k_43 hB g l, List.forall_mem_cons.mpr ⟨k_59 hB g l, nilK⟩⟩⟩⟩⟩⟩) e_60 (List.all_eq_true.mp g_60_0)
/-- Tape.isWord ((('c', 169), ('c', 523)), ()) -/
def c_61 : aCt := (85, 4, some [], false, ([], [], [], 212), [(2, (169, [])), (2, (523, []))], [(([(0, 1)], [], [], 212), some (0, (0, [(0, 1)])))])
def s_61 : List aCt := []
def h_61 : List (Nat × aS × Fm) := []
theorem e_61 : ckE 6000 gT s_61 (fun _ => 0) sp0 c_61 h_61 = true := by decide +kernel
theorem k_61 (hB : BytesOK) (g : bG) (l : Launch) : Keeps g l gT c_61 := keeps_of hB.1 hB.2 (nilK) e_61 nilK
/-- Tape.takeWord ((('c', 169), ('c', 523)), ()) -/
def c_62 : aCt := (87, 5, some [(169, 3, 8)], false, ([], [], [], 212), [(2, (169, [])), (2, (523, []))], [(([(0, 1)], [], [], 212), some (0, (0, [(0, 1)])))])
def s_62 : List aCt := [c_37, c_38, c_61]
def h_62 : List (Nat × aS × Fm) := []
theorem e_62 : ckE 6000 gT s_62 (fun _ => 0) sp0 c_62 h_62 = true := by decide +kernel
theorem k_62 (hB : BytesOK) (g : bG) (l : Launch) : Keeps g l gT c_62 := keeps_of hB.1 hB.2 (List.forall_mem_cons.mpr ⟨k_37 hB g l, List.forall_mem_cons.mpr ⟨k_38 hB g l, List.forall_mem_cons.mpr ⟨k_61 hB g l, nilK⟩⟩⟩) e_62 nilK
/-- Tape.takeNumber ((('c', 169), ('c', 0), ('c', 3)), ()) -/
def c_63 : aCt := (88, 1, some [(169, 3, 8)], false, ([], [], [], 212), [(2, (169, [])), (0, (0, [])), (0, (3, []))], [(([((-1), 3)], [], [], 212), some (0, (0, [(0, 1)])))])
def s_63 : List aCt := [c_37, c_38]
def h_63 : List (Nat × aS × Fm) := []
theorem e_63 : ckE 6000 gT s_63 (fun _ => 0) sp0 c_63 h_63 = true := by decide +kernel
theorem k_63 (hB : BytesOK) (g : bG) (l : Launch) : Keeps g l gT c_63 := keeps_of hB.1 hB.2 (List.forall_mem_cons.mpr ⟨k_37 hB g l, List.forall_mem_cons.mpr ⟨k_38 hB g l, nilK⟩⟩) e_63 nilK
/-- Tape.takeLand ((('c', 169),), ()) -/
def c_64 : aCt := (93, 6, some [(169, 3, 8), (176, 0, 4)], false, ([], [], [], 212), [(2, (169, []))], [(([((-1), 3)], [], [], 212), some (0, (0, [(0, 1)])))])
def s_64 : List aCt := [c_62, c_63, c_43]
def h_64 : List (Nat × aS × Fm) := []
theorem e_64 : ckE 6000 gT s_64 (fun _ => 0) sp0 c_64 h_64 = true := by decide +kernel
theorem k_64 (hB : BytesOK) (g : bG) (l : Launch) : Keeps g l gT c_64 := keeps_of hB.1 hB.2 (List.forall_mem_cons.mpr ⟨k_62 hB g l, List.forall_mem_cons.mpr ⟨k_63 hB g l, List.forall_mem_cons.mpr ⟨k_43 hB g l, nilK⟩⟩⟩) e_64 nilK
/-- Tape.isWord ((('c', 169), ('c', 530)), ()) -/
def c_65 : aCt := (85, 4, some [], false, ([], [], [], 212), [(2, (169, [])), (2, (530, []))], [(([(0, 1)], [], [], 212), some (0, (0, [(0, 1)])))])
def s_65 : List aCt := []
def h_65 : List (Nat × aS × Fm) := []
theorem e_65 : ckE 6000 gT s_65 (fun _ => 0) sp0 c_65 h_65 = true := by decide +kernel
theorem k_65 (hB : BytesOK) (g : bG) (l : Launch) : Keeps g l gT c_65 := keeps_of hB.1 hB.2 (nilK) e_65 nilK
