/-- B.feed ((('c', 0), ('u', 1), ('u', 0)), ()) -/
def c_42 : aCt := (135, 1, some [(169, 0, 1), (170, 0, 220)], false, ([((-9223372036854775808), 9223372036854775807), ((-2147483648), 2147483647)], [], [], 212), [(2, (0, [])), (1, (0, [(0, 1)])), (0, (0, [(1, 1)]))], [(([((-9223372036854775808), 9223372036854775807), ((-2147483648), 2147483647), ((-2), 220)], [], [], 212), some (0, (0, [(2, 1)])))])
def s_42 : List aCt := [c_41]
def h_42 : List (Nat × aS × Fm) := []
theorem e_42 : ckE 6000 gT s_42 (fun _ => 0) sp0 c_42 h_42 = true := by decide +kernel
theorem k_42 (hB : BytesOK) (g : bG) (l : Launch) : Keeps g l gT c_42 := keeps_of hB.1 hB.2 (List.forall_mem_cons.mpr ⟨k_41 hB g l, nilK⟩) e_42 nilK
/-- Terms.become ((('c', 43), ('c', 171)), ()) -/
def c_43 : aCt := (105, 2, some [(43, 0, 2), (43, 4, 6), (43, 8, 9), (43, 10, 12), (44, 0, 9), (45, 0, 9), (46, 0, 4), (47, 0, 3), (48, 0, 4), (49, 0, 220)], false, ([], [], [], 212), [(2, (43, [])), (2, (171, []))], [(([], [], [], 212), none)])
def s_43 : List aCt := []
def h_43 : List (Nat × aS × Fm) := []
theorem e_43 : ckE 6000 gT s_43 (fun _ => 0) sp0 c_43 h_43 = true := by decide +kernel
theorem k_43 (hB : BytesOK) (g : bG) (l : Launch) : Keeps g l gT c_43 := keeps_of hB.1 hB.2 (nilK) e_43 nilK
/-- Terms.become ((('c', 50), ('c', 171)), ()) -/
def c_44 : aCt := (105, 2, some [(50, 0, 2), (50, 4, 6), (50, 8, 9), (50, 10, 12), (51, 0, 9), (52, 0, 9), (53, 0, 4), (54, 0, 3), (55, 0, 4), (56, 0, 220)], false, ([], [], [], 212), [(2, (50, [])), (2, (171, []))], [(([], [], [], 212), none)])
def s_44 : List aCt := []
def h_44 : List (Nat × aS × Fm) := []
theorem e_44 : ckE 6000 gT s_44 (fun _ => 0) sp0 c_44 h_44 = true := by decide +kernel
theorem k_44 (hB : BytesOK) (g : bG) (l : Launch) : Keeps g l gT c_44 := keeps_of hB.1 hB.2 (nilK) e_44 nilK
/-- Terms.become ((('c', 57), ('c', 171)), ()) -/
def c_45 : aCt := (105, 2, some [(57, 0, 2), (57, 4, 6), (57, 8, 9), (57, 10, 12), (58, 0, 9), (59, 0, 9), (60, 0, 4), (61, 0, 3), (62, 0, 4), (63, 0, 220)], false, ([], [], [], 212), [(2, (57, [])), (2, (171, []))], [(([], [], [], 212), none)])
def s_45 : List aCt := []
def h_45 : List (Nat × aS × Fm) := []
theorem e_45 : ckE 6000 gT s_45 (fun _ => 0) sp0 c_45 h_45 = true := by decide +kernel
theorem k_45 (hB : BytesOK) (g : bG) (l : Launch) : Keeps g l gT c_45 := keeps_of hB.1 hB.2 (nilK) e_45 nilK
/-- Terms.become ((('c', 64), ('c', 171)), ()) -/
def c_46 : aCt := (105, 2, some [(64, 0, 2), (64, 4, 6), (64, 8, 9), (64, 10, 12), (65, 0, 9), (66, 0, 9), (67, 0, 4), (68, 0, 3), (69, 0, 4), (70, 0, 220)], false, ([], [], [], 212), [(2, (64, [])), (2, (171, []))], [(([], [], [], 212), none)])
def s_46 : List aCt := []
def h_46 : List (Nat × aS × Fm) := []
theorem e_46 : ckE 6000 gT s_46 (fun _ => 0) sp0 c_46 h_46 = true := by decide +kernel
theorem k_46 (hB : BytesOK) (g : bG) (l : Launch) : Keeps g l gT c_46 := keeps_of hB.1 hB.2 (nilK) e_46 nilK
/-- Terms.become ((('c', 71), ('c', 171)), ()) -/
def c_47 : aCt := (105, 2, some [(71, 0, 2), (71, 4, 6), (71, 8, 9), (71, 10, 12), (72, 0, 9), (73, 0, 9), (74, 0, 4), (75, 0, 3), (76, 0, 4), (77, 0, 220)], false, ([], [], [], 212), [(2, (71, [])), (2, (171, []))], [(([], [], [], 212), none)])
def s_47 : List aCt := []
def h_47 : List (Nat × aS × Fm) := []
theorem e_47 : ckE 6000 gT s_47 (fun _ => 0) sp0 c_47 h_47 = true := by decide +kernel
theorem k_47 (hB : BytesOK) (g : bG) (l : Launch) : Keeps g l gT c_47 := keeps_of hB.1 hB.2 (nilK) e_47 nilK
/-- Terms.become ((('c', 78), ('c', 171)), ()) -/
def c_48 : aCt := (105, 2, some [(78, 0, 2), (78, 4, 6), (78, 8, 9), (78, 10, 12), (79, 0, 9), (80, 0, 9), (81, 0, 4), (82, 0, 3), (83, 0, 4), (84, 0, 220)], false, ([], [], [], 212), [(2, (78, [])), (2, (171, []))], [(([], [], [], 212), none)])
def s_48 : List aCt := []
def h_48 : List (Nat × aS × Fm) := []
theorem e_48 : ckE 6000 gT s_48 (fun _ => 0) sp0 c_48 h_48 = true := by decide +kernel
theorem k_48 (hB : BytesOK) (g : bG) (l : Launch) : Keeps g l gT c_48 := keeps_of hB.1 hB.2 (nilK) e_48 nilK
/-- Tape.fail ((('c', 169),), ()) -/
def c_49 : aCt := (83, 0, some [(169, 7, 8)], false, ([], [], [], 212), [(2, (169, []))], [(([], [], [], 212), some (0, (0, [])))])
def s_49 : List aCt := []
def h_49 : List (Nat × aS × Fm) := []
theorem e_49 : ckE 6000 gT s_49 (fun _ => 0) sp0 c_49 h_49 = true := by decide +kernel
theorem k_49 (hB : BytesOK) (g : bG) (l : Launch) : Keeps g l gT c_49 := keeps_of hB.1 hB.2 (nilK) e_49 nilK
/-- Tape.goOn ((('c', 169),), ()) -/
def c_50 : aCt := (84, 0, some [(169, 3, 7)], false, ([], [], [], 212), [(2, (169, []))], [(([], [], [], 212), none)])
def s_50 : List aCt := []
def h_50_0 : Nat × aS × Fm := (5, ([(0, (2, (169, []))), (1, (0, (0, [(0, 1)])))], [], ([(0, 220)], [], [], 212)), (1325, [(0, (-2))]))
def h_50_1 : Nat × aS × Fm := (83, ([(0, (2, (169, []))), (1, (0, (0, [(0, 1)])))], [], ([(0, 220)], [], [], 212)), (883, [(0, (-2))]))
def h_50_2 : Nat × aS × Fm := (146, ([(0, (2, (169, []))), (1, (0, (0, [(0, 1)])))], [], ([(0, 220)], [], [], 212)), (441, [(0, (-2))]))
def h_50 : List (Nat × aS × Fm) := [h_50_0, h_50_1, h_50_2]
theorem e_50 : ckE 6000 gT s_50 (fun _ => 0) sp0 c_50 h_50 = true := by decide +kernel
theorem g_50_0 : ([h_50_0, h_50_1, h_50_2].all fun H => ckH 6000 gT s_50 (fun _ => 0) sp0 c_50 h_50 H) = true := by decide +kernel
theorem k_50 (hB : BytesOK) (g : bG) (l : Launch) : Keeps g l gT c_50 := keeps_of hB.1 hB.2 (nilK) e_50 (List.all_eq_true.mp g_50_0)
/-- Terms.addCode ((('c', 171), ('u', 0)), ()) -/
def c_51 : aCt := (100, 0, some [(171, 11, 12), (177, 0, 220)], false, ([((-4), 65535)], [], [], 212), [(2, (171, [])), (0, (0, [(0, 1)]))], [(([((-4), 65535)], [], [], 212), none)])
def s_51 : List aCt := []
def h_51 : List (Nat × aS × Fm) := []
theorem e_51 : ckE 6000 gT s_51 (fun _ => 0) sp0 c_51 h_51 = true := by decide +kernel
theorem k_51 (hB : BytesOK) (g : bG) (l : Launch) : Keeps g l gT c_51 := keeps_of hB.1 hB.2 (nilK) e_51 nilK
/-- Tape.isByte ((('c', 169), ('u', 0)), ()) -/
def c_52 : aCt := (86, 0, some [], false, ([(40, 62)], [], [], 212), [(2, (169, [])), (0, (0, [(0, 1)]))], [(([(40, 62), (0, 1)], [], [], 212), some (0, (0, [(1, 1)])))])
def s_52 : List aCt := []
def h_52 : List (Nat × aS × Fm) := []
theorem e_52 : ckE 6000 gT s_52 (fun _ => 0) sp0 c_52 h_52 = true := by decide +kernel
theorem k_52 (hB : BytesOK) (g : bG) (l : Launch) : Keeps g l gT c_52 := keeps_of hB.1 hB.2 (nilK) e_52 nilK
/-- Tape.isWord ((('c', 169), ('c', 524)), ()) -/
def c_53 : aCt := (85, 4, some [], false, ([], [], [], 212), [(2, (169, [])), (2, (524, []))], [(([(0, 1)], [], [], 212), some (0, (0, [(0, 1)])))])
def s_53 : List aCt := []
def h_53 : List (Nat × aS × Fm) := []
theorem e_53 : ckE 6000 gT s_53 (fun _ => 0) sp0 c_53 h_53 = true := by decide +kernel
theorem k_53 (hB : BytesOK) (g : bG) (l : Launch) : Keeps g l gT c_53 := keeps_of hB.1 hB.2 (nilK) e_53 nilK
/-- Tape.takeWord ((('c', 169), ('c', 524)), ()) -/
def c_54 : aCt := (87, 5, some [(169, 3, 8)], false, ([], [], [], 212), [(2, (169, [])), (2, (524, []))], [(([(0, 1)], [], [], 212), some (0, (0, [(0, 1)])))])
def s_54 : List aCt := [c_49, c_50, c_53]
def h_54 : List (Nat × aS × Fm) := []
theorem e_54 : ckE 6000 gT s_54 (fun _ => 0) sp0 c_54 h_54 = true := by decide +kernel
theorem k_54 (hB : BytesOK) (g : bG) (l : Launch) : Keeps g l gT c_54 := keeps_of hB.1 hB.2 (List.forall_mem_cons.mpr ⟨k_49 hB g l, List.forall_mem_cons.mpr ⟨k_50 hB g l, List.forall_mem_cons.mpr ⟨k_53 hB g l, nilK⟩⟩⟩) e_54 nilK
/-- Tape.takeNumber ((('c', 169), ('c', 0), ('c', 999)), ()) -/
def c_55 : aCt := (88, 1, some [(169, 3, 8)], false, ([], [], [], 212), [(2, (169, [])), (0, (0, [])), (0, (999, []))], [(([((-1), 999)], [], [], 212), some (0, (0, [(0, 1)])))])
def s_55 : List aCt := [c_49, c_50]
def h_55 : List (Nat × aS × Fm) := []
theorem e_55 : ckE 6000 gT s_55 (fun _ => 0) sp0 c_55 h_55 = true := by decide +kernel
theorem k_55 (hB : BytesOK) (g : bG) (l : Launch) : Keeps g l gT c_55 := keeps_of hB.1 hB.2 (List.forall_mem_cons.mpr ⟨k_49 hB g l, List.forall_mem_cons.mpr ⟨k_50 hB g l, nilK⟩⟩) e_55 nilK
/-- Tape.isWord ((('c', 169), ('c', 512)), ()) -/
def c_56 : aCt := (85, 4, some [], false, ([], [], [], 212), [(2, (169, [])), (2, (512, []))], [(([(0, 1)], [], [], 212), some (0, (0, [(0, 1)])))])
def s_56 : List aCt := []
def h_56 : List (Nat × aS × Fm) := []
theorem e_56 : ckE 6000 gT s_56 (fun _ => 0) sp0 c_56 h_56 = true := by decide +kernel
theorem k_56 (hB : BytesOK) (g : bG) (l : Launch) : Keeps g l gT c_56 := keeps_of hB.1 hB.2 (nilK) e_56 nilK
/-- Tape.isWord ((('c', 169), ('c', 513)), ()) -/
def c_57 : aCt := (85, 4, some [], false, ([], [], [], 212), [(2, (169, [])), (2, (513, []))], [(([(0, 1)], [], [], 212), some (0, (0, [(0, 1)])))])
def s_57 : List aCt := []
def h_57 : List (Nat × aS × Fm) := []
theorem e_57 : ckE 6000 gT s_57 (fun _ => 0) sp0 c_57 h_57 = true := by decide +kernel
theorem k_57 (hB : BytesOK) (g : bG) (l : Launch) : Keeps g l gT c_57 := keeps_of hB.1 hB.2 (nilK) e_57 nilK
/-- Tape.isWord ((('c', 169), ('c', 514)), ()) -/
def c_58 : aCt := (85, 4, some [], false, ([], [], [], 212), [(2, (169, [])), (2, (514, []))], [(([(0, 1)], [], [], 212), some (0, (0, [(0, 1)])))])
def s_58 : List aCt := []
def h_58 : List (Nat × aS × Fm) := []
theorem e_58 : ckE 6000 gT s_58 (fun _ => 0) sp0 c_58 h_58 = true := by decide +kernel
theorem k_58 (hB : BytesOK) (g : bG) (l : Launch) : Keeps g l gT c_58 := keeps_of hB.1 hB.2 (nilK) e_58 nilK
/-- Tape.isWord ((('c', 169), ('c', 515)), ()) -/
def c_59 : aCt := (85, 4, some [], false, ([], [], [], 212), [(2, (169, [])), (2, (515, []))], [(([(0, 1)], [], [], 212), some (0, (0, [(0, 1)])))])
def s_59 : List aCt := []
def h_59 : List (Nat × aS × Fm) := []
theorem e_59 : ckE 6000 gT s_59 (fun _ => 0) sp0 c_59 h_59 = true := by decide +kernel
theorem k_59 (hB : BytesOK) (g : bG) (l : Launch) : Keeps g l gT c_59 := keeps_of hB.1 hB.2 (nilK) e_59 nilK
/-- Tape.isWord ((('c', 169), ('c', 516)), ()) -/
def c_60 : aCt := (85, 4, some [], false, ([], [], [], 212), [(2, (169, [])), (2, (516, []))], [(([(0, 1)], [], [], 212), some (0, (0, [(0, 1)])))])
def s_60 : List aCt := []
def h_60 : List (Nat × aS × Fm) := []
theorem e_60 : ckE 6000 gT s_60 (fun _ => 0) sp0 c_60 h_60 = true := by decide +kernel
theorem k_60 (hB : BytesOK) (g : bG) (l : Launch) : Keeps g l gT c_60 := keeps_of hB.1 hB.2 (nilK) e_60 nilK
/-- Tape.isWord ((('c', 169), ('c', 517)), ()) -/
def c_61 : aCt := (85, 4, some [], false, ([], [], [], 212), [(2, (169, [])), (2, (517, []))], [(([(0, 1)], [], [], 212), some (0, (0, [(0, 1)])))])
def s_61 : List aCt := []
def h_61 : List (Nat × aS × Fm) := []
theorem e_61 : ckE 6000 gT s_61 (fun _ => 0) sp0 c_61 h_61 = true := by decide +kernel
theorem k_61 (hB : BytesOK) (g : bG) (l : Launch) : Keeps g l gT c_61 := keeps_of hB.1 hB.2 (nilK) e_61 nilK
