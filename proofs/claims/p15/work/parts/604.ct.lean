/-- Pool.monthSum ((('c', 1), ('u', 0), ('u', 0)), ()) -/
def c_84 : aCt := (31, 4, some [], false, ([(0, 239), (0, 239)], [], [], 212), [(2, (1, [])), (0, (0, [(0, 1)])), (0, (0, [(1, 1)]))], [(([(0, 239), (0, 239), ((-9223372036854775808), 9223372036854775807)], [], [], 212), some (1, (0, [(2, 1)])))])
def s_84 : List aCt := [c_71]
def h_84_0 : Nat × aS × Fm := (5, ([(0, (2, (1, []))), (1, (0, (0, [(0, 1)]))), (2, (0, (0, [(1, 1)]))), (3, (1, (0, [(3, 1)]))), (5, (0, (0, [(2, 1)])))], [], ([(0, 239), (0, 239), (0, 6), ((-9223372036854775808), 9223372036854775807)], [], [], 212)), (13, [(2, (-2))]))
def h_84 : List (Nat × aS × Fm) := [h_84_0]
theorem e_84 : ckE 6000 gT s_84 (fun _ => 0) sp0 c_84 h_84 = true := by decide +kernel
theorem g_84_0 : ([h_84_0].all fun H => ckH 6000 gT s_84 (fun _ => 0) sp0 c_84 h_84 H) = true := by decide +kernel
theorem k_84 (hB : BytesOK) (g : bG) (l : Launch) : Keeps g l gT c_84 := keeps_of hB.1 hB.2 (List.forall_mem_cons.mpr ⟨k_71 hB g l, nilK⟩) e_84 (List.all_eq_true.mp g_84_0)
/-- B.sum ((('c', 0), ('u', 0), ('u', 0)), ()) -/
def c_85 : aCt := (147, 5, some [], false, ([((-2147483648), 2147483647), ((-2147483648), 2147483647)], [], [], 212), [(2, (0, [])), (0, (0, [(0, 1)])), (0, (0, [(1, 1)]))], [(([((-2147483648), 2147483647), ((-2147483648), 2147483647), ((-2147483648), 2147483647)], [], [], 212), some (0, (0, [(2, 1)])))])
def s_85 : List aCt := [c_84]
def h_85 : List (Nat × aS × Fm) := []
theorem e_85 : ckE 6000 gT s_85 (fun _ => 0) sp0 c_85 h_85 = true := by decide +kernel
theorem k_85 (hB : BytesOK) (g : bG) (l : Launch) : Keeps g l gT c_85 := keeps_of hB.1 hB.2 (List.forall_mem_cons.mpr ⟨k_84 hB g l, nilK⟩) e_85 nilK
/-- java/lang/Integer.bitCount ((('u', 0),), ()) -/
def c_86 : aCt := (297, 0, some [], false, ([((-2147483648), 2147483647)], [], [], 212), [(0, (0, [(0, 1)]))], [(([((-2147483648), 2147483647), (0, 63)], [], [], 212), some (0, (0, [(1, 1)])))])
def s_86 : List aCt := []
def h_86 : List (Nat × aS × Fm) := []
theorem e_86 : ckE 6000 gT s_86 (fun _ => 0) sp0 c_86 h_86 = true := by decide +kernel
theorem k_86 (hB : BytesOK) (g : bG) (l : Launch) : Keeps g l gT c_86 := keeps_of hB.1 hB.2 (nilK) e_86 nilK
/-- Pool.weightOf ((('c', 1), ('u', 0), ('u', 0), ('u', 0), ('u', 0)), ()) -/
def c_87 : aCt := (32, 2, some [], false, ([(0, 7), (0, 239), (0, 239), ((-1), 2)], [], [], 212), [(2, (1, [])), (0, (0, [(0, 1)])), (0, (0, [(1, 1)])), (0, (0, [(2, 1)])), (0, (0, [(3, 1)]))], [(([(0, 7), (0, 239), (0, 239), ((-1), 2), (0, 207)], [], [], 212), some (0, (0, [(4, 1)])))])
def sp_87 : aSp := fun k pc S => if pc = 21 ∧ k = 32 then spL 7 [] S else none
def s_87 : List aCt := [c_17, c_6, c_86]
def h_87_0 : Nat × aS × Fm := (9, ([(0, (2, (1, []))), (1, (0, (0, [(0, 1)]))), (2, (0, (0, [(1, 1)]))), (3, (0, (0, [(2, 1)]))), (4, (0, (0, [(3, 1)]))), (5, (0, (0, [(5, 1)]))), (6, (0, (0, [(6, 1)]))), (7, (0, (0, [(4, 1)])))], [], ([(0, 7), (0, 239), (0, 239), ((-1), 2), (0, 16), (0, 144), ((-2147483648), 2147483647)], [(0, [(4, (-9)), (5, 1)])], [], 212)), (33, [(4, (-2))]))
def h_87 : List (Nat × aS × Fm) := [h_87_0]
theorem e_87 : ckE 6000 gT s_87 (fun _ => 0) sp_87 c_87 h_87 = true := by decide +kernel
theorem g_87_0 : ([h_87_0].all fun H => ckH 6000 gT s_87 (fun _ => 0) sp_87 c_87 h_87 H) = true := by decide +kernel
theorem k_87 (hB : BytesOK) (g : bG) (l : Launch) : Keeps g l gT c_87 := keeps_of hB.1 hB.2 (List.forall_mem_cons.mpr ⟨k_17 hB g l, List.forall_mem_cons.mpr ⟨k_6 hB g l, List.forall_mem_cons.mpr ⟨k_86 hB g l, nilK⟩⟩⟩) e_87 (List.all_eq_true.mp g_87_0)
/-- Pool.weigh ((('c', 1), ('u', 0), ('u', 0)), ()) -/
def c_88 : aCt := (33, 3, some [(1, 8, 9), (42, 0, 8)], false, ([(0, 239), (0, 239)], [], [], 212), [(2, (1, [])), (0, (0, [(0, 1)])), (0, (0, [(1, 1)]))], [(([(0, 239), (0, 239)], [], [], 212), none)])
def sp_88 : aSp := fun k pc S => if pc = 24 ∧ k = 33 then spL 4 [] S else none
def s_88 : List aCt := [c_69, c_87, c_8]
def h_88_0 : Nat × aS × Fm := (17, ([(0, (2, (1, []))), (1, (0, (0, [(0, 1)]))), (2, (0, (0, [(1, 1)]))), (3, (0, (0, [(4, 1)]))), (4, (0, (0, [(2, 1)])))], [], ([(0, 239), (0, 239), (0, 8), (0, 1763), ((-1), 2)], [(0, [(2, (-207)), (3, 1)])], [((1, 8), (0, [(3, 1)]))], 212)), (17, [(2, (-2))]))
def h_88 : List (Nat × aS × Fm) := [h_88_0]
theorem e_88 : ckE 6000 gT s_88 (fun _ => 0) sp_88 c_88 h_88 = true := by decide +kernel
theorem g_88_0 : ([h_88_0].all fun H => ckH 6000 gT s_88 (fun _ => 0) sp_88 c_88 h_88 H) = true := by decide +kernel
theorem k_88 (hB : BytesOK) (g : bG) (l : Launch) : Keeps g l gT c_88 := keeps_of hB.1 hB.2 (List.forall_mem_cons.mpr ⟨k_69 hB g l, List.forall_mem_cons.mpr ⟨k_87 hB g l, List.forall_mem_cons.mpr ⟨k_8 hB g l, nilK⟩⟩⟩) e_88 (List.all_eq_true.mp g_88_0)
/-- Pool.cutPart ((('c', 1), ('u', 0), ('u', 1)), ()) -/
def c_89 : aCt := (35, 0, some [], false, ([(0, 7), ((-9223372036854775808), 9223372036854775807)], [], [], 212), [(2, (1, [])), (0, (0, [(0, 1)])), (1, (0, [(1, 1)]))], [(([(0, 7), ((-9223372036854775808), 9223372036854775807), ((-9223372036854775808), 9223372036854775807)], [], [], 212), some (1, (0, [(2, 1)])))])
def s_89 : List aCt := []
def h_89 : List (Nat × aS × Fm) := []
theorem e_89 : ckE 6000 gT s_89 (fun _ => 0) sp0 c_89 h_89 = true := by decide +kernel
theorem k_89 (hB : BytesOK) (g : bG) (l : Launch) : Keeps g l gT c_89 := keeps_of hB.1 hB.2 (nilK) e_89 nilK
/-- Pool.shareOf ((('c', 1), ('u', 0), ('u', 1)), ()) -/
def c_90 : aCt := (36, 1, some [], false, ([(0, 7), ((-9223372036854775808), 9223372036854775807)], [], [], 212), [(2, (1, [])), (0, (0, [(0, 1)])), (1, (0, [(1, 1)]))], [(([(0, 7), ((-9223372036854775808), 9223372036854775807), ((-9223372036854775808), 9223372036854775807)], [], [], 212), some (1, (0, [(2, 1)])))])
def s_90 : List aCt := [c_89]
def h_90_0 : Nat × aS × Fm := (27, ([(0, (2, (1, []))), (1, (0, (0, [(0, 1)]))), (2, (1, (0, [(1, 1)]))), (4, (1, (0, [(2, 1)]))), (6, (0, (0, [(4, 1)]))), (7, (0, (0, [(3, 1)])))], [], ([(0, 7), ((-9223372036854775808), 9223372036854775807), ((-9223372036854775808), 9223372036854775807), (0, 8), ((-2147483648), 2147483647)], [], [], 212)), (17, [(3, (-2))]))
def h_90 : List (Nat × aS × Fm) := [h_90_0]
theorem e_90 : ckE 6000 gT s_90 (fun _ => 0) sp0 c_90 h_90 = true := by decide +kernel
theorem g_90_0 : ([h_90_0].all fun H => ckH 6000 gT s_90 (fun _ => 0) sp0 c_90 h_90 H) = true := by decide +kernel
theorem k_90 (hB : BytesOK) (g : bG) (l : Launch) : Keeps g l gT c_90 := keeps_of hB.1 hB.2 (List.forall_mem_cons.mpr ⟨k_89 hB g l, nilK⟩) e_90 (List.all_eq_true.mp g_90_0)
/-- B.share ((('c', 0), ('u', 0), ('u', 0), ('u', 0)), ()) -/
def c_91 : aCt := (148, 5, some [(1, 8, 9), (42, 0, 8)], false, ([((-2147483648), 2147483647), ((-2147483648), 2147483647), ((-2147483648), 2147483647)], [], [], 212), [(2, (0, [])), (0, (0, [(0, 1)])), (0, (0, [(1, 1)])), (0, (0, [(2, 1)]))], [(([((-2147483648), 2147483647), ((-2147483648), 2147483647), ((-2147483648), 2147483647), ((-2147483648), 2147483647)], [], [], 212), some (0, (0, [(3, 1)])))])
def s_91 : List aCt := [c_84, c_88, c_90]
def h_91 : List (Nat × aS × Fm) := []
theorem e_91 : ckE 6000 gT s_91 (fun _ => 0) sp0 c_91 h_91 = true := by decide +kernel
theorem k_91 (hB : BytesOK) (g : bG) (l : Launch) : Keeps g l gT c_91 := keeps_of hB.1 hB.2 (List.forall_mem_cons.mpr ⟨k_84 hB g l, List.forall_mem_cons.mpr ⟨k_88 hB g l, List.forall_mem_cons.mpr ⟨k_90 hB g l, nilK⟩⟩⟩) e_91 nilK
/-- Rows.become ((('c', 178), ('c', 1), ('u', 0)), ()) -/
def c_92 : aCt := (59, 5, some [(1, 8, 9), (42, 0, 8), (178, 0, 1), (179, 0, 8), (180, 0, 8)], false, ([(0, 239)], [], [], 212), [(2, (178, [])), (2, (1, [])), (0, (0, [(0, 1)]))], [(([(0, 239)], [], [], 212), none)])
def sp_92 : aSp := fun k pc S => if pc = 53 ∧ k = 59 then spL 5 [] S else none
def s_92 : List aCt := [c_84, c_88, c_90]
def h_92_0 : Nat × aS × Fm := (33, ([(0, (2, (178, []))), (1, (2, (1, []))), (2, (0, (0, [(0, 1)]))), (3, (1, (0, [(3, 1)]))), (5, (0, (0, [(1, 1)])))], [], ([(0, 239), (0, 8), (0, 8), ((-9223372036854775808), 9223372036854775807)], [(0, [(1, (-1)), (2, 1)])], [((178, 0), (0, [(2, 1)]))], 212)), (17, [(1, (-2))]))
def h_92 : List (Nat × aS × Fm) := [h_92_0]
theorem e_92 : ckE 6000 gT s_92 (fun _ => 0) sp_92 c_92 h_92 = true := by decide +kernel
theorem g_92_0 : ([h_92_0].all fun H => ckH 6000 gT s_92 (fun _ => 0) sp_92 c_92 h_92 H) = true := by decide +kernel
theorem k_92 (hB : BytesOK) (g : bG) (l : Launch) : Keeps g l gT c_92 := keeps_of hB.1 hB.2 (List.forall_mem_cons.mpr ⟨k_84 hB g l, List.forall_mem_cons.mpr ⟨k_88 hB g l, List.forall_mem_cons.mpr ⟨k_90 hB g l, nilK⟩⟩⟩) e_92 (List.all_eq_true.mp g_92_0)
/-- B.prove ((('c', 0), ('u', 0)), ()) -/
def c_93 : aCt := (149, 6, some [(1, 8, 9), (42, 0, 8), (178, 0, 1), (179, 0, 8), (180, 0, 8)], false, ([((-2147483648), 2147483647)], [], [], 212), [(2, (0, [])), (0, (0, [(0, 1)]))], [(([((-2147483648), 2147483647), ((-1), 8)], [], [], 212), some (0, (0, [(1, 1)])))])
def s_93 : List aCt := [c_92]
def h_93 : List (Nat × aS × Fm) := []
theorem e_93 : ckE 6000 gT s_93 (fun _ => 0) sp0 c_93 h_93 = true := by decide +kernel
theorem k_93 (hB : BytesOK) (g : bG) (l : Launch) : Keeps g l gT c_93 := keeps_of hB.1 hB.2 (List.forall_mem_cons.mpr ⟨k_92 hB g l, nilK⟩) e_93 nilK
/-- B.row ((('c', 0), ('u', 0), ('u', 0)), ()) -/
def c_94 : aCt := (150, 2, some [], false, ([((-2147483648), 2147483647), ((-2147483648), 2147483647)], [], [], 212), [(2, (0, [])), (0, (0, [(0, 1)])), (0, (0, [(1, 1)]))], [(([((-2147483648), 2147483647), ((-2147483648), 2147483647), ((-2147483648), 2147483647)], [], [], 212), some (0, (0, [(2, 1)])))])
def s_94 : List aCt := []
def h_94 : List (Nat × aS × Fm) := []
theorem e_94 : ckE 6000 gT s_94 (fun _ => 0) sp0 c_94 h_94 = true := by decide +kernel
theorem k_94 (hB : BytesOK) (g : bG) (l : Launch) : Keeps g l gT c_94 := keeps_of hB.1 hB.2 (nilK) e_94 nilK
/-- Rows.alter ((('c', 178), ('u', 0), ('u', 0), ('u', 0)), ()) -/
def c_95 : aCt := (62, 2, some [(179, 0, 8), (180, 0, 8)], false, ([((-2147483648), 2147483647), ((-2147483648), 2147483647), ((-2147483648), 2147483647)], [], [], 212), [(2, (178, [])), (0, (0, [(0, 1)])), (0, (0, [(1, 1)])), (0, (0, [(2, 1)]))], [(([((-2147483648), 2147483647), ((-2147483648), 2147483647), ((-2147483648), 2147483647), ((-2147483648), 2147483647)], [], [], 212), some (0, (0, [(3, 1)])))])
def s_95 : List aCt := []
def h_95 : List (Nat × aS × Fm) := []
theorem e_95 : ckE 6000 gT s_95 (fun _ => 0) sp0 c_95 h_95 = true := by decide +kernel
theorem k_95 (hB : BytesOK) (g : bG) (l : Launch) : Keeps g l gT c_95 := keeps_of hB.1 hB.2 (nilK) e_95 nilK
/-- B.alterRow ((('c', 0), ('u', 0), ('u', 0), ('u', 0)), ()) -/
def c_96 : aCt := (151, 3, some [(179, 0, 8), (180, 0, 8)], false, ([((-2147483648), 2147483647), ((-2147483648), 2147483647), ((-2147483648), 2147483647)], [], [], 212), [(2, (0, [])), (0, (0, [(0, 1)])), (0, (0, [(1, 1)])), (0, (0, [(2, 1)]))], [(([((-2147483648), 2147483647), ((-2147483648), 2147483647), ((-2147483648), 2147483647), ((-2147483648), 2147483647)], [], [], 212), some (0, (0, [(3, 1)])))])
def s_96 : List aCt := [c_95]
def h_96 : List (Nat × aS × Fm) := []
theorem e_96 : ckE 6000 gT s_96 (fun _ => 0) sp0 c_96 h_96 = true := by decide +kernel
theorem k_96 (hB : BytesOK) (g : bG) (l : Launch) : Keeps g l gT c_96 := keeps_of hB.1 hB.2 (List.forall_mem_cons.mpr ⟨k_95 hB g l, nilK⟩) e_96 nilK
/-- Rows.isRight ((('c', 178), ('u', 0), ('c', 1), ('u', 1)), ()) -/
def c_97 : aCt := (64, 1, some [], false, ([(0, 7), ((-9223372036854775808), 9223372036854775807)], [], [], 212), [(2, (178, [])), (0, (0, [(0, 1)])), (2, (1, [])), (1, (0, [(1, 1)]))], [(([(0, 7), ((-9223372036854775808), 9223372036854775807), (0, 1)], [], [], 212), some (0, (0, [(2, 1)])))])
def sp_97 : aSp := fun k pc S => if pc = 0 ∧ k = 64 then spL 1 [0, 1, 2, 3, 4, 5, 6] S else none
def s_97 : List aCt := [c_89]
def h_97 : List (Nat × aS × Fm) := []
theorem e_97 : ckE 6000 gT s_97 (fun _ => 0) sp_97 c_97 h_97 = true := by decide +kernel
theorem k_97 (hB : BytesOK) (g : bG) (l : Launch) : Keeps g l gT c_97 := keeps_of hB.1 hB.2 (List.forall_mem_cons.mpr ⟨k_89 hB g l, nilK⟩) e_97 nilK
/-- Rows.firstWrong ((('c', 178), ('c', 1), ('u', 0)), ()) -/
def c_98 : aCt := (63, 5, some [(1, 8, 9), (42, 0, 8)], false, ([(0, 239)], [], [], 212), [(2, (178, [])), (2, (1, [])), (0, (0, [(0, 1)]))], [(([(0, 239), (0, 8)], [], [], 212), some (0, (0, [(1, 1)])))])
def s_98 : List aCt := [c_84, c_88, c_97]
def h_98_0 : Nat × aS × Fm := (57, ([(0, (2, (178, []))), (1, (2, (1, []))), (2, (0, (0, [(0, 1)]))), (3, (1, (0, [(3, 1)]))), (5, (1, (0, [(1, 1)]))), (7, (0, (0, [(2, 1)])))], [], ([(0, 239), ((-9223372036854775808), 9223372036854775807), (0, 8), ((-9223372036854775808), 9223372036854775807)], [], [], 212)), (17, [(2, (-2))]))
def h_98 : List (Nat × aS × Fm) := [h_98_0]
theorem e_98 : ckE 6000 gT s_98 (fun _ => 0) sp0 c_98 h_98 = true := by decide +kernel
theorem g_98_0 : ([h_98_0].all fun H => ckH 6000 gT s_98 (fun _ => 0) sp0 c_98 h_98 H) = true := by decide +kernel
theorem k_98 (hB : BytesOK) (g : bG) (l : Launch) : Keeps g l gT c_98 := keeps_of hB.1 hB.2 (List.forall_mem_cons.mpr ⟨k_84 hB g l, List.forall_mem_cons.mpr ⟨k_88 hB g l, List.forall_mem_cons.mpr ⟨k_97 hB g l, nilK⟩⟩⟩) e_98 (List.all_eq_true.mp g_98_0)
/-- B.judge ((('c', 0), ('u', 0)), ()) -/
def c_99 : aCt := (152, 6, some [(1, 8, 9), (42, 0, 8)], false, ([((-2147483648), 2147483647)], [], [], 212), [(2, (0, [])), (0, (0, [(0, 1)]))], [(([((-2147483648), 2147483647), ((-1), 8)], [], [], 212), some (0, (0, [(1, 1)])))])
def s_99 : List aCt := [c_98]
def h_99 : List (Nat × aS × Fm) := []
theorem e_99 : ckE 6000 gT s_99 (fun _ => 0) sp0 c_99 h_99 = true := by decide +kernel
theorem k_99 (hB : BytesOK) (g : bG) (l : Launch) : Keeps g l gT c_99 := keeps_of hB.1 hB.2 (List.forall_mem_cons.mpr ⟨k_98 hB g l, nilK⟩) e_99 nilK
/-- B.ask ((('c', 0), ('u', 0), ('u', 0)), ()) -/
def c_100 : aCt := (153, 1, some [(31, 0, 8)], false, ([((-2147483648), 2147483647), ((-2147483648), 2147483647)], [], [], 212), [(2, (0, [])), (0, (0, [(0, 1)])), (0, (0, [(1, 1)]))], [(([((-2147483648), 2147483647), ((-2147483648), 2147483647), ((-1), 9999)], [], [], 212), some (0, (0, [(2, 1)])))])
def s_100 : List aCt := []
def h_100 : List (Nat × aS × Fm) := []
theorem e_100 : ckE 6000 gT s_100 (fun _ => 0) sp0 c_100 h_100 = true := by decide +kernel
theorem k_100 (hB : BytesOK) (g : bG) (l : Launch) : Keeps g l gT c_100 := keeps_of hB.1 hB.2 (nilK) e_100 nilK
/-- Pool.weighAllByHeads ((('c', 1), ('u', 0)), ()) -/
def c_101 : aCt := (34, 3, some [(1, 8, 9), (42, 0, 8)], false, ([(0, 239)], [], [], 212), [(2, (1, [])), (0, (0, [(0, 1)]))], [(([(0, 239)], [], [], 212), none)])
def sp_101 : aSp := fun k pc S => if pc = 13 ∧ k = 34 then spL 2 [] S else none
def s_101 : List aCt := [c_87]
def h_101_0 : Nat × aS × Fm := (7, ([(0, (2, (1, []))), (1, (0, (0, [(0, 1)]))), (2, (0, (0, [(2, 1)])))], [], ([(0, 239), (0, 1763), (0, 8)], [(0, [(1, 1), (2, (-207))])], [((1, 8), (0, [(1, 1)]))], 212)), (17, [(2, (-2))]))
def h_101 : List (Nat × aS × Fm) := [h_101_0]
theorem e_101 : ckE 6000 gT s_101 (fun _ => 0) sp_101 c_101 h_101 = true := by decide +kernel
theorem g_101_0 : ([h_101_0].all fun H => ckH 6000 gT s_101 (fun _ => 0) sp_101 c_101 h_101 H) = true := by decide +kernel
theorem k_101 (hB : BytesOK) (g : bG) (l : Launch) : Keeps g l gT c_101 := keeps_of hB.1 hB.2 (List.forall_mem_cons.mpr ⟨k_87 hB g l, nilK⟩) e_101 (List.all_eq_true.mp g_101_0)
/-- Pool.ringPart ((('c', 1), ('u', 0), ('u', 0), ('u', 0)), ()) -/
def c_102 : aCt := (39, 0, some [], false, ([(0, 7), ((-2147483648), 2147483647), (0, 99999)], [], [], 212), [(2, (1, [])), (0, (0, [(0, 1)])), (0, (0, [(1, 1)])), (0, (0, [(2, 1)]))], [(([(0, 7), ((-2147483648), 2147483647), (0, 99999), ((-9223372036854775808), 9223372036854775807)], [], [], 212), some (1, (0, [(3, 1)])))])
def s_102 : List aCt := []
def h_102 : List (Nat × aS × Fm) := []
theorem e_102 : ckE 6000 gT s_102 (fun _ => 0) sp0 c_102 h_102 = true := by decide +kernel
theorem k_102 (hB : BytesOK) (g : bG) (l : Launch) : Keeps g l gT c_102 := keeps_of hB.1 hB.2 (nilK) e_102 nilK
/-- Pool.holdsTogether ((('c', 1), ('u', 0), ('u', 0)), ()) -/
def c_103 : aCt := (38, 1, some [], false, ([(0, 255), (0, 99999)], [], [], 212), [(2, (1, [])), (0, (0, [(0, 1)])), (0, (0, [(1, 1)]))], [(([(0, 255), (0, 99999), (0, 1)], [], [], 212), some (0, (0, [(2, 1)])))])
def s_103 : List aCt := [c_102]
def h_103_0 : Nat × aS × Fm := (5, ([(0, (2, (1, []))), (1, (0, (0, [(0, 1)]))), (2, (0, (0, [(1, 1)]))), (3, (0, (0, [(2, 1)]))), (4, (0, (0, [(3, 1)])))], [], ([(0, 255), (0, 99999), ((-2147483648), 2147483647), (0, 8)], [], [], 212)), (35, [(3, (-2))]))
def h_103_1 : Nat × aS × Fm := (55, ([(0, (2, (1, []))), (1, (0, (0, [(0, 1)]))), (2, (0, (0, [(1, 1)]))), (3, (0, (0, [(2, 1)]))), (4, (0, (0, [(3, 1)])))], [], ([(0, 255), (0, 99999), ((-2147483648), 2147483647), (0, 8)], [], [], 212)), (17, [(3, (-2))]))
def h_103 : List (Nat × aS × Fm) := [h_103_0, h_103_1]
theorem e_103 : ckE 6000 gT s_103 (fun _ => 0) sp0 c_103 h_103 = true := by decide +kernel
theorem g_103_0 : ([h_103_0, h_103_1].all fun H => ckH 6000 gT s_103 (fun _ => 0) sp0 c_103 h_103 H) = true := by decide +kernel
theorem k_103 (hB : BytesOK) (g : bG) (l : Launch) : Keeps g l gT c_103 := keeps_of hB.1 hB.2 (List.forall_mem_cons.mpr ⟨k_102 hB g l, nilK⟩) e_103 (List.all_eq_true.mp g_103_0)
/-- Pool.widestRing ((('c', 1), ('u', 0), ('u', 0)), ()) -/
def c_104 : aCt := (37, 4, some [(1, 8, 9), (42, 0, 8)], false, ([(0, 239), (0, 99999)], [], [], 212), [(2, (1, [])), (0, (0, [(0, 1)])), (0, (0, [(1, 1)]))], [(([(0, 239), (0, 99999), ((-3), 255)], [], [], 212), some (0, (0, [(2, 1)])))])
def s_104 : List aCt := [c_101, c_103, c_86]
def h_104_0 : Nat × aS × Fm := (11, ([(0, (2, (1, []))), (1, (0, (0, [(0, 1)]))), (2, (0, (0, [(1, 1)]))), (3, (0, (0, [(3, 1)]))), (4, (0, (0, [(2, 1)])))], [], ([(0, 239), (0, 99999), (0, 256), ((-3), 255)], [], [], 212)), (513, [(2, (-2))]))
def h_104 : List (Nat × aS × Fm) := [h_104_0]
theorem e_104 : ckE 6000 gT s_104 (fun _ => 0) sp0 c_104 h_104 = true := by decide +kernel
theorem g_104_0 : ([h_104_0].all fun H => ckH 6000 gT s_104 (fun _ => 0) sp0 c_104 h_104 H) = true := by decide +kernel
theorem k_104 (hB : BytesOK) (g : bG) (l : Launch) : Keeps g l gT c_104 := keeps_of hB.1 hB.2 (List.forall_mem_cons.mpr ⟨k_101 hB g l, List.forall_mem_cons.mpr ⟨k_103 hB g l, List.forall_mem_cons.mpr ⟨k_86 hB g l, nilK⟩⟩⟩) e_104 (List.all_eq_true.mp g_104_0)
