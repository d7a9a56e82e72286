/-- Rows.alter ((('c', 178), ('u', 0), ('u', 0), ('u', 0)), ()) -/
def c_87 : aCt := (62, 2, some [(179, 0, 8), (180, 0, 8)], false, ([((-2147483648), 2147483647), ((-2147483648), 2147483647), ((-2147483648), 2147483647)], [], [], 212), [(2, (178, [])), (0, (0, [(0, 1)])), (0, (0, [(1, 1)])), (0, (0, [(2, 1)]))], [(([((-2147483648), 2147483647), ((-2147483648), 2147483647), ((-2147483648), 2147483647), ((-2147483648), 2147483647)], [], [], 212), some (0, (0, [(3, 1)])))])
def s_87 : List aCt := []
def h_87 : List (Nat × aS × Fm) := []
theorem e_87 : ckE 6000 gT s_87 (fun _ => 0) sp0 c_87 h_87 = true := by decide +kernel
theorem k_87 (hB : BytesOK) (g : bG) (l : Launch) : Keeps g l gT c_87 := keeps_of hB.1 hB.2 (nilK) e_87 nilK
/-- B.alterRow ((('c', 0), ('u', 0), ('u', 0), ('u', 0)), ()) -/
def c_88 : aCt := (151, 3, some [(179, 0, 8), (180, 0, 8)], false, ([((-2147483648), 2147483647), ((-2147483648), 2147483647), ((-2147483648), 2147483647)], [], [], 212), [(2, (0, [])), (0, (0, [(0, 1)])), (0, (0, [(1, 1)])), (0, (0, [(2, 1)]))], [(([((-2147483648), 2147483647), ((-2147483648), 2147483647), ((-2147483648), 2147483647), ((-2147483648), 2147483647)], [], [], 212), some (0, (0, [(3, 1)])))])
def s_88 : List aCt := [c_87]
def h_88 : List (Nat × aS × Fm) := []
theorem e_88 : ckE 6000 gT s_88 (fun _ => 0) sp0 c_88 h_88 = true := by decide +kernel
theorem k_88 (hB : BytesOK) (g : bG) (l : Launch) : Keeps g l gT c_88 := keeps_of hB.1 hB.2 (List.forall_mem_cons.mpr ⟨k_87 hB g l, nilK⟩) e_88 nilK
/-- Rows.isRight ((('c', 178), ('u', 0), ('c', 1), ('u', 1)), ()) -/
def c_89 : aCt := (64, 1, some [], false, ([(0, 7), ((-9223372036854775808), 9223372036854775807)], [], [], 212), [(2, (178, [])), (0, (0, [(0, 1)])), (2, (1, [])), (1, (0, [(1, 1)]))], [(([(0, 7), ((-9223372036854775808), 9223372036854775807), (0, 1)], [], [], 212), some (0, (0, [(2, 1)])))])
def sp_89 : aSp := fun k pc S => if pc = 0 ∧ k = 64 then spL 1 [0, 1, 2, 3, 4, 5, 6] S else none
def s_89 : List aCt := [c_81]
def h_89 : List (Nat × aS × Fm) := []
theorem e_89 : ckE 6000 gT s_89 (fun _ => 0) sp_89 c_89 h_89 = true := by decide +kernel
theorem k_89 (hB : BytesOK) (g : bG) (l : Launch) : Keeps g l gT c_89 := keeps_of hB.1 hB.2 (List.forall_mem_cons.mpr ⟨k_81 hB g l, nilK⟩) e_89 nilK
/-- Rows.firstWrong ((('c', 178), ('c', 1), ('u', 0)), ()) -/
def c_90 : aCt := (63, 5, some [(1, 8, 9), (42, 0, 8)], false, ([(0, 239)], [], [], 212), [(2, (178, [])), (2, (1, [])), (0, (0, [(0, 1)]))], [(([(0, 239), (0, 8)], [], [], 212), some (0, (0, [(1, 1)])))])
def s_90 : List aCt := [c_76, c_80, c_89]
def h_90_0 : Nat × aS × Fm := (57, ([(0, (2, (178, []))), (1, (2, (1, []))), (2, (0, (0, [(0, 1)]))), (3, (1, (0, [(3, 1)]))), (5, (1, (0, [(1, 1)]))), (7, (0, (0, [(2, 1)])))], [], ([(0, 239), ((-9223372036854775808), 9223372036854775807), (0, 8), ((-9223372036854775808), 9223372036854775807)], [], [], 212)), (17, [(2, (-2))]))
def h_90 : List (Nat × aS × Fm) := [h_90_0]
theorem e_90 : ckE 6000 gT s_90 (fun _ => 0) sp0 c_90 h_90 = true := by decide +kernel
theorem g_90_0 : ([h_90_0].all fun H => ckH 6000 gT s_90 (fun _ => 0) sp0 c_90 h_90 H) = true := by decide +kernel
theorem k_90 (hB : BytesOK) (g : bG) (l : Launch) : Keeps g l gT c_90 := keeps_of hB.1 hB.2 (List.forall_mem_cons.mpr ⟨k_76 hB g l, List.forall_mem_cons.mpr ⟨k_80 hB g l, List.forall_mem_cons.mpr ⟨k_89 hB g l, nilK⟩⟩⟩) e_90 (List.all_eq_true.mp g_90_0)
/-- B.judge ((('c', 0), ('u', 0)), ()) -/
def c_91 : aCt := (152, 6, some [(1, 8, 9), (42, 0, 8)], false, ([((-2147483648), 2147483647)], [], [], 212), [(2, (0, [])), (0, (0, [(0, 1)]))], [(([((-2147483648), 2147483647), ((-1), 8)], [], [], 212), some (0, (0, [(1, 1)])))])
def s_91 : List aCt := [c_90]
def h_91 : List (Nat × aS × Fm) := []
theorem e_91 : ckE 6000 gT s_91 (fun _ => 0) sp0 c_91 h_91 = true := by decide +kernel
theorem k_91 (hB : BytesOK) (g : bG) (l : Launch) : Keeps g l gT c_91 := keeps_of hB.1 hB.2 (List.forall_mem_cons.mpr ⟨k_90 hB g l, nilK⟩) e_91 nilK
/-- B.ask ((('c', 0), ('u', 0), ('u', 0)), ()) -/
def c_92 : aCt := (153, 1, some [(31, 0, 8)], false, ([((-2147483648), 2147483647), ((-2147483648), 2147483647)], [], [], 212), [(2, (0, [])), (0, (0, [(0, 1)])), (0, (0, [(1, 1)]))], [(([((-2147483648), 2147483647), ((-2147483648), 2147483647), ((-1), 9999)], [], [], 212), some (0, (0, [(2, 1)])))])
def s_92 : List aCt := []
def h_92 : List (Nat × aS × Fm) := []
theorem e_92 : ckE 6000 gT s_92 (fun _ => 0) sp0 c_92 h_92 = true := by decide +kernel
theorem k_92 (hB : BytesOK) (g : bG) (l : Launch) : Keeps g l gT c_92 := keeps_of hB.1 hB.2 (nilK) e_92 nilK
/-- Pool.weighAllByHeads ((('c', 1), ('u', 0)), ()) -/
def c_93 : aCt := (34, 3, some [(1, 8, 9), (42, 0, 8)], false, ([(0, 239)], [], [], 212), [(2, (1, [])), (0, (0, [(0, 1)]))], [(([(0, 239)], [], [], 212), none)])
def sp_93 : aSp := fun k pc S => if pc = 13 ∧ k = 34 then spL 2 [] S else none
def s_93 : List aCt := [c_79]
def h_93_0 : Nat × aS × Fm := (7, ([(0, (2, (1, []))), (1, (0, (0, [(0, 1)]))), (2, (0, (0, [(2, 1)])))], [], ([(0, 239), (0, 1763), (0, 8)], [(0, [(1, 1), (2, (-207))])], [((1, 8), (0, [(1, 1)]))], 212)), (17, [(2, (-2))]))
def h_93 : List (Nat × aS × Fm) := [h_93_0]
theorem e_93 : ckE 6000 gT s_93 (fun _ => 0) sp_93 c_93 h_93 = true := by decide +kernel
theorem g_93_0 : ([h_93_0].all fun H => ckH 6000 gT s_93 (fun _ => 0) sp_93 c_93 h_93 H) = true := by decide +kernel
theorem k_93 (hB : BytesOK) (g : bG) (l : Launch) : Keeps g l gT c_93 := keeps_of hB.1 hB.2 (List.forall_mem_cons.mpr ⟨k_79 hB g l, nilK⟩) e_93 (List.all_eq_true.mp g_93_0)
/-- Pool.ringPart ((('c', 1), ('u', 0), ('u', 0), ('u', 0)), ()) -/
def c_94 : aCt := (39, 0, some [], false, ([(0, 7), ((-2147483648), 2147483647), (0, 99999)], [], [], 212), [(2, (1, [])), (0, (0, [(0, 1)])), (0, (0, [(1, 1)])), (0, (0, [(2, 1)]))], [(([(0, 7), ((-2147483648), 2147483647), (0, 99999), ((-9223372036854775808), 9223372036854775807)], [], [], 212), some (1, (0, [(3, 1)])))])
def s_94 : List aCt := []
def h_94 : List (Nat × aS × Fm) := []
theorem e_94 : ckE 6000 gT s_94 (fun _ => 0) sp0 c_94 h_94 = true := by decide +kernel
theorem k_94 (hB : BytesOK) (g : bG) (l : Launch) : Keeps g l gT c_94 := keeps_of hB.1 hB.2 (nilK) e_94 nilK
/-- Pool.holdsTogether ((('c', 1), ('u', 0), ('u', 0)), ()) -/
def c_95 : aCt := (38, 1, some [], false, ([(0, 255), (0, 99999)], [], [], 212), [(2, (1, [])), (0, (0, [(0, 1)])), (0, (0, [(1, 1)]))], [(([(0, 255), (0, 99999), (0, 1)], [], [], 212), some (0, (0, [(2, 1)])))])
def s_95 : List aCt := [c_94]
def h_95_0 : Nat × aS × Fm := (5, ([(0, (2, (1, []))), (1, (0, (0, [(0, 1)]))), (2, (0, (0, [(1, 1)]))), (3, (0, (0, [(2, 1)]))), (4, (0, (0, [(3, 1)])))], [], ([(0, 255), (0, 99999), ((-2147483648), 2147483647), (0, 8)], [], [], 212)), (35, [(3, (-2))]))
def h_95_1 : Nat × aS × Fm := (55, ([(0, (2, (1, []))), (1, (0, (0, [(0, 1)]))), (2, (0, (0, [(1, 1)]))), (3, (0, (0, [(2, 1)]))), (4, (0, (0, [(3, 1)])))], [], ([(0, 255), (0, 99999), ((-2147483648), 2147483647), (0, 8)], [], [], 212)), (17, [(3, (-2))]))
def h_95 : List (Nat × aS × Fm) := [h_95_0, h_95_1]
theorem e_95 : ckE 6000 gT s_95 (fun _ => 0) sp0 c_95 h_95 = true := by decide +kernel
theorem g_95_0 : ([h_95_0, h_95_1].all fun H => ckH 6000 gT s_95 (fun _ => 0) sp0 c_95 h_95 H) = true := by decide +kernel
theorem k_95 (hB : BytesOK) (g : bG) (l : Launch) : Keeps g l gT c_95 := keeps_of hB.1 hB.2 (List.forall_mem_cons.mpr ⟨k_94 hB g l, nilK⟩) e_95 (List.all_eq_true.mp g_95_0)
/-- Pool.widestRing ((('c', 1), ('u', 0), ('u', 0)), ()) -/
def c_96 : aCt := (37, 4, some [(1, 8, 9), (42, 0, 8)], false, ([(0, 239), (0, 99999)], [], [], 212), [(2, (1, [])), (0, (0, [(0, 1)])), (0, (0, [(1, 1)]))], [(([(0, 239), (0, 99999), ((-3), 255)], [], [], 212), some (0, (0, [(2, 1)])))])
def s_96 : List aCt := [c_93, c_95, c_78]
def h_96_0 : Nat × aS × Fm := (11, ([(0, (2, (1, []))), (1, (0, (0, [(0, 1)]))), (2, (0, (0, [(1, 1)]))), (3, (0, (0, [(3, 1)]))), (4, (0, (0, [(2, 1)])))], [], ([(0, 239), (0, 99999), (0, 256), ((-3), 255)], [], [], 212)), (513, [(2, (-2))]))
def h_96 : List (Nat × aS × Fm) := [h_96_0]
theorem e_96 : ckE 6000 gT s_96 (fun _ => 0) sp0 c_96 h_96 = true := by decide +kernel
theorem g_96_0 : ([h_96_0].all fun H => ckH 6000 gT s_96 (fun _ => 0) sp0 c_96 h_96 H) = true := by decide +kernel
theorem k_96 (hB : BytesOK) (g : bG) (l : Launch) : Keeps g l gT c_96 := keeps_of hB.1 hB.2 (List.forall_mem_cons.mpr ⟨k_93 hB g l, List.forall_mem_cons.mpr ⟨k_95 hB g l, List.forall_mem_cons.mpr ⟨k_78 hB g l, nilK⟩⟩⟩) e_96 (List.all_eq_true.mp g_96_0)
/-- B.ring ((('c', 0), ('u', 0), ('u', 0)), ()) -/
def c_97 : aCt := (154, 5, some [(1, 8, 9), (42, 0, 8)], false, ([((-2147483648), 2147483647), ((-2147483648), 2147483647)], [], [], 212), [(2, (0, [])), (0, (0, [(0, 1)])), (0, (0, [(1, 1)]))], [(([((-2147483648), 2147483647), ((-2147483648), 2147483647), ((-3), 255)], [], [], 212), some (0, (0, [(2, 1)])))])
def s_97 : List aCt := [c_96]
def h_97 : List (Nat × aS × Fm) := []
theorem e_97 : ckE 6000 gT s_97 (fun _ => 0) sp0 c_97 h_97 = true := by decide +kernel
theorem k_97 (hB : BytesOK) (g : bG) (l : Launch) : Keeps g l gT c_97 := keeps_of hB.1 hB.2 (List.forall_mem_cons.mpr ⟨k_96 hB g l, nilK⟩) e_97 nilK
/-- Talks.setMachine ((('c', 30), ('u', 0), ('u', 0)), ()) -/
def c_98 : aCt := (75, 1, some [(32, 0, 6)], false, ([((-2147483648), 2147483647), ((-2147483648), 2147483647)], [], [], 212), [(2, (30, [])), (0, (0, [(0, 1)])), (0, (0, [(1, 1)]))], [(([((-2147483648), 2147483647), ((-2147483648), 2147483647), ((-1), 333333)], [], [], 212), some (0, (0, [(2, 1)])))])
def s_98 : List aCt := []
def h_98_0 : Nat × aS × Fm := (24, ([(0, (2, (30, []))), (1, (0, (0, [(0, 1)]))), (2, (0, (0, [(1, 1)]))), (3, (0, (0, [(2, 1)]))), (4, (0, (0, [(3, 1)])))], [], ([(0, 5), (0, 333333), (0, 333333), (0, 6)], [], [], 212)), (13, [(3, (-2))]))
def h_98 : List (Nat × aS × Fm) := [h_98_0]
theorem e_98 : ckE 6000 gT s_98 (fun _ => 0) sp0 c_98 h_98 = true := by decide +kernel
theorem g_98_0 : ([h_98_0].all fun H => ckH 6000 gT s_98 (fun _ => 0) sp0 c_98 h_98 H) = true := by decide +kernel
theorem k_98 (hB : BytesOK) (g : bG) (l : Launch) : Keeps g l gT c_98 := keeps_of hB.1 hB.2 (nilK) e_98 (List.all_eq_true.mp g_98_0)
/-- B.machine ((('c', 0), ('u', 0), ('u', 0)), ()) -/
def c_99 : aCt := (155, 2, some [(32, 0, 6)], false, ([((-2147483648), 2147483647), ((-2147483648), 2147483647)], [], [], 212), [(2, (0, [])), (0, (0, [(0, 1)])), (0, (0, [(1, 1)]))], [(([((-2147483648), 2147483647), ((-2147483648), 2147483647), ((-1), 333333)], [], [], 212), some (0, (0, [(2, 1)])))])
def s_99 : List aCt := [c_98]
def h_99 : List (Nat × aS × Fm) := []
theorem e_99 : ckE 6000 gT s_99 (fun _ => 0) sp0 c_99 h_99 = true := by decide +kernel
theorem k_99 (hB : BytesOK) (g : bG) (l : Launch) : Keeps g l gT c_99 := keeps_of hB.1 hB.2 (List.forall_mem_cons.mpr ⟨k_98 hB g l, nilK⟩) e_99 nilK
/-- Talks.hasCrossed ((('c', 30), ('u', 0), ('u', 0)), ()) -/
def c_100 : aCt := (76, 0, some [], false, ([(0, 7), (0, 5)], [], [], 212), [(2, (30, [])), (0, (0, [(0, 1)])), (0, (0, [(1, 1)]))], [(([(0, 7), (0, 5), (0, 1)], [], [], 212), some (0, (0, [(2, 1)])))])
def s_100 : List aCt := []
def h_100 : List (Nat × aS × Fm) := []
theorem e_100 : ckE 6000 gT s_100 (fun _ => 0) sp0 c_100 h_100 = true := by decide +kernel
theorem k_100 (hB : BytesOK) (g : bG) (l : Launch) : Keeps g l gT c_100 := keeps_of hB.1 hB.2 (nilK) e_100 nilK
/-- Talks.setCrossed ((('c', 30), ('u', 0), ('u', 0), ('u', 0)), ()) -/
def c_101 : aCt := (77, 1, some [(33, 0, 8)], false, ([((-2147483648), 2147483647), ((-2147483648), 2147483647), (0, 1)], [], [], 212), [(2, (30, [])), (0, (0, [(0, 1)])), (0, (0, [(1, 1)])), (0, (0, [(2, 1)]))], [(([((-2147483648), 2147483647), ((-2147483648), 2147483647), (0, 1), ((-1), 1)], [], [], 212), some (0, (0, [(3, 1)])))])
def s_101 : List aCt := [c_2, c_100]
def h_101 : List (Nat × aS × Fm) := []
theorem e_101 : ckE 6000 gT s_101 (fun _ => 0) sp0 c_101 h_101 = true := by decide +kernel
theorem k_101 (hB : BytesOK) (g : bG) (l : Launch) : Keeps g l gT c_101 := keeps_of hB.1 hB.2 (List.forall_mem_cons.mpr ⟨k_2 hB g l, List.forall_mem_cons.mpr ⟨k_100 hB g l, nilK⟩⟩) e_101 nilK
/-- B.crossed ((('c', 0), ('u', 0), ('u', 0), ('u', 0)), ()) -/
def c_102 : aCt := (156, 2, some [(33, 0, 8)], false, ([((-2147483648), 2147483647), ((-2147483648), 2147483647), (0, 1)], [], [], 212), [(2, (0, [])), (0, (0, [(0, 1)])), (0, (0, [(1, 1)])), (0, (0, [(2, 1)]))], [(([((-2147483648), 2147483647), ((-2147483648), 2147483647), (0, 1), ((-1), 1)], [], [], 212), some (0, (0, [(3, 1)])))])
def s_102 : List aCt := [c_101]
def h_102 : List (Nat × aS × Fm) := []
theorem e_102 : ckE 6000 gT s_102 (fun _ => 0) sp0 c_102 h_102 = true := by decide +kernel
theorem k_102 (hB : BytesOK) (g : bG) (l : Launch) : Keeps g l gT c_102 := keeps_of hB.1 hB.2 (List.forall_mem_cons.mpr ⟨k_101 hB g l, nilK⟩) e_102 nilK
/-- Needs.stepsOfMachine ((('c', 14), ('u', 0)), ()) -/
def c_103 : aCt := (17, 0, some [], false, ([(0, 333333)], [], [], 212), [(2, (14, [])), (0, (0, [(0, 1)]))], [(([(0, 333333), (0, 65535)], [], [], 212), some (0, (0, [(1, 1)])))])
def s_103 : List aCt := []
def h_103_0 : Nat × aS × Fm := (7, ([(0, (2, (14, []))), (1, (0, (0, [(0, 1)]))), (2, (0, (0, [(1, 1)]))), (3, (0, (0, [(2, 1)]))), (4, (0, (0, [(3, 1)])))], [], ([(0, 333333), (0, 65535), (0, 333333), (0, 6)], [], [], 212)), (13, [(3, (-2))]))
def h_103 : List (Nat × aS × Fm) := [h_103_0]
theorem e_103 : ckE 6000 gT s_103 (fun _ => 0) sp0 c_103 h_103 = true := by decide +kernel
theorem g_103_0 : ([h_103_0].all fun H => ckH 6000 gT s_103 (fun _ => 0) sp0 c_103 h_103 H) = true := by decide +kernel
theorem k_103 (hB : BytesOK) (g : bG) (l : Launch) : Keeps g l gT c_103 := keeps_of hB.1 hB.2 (nilK) e_103 (List.all_eq_true.mp g_103_0)
/-- Pool.holeBits ((('c', 1), ('u', 0), ('u', 0), ('u', 0)), ()) -/
def c_104 : aCt := (40, 1, some [], false, ([(0, 59999), (0, 239), (0, 1)], [], [], 212), [(2, (1, [])), (0, (0, [(0, 1)])), (0, (0, [(1, 1)])), (0, (0, [(2, 1)]))], [(([(0, 59999), (0, 239), (0, 1), ((-2147483648), 2147483647)], [], [], 212), some (0, (0, [(3, 1)])))])
def s_104 : List aCt := [c_103, c_5, c_7, c_100]
def h_104_0 : Nat × aS × Fm := (49, ([(0, (2, (1, []))), (1, (0, (0, [(0, 1)]))), (2, (0, (0, [(1, 1)]))), (3, (0, (0, [(2, 1)]))), (4, (0, (0, [(3, 1)]))), (5, (0, (0, [(4, 1)]))), (6, (0, (0, [(5, 1)]))), (7, (0, (0, [(6, 1)]))), (8, (0, (0, [(8, 1)]))), (9, (0, (0, [(7, 1)])))], [], ([(0, 59999), (0, 239), (0, 1), (0, 5), (0, 9), (0, 999), (0, 65535), (0, 16), ((-2147483648), 2147483647)], [], [], 212)), (33, [(7, (-2))]))
def h_104 : List (Nat × aS × Fm) := [h_104_0]
theorem e_104 : ckE 6000 gT s_104 (fun _ => 0) sp0 c_104 h_104 = true := by decide +kernel
theorem g_104_0 : ([h_104_0].all fun H => ckH 6000 gT s_104 (fun _ => 0) sp0 c_104 h_104 H) = true := by decide +kernel
theorem k_104 (hB : BytesOK) (g : bG) (l : Launch) : Keeps g l gT c_104 := keeps_of hB.1 hB.2 (List.forall_mem_cons.mpr ⟨k_103 hB g l, List.forall_mem_cons.mpr ⟨k_5 hB g l, List.forall_mem_cons.mpr ⟨k_7 hB g l, List.forall_mem_cons.mpr ⟨k_100 hB g l, nilK⟩⟩⟩⟩) e_104 (List.all_eq_true.mp g_104_0)
/-- B.holes ((('c', 0), ('u', 0), ('u', 0), ('u', 0)), ()) -/
def c_105 : aCt := (157, 2, some [], false, ([((-2147483648), 2147483647), ((-2147483648), 2147483647), (0, 1)], [], [], 212), [(2, (0, [])), (0, (0, [(0, 1)])), (0, (0, [(1, 1)])), (0, (0, [(2, 1)]))], [(([((-2147483648), 2147483647), ((-2147483648), 2147483647), (0, 1), ((-2147483648), 2147483647)], [], [], 212), some (0, (0, [(3, 1)])))])
def sp_105 : aSp := fun k pc S => if pc = 0 ∧ k = 157 then spL 1 [59999] S else none
def s_105 : List aCt := [c_104]
def h_105 : List (Nat × aS × Fm) := []
theorem e_105 : ckE 6000 gT s_105 (fun _ => 0) sp_105 c_105 h_105 = true := by decide +kernel
theorem k_105 (hB : BytesOK) (g : bG) (l : Launch) : Keeps g l gT c_105 := keeps_of hB.1 hB.2 (List.forall_mem_cons.mpr ⟨k_104 hB g l, nilK⟩) e_105 nilK
/-- Talks.addLike ((('c', 30), ('u', 0), ('u', 0)), ()) -/
def c_106 : aCt := (78, 0, some [(30, 3, 6)], false, ([((-2147483648), 2147483647), ((-2147483648), 2147483647)], [], [], 212), [(2, (30, [])), (0, (0, [(0, 1)])), (0, (0, [(1, 1)]))], [(([((-2147483648), 2147483647), ((-2147483648), 2147483647), ((-2), 8)], [], [], 212), some (0, (0, [(2, 1)])))])
def s_106 : List aCt := []
def h_106 : List (Nat × aS × Fm) := []
theorem e_106 : ckE 6000 gT s_106 (fun _ => 0) sp0 c_106 h_106 = true := by decide +kernel
theorem k_106 (hB : BytesOK) (g : bG) (l : Launch) : Keeps g l gT c_106 := keeps_of hB.1 hB.2 (nilK) e_106 nilK
/-- B.like ((('c', 0), ('u', 0), ('u', 0)), ()) -/
def c_107 : aCt := (158, 1, some [(30, 3, 6)], false, ([((-2147483648), 2147483647), ((-2147483648), 2147483647)], [], [], 212), [(2, (0, [])), (0, (0, [(0, 1)])), (0, (0, [(1, 1)]))], [(([((-2147483648), 2147483647), ((-2147483648), 2147483647), ((-2), 8)], [], [], 212), some (0, (0, [(2, 1)])))])
def s_107 : List aCt := [c_106]
def h_107 : List (Nat × aS × Fm) := []
theorem e_107 : ckE 6000 gT s_107 (fun _ => 0) sp0 c_107 h_107 = true := by decide +kernel
theorem k_107 (hB : BytesOK) (g : bG) (l : Launch) : Keeps g l gT c_107 := keeps_of hB.1 hB.2 (List.forall_mem_cons.mpr ⟨k_106 hB g l, nilK⟩) e_107 nilK
/-- Pool.fairBy ((('c', 1), ('u', 0), ('u', 0), ('u', 0)), ()) -/
def c_108 : aCt := (42, 5, some [], false, ([(0, 7), (0, 239), (0, 2)], [], [], 212), [(2, (1, [])), (0, (0, [(0, 1)])), (0, (0, [(1, 1)])), (0, (0, [(2, 1)]))], [(([(0, 7), (0, 239), (0, 2), ((-9223372036854775808), 9223372036854775807)], [], [], 212), some (1, (0, [(3, 1)])))])
def sp_108 : aSp := fun k pc S => if pc = 41 ∧ k = 42 then spS 0 [(-1), 0] S else if pc = 115 ∧ k = 42 then spD [(-1), 0] S else none
def s_108 : List aCt := [c_76, c_79]
def h_108_0 : Nat × aS × Fm := (77, ([(0, (2, (1, []))), (1, (0, (0, [(0, 1)]))), (2, (0, (0, [(1, 1)]))), (3, (0, (0, [(2, 1)]))), (4, (0, (0, [(4, 1)]))), (5, (1, (0, [(3, 1)]))), (7, (1, (0, [(5, 1)]))), (9, (0, (0, [(6, 1)])))], [], ([(0, 7), (0, 239), (1, 2), (0, 207), (0, 2), ((-9223372036854775808), 9223372036854775807), (0, 8)], [], [], 212)), (17, [(6, (-2))]))
def h_108 : List (Nat × aS × Fm) := [h_108_0]
theorem e_108 : ckE 6000 gT s_108 (fun _ => 0) sp_108 c_108 h_108 = true := by decide +kernel
theorem g_108_0 : ([h_108_0].all fun H => ckH 6000 gT s_108 (fun _ => 0) sp_108 c_108 h_108 H) = true := by decide +kernel
theorem k_108 (hB : BytesOK) (g : bG) (l : Launch) : Keeps g l gT c_108 := keeps_of hB.1 hB.2 (List.forall_mem_cons.mpr ⟨k_76 hB g l, List.forall_mem_cons.mpr ⟨k_79 hB g l, nilK⟩⟩) e_108 (List.all_eq_true.mp g_108_0)
