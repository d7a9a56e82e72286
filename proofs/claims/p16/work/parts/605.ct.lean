/-- Pool.fairSum ((('c', 1), ('u', 0), ('u', 0), ('u', 0)), ()) -/
def c_109 : aCt := (41, 6, some [], false, ([(0, 7), (0, 239), (0, 4)], [], [], 212), [(2, (1, [])), (0, (0, [(0, 1)])), (0, (0, [(1, 1)])), (0, (0, [(2, 1)]))], [(([(0, 7), (0, 239), (0, 4), ((-2147483648), 2147483647)], [], [], 212), some (0, (0, [(3, 1)])))])
def s_109 : List aCt := [c_108]
def h_109_0 : Nat × aS × Fm := (23, ([(0, (2, (1, []))), (1, (0, (0, [(0, 1)]))), (2, (0, (0, [(1, 1)]))), (3, (0, (0, [(2, 1)]))), (4, (1, (0, [(3, 1)]))), (6, (1, (0, [(5, 1)]))), (8, (0, (0, [(4, 1)])))], [], ([(0, 7), (0, 239), (3, 4), (0, 9223372036854775807), (0, 3), (0, 9223372036854775807)], [], [], 212)), (7, [(4, (-2))]))
def h_109 : List (Nat × aS × Fm) := [h_109_0]
theorem e_109 : ckE 6000 gT s_109 (fun _ => 0) sp0 c_109 h_109 = true := by decide +kernel
theorem g_109_0 : ([h_109_0].all fun H => ckH 6000 gT s_109 (fun _ => 0) sp0 c_109 h_109 H) = true := by decide +kernel
theorem k_109 (hB : BytesOK) (g : bG) (l : Launch) : Keeps g l gT c_109 := keeps_of hB.1 hB.2 (List.forall_mem_cons.mpr ⟨k_108 hB g l, nilK⟩) e_109 (List.all_eq_true.mp g_109_0)
/-- B.fair ((('c', 0), ('u', 0), ('u', 0), ('u', 0)), ()) -/
def c_110 : aCt := (159, 7, some [], false, ([((-2147483648), 2147483647), ((-2147483648), 2147483647), ((-2147483648), 2147483647)], [], [], 212), [(2, (0, [])), (0, (0, [(0, 1)])), (0, (0, [(1, 1)])), (0, (0, [(2, 1)]))], [(([((-2147483648), 2147483647), ((-2147483648), 2147483647), ((-2147483648), 2147483647), ((-2147483648), 2147483647)], [], [], 212), some (0, (0, [(3, 1)])))])
def s_110 : List aCt := [c_109]
def h_110 : List (Nat × aS × Fm) := []
theorem e_110 : ckE 6000 gT s_110 (fun _ => 0) sp0 c_110 h_110 = true := by decide +kernel
theorem k_110 (hB : BytesOK) (g : bG) (l : Launch) : Keeps g l gT c_110 := keeps_of hB.1 hB.2 (List.forall_mem_cons.mpr ⟨k_109 hB g l, nilK⟩) e_110 nilK
/-- Sheets.become ((('c', 181), ('u', 0), ('u', 0), ('u', 0)), ()) -/
def c_111 : aCt := (68, 1, some [(182, 0, 4), (183, 0, 4), (185, 0, 40), (186, 0, 40), (187, 0, 40), (188, 0, 40)], false, ([((-2147483648), 2147483647), ((-2147483648), 2147483647), ((-2147483648), 2147483647)], [], [], 212), [(2, (181, [])), (0, (0, [(0, 1)])), (0, (0, [(1, 1)])), (0, (0, [(2, 1)]))], [(([((-2147483648), 2147483647), ((-2147483648), 2147483647), ((-2147483648), 2147483647), ((-14), 1)], [], [], 212), some (0, (0, [(3, 1)])))])
def sp_111 : aSp := fun k pc S => if pc = 77 ∧ k = 68 then spS 0 [0, 1, 2] S else none
def s_111 : List aCt := []
def h_111_0 : Nat × aS × Fm := (65, ([(0, (2, (181, []))), (1, (0, (0, [(0, 1)]))), (2, (0, (0, [(1, 1)]))), (3, (0, (0, [(2, 1)]))), (4, (0, (0, [(3, 1)])))], [], ([(0, 3), ((-1), 3), ((-2147483648), 2147483647), (0, 40)], [], [], 212)), (81, [(3, (-2))]))
def h_111 : List (Nat × aS × Fm) := [h_111_0]
theorem e_111 : ckE 6000 gT s_111 (fun _ => 0) sp_111 c_111 h_111 = true := by decide +kernel
theorem g_111_0 : ([h_111_0].all fun H => ckH 6000 gT s_111 (fun _ => 0) sp_111 c_111 h_111 H) = true := by decide +kernel
theorem k_111 (hB : BytesOK) (g : bG) (l : Launch) : Keeps g l gT c_111 := keeps_of hB.1 hB.2 (nilK) e_111 (List.all_eq_true.mp g_111_0)
/-- B.sheet ((('c', 0), ('u', 0), ('u', 0), ('u', 0)), ()) -/
def c_112 : aCt := (160, 2, some [(182, 0, 4), (183, 0, 4), (185, 0, 40), (186, 0, 40), (187, 0, 40), (188, 0, 40)], false, ([((-2147483648), 2147483647), ((-2147483648), 2147483647), ((-2147483648), 2147483647)], [], [], 212), [(2, (0, [])), (0, (0, [(0, 1)])), (0, (0, [(1, 1)])), (0, (0, [(2, 1)]))], [(([((-2147483648), 2147483647), ((-2147483648), 2147483647), ((-2147483648), 2147483647), ((-14), 1)], [], [], 212), some (0, (0, [(3, 1)])))])
def s_112 : List aCt := [c_111]
def h_112 : List (Nat × aS × Fm) := []
theorem e_112 : ckE 6000 gT s_112 (fun _ => 0) sp0 c_112 h_112 = true := by decide +kernel
theorem k_112 (hB : BytesOK) (g : bG) (l : Launch) : Keeps g l gT c_112 := keeps_of hB.1 hB.2 (List.forall_mem_cons.mpr ⟨k_111 hB g l, nilK⟩) e_112 nilK
/-- Sheets.narrowed ((('u', 0), ('u', 0)), ()) -/
def c_113 : aCt := (70, 0, some [], false, ([((-1), 3), ((-2147483648), 2147483647)], [], [], 212), [(0, (0, [(0, 1)])), (0, (0, [(1, 1)]))], [(([((-1), 3), ((-2147483648), 2147483647), ((-2147483648), 2147483647)], [], [], 212), some (1, (0, [(2, 1)])))])
def s_113 : List aCt := []
def h_113 : List (Nat × aS × Fm) := []
theorem e_113 : ckE 6000 gT s_113 (fun _ => 0) sp0 c_113 h_113 = true := by decide +kernel
theorem k_113 (hB : BytesOK) (g : bG) (l : Launch) : Keeps g l gT c_113 := keeps_of hB.1 hB.2 (nilK) e_113 nilK
/-- Sheets.change ((('c', 181), ('u', 0), ('u', 0), ('u', 0)), ()) -/
def c_114 : aCt := (69, 1, some [(185, 0, 40), (186, 0, 40), (187, 0, 40), (188, 0, 40)], false, ([((-2147483648), 2147483647), ((-2147483648), 2147483647), ((-2147483648), 2147483647)], [], [], 212), [(2, (181, [])), (0, (0, [(0, 1)])), (0, (0, [(1, 1)])), (0, (0, [(2, 1)]))], [(([((-2147483648), 2147483647), ((-2147483648), 2147483647), ((-2147483648), 2147483647), ((-12), 1)], [], [], 212), some (0, (0, [(3, 1)])))])
def sp_114 : aSp := fun k pc S => if pc = 43 ∧ k = 69 then spS 0 [0, 1, 2] S else none
def s_114 : List aCt := [c_113]
def h_114 : List (Nat × aS × Fm) := []
theorem e_114 : ckE 6000 gT s_114 (fun _ => 0) sp_114 c_114 h_114 = true := by decide +kernel
theorem k_114 (hB : BytesOK) (g : bG) (l : Launch) : Keeps g l gT c_114 := keeps_of hB.1 hB.2 (List.forall_mem_cons.mpr ⟨k_113 hB g l, nilK⟩) e_114 nilK
/-- B.put ((('c', 0), ('u', 0), ('u', 0), ('u', 0)), ()) -/
def c_115 : aCt := (161, 2, some [(185, 0, 40), (186, 0, 40), (187, 0, 40), (188, 0, 40)], false, ([((-2147483648), 2147483647), ((-2147483648), 2147483647), ((-2147483648), 2147483647)], [], [], 212), [(2, (0, [])), (0, (0, [(0, 1)])), (0, (0, [(1, 1)])), (0, (0, [(2, 1)]))], [(([((-2147483648), 2147483647), ((-2147483648), 2147483647), ((-2147483648), 2147483647), ((-12), 1)], [], [], 212), some (0, (0, [(3, 1)])))])
def s_115 : List aCt := [c_114]
def h_115 : List (Nat × aS × Fm) := []
theorem e_115 : ckE 6000 gT s_115 (fun _ => 0) sp0 c_115 h_115 = true := by decide +kernel
theorem k_115 (hB : BytesOK) (g : bG) (l : Launch) : Keeps g l gT c_115 := keeps_of hB.1 hB.2 (List.forall_mem_cons.mpr ⟨k_114 hB g l, nilK⟩) e_115 nilK
/-- Sheets.itemAt ((('c', 181), ('u', 0), ('u', 0), ('u', 0)), ()) -/
def c_116 : aCt := (71, 1, some [], false, ([((-2147483648), 2147483647), ((-2147483648), 2147483647), ((-2147483648), 2147483647)], [], [], 212), [(2, (181, [])), (0, (0, [(0, 1)])), (0, (0, [(1, 1)])), (0, (0, [(2, 1)]))], [(([((-2147483648), 2147483647), ((-2147483648), 2147483647), ((-2147483648), 2147483647), ((-2147483648), 2147483647)], [], [], 212), some (0, (0, [(3, 1)])))])
def sp_116 : aSp := fun k pc S => if pc = 65 ∧ k = 71 then spS 0 [0, 1, 2] S else none
def s_116 : List aCt := []
def h_116 : List (Nat × aS × Fm) := []
theorem e_116 : ckE 6000 gT s_116 (fun _ => 0) sp_116 c_116 h_116 = true := by decide +kernel
theorem k_116 (hB : BytesOK) (g : bG) (l : Launch) : Keeps g l gT c_116 := keeps_of hB.1 hB.2 (nilK) e_116 nilK
/-- B.item ((('c', 0), ('u', 0), ('u', 0), ('u', 0)), ()) -/
def c_117 : aCt := (162, 2, some [], false, ([((-2147483648), 2147483647), ((-2147483648), 2147483647), ((-2147483648), 2147483647)], [], [], 212), [(2, (0, [])), (0, (0, [(0, 1)])), (0, (0, [(1, 1)])), (0, (0, [(2, 1)]))], [(([((-2147483648), 2147483647), ((-2147483648), 2147483647), ((-2147483648), 2147483647), ((-2147483648), 2147483647)], [], [], 212), some (0, (0, [(3, 1)])))])
def s_117 : List aCt := [c_116]
def h_117 : List (Nat × aS × Fm) := []
theorem e_117 : ckE 6000 gT s_117 (fun _ => 0) sp0 c_117 h_117 = true := by decide +kernel
theorem k_117 (hB : BytesOK) (g : bG) (l : Launch) : Keeps g l gT c_117 := keeps_of hB.1 hB.2 (List.forall_mem_cons.mpr ⟨k_116 hB g l, nilK⟩) e_117 nilK
/-- Sheets.bringClaim ((('u', 1), ('c', 2)), ()) -/
def c_118 : aCt := (73, 2, some [(2, 1, 2), (3, 0, 16), (4, 0, 16), (5, 0, 16), (6, 0, 16), (7, 0, 16), (8, 0, 16), (9, 0, 16)], false, ([((-2147483648), 2147483647)], [], [], 212), [(1, (0, [(0, 1)])), (2, (2, []))], [(([((-2147483648), 2147483647), ((-2), 15)], [], [], 212), some (0, (0, [(1, 1)])))])
def s_118 : List aCt := [c_0]
def h_118 : List (Nat × aS × Fm) := []
theorem e_118 : ckE 6000 gT s_118 (fun _ => 0) sp0 c_118 h_118 = true := by decide +kernel
theorem k_118 (hB : BytesOK) (g : bG) (l : Launch) : Keeps g l gT c_118 := keeps_of hB.1 hB.2 (List.forall_mem_cons.mpr ⟨k_0 hB g l, nilK⟩) e_118 nilK
/-- Sheets.bringClaims ((('c', 181), ('u', 0), ('u', 0), ('u', 0), ('c', 2)), ()) -/
def c_119 : aCt := (72, 3, some [(2, 1, 2), (3, 0, 16), (4, 0, 16), (5, 0, 16), (6, 0, 16), (7, 0, 16), (8, 0, 16), (9, 0, 16)], false, ([(0, 3), ((-2147483648), 2147483647), (0, 6)], [], [], 212), [(2, (181, [])), (0, (0, [(0, 1)])), (0, (0, [(1, 1)])), (0, (0, [(2, 1)])), (2, (2, []))], [(([(0, 3), ((-2147483648), 2147483647), (0, 6), ((-2147483648), 2147483647)], [], [], 212), some (0, (0, [(3, 1)])))])
def sp_119 : aSp := fun k pc S => if pc = 71 ∧ k = 72 then spS 0 [0, 1, 2] S else none
def s_119 : List aCt := [c_118]
def h_119_0 : Nat × aS × Fm := (40, ([(0, (2, (181, []))), (1, (0, (0, [(0, 1)]))), (2, (0, (0, [(1, 1)]))), (3, (0, (0, [(2, 1)]))), (4, (2, (2, []))), (5, (0, (0, [(4, 1)]))), (6, (0, (0, [(3, 1)])))], [], ([(0, 3), ((-2147483648), 2147483647), (0, 6), (0, 6), ((-2147483648), 2147483647)], [], [], 212)), (13, [(3, (-2))]))
def h_119 : List (Nat × aS × Fm) := [h_119_0]
theorem e_119 : ckE 6000 gT s_119 (fun _ => 0) sp_119 c_119 h_119 = true := by decide +kernel
theorem g_119_0 : ([h_119_0].all fun H => ckH 6000 gT s_119 (fun _ => 0) sp_119 c_119 h_119 H) = true := by decide +kernel
theorem k_119 (hB : BytesOK) (g : bG) (l : Launch) : Keeps g l gT c_119 := keeps_of hB.1 hB.2 (List.forall_mem_cons.mpr ⟨k_118 hB g l, nilK⟩) e_119 (List.all_eq_true.mp g_119_0)
/-- B.comes ((('c', 0), ('u', 0), ('u', 0), ('u', 0)), ()) -/
def c_120 : aCt := (163, 4, some [(2, 1, 2), (3, 0, 16), (4, 0, 16), (5, 0, 16), (6, 0, 16), (7, 0, 16), (8, 0, 16), (9, 0, 16)], false, ([((-2147483648), 2147483647), ((-2147483648), 2147483647), ((-2147483648), 2147483647)], [], [], 212), [(2, (0, [])), (0, (0, [(0, 1)])), (0, (0, [(1, 1)])), (0, (0, [(2, 1)]))], [(([((-2147483648), 2147483647), ((-2147483648), 2147483647), ((-2147483648), 2147483647), ((-2147483648), 2147483647)], [], [], 212), some (0, (0, [(3, 1)])))])
def s_120 : List aCt := [c_119]
def h_120 : List (Nat × aS × Fm) := []
theorem e_120 : ckE 6000 gT s_120 (fun _ => 0) sp0 c_120 h_120 = true := by decide +kernel
theorem k_120 (hB : BytesOK) (g : bG) (l : Launch) : Keeps g l gT c_120 := keeps_of hB.1 hB.2 (List.forall_mem_cons.mpr ⟨k_119 hB g l, nilK⟩) e_120 nilK
/-- Sheets.sortOf ((('c', 181), ('u', 0)), ()) -/
def c_121 : aCt := (66, 1, some [], false, ([(0, 3)], [], [], 212), [(2, (181, [])), (0, (0, [(0, 1)]))], [(([(0, 3), ((-1), 3)], [], [], 212), some (0, (0, [(1, 1)])))])
def s_121 : List aCt := []
def h_121 : List (Nat × aS × Fm) := []
theorem e_121 : ckE 6000 gT s_121 (fun _ => 0) sp0 c_121 h_121 = true := by decide +kernel
theorem k_121 (hB : BytesOK) (g : bG) (l : Launch) : Keeps g l gT c_121 := keeps_of hB.1 hB.2 (nilK) e_121 nilK
/-- B.shelf ((('c', 0), ('u', 0), ('u', 0), ('u', 0)), ()) -/
def c_122 : aCt := (164, 2, some [(191, 0, 4), (192, 0, 4)], false, ([((-2147483648), 2147483647), ((-2147483648), 2147483647), ((-2147483648), 2147483647)], [], [], 212), [(2, (0, [])), (0, (0, [(0, 1)])), (0, (0, [(1, 1)])), (0, (0, [(2, 1)]))], [(([((-2147483648), 2147483647), ((-2147483648), 2147483647), ((-2147483648), 2147483647), ((-1), 1)], [], [], 212), some (0, (0, [(3, 1)])))])
def s_122 : List aCt := [c_121]
def h_122 : List (Nat × aS × Fm) := []
theorem e_122 : ckE 6000 gT s_122 (fun _ => 0) sp0 c_122 h_122 = true := by decide +kernel
theorem k_122 (hB : BytesOK) (g : bG) (l : Launch) : Keeps g l gT c_122 := keeps_of hB.1 hB.2 (List.forall_mem_cons.mpr ⟨k_121 hB g l, nilK⟩) e_122 nilK
/-- Pool.kindOfClaim ((('c', 1), ('u', 0)), ()) -/
def c_123 : aCt := (22, 2, some [], false, ([(0, 15)], [], [], 212), [(2, (1, [])), (0, (0, [(0, 1)]))], [(([(0, 15), (0, 3)], [], [], 212), some (0, (0, [(1, 1)])))])
def s_123 : List aCt := [c_16, c_21]
def h_123 : List (Nat × aS × Fm) := []
theorem e_123 : ckE 6000 gT s_123 (fun _ => 0) sp0 c_123 h_123 = true := by decide +kernel
theorem k_123 (hB : BytesOK) (g : bG) (l : Launch) : Keeps g l gT c_123 := keeps_of hB.1 hB.2 (List.forall_mem_cons.mpr ⟨k_16 hB g l, List.forall_mem_cons.mpr ⟨k_21 hB g l, nilK⟩⟩) e_123 nilK
/-- B.kindOn ((('c', 0), ('u', 0)), ()) -/
def c_124 : aCt := (180, 3, some [], false, ([(0, 3)], [], [], 212), [(2, (0, [])), (0, (0, [(0, 1)]))], [(([(0, 3), ((-1), 13)], [], [], 212), some (0, (0, [(1, 1)])))])
def sp_124 : aSp := fun k pc S => if pc = 0 ∧ k = 180 then spL 1 [0, 1, 2] S else none
def s_124 : List aCt := [c_123, c_121, c_40]
def h_124 : List (Nat × aS × Fm) := []
theorem e_124 : ckE 6000 gT s_124 (fun _ => 0) sp_124 c_124 h_124 = true := by decide +kernel
theorem k_124 (hB : BytesOK) (g : bG) (l : Launch) : Keeps g l gT c_124 := keeps_of hB.1 hB.2 (List.forall_mem_cons.mpr ⟨k_123 hB g l, List.forall_mem_cons.mpr ⟨k_121 hB g l, List.forall_mem_cons.mpr ⟨k_40 hB g l, nilK⟩⟩⟩) e_124 nilK
/-- Sheets.sizeOf ((('c', 181), ('u', 0)), ()) -/
def c_125 : aCt := (67, 1, some [], false, ([((-2147483648), 2147483647)], [], [], 212), [(2, (181, [])), (0, (0, [(0, 1)]))], [(([((-2147483648), 2147483647), (0, 40)], [], [], 212), some (0, (0, [(1, 1)])))])
def s_125 : List aCt := []
def h_125 : List (Nat × aS × Fm) := []
theorem e_125 : ckE 6000 gT s_125 (fun _ => 0) sp0 c_125 h_125 = true := by decide +kernel
theorem k_125 (hB : BytesOK) (g : bG) (l : Launch) : Keeps g l gT c_125 := keeps_of hB.1 hB.2 (nilK) e_125 nilK
/-- B.taken ((('c', 0), ('u', 0), ('u', 0)), ()) -/
def c_126 : aCt := (165, 4, some [], false, ([((-2147483648), 2147483647), ((-2147483648), 2147483647)], [], [], 212), [(2, (0, [])), (0, (0, [(0, 1)])), (0, (0, [(1, 1)]))], [(([((-2147483648), 2147483647), ((-2147483648), 2147483647), ((-2147483648), 2147483647)], [], [], 212), some (0, (0, [(2, 1)])))])
def s_126 : List aCt := [c_125, c_124]
def h_126 : List (Nat × aS × Fm) := []
theorem e_126 : ckE 6000 gT s_126 (fun _ => 0) sp0 c_126 h_126 = true := by decide +kernel
theorem k_126 (hB : BytesOK) (g : bG) (l : Launch) : Keeps g l gT c_126 := keeps_of hB.1 hB.2 (List.forall_mem_cons.mpr ⟨k_125 hB g l, List.forall_mem_cons.mpr ⟨k_124 hB g l, nilK⟩⟩) e_126 nilK
/-- B.amountOn ((('c', 0), ('u', 0)), ()) -/
def c_127 : aCt := (181, 2, some [], false, ([(0, 3)], [], [], 212), [(2, (0, [])), (0, (0, [(0, 1)]))], [(([(0, 3), ((-2147483648), 2147483647)], [], [], 212), some (0, (0, [(1, 1)])))])
def sp_127 : aSp := fun k pc S => if pc = 0 ∧ k = 181 then spL 1 [0, 1, 2] S else none
def s_127 : List aCt := []
def h_127 : List (Nat × aS × Fm) := []
theorem e_127 : ckE 6000 gT s_127 (fun _ => 0) sp_127 c_127 h_127 = true := by decide +kernel
theorem k_127 (hB : BytesOK) (g : bG) (l : Launch) : Keeps g l gT c_127 := keeps_of hB.1 hB.2 (nilK) e_127 nilK
