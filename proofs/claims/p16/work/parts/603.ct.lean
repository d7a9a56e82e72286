/-- B.owe ((('c', 0), ('u', 0), ('u', 0), ('u', 0)), ()) -/
def c_64 : aCt := (142, 4, some [], false, ([((-2147483648), 2147483647), ((-2147483648), 2147483647), ((-2147483648), 2147483647)], [], [], 212), [(2, (0, [])), (0, (0, [(0, 1)])), (0, (0, [(1, 1)])), (0, (0, [(2, 1)]))], [(([((-2147483648), 2147483647), ((-2147483648), 2147483647), ((-2147483648), 2147483647), ((-2147483648), 2147483647)], [], [], 212), some (0, (0, [(3, 1)])))])
def s_64 : List aCt := [c_63]
def h_64 : List (Nat × aS × Fm) := []
theorem e_64 : ckE 6000 gT s_64 (fun _ => 0) sp0 c_64 h_64 = true := by decide +kernel
theorem k_64 (hB : BytesOK) (g : bG) (l : Launch) : Keeps g l gT c_64 := keeps_of hB.1 hB.2 (List.forall_mem_cons.mpr ⟨k_63 hB g l, nilK⟩) e_64 nilK
/-- Trade.addPayment ((('c', 17), ('u', 0), ('u', 0), ('u', 0)), ()) -/
def c_65 : aCt := (115, 1, some [(17, 10, 11), (25, 0, 16), (26, 0, 16), (27, 0, 16)], false, ([((-2147483648), 2147483647), ((-2147483648), 2147483647), ((-2147483648), 2147483647)], [], [], 212), [(2, (17, [])), (0, (0, [(0, 1)])), (0, (0, [(1, 1)])), (0, (0, [(2, 1)]))], [(([((-2147483648), 2147483647), ((-2147483648), 2147483647), ((-2147483648), 2147483647), ((-2), 16)], [], [], 212), some (0, (0, [(3, 1)])))])
def s_65 : List aCt := []
def h_65 : List (Nat × aS × Fm) := []
theorem e_65 : ckE 6000 gT s_65 (fun _ => 0) sp0 c_65 h_65 = true := by decide +kernel
theorem k_65 (hB : BytesOK) (g : bG) (l : Launch) : Keeps g l gT c_65 := keeps_of hB.1 hB.2 (nilK) e_65 nilK
/-- B.paid ((('c', 0), ('u', 0), ('u', 0), ('u', 0)), ()) -/
def c_66 : aCt := (143, 2, some [(17, 10, 11), (25, 0, 16), (26, 0, 16), (27, 0, 16)], false, ([((-2147483648), 2147483647), ((-2147483648), 2147483647), ((-2147483648), 2147483647)], [], [], 212), [(2, (0, [])), (0, (0, [(0, 1)])), (0, (0, [(1, 1)])), (0, (0, [(2, 1)]))], [(([((-2147483648), 2147483647), ((-2147483648), 2147483647), ((-2147483648), 2147483647), ((-2), 16)], [], [], 212), some (0, (0, [(3, 1)])))])
def s_66 : List aCt := [c_65]
def h_66 : List (Nat × aS × Fm) := []
theorem e_66 : ckE 6000 gT s_66 (fun _ => 0) sp0 c_66 h_66 = true := by decide +kernel
theorem k_66 (hB : BytesOK) (g : bG) (l : Launch) : Keeps g l gT c_66 := keeps_of hB.1 hB.2 (List.forall_mem_cons.mpr ⟨k_65 hB g l, nilK⟩) e_66 nilK
/-- Trade.paidFor ((('c', 17), ('u', 0), ('u', 0)), ()) -/
def c_67 : aCt := (116, 0, some [], false, ([(0, 5), (0, 238)], [], [], 212), [(2, (17, [])), (0, (0, [(0, 1)])), (0, (0, [(1, 1)]))], [(([(0, 5), (0, 238), ((-2147483648), 2147483647)], [], [], 212), some (0, (0, [(2, 1)])))])
def s_67 : List aCt := []
def h_67_0 : Nat × aS × Fm := (5, ([(0, (2, (17, []))), (1, (0, (0, [(0, 1)]))), (2, (0, (0, [(1, 1)]))), (3, (0, (0, [(3, 1)]))), (4, (0, (0, [(2, 1)])))], [], ([(0, 5), (0, 238), (0, 16), ((-2147483648), 2147483647)], [], [], 212)), (33, [(2, (-2))]))
def h_67 : List (Nat × aS × Fm) := [h_67_0]
theorem e_67 : ckE 6000 gT s_67 (fun _ => 0) sp0 c_67 h_67 = true := by decide +kernel
theorem g_67_0 : ([h_67_0].all fun H => ckH 6000 gT s_67 (fun _ => 0) sp0 c_67 h_67 H) = true := by decide +kernel
theorem k_67 (hB : BytesOK) (g : bG) (l : Launch) : Keeps g l gT c_67 := keeps_of hB.1 hB.2 (nilK) e_67 (List.all_eq_true.mp g_67_0)
/-- Pool.backSum ((('c', 1), ('u', 0), ('u', 0)), ()) -/
def c_68 : aCt := (30, 4, some [], false, ([(0, 5), (0, 239)], [], [], 212), [(2, (1, [])), (0, (0, [(0, 1)])), (0, (0, [(1, 1)]))], [(([(0, 5), (0, 239), ((-9223372036854775808), 2000000000)], [], [], 212), some (1, (0, [(2, 1)])))])
def s_68 : List aCt := [c_61, c_63, c_67]
def h_68_0 : Nat × aS × Fm := (5, ([(0, (2, (1, []))), (1, (0, (0, [(0, 1)]))), (2, (0, (0, [(1, 1)]))), (3, (1, (0, [(3, 1)]))), (5, (0, (0, [(2, 1)])))], [], ([(0, 5), (0, 239), (0, 239), ((-9223372036854775808), 9223372036854775807)], [], [], 212)), (479, [(2, (-2))]))
def h_68 : List (Nat × aS × Fm) := [h_68_0]
theorem e_68 : ckE 6000 gT s_68 (fun _ => 0) sp0 c_68 h_68 = true := by decide +kernel
theorem g_68_0 : ([h_68_0].all fun H => ckH 6000 gT s_68 (fun _ => 0) sp0 c_68 h_68 H) = true := by decide +kernel
theorem k_68 (hB : BytesOK) (g : bG) (l : Launch) : Keeps g l gT c_68 := keeps_of hB.1 hB.2 (List.forall_mem_cons.mpr ⟨k_61 hB g l, List.forall_mem_cons.mpr ⟨k_63 hB g l, List.forall_mem_cons.mpr ⟨k_67 hB g l, nilK⟩⟩⟩) e_68 (List.all_eq_true.mp g_68_0)
/-- B.back ((('c', 0), ('u', 0), ('u', 0)), ()) -/
def c_69 : aCt := (144, 5, some [], false, ([((-2147483648), 2147483647), ((-2147483648), 2147483647)], [], [], 212), [(2, (0, [])), (0, (0, [(0, 1)])), (0, (0, [(1, 1)]))], [(([((-2147483648), 2147483647), ((-2147483648), 2147483647), ((-2147483648), 2147483647)], [], [], 212), some (0, (0, [(2, 1)])))])
def s_69 : List aCt := [c_68]
def h_69 : List (Nat × aS × Fm) := []
theorem e_69 : ckE 6000 gT s_69 (fun _ => 0) sp0 c_69 h_69 = true := by decide +kernel
theorem k_69 (hB : BytesOK) (g : bG) (l : Launch) : Keeps g l gT c_69 := keeps_of hB.1 hB.2 (List.forall_mem_cons.mpr ⟨k_68 hB g l, nilK⟩) e_69 nilK
/-- Trade.addDraw ((('c', 17), ('u', 0), ('u', 0), ('u', 0)), ()) -/
def c_70 : aCt := (117, 1, some [(17, 14, 15), (28, 0, 12), (29, 0, 12)], false, ([((-2147483648), 2147483647), ((-2147483648), 2147483647), ((-2147483648), 2147483647)], [], [], 212), [(2, (17, [])), (0, (0, [(0, 1)])), (0, (0, [(1, 1)])), (0, (0, [(2, 1)]))], [(([((-2147483648), 2147483647), ((-2147483648), 2147483647), ((-2147483648), 2147483647), ((-2), 11)], [], [], 212), some (0, (0, [(3, 1)])))])
def s_70 : List aCt := []
def h_70 : List (Nat × aS × Fm) := []
theorem e_70 : ckE 6000 gT s_70 (fun _ => 0) sp0 c_70 h_70 = true := by decide +kernel
theorem k_70 (hB : BytesOK) (g : bG) (l : Launch) : Keeps g l gT c_70 := keeps_of hB.1 hB.2 (nilK) e_70 nilK
/-- B.drawn ((('c', 0), ('u', 0), ('u', 0), ('u', 0)), ()) -/
def c_71 : aCt := (145, 2, some [(17, 14, 15), (28, 0, 12), (29, 0, 12)], false, ([((-2147483648), 2147483647), ((-2147483648), 2147483647), ((-2147483648), 2147483647)], [], [], 212), [(2, (0, [])), (0, (0, [(0, 1)])), (0, (0, [(1, 1)])), (0, (0, [(2, 1)]))], [(([((-2147483648), 2147483647), ((-2147483648), 2147483647), ((-2147483648), 2147483647), ((-2), 11)], [], [], 212), some (0, (0, [(3, 1)])))])
def s_71 : List aCt := [c_70]
def h_71 : List (Nat × aS × Fm) := []
theorem e_71 : ckE 6000 gT s_71 (fun _ => 0) sp0 c_71 h_71 = true := by decide +kernel
theorem k_71 (hB : BytesOK) (g : bG) (l : Launch) : Keeps g l gT c_71 := keeps_of hB.1 hB.2 (List.forall_mem_cons.mpr ⟨k_70 hB g l, nilK⟩) e_71 nilK
/-- Trade.isFirstDraw ((('c', 17), ('u', 0)), ()) -/
def c_72 : aCt := (119, 0, some [], false, ([(0, 11)], [], [], 212), [(2, (17, [])), (0, (0, [(0, 1)]))], [(([(0, 11), (0, 1)], [], [], 212), some (0, (0, [(1, 1)])))])
def s_72 : List aCt := []
def h_72_0 : Nat × aS × Fm := (2, ([(0, (2, (17, []))), (1, (0, (0, [(0, 1)]))), (2, (0, (0, [(1, 1)])))], [], ([(0, 11), (0, 11)], [], [], 212)), (23, [(1, (-2))]))
def h_72 : List (Nat × aS × Fm) := [h_72_0]
theorem e_72 : ckE 6000 gT s_72 (fun _ => 0) sp0 c_72 h_72 = true := by decide +kernel
theorem g_72_0 : ([h_72_0].all fun H => ckH 6000 gT s_72 (fun _ => 0) sp0 c_72 h_72 H) = true := by decide +kernel
theorem k_72 (hB : BytesOK) (g : bG) (l : Launch) : Keeps g l gT c_72 := keeps_of hB.1 hB.2 (nilK) e_72 (List.all_eq_true.mp g_72_0)
/-- Trade.greatestFrom ((('c', 17), ('u', 0)), ()) -/
def c_73 : aCt := (120, 1, some [], false, ([(0, 2147483647)], [], [], 212), [(2, (17, [])), (0, (0, [(0, 1)]))], [(([(0, 2147483647), (0, 9999)], [], [], 212), some (0, (0, [(1, 1)])))])
def s_73 : List aCt := []
def h_73_0 : Nat × aS × Fm := (4, ([(0, (2, (17, []))), (1, (0, (0, [(0, 1)]))), (2, (0, (0, [(2, 1)]))), (3, (0, (0, [(1, 1)])))], [], ([(0, 2147483647), (0, 12), (0, 9999)], [], [], 212)), (25, [(1, (-2))]))
def h_73 : List (Nat × aS × Fm) := [h_73_0]
theorem e_73 : ckE 6000 gT s_73 (fun _ => 0) sp0 c_73 h_73 = true := by decide +kernel
theorem g_73_0 : ([h_73_0].all fun H => ckH 6000 gT s_73 (fun _ => 0) sp0 c_73 h_73 H) = true := by decide +kernel
theorem k_73 (hB : BytesOK) (g : bG) (l : Launch) : Keeps g l gT c_73 := keeps_of hB.1 hB.2 (nilK) e_73 (List.all_eq_true.mp g_73_0)
/-- Trade.belowDrawn ((('c', 17), ('u', 0), ('u', 0)), ()) -/
def c_74 : aCt := (118, 2, some [], false, ([(0, 5), (0, 239)], [], [], 212), [(2, (17, [])), (0, (0, [(0, 1)])), (0, (0, [(1, 1)]))], [(([(0, 5), (0, 239), ((-2147483648), 2147483647)], [], [], 212), some (0, (0, [(2, 1)])))])
def s_74 : List aCt := [c_36, c_72, c_73]
def h_74_0 : Nat × aS × Fm := (5, ([(0, (2, (17, []))), (1, (0, (0, [(0, 1)]))), (2, (0, (0, [(1, 1)]))), (3, (0, (0, [(3, 1)]))), (4, (0, (0, [(2, 1)])))], [], ([(0, 5), (0, 239), (0, 12), ((-2147483648), 2147483647)], [], [], 212)), (25, [(2, (-2))]))
def h_74 : List (Nat × aS × Fm) := [h_74_0]
theorem e_74 : ckE 6000 gT s_74 (fun _ => 0) sp0 c_74 h_74 = true := by decide +kernel
theorem g_74_0 : ([h_74_0].all fun H => ckH 6000 gT s_74 (fun _ => 0) sp0 c_74 h_74 H) = true := by decide +kernel
theorem k_74 (hB : BytesOK) (g : bG) (l : Launch) : Keeps g l gT c_74 := keeps_of hB.1 hB.2 (List.forall_mem_cons.mpr ⟨k_36 hB g l, List.forall_mem_cons.mpr ⟨k_72 hB g l, List.forall_mem_cons.mpr ⟨k_73 hB g l, nilK⟩⟩⟩) e_74 (List.all_eq_true.mp g_74_0)
/-- B.under ((('c', 0), ('u', 0), ('u', 0)), ()) -/
def c_75 : aCt := (146, 3, some [], false, ([((-2147483648), 2147483647), ((-2147483648), 2147483647)], [], [], 212), [(2, (0, [])), (0, (0, [(0, 1)])), (0, (0, [(1, 1)]))], [(([((-2147483648), 2147483647), ((-2147483648), 2147483647), ((-2147483648), 2147483647)], [], [], 212), some (0, (0, [(2, 1)])))])
def s_75 : List aCt := [c_74]
def h_75 : List (Nat × aS × Fm) := []
theorem e_75 : ckE 6000 gT s_75 (fun _ => 0) sp0 c_75 h_75 = true := by decide +kernel
theorem k_75 (hB : BytesOK) (g : bG) (l : Launch) : Keeps g l gT c_75 := keeps_of hB.1 hB.2 (List.forall_mem_cons.mpr ⟨k_74 hB g l, nilK⟩) e_75 nilK
/-- Pool.monthSum ((('c', 1), ('u', 0), ('u', 0)), ()) -/
def c_76 : aCt := (31, 4, some [], false, ([(0, 239), (0, 239)], [], [], 212), [(2, (1, [])), (0, (0, [(0, 1)])), (0, (0, [(1, 1)]))], [(([(0, 239), (0, 239), ((-9223372036854775808), 9223372036854775807)], [], [], 212), some (1, (0, [(2, 1)])))])
def s_76 : List aCt := [c_63]
def h_76_0 : Nat × aS × Fm := (5, ([(0, (2, (1, []))), (1, (0, (0, [(0, 1)]))), (2, (0, (0, [(1, 1)]))), (3, (1, (0, [(3, 1)]))), (5, (0, (0, [(2, 1)])))], [], ([(0, 239), (0, 239), (0, 6), ((-9223372036854775808), 9223372036854775807)], [], [], 212)), (13, [(2, (-2))]))
def h_76 : List (Nat × aS × Fm) := [h_76_0]
theorem e_76 : ckE 6000 gT s_76 (fun _ => 0) sp0 c_76 h_76 = true := by decide +kernel
theorem g_76_0 : ([h_76_0].all fun H => ckH 6000 gT s_76 (fun _ => 0) sp0 c_76 h_76 H) = true := by decide +kernel
theorem k_76 (hB : BytesOK) (g : bG) (l : Launch) : Keeps g l gT c_76 := keeps_of hB.1 hB.2 (List.forall_mem_cons.mpr ⟨k_63 hB g l, nilK⟩) e_76 (List.all_eq_true.mp g_76_0)
/-- B.sum ((('c', 0), ('u', 0), ('u', 0)), ()) -/
def c_77 : aCt := (147, 5, some [], false, ([((-2147483648), 2147483647), ((-2147483648), 2147483647)], [], [], 212), [(2, (0, [])), (0, (0, [(0, 1)])), (0, (0, [(1, 1)]))], [(([((-2147483648), 2147483647), ((-2147483648), 2147483647), ((-2147483648), 2147483647)], [], [], 212), some (0, (0, [(2, 1)])))])
def s_77 : List aCt := [c_76]
def h_77 : List (Nat × aS × Fm) := []
theorem e_77 : ckE 6000 gT s_77 (fun _ => 0) sp0 c_77 h_77 = true := by decide +kernel
theorem k_77 (hB : BytesOK) (g : bG) (l : Launch) : Keeps g l gT c_77 := keeps_of hB.1 hB.2 (List.forall_mem_cons.mpr ⟨k_76 hB g l, nilK⟩) e_77 nilK
/-- java/lang/Integer.bitCount ((('u', 0),), ()) -/
def c_78 : aCt := (297, 0, some [], false, ([((-2147483648), 2147483647)], [], [], 212), [(0, (0, [(0, 1)]))], [(([((-2147483648), 2147483647), (0, 63)], [], [], 212), some (0, (0, [(1, 1)])))])
def s_78 : List aCt := []
def h_78 : List (Nat × aS × Fm) := []
theorem e_78 : ckE 6000 gT s_78 (fun _ => 0) sp0 c_78 h_78 = true := by decide +kernel
theorem k_78 (hB : BytesOK) (g : bG) (l : Launch) : Keeps g l gT c_78 := keeps_of hB.1 hB.2 (nilK) e_78 nilK
/-- Pool.weightOf ((('c', 1), ('u', 0), ('u', 0), ('u', 0), ('u', 0)), ()) -/
def c_79 : aCt := (32, 2, some [], false, ([(0, 7), (0, 239), (0, 239), ((-1), 2)], [], [], 212), [(2, (1, [])), (0, (0, [(0, 1)])), (0, (0, [(1, 1)])), (0, (0, [(2, 1)])), (0, (0, [(3, 1)]))], [(([(0, 7), (0, 239), (0, 239), ((-1), 2), (0, 207)], [], [], 212), some (0, (0, [(4, 1)])))])
def sp_79 : aSp := fun k pc S => if pc = 21 ∧ k = 32 then spL 7 [] S else none
def s_79 : List aCt := [c_16, c_5, c_78]
def h_79_0 : Nat × aS × Fm := (9, ([(0, (2, (1, []))), (1, (0, (0, [(0, 1)]))), (2, (0, (0, [(1, 1)]))), (3, (0, (0, [(2, 1)]))), (4, (0, (0, [(3, 1)]))), (5, (0, (0, [(5, 1)]))), (6, (0, (0, [(6, 1)]))), (7, (0, (0, [(4, 1)])))], [], ([(0, 7), (0, 239), (0, 239), ((-1), 2), (0, 16), (0, 144), ((-2147483648), 2147483647)], [(0, [(4, (-9)), (5, 1)])], [], 212)), (33, [(4, (-2))]))
def h_79 : List (Nat × aS × Fm) := [h_79_0]
theorem e_79 : ckE 6000 gT s_79 (fun _ => 0) sp_79 c_79 h_79 = true := by decide +kernel
theorem g_79_0 : ([h_79_0].all fun H => ckH 6000 gT s_79 (fun _ => 0) sp_79 c_79 h_79 H) = true := by decide +kernel
theorem k_79 (hB : BytesOK) (g : bG) (l : Launch) : Keeps g l gT c_79 := keeps_of hB.1 hB.2 (List.forall_mem_cons.mpr ⟨k_16 hB g l, List.forall_mem_cons.mpr ⟨k_5 hB g l, List.forall_mem_cons.mpr ⟨k_78 hB g l, nilK⟩⟩⟩) e_79 (List.all_eq_true.mp g_79_0)
/-- Pool.weigh ((('c', 1), ('u', 0), ('u', 0)), ()) -/
def c_80 : aCt := (33, 3, some [(1, 8, 9), (42, 0, 8)], false, ([(0, 239), (0, 239)], [], [], 212), [(2, (1, [])), (0, (0, [(0, 1)])), (0, (0, [(1, 1)]))], [(([(0, 239), (0, 239)], [], [], 212), none)])
def sp_80 : aSp := fun k pc S => if pc = 24 ∧ k = 33 then spL 4 [] S else none
def s_80 : List aCt := [c_61, c_79, c_7]
def h_80_0 : Nat × aS × Fm := (17, ([(0, (2, (1, []))), (1, (0, (0, [(0, 1)]))), (2, (0, (0, [(1, 1)]))), (3, (0, (0, [(4, 1)]))), (4, (0, (0, [(2, 1)])))], [], ([(0, 239), (0, 239), (0, 8), (0, 1763), ((-1), 2)], [(0, [(2, (-207)), (3, 1)])], [((1, 8), (0, [(3, 1)]))], 212)), (17, [(2, (-2))]))
def h_80 : List (Nat × aS × Fm) := [h_80_0]
theorem e_80 : ckE 6000 gT s_80 (fun _ => 0) sp_80 c_80 h_80 = true := by decide +kernel
theorem g_80_0 : ([h_80_0].all fun H => ckH 6000 gT s_80 (fun _ => 0) sp_80 c_80 h_80 H) = true := by decide +kernel
theorem k_80 (hB : BytesOK) (g : bG) (l : Launch) : Keeps g l gT c_80 := keeps_of hB.1 hB.2 (List.forall_mem_cons.mpr ⟨k_61 hB g l, List.forall_mem_cons.mpr ⟨k_79 hB g l, List.forall_mem_cons.mpr ⟨k_7 hB g l, nilK⟩⟩⟩) e_80 (List.all_eq_true.mp g_80_0)
/-- Pool.cutPart ((('c', 1), ('u', 0), ('u', 1)), ()) -/
def c_81 : aCt := (35, 0, some [], false, ([(0, 7), ((-9223372036854775808), 9223372036854775807)], [], [], 212), [(2, (1, [])), (0, (0, [(0, 1)])), (1, (0, [(1, 1)]))], [(([(0, 7), ((-9223372036854775808), 9223372036854775807), ((-9223372036854775808), 9223372036854775807)], [], [], 212), some (1, (0, [(2, 1)])))])
def s_81 : List aCt := []
def h_81 : List (Nat × aS × Fm) := []
theorem e_81 : ckE 6000 gT s_81 (fun _ => 0) sp0 c_81 h_81 = true := by decide +kernel
theorem k_81 (hB : BytesOK) (g : bG) (l : Launch) : Keeps g l gT c_81 := keeps_of hB.1 hB.2 (nilK) e_81 nilK
/-- Pool.shareOf ((('c', 1), ('u', 0), ('u', 1)), ()) -/
def c_82 : aCt := (36, 1, some [], false, ([(0, 7), ((-9223372036854775808), 9223372036854775807)], [], [], 212), [(2, (1, [])), (0, (0, [(0, 1)])), (1, (0, [(1, 1)]))], [(([(0, 7), ((-9223372036854775808), 9223372036854775807), ((-9223372036854775808), 9223372036854775807)], [], [], 212), some (1, (0, [(2, 1)])))])
def s_82 : List aCt := [c_81]
def h_82_0 : Nat × aS × Fm := (27, ([(0, (2, (1, []))), (1, (0, (0, [(0, 1)]))), (2, (1, (0, [(1, 1)]))), (4, (1, (0, [(2, 1)]))), (6, (0, (0, [(4, 1)]))), (7, (0, (0, [(3, 1)])))], [], ([(0, 7), ((-9223372036854775808), 9223372036854775807), ((-9223372036854775808), 9223372036854775807), (0, 8), ((-2147483648), 2147483647)], [], [], 212)), (17, [(3, (-2))]))
def h_82 : List (Nat × aS × Fm) := [h_82_0]
theorem e_82 : ckE 6000 gT s_82 (fun _ => 0) sp0 c_82 h_82 = true := by decide +kernel
theorem g_82_0 : ([h_82_0].all fun H => ckH 6000 gT s_82 (fun _ => 0) sp0 c_82 h_82 H) = true := by decide +kernel
theorem k_82 (hB : BytesOK) (g : bG) (l : Launch) : Keeps g l gT c_82 := keeps_of hB.1 hB.2 (List.forall_mem_cons.mpr ⟨k_81 hB g l, nilK⟩) e_82 (List.all_eq_true.mp g_82_0)
/-- B.share ((('c', 0), ('u', 0), ('u', 0), ('u', 0)), ()) -/
def c_83 : aCt := (148, 5, some [(1, 8, 9), (42, 0, 8)], false, ([((-2147483648), 2147483647), ((-2147483648), 2147483647), ((-2147483648), 2147483647)], [], [], 212), [(2, (0, [])), (0, (0, [(0, 1)])), (0, (0, [(1, 1)])), (0, (0, [(2, 1)]))], [(([((-2147483648), 2147483647), ((-2147483648), 2147483647), ((-2147483648), 2147483647), ((-2147483648), 2147483647)], [], [], 212), some (0, (0, [(3, 1)])))])
def s_83 : List aCt := [c_76, c_80, c_82]
def h_83 : List (Nat × aS × Fm) := []
theorem e_83 : ckE 6000 gT s_83 (fun _ => 0) sp0 c_83 h_83 = true := by decide +kernel
theorem k_83 (hB : BytesOK) (g : bG) (l : Launch) : Keeps g l gT c_83 := keeps_of hB.1 hB.2 (List.forall_mem_cons.mpr ⟨k_76 hB g l, List.forall_mem_cons.mpr ⟨k_80 hB g l, List.forall_mem_cons.mpr ⟨k_82 hB g l, nilK⟩⟩⟩) e_83 nilK
/-- Rows.become ((('c', 178), ('c', 1), ('u', 0)), ()) -/
def c_84 : aCt := (59, 5, some [(1, 8, 9), (42, 0, 8), (178, 0, 1), (179, 0, 8), (180, 0, 8)], false, ([(0, 239)], [], [], 212), [(2, (178, [])), (2, (1, [])), (0, (0, [(0, 1)]))], [(([(0, 239)], [], [], 212), none)])
def sp_84 : aSp := fun k pc S => if pc = 53 ∧ k = 59 then spL 5 [] S else none
def s_84 : List aCt := [c_76, c_80, c_82]
def h_84_0 : Nat × aS × Fm := (33, ([(0, (2, (178, []))), (1, (2, (1, []))), (2, (0, (0, [(0, 1)]))), (3, (1, (0, [(3, 1)]))), (5, (0, (0, [(1, 1)])))], [], ([(0, 239), (0, 8), (0, 8), ((-9223372036854775808), 9223372036854775807)], [(0, [(1, (-1)), (2, 1)])], [((178, 0), (0, [(2, 1)]))], 212)), (17, [(1, (-2))]))
def h_84 : List (Nat × aS × Fm) := [h_84_0]
theorem e_84 : ckE 6000 gT s_84 (fun _ => 0) sp_84 c_84 h_84 = true := by decide +kernel
theorem g_84_0 : ([h_84_0].all fun H => ckH 6000 gT s_84 (fun _ => 0) sp_84 c_84 h_84 H) = true := by decide +kernel
theorem k_84 (hB : BytesOK) (g : bG) (l : Launch) : Keeps g l gT c_84 := keeps_of hB.1 hB.2 (List.forall_mem_cons.mpr ⟨k_76 hB g l, List.forall_mem_cons.mpr ⟨k_80 hB g l, List.forall_mem_cons.mpr ⟨k_82 hB g l, nilK⟩⟩⟩) e_84 (List.all_eq_true.mp g_84_0)
/-- B.prove ((('c', 0), ('u', 0)), ()) -/
def c_85 : aCt := (149, 6, some [(1, 8, 9), (42, 0, 8), (178, 0, 1), (179, 0, 8), (180, 0, 8)], false, ([((-2147483648), 2147483647)], [], [], 212), [(2, (0, [])), (0, (0, [(0, 1)]))], [(([((-2147483648), 2147483647), ((-1), 8)], [], [], 212), some (0, (0, [(1, 1)])))])
def s_85 : List aCt := [c_84]
def h_85 : List (Nat × aS × Fm) := []
theorem e_85 : ckE 6000 gT s_85 (fun _ => 0) sp0 c_85 h_85 = true := by decide +kernel
theorem k_85 (hB : BytesOK) (g : bG) (l : Launch) : Keeps g l gT c_85 := keeps_of hB.1 hB.2 (List.forall_mem_cons.mpr ⟨k_84 hB g l, nilK⟩) e_85 nilK
/-- B.row ((('c', 0), ('u', 0), ('u', 0)), ()) -/
def c_86 : aCt := (150, 2, some [], false, ([((-2147483648), 2147483647), ((-2147483648), 2147483647)], [], [], 212), [(2, (0, [])), (0, (0, [(0, 1)])), (0, (0, [(1, 1)]))], [(([((-2147483648), 2147483647), ((-2147483648), 2147483647), ((-2147483648), 2147483647)], [], [], 212), some (0, (0, [(2, 1)])))])
def s_86 : List aCt := []
def h_86 : List (Nat × aS × Fm) := []
theorem e_86 : ckE 6000 gT s_86 (fun _ => 0) sp0 c_86 h_86 = true := by decide +kernel
theorem k_86 (hB : BytesOK) (g : bG) (l : Launch) : Keeps g l gT c_86 := keeps_of hB.1 hB.2 (nilK) e_86 nilK
