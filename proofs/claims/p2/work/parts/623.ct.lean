/-- Talks.become ((('c', 114), ('c', 30)), ()) -/
def c_370 : aCt := (79, 2, some [(114, 3, 6), (115, 0, 8), (116, 0, 6), (117, 0, 8)], false, ([], [], [], 212), [(2, (114, [])), (2, (30, []))], [(([], [], [], 212), none)])
def s_370 : List aCt := []
def h_370 : List (Nat × aS × Fm) := []
theorem e_370 : ckE 6000 gT s_370 (fun _ => 0) sp0 c_370 h_370 = true := by decide +kernel
theorem k_370 (hB : BytesOK) (g : bG) (l : Launch) : Keeps g l gT c_370 := keeps_of hB.1 hB.2 (nilK) e_370 nilK
/-- Talks.become ((('c', 30), ('c', 114)), ()) -/
def c_371 : aCt := (79, 2, some [(30, 3, 6), (31, 0, 8), (32, 0, 6), (33, 0, 8)], false, ([], [], [], 212), [(2, (30, [])), (2, (114, []))], [(([], [], [], 212), none)])
def s_371 : List aCt := []
def h_371 : List (Nat × aS × Fm) := []
theorem e_371 : ckE 6000 gT s_371 (fun _ => 0) sp0 c_371 h_371 = true := by decide +kernel
theorem k_371 (hB : BytesOK) (g : bG) (l : Launch) : Keeps g l gT c_371 := keeps_of hB.1 hB.2 (nilK) e_371 nilK
