/-- Talks.become ((('c', 114), ('c', 30)), ()) -/
def c_374 : aCt := (79, 2, some [(114, 3, 6), (115, 0, 8), (116, 0, 6), (117, 0, 8)], false, ([], [], [], 212), [(2, (114, [])), (2, (30, []))], [(([], [], [], 212), none)])
def s_374 : List aCt := []
def h_374 : List (Nat × aS × Fm) := []
theorem e_374 : ckE 6000 gT s_374 (fun _ => 0) sp0 c_374 h_374 = true := by decide +kernel
theorem k_374 (hB : BytesOK) (g : bG) (l : Launch) : Keeps g l gT c_374 := keeps_of hB.1 hB.2 (nilK) e_374 nilK
/-- Talks.become ((('c', 30), ('c', 114)), ()) -/
def c_375 : aCt := (79, 2, some [(30, 3, 6), (31, 0, 8), (32, 0, 6), (33, 0, 8)], false, ([], [], [], 212), [(2, (30, [])), (2, (114, []))], [(([], [], [], 212), none)])
def s_375 : List aCt := []
def h_375 : List (Nat × aS × Fm) := []
theorem e_375 : ckE 6000 gT s_375 (fun _ => 0) sp0 c_375 h_375 = true := by decide +kernel
theorem k_375 (hB : BytesOK) (g : bG) (l : Launch) : Keeps g l gT c_375 := keeps_of hB.1 hB.2 (nilK) e_375 nilK
