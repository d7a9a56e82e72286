def bK_20 : List Nat := [229, 230, 231, 232, 233, 234]
theorem bB_20 : okB bK_20 = true := by decide +kernel
def bK_21 : List Nat := [235, 236, 237, 238, 239, 241, 242]
theorem bB_21 : okB bK_21 = true := by decide +kernel
def bK_22 : List Nat := [244, 245, 247, 248, 249, 250]
theorem bB_22 : okB bK_22 = true := by decide +kernel
def bK_23 : List Nat := [251, 252, 253, 254, 255, 256, 257, 259, 260, 261]
theorem bB_23 : okB bK_23 = true := by decide +kernel
def bK_24 : List Nat := [262, 263, 264, 265, 266, 268, 270]
theorem bB_24 : okB bK_24 = true := by decide +kernel
def bK_25 : List Nat := [271, 272, 273, 274, 275, 278, 279]
theorem bB_25 : okB bK_25 = true := by decide +kernel
def bK_26 : List Nat := [280, 281, 282, 283, 284, 285, 286, 287, 288, 289, 290, 292]
theorem bB_26 : okB bK_26 = true := by decide +kernel
def bK_27 : List Nat := [293, 295, 296, 297]
theorem bB_27 : okB bK_27 = true := by decide +kernel
def bK_28 : List Nat := [298]
theorem bB_28 : okB bK_28 = true := by decide +kernel
def bK_29 : List Nat := [299]
theorem bB_29 : okB bK_29 = true := by decide +kernel
