def bK_10 : List Nat := [99, 100, 101, 102, 104, 105, 106, 107]
theorem bB_10 : okB bK_10 = true := by decide +kernel
def bK_11 : List Nat := [108, 109, 110, 111, 112, 113, 114, 115, 116, 117]
theorem bB_11 : okB bK_11 = true := by decide +kernel
def bK_12 : List Nat := [118, 119, 120, 122, 123, 124, 125, 126, 127, 128, 129, 130, 131, 132, 133]
theorem bB_12 : okB bK_12 = true := by decide +kernel
def bK_13 : List Nat := [134, 135, 136, 137, 138, 139, 140, 141, 142, 143, 144, 145, 146, 147, 148, 149, 150, 151, 152, 153, 154, 155]
theorem bB_13 : okB bK_13 = true := by decide +kernel
def bK_14 : List Nat := [156, 157, 158, 159, 160, 161, 162, 163, 164, 165, 166, 167, 169, 170, 171, 172, 173, 174, 175]
theorem bB_14 : okB bK_14 = true := by decide +kernel
def bK_15 : List Nat := [176, 177, 178, 179, 180, 181, 182, 184, 185, 186, 187, 188, 189, 190, 191, 193]
theorem bB_15 : okB bK_15 = true := by decide +kernel
def bK_16 : List Nat := [194, 195, 196, 197, 198, 199]
theorem bB_16 : okB bK_16 = true := by decide +kernel
def bK_17 : List Nat := [200, 201, 202, 203, 204, 205, 206, 207, 208]
theorem bB_17 : okB bK_17 = true := by decide +kernel
def bK_18 : List Nat := [209, 210, 211, 213, 214, 215, 216, 217, 219, 220, 221]
theorem bB_18 : okB bK_18 = true := by decide +kernel
def bK_19 : List Nat := [222, 223, 225, 226, 227, 228]
theorem bB_19 : okB bK_19 = true := by decide +kernel
