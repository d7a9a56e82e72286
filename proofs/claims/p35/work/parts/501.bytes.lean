def bK_8 : List Nat := [143, 144, 145, 146, 147, 148, 149, 150, 151, 152, 153, 154, 155, 156, 157, 158, 159, 160, 161, 162, 163, 164, 165, 166, 167, 168, 169, 170, 171, 172, 173, 174, 175, 176, 177, 178, 179, 180, 181]
theorem bB_8 : okB bK_8 = true := by decide +kernel
def bK_9 : List Nat := [182, 183, 184, 185, 186, 187, 188, 189, 190, 191, 192]
theorem bB_9 : okB bK_9 = true := by decide +kernel
def bK_10 : List Nat := [193, 194, 195, 196, 197, 198, 199, 200, 201, 202, 203, 204, 205, 206, 207, 208]
theorem bB_10 : okB bK_10 = true := by decide +kernel
def bK_11 : List Nat := [209, 210, 211, 212, 213, 214, 215, 216, 217, 218, 219, 220, 221, 222, 223]
theorem bB_11 : okB bK_11 = true := by decide +kernel
def bK_12 : List Nat := [224, 225, 226, 227, 228, 229, 230, 231, 232, 233, 234, 235]
theorem bB_12 : okB bK_12 = true := by decide +kernel
def bK_13 : List Nat := [236, 237, 238, 239, 240, 241, 242, 243, 244, 245, 246]
theorem bB_13 : okB bK_13 = true := by decide +kernel
def bK_14 : List Nat := [247, 248, 249, 250, 251, 252, 253, 254, 255, 256, 257, 258, 259, 260, 261, 262, 263]
theorem bB_14 : okB bK_14 = true := by decide +kernel
def bK_15 : List Nat := [264, 265, 266, 267, 268, 269, 270, 271, 272, 273, 274, 275]
theorem bB_15 : okB bK_15 = true := by decide +kernel
