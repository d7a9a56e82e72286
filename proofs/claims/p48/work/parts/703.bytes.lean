def bK_30 : List Nat := [275, 278, 279, 280, 281, 282, 283]
theorem bB_30 : okB bK_30 = true := by decide +kernel
def bK_31 : List Nat := [284, 285, 286, 287, 288, 289, 290, 292, 293, 295, 296, 297]
theorem bB_31 : okB bK_31 = true := by decide +kernel
def bK_32 : List Nat := [298, 299, 300, 301, 302, 303, 304, 305, 306, 307, 308, 309, 310, 311, 312]
theorem bB_32 : okB bK_32 = true := by decide +kernel
