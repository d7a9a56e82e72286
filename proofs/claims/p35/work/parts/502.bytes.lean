def bK_16 : List Nat := [276, 277, 278, 279, 280, 281, 282, 283, 284, 285, 286, 287, 288, 289, 290, 291, 292, 293]
theorem bB_16 : okB bK_16 = true := by decide +kernel
def bK_17 : List Nat := [294, 295, 296, 297, 298, 299, 300, 301, 302, 303, 304, 305, 306, 307, 308, 309, 310, 311, 312]
theorem bB_17 : okB bK_17 = true := by decide +kernel
