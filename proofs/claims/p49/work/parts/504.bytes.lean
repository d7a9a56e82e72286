def bK_40 : List Nat := [310]
theorem bB_40 : okB bK_40 = true := by decide +kernel
def bK_41 : List Nat := [311]
theorem bB_41 : okB bK_41 = true := by decide +kernel
def bK_42 : List Nat := [312]
theorem bB_42 : okB bK_42 = true := by decide +kernel
