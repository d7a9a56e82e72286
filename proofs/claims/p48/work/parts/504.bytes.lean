def bK_40 : List Nat := [306]
theorem bB_40 : okB bK_40 = true := by decide +kernel
def bK_41 : List Nat := [307]
theorem bB_41 : okB bK_41 = true := by decide +kernel
def bK_42 : List Nat := [308]
theorem bB_42 : okB bK_42 = true := by decide +kernel
def bK_43 : List Nat := [309]
theorem bB_43 : okB bK_43 = true := by decide +kernel
def bK_44 : List Nat := [310]
theorem bB_44 : okB bK_44 = true := by decide +kernel
def bK_45 : List Nat := [311]
theorem bB_45 : okB bK_45 = true := by decide +kernel
def bK_46 : List Nat := [312]
theorem bB_46 : okB bK_46 = true := by decide +kernel
