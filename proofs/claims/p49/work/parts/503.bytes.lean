def bK_30 : List Nat := [300]
theorem bB_30 : okB bK_30 = true := by decide +kernel
def bK_31 : List Nat := [301]
theorem bB_31 : okB bK_31 = true := by decide +kernel
def bK_32 : List Nat := [302]
theorem bB_32 : okB bK_32 = true := by decide +kernel
def bK_33 : List Nat := [303]
theorem bB_33 : okB bK_33 = true := by decide +kernel
def bK_34 : List Nat := [304]
theorem bB_34 : okB bK_34 = true := by decide +kernel
def bK_35 : List Nat := [305]
theorem bB_35 : okB bK_35 = true := by decide +kernel
def bK_36 : List Nat := [306]
theorem bB_36 : okB bK_36 = true := by decide +kernel
def bK_37 : List Nat := [307]
theorem bB_37 : okB bK_37 = true := by decide +kernel
def bK_38 : List Nat := [308]
theorem bB_38 : okB bK_38 = true := by decide +kernel
def bK_39 : List Nat := [309]
theorem bB_39 : okB bK_39 = true := by decide +kernel
