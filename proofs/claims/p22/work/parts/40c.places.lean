/-! PLACES OF ARRAYS KNOWN FROM THE START; METHODS WHOSE QUOTIENTS ARE REMEMBERED (by claim) -/
def kXa : List Nat := [194, 195]
def kXp : List (Nat × Nat) := [(194, 7), (195, 7)]
def kMem : List Nat := [17]
def kBit : List Nat := []
