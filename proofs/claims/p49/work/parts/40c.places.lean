/-! PLACES OF ARRAYS KNOWN FROM THE START; METHODS WHOSE QUOTIENTS ARE REMEMBERED (by claim) -/
def kXa : List Nat := []
def kXp : List (Nat × Nat) := []
def kMem : List Nat := [17]
