/-! one of a row, by its number -/
def sel8 (w a0 a1 a2 a3 a4 a5 a6 a7 : Nat) : Nat := if w = 0 then a0 else if w = 1 then a1 else if w = 2 then a2 else if w = 3 then a3 else if w = 4 then a4 else if w = 5 then a5 else if w = 6 then a6 else a7
def sel5 (w a0 a1 a2 a3 a4 : Nat) : Nat := if w = 0 then a0 else if w = 1 then a1 else if w = 2 then a2 else if w = 3 then a3 else a4
