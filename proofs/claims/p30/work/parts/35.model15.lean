/-! reading the text -/
/-- a sign between lo and hi is taken: wrong behind it, the place behind it, its value -/
def tkW (tx : Nat → Nat) (w : Bool) (lo hi sp : Nat) : Bool := w || !(decide (lo ≤ tx sp ∧ tx sp ≤ hi))
def tkS (tx : Nat → Nat) (w : Bool) (lo hi sp : Nat) : Nat := if tkW tx w lo hi sp = true then sp else sp + 1
def tkV (tx : Nat → Nat) (w : Bool) (lo hi sp : Nat) : Nat := if tkW tx w lo hi sp = true then 0 else tx sp - lo
