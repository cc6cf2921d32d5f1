/-! rules: put behind, taken out, put between -/
def addR (R : Nat → Nat → Nat) (n : Nat) (q : Nat → Nat) : Nat → Nat → Nat := fun i => if i = n then q else R i
def fAdd (z : ST) (q : Nat → Nat) : Int32 := if z.1 = 24 then -4 else if anF (thB z.2.1 (nI (q 0)) (nI (q 1))) z.1 0 = true then -5 else nI z.1
def gAdd (z : ST) (q : Nat → Nat) : ST := if z.1 = 24 then z else if anF (thB z.2.1 (nI (q 0)) (nI (q 1))) z.1 0 = true then z else gAnew (z.1 + 1, addR z.2.1 z.1 q, z.2.2)
def rwN (a b d q : Nat) (j : Nat) : Nat := if j = 0 then a else if j = 1 then b else if j = 2 then d else if j = 3 then q else frN j
def fRule (z : ST) (a b d q : Int32) : Int32 := if inI a 0 7 = 0 ∨ inI b 0 25 = 0 ∨ inI d 0 7 = 0 ∨ inI q 0 1 = 0 then -2 else fAdd z (rwN (tn a) (tn b) (tn d) (tn q))
def gRule (z : ST) (a b d q : Int32) : ST := if inI a 0 7 = 0 ∨ inI b 0 25 = 0 ∨ inI d 0 7 = 0 ∨ inI q 0 1 = 0 then z else gAdd z (rwN (tn a) (tn b) (tn d) (tn q))
