/-! a condition -/
def mmN (u : Nat) : Nat := if u = 4 then 20 else 5
def mhN (u : Nat) : Nat := if u = 4 then 57 else 53
def cA (tx : Nat → Nat) (u sp : Nat) : Bool := tkW tx false 48 (mhN u) (sp + 1)
def c1 (tx : Nat → Nat) (u sp : Nat) : Nat := nmS tx false (mmN u) (mhN u) (sp + 1)
def cB (tx : Nat → Nat) (u sp : Nat) : Bool := tkW tx (cA tx u sp) 45 45 (c1 tx u sp)
def c2 (tx : Nat → Nat) (u sp : Nat) : Nat := tkS tx (cA tx u sp) 45 45 (c1 tx u sp)
def cC (tx : Nat → Nat) (u sp : Nat) : Bool := tkW tx (cB tx u sp) 48 (mhN u) (c2 tx u sp)
