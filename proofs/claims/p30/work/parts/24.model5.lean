/-- what both programs hold: rules (many, numbers), hands, calls (many, numbers), stuck, characters (many, codes) -/
abbrev ST : Type := Nat × (Nat → Nat → Nat) × (Nat → Nat) × Nat × (Nat → Nat → Int32) × Bool × Nat × (Nat → Nat)
def cs0 : Nat → Nat → Int32 := fun _ j => if j = 4 then -6 else 0
/-- the auction at its start -/
def gAnew (z : ST) : ST := (z.1, z.2.1, z.2.2.1, 0, cs0, false, z.2.2.2.2.2.2.1, z.2.2.2.2.2.2.2)
def csC (cs : Nat → Nat → Int32) (k : Nat) (v0 v1 v2 v3 v4 : Int32) : Nat → Nat → Int32 := fun i j => if i = k then (if j = 0 then v0 else if j = 1 then v1 else cs i j) else if i = k + 1 then (if j = 2 then v2 else if j = 3 then v3 else if j = 4 then v4 else cs i j) else cs i j
/-- a call by the rule r -/
def gCall (z : ST) (r : Nat) : ST := (z.1, z.2.1, z.2.2.1, z.2.2.2.1 + 1, csC z.2.2.2.2.1 z.2.2.2.1 (nI (z.2.1 r 1)) (nI r) (if z.2.1 r 1 = 25 then z.2.2.2.2.1 z.2.2.2.1 2 else nI (z.2.1 r 2)) (if z.2.1 r 1 = 25 then z.2.2.2.2.1 z.2.2.2.1 3 else nI (z.2.1 r 3)) (if z.2.1 r 1 = 25 then z.2.2.2.2.1 z.2.2.2.1 4 else nI (z.2.1 r 1)), z.2.2.2.2.2.1, z.2.2.2.2.2.2.1, z.2.2.2.2.2.2.2)
