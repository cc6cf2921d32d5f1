/-- a number up to m, its first digit up to h: a second digit is taken; the place behind, the value -/
def nmB (tx : Nat → Nat) (w : Bool) (m h sp : Nat) : Bool := !(tkW tx w 48 h sp) && decide (0 < tkV tx w 48 h sp ∧ 48 ≤ tx (tkS tx w 48 h sp) ∧ tx (tkS tx w 48 h sp) ≤ 57 ∧ 10 * tkV tx w 48 h sp + tx (tkS tx w 48 h sp) - 48 ≤ m)
def nmS (tx : Nat → Nat) (w : Bool) (m h sp : Nat) : Nat := if nmB tx w m h sp = true then tkS tx w 48 h sp + 1 else tkS tx w 48 h sp
