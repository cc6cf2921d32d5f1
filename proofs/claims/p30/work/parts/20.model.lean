/-! the reference's object: 13 cells at the addresses M; numbers sc, rows of ints ar, sums sm -/
/-- whether a hand fits a rule -/
def fitB (q : Nat → Nat) (h : Nat) : Bool := decide (q 12 ≤ strH h ∧ strH h ≤ q 13) && (decide (q 4 ≤ lenH h 0 ∧ lenH h 0 ≤ q 5) && (decide (q 6 ≤ lenH h 1 ∧ lenH h 1 ≤ q 7) && (decide (q 8 ≤ lenH h 2 ∧ lenH h 2 ≤ q 9) && decide (q 10 ≤ lenH h 3 ∧ lenH h 3 ≤ q 11))))
/-- whether a rule is open in a state, with a last bid, forced or not -/
def opB (q : Nat → Nat) (st la fo : Int32) : Bool := decide (nI (q 0) = st) && (if q 1 = 25 then decide (fo = 0) else decide (la < nI (q 1)))
/-- the first of the rules r, r + 1 .. that has P -/
def ruF (P : Nat → Bool) : Nat → Nat → Int32
  | 0, _ => -6
  | f + 1, r => if P r = true then nI r else ruF P f (r + 1)
def ruB (R : Nat → Nat → Nat) (h : Nat) (st la fo : Int32) (r : Nat) : Bool := opB (R r) st la fo && fitB (R r) h
/-- the rule of a hand -/
def rlF (n : Nat) (R : Nat → Nat → Nat) (h : Nat) (st la fo : Int32) : Int32 := ruF (ruB R h st la fo) n 0
def anF (P : Nat → Bool) : Nat → Nat → Bool
  | 0, _ => false
  | f + 1, r => P r || anF P f (r + 1)
def thB (R : Nat → Nat → Nat) (st ca : Int32) (r : Nat) : Bool := decide (nI (R r 0) = st) && decide (nI (R r 1) = ca)
