/-! calls -/
def fCall (z : ST) : Int32 := if ovB z.2.2.2.1 z.2.2.2.2.1 z.2.2.2.2.2.1 = true then -5 else if rlF z.1 z.2.1 (z.2.2.1 (z.2.2.2.1 % 2)) (z.2.2.2.2.1 z.2.2.2.1 2) (z.2.2.2.2.1 z.2.2.2.1 4) (z.2.2.2.2.1 z.2.2.2.1 3) = -6 then -6 else nI (z.2.1 (tn (rlF z.1 z.2.1 (z.2.2.1 (z.2.2.2.1 % 2)) (z.2.2.2.2.1 z.2.2.2.1 2) (z.2.2.2.2.1 z.2.2.2.1 4) (z.2.2.2.2.1 z.2.2.2.1 3))) 1)
def gStuck (z : ST) (b : Bool) : ST := (z.1, z.2.1, z.2.2.1, z.2.2.2.1, z.2.2.2.2.1, b, z.2.2.2.2.2.2.1, z.2.2.2.2.2.2.2)
def gCallA (z : ST) : ST := if ovB z.2.2.2.1 z.2.2.2.2.1 z.2.2.2.2.2.1 = true then z else if rlF z.1 z.2.1 (z.2.2.1 (z.2.2.2.1 % 2)) (z.2.2.2.2.1 z.2.2.2.1 2) (z.2.2.2.2.1 z.2.2.2.1 4) (z.2.2.2.2.1 z.2.2.2.1 3) = -6 then gStuck z true else gCall z (tn (rlF z.1 z.2.1 (z.2.2.1 (z.2.2.2.1 % 2)) (z.2.2.2.2.1 z.2.2.2.1 2) (z.2.2.2.2.1 z.2.2.2.1 4) (z.2.2.2.2.1 z.2.2.2.1 3)))
theorem ov_lt {k : Nat} {cs : Nat → Nat → Int32} {sk : Bool} (hk : k ≤ 12) (h : ovB k cs sk = false) : k < 12 := by
  unfold ovB at h
  rw [Bool.or_eq_false_iff, Bool.or_eq_false_iff] at h
  have := of_decide_eq_false h.2.1
  omega
def fBack (z : ST) : Int32 := if z.2.2.2.1 = 0 ∧ z.2.2.2.2.2.1 = false then -5 else nI (if z.2.2.2.2.2.1 = true then z.2.2.2.1 else z.2.2.2.1 - 1)
def gBack (z : ST) : ST := if z.2.2.2.1 = 0 ∧ z.2.2.2.2.2.1 = false then z else (z.1, z.2.1, z.2.2.1, (if z.2.2.2.2.2.1 = true then z.2.2.2.1 else z.2.2.2.1 - 1), z.2.2.2.2.1, false, z.2.2.2.2.2.2.1, z.2.2.2.2.2.2.2)
