/-! limit -/
def lmR (R : Nat → Nat → Nat) (r w lo hi : Nat) : Nat → Nat → Nat := fun i => if i = r then (fun j => if j = 5 + 2 * w then hi else if j = 4 + 2 * w then lo else R r j) else R i
def mxI (w : Nat) : Int := if w = 4 then 20 else 5
def fLimit (z : ST) (a b d q : Int32) : Int32 := if inI a 0 ((z.1 : Int) - 1) = 0 then -1 else if inI b 0 4 = 0 ∨ inI q 0 (mxI (tn b)) = 0 ∨ inI d 0 q.toInt = 0 then -2 else nI (cntF (fitB (lmR z.2.1 (tn a) (tn b) (tn d) (tn q) (tn a))) 15504)
def gLimit (z : ST) (a b d q : Int32) : ST := if inI a 0 ((z.1 : Int) - 1) = 0 then z else if inI b 0 4 = 0 ∨ inI q 0 (mxI (tn b)) = 0 ∨ inI d 0 q.toInt = 0 then z else gAnew (z.1, lmR z.2.1 (tn a) (tn b) (tn d) (tn q), z.2.2)
theorem inI_natT {a : Int32} {h : Nat} (hh : h < 2 ^ 31) (q : ¬ inI a 0 (nI h).toInt = 0) : ∃ x : Nat, x ≤ h ∧ a = nI x := inI_nat (hi := h) (by rw [← nI_toInt hh]; exact q) hh
