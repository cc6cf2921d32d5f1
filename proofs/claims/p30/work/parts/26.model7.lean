/-- no two rules have one state and one call -/
def UQ (n : Nat) (R : Nat → Nat → Nat) : Prop := ∀ i j, i < n → j < n → R i 0 = R j 0 → R i 1 = R j 1 → i = j
