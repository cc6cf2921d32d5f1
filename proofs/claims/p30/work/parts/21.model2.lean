/-- whether the auction is over -/
def ovB (k : Nat) (cs : Nat → Nat → Int32) (sk : Bool) : Bool := sk || (decide (k = 12) || (decide (0 < k) && decide (cs (k - 1) 0 = 25)))
/-- all of i, i + 2 .. (f of them) have P -/
def alF (P : Nat → Bool) : Nat → Nat → Bool
  | 0, _ => true
  | f + 1, i => P i && alF P f (i + 2)
def caB (n : Nat) (R : Nat → Nat → Nat) (cs : Nat → Nat → Int32) (h i : Nat) : Bool := decide (rlF n R h (cs i 2) (cs i 4) (cs i 3) = cs i 1)
/-- whether a hand fits the auction for a partner -/
def faB (n : Nat) (R : Nat → Nat → Nat) (k : Nat) (cs : Nat → Nat → Int32) (sk : Bool) (p h : Nat) : Bool := alF (caB n R cs h) ((k + 1 - p) / 2) p && (!(sk && decide (k % 2 = p)) || decide (rlF n R h (cs k 2) (cs k 4) (cs k 3) = -6))
def hidB (n : Nat) (R : Nat → Nat → Nat) (k : Nat) (cs : Nat → Nat → Int32) (sk : Bool) (p kn h : Nat) : Bool := decide (h &&& kn = 0) && faB n R k cs sk p h
theorem ruF_or (P : Nat → Bool) : ∀ f r, ruF P f r = -6 ∨ ∃ j, r ≤ j ∧ j < r + f ∧ P j = true ∧ ruF P f r = nI j
  | 0, _ => Or.inl rfl
  | f + 1, r => by
    unfold ruF
    by_cases h : P r = true
    · rw [if_pos h]
      exact Or.inr ⟨r, Nat.le_refl _, by omega, h, rfl⟩
    · rw [if_neg h]
      rcases ruF_or P f (r + 1) with q | ⟨j, q1, q2, q3, q4⟩
      · exact Or.inl q
      · exact Or.inr ⟨j, by omega, by omega, q3, q4⟩
theorem rlF_or (n : Nat) (R : Nat → Nat → Nat) (h : Nat) (st la fo : Int32) : rlF n R h st la fo = -6 ∨ ∃ j, j < n ∧ rlF n R h st la fo = nI j := by
  rcases ruF_or (ruB R h st la fo) n 0 with q | ⟨j, -, q2, -, q4⟩
  · exact Or.inl q
  · exact Or.inr ⟨j, by omega, q4⟩
