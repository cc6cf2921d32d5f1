def frN (j : Nat) : Nat := if j % 2 = 0 then 0 else if j = 13 then 20 else 5
theorem frN_le (j : Nat) : frN j ≤ 25 := by unfold frN; split; omega; split <;> omega
