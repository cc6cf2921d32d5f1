/-! the answers, as functions of what the object holds -/
def tn (v : Int32) : Nat := v.toNatClampNeg
theorem tn_n {x : Nat} (h : x < 2 ^ 31) : tn (nI x) = x := nI_clamp h
def fHands (n : Nat) (R : Nat → Nat → Nat) (k : Nat) (cs : Nat → Nat → Int32) (sk : Bool) (a b : Int32) : Int32 := if inI a 0 1 = 0 then -1 else if inI b 0 1048575 = 0 then -2 else nI (cntF (hidB n R k cs sk (tn a) (tn b)) 15504)
def fFits (n : Nat) (R : Nat → Nat → Nat) (k : Nat) (cs : Nat → Nat → Int32) (sk : Bool) (a b : Int32) : Int32 := if inI a 0 1 = 0 then -1 else if handB b = false then -2 else bI (faB n R k cs sk (tn a) (tn b))
def fRuleOf (n : Nat) (R : Nat → Nat → Nat) (k : Nat) (cs : Nat → Nat → Int32) (sk : Bool) (b : Int32) : Int32 := if handB b = false then -2 else if ovB k cs sk = true then -5 else rlF n R (tn b) (cs k 2) (cs k 4) (cs k 3)
def fHand (hd : Nat → Nat) (a b : Int32) : Int32 := if inI a 0 1 = 0 then -1 else if inI b 0 5 = 0 then -2 else if tn b = 0 then nI (hd (tn a)) else if tn b = 5 then nI (strH (hd (tn a))) else nI (lenH (hd (tn a)) (tn b - 1))
def fMade (k : Nat) (cs : Nat → Nat → Int32) (a b : Int32) : Int32 := if inI b 0 3 = 0 then -2 else if inI a 0 ((k : Int) - 1) = 0 then -6 else cs (tn a) (tn b)
def fState (n k : Nat) (cs : Nat → Nat → Int32) (sk : Bool) (pn : Nat) (a : Int32) : Int32 := if a = 0 then nI k else if a = 1 then cs k 2 else if a = 2 then cs k 4 else if a = 3 then cs k 3 else if a = 4 then nI (k % 2) else if a = 5 then (if sk = true then 2 else bI (ovB k cs sk)) else if a = 6 then nI n else if a = 7 then nI pn else -2
/-- what is shown of the hands with P -/
def shF (P : Nat → Bool) (w : Nat) : Nat → Bool × Nat
  | 0 => (false, 0)
  | i + 1 => if P (HL i) = true then (true, if (shF P w i).1 = true then jsN (shF P w i).2 (snN (HL i) w) w else snN (HL i) w) else shF P w i
def fShown (n : Nat) (R : Nat → Nat → Nat) (k : Nat) (cs : Nat → Nat → Int32) (sk : Bool) (a b d : Int32) : Int32 := if inI a 0 1 = 0 then -1 else if inI b 0 1048575 = 0 ∨ inI d 0 11 = 0 then -2 else if (shF (hidB n R k cs sk (tn a) (tn b)) (tn d) 15504).1 = true then nI (shF (hidB n R k cs sk (tn a) (tn b)) (tn d) 15504).2 else -6
def fTricks (a b d : Int32) : Int32 := if inI a 0 4 = 0 ∨ handB b = false ∨ handB d = false ∨ ¬ tn b &&& tn d = 0 then -2 else nI (trN (tn a) (tn b) (tn d))
theorem snN_le {h w : Nat} (hh : h ≤ 1048575) : snN h w < 2 ^ 20 := by
  have := @measN_le h (w / 2)
  unfold snN
  split <;> omega
theorem jsN_le {a b w : Nat} (ha : a < 2 ^ 20) (hb : b < 2 ^ 20) : jsN a b w < 2 ^ 20 := by
  unfold jsN
  split
  · exact Nat.lt_of_le_of_lt Nat.and_le_left ha
  · split
    · exact Nat.or_lt_two_pow ha hb
    · split
      · omega
      · omega
theorem shF_le (P : Nat → Bool) (w : Nat) : ∀ i, i ≤ 15504 → (shF P w i).2 < 2 ^ 20
  | 0, _ => by show 0 < _; decide
  | i + 1, h => by
    have ih := shF_le P w i (by omega)
    have hs := @snN_le (HL i) w (HL_ok (i := i) (by omega)).2.1
    unfold shF
    split
    · show (if _ then _ else _) < _
      split
      · exact jsN_le ih hs
      · exact hs
    · exact ih
theorem ru_nat {n : Nat} (hn : n ≤ 24) {a : Int32} (h : ¬ inI a 0 ((n : Int) - 1) = 0) : ∃ x : Nat, x < n ∧ a = nI x := by
  obtain ⟨h1, h2⟩ := inI_1 h
  obtain ⟨x, h3, rfl⟩ := inI_nat (a := a) (hi := 24) (fun q => inI_0 q ⟨h1, by omega⟩) (by decide)
  rw [nI_toInt (by omega)] at h2
  exact ⟨x, by omega, rfl⟩
theorem ca_nat {k : Nat} (hk : k ≤ 12) {a : Int32} (h : ¬ inI a 0 ((k : Int) - 1) = 0) : ∃ x : Nat, x < k ∧ a = nI x := ru_nat (n := k) (by omega) h
