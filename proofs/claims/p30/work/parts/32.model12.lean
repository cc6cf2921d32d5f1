theorem sumF_no {P : Nat → Bool} (f : Nat → Nat) {i : Nat} (h : ¬ P (HL i) = true) : sumF P f (i + 1) = sumF P f i := by
  show sumF P f i + (if P (HL i) = true then f (HL i) else 0) = _
  rw [if_neg h]; rfl
theorem va_uu {α : Type} (f : Nat → α) (i : Nat) (a b : α) : va_up (va_up f i a) i b = va_up f i b := by
  funext j
  unfold va_up
  by_cases c : j = i
  · rw [if_pos c, if_pos c]
  · rw [if_neg c, if_neg c, if_neg c]
/-- how many hands of the other partner, and the sums of tricks with them -/
def hmN (n : Nat) (R : Nat → Nat → Nat) (hd : Nat → Nat) (k : Nat) (cs : Nat → Nat → Int32) (sk : Bool) (p : Nat) : Nat := cntF (hidB n R k cs sk (1 - p) (hd p)) 15504
def suT (n : Nat) (R : Nat → Nat → Nat) (hd : Nat → Nat) (k : Nat) (cs : Nat → Nat → Int32) (sk : Bool) (p t : Nat) : Nat := sumF (hidB n R k cs sk (1 - p) (hd p)) (trN t (hd p)) 15504
theorem suT_le (n : Nat) (R : Nat → Nat → Nat) (hd : Nat → Nat) (k : Nat) (cs : Nat → Nat → Int32) (sk : Bool) (p t : Nat) : suT n R hd k cs sk p t ≤ 5 * hmN n R hd k cs sk p := by
  unfold suT hmN
  generalize (15504 : Nat) = N
  exact sumF_le _ _ (trN_le t (hd p)) N
theorem hmN_le (n : Nat) (R : Nat → Nat → Nat) (hd : Nat → Nat) (k : Nat) (cs : Nat → Nat → Int32) (sk : Bool) (p : Nat) : hmN n R hd k cs sk p ≤ 15504 := by
  unfold hmN
  generalize (15504 : Nat) = N
  exact cntF_le _ _
def fExp (z : ST) (a b : Int32) : Int64 := if inI a 0 1 = 0 then -1 else if inI b 0 4 = 0 then -2 else lN (suT z.1 z.2.1 z.2.2.1 z.2.2.2.1 z.2.2.2.2.1 z.2.2.2.2.2.1 (tn a) (tn b))
/-- the last strain of those with the greatest number, among 0 .. i -/
def bsF (S : Nat → Nat) : Nat → Nat
  | 0 => 0
  | i + 1 => if S (bsF S i) ≤ S (i + 1) then i + 1 else bsF S i
theorem bsF_le (S : Nat → Nat) : ∀ i, bsF S i ≤ i
  | 0 => Nat.le_refl 0
  | i + 1 => by
    have := bsF_le S i
    unfold bsF
    split <;> omega
def coN (S : Nat → Nat) (m : Nat) : Int32 := if m = 0 then -6 else if S (bsF S 4) / m = 0 then -6 else nI (5 * (S (bsF S 4) / m - 1) + bsF S 4)
def fCon (z : ST) (a : Int32) : Int32 := if inI a 0 1 = 0 then -1 else coN (suT z.1 z.2.1 z.2.2.1 z.2.2.2.1 z.2.2.2.2.1 z.2.2.2.2.2.1 (tn a)) (hmN z.1 z.2.1 z.2.2.1 z.2.2.2.1 z.2.2.2.2.1 z.2.2.2.2.2.1 (tn a))
theorem bsF_yes {S : Nat → Nat} {i : Nat} (h : S (bsF S i) ≤ S (i + 1)) : bsF S (i + 1) = i + 1 := by
  rw [bsF, if_pos h]
theorem bsF_no {S : Nat → Nat} {i : Nat} (h : ¬ S (bsF S i) ≤ S (i + 1)) : bsF S (i + 1) = bsF S i := by
  rw [bsF, if_neg h]
theorem con_0 {S : Nat → Nat} {m : Nat} (h : m = 0) : -6 = coN S m := (if_pos h).symm
theorem con_1 {S : Nat → Nat} {m : Nat} (h : ¬ m = 0) (h2 : S (bsF S 4) / m = 0) : -6 = coN S m := ((if_neg h).trans (if_pos h2)).symm
theorem con_2 {S : Nat → Nat} {m : Nat} (h : ¬ m = 0) (h2 : ¬ S (bsF S 4) / m = 0) : nI (5 * (S (bsF S 4) / m - 1) + bsF S 4) = coN S m := ((if_neg h).trans (if_neg h2)).symm
theorem ls_fin {n : Nat} {R : Nat → Nat → Nat} {hd : Nat → Nat} {k : Nat} {cs : Nat → Nat → Int32} {sk : Bool} {x : Nat} (hx : x ≤ 1) (h : ¬ inI (nI x) 0 1 = 0) (pn : Nat) (pt : Nat → Nat) : fCon (n, R, hd, k, cs, sk, pn, pt) (nI x) = coN (suT n R hd k cs sk x) (hmN n R hd k cs sk x) := by
  unfold fCon
  rw [if_neg h, tn_n (by omega)]
theorem ex_fin {n : Nat} {R : Nat → Nat → Nat} {hd : Nat → Nat} {k : Nat} {cs : Nat → Nat → Int32} {sk : Bool} {x y : Nat} (hx : x ≤ 1) (hy : y ≤ 4) (h : ¬ inI (nI x) 0 1 = 0) (h2 : ¬ inI (nI y) 0 4 = 0) (pn : Nat) (pt : Nat → Nat) : fExp (n, R, hd, k, cs, sk, pn, pt) (nI x) (nI y) = lN (suT n R hd k cs sk x y) := by
  unfold fExp
  rw [if_neg h, if_neg h2, tn_n (by omega), tn_n (by omega)]
