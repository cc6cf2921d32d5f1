/-! drawing -/
/-- free places among c .. c + f - 1 -/
def frC (t : Nat) : Nat → Nat → Nat
  | 0, _ => 0
  | f + 1, c => (if t / 2 ^ c % 2 = 1 then 0 else 1) + frC t f (c + 1)
/-- the place with the number l of those that are free from c on -/
def clF (t : Nat) : Nat → Nat → Nat → Nat
  | 0, _, c => c
  | f + 1, l, c => if 0 < l ∨ t / 2 ^ c % 2 = 1 then clF t f (if t / 2 ^ c % 2 = 1 then l else l - 1) (c + 1) else c
theorem clF_ok (t : Nat) : ∀ f l c, l < frC t f c → c ≤ clF t f l c ∧ clF t f l c < c + f ∧ t / 2 ^ (clF t f l c) % 2 = 0
  | 0, l, c, h => absurd h (Nat.not_lt_zero l)
  | f + 1, l, c, h => by
    unfold frC at h
    unfold clF
    by_cases b : t / 2 ^ c % 2 = 1
    · rw [if_pos (Or.inr b), if_pos b]
      rw [if_pos b] at h
      have := clF_ok t f l (c + 1) (by omega)
      exact ⟨by omega, by omega, this.2.2⟩
    · rw [if_neg b] at h
      by_cases d : 0 < l
      · rw [if_pos (Or.inl d), if_neg b]
        have := clF_ok t f (l - 1) (c + 1) (by omega)
        exact ⟨by omega, by omega, this.2.2⟩
      · rw [if_neg (fun q => Or.elim q d b)]
        exact ⟨Nat.le_refl _, by omega, by omega⟩
theorem bit_or (t c j : Nat) : (t ||| 2 ^ c) / 2 ^ j % 2 = if j = c then 1 else t / 2 ^ j % 2 := by
  have e : ∀ x, x / 2 ^ j % 2 = (x.testBit j).toNat := fun x => (Nat.toNat_testBit x j).symm
  rw [e, e, Nat.testBit_or, Nat.testBit_two_pow]
  by_cases h : j = c
  · rw [if_pos h, decide_eq_true h.symm, Bool.or_true]; rfl
  · rw [if_neg h, decide_eq_false (fun q => h q.symm), Bool.or_false]
theorem frC_far (t c : Nat) : ∀ f j, c < j → frC (t ||| 2 ^ c) f j = frC t f j
  | 0, _, _ => rfl
  | f + 1, j, h => by
    unfold frC
    rw [bit_or, if_neg (show ¬ j = c by omega), frC_far t c f (j + 1) (by omega)]
theorem frC_or (t c : Nat) (hb : t / 2 ^ c % 2 = 0) : ∀ f j, j ≤ c → c < j + f → frC (t ||| 2 ^ c) f j + 1 = frC t f j
  | 0, j, h, h2 => by omega
  | f + 1, j, h, h2 => by
    unfold frC
    rw [bit_or]
    by_cases d : j = c
    · subst d
      rw [if_pos rfl, if_pos rfl, if_neg (by omega), frC_far t j f (j + 1) (by omega)]
      omega
    · rw [if_neg d]
      have := frC_or t c hb f (j + 1) (by omega) (by omega)
      omega
/-- i cards drawn: the number, the cards, the first five -/
def drF (s : Nat) : Nat → Nat × Nat × Nat
  | 0 => (s, 0, 0)
  | i + 1 => (((drF s i).1 * 1103 + 12345) % 65536, (drF s i).2.1 ||| 2 ^ clF (drF s i).2.1 20 (((drF s i).1 * 1103 + 12345) % 65536 % (20 - i)) 0, if i = 4 then (drF s i).2.1 ||| 2 ^ clF (drF s i).2.1 20 (((drF s i).1 * 1103 + 12345) % 65536 % (20 - i)) 0 else (drF s i).2.2)
theorem frC_0 : ∀ f c, frC 0 f c = f
  | 0, _ => rfl
  | f + 1, c => by
    unfold frC
    rw [Nat.zero_div, if_neg (by decide), frC_0 f (c + 1)]
    omega
theorem drF_ok (s : Nat) (hs : s < 65536) : ∀ i, i ≤ 10 → (drF s i).1 < 65536 ∧ (drF s i).2.1 < 2 ^ 20 ∧ (drF s i).2.2 < 2 ^ 20 ∧ frC (drF s i).2.1 20 0 = 20 - i
  | 0, _ => ⟨hs, by show 0 < 2 ^ 20; decide, by show 0 < 2 ^ 20; decide, frC_0 20 0⟩
  | i + 1, h => by
    have ih := drF_ok s hs i (by omega)
    have hm : ((drF s i).1 * 1103 + 12345) % 65536 % (20 - i) < 20 - i := Nat.mod_lt _ (by omega)
    have hc := clF_ok (drF s i).2.1 20 (((drF s i).1 * 1103 + 12345) % 65536 % (20 - i)) 0 (by omega)
    have ht : (drF s i).2.1 ||| 2 ^ clF (drF s i).2.1 20 (((drF s i).1 * 1103 + 12345) % 65536 % (20 - i)) 0 < 2 ^ 20 := Nat.or_lt_two_pow ih.2.1 (Nat.pow_lt_pow_right (by decide) (by omega))
    have hf := frC_or (drF s i).2.1 _ hc.2.2 20 0 (Nat.zero_le _) hc.2.1
    refine ⟨Nat.mod_lt _ (by decide), ht, ?_, ?_⟩
    · show (if i = 4 then _ else (drF s i).2.2) < 2 ^ 20
      split
      · exact ht
      · exact ih.2.2.1
    · show frC ((drF s i).2.1 ||| 2 ^ clF (drF s i).2.1 20 (((drF s i).1 * 1103 + 12345) % 65536 % (20 - i)) 0) 20 0 = 20 - (i + 1)
      omega
/-- the two hands drawn -/
def drH (s : Nat) : Nat → Nat := fun i => if i = 0 then (drF s 10).2.2 else (drF s 10).2.1 &&& ((drF s 10).2.2 ^^^ 4294967295)
def fDraw (a : Int32) : Int32 := if inI a 0 65535 = 0 then -2 else nI (drF (tn a) 10).2.2
def gDraw (z : ST) (a : Int32) : ST := if inI a 0 65535 = 0 then z else gAnew (z.1, z.2.1, drH (tn a), z.2.2.2)
