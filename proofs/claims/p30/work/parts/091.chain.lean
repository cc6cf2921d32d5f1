/-! all hands, one behind the other -/
def lowb (h : Nat) : Nat := h &&& (4294967296 - h)
def upN (h : Nat) : Nat := h + lowb h
def nhN (h : Nat) : Nat := upN h ||| ((h ^^^ upN h) / lowb h / 4)
def tzN (j : Nat) : Nat := if j = 0 then 0 else
  let a := if 65536 < j then (17, j / 65536) else (1, j)
  let b := if 256 < a.2 then (a.1 + 8, a.2 / 256) else a
  let c := if 16 < b.2 then (b.1 + 4, b.2 / 16) else b
  let d := if 4 < c.2 then (c.1 + 2, c.2 / 4) else c
  d.1 + d.2 / 2
def jN (h : Nat) : Nat := (h ^^^ 4294967295) &&& (h - 1)
def nhA (h : Nat) : Nat := upN h ||| ((h ^^^ upN h) / 2 ^ (2 + tzN (jN h)))
def ckS (h : Nat) : Bool := Nat.ble 31 h && Nat.ble h 1048575 && Nat.beq (sizeH h) 5 && Nat.ble (strH h) 20 && Nat.beq (nhA h) (nhN h) && Nat.ble (nhN h) 2097152 && Nat.ble 1 (lowb h)
noncomputable def ckC (n : Nat) : Nat → Bool := Nat.rec (motive := fun _ => Nat → Bool) (fun h => Nat.ble 1048576 h) (fun _ ih h => Nat.rec (motive := fun _ => Bool) false (fun k _ => ckS (k + 1) && ih (nhN (k + 1))) h) n
theorem ck_ok : ckC 15504 31 = true := by decide +kernel
theorem ckC_succ (n h : Nat) (hc : ckC (n + 1) h = true) : ckS h = true ∧ ckC n (nhN h) = true := by
  cases h with
  | zero => exact absurd hc (by show ¬ (false = true); simp)
  | succ k =>
    have hc : (ckS (k + 1) && ckC n (nhN (k + 1))) = true := hc
    exact Bool.and_eq_true_iff.mp hc
/-- the i-th hand -/
def HL : Nat → Nat
  | 0 => 31
  | n + 1 => nhN (HL n)
theorem ck_all : ∀ i, i ≤ 15504 → ckC (15504 - i) (HL i) = true := by
  intro i
  induction i with
  | zero => intro _; exact ck_ok
  | succ i ih =>
    intro h
    have h1 := ih (by omega)
    rw [show 15504 - i = (15504 - (i + 1)) + 1 by omega] at h1
    exact (ckC_succ _ _ h1).2
theorem HL_ck {i : Nat} (h : i < 15504) : ckS (HL i) = true := by
  have h1 := ck_all i (by omega)
  rw [show 15504 - i = (15504 - (i + 1)) + 1 by omega] at h1
  exact (ckC_succ _ _ h1).1
theorem HL_ok {i : Nat} (h : i < 15504) : 31 ≤ HL i ∧ HL i ≤ 1048575 ∧ sizeH (HL i) = 5 ∧ strH (HL i) ≤ 20 ∧ nhA (HL i) = HL (i + 1) ∧ HL (i + 1) ≤ 2097152 ∧ 1 ≤ lowb (HL i) := by
  have k := HL_ck h
  unfold ckS at k
  simp only [Bool.and_eq_true] at k
  obtain ⟨⟨⟨⟨⟨⟨k1, k2⟩, k3⟩, k4⟩, k5⟩, k6⟩, k7⟩ := k
  exact ⟨Nat.le_of_ble_eq_true k1, Nat.le_of_ble_eq_true k2, Nat.eq_of_beq_eq_true k3, Nat.le_of_ble_eq_true k4, Nat.eq_of_beq_eq_true k5, Nat.le_of_ble_eq_true k6, Nat.le_of_ble_eq_true k7⟩
theorem HL_end : 1048576 ≤ HL 15504 := by
  have h := ck_all 15504 (Nat.le_refl _)
  rw [Nat.sub_self] at h
  generalize HL 15504 = z at h ⊢
  exact Nat.le_of_ble_eq_true h
theorem HL_le {i : Nat} (h : i ≤ 15504) : HL i ≤ 2097152 := by
  cases i with
  | zero => decide
  | succ i => exact (HL_ok (by omega)).2.2.2.2.2.1
/-- how many of the first n hands have P -/
def cntF (P : Nat → Bool) : Nat → Nat
  | 0 => 0
  | n + 1 => cntF P n + (if P (HL n) = true then 1 else 0)
theorem cntF_le (P : Nat → Bool) : ∀ n, cntF P n ≤ n
  | 0 => Nat.le_refl _
  | n + 1 => by
    have := cntF_le P n
    unfold cntF
    split <;> omega
theorem cntF_cong {P P' : Nat → Bool} : ∀ n, (∀ i, i < n → P (HL i) = P' (HL i)) → cntF P n = cntF P' n
  | 0, _ => rfl
  | n + 1, h => by
    unfold cntF
    rw [cntF_cong n (fun i hi => h i (by omega)), h n (by omega)]
/-- the sum of f over those of the first n hands that have P -/
def sumF (P : Nat → Bool) (f : Nat → Nat) : Nat → Nat
  | 0 => 0
  | n + 1 => sumF P f n + (if P (HL n) = true then f (HL n) else 0)
theorem sumF_le (P : Nat → Bool) (f : Nat → Nat) (hf : ∀ h, f h ≤ 5) : ∀ n, sumF P f n ≤ 5 * cntF P n
  | 0 => Nat.le_refl _
  | n + 1 => by
    have := sumF_le P f hf n
    have := hf (HL n)
    unfold sumF cntF
    split <;> omega
theorem sumF_cong {P P' : Nat → Bool} {f f' : Nat → Nat} : ∀ n, (∀ i, i < n → P (HL i) = P' (HL i)) → (∀ i, i < n → P (HL i) = true → f (HL i) = f' (HL i)) → sumF P f n = sumF P' f' n
  | 0, _, _ => rfl
  | n + 1, h, h2 => by
    unfold sumF
    rw [sumF_cong n (fun i hi => h i (by omega)) (fun i hi => h2 i (by omega)), h n (by omega)]
    by_cases c : P' (HL n) = true
    · rw [if_pos c, if_pos c, h2 n (by omega) (by rw [h n (by omega)]; exact c)]
    · rw [if_neg c, if_neg c]
theorem lowb_le (h : Nat) : lowb h ≤ h := Nat.and_le_left
theorem jN_le (h : Nat) : jN h ≤ h - 1 := Nat.and_le_right
theorem upN_le (h : Nat) : upN h ≤ 2 * h := by
  have := lowb_le h
  unfold upN
  omega
theorem tzN_le {j : Nat} (h : j < 1048576) : tzN j ≤ 20 := by
  unfold tzN
  dsimp only
  split
  · omega
  · repeat' split
    all_goals first | omega | (simp only at *; omega)
