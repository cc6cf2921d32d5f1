/-! the hands that are drawn -/
theorem frc_mn (t : Nat) : ∀ f c, frC t f c + mnF t (c + f) = f + mnF t c
  | 0, c => by
    show 0 + mnF t (c + 0) = 0 + mnF t c
    rfl
  | f + 1, c => by
    have ih := frc_mn t f (c + 1)
    have e : mnF t (c + 1) = mnF t c + t / 2 ^ c % 2 := rfl
    rw [show c + 1 + f = c + (f + 1) by omega] at ih
    unfold frC
    split
    · omega
    · omega
theorem dr_size {s : Nat} (hs : s < 65536) {i : Nat} (hi : i ≤ 10) : sizeH (drF s i).2.1 = i := by
  have h1 := (drF_ok s hs i hi).2.2.2
  have h2 := frc_mn (drF s i).2.1 20 0
  rw [Nat.zero_add, mn_20] at h2
  have h3 : mnF (drF s i).2.1 0 = 0 := rfl
  omega
theorem dr_first (s : Nat) : ∀ i, (drF s (5 + i)).2.2 = (drF s 5).2.1
  | 0 => rfl
  | i + 1 => by
    have ih := dr_first s i
    rw [show 5 + (i + 1) = (5 + i) + 1 by omega]
    show (if 5 + i = 4 then _ else (drF s (5 + i)).2.2) = _
    rw [if_neg (by omega)]
    exact ih
theorem dr_mono (s j : Nat) (h : (drF s 5).2.1.testBit j = true) : ∀ i, (drF s (5 + i)).2.1.testBit j = true
  | 0 => h
  | i + 1 => by
    have ih := dr_mono s j h i
    rw [show 5 + (i + 1) = (5 + i) + 1 by omega]
    show ((drF s (5 + i)).2.1 ||| _).testBit j = true
    rw [Nat.testBit_or, ih]
    rfl
theorem m32_bit (j : Nat) (h : j < 32) : (4294967295 : Nat).testBit j = true := by
  rw [show (4294967295 : Nat) = 2 ^ 32 - 1 from rfl, Nat.testBit_two_pow_sub_one]
  exact decide_eq_true h
theorem mn_sub {F T : Nat} (h : ∀ j, F.testBit j = true → T.testBit j = true) : ∀ n, n ≤ 20 → mnF (T &&& (F ^^^ 4294967295)) n + mnF F n = mnF T n
  | 0, _ => rfl
  | n + 1, hn => by
    have ih := mn_sub h n (by omega)
    have e : (T &&& (F ^^^ 4294967295)) / 2 ^ n % 2 + F / 2 ^ n % 2 = T / 2 ^ n % 2 := by
      rw [← Nat.toNat_testBit, ← Nat.toNat_testBit, ← Nat.toNat_testBit, Nat.testBit_and, Nat.testBit_xor, m32_bit n (by omega)]
      have hb := h n
      cases hF : F.testBit n with
      | false => cases T.testBit n <;> rfl
      | true => rw [hb hF]; rfl
    unfold mnF
    omega
theorem dw_hands {s : Nat} (hs : s < 65536) : (∀ i, i < 2 → drH s i ≤ 1048575 ∧ sizeH (drH s i) = 5) ∧ drH s 0 &&& drH s 1 = 0 := by
  have e0 : drH s 0 = (drF s 5).2.1 := (if_pos rfl).trans (dr_first s 5)
  have e1 : drH s 1 = (drF s 10).2.1 &&& ((drF s 5).2.1 ^^^ 4294967295) := by
    show (if (1 : Nat) = 0 then _ else (drF s 10).2.1 &&& ((drF s 10).2.2 ^^^ 4294967295)) = _
    rw [if_neg (by omega), show (drF s 10).2.2 = (drF s 5).2.1 from dr_first s 5]
  have k0 := drF_ok s hs 5 (by omega)
  have k1 := drF_ok s hs 10 (by omega)
  have z0 := dr_size hs (i := 5) (by omega)
  have z1 := dr_size hs (i := 10) (by omega)
  have zm := mn_sub (F := (drF s 5).2.1) (T := (drF s 10).2.1) (fun j hj => dr_mono s j hj 5) 20 (Nat.le_refl _)
  rw [mn_20, mn_20, mn_20, z0, z1] at zm
  have hle : (drF s 10).2.1 &&& ((drF s 5).2.1 ^^^ 4294967295) ≤ (drF s 10).2.1 := Nat.and_le_left
  refine ⟨fun i hi => ?_, ?_⟩
  · rcases (show i = 0 ∨ i = 1 by omega) with q | q
    · rw [q, e0]
      exact ⟨by have := k0.2.1; omega, z0⟩
    · rw [q, e1]
      exact ⟨by have := k1.2.1; omega, by omega⟩
  · rw [e0, e1]
    apply Nat.eq_of_testBit_eq
    intro j
    rw [Nat.testBit_and, Nat.testBit_and, Nat.testBit_xor, Nat.zero_testBit]
    cases hF : (drF s 5).2.1.testBit j with
    | false => rfl
    | true =>
      have hj : j < 20 := by
        rcases Nat.lt_or_ge j 20 with q | q
        · exact q
        · rw [Nat.testBit_lt_two_pow (Nat.lt_of_lt_of_le k0.2.1 (Nat.pow_le_pow_right (by decide) q))] at hF
          cases hF
      rw [m32_bit j (by omega)]
      cases (drF s 10).2.1.testBit j <;> rfl
theorem dr_v {s : Nat} (hs : s < 65536) {n : Nat} {R : Nat → Nat → Nat} {hd : Nat → Nat} {pn : Nat} {pt : Nat → Nat} : fDraw (nI s) = nI (drH s 0) ∧ gDraw (n, R, hd, 0, cs0, false, pn, pt) (nI s) = (n, R, drH s, 0, cs0, false, pn, pt) := by
  have a : ¬ inI (nI s) 0 65535 = 0 := inI_ne (by omega) (by omega)
  unfold fDraw gDraw
  rw [if_neg a, if_neg a, tn_n (by omega)]
  exact ⟨rfl, rfl⟩
theorem alF_all {P : Nat → Bool} : ∀ f i, (∀ j, j < f → P (i + 2 * j) = true) → alF P f i = true
  | 0, _, _ => rfl
  | f + 1, i, h => by
    show (P i && alF P f (i + 2)) = true
    rw [show P i = true from h 0 (by omega), alF_all f (i + 2) (fun j hj => by rw [show i + 2 + 2 * j = i + 2 * (j + 1) by omega]; exact h (j + 1) (by omega))]
    rfl
/-- the true hands fit -/
theorem fa_true {n : Nat} {R : Nat → Nat → Nat} {hd : Nat → Nat} {k : Nat} {cs : Nat → Nat → Int32} {sk : Bool} (hf : ∀ i, i < k → rlF n R (hd (i % 2)) (cs i 2) (cs i 4) (cs i 3) = cs i 1) (hs : sk = true → rlF n R (hd (k % 2)) (cs k 2) (cs k 4) (cs k 3) = -6 ∧ ovB k cs false = false) {x : Nat} (hx : x < 2) : faB n R k cs sk x (hd x) = true := by
  unfold faB
  rw [alF_all ((k + 1 - x) / 2) x (fun j hj => by
    have := hf (x + 2 * j) (by omega)
    rw [show (x + 2 * j) % 2 = x by omega] at this
    exact decide_eq_true this)]
  cases e : sk with
  | false => rfl
  | true =>
    by_cases c : k % 2 = x
    · have := (hs e).1
      rw [c] at this
      rw [decide_eq_true this, Bool.or_true]
      rfl
    · rw [decide_eq_false c]
      rfl
theorem bw_1 {n : Nat} {R : Nat → Nat → Nat} {hd : Nat → Nat} {k : Nat} {cs : Nat → Nat → Int32} {pn : Nat} {pt : Nat → Nat} : fBack (n, R, hd, k, cs, true, pn, pt) = nI k ∧ gBack (n, R, hd, k, cs, true, pn, pt) = (n, R, hd, k, cs, false, pn, pt) := by
  have a : ¬ (k = 0 ∧ true = false) := fun q => by cases q.2
  exact ⟨if_neg a, if_neg a⟩
theorem bw_2 {n : Nat} {R : Nat → Nat → Nat} {hd : Nat → Nat} {k : Nat} {cs : Nat → Nat → Int32} {pn : Nat} {pt : Nat → Nat} (h : 0 < k) : fBack (n, R, hd, k, cs, false, pn, pt) = nI (k - 1) ∧ gBack (n, R, hd, k, cs, false, pn, pt) = (n, R, hd, k - 1, cs, false, pn, pt) := by
  have a : ¬ (k = 0 ∧ false = false) := fun q => by omega
  exact ⟨if_neg a, if_neg a⟩
theorem cg_back {k : Nat} {cs : Nat → Nat → Int32} {sk : Bool} {gc : Nat → Int32} (h : CG k cs sk gc) : CG (k - 1) cs false gc := ⟨by have := h.1; omega, fun i hi => h.2.1 i (by omega), fun q => by cases q⟩
theorem cp_swap {G : HG} {hp : HP} {a c : Nat} {b6 : Nat} {z : ST} (h : CP G hp [c, a] b6 z) : CP G hp [a, c] b6 z := cp_sub h (fun _ _ h => h) (fun q hq => by
  rcases List.mem_cons.mp hq with rfl | hq
  · exact List.mem_cons_of_mem _ List.mem_cons_self
  · rcases List.mem_cons.mp hq with rfl | hq
    · exact List.mem_cons_self
    · cases hq)
theorem cp_self {G : HG} {hp : HP} {b6 : Nat} {z : ST} (h : CZ G hp b6 z) : CP G hp [] b6 z := ⟨hp, h, fun _ _ h => h, fun q hq => by cases hq⟩
