/-! two hands drawn are hands -/
def ctF (t : Nat) : Nat → Nat → Nat
  | 0, _ => 0
  | f + 1, c => t / 2 ^ c % 2 + ctF t f (c + 1)
theorem ct_fr (t : Nat) : ∀ f c, frC t f c + ctF t f c = f
  | 0, _ => rfl
  | f + 1, c => by
    have ih := ct_fr t f (c + 1)
    unfold frC ctF
    by_cases b : t / 2 ^ c % 2 = 1
    · rw [if_pos b, b]; omega
    · rw [if_neg b, show t / 2 ^ c % 2 = 0 by omega]; omega
theorem ct_or {a b : Nat} (h : a &&& b = 0) : ∀ f c, ctF (a ||| b) f c = ctF a f c + ctF b f c
  | 0, _ => rfl
  | f + 1, c => by
    have ih := ct_or h f (c + 1)
    have e : ∀ x, x / 2 ^ c % 2 = (x.testBit c).toNat := fun x => (Nat.toNat_testBit x c).symm
    have k : (a &&& b).testBit c = false := by rw [h]; exact Nat.zero_testBit c
    rw [Nat.testBit_and] at k
    unfold ctF
    rw [ih, e, e, e, Nat.testBit_or]
    cases ha : a.testBit c <;> cases hb : b.testBit c <;> rw [ha, hb] at k <;> first | exact absurd k (by decide) | (simp <;> omega)
theorem pc5_p (x : Nat) : pc5 x = x / 2 ^ 0 % 2 + x / 2 ^ 1 % 2 + x / 2 ^ 2 % 2 + x / 2 ^ 3 % 2 + x / 2 ^ 4 % 2 := by
  unfold pc5
  rw [Nat.pow_zero, Nat.div_one]
theorem su_bit (t s j : Nat) (hj : j < 5) : t / 32 ^ s % 32 / 2 ^ j % 2 = t / 2 ^ (5 * s + j) % 2 := by
  rw [← Nat.toNat_testBit, ← Nat.toNat_testBit, show (32 : Nat) ^ s = 2 ^ (5 * s) by rw [Nat.pow_mul], show (32 : Nat) = 2 ^ 5 from rfl, Nat.testBit_mod_two_pow, decide_eq_true hj, Bool.true_and, Nat.testBit_div_two_pow, Nat.add_comm]
theorem ct_size (t : Nat) : ctF t 20 0 = sizeH t := by
  unfold sizeH lenH
  rw [pc5_p, pc5_p, pc5_p, pc5_p]
  unfold su
  have b0 : t / 32 ^ 0 % 32 / 2 ^ 0 % 2 = t / 2 ^ 0 % 2 := su_bit t 0 0 (by decide)
  have b1 : t / 32 ^ 0 % 32 / 2 ^ 1 % 2 = t / 2 ^ 1 % 2 := su_bit t 0 1 (by decide)
  have b2 : t / 32 ^ 0 % 32 / 2 ^ 2 % 2 = t / 2 ^ 2 % 2 := su_bit t 0 2 (by decide)
  have b3 : t / 32 ^ 0 % 32 / 2 ^ 3 % 2 = t / 2 ^ 3 % 2 := su_bit t 0 3 (by decide)
  have b4 : t / 32 ^ 0 % 32 / 2 ^ 4 % 2 = t / 2 ^ 4 % 2 := su_bit t 0 4 (by decide)
  have b5 : t / 32 ^ 1 % 32 / 2 ^ 0 % 2 = t / 2 ^ 5 % 2 := su_bit t 1 0 (by decide)
  have b6 : t / 32 ^ 1 % 32 / 2 ^ 1 % 2 = t / 2 ^ 6 % 2 := su_bit t 1 1 (by decide)
  have b7 : t / 32 ^ 1 % 32 / 2 ^ 2 % 2 = t / 2 ^ 7 % 2 := su_bit t 1 2 (by decide)
  have b8 : t / 32 ^ 1 % 32 / 2 ^ 3 % 2 = t / 2 ^ 8 % 2 := su_bit t 1 3 (by decide)
  have b9 : t / 32 ^ 1 % 32 / 2 ^ 4 % 2 = t / 2 ^ 9 % 2 := su_bit t 1 4 (by decide)
  have b10 : t / 32 ^ 2 % 32 / 2 ^ 0 % 2 = t / 2 ^ 10 % 2 := su_bit t 2 0 (by decide)
  have b11 : t / 32 ^ 2 % 32 / 2 ^ 1 % 2 = t / 2 ^ 11 % 2 := su_bit t 2 1 (by decide)
  have b12 : t / 32 ^ 2 % 32 / 2 ^ 2 % 2 = t / 2 ^ 12 % 2 := su_bit t 2 2 (by decide)
  have b13 : t / 32 ^ 2 % 32 / 2 ^ 3 % 2 = t / 2 ^ 13 % 2 := su_bit t 2 3 (by decide)
  have b14 : t / 32 ^ 2 % 32 / 2 ^ 4 % 2 = t / 2 ^ 14 % 2 := su_bit t 2 4 (by decide)
  have b15 : t / 32 ^ 3 % 32 / 2 ^ 0 % 2 = t / 2 ^ 15 % 2 := su_bit t 3 0 (by decide)
  have b16 : t / 32 ^ 3 % 32 / 2 ^ 1 % 2 = t / 2 ^ 16 % 2 := su_bit t 3 1 (by decide)
  have b17 : t / 32 ^ 3 % 32 / 2 ^ 2 % 2 = t / 2 ^ 17 % 2 := su_bit t 3 2 (by decide)
  have b18 : t / 32 ^ 3 % 32 / 2 ^ 3 % 2 = t / 2 ^ 18 % 2 := su_bit t 3 3 (by decide)
  have b19 : t / 32 ^ 3 % 32 / 2 ^ 4 % 2 = t / 2 ^ 19 % 2 := su_bit t 3 4 (by decide)
  have e0 : ctF t 20 0 = t / 2 ^ 0 % 2 + ctF t 19 1 := rfl
  have e1 : ctF t 19 1 = t / 2 ^ 1 % 2 + ctF t 18 2 := rfl
  have e2 : ctF t 18 2 = t / 2 ^ 2 % 2 + ctF t 17 3 := rfl
  have e3 : ctF t 17 3 = t / 2 ^ 3 % 2 + ctF t 16 4 := rfl
  have e4 : ctF t 16 4 = t / 2 ^ 4 % 2 + ctF t 15 5 := rfl
  have e5 : ctF t 15 5 = t / 2 ^ 5 % 2 + ctF t 14 6 := rfl
  have e6 : ctF t 14 6 = t / 2 ^ 6 % 2 + ctF t 13 7 := rfl
  have e7 : ctF t 13 7 = t / 2 ^ 7 % 2 + ctF t 12 8 := rfl
  have e8 : ctF t 12 8 = t / 2 ^ 8 % 2 + ctF t 11 9 := rfl
  have e9 : ctF t 11 9 = t / 2 ^ 9 % 2 + ctF t 10 10 := rfl
  have e10 : ctF t 10 10 = t / 2 ^ 10 % 2 + ctF t 9 11 := rfl
  have e11 : ctF t 9 11 = t / 2 ^ 11 % 2 + ctF t 8 12 := rfl
  have e12 : ctF t 8 12 = t / 2 ^ 12 % 2 + ctF t 7 13 := rfl
  have e13 : ctF t 7 13 = t / 2 ^ 13 % 2 + ctF t 6 14 := rfl
  have e14 : ctF t 6 14 = t / 2 ^ 14 % 2 + ctF t 5 15 := rfl
  have e15 : ctF t 5 15 = t / 2 ^ 15 % 2 + ctF t 4 16 := rfl
  have e16 : ctF t 4 16 = t / 2 ^ 16 % 2 + ctF t 3 17 := rfl
  have e17 : ctF t 3 17 = t / 2 ^ 17 % 2 + ctF t 2 18 := rfl
  have e18 : ctF t 2 18 = t / 2 ^ 18 % 2 + ctF t 1 19 := rfl
  have e19 : ctF t 1 19 = t / 2 ^ 19 % 2 + ctF t 0 20 := rfl
  have e20 : ctF t 0 20 = 0 := rfl
  rw [e0, e1, e2, e3, e4, e5, e6, e7, e8, e9, e10, e11, e12, e13, e14, e15, e16, e17, e18, e19, e20]
  rw [b0]
  rw [b1]
  rw [b2]
  rw [b3]
  rw [b4]
  rw [b5]
  rw [b6]
  rw [b7]
  rw [b8]
  rw [b9]
  rw [b10]
  rw [b11]
  rw [b12]
  rw [b13]
  rw [b14]
  rw [b15]
  rw [b16]
  rw [b17]
  rw [b18]
  rw [b19]
  simp only [Nat.add_assoc, Nat.add_zero]
theorem sp_ok {t f D : Nat} (h : t = f ||| D) (ht : t < 2 ^ 32) : f &&& (t &&& (f ^^^ 4294967295)) = 0 ∧ f ||| (t &&& (f ^^^ 4294967295)) = t := by
  have hb : ∀ i, t.testBit i = (f.testBit i || D.testBit i) := fun i => by rw [h, Nat.testBit_or]
  have hl : ∀ i, t.testBit i = true → i < 32 := fun i q => by
    apply Nat.lt_of_not_le
    intro z
    have := Nat.testBit_lt_two_pow (Nat.lt_of_lt_of_le ht (Nat.pow_le_pow_right (by decide) z))
    rw [this] at q
    cases q
  have hm : ∀ i, (4294967295 : Nat).testBit i = decide (i < 32) := fun i => Nat.testBit_two_pow_sub_one 32 i
  constructor
  · apply Nat.eq_of_testBit_eq
    intro i
    rw [Nat.testBit_and, Nat.testBit_and, Nat.testBit_xor, hm, Nat.zero_testBit]
    cases hf : f.testBit i with
    | false => rfl
    | true =>
      have h2 := hb i
      rw [hf, Bool.true_or] at h2
      rw [h2, decide_eq_true (hl i h2)]; rfl
  · apply Nat.eq_of_testBit_eq
    intro i
    rw [Nat.testBit_or, Nat.testBit_and, Nat.testBit_xor, hm]
    cases hf : f.testBit i with
    | true =>
      have h2 := hb i
      rw [hf, Bool.true_or] at h2
      rw [h2]; rfl
    | false =>
      cases ht2 : t.testBit i with
      | false => rfl
      | true => rw [decide_eq_true (hl i ht2)]; rfl
theorem dr_sub (s : Nat) (i : Nat) : ∀ d, ∃ D, (drF s (i + d)).2.1 = (drF s i).2.1 ||| D
  | 0 => ⟨0, (Nat.or_zero _).symm⟩
  | d + 1 => by
    obtain ⟨D, h⟩ := dr_sub s i d
    refine ⟨D ||| 2 ^ clF (drF s (i + d)).2.1 20 (((drF s (i + d)).1 * 1103 + 12345) % 65536 % (20 - (i + d))) 0, ?_⟩
    rw [← Nat.or_assoc, ← h]; rfl
theorem dr_fst (s : Nat) : ∀ d, (drF s (5 + d)).2.2 = (drF s 5).2.1
  | 0 => rfl
  | d + 1 => by
    have ih := dr_fst s d
    show (if 5 + d = 4 then _ else (drF s (5 + d)).2.2) = _
    rw [if_neg (by omega), ih]
theorem dr_hands {s : Nat} (hs : s < 65536) : ((drF s 10).2.2 + drH s 1 = (drF s 10).2.1) ∧ ∀ i, i < 2 → drH s i ≤ 1048575 ∧ strH (drH s i) ≤ 20 := by
  have k5 := drF_ok s hs 5 (by decide)
  have k10 := drF_ok s hs 10 (by decide)
  have hf : (drF s 10).2.2 = (drF s 5).2.1 := dr_fst s 5
  obtain ⟨D, hD⟩ := dr_sub s 5 5
  have hD2 : (drF s 10).2.1 = (drF s 10).2.2 ||| D := by rw [hf]; exact hD
  obtain ⟨e1, e2⟩ := sp_ok hD2 (Nat.lt_trans k10.2.1 (by decide))
  have hh : (drF s 10).2.1 &&& ((drF s 10).2.2 ^^^ 4294967295) = drH s 1 := rfl
  rw [hh] at e1 e2
  have a1 := or_add 20 _ _ (show (drF s 10).2.2 < 2 ^ 20 from k10.2.2.1) e1
  have s1 := ct_or e1 20 0
  rw [e2, ct_size, ct_size, ct_size] at s1
  have c5 := ct_fr (drF s 5).2.1 20 0
  have c10 := ct_fr (drF s 10).2.1 20 0
  rw [ct_size, k5.2.2.2] at c5
  rw [ct_size, k10.2.2.2] at c10
  rw [← hf] at c5
  have h0 : drH s 0 = (drF s 10).2.2 := rfl
  have t0 := str_size (drF s 10).2.2
  have t1 := str_size (drH s 1)
  refine ⟨by omega, fun i hi => ?_⟩
  rcases (show i = 0 ∨ i = 1 by omega) with rfl | rfl
  · rw [h0]; omega
  · omega
theorem cz_ob {G : HG} {hp hp1 : HP} {b6 rl au pa e0 e1 eR cR : Nat} {mR : Int32} {gR : Nat → Option Nat} {RA : Nat → Nat} {al p0 pw eA cA : Nat} {mA : Int32} {gA : Nat → Option Nat} {CA QA : Nat → Nat} {vb cv : Nat} {ml : Bool} {fb : Nat → Int32} {n : Nat} {R : Nat → Nat → Nat} {hd hd1 : Nat → Nat} {k : Nat} {cs : Nat → Nat → Int32} {sk : Bool} {pn : Nat} {pt : Nat → Nat} {e2 e3 : Nat} (h : CC G hp b6 rl au pa e0 e1 eR cR mR gR RA al p0 pw eA cA mA gA CA QA vb cv ml fb (n, R, hd, k, cs, sk, pn, pt)) (eh : hp1 = va_up hp b6 (some (obE rl au pa e2 e3))) (hv : (hd1 0 = e2 ∧ hd1 1 = e3) ∧ ∀ i, i < 2 → hd1 i ≤ 1048575 ∧ strH (hd1 i) ≤ 20) : CC G hp1 b6 rl au pa e2 e3 eR cR mR gR RA al p0 pw eA cA mA gA CA QA vb cv ml fb (n, R, hd1, k, cs, sk, pn, pt) := by
  obtain ⟨hb6, hU6, hU9, hSB, hHD, hDJ, huq⟩ := h
  have hk : ∀ q e, hp q = some e → q ≠ b6 → hp1 q = some e := fun q e h0 hq => by rw [eh, va_up_ne _ _ hq]; exact h0
  have nb : ∀ q e, hp q = some e → (∀ vs, e ≠ .inr (7, vs)) → hp1 q = some e := fun q e h0 hq => hk q e h0 (ne_look h0 hb6 (by unfold obE; exact hq _))
  exact ⟨by rw [eh, va_up_self], hU6.fr (fun e he => hk _ _ he (ne_look hU6.1 hb6 (by simp [alE, obE]))) (fun c e he => hk _ _ he (ne_look (hU6.2.1.1 c) hb6 (by simp [obE]))) (fun i hi e he => hk _ _ he (ne_look (hU6.2.2.2.2.2.1 i hi).2 hb6 (by simp [rcE, obE]))), hU9.fr (x9 := b6) (fun q e h0 h7 _ _ => nb q e h0 h7) hb6 (Or.inl rfl), hSB.fr (fun e he => hk _ _ he (ne_look hSB.1 hb6 (by simp [obE]))) (fun e he => hk _ _ he (ne_look hSB.2.1 hb6 (by simp [obE]))), hv, hDJ, huq⟩
