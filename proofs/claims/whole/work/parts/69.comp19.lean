/-! two hands drawn are hands -/
def ctF (t : Nat) : Nat → Nat → Nat
  | 0, _ => 0
  | f + 1, c => t / 2 ^ c % 2 + ctF t f (c + 1)
theorem ct_fr (t : Nat) : ∀ f c, frC t f c + ctF t f c = f
  | 0, _ => rfl
  | f + 1, c => by
    have ih := ct_fr t f (c + 1)
    unfold frC ctF
    by_cases b : t / 2 ^ c % 2 = 1
    · rw [if_pos b, b]; omega
    · rw [if_neg b, show t / 2 ^ c % 2 = 0 by omega]; omega
theorem ct_or {a b : Nat} (h : a &&& b = 0) : ∀ f c, ctF (a ||| b) f c = ctF a f c + ctF b f c
  | 0, _ => rfl
  | f + 1, c => by
    have ih := ct_or h f (c + 1)
    have e : ∀ x, x / 2 ^ c % 2 = (x.testBit c).toNat := fun x => (Nat.toNat_testBit x c).symm
    have k : (a &&& b).testBit c = false := by rw [h]; exact Nat.zero_testBit c
    rw [Nat.testBit_and] at k
    unfold ctF
    rw [ih, e, e, e, Nat.testBit_or]
    cases ha : a.testBit c <;> cases hb : b.testBit c <;> rw [ha, hb] at k <;> first | exact absurd k (by decide) | (simp <;> omega)
theorem pc5_p (x : Nat) : pc5 x = x / 2 ^ 0 % 2 + x / 2 ^ 1 % 2 + x / 2 ^ 2 % 2 + x / 2 ^ 3 % 2 + x / 2 ^ 4 % 2 := by
  unfold pc5
  rw [Nat.pow_zero, Nat.div_one]
theorem su_bit (t s j : Nat) (hj : j < 5) : t / 32 ^ s % 32 / 2 ^ j % 2 = t / 2 ^ (5 * s + j) % 2 := by
  rw [← Nat.toNat_testBit, ← Nat.toNat_testBit, show (32 : Nat) ^ s = 2 ^ (5 * s) by rw [Nat.pow_mul], show (32 : Nat) = 2 ^ 5 from rfl, Nat.testBit_mod_two_pow, decide_eq_true hj, Bool.true_and, Nat.testBit_div_two_pow, Nat.add_comm]
theorem ct_size (t : Nat) : ctF t 20 0 = sizeH t := by
  unfold sizeH lenH
  rw [pc5_p, pc5_p, pc5_p, pc5_p]
  unfold su
  have b0 : t / 32 ^ 0 % 32 / 2 ^ 0 % 2 = t / 2 ^ 0 % 2 := su_bit t 0 0 (by decide)
  have b1 : t / 32 ^ 0 % 32 / 2 ^ 1 % 2 = t / 2 ^ 1 % 2 := su_bit t 0 1 (by decide)
  have b2 : t / 32 ^ 0 % 32 / 2 ^ 2 % 2 = t / 2 ^ 2 % 2 := su_bit t 0 2 (by decide)
  have b3 : t / 32 ^ 0 % 32 / 2 ^ 3 % 2 = t / 2 ^ 3 % 2 := su_bit t 0 3 (by decide)
  have b4 : t / 32 ^ 0 % 32 / 2 ^ 4 % 2 = t / 2 ^ 4 % 2 := su_bit t 0 4 (by decide)
  have b5 : t / 32 ^ 1 % 32 / 2 ^ 0 % 2 = t / 2 ^ 5 % 2 := su_bit t 1 0 (by decide)
  have b6 : t / 32 ^ 1 % 32 / 2 ^ 1 % 2 = t / 2 ^ 6 % 2 := su_bit t 1 1 (by decide)
  have b7 : t / 32 ^ 1 % 32 / 2 ^ 2 % 2 = t / 2 ^ 7 % 2 := su_bit t 1 2 (by decide)
  have b8 : t / 32 ^ 1 % 32 / 2 ^ 3 % 2 = t / 2 ^ 8 % 2 := su_bit t 1 3 (by decide)
  have b9 : t / 32 ^ 1 % 32 / 2 ^ 4 % 2 = t / 2 ^ 9 % 2 := su_bit t 1 4 (by decide)
  have b10 : t / 32 ^ 2 % 32 / 2 ^ 0 % 2 = t / 2 ^ 10 % 2 := su_bit t 2 0 (by decide)
  have b11 : t / 32 ^ 2 % 32 / 2 ^ 1 % 2 = t / 2 ^ 11 % 2 := su_bit t 2 1 (by decide)
  have b12 : t / 32 ^ 2 % 32 / 2 ^ 2 % 2 = t / 2 ^ 12 % 2 := su_bit t 2 2 (by decide)
  have b13 : t / 32 ^ 2 % 32 / 2 ^ 3 % 2 = t / 2 ^ 13 % 2 := su_bit t 2 3 (by decide)
  have b14 : t / 32 ^ 2 % 32 / 2 ^ 4 % 2 = t / 2 ^ 14 % 2 := su_bit t 2 4 (by decide)
  have b15 : t / 32 ^ 3 % 32 / 2 ^ 0 % 2 = t / 2 ^ 15 % 2 := su_bit t 3 0 (by decide)
  have b16 : t / 32 ^ 3 % 32 / 2 ^ 1 % 2 = t / 2 ^ 16 % 2 := su_bit t 3 1 (by decide)
  have b17 : t / 32 ^ 3 % 32 / 2 ^ 2 % 2 = t / 2 ^ 17 % 2 := su_bit t 3 2 (by decide)
  have b18 : t / 32 ^ 3 % 32 / 2 ^ 3 % 2 = t / 2 ^ 18 % 2 := su_bit t 3 3 (by decide)
  have b19 : t / 32 ^ 3 % 32 / 2 ^ 4 % 2 = t / 2 ^ 19 % 2 := su_bit t 3 4 (by decide)
  have e0 : ctF t 20 0 = t / 2 ^ 0 % 2 + ctF t 19 1 := rfl
  have e1 : ctF t 19 1 = t / 2 ^ 1 % 2 + ctF t 18 2 := rfl
  have e2 : ctF t 18 2 = t / 2 ^ 2 % 2 + ctF t 17 3 := rfl
  have e3 : ctF t 17 3 = t / 2 ^ 3 % 2 + ctF t 16 4 := rfl
  have e4 : ctF t 16 4 = t / 2 ^ 4 % 2 + ctF t 15 5 := rfl
  have e5 : ctF t 15 5 = t / 2 ^ 5 % 2 + ctF t 14 6 := rfl
  have e6 : ctF t 14 6 = t / 2 ^ 6 % 2 + ctF t 13 7 := rfl
  have e7 : ctF t 13 7 = t / 2 ^ 7 % 2 + ctF t 12 8 := rfl
  have e8 : ctF t 12 8 = t / 2 ^ 8 % 2 + ctF t 11 9 := rfl
  have e9 : ctF t 11 9 = t / 2 ^ 9 % 2 + ctF t 10 10 := rfl
  have e10 : ctF t 10 10 = t / 2 ^ 10 % 2 + ctF t 9 11 := rfl
  have e11 : ctF t 9 11 = t / 2 ^ 11 % 2 + ctF t 8 12 := rfl
  have e12 : ctF t 8 12 = t / 2 ^ 12 % 2 + ctF t 7 13 := rfl
  have e13 : ctF t 7 13 = t / 2 ^ 13 % 2 + ctF t 6 14 := rfl
  have e14 : ctF t 6 14 = t / 2 ^ 14 % 2 + ctF t 5 15 := rfl
  have e15 : ctF t 5 15 = t / 2 ^ 15 % 2 + ctF t 4 16 := rfl
  have e16 : ctF t 4 16 = t / 2 ^ 16 % 2 + ctF t 3 17 := rfl
  have e17 : ctF t 3 17 = t / 2 ^ 17 % 2 + ctF t 2 18 := rfl
  have e18 : ctF t 2 18 = t / 2 ^ 18 % 2 + ctF t 1 19 := rfl
  have e19 : ctF t 1 19 = t / 2 ^ 19 % 2 + ctF t 0 20 := rfl
  have e20 : ctF t 0 20 = 0 := rfl
  rw [e0, e1, e2, e3, e4, e5, e6, e7, e8, e9, e10, e11, e12, e13, e14, e15, e16, e17, e18, e19, e20]
  rw [b0]
  rw [b1]
  rw [b2]
  rw [b3]
  rw [b4]
  rw [b5]
  rw [b6]
  rw [b7]
  rw [b8]
  rw [b9]
  rw [b10]
  rw [b11]
  rw [b12]
  rw [b13]
  rw [b14]
  rw [b15]
  rw [b16]
  rw [b17]
  rw [b18]
  rw [b19]
  simp only [Nat.add_assoc, Nat.add_zero]
theorem sp_ok {t f D : Nat} (h : t = f ||| D) (ht : t < 2 ^ 32) : f &&& (t &&& (f ^^^ 4294967295)) = 0 ∧ f ||| (t &&& (f ^^^ 4294967295)) = t := by
  have hb : ∀ i, t.testBit i = (f.testBit i || D.testBit i) := fun i => by rw [h, Nat.testBit_or]
  have hl : ∀ i, t.testBit i = true → i < 32 := fun i q => by
    apply Nat.lt_of_not_le
    intro z
    have := Nat.testBit_lt_two_pow (Nat.lt_of_lt_of_le ht (Nat.pow_le_pow_right (by decide) z))
    rw [this] at q
    cases q
  have hm : ∀ i, (4294967295 : Nat).testBit i = decide (i < 32) := fun i => Nat.testBit_two_pow_sub_one 32 i
  constructor
  · apply Nat.eq_of_testBit_eq
    intro i
    rw [Nat.testBit_and, Nat.testBit_and, Nat.testBit_xor, hm, Nat.zero_testBit]
    cases hf : f.testBit i with
    | false => rfl
    | true =>
      have h2 := hb i
      rw [hf, Bool.true_or] at h2
      rw [h2, decide_eq_true (hl i h2)]; rfl
  · apply Nat.eq_of_testBit_eq
    intro i
    rw [Nat.testBit_or, Nat.testBit_and, Nat.testBit_xor, hm]
    cases hf : f.testBit i with
    | true =>
      have h2 := hb i
      rw [hf, Bool.true_or] at h2
      rw [h2]; rfl
    | false =>
      cases ht2 : t.testBit i with
      | false => rfl
      | true => rw [decide_eq_true (hl i ht2)]; rfl
theorem dr_sub (s : Nat) (i : Nat) : ∀ d, ∃ D, (drF s (i + d)).2.1 = (drF s i).2.1 ||| D
  | 0 => ⟨0, (Nat.or_zero _).symm⟩
  | d + 1 => by
    obtain ⟨D, h⟩ := dr_sub s i d
    refine ⟨D ||| 2 ^ clF (drF s (i + d)).2.1 20 (((drF s (i + d)).1 * 1103 + 12345) % 65536 % (20 - (i + d))) 0, ?_⟩
    rw [← Nat.or_assoc, ← h]; rfl
theorem dr_fst (s : Nat) : ∀ d, (drF s (5 + d)).2.2 = (drF s 5).2.1
  | 0 => rfl
  | d + 1 => by
    have ih := dr_fst s d
    show (if 5 + d = 4 then _ else (drF s (5 + d)).2.2) = _
    rw [if_neg (by omega), ih]
theorem dr_hands {s : Nat} (hs : s < 65536) : ((drF s 10).2.2 + drH s 1 = (drF s 10).2.1) ∧ ∀ i, i < 2 → drH s i ≤ 1048575 ∧ strH (drH s i) ≤ 20 := by
  have k5 := drF_ok s hs 5 (by decide)
  have k10 := drF_ok s hs 10 (by decide)
  have hf : (drF s 10).2.2 = (drF s 5).2.1 := dr_fst s 5
  obtain ⟨D, hD⟩ := dr_sub s 5 5
  have hD2 : (drF s 10).2.1 = (drF s 10).2.2 ||| D := by rw [hf]; exact hD
  obtain ⟨e1, e2⟩ := sp_ok hD2 (Nat.lt_trans k10.2.1 (by decide))
  have hh : (drF s 10).2.1 &&& ((drF s 10).2.2 ^^^ 4294967295) = drH s 1 := rfl
  rw [hh] at e1 e2
  have a1 := or_add 20 _ _ (show (drF s 10).2.2 < 2 ^ 20 from k10.2.2.1) e1
  have s1 := ct_or e1 20 0
  rw [e2, ct_size, ct_size, ct_size] at s1
  have c5 := ct_fr (drF s 5).2.1 20 0
  have c10 := ct_fr (drF s 10).2.1 20 0
  rw [ct_size, k5.2.2.2] at c5
  rw [ct_size, k10.2.2.2] at c10
  rw [← hf] at c5
  have h0 : drH s 0 = (drF s 10).2.2 := rfl
  have t0 := str_size (drF s 10).2.2
  have t1 := str_size (drH s 1)
  refine ⟨by omega, fun i hi => ?_⟩
  rcases (show i = 0 ∨ i = 1 by omega) with rfl | rfl
  · rw [h0]; omega
  · omega
theorem cz_ob {G : HG} {hp hp1 : HP} {b6 rl au pa e0 e1 eR cR : Nat} {mR : Int32} {gR : Nat → Option Nat} {RA : Nat → Nat} {al p0 pw eA cA : Nat} {mA : Int32} {gA : Nat → Option Nat} {CA QA : Nat → Nat} {vb cv : Nat} {ml : Bool} {fb : Nat → Int32} {n : Nat} {R : Nat → Nat → Nat} {hd hd1 : Nat → Nat} {k : Nat} {cs : Nat → Nat → Int32} {sk : Bool} {pn : Nat} {pt : Nat → Nat} {e2 e3 : Nat} (h : CC G hp b6 rl au pa e0 e1 eR cR mR gR RA al p0 pw eA cA mA gA CA QA vb cv ml fb (n, R, hd, k, cs, sk, pn, pt)) (eh : hp1 = va_up hp b6 (some (obE rl au pa e2 e3))) (hv : (hd1 0 = e2 ∧ hd1 1 = e3) ∧ ∀ i, i < 2 → hd1 i ≤ 1048575 ∧ strH (hd1 i) ≤ 20) : CC G hp1 b6 rl au pa e2 e3 eR cR mR gR RA al p0 pw eA cA mA gA CA QA vb cv ml fb (n, R, hd1, k, cs, sk, pn, pt) := by
  obtain ⟨hb6, hU6, hU9, hSB, hHD, hDJ, huq⟩ := h
  have hk : ∀ q e, hp q = some e → q ≠ b6 → hp1 q = some e := fun q e h0 hq => by rw [eh, va_up_ne _ _ hq]; exact h0
  have nb : ∀ q e, hp q = some e → (∀ vs, e ≠ .inr (7, vs)) → hp1 q = some e := fun q e h0 hq => hk q e h0 (ne_look h0 hb6 (by unfold obE; exact hq _))
  exact ⟨by rw [eh, va_up_self], hU6.fr (fun e he => hk _ _ he (ne_look hU6.1 hb6 (by simp [alE, obE]))) (fun c e he => hk _ _ he (ne_look (hU6.2.1.1 c) hb6 (by simp [obE]))) (fun i hi e he => hk _ _ he (ne_look (hU6.2.2.2.2.2.1 i hi).2 hb6 (by simp [rcE, obE]))), hU9.fr (x9 := b6) (fun q e h0 h7 _ _ => nb q e h0 h7) hb6 (Or.inl rfl), hSB.fr (fun e he => hk _ _ he (ne_look hSB.1 hb6 (by simp [obE]))) (fun e he => hk _ _ he (ne_look hSB.2.1 hb6 (by simp [obE]))), hv, hDJ, huq⟩
set_option maxHeartbeats 4000000 in
set_option maxRecDepth 100000 in
theorem c_X6_give (l : Launch) (G : HG) (A : Nat → Prop) (hp : HP) (sz : Nat) (hA : ∀ q, sz ≤ q → A q) (hO : Ow A hp) (b6 : Nat) (n : Nat) (R : Nat → Nat → Nat) (hd : Nat → Nat) (k : Nat) (cs : Nat → Nat → Int32) (sk : Bool) (pn : Nat) (pt : Nat → Nat) (hz : CZ G hp b6 (n, R, hd, k, cs, sk, pn, pt)) (a b : Int32) : Met l yX6_give [.code yX6_give cX6_give 4 (some .int)] { frames := 2, cells := 0, slots := 0, locals := 43 } (va_Pc [.ref b6, .int a, .int b] (WP G A sz hp)) (va_Qi (fun r hp1 => r = fGive (n, R, hd, k, cs, sk, pn, pt) a b ∧ CZ G hp1 b6 (gGive (n, R, hd, k, cs, sk, pn, pt) a b)) (WB G A) A) 0 0 A := by
  refine wr_ofW (by decide) (Nat.le_of_ble_eq_true rfl) hO ?_
  intro p e s m args below meth c ls X hr hlk hnm hsz hW hl
  have hA : ∀ q, s.heap.size ≤ q → A q := fun q h => hA q (by omega)
  have hl : lv_has ls 4 [(0, .ref b6), (1, .int a), (2, .int b)] := hl
  obtain ⟨rl, au, pa, e0, e1, eR, cR, mR, gR, RA, al, p0, pw, eA, cA, mA, gA, CA, QA, vb, cv, ml, fb, hb6, hU6, hU9, hSB, hHD, hDJ, huq⟩ := hz
  have hCC : CC G hp b6 rl au pa e0 e1 eR cR mR gR RA al p0 pw eA cA mA gA CA QA vb cv ml fb (n, R, hd, k, cs, sk, pn, pt) := ⟨hb6, hU6, hU9, hSB, hHD, hDJ, huq⟩
  replace hb6 : hp b6 = some (obE rl au pa e0 e1) := hb6
  replace hU6 : RU G hp rl eR cR mR gR RA n R := hU6
  replace hU9 : AU G hp au al p0 pw eA cA mA gA CA QA k cs sk := hU9
  replace hSB : SBp G hp pa vb cv ml fb pn pt := hSB
  have hn : n ≤ 24 := hU6.2.2.1
  have hk : k ≤ 12 := hU9.2.2.2.1
  have hpn := hSB.2.2.1
  have hd0 : hd 0 = e0 := hHD.1.1
  have hd1 : hd 1 = e1 := hHD.1.2
  have hhd : ∀ i, i < 2 → hd i ≤ 1048575 ∧ strH (hd i) ≤ 20 := hHD.2
  have g_1 : hp b6 = some (.inr (7, [.ref rl, .ref au, .ref pa, .int (nI e0), .int (nI e1)])) := hb6
  have g_2 : hp rl = some (.inr (1, [.int mR, .ref eR, .int (nI n)])) := hU6.1
  have g_3 : hp au = some (.inr (2, [.ref al, .ref p0, .ref pw, .int (bI sk)])) := hU9.1
  have g_4 : hp al = some (.inr (1, [.int mA, .ref eA, .int (nI k)])) := hU9.2.1
  have g_5 : hp pw = some (.inr (4, [.int (cs k 2), .int (cs k 4), .int (cs k 3)])) := hU9.2.2.2.2.2.2.2.1
  have g_6 : hp pa = some (.inr (0, [.ref vb, .int 0, .int (bI ml), .int (nI pn)])) := hSB.1
  have g_7 : hp vb = some (.inl (G.2.1 0, cv, .inl fb)) := hSB.2.1
  have hau0 := g_3
  refine lv_iload_n X.1 X.2.1 dX6_give_0 rfl (lv_at hl 1 rfl) ?_
  refine on_Si (run_S (As := [.int a]) (rest := []) X (c_X6_isPartner l G hp a) (rp_blind _) (rp_at X hW.1 hW.2.2) mf_X6_isPartner tw_426 tw_427 ⟨rfl, rfl, Nat.le_of_ble_eq_true rfl, Nat.le_of_ble_eq_true rfl⟩ hl.1 rfl rfl (Nat.le_of_ble_eq_true rfl) ⟨Nat.le_of_ble_eq_true rfl, Nat.le_of_ble_eq_true rfl⟩ dX6_give_1) (fun r_1 q_1 => ?_)
  obtain rfl : r_1 = (inI a 0 1) := q_1
  refine lv_if_ne (tgt := 9) X.1 X.2.1 dX6_give_4 (by decide) (fun c_4 => ?_) (fun c_4 => ?_)
  · obtain ⟨xa, hxa, rfl⟩ := inI_nat (hi := 1) c_4 (by decide)
    refine lv_iload_n X.1 X.2.1 dX6_give_9 rfl (lv_at hl 2 rfl) ?_
    refine on_Si (run_S (As := [.int b]) (rest := []) X (c_X1_isHand l G hp b) (rp_blind _) (rp_at X hW.1 hW.2.2) mf_X1_isHand tw_429 tw_430 ⟨rfl, rfl, Nat.le_of_ble_eq_true rfl, Nat.le_of_ble_eq_true rfl⟩ hl.1 rfl rfl (Nat.le_of_ble_eq_true rfl) ⟨Nat.le_of_ble_eq_true rfl, Nat.le_of_ble_eq_true rfl⟩ dX6_give_10) (fun r_10 q_10 => ?_)
    obtain rfl : r_10 = (bI (handB b)) := q_10
    refine lv_if_ne (tgt := 19) X.1 X.2.1 dX6_give_13 (by decide) (fun c_13 => ?_) (fun c_13 => ?_)
    · have g13 := bI_1 c_13
      obtain ⟨xb, hxb, rfl, hzxb⟩ := handB_of g13
      have hst : strH xb ≤ 20 := by have := str_size xb; omega
      have nh : ¬ handB (nI xb) = false := fun q => Bool.false_ne_true (q.symm.trans g13)
      have hhx := hhd (1 - xa) (by omega)
      refine lv_iload_n X.1 X.2.1 dX6_give_19 rfl (lv_at hl 2 rfl) ?_
      refine lv_aload_n X.1 X.2.1 dX6_give_20 rfl (lv_at hl 0 rfl) ?_
      refine lv_iconst (v := 1) X.1 X.2.1 dX6_give_21 (by decide) ?_
      refine lv_iload_n X.1 X.2.1 dX6_give_22 rfl (lv_at hl 1 rfl) ?_
      refine lv_isub X.1 X.2.1 dX6_give_23 ?_
      refine r_eqi (show (((1 : Int32) - (nI xa)) : Int32) = nI (1 - xa) from pk_sub (a := 1) (b := xa) (by omega)) ?_
      refine on_Si (run_V (C := RX6) (As := [.int (nI (1 - xa))]) (rest := [.int (nI xb)]) X (c_X6_handOf l G hp b6 rl au pa e0 e1 g_1 (1 - xa) (by omega)) (rp_blind _) (rp_at X hW.1 hW.2.2) (recv X hW.1 g_1 (C := RX6) (T := TX6) (N := 5) rfl) mf_X6_handOf tw_436 tw_438 tw_8 ⟨rfl, rfl, Nat.le_of_ble_eq_true rfl, Nat.le_of_ble_eq_true rfl⟩ hl.1 rfl rfl (Nat.le_of_ble_eq_true rfl) ⟨Nat.le_of_ble_eq_true rfl, Nat.le_of_ble_eq_true rfl⟩ dX6_give_24) (fun r_24 q_24 => ?_)
      obtain rfl : r_24 = nI (hd (1 - xa)) := q_24.trans (congrArg nI (hd_of hd0 hd1 (by omega)))
      refine lv_iand X.1 X.2.1 dX6_give_27 ?_
      refine r_eqi (show (((nI xb) &&& (nI (hd (1 - xa)))) : Int32) = nI (xb &&& (hd (1 - xa))) from n_and xb (hd (1 - xa))) ?_
      have hab : xb &&& hd (1 - xa) ≤ xb := Nat.and_le_left
      refine lv_if_eq (tgt := 34) X.1 X.2.1 dX6_give_28 (by decide) (fun c_28 => ?_) (fun c_28 => ?_)
      · have k_28 := k_eq (a := (xb &&& (hd (1 - xa)))) (b := 0) (by omega) (by omega) c_28
        refine lv_aload_n X.1 X.2.1 dX6_give_34 rfl (lv_at hl 0 rfl) ?_
        refine lv_iload_n X.1 X.2.1 dX6_give_35 rfl (lv_at hl 1 rfl) ?_
        refine on_Si (run_V (C := RX6) (As := [.int (nI xa)]) (rest := []) X (c_X6_handOf l G hp b6 rl au pa e0 e1 g_1 xa (by omega)) (rp_blind _) (rp_at X hW.1 hW.2.2) (recv X hW.1 g_1 (C := RX6) (T := TX6) (N := 5) rfl) mf_X6_handOf tw_436 tw_438 tw_8 ⟨rfl, rfl, Nat.le_of_ble_eq_true rfl, Nat.le_of_ble_eq_true rfl⟩ hl.1 rfl rfl (Nat.le_of_ble_eq_true rfl) ⟨Nat.le_of_ble_eq_true rfl, Nat.le_of_ble_eq_true rfl⟩ dX6_give_36) (fun r_36 q_36 => ?_)
        obtain rfl : r_36 = nI (hd xa) := q_36.trans (congrArg nI (hd_of hd0 hd1 (by omega)))
        refine lv_istore_n (lv' := [(3, .int (nI (hd xa))), (0, .ref b6), (1, .int (nI xa)), (2, .int (nI xb))]) X.1 X.2.1 dX6_give_39 rfl hl (by decide) rfl (fun ls hl => ?_)
        refine lv_iload_n X.1 X.2.1 dX6_give_40 rfl (lv_at hl 2 rfl) ?_
        refine lv_if_ne (tgt := 52) X.1 X.2.1 dX6_give_41 (by decide) (fun c_41 => ?_) (fun c_41 => ?_)
        · have k_41 := k_ne (a := xa) (b := 0) (by omega) (by omega) c_41
          refine lv_aload_n X.1 X.2.1 dX6_give_52 rfl (lv_at hl 1 rfl) ?_
          refine lv_iload_n X.1 X.2.1 dX6_give_53 rfl (lv_at hl 3 rfl) ?_
          refine r_put X hW g_1 (v := .int (nI xb)) (C := RX6) (T := TX6) (N := 5) rfl tin_X6 tyX6_ok nmX6 4 (Nat.le_of_ble_eq_true rfl) tw_196 (fun _ h => h) rfl rfl rfl (Nat.le_of_ble_eq_true rfl) dX6_give_54 (fun hp_8 H locs hW eh_9 => ?_)
          have f_10 : hp_8 b6 = some (.inr (7, [.ref rl, .ref au, .ref pa, .int (nI e0), .int (nI xb)])) := by rw [eh_9]; exact va_up_self _ _ _
          have hC1 := cz_ob (hd1 := fun i => if i = xa then xb else hd i) (e2 := e0) (e3 := xb) hCC eh_9 ⟨⟨(if_neg (by omega)).trans hd0, if_pos (by omega)⟩, fun i hi => by show (if i = xa then xb else hd i) ≤ 1048575 ∧ strH (if i = xa then xb else hd i) ≤ 20; split; exact ⟨hxb, hst⟩; exact hhd i hi⟩
          refine lv_aload_n X.1 X.2.1 dX6_give_57 rfl (lv_at hl 1 rfl) ?_
          refine r_get X hW.1 f_10 (v := .ref au) (C := RX6) (T := TX6) (N := 5) rfl tin_X6 1 (by decide) tw_193 (fun _ h => h) rfl dX6_give_58 ?_
          have f_11 : hp_8 au = some (.inr (2, [.ref al, .ref p0, .ref pw, .int (bI sk)])) := by rw [eh_9, va_up_ne _ _ (ne_look g_3 g_1 (by simp))]; exact g_3
          refine on_Wv (k' := 0) (n' := 0) (run_V (C := RX0) (As := []) (rest := []) X (c_X0_restart l G A hp_8 _ (fun q h => hA q (Nat.le_trans hW.2.2.1 h)) hW.2.1 au al p0 pw eA cA mA gA CA QA k cs sk hC1.2.2.1) (wp_blind _) (wp_at X hW.1 hW.2.2) (recv X hW.1 f_11 (C := RX0) (T := TX0) (N := 4) rfl) mf_X0_restart tw_334 tw_335 tw_336 ⟨rfl, rfl, Nat.le_of_ble_eq_true rfl, Nat.le_of_ble_eq_true rfl⟩ hl.1 rfl rfl (Nat.le_of_ble_eq_true rfl) ⟨Nat.le_of_ble_eq_true rfl, Nat.le_of_ble_eq_true rfl⟩ dX6_give_61) hW (by omega) (by omega) (fun hp_12 H locs q_61 hW => ?_)
          obtain ⟨mA1, g1, hA1, hK1⟩ := q_61
          refine lv_iload_n X.1 X.2.1 dX6_give_64 rfl (lv_at hl 0 rfl) ?_
          exact wr_i X hr hlk hW ⟨(by rw [show fGive (n, R, hd, k, cs, sk, pn, pt) (nI xa) (nI xb) = nI (hd (tn (nI xa))) from (if_neg c_4).trans ((if_neg nh).trans (if_neg (by show ¬ ¬ hd (1 - tn (nI xa)) &&& tn (nI xb) = 0; rw [tn_n (by omega), tn_n (by omega), Nat.and_comm]; exact fun q => q k_28))), tn_n (by omega)]), by rw [show gGive (n, R, hd, k, cs, sk, pn, pt) (nI xa) (nI xb) = _ from (if_neg c_4).trans ((if_neg nh).trans (if_neg (by show ¬ ¬ hd (1 - tn (nI xa)) &&& tn (nI xb) = 0; rw [tn_n (by omega), tn_n (by omega), Nat.and_comm]; exact fun q => q k_28))), tn_n (by omega), tn_n (by omega)]; exact cz_au hC1 hA1 hK1 (Or.inl ⟨rfl, rfl⟩)⟩ (Nat.le_of_ble_eq_true rfl) (Nat.le_of_ble_eq_true rfl) dX6_give_65
        · have k_41 := k_eq (a := xa) (b := 0) (by omega) (by omega) c_41
          refine lv_aload_n X.1 X.2.1 dX6_give_44 rfl (lv_at hl 1 rfl) ?_
          refine lv_iload_n X.1 X.2.1 dX6_give_45 rfl (lv_at hl 3 rfl) ?_
          refine r_put X hW g_1 (v := .int (nI xb)) (C := RX6) (T := TX6) (N := 5) rfl tin_X6 tyX6_ok nmX6 3 (Nat.le_of_ble_eq_true rfl) tw_195 (fun _ h => h) rfl rfl rfl (Nat.le_of_ble_eq_true rfl) dX6_give_46 (fun hp_13 H locs hW eh_14 => ?_)
          have f_15 : hp_13 b6 = some (.inr (7, [.ref rl, .ref au, .ref pa, .int (nI xb), .int (nI e1)])) := by rw [eh_14]; exact va_up_self _ _ _
          refine lv_goto (tgt := 57) X.1 X.2.1 dX6_give_49 (by decide) ?_
          have hC1 := cz_ob (hd1 := fun i => if i = xa then xb else hd i) (e2 := xb) (e3 := e1) hCC eh_14 ⟨⟨if_pos k_41.symm, (if_neg (by omega)).trans hd1⟩, fun i hi => by show (if i = xa then xb else hd i) ≤ 1048575 ∧ strH (if i = xa then xb else hd i) ≤ 20; split; exact ⟨hxb, hst⟩; exact hhd i hi⟩
          refine lv_aload_n X.1 X.2.1 dX6_give_57 rfl (lv_at hl 1 rfl) ?_
          refine r_get X hW.1 f_15 (v := .ref au) (C := RX6) (T := TX6) (N := 5) rfl tin_X6 1 (by decide) tw_193 (fun _ h => h) rfl dX6_give_58 ?_
          have f_16 : hp_13 au = some (.inr (2, [.ref al, .ref p0, .ref pw, .int (bI sk)])) := by rw [eh_14, va_up_ne _ _ (ne_look g_3 g_1 (by simp))]; exact g_3
          refine on_Wv (k' := 0) (n' := 0) (run_V (C := RX0) (As := []) (rest := []) X (c_X0_restart l G A hp_13 _ (fun q h => hA q (Nat.le_trans hW.2.2.1 h)) hW.2.1 au al p0 pw eA cA mA gA CA QA k cs sk hC1.2.2.1) (wp_blind _) (wp_at X hW.1 hW.2.2) (recv X hW.1 f_16 (C := RX0) (T := TX0) (N := 4) rfl) mf_X0_restart tw_334 tw_335 tw_336 ⟨rfl, rfl, Nat.le_of_ble_eq_true rfl, Nat.le_of_ble_eq_true rfl⟩ hl.1 rfl rfl (Nat.le_of_ble_eq_true rfl) ⟨Nat.le_of_ble_eq_true rfl, Nat.le_of_ble_eq_true rfl⟩ dX6_give_61) hW (by omega) (by omega) (fun hp_17 H locs q_61 hW => ?_)
          obtain ⟨mA1, g1, hA1, hK1⟩ := q_61
          refine lv_iload_n X.1 X.2.1 dX6_give_64 rfl (lv_at hl 0 rfl) ?_
          exact wr_i X hr hlk hW ⟨(by rw [show fGive (n, R, hd, k, cs, sk, pn, pt) (nI xa) (nI xb) = nI (hd (tn (nI xa))) from (if_neg c_4).trans ((if_neg nh).trans (if_neg (by show ¬ ¬ hd (1 - tn (nI xa)) &&& tn (nI xb) = 0; rw [tn_n (by omega), tn_n (by omega), Nat.and_comm]; exact fun q => q k_28))), tn_n (by omega)]), by rw [show gGive (n, R, hd, k, cs, sk, pn, pt) (nI xa) (nI xb) = _ from (if_neg c_4).trans ((if_neg nh).trans (if_neg (by show ¬ ¬ hd (1 - tn (nI xa)) &&& tn (nI xb) = 0; rw [tn_n (by omega), tn_n (by omega), Nat.and_comm]; exact fun q => q k_28))), tn_n (by omega), tn_n (by omega)]; exact cz_au hC1 hA1 hK1 (Or.inl ⟨rfl, rfl⟩)⟩ (Nat.le_of_ble_eq_true rfl) (Nat.le_of_ble_eq_true rfl) dX6_give_65
      · have k_28 := k_ne (a := (xb &&& (hd (1 - xa)))) (b := 0) (by omega) (by omega) c_28
        refine lv_bipush (v := (-5)) X.1 X.2.1 dX6_give_31 (by decide) ?_
        exact wr_i X hr hlk hW ⟨((if_neg c_4).trans ((if_neg nh).trans (if_pos (by show ¬ hd (1 - tn (nI xa)) &&& tn (nI xb) = 0; rw [tn_n (by omega), tn_n (by omega), Nat.and_comm]; exact k_28)))).symm, by rw [show gGive (n, R, hd, k, cs, sk, pn, pt) (nI xa) (nI xb) = (n, R, hd, k, cs, sk, pn, pt) from (if_neg c_4).trans ((if_neg nh).trans (if_pos (by show ¬ hd (1 - tn (nI xa)) &&& tn (nI xb) = 0; rw [tn_n (by omega), tn_n (by omega), Nat.and_comm]; exact k_28)))]; exact ⟨rl, au, pa, e0, e1, eR, cR, mR, gR, RA, al, p0, pw, eA, cA, mA, gA, CA, QA, vb, cv, ml, fb, hCC⟩⟩ (Nat.le_of_ble_eq_true rfl) (Nat.le_of_ble_eq_true rfl) dX6_give_33
    · refine lv_bipush (v := (-2)) X.1 X.2.1 dX6_give_16 (by decide) ?_
      exact wr_i X hr hlk hW ⟨((if_neg c_4).trans (if_pos (bI_0 c_13))).symm, by rw [show gGive (n, R, hd, k, cs, sk, pn, pt) (nI xa) b = (n, R, hd, k, cs, sk, pn, pt) from (if_neg c_4).trans (if_pos (bI_0 c_13))]; exact ⟨rl, au, pa, e0, e1, eR, cR, mR, gR, RA, al, p0, pw, eA, cA, mA, gA, CA, QA, vb, cv, ml, fb, hCC⟩⟩ (Nat.le_of_ble_eq_true rfl) (Nat.le_of_ble_eq_true rfl) dX6_give_18
  · refine lv_iconst (v := (-1)) X.1 X.2.1 dX6_give_7 (by decide) ?_
    exact wr_i X hr hlk hW ⟨(if_pos c_4).symm, by rw [show gGive (n, R, hd, k, cs, sk, pn, pt) a b = (n, R, hd, k, cs, sk, pn, pt) from if_pos c_4]; exact ⟨rl, au, pa, e0, e1, eR, cR, mR, gR, RA, al, p0, pw, eA, cA, mA, gA, CA, QA, vb, cv, ml, fb, hCC⟩⟩ (Nat.le_of_ble_eq_true rfl) (Nat.le_of_ble_eq_true rfl) dX6_give_8

