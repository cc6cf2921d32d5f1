/-! drawing: the lowest free card by clearing lowest bits -/
theorem and2 (a y m M : Nat) (ha : a < 2) (hm : m < 2) : (a + 2 * y) &&& (m + 2 * M) = (a &&& m) + 2 * (y &&& M) := by
  have h1 : ((a + 2 * y) &&& (m + 2 * M)) % 2 = a &&& m := by
    have := Nat.and_mod_two_pow (a := a + 2 * y) (b := m + 2 * M) (n := 1)
    rw [show (2 : Nat) ^ 1 = 2 from rfl] at this
    rw [this, show (a + 2 * y) % 2 = a by omega, show (m + 2 * M) % 2 = m by omega]
  have h2 : ((a + 2 * y) &&& (m + 2 * M)) / 2 = y &&& M := by
    have := Nat.shiftRight_and_distrib (a := a + 2 * y) (b := m + 2 * M) (i := 1)
    rw [Nat.shiftRight_eq_div_pow, Nat.shiftRight_eq_div_pow, Nat.shiftRight_eq_div_pow, show (2 : Nat) ^ 1 = 2 from rfl] at this
    rw [this, show (a + 2 * y) / 2 = y by omega, show (m + 2 * M) / 2 = M by omega]
  omega
theorem or2 (a y m M : Nat) (ha : a < 2) (hm : m < 2) : (a + 2 * y) ||| (m + 2 * M) = (a ||| m) + 2 * (y ||| M) := by
  have h1 : ((a + 2 * y) ||| (m + 2 * M)) % 2 = a ||| m := by
    have := Nat.or_mod_two_pow (a := a + 2 * y) (b := m + 2 * M) (n := 1)
    rw [show (2 : Nat) ^ 1 = 2 from rfl] at this
    rw [this, show (a + 2 * y) % 2 = a by omega, show (m + 2 * M) % 2 = m by omega]
  have h2 : ((a + 2 * y) ||| (m + 2 * M)) / 2 = y ||| M := by
    have := Nat.shiftRight_or_distrib (a := a + 2 * y) (b := m + 2 * M) (i := 1)
    rw [Nat.shiftRight_eq_div_pow, Nat.shiftRight_eq_div_pow, Nat.shiftRight_eq_div_pow, show (2 : Nat) ^ 1 = 2 from rfl] at this
    rw [this, show (a + 2 * y) / 2 = y by omega, show (m + 2 * M) / 2 = M by omega]
  omega
theorem ao_2 : ∀ a, a < 2 → ∀ m, m < 2 → (a &&& m = 0 → a ||| m = a + m) ∧ a &&& m < 2 ∧ (a &&& m = a * m) := by decide
theorem or_add : ∀ f a b, a < 2 ^ f → a &&& b = 0 → a ||| b = a + b
  | 0, a, b, h, _ => by
    obtain rfl : a = 0 := by omega
    rw [Nat.zero_or]; omega
  | f + 1, a, b, h, h0 => by
    have ea : a = a % 2 + 2 * (a / 2) := by omega
    have eb : b = b % 2 + 2 * (b / 2) := by omega
    have k := ao_2 (a % 2) (by omega) (b % 2) (by omega)
    rw [ea, eb, and2 _ _ _ _ (by omega) (by omega)] at h0
    have ih := or_add f (a / 2) (b / 2) (by rw [Nat.pow_succ] at h; omega) (by omega)
    have e := or2 (a % 2) (a / 2) (b % 2) (b / 2) (by omega) (by omega)
    rw [← ea, ← eb] at e
    rw [e, ih, k.1 (by omega)]
    omega
theorem bit_0 {t c : Nat} (h : t / 2 ^ c % 2 = 0) : t &&& 2 ^ c = 0 := by
  apply Nat.eq_of_testBit_eq
  intro i
  rw [Nat.testBit_and, Nat.testBit_two_pow, Nat.zero_testBit]
  by_cases e : c = i
  · subst e
    have : (t.testBit c).toNat = 0 := by rw [Nat.toNat_testBit]; exact h
    cases hb : t.testBit c with
    | false => rfl
    | true => rw [hb] at this; cases this
  · rw [decide_eq_false e, Bool.and_false]
theorem or_bit {t c : Nat} (h : t / 2 ^ c % 2 = 0) (ht : t < 2 ^ 20) : t ||| 2 ^ c = t + 2 ^ c := or_add 20 t _ ht (bit_0 h)
theorem low_c {c x m : Nat} (hx : x = 2 ^ c * (2 * m)) : (2 ^ c + x) &&& (2 ^ c + x - 1) = x := by
  have hp : 0 < 2 ^ c := Nat.two_pow_pos c
  have e1 : 2 ^ c + x = (1 + 2 * m) <<< c := by rw [hx, Nat.shiftLeft_eq, Nat.mul_comm (1 + 2 * m), Nat.mul_add]; omega
  have e2 : 2 ^ c + x - 1 = ((2 * m) <<< c) ||| (2 ^ c - 1) := by
    rw [Nat.shiftLeft_eq, Nat.mul_comm (2 * m), ← Nat.two_pow_add_eq_or_of_lt (by omega) (2 * m), ← hx]
    omega
  have e3 : (1 + 2 * m) &&& (2 * m) = 2 * m := by
    have := and2 1 m 0 m (by decide) (by decide)
    rw [Nat.zero_add, Nat.and_self] at this
    rw [this, show (1 &&& 0 : Nat) = 0 from rfl, Nat.zero_add]
  rw [e2, e1, Nat.and_or_distrib_left, Nat.and_two_pow_sub_one_eq_mod, ← Nat.shiftLeft_and_distrib, e3, Nat.shiftLeft_eq, Nat.shiftLeft_eq, Nat.mul_mod_left, Nat.or_zero, hx, Nat.mul_comm]
theorem and_cp {m N : Nat} (h : m < 2 ^ N) : m &&& (2 ^ N - (m + 1)) = 0 := by
  apply Nat.eq_of_testBit_eq
  intro i
  rw [Nat.testBit_and, Nat.testBit_two_pow_sub_succ h, Nat.zero_testBit]
  cases m.testBit i <;> simp
theorem low_l {c x m : Nat} (hc : c < 20) (hx : x = 2 ^ c * (2 * m)) (hb : 2 ^ c + x < 2 ^ 20) : lowb (2 ^ c + x) = 2 ^ c := by
  have hp : 0 < 2 ^ c := Nat.two_pow_pos c
  have e1 : 2 ^ c + x = (1 + 2 * m) <<< c := by rw [hx, Nat.shiftLeft_eq, Nat.mul_comm (1 + 2 * m), Nat.mul_add]; omega
  have e32 : (2 : Nat) ^ 32 = 2 ^ c * 2 ^ (32 - c) := by rw [← Nat.pow_add]; congr 1; omega
  have e31 : 2 ^ (32 - c) = 2 * 2 ^ (31 - c) := by rw [← Nat.pow_succ']; congr 1; omega
  have hm : m < 2 ^ (31 - c) := by
    apply Nat.lt_of_not_le
    intro q
    have : 2 ^ c * (2 * 2 ^ (31 - c)) ≤ 2 ^ c * (2 * m) := Nat.mul_le_mul_left _ (Nat.mul_le_mul_left _ q)
    rw [← e31, ← e32] at this
    omega
  have e2 : 4294967296 - (2 ^ c + x) = (1 + 2 * (2 ^ (31 - c) - (m + 1))) <<< c := by
    rw [Nat.shiftLeft_eq, Nat.mul_comm (1 + 2 * _), show (4294967296 : Nat) = 2 ^ 32 from rfl, e32, e31, hx]
    have : 1 + 2 * (2 ^ (31 - c) - (m + 1)) = 2 * 2 ^ (31 - c) - (1 + 2 * m) := by omega
    rw [this, Nat.mul_sub, Nat.mul_add, Nat.mul_one]
  unfold lowb
  rw [e2, e1, ← Nat.shiftLeft_and_distrib, and2 _ _ _ _ (by decide) (by decide), and_cp hm, Nat.shiftLeft_eq, show (1 &&& 1 : Nat) + 2 * 0 = 1 from rfl, Nat.one_mul]
/-- the free places from c on, as a set -/
def frS (t : Nat) : Nat → Nat → Nat
  | 0, _ => 0
  | f + 1, c => (if t / 2 ^ c % 2 = 1 then 0 else 2 ^ c) + frS t f (c + 1)
theorem frS_m (t : Nat) : ∀ f c, ∃ m, frS t f c = 2 ^ c * m
  | 0, _ => ⟨0, rfl⟩
  | f + 1, c => by
    obtain ⟨m, hm⟩ := frS_m t f (c + 1)
    unfold frS
    rw [hm, Nat.pow_succ, Nat.mul_assoc]
    split
    · exact ⟨2 * m, Nat.zero_add _⟩
    · exact ⟨1 + 2 * m, by rw [Nat.mul_add, Nat.mul_one]⟩
theorem frS_eq (t : Nat) : ∀ f c, frS t f c + 2 ^ c * (t / 2 ^ c % 2 ^ f) + 2 ^ c = 2 ^ c * 2 ^ f
  | 0, c => by
    unfold frS
    rw [Nat.pow_zero, Nat.mod_one]; omega
  | f + 1, c => by
    have ih := frS_eq t f (c + 1)
    unfold frS
    have e : t / 2 ^ c % 2 ^ (f + 1) = t / 2 ^ c % 2 + 2 * (t / 2 ^ (c + 1) % 2 ^ f) := by
      rw [Nat.pow_succ', Nat.mod_mul, Nat.div_div_eq_div_mul, ← Nat.pow_succ]
    have hP : 2 ^ (c + 1) = 2 ^ c * 2 := Nat.pow_succ ..
    rw [e, show 2 ^ (f + 1) = 2 * 2 ^ f from Nat.pow_succ', Nat.mul_add, ← Nat.mul_assoc (2 ^ c) 2 (2 ^ f), ← Nat.mul_assoc (2 ^ c) 2, ← hP]
    generalize 2 ^ (c + 1) * (t / 2 ^ (c + 1) % 2 ^ f) = X at ih ⊢
    generalize 2 ^ (c + 1) * 2 ^ f = Y at ih ⊢
    rw [hP] at ih
    by_cases b : t / 2 ^ c % 2 = 1
    · rw [if_pos b, b]
      omega
    · rw [if_neg b, show t / 2 ^ c % 2 = 0 by omega]
      omega
theorem frS_20 {t : Nat} (h : t < 2 ^ 20) : frS t 20 0 = 1048575 - t := by
  have := frS_eq t 20 0
  rw [Nat.pow_zero, Nat.div_one, Nat.mod_eq_of_lt h] at this
  omega
theorem frS_lt (t : Nat) : ∀ f c, frS t f c + 2 ^ c ≤ 2 ^ c * 2 ^ f := fun f c => by
  have := frS_eq t f c
  omega
/-- the lowest bit cleared, again and again -/
def itC : Nat → Nat → Nat
  | 0, x => x
  | n + 1, x => itC n (x &&& (x - 1))
theorem itC_cl (t : Nat) : ∀ f n c, c + f ≤ 20 → n < frC t f c → lowb (itC n (frS t f c)) = 2 ^ clF t f n c
  | 0, n, c, _, h => absurd h (Nat.not_lt_zero n)
  | f + 1, n, c, hc, h => by
    have hm := frS_m t f (c + 1)
    have hl := frS_lt t f (c + 1)
    unfold frC at h
    unfold frS clF
    by_cases b : t / 2 ^ c % 2 = 1
    · rw [if_pos b, if_pos (Or.inr b), if_pos b, Nat.zero_add]
      rw [if_pos b] at h
      exact itC_cl t f n (c + 1) (by omega) (by omega)
    · rw [if_neg b] at h
      rw [if_neg b, if_neg b]
      obtain ⟨m, hm⟩ := hm
      have hx : frS t f (c + 1) = 2 ^ c * (2 * m) := by rw [hm, Nat.pow_succ, Nat.mul_assoc]
      cases n with
      | zero =>
        rw [if_neg (fun q => Or.elim q (Nat.lt_irrefl 0) b)]
        refine low_l (by omega) hx ?_
        have hp : 2 ^ (c + 1) * 2 ^ f ≤ 2 ^ 20 := by
          rw [← Nat.pow_add]
          exact Nat.pow_le_pow_right (by decide) (by omega)
        have := Nat.two_pow_pos c
        rw [Nat.pow_succ] at hl hp
        omega
      | succ n =>
        rw [if_pos (Or.inl (Nat.succ_pos n)), Nat.add_sub_cancel]
        show lowb (itC n ((2 ^ c + frS t f (c + 1)) &&& (2 ^ c + frS t f (c + 1) - 1))) = _
        rw [low_c hx]
        exact itC_cl t f n (c + 1) (by omega) (by omega)
theorem and_dec {y : Nat} (h : y < 2 ^ 31) : nI y &&& (nI y - 1) = nI (y &&& (y - 1)) := by
  by_cases c : y = 0
  · rw [c, Nat.zero_and]; decide
  · rw [show (nI y - 1 : Int32) = nI (y - 1) from pk_sub (a := y) (b := 1) (by omega)]
    exact n_and y (y - 1)
set_option maxHeartbeats 4000000 in
set_option maxRecDepth 100000 in
theorem c_X1_cardAt (l : Launch) (G : HG) (hp : HP) (x9 n9 : Nat) (hx : x9 ≤ 1048575) (hn9 : n9 < 20) : Met l yX1_cardAt [.code yX1_cardAt cX1_cardAt 4 (some .int)] { frames := 0, cells := 0, slots := 0, locals := 0 } (va_Pc [.int (nI x9), .int (nI n9)] (RP G hp)) (vp_Si (fun r => r = nI (lowb (itC n9 x9)))) 0 0 (fun _ => False) := by
  refine ro_ofW (by decide) (Nat.le_of_ble_eq_true rfl) ?_
  intro p e s m args below meth c ls X hr hlk hH hl
  have hS : va_S (fun _ => False) s.heap s.heap [] := va_S.rf
  have hl : lv_has ls 4 [(0, .int (nI x9)), (1, .int (nI n9))] := hl
  refine lv_iload_n X.1 X.2.1 dX1_cardAt_0 rfl (lv_at hl 0 rfl) ?_
  refine lv_istore_n (lv' := [(2, .int (nI x9)), (0, .int (nI x9)), (1, .int (nI n9))]) X.1 X.2.1 dX1_cardAt_1 rfl hl (by decide) rfl (fun ls hl => ?_)
  refine lv_iconst (v := 0) X.1 X.2.1 dX1_cardAt_2 (by decide) ?_
  refine lv_istore_n (lv' := [(3, .int 0), (2, .int (nI x9)), (0, .int (nI x9)), (1, .int (nI n9))]) X.1 X.2.1 dX1_cardAt_3 rfl hl (by decide) rfl (fun ls hl => ?_)
  have L4 : ∀ (f : Nat) (i : Nat) (y : Nat), i + f = n9 → itC f y = itC n9 x9 → y ≤ x9 → ∀ ls, lv_has ls 4 [(0, .int (nI x9)), (1, .int (nI n9)), (2, .int (nI y)), (3, .int (nI i))] → W p l e ({ frames := 0, cells := 0, slots := 0, locals := 0 } : Room) s m args below meth c s.heap [] 0 0 (MQ below (vp_Si (fun r => r = nI (lowb (itC n9 x9)))) args s 0 0 (fun _ => False)) (F0 m 4 ls []) := by
    intro f
    induction f with
    | zero =>
      intro i y h0 h1 h2 ls hl
      refine lv_iload_n X.1 X.2.1 dX1_cardAt_4 rfl (lv_at hl 3 rfl) ?_
      refine lv_iload_n X.1 X.2.1 dX1_cardAt_5 rfl (lv_at hl 1 rfl) ?_
      refine lv_icmp_ge (tgt := 21) X.1 X.2.1 dX1_cardAt_6 (by decide) (fun c_6 => ?_) (fun c_6 => absurd (nI_le (by omega) (by omega)) c_6)
      refine lv_iload_n X.1 X.2.1 dX1_cardAt_21 rfl (lv_at hl 2 rfl) ?_
      refine lv_iload_n X.1 X.2.1 dX1_cardAt_22 rfl (lv_at hl 2 rfl) ?_
      refine lv_ineg X.1 X.2.1 dX1_cardAt_23 ?_
      refine lv_iand X.1 X.2.1 dX1_cardAt_24 ?_
      refine r_eqi (show (((nI y) &&& (-(nI y))) : Int32) = nI (lowb y) from low_i y (by omega)) ?_
      exact ro_i X hr hlk (by show nI (lowb y) = _; rw [← h1]; rfl) dX1_cardAt_25
    | succ f ih =>
      intro i y h0 h1 h2 ls hl
      refine lv_iload_n X.1 X.2.1 dX1_cardAt_4 rfl (lv_at hl 3 rfl) ?_
      refine lv_iload_n X.1 X.2.1 dX1_cardAt_5 rfl (lv_at hl 1 rfl) ?_
      refine lv_icmp_ge (tgt := 21) X.1 X.2.1 dX1_cardAt_6 (by decide) (fun c_6 => absurd c_6 (nI_ge (by omega) (by omega))) (fun c_6 => ?_)
      refine lv_iload_n X.1 X.2.1 dX1_cardAt_9 rfl (lv_at hl 2 rfl) ?_
      refine lv_iload_n X.1 X.2.1 dX1_cardAt_10 rfl (lv_at hl 2 rfl) ?_
      refine lv_iconst (v := 1) X.1 X.2.1 dX1_cardAt_11 (by decide) ?_
      refine lv_isub X.1 X.2.1 dX1_cardAt_12 ?_
      refine lv_iand X.1 X.2.1 dX1_cardAt_13 ?_
      refine r_eqi (show (((nI y) &&& ((nI y) - 1)) : Int32) = nI (y &&& (y - 1)) from and_dec (by omega)) ?_
      refine lv_istore_n (lv' := [(2, .int (nI (y &&& (y - 1)))), (0, .int (nI x9)), (1, .int (nI n9)), (3, .int (nI i))]) X.1 X.2.1 dX1_cardAt_14 rfl hl (by decide) rfl (fun ls hl => ?_)
      refine lv_iinc (v := (nI (i + 1))) (lv' := [(3, .int (nI (i + 1))), (2, .int (nI (y &&& (y - 1)))), (0, .int (nI x9)), (1, .int (nI n9))]) X.1 X.2.1 dX1_cardAt_15 hl (k := 3) rfl (nI_add i 1) (by decide) rfl (fun ls hl => ?_)
      refine lv_goto (tgt := 4) X.1 X.2.1 dX1_cardAt_18 (by decide) ?_
      exact ih (i + 1) (y &&& (y - 1)) (by omega) (by rw [← h1]; rfl) (Nat.le_trans Nat.and_le_left h2) ls (lv_sub hl [2, 3, 1, 0] rfl)
  exact L4 n9 0 x9 (by omega) rfl (Nat.le_refl _) ls (lv_sub hl [2, 3, 1, 0] rfl)
