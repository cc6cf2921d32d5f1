/-! whether a rule admits a profile -/
theorem and64 (a y m M : Nat) (ha : a < 64) (hm : m < 64) : (a + 64 * y) &&& (m + 64 * M) = (a &&& m) + 64 * (y &&& M) := by
  have h1 : ((a + 64 * y) &&& (m + 64 * M)) % 64 = a &&& m := by
    have := Nat.and_mod_two_pow (a := a + 64 * y) (b := m + 64 * M) (n := 6)
    rw [show (2 : Nat) ^ 6 = 64 from rfl] at this
    rw [this, show (a + 64 * y) % 64 = a by omega, show (m + 64 * M) % 64 = m by omega]
  have h2 : ((a + 64 * y) &&& (m + 64 * M)) / 64 = y &&& M := by
    have := Nat.shiftRight_and_distrib (a := a + 64 * y) (b := m + 64 * M) (i := 6)
    rw [Nat.shiftRight_eq_div_pow, Nat.shiftRight_eq_div_pow, Nat.shiftRight_eq_div_pow, show (2 : Nat) ^ 6 = 64 from rfl] at this
    rw [this, show (a + 64 * y) / 64 = y by omega, show (m + 64 * M) / 64 = M by omega]
  omega
theorem or64 (a y m M : Nat) (ha : a < 64) (hm : m < 64) : (a + 64 * y) ||| (m + 64 * M) = (a ||| m) + 64 * (y ||| M) := by
  have h1 : ((a + 64 * y) ||| (m + 64 * M)) % 64 = a ||| m := by
    have := Nat.or_mod_two_pow (a := a + 64 * y) (b := m + 64 * M) (n := 6)
    rw [show (2 : Nat) ^ 6 = 64 from rfl] at this
    rw [this, show (a + 64 * y) % 64 = a by omega, show (m + 64 * M) % 64 = m by omega]
  have h2 : ((a + 64 * y) ||| (m + 64 * M)) / 64 = y ||| M := by
    have := Nat.shiftRight_or_distrib (a := a + 64 * y) (b := m + 64 * M) (i := 6)
    rw [Nat.shiftRight_eq_div_pow, Nat.shiftRight_eq_div_pow, Nat.shiftRight_eq_div_pow, show (2 : Nat) ^ 6 = 64 from rfl] at this
    rw [this, show (a + 64 * y) / 64 = y by omega, show (m + 64 * M) / 64 = M by omega]
  omega
/-- five fields of six bits -/
def f5 (a b c d e : Nat) : Nat := a + 64 * (b + 64 * (c + 64 * (d + 64 * e)))
theorem or32 : ∀ a, a < 32 → a ||| 32 = a + 32 ∧ a + 32 < 64 := by decide +kernel
theorem f5_or {a b c d e : Nat} (ha : a < 32) (hb : b < 32) (hc : c < 32) (hd : d < 32) (he : e < 32) : f5 a b c d e ||| 545392672 = f5 a b c d e + 545392672 := by
  show f5 a b c d e ||| f5 32 32 32 32 32 = f5 a b c d e + f5 32 32 32 32 32
  unfold f5
  rw [or64 _ _ _ _ (by omega) (by decide), or64 _ _ _ _ (by omega) (by decide), or64 _ _ _ _ (by omega) (by decide), or64 _ _ _ _ (by omega) (by decide), (or32 a ha).1, (or32 b hb).1, (or32 c hc).1, (or32 d hd).1, (or32 e he).1]
  omega
theorem an32 : ∀ a, a < 64 → ∀ b, b < 64 → a &&& b &&& 32 = if 32 ≤ a ∧ 32 ≤ b then 32 else 0 := by decide +kernel
theorem f5_and {a b c d e a' b' c' d' e' : Nat} (ha : a < 64) (hb : b < 64) (hc : c < 64) (hd : d < 64) (he : e < 64) (ha' : a' < 64) (hb' : b' < 64) (hc' : c' < 64) (hd' : d' < 64) (he' : e' < 64) : (f5 a b c d e &&& f5 a' b' c' d' e' &&& 545392672 = 545392672) ↔ ((32 ≤ a ∧ 32 ≤ a') ∧ (32 ≤ b ∧ 32 ≤ b') ∧ (32 ≤ c ∧ 32 ≤ c') ∧ (32 ≤ d ∧ 32 ≤ d') ∧ (32 ≤ e ∧ 32 ≤ e')) := by
  have hl : ∀ x y : Nat, x < 64 → (x &&& y) < 64 := fun x y h => Nat.lt_of_le_of_lt Nat.and_le_left h
  show (f5 a b c d e &&& f5 a' b' c' d' e' &&& f5 32 32 32 32 32 = f5 32 32 32 32 32) ↔ _
  unfold f5
  rw [and64 _ _ _ _ ha ha', and64 _ _ _ _ hb hb', and64 _ _ _ _ hc hc', and64 _ _ _ _ hd hd', and64 _ _ _ _ (hl _ _ ha) (by decide), and64 _ _ _ _ (hl _ _ hb) (by decide), and64 _ _ _ _ (hl _ _ hc) (by decide), and64 _ _ _ _ (hl _ _ hd) (by decide), an32 a ha a' ha', an32 b hb b' hb', an32 c hc c' hc', an32 d hd d' hd', an32 e he e' he']
  by_cases q1 : 32 ≤ a ∧ 32 ≤ a' <;> by_cases q2 : 32 ≤ b ∧ 32 ≤ b' <;> by_cases q3 : 32 ≤ c ∧ 32 ≤ c' <;> by_cases q4 : 32 ≤ d ∧ 32 ≤ d' <;> by_cases q5 : 32 ≤ e ∧ 32 ≤ e' <;> simp only [q1, q2, q3, q4, q5, if_true, if_false, true_and, and_true, false_and, and_false, iff_true, iff_false] <;> omega
theorem pf_f5 (h : Nat) : pfN h = f5 (lenH h 0) (lenH h 1) (lenH h 2) (lenH h 3) (strH h) := by unfold pfN f5; omega
theorem lo_f5 (q : Nat → Nat) : loP q = f5 (q 4) (q 6) (q 8) (q 10) (q 12) := by unfold loP f5; omega
theorem hi_f5 (q : Nat → Nat) : hiP q = f5 (q 5) (q 7) (q 9) (q 11) (q 13) := by unfold hiP f5; omega
/-- the two differences, field by field -/
theorem ad_1 {q : Nat → Nat} {h : Nat} (hq : ∀ j, j < 14 → q j ≤ 25) (hs : strH h ≤ 20) : (pfN h ||| 545392672) - loP q = f5 (32 + lenH h 0 - q 4) (32 + lenH h 1 - q 6) (32 + lenH h 2 - q 8) (32 + lenH h 3 - q 10) (32 + strH h - q 12) ∧ loP q ≤ (pfN h ||| 545392672) ∧ (pfN h ||| 545392672) < 2 ^ 31 := by
  have a0 := lenH_le h 0
  have a1 := lenH_le h 1
  have a2 := lenH_le h 2
  have a3 := lenH_le h 3
  have b4 := hq 4 (by decide)
  have b6 := hq 6 (by decide)
  have b8 := hq 8 (by decide)
  have b10 := hq 10 (by decide)
  have b12 := hq 12 (by decide)
  rw [pf_f5, f5_or (by omega) (by omega) (by omega) (by omega) (by omega), lo_f5]
  unfold f5
  omega
theorem ad_2 {q : Nat → Nat} {h : Nat} (hq : ∀ j, j < 14 → q j ≤ 25) (hs : strH h ≤ 20) : (hiP q ||| 545392672) - pfN h = f5 (32 + q 5 - lenH h 0) (32 + q 7 - lenH h 1) (32 + q 9 - lenH h 2) (32 + q 11 - lenH h 3) (32 + q 13 - strH h) ∧ pfN h ≤ (hiP q ||| 545392672) ∧ (hiP q ||| 545392672) < 2 ^ 31 := by
  have a0 := lenH_le h 0
  have a1 := lenH_le h 1
  have a2 := lenH_le h 2
  have a3 := lenH_le h 3
  have b4 := hq 5 (by decide)
  have b6 := hq 7 (by decide)
  have b8 := hq 9 (by decide)
  have b10 := hq 11 (by decide)
  have b12 := hq 13 (by decide)
  rw [hi_f5, f5_or (by omega) (by omega) (by omega) (by omega) (by omega), pf_f5]
  unfold f5
  omega
theorem ad_iff {q : Nat → Nat} {h : Nat} (hq : ∀ j, j < 14 → q j ≤ 25) (hs : strH h ≤ 20) : (((pfN h ||| 545392672) - loP q) &&& ((hiP q ||| 545392672) - pfN h) &&& 545392672 = 545392672) ↔ fitB q h = true := by
  have a0 := lenH_le h 0
  have a1 := lenH_le h 1
  have a2 := lenH_le h 2
  have a3 := lenH_le h 3
  have b := fun j hj => hq j hj
  have b4 := hq 4 (by decide)
  have b5 := hq 5 (by decide)
  have b6 := hq 6 (by decide)
  have b7 := hq 7 (by decide)
  have b8 := hq 8 (by decide)
  have b9 := hq 9 (by decide)
  have b10 := hq 10 (by decide)
  have b11 := hq 11 (by decide)
  have b12 := hq 12 (by decide)
  have b13 := hq 13 (by decide)
  rw [(ad_1 hq hs).1, (ad_2 hq hs).1, f5_and (by omega) (by omega) (by omega) (by omega) (by omega) (by omega) (by omega) (by omega) (by omega) (by omega)]
  unfold fitB
  simp only [Bool.and_eq_true, decide_eq_true_eq]
  omega
set_option maxHeartbeats 4000000 in
set_option maxRecDepth 100000 in
theorem c_X4_admits (l : Launch) (G : HG) (hp : HP) (r9 : Nat) (q : Nat → Nat) (hq : ∀ j, j < 14 → q j ≤ 25) (h : Nat) (hs : strH h ≤ 20) (hr9 : hp r9 = some (rcE q)) : Met l yX4_admits [.code yX4_admits cX4_admits 4 (some .boolean)] { frames := 0, cells := 0, slots := 0, locals := 0 } (va_Pc [.ref r9, .int (nI (pfN h))] (RP G hp)) (vp_Si (fun r => r = bI (fitB q h))) 0 0 (fun _ => False) := by
  refine ro_ofW (by decide) (Nat.le_of_ble_eq_true rfl) ?_
  intro p e s m args below meth c ls X hr hlk hH hl
  have hS : va_S (fun _ => False) s.heap s.heap [] := va_S.rf
  have hl : lv_has ls 4 [(0, .ref r9), (1, .int (nI (pfN h)))] := hl
  refine lv_iload_n X.1 X.2.1 dX4_admits_0 rfl (lv_at hl 1 rfl) ?_
  refine r_const X tw_308 dX4_admits_1 ?_
  refine lv_ior X.1 X.2.1 dX4_admits_3 ?_
  refine r_eqi (show (((nI (pfN h)) ||| 545392672) : Int32) = nI ((pfN h) ||| 545392672) from n_or (pfN h) 545392672) ?_
  refine lv_aload_n X.1 X.2.1 dX4_admits_4 rfl (lv_at hl 0 rfl) ?_
  refine r_get X hH hr9 (v := .int (nI (loP q))) (C := RX4) (T := TX4) (N := 6) rfl tin_X4 4 (by decide) tw_369 (fun _ h => h) rfl dX4_admits_5 ?_
  refine lv_isub X.1 X.2.1 dX4_admits_8 ?_
  refine r_eqi (show (((nI ((pfN h) ||| 545392672)) - (nI (loP q))) : Int32) = nI (((pfN h) ||| 545392672) - (loP q)) from pk_sub (a := ((pfN h) ||| 545392672)) (b := (loP q)) (ad_1 hq hs).2.1) ?_
  refine lv_istore_n (lv' := [(2, .int (nI (((pfN h) ||| 545392672) - (loP q)))), (0, .ref r9), (1, .int (nI (pfN h)))]) X.1 X.2.1 dX4_admits_9 rfl hl (by decide) rfl (fun ls hl => ?_)
  refine lv_aload_n X.1 X.2.1 dX4_admits_10 rfl (lv_at hl 1 rfl) ?_
  refine r_get X hH hr9 (v := .int (nI (hiP q))) (C := RX4) (T := TX4) (N := 6) rfl tin_X4 5 (by decide) tw_370 (fun _ h => h) rfl dX4_admits_11 ?_
  refine r_const X tw_308 dX4_admits_14 ?_
  refine lv_ior X.1 X.2.1 dX4_admits_16 ?_
  refine r_eqi (show (((nI (hiP q)) ||| 545392672) : Int32) = nI ((hiP q) ||| 545392672) from n_or (hiP q) 545392672) ?_
  refine lv_iload_n X.1 X.2.1 dX4_admits_17 rfl (lv_at hl 2 rfl) ?_
  refine lv_isub X.1 X.2.1 dX4_admits_18 ?_
  refine r_eqi (show (((nI ((hiP q) ||| 545392672)) - (nI (pfN h))) : Int32) = nI (((hiP q) ||| 545392672) - (pfN h)) from pk_sub (a := ((hiP q) ||| 545392672)) (b := (pfN h)) (ad_2 hq hs).2.1) ?_
  refine lv_istore_n (lv' := [(3, .int (nI (((hiP q) ||| 545392672) - (pfN h)))), (2, .int (nI (((pfN h) ||| 545392672) - (loP q)))), (0, .ref r9), (1, .int (nI (pfN h)))]) X.1 X.2.1 dX4_admits_19 rfl hl (by decide) rfl (fun ls hl => ?_)
  refine lv_iload_n X.1 X.2.1 dX4_admits_20 rfl (lv_at hl 1 rfl) ?_
  refine lv_iload_n X.1 X.2.1 dX4_admits_21 rfl (lv_at hl 0 rfl) ?_
  refine lv_iand X.1 X.2.1 dX4_admits_22 ?_
  refine r_eqi (show (((nI (((pfN h) ||| 545392672) - (loP q))) &&& (nI (((hiP q) ||| 545392672) - (pfN h)))) : Int32) = nI ((((pfN h) ||| 545392672) - (loP q)) &&& (((hiP q) ||| 545392672) - (pfN h))) from n_and (((pfN h) ||| 545392672) - (loP q)) (((hiP q) ||| 545392672) - (pfN h))) ?_
  refine r_const X tw_308 dX4_admits_23 ?_
  refine lv_iand X.1 X.2.1 dX4_admits_25 ?_
  refine r_eqi (show (((nI ((((pfN h) ||| 545392672) - (loP q)) &&& (((hiP q) ||| 545392672) - (pfN h)))) &&& 545392672) : Int32) = nI (((((pfN h) ||| 545392672) - (loP q)) &&& (((hiP q) ||| 545392672) - (pfN h))) &&& 545392672) from n_and ((((pfN h) ||| 545392672) - (loP q)) &&& (((hiP q) ||| 545392672) - (pfN h))) 545392672) ?_
  refine r_const X tw_308 dX4_admits_26 ?_
  have han : (((((pfN h) ||| 545392672) - (loP q)) &&& (((hiP q) ||| 545392672) - (pfN h))) &&& 545392672) ≤ 545392672 := Nat.and_le_right
  refine lv_icmp_ne (tgt := 35) X.1 X.2.1 dX4_admits_28 (by decide) (fun c_28 => ?_) (fun c_28 => ?_)
  · have k_28 := k_ne (a := (((((pfN h) ||| 545392672) - (loP q)) &&& (((hiP q) ||| 545392672) - (pfN h))) &&& 545392672)) (b := 545392672) (by omega) (by omega) c_28
    refine lv_iconst (v := 0) X.1 X.2.1 dX4_admits_35 (by decide) ?_
    exact ro_z X hr hlk rfl (by show (_ : Int32) = bI _; rw [Bool.eq_false_iff.mpr (fun z => k_28 ((ad_iff hq hs).mpr z))]; rfl) dX4_admits_36
  · have k_28 := k_eq (a := (((((pfN h) ||| 545392672) - (loP q)) &&& (((hiP q) ||| 545392672) - (pfN h))) &&& 545392672)) (b := 545392672) (by omega) (by omega) c_28
    refine lv_iconst (v := 1) X.1 X.2.1 dX4_admits_31 (by decide) ?_
    refine lv_goto (tgt := 36) X.1 X.2.1 dX4_admits_32 (by decide) ?_
    exact ro_z X hr hlk rfl (by show (_ : Int32) = bI _; rw [(ad_iff hq hs).mp k_28]; rfl) dX4_admits_36
