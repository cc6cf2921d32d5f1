/-! the law's own small methods: counts of bits, shapes, the next hand -/
theorem mf_L_cell : MF yL_cell cL_cell 3 (some .int) 3 := ⟨tw_333, tw_14, by decide +kernel, by decide +kernel, by decide +kernel⟩
theorem mf_L_many : MF yL_many cL_many 3 (some .int) 1 := ⟨tw_337, tw_14, by decide +kernel, by decide +kernel, by decide +kernel⟩
theorem mf_L_strength : MF yL_strength cL_strength 3 (some .int) 1 := ⟨tw_471, tw_14, by decide +kernel, by decide +kernel, by decide +kernel⟩
theorem mf_L_shape : MF yL_shape cL_shape 1 (some .int) 1 := ⟨tw_467, tw_14, by decide +kernel, by decide +kernel, by decide +kernel⟩
theorem mf_L_fits : MF yL_fits cL_fits 5 (some .boolean) 3 := ⟨tw_477, tw_14, by decide +kernel, by decide +kernel, by decide +kernel⟩
theorem mf_L_ruleOf : MF yL_ruleOf cL_ruleOf 8 (some .int) 6 := ⟨tw_474, tw_14, by decide +kernel, by decide +kernel, by decide +kernel⟩
theorem mf_L_lay : MF yL_lay cL_lay 17 (some .int) 3 := ⟨tw_340, tw_14, by decide +kernel, by decide +kernel, by decide +kernel⟩
theorem mf_L_follow : MF yL_follow cL_follow 11 (some .int) 4 := ⟨tw_464, tw_14, by decide +kernel, by decide +kernel, by decide +kernel⟩
theorem mf_L_agrees : MF yL_agrees cL_agrees 8 (some .boolean) 7 := ⟨tw_532, tw_14, by decide +kernel, by decide +kernel, by decide +kernel⟩
theorem mf_L_winners : MF yL_winners cL_winners 8 (some .int) 3 := ⟨tw_524, tw_14, by decide +kernel, by decide +kernel, by decide +kernel⟩
theorem mf_L_tricks : MF yL_tricks cL_tricks 7 (some .int) 3 := ⟨tw_521, tw_14, by decide +kernel, by decide +kernel, by decide +kernel⟩
theorem mf_L_next : MF yL_next cL_next 3 (some .int) 1 := ⟨tw_535, tw_14, by decide +kernel, by decide +kernel, by decide +kernel⟩
theorem mf_L_isTold : MF yL_isTold cL_isTold 21 (some .boolean) 8 := ⟨tw_527, tw_14, by decide +kernel, by decide +kernel, by decide +kernel⟩
def mnF (x : Nat) : Nat → Nat
  | 0 => 0
  | i + 1 => mnF x i + x / 2 ^ i % 2
def sgF (x : Nat) : Nat → Nat
  | 0 => 0
  | i + 1 => sgF x i + x / 2 ^ i % 2 * (i % 5)
theorem mnF_le (x : Nat) : ∀ i, mnF x i ≤ i
  | 0 => Nat.le_refl 0
  | i + 1 => by
    have := mnF_le x i
    unfold mnF
    omega
theorem sgF_le (x : Nat) : ∀ i, sgF x i ≤ 4 * i
  | 0 => Nat.le_refl 0
  | i + 1 => by
    have := sgF_le x i
    unfold sgF
    have h1 : x / 2 ^ i % 2 ≤ 1 := by omega
    have h2 : i % 5 ≤ 4 := by omega
    have h3 := Nat.mul_le_mul h1 h2
    omega
theorem mn_20 (x : Nat) : mnF x 20 = sizeH x := by
  simp only [mnF, sizeH, lenH, pc5, su, m32_0, m32_1, m32_2, m32_3, m32_4, Nat.div_div_eq_div_mul, Nat.zero_add, Nat.add_assoc, Nat.reducePow, Nat.reduceMul, Nat.pow_zero, Nat.div_one, Nat.pow_one]
theorem sg_20 (x : Nat) : sgF x 20 = strH x := by
  simp only [sgF, strH, st5, su, m32_0, m32_1, m32_2, m32_3, m32_4, Nat.div_div_eq_div_mul, Nat.zero_add, Nat.add_assoc, Nat.reducePow, Nat.reduceMul, Nat.reduceMod, Nat.pow_zero, Nat.div_one, Nat.pow_one, Nat.mul_zero, Nat.mul_one, Nat.add_zero, Nat.mul_comm _ 2, Nat.mul_comm _ 3, Nat.mul_comm _ 4]
theorem shr_l {x : Nat} (hx : x < 2 ^ 31) {i : Nat} (hi : i < 32) : nI x >>> (nI i &&& 31) = nI (x / 2 ^ i) := pk_shrN hx _ i (s_l i hi)
set_option maxHeartbeats 4000000 in
set_option maxRecDepth 100000 in
theorem c_L_many (l : Launch) (G : HG) (hp : HP) (x : Nat) (hx : x ≤ 1048575) : Met l yL_many [.code yL_many cL_many 3 (some .int)] { frames := 0, cells := 0, slots := 0, locals := 0 } (va_Pc [.int (nI x)] (RP G hp)) (vp_Si (fun r => r = nI (sizeH x))) 0 0 (fun _ => False) := by
  refine ro_ofW (by decide) (Nat.le_of_ble_eq_true rfl) ?_
  intro p e s m args below meth c ls X hr hlk hH hl
  have hS : va_S (fun _ => False) s.heap s.heap [] := va_S.rf
  have hl : lv_has ls 3 [(0, .int (nI x))] := hl
  refine lv_iconst (v := 0) X.1 X.2.1 dL_many_0 (by decide) ?_
  refine lv_istore_n (lv' := [(1, .int 0), (0, .int (nI x))]) X.1 X.2.1 dL_many_1 rfl hl (by decide) rfl (fun ls hl => ?_)
  refine lv_iconst (v := 0) X.1 X.2.1 dL_many_2 (by decide) ?_
  refine lv_istore_n (lv' := [(2, .int 0), (1, .int 0), (0, .int (nI x))]) X.1 X.2.1 dL_many_3 rfl hl (by decide) rfl (fun ls hl => ?_)
  have L4 : ∀ (f : Nat) (i : Nat), i + f = 20 → ∀ ls, lv_has ls 3 [(0, .int (nI x)), (1, .int (nI (mnF x i))), (2, .int (nI i))] → W p l e ({ frames := 0, cells := 0, slots := 0, locals := 0 } : Room) s m args below meth c s.heap [] 0 0 (MQ below (vp_Si (fun r => r = nI (sizeH x))) args s 0 0 (fun _ => False)) (F0 m 4 ls []) := by
    intro f
    induction f with
    | zero =>
      intro i h0 ls hl
      have h20 : i = 20 := by omega
      refine lv_iload_n X.1 X.2.1 dL_many_4 rfl (lv_at hl 2 rfl) ?_
      refine lv_bipush (v := 20) X.1 X.2.1 dL_many_5 (by decide) ?_
      refine lv_icmp_ge (tgt := 24) X.1 X.2.1 dL_many_7 (by decide) (fun c_7 => ?_) (fun c_7 => absurd (nI_le (a := 20) (b := i) (by omega) (by omega)) c_7)
      refine lv_iload_n X.1 X.2.1 dL_many_24 rfl (lv_at hl 1 rfl) ?_
      exact ro_i X hr hlk (by show nI _ = nI _; rw [h20, mn_20]) dL_many_25
    | succ f ih =>
      intro i h0 ls hl
      have hm := mnF_le x i
      refine lv_iload_n X.1 X.2.1 dL_many_4 rfl (lv_at hl 2 rfl) ?_
      refine lv_bipush (v := 20) X.1 X.2.1 dL_many_5 (by decide) ?_
      refine lv_icmp_ge (tgt := 24) X.1 X.2.1 dL_many_7 (by decide) (fun c_7 => absurd c_7 (nI_ge (a := i) (b := 20) (by omega) (by decide))) (fun c_7 => ?_)
      refine lv_iload_n X.1 X.2.1 dL_many_10 rfl (lv_at hl 1 rfl) ?_
      refine lv_iload_n X.1 X.2.1 dL_many_11 rfl (lv_at hl 0 rfl) ?_
      refine lv_iload_n X.1 X.2.1 dL_many_12 rfl (lv_at hl 2 rfl) ?_
      refine lv_ishr X.1 X.2.1 dL_many_13 ?_
      refine r_eqi (show (((nI x) >>> ((nI i) &&& 31)) : Int32) = nI (x / 2 ^ i) from shr_l (by omega) (by omega)) ?_
      refine lv_iconst (v := 1) X.1 X.2.1 dL_many_14 (by decide) ?_
      refine lv_iand X.1 X.2.1 dL_many_15 ?_
      refine r_eqi (show (((nI (x / 2 ^ i)) &&& 1) : Int32) = nI ((x / 2 ^ i) % 2) from n_and1 (x / 2 ^ i)) ?_
      refine lv_iadd X.1 X.2.1 dL_many_16 ?_
      refine r_eqi (show (((nI (mnF x i)) + (nI ((x / 2 ^ i) % 2))) : Int32) = nI ((mnF x i) + ((x / 2 ^ i) % 2)) from nI_add (mnF x i) ((x / 2 ^ i) % 2)) ?_
      refine r_eqi (show ((nI ((mnF x i) + ((x / 2 ^ i) % 2))) : Int32) = nI (mnF x (i + 1)) from rfl) ?_
      refine lv_istore_n (lv' := [(1, .int (nI (mnF x (i + 1)))), (0, .int (nI x)), (2, .int (nI i))]) X.1 X.2.1 dL_many_17 rfl hl (by decide) rfl (fun ls hl => ?_)
      refine lv_iinc (v := (nI (i + 1))) (lv' := [(2, .int (nI (i + 1))), (1, .int (nI (mnF x (i + 1)))), (0, .int (nI x))]) X.1 X.2.1 dL_many_18 hl (k := 2) rfl (nI_add i 1) (by decide) rfl (fun ls hl => ?_)
      refine lv_goto (tgt := 4) X.1 X.2.1 dL_many_21 (by decide) ?_
      exact ih (i + 1) (by omega) ls (lv_sub hl [2, 1, 0] rfl)
  exact L4 20 0 rfl ls (lv_sub hl [2, 1, 0] rfl)

set_option maxHeartbeats 4000000 in
set_option maxRecDepth 100000 in
theorem c_L_strength (l : Launch) (G : HG) (hp : HP) (x : Nat) (hx : x ≤ 1048575) : Met l yL_strength [.code yL_strength cL_strength 3 (some .int)] { frames := 0, cells := 0, slots := 0, locals := 0 } (va_Pc [.int (nI x)] (RP G hp)) (vp_Si (fun r => r = nI (strH x))) 0 0 (fun _ => False) := by
  refine ro_ofW (by decide) (Nat.le_of_ble_eq_true rfl) ?_
  intro p e s m args below meth c ls X hr hlk hH hl
  have hS : va_S (fun _ => False) s.heap s.heap [] := va_S.rf
  have hl : lv_has ls 3 [(0, .int (nI x))] := hl
  refine lv_iconst (v := 0) X.1 X.2.1 dL_strength_0 (by decide) ?_
  refine lv_istore_n (lv' := [(1, .int 0), (0, .int (nI x))]) X.1 X.2.1 dL_strength_1 rfl hl (by decide) rfl (fun ls hl => ?_)
  refine lv_iconst (v := 0) X.1 X.2.1 dL_strength_2 (by decide) ?_
  refine lv_istore_n (lv' := [(2, .int 0), (1, .int 0), (0, .int (nI x))]) X.1 X.2.1 dL_strength_3 rfl hl (by decide) rfl (fun ls hl => ?_)
  have L4 : ∀ (f : Nat) (i : Nat), i + f = 20 → ∀ ls, lv_has ls 3 [(0, .int (nI x)), (1, .int (nI (sgF x i))), (2, .int (nI i))] → W p l e ({ frames := 0, cells := 0, slots := 0, locals := 0 } : Room) s m args below meth c s.heap [] 0 0 (MQ below (vp_Si (fun r => r = nI (strH x))) args s 0 0 (fun _ => False)) (F0 m 4 ls []) := by
    intro f
    induction f with
    | zero =>
      intro i h0 ls hl
      have h20 : i = 20 := by omega
      refine lv_iload_n X.1 X.2.1 dL_strength_4 rfl (lv_at hl 2 rfl) ?_
      refine lv_bipush (v := 20) X.1 X.2.1 dL_strength_5 (by decide) ?_
      refine lv_icmp_ge (tgt := 28) X.1 X.2.1 dL_strength_7 (by decide) (fun c_7 => ?_) (fun c_7 => absurd (nI_le (a := 20) (b := i) (by omega) (by omega)) c_7)
      refine lv_iload_n X.1 X.2.1 dL_strength_28 rfl (lv_at hl 1 rfl) ?_
      exact ro_i X hr hlk (by show nI _ = nI _; rw [h20, sg_20]) dL_strength_29
    | succ f ih =>
      intro i h0 ls hl
      have hm := sgF_le x i
      refine lv_iload_n X.1 X.2.1 dL_strength_4 rfl (lv_at hl 2 rfl) ?_
      refine lv_bipush (v := 20) X.1 X.2.1 dL_strength_5 (by decide) ?_
      refine lv_icmp_ge (tgt := 28) X.1 X.2.1 dL_strength_7 (by decide) (fun c_7 => absurd c_7 (nI_ge (a := i) (b := 20) (by omega) (by decide))) (fun c_7 => ?_)
      refine lv_iload_n X.1 X.2.1 dL_strength_10 rfl (lv_at hl 1 rfl) ?_
      refine lv_iload_n X.1 X.2.1 dL_strength_11 rfl (lv_at hl 0 rfl) ?_
      refine lv_iload_n X.1 X.2.1 dL_strength_12 rfl (lv_at hl 2 rfl) ?_
      refine lv_ishr X.1 X.2.1 dL_strength_13 ?_
      refine r_eqi (show (((nI x) >>> ((nI i) &&& 31)) : Int32) = nI (x / 2 ^ i) from shr_l (by omega) (by omega)) ?_
      refine lv_iconst (v := 1) X.1 X.2.1 dL_strength_14 (by decide) ?_
      refine lv_iand X.1 X.2.1 dL_strength_15 ?_
      refine r_eqi (show (((nI (x / 2 ^ i)) &&& 1) : Int32) = nI ((x / 2 ^ i) % 2) from n_and1 (x / 2 ^ i)) ?_
      refine lv_iload_n X.1 X.2.1 dL_strength_16 rfl (lv_at hl 2 rfl) ?_
      refine lv_iconst (v := 5) X.1 X.2.1 dL_strength_17 (by decide) ?_
      refine lv_irem X.1 X.2.1 dL_strength_18 (by decide) ?_
      refine r_eqi (show (((nI i) - (nI i) / 5 * 5) : Int32) = nI (i % 5) from pk_rem (a := i) (d := 5) (by omega) (by omega) (by omega)) ?_
      refine lv_imul X.1 X.2.1 dL_strength_19 ?_
      refine r_eqi (show (((nI ((x / 2 ^ i) % 2)) * (nI (i % 5))) : Int32) = nI (((x / 2 ^ i) % 2) * (i % 5)) from pk_mul ((x / 2 ^ i) % 2) (i % 5)) ?_
      refine lv_iadd X.1 X.2.1 dL_strength_20 ?_
      refine r_eqi (show (((nI (sgF x i)) + (nI (((x / 2 ^ i) % 2) * (i % 5)))) : Int32) = nI ((sgF x i) + (((x / 2 ^ i) % 2) * (i % 5))) from nI_add (sgF x i) (((x / 2 ^ i) % 2) * (i % 5))) ?_
      refine r_eqi (show ((nI ((sgF x i) + (((x / 2 ^ i) % 2) * (i % 5)))) : Int32) = nI (sgF x (i + 1)) from rfl) ?_
      refine lv_istore_n (lv' := [(1, .int (nI (sgF x (i + 1)))), (0, .int (nI x)), (2, .int (nI i))]) X.1 X.2.1 dL_strength_21 rfl hl (by decide) rfl (fun ls hl => ?_)
      refine lv_iinc (v := (nI (i + 1))) (lv' := [(2, .int (nI (i + 1))), (1, .int (nI (sgF x (i + 1)))), (0, .int (nI x))]) X.1 X.2.1 dL_strength_22 hl (k := 2) rfl (nI_add i 1) (by decide) rfl (fun ls hl => ?_)
      refine lv_goto (tgt := 4) X.1 X.2.1 dL_strength_25 (by decide) ?_
      exact ih (i + 1) (by omega) ls (lv_sub hl [2, 1, 0] rfl)
  exact L4 20 0 rfl ls (lv_sub hl [2, 1, 0] rfl)

theorem sz_0 (h : Nat) : sizeH (h &&& 31) = lenH h 0 := by
  unfold sizeH lenH
  rw [su_and, su_and, su_and, su_and, show su 31 0 = 31 from by decide, show su 31 1 = 0 from by decide, show su 31 2 = 0 from by decide, show su 31 3 = 0 from by decide, Nat.and_zero, Nat.and_zero, Nat.and_zero, show (31 : Nat) = 2 ^ 5 - 1 from rfl, Nat.and_two_pow_sub_one_eq_mod, Nat.mod_eq_of_lt (show su h 0 < 2 ^ 5 from su_lt h 0)]
  rfl
theorem sz_1 (h : Nat) : sizeH (h &&& 992) = lenH h 1 := by
  unfold sizeH lenH
  rw [su_and, su_and, su_and, su_and, show su 992 0 = 0 from by decide, show su 992 1 = 31 from by decide, show su 992 2 = 0 from by decide, show su 992 3 = 0 from by decide, Nat.and_zero, Nat.and_zero, Nat.and_zero, show (31 : Nat) = 2 ^ 5 - 1 from rfl, Nat.and_two_pow_sub_one_eq_mod, Nat.mod_eq_of_lt (show su h 1 < 2 ^ 5 from su_lt h 1)]
  show 0 + pc5 (su h 1) + 0 + 0 = _
  omega
theorem sz_2 (h : Nat) : sizeH (h &&& 31744) = lenH h 2 := by
  unfold sizeH lenH
  rw [su_and, su_and, su_and, su_and, show su 31744 0 = 0 from by decide, show su 31744 1 = 0 from by decide, show su 31744 2 = 31 from by decide, show su 31744 3 = 0 from by decide, Nat.and_zero, Nat.and_zero, Nat.and_zero, show (31 : Nat) = 2 ^ 5 - 1 from rfl, Nat.and_two_pow_sub_one_eq_mod, Nat.mod_eq_of_lt (show su h 2 < 2 ^ 5 from su_lt h 2)]
  show 0 + 0 + pc5 (su h 2) + 0 = _
  omega
theorem sz_3 (h : Nat) : sizeH (h &&& 1015808) = lenH h 3 := by
  unfold sizeH lenH
  rw [su_and, su_and, su_and, su_and, show su 1015808 0 = 0 from by decide, show su 1015808 1 = 0 from by decide, show su 1015808 2 = 0 from by decide, show su 1015808 3 = 31 from by decide, Nat.and_zero, Nat.and_zero, Nat.and_zero, show (31 : Nat) = 2 ^ 5 - 1 from rfl, Nat.and_two_pow_sub_one_eq_mod, Nat.mod_eq_of_lt (show su h 3 < 2 ^ 5 from su_lt h 3)]
  show 0 + 0 + 0 + pc5 (su h 3) = _
  omega
theorem or_hi (a b k : Nat) (h : a < 2 ^ k) : a ||| b * 2 ^ k = a + 2 ^ k * b := by
  rw [Nat.or_comm, Nat.mul_comm b, ← Nat.two_pow_add_eq_or_of_lt h b, Nat.add_comm]
/-- of a hand: lengths by suits, three bits each, then the strength -/
def spN (h : Nat) : Nat := lenH h 0 + 8 * lenH h 1 + 64 * lenH h 2 + 512 * lenH h 3 + 4096 * strH h
theorem or_n {a b c : Nat} (k : Nat) (h : a < 2 ^ k) (e : b = c * 2 ^ k) : nI a ||| nI b = nI (a + 2 ^ k * c) := by
  rw [n_or, e, or_hi a c k h]
set_option maxHeartbeats 4000000 in
set_option maxRecDepth 100000 in
theorem c_L_shape (l : Launch) (G : HG) (hp : HP) (h : Nat) (hh : h ≤ 1048575) : Met l yL_shape [.code yL_shape cL_shape 1 (some .int)] { frames := 1, cells := 0, slots := 0, locals := 22 } (va_Pc [.int (nI h)] (RP G hp)) (vp_Si (fun r => r = nI (spN h))) 0 0 (fun _ => False) := by
  refine ro_ofW (by decide) (Nat.le_of_ble_eq_true rfl) ?_
  intro p e s m args below meth c ls X hr hlk hH hl
  have hS : va_S (fun _ => False) s.heap s.heap [] := va_S.rf
  have hl : lv_has ls 1 [(0, .int (nI h))] := hl
  have q0 := lenH_le h 0
  have q1 := lenH_le h 1
  have q2 := lenH_le h 2
  have q3 := lenH_le h 3
  have q4 := strH_le h
  refine lv_iload_n X.1 X.2.1 dL_shape_0 rfl (lv_at hl 0 rfl) ?_
  refine lv_bipush (v := 31) X.1 X.2.1 dL_shape_1 (by decide) ?_
  refine lv_iand X.1 X.2.1 dL_shape_3 ?_
  refine r_eqi (show (((nI h) &&& 31) : Int32) = nI (h &&& 31) from n_and h 31) ?_
  refine on_Si (run_S (As := [.int (nI (h &&& 31))]) (rest := []) X (c_L_many l G hp (h &&& 31) (Nat.le_trans Nat.and_le_left (by omega))) (rp_blind _) (rp_at X hH hS) mf_L_many tw_335 tw_336 ⟨rfl, rfl, Nat.le_of_ble_eq_true rfl, Nat.le_of_ble_eq_true rfl⟩ hl.1 rfl rfl (Nat.le_of_ble_eq_true rfl) ⟨Nat.le_of_ble_eq_true rfl, Nat.le_of_ble_eq_true rfl⟩ dL_shape_4) (fun r_4 q_4 => ?_)
  obtain rfl : r_4 = (nI (sizeH (h &&& 31))) := q_4
  refine r_eqi (show ((nI (sizeH (h &&& 31))) : Int32) = nI (lenH h 0) from by rw [sz_0]) ?_
  refine lv_iload_n X.1 X.2.1 dL_shape_7 rfl (lv_at hl 0 rfl) ?_
  refine lv_sipush (v := 992) X.1 X.2.1 dL_shape_8 (by decide) ?_
  refine lv_iand X.1 X.2.1 dL_shape_11 ?_
  refine r_eqi (show (((nI h) &&& 992) : Int32) = nI (h &&& 992) from n_and h 992) ?_
  refine on_Si (run_S (As := [.int (nI (h &&& 992))]) (rest := [.int (nI (lenH h 0))]) X (c_L_many l G hp (h &&& 992) (Nat.le_trans Nat.and_le_left (by omega))) (rp_blind _) (rp_at X hH hS) mf_L_many tw_335 tw_336 ⟨rfl, rfl, Nat.le_of_ble_eq_true rfl, Nat.le_of_ble_eq_true rfl⟩ hl.1 rfl rfl (Nat.le_of_ble_eq_true rfl) ⟨Nat.le_of_ble_eq_true rfl, Nat.le_of_ble_eq_true rfl⟩ dL_shape_12) (fun r_12 q_12 => ?_)
  obtain rfl : r_12 = (nI (sizeH (h &&& 992))) := q_12
  refine r_eqi (show ((nI (sizeH (h &&& 992))) : Int32) = nI (lenH h 1) from by rw [sz_1]) ?_
  refine lv_iconst (v := 3) X.1 X.2.1 dL_shape_15 (by decide) ?_
  refine lv_ishl X.1 X.2.1 dL_shape_16 ?_
  refine r_eqi (show (((nI (lenH h 1)) <<< (3 &&& 31)) : Int32) = nI ((lenH h 1) * 8) from pk_shlN (n := (lenH h 1)) _ 3 (by decide) (by omega)) ?_
  refine lv_ior X.1 X.2.1 dL_shape_17 ?_
  refine r_eqi (show (((nI (lenH h 0)) ||| (nI ((lenH h 1) * 8))) : Int32) = nI (lenH h 0 + 8 * lenH h 1) from or_n 3 (by omega) rfl) ?_
  refine lv_iload_n X.1 X.2.1 dL_shape_18 rfl (lv_at hl 0 rfl) ?_
  refine lv_sipush (v := 31744) X.1 X.2.1 dL_shape_19 (by decide) ?_
  refine lv_iand X.1 X.2.1 dL_shape_22 ?_
  refine r_eqi (show (((nI h) &&& 31744) : Int32) = nI (h &&& 31744) from n_and h 31744) ?_
  refine on_Si (run_S (As := [.int (nI (h &&& 31744))]) (rest := [.int (nI (lenH h 0 + 8 * lenH h 1))]) X (c_L_many l G hp (h &&& 31744) (Nat.le_trans Nat.and_le_left (by omega))) (rp_blind _) (rp_at X hH hS) mf_L_many tw_335 tw_336 ⟨rfl, rfl, Nat.le_of_ble_eq_true rfl, Nat.le_of_ble_eq_true rfl⟩ hl.1 rfl rfl (Nat.le_of_ble_eq_true rfl) ⟨Nat.le_of_ble_eq_true rfl, Nat.le_of_ble_eq_true rfl⟩ dL_shape_23) (fun r_23 q_23 => ?_)
  obtain rfl : r_23 = (nI (sizeH (h &&& 31744))) := q_23
  refine r_eqi (show ((nI (sizeH (h &&& 31744))) : Int32) = nI (lenH h 2) from by rw [sz_2]) ?_
  refine lv_bipush (v := 6) X.1 X.2.1 dL_shape_26 (by decide) ?_
  refine lv_ishl X.1 X.2.1 dL_shape_28 ?_
  refine r_eqi (show (((nI (lenH h 2)) <<< (6 &&& 31)) : Int32) = nI ((lenH h 2) * 64) from pk_shlN (n := (lenH h 2)) _ 6 (by decide) (by omega)) ?_
  refine lv_ior X.1 X.2.1 dL_shape_29 ?_
  refine r_eqi (show (((nI (lenH h 0 + 8 * lenH h 1)) ||| (nI ((lenH h 2) * 64))) : Int32) = nI (lenH h 0 + 8 * lenH h 1 + 64 * lenH h 2) from or_n 6 (by omega) rfl) ?_
  refine lv_iload_n X.1 X.2.1 dL_shape_30 rfl (lv_at hl 0 rfl) ?_
  refine r_const X tw_468 dL_shape_31 ?_
  refine lv_iand X.1 X.2.1 dL_shape_33 ?_
  refine r_eqi (show (((nI h) &&& 1015808) : Int32) = nI (h &&& 1015808) from n_and h 1015808) ?_
  refine on_Si (run_S (As := [.int (nI (h &&& 1015808))]) (rest := [.int (nI (lenH h 0 + 8 * lenH h 1 + 64 * lenH h 2))]) X (c_L_many l G hp (h &&& 1015808) (Nat.le_trans Nat.and_le_left (by omega))) (rp_blind _) (rp_at X hH hS) mf_L_many tw_335 tw_336 ⟨rfl, rfl, Nat.le_of_ble_eq_true rfl, Nat.le_of_ble_eq_true rfl⟩ hl.1 rfl rfl (Nat.le_of_ble_eq_true rfl) ⟨Nat.le_of_ble_eq_true rfl, Nat.le_of_ble_eq_true rfl⟩ dL_shape_34) (fun r_34 q_34 => ?_)
  obtain rfl : r_34 = (nI (sizeH (h &&& 1015808))) := q_34
  refine r_eqi (show ((nI (sizeH (h &&& 1015808))) : Int32) = nI (lenH h 3) from by rw [sz_3]) ?_
  refine lv_bipush (v := 9) X.1 X.2.1 dL_shape_37 (by decide) ?_
  refine lv_ishl X.1 X.2.1 dL_shape_39 ?_
  refine r_eqi (show (((nI (lenH h 3)) <<< (9 &&& 31)) : Int32) = nI ((lenH h 3) * 512) from pk_shlN (n := (lenH h 3)) _ 9 (by decide) (by omega)) ?_
  refine lv_ior X.1 X.2.1 dL_shape_40 ?_
  refine r_eqi (show (((nI (lenH h 0 + 8 * lenH h 1 + 64 * lenH h 2)) ||| (nI ((lenH h 3) * 512))) : Int32) = nI (lenH h 0 + 8 * lenH h 1 + 64 * lenH h 2 + 512 * lenH h 3) from or_n 9 (by omega) rfl) ?_
  refine lv_iload_n X.1 X.2.1 dL_shape_41 rfl (lv_at hl 0 rfl) ?_
  refine on_Si (run_S (As := [.int (nI h)]) (rest := [.int (nI (lenH h 0 + 8 * lenH h 1 + 64 * lenH h 2 + 512 * lenH h 3))]) X (c_L_strength l G hp h (by omega)) (rp_blind _) (rp_at X hH hS) mf_L_strength tw_469 tw_470 ⟨rfl, rfl, Nat.le_of_ble_eq_true rfl, Nat.le_of_ble_eq_true rfl⟩ hl.1 rfl rfl (Nat.le_of_ble_eq_true rfl) ⟨Nat.le_of_ble_eq_true rfl, Nat.le_of_ble_eq_true rfl⟩ dL_shape_42) (fun r_42 q_42 => ?_)
  obtain rfl : r_42 = (nI (strH h)) := q_42
  refine lv_bipush (v := 12) X.1 X.2.1 dL_shape_45 (by decide) ?_
  refine lv_ishl X.1 X.2.1 dL_shape_47 ?_
  refine r_eqi (show (((nI (strH h)) <<< (12 &&& 31)) : Int32) = nI ((strH h) * 4096) from pk_shlN (n := (strH h)) _ 12 (by decide) (by omega)) ?_
  refine lv_ior X.1 X.2.1 dL_shape_48 ?_
  refine r_eqi (show (((nI (lenH h 0 + 8 * lenH h 1 + 64 * lenH h 2 + 512 * lenH h 3)) ||| (nI ((strH h) * 4096))) : Int32) = nI (lenH h 0 + 8 * lenH h 1 + 64 * lenH h 2 + 512 * lenH h 3 + 4096 * strH h) from or_n 12 (by omega) rfl) ?_
  exact ro_i X hr hlk (by show nI _ = nI _; refine congrArg nI ?_; unfold spN; omega) dL_shape_49

set_option maxHeartbeats 4000000 in
set_option maxRecDepth 100000 in
theorem c_L_next (l : Launch) (G : HG) (hp : HP) (h : Nat) (hh : h ≤ 1048575) (h1 : 1 ≤ lowb h) : Met l yL_next [.code yL_next cL_next 3 (some .int)] { frames := 0, cells := 0, slots := 0, locals := 0 } (va_Pc [.int (nI h)] (RP G hp)) (vp_Si (fun r => r = nI (nhN h))) 0 0 (fun _ => False) := by
  refine ro_ofW (by decide) (Nat.le_of_ble_eq_true rfl) ?_
  intro p e s m args below meth c ls X hr hlk hH hl
  have hS : va_S (fun _ => False) s.heap s.heap [] := va_S.rf
  have hl : lv_has ls 3 [(0, .int (nI h))] := hl
  have hu := upN_le h
  have hl9 := lowb_le h
  refine lv_iload_n X.1 X.2.1 dL_next_0 rfl (lv_at hl 0 rfl) ?_
  refine lv_iload_n X.1 X.2.1 dL_next_1 rfl (lv_at hl 0 rfl) ?_
  refine lv_ineg X.1 X.2.1 dL_next_2 ?_
  refine lv_iand X.1 X.2.1 dL_next_3 ?_
  refine r_eqi (show (((nI h) &&& (-(nI h))) : Int32) = nI (lowb h) from low_i h hh) ?_
  refine lv_istore_n (lv' := [(1, .int (nI (lowb h))), (0, .int (nI h))]) X.1 X.2.1 dL_next_4 rfl hl (by decide) rfl (fun ls hl => ?_)
  refine lv_iload_n X.1 X.2.1 dL_next_5 rfl (lv_at hl 1 rfl) ?_
  refine lv_iload_n X.1 X.2.1 dL_next_6 rfl (lv_at hl 0 rfl) ?_
  refine lv_iadd X.1 X.2.1 dL_next_7 ?_
  refine r_eqi (show (((nI h) + (nI (lowb h))) : Int32) = nI (h + (lowb h)) from nI_add h (lowb h)) ?_
  refine r_eqi (show ((nI (h + (lowb h))) : Int32) = nI (upN h) from rfl) ?_
  refine lv_istore_n (lv' := [(2, .int (nI (upN h))), (1, .int (nI (lowb h))), (0, .int (nI h))]) X.1 X.2.1 dL_next_8 rfl hl (by decide) rfl (fun ls hl => ?_)
  refine lv_iload_n X.1 X.2.1 dL_next_9 rfl (lv_at hl 0 rfl) ?_
  refine lv_iload_n X.1 X.2.1 dL_next_10 rfl (lv_at hl 2 rfl) ?_
  refine lv_iload_n X.1 X.2.1 dL_next_11 rfl (lv_at hl 0 rfl) ?_
  refine lv_ixor X.1 X.2.1 dL_next_12 ?_
  refine r_eqi (show (((nI h) ^^^ (nI (upN h))) : Int32) = nI (h ^^^ (upN h)) from n_xor h (upN h)) ?_
  have hx9 : h ^^^ upN h < 2 ^ 31 := Nat.xor_lt_two_pow (by omega) (by omega)
  refine lv_iload_n X.1 X.2.1 dL_next_13 rfl (lv_at hl 1 rfl) ?_
  refine lv_idiv X.1 X.2.1 dL_next_14 (fun q => by have := k_eq (a := lowb h) (b := 0) (by omega) (by decide) q; omega) ?_
  refine r_eqi (show (((nI (h ^^^ (upN h))) / (nI (lowb h))) : Int32) = nI ((h ^^^ upN h) / lowb h) from pk_div (a := h ^^^ upN h) (d := lowb h) hx9 h1 (by omega)) ?_
  refine lv_iconst (v := 2) X.1 X.2.1 dL_next_15 (by decide) ?_
  refine lv_ishr X.1 X.2.1 dL_next_16 ?_
  refine r_eqi (show (((nI ((h ^^^ upN h) / lowb h)) >>> (2 &&& 31)) : Int32) = nI (((h ^^^ upN h) / lowb h) / 4) from pk_shrN (n := ((h ^^^ upN h) / lowb h)) (Nat.lt_of_le_of_lt (Nat.div_le_self _ _) hx9) _ 2 (by decide)) ?_
  refine lv_ior X.1 X.2.1 dL_next_17 ?_
  refine r_eqi (show (((nI (upN h)) ||| (nI (((h ^^^ upN h) / lowb h) / 4))) : Int32) = nI ((upN h) ||| (((h ^^^ upN h) / lowb h) / 4)) from n_or (upN h) (((h ^^^ upN h) / lowb h) / 4)) ?_
  exact ro_i X hr hlk rfl dL_next_18

