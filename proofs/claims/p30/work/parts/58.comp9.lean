/-! the component: reads over rules and auction -/
set_option maxHeartbeats 4000000 in
set_option maxRecDepth 100000 in
theorem c_X6_handOf (l : Launch) (G : HG) (hp : HP) (b6 rl au pa e0 e1 : Nat) (hb6 : hp b6 = some (obE rl au pa e0 e1)) (p9 : Nat) (hp9 : p9 < 2) : Met l yX6_handOf [.code yX6_handOf cX6_handOf 2 (some .int)] { frames := 0, cells := 0, slots := 0, locals := 0 } (va_Pc [.ref b6, .int (nI p9)] (RP G hp)) (vp_Si (fun r => r = nI (if p9 = 0 then e0 else e1))) 0 0 (fun _ => False) := by
  refine ro_ofW (by decide) (Nat.le_of_ble_eq_true rfl) ?_
  intro p e s m args below meth c ls X hr hlk hH hl
  have hS : va_S (fun _ => False) s.heap s.heap [] := va_S.rf
  have hl : lv_has ls 2 [(0, .ref b6), (1, .int (nI p9))] := hl
  refine lv_iload_n X.1 X.2.1 dX6_handOf_0 rfl (lv_at hl 1 rfl) ?_
  refine lv_if_ne (tgt := 11) X.1 X.2.1 dX6_handOf_1 (by decide) (fun c_1 => ?_) (fun c_1 => ?_)
  · have k_1 := k_ne (a := p9) (b := 0) (by omega) (by omega) c_1
    refine lv_aload_n X.1 X.2.1 dX6_handOf_11 rfl (lv_at hl 0 rfl) ?_
    refine r_get X hH hb6 (v := .int (nI e1)) (C := RX6) (T := TX6) (N := 5) rfl tin_X6 4 (by decide) tw_152 (fun _ h => h) rfl dX6_handOf_12 ?_
    exact ro_i X hr hlk (by show nI _ = nI _; rw [if_neg k_1]) dX6_handOf_15
  · have k_1 := k_eq (a := p9) (b := 0) (by omega) (by omega) c_1
    refine lv_aload_n X.1 X.2.1 dX6_handOf_4 rfl (lv_at hl 0 rfl) ?_
    refine r_get X hH hb6 (v := .int (nI e0)) (C := RX6) (T := TX6) (N := 5) rfl tin_X6 3 (by decide) tw_151 (fun _ h => h) rfl dX6_handOf_5 ?_
    refine lv_goto (tgt := 15) X.1 X.2.1 dX6_handOf_8 (by decide) ?_
    exact ro_i X hr hlk (by show nI _ = nI _; rw [if_pos k_1]) dX6_handOf_15

theorem inI_n1 {n : Nat} {a : Int32} (h : a < 0) : inI a 0 ((n : Int) - 1) = 0 := by
  by_cases c : inI a 0 ((n : Int) - 1) = 0
  · exact c
  · have := (inI_1 c).1
    rw [Int32.lt_iff_toInt_lt] at h
    have z : (0 : Int32).toInt = 0 := rfl
    omega
theorem inI_n2 {n : Nat} {a : Int32} (hn : n ≤ 24) (h : nI n ≤ a) : inI a 0 ((n : Int) - 1) = 0 := by
  by_cases c : inI a 0 ((n : Int) - 1) = 0
  · exact c
  · have := (inI_1 c).2
    rw [Int32.le_iff_toInt_le, nI_toInt (by omega)] at h
    omega
theorem inI_n3 {n : Nat} {a : Int32} (hn : n ≤ 24) (h1 : ¬ a < 0) (h : ¬ nI n ≤ a) : inI a 0 ((n : Int) - 1) = 1 := by
  have c : ¬ inI a 0 ((n : Int) - 1) = 0 := fun q => inI_0 q (by
    rw [Int32.le_iff_toInt_le, nI_toInt (by omega)] at h
    rw [Int32.lt_iff_toInt_lt] at h1
    have z : (0 : Int32).toInt = 0 := rfl
    omega)
  unfold inI at c ⊢
  split
  · rfl
  · rename_i q
    exact absurd (if_neg q) c
set_option maxHeartbeats 4000000 in
set_option maxRecDepth 100000 in
theorem c_X6_isRule (l : Launch) (G : HG) (hp : HP) (b6 rl au pa e0 e1 : Nat) (hb6 : hp b6 = some (obE rl au pa e0 e1)) (eR : Nat) (mR : Int32) (n : Nat) (hn : n ≤ 24) (hrl : hp rl = some (alE mR eR n)) (a : Int32) : Met l yX6_isRule [.code yX6_isRule cX6_isRule 2 (some .boolean)] { frames := 1, cells := 0, slots := 0, locals := 20 } (va_Pc [.ref b6, .int a] (RP G hp)) (vp_Si (fun r => r = inI a 0 ((n : Int) - 1))) 0 0 (fun _ => False) := by
  refine ro_ofW (by decide) (Nat.le_of_ble_eq_true rfl) ?_
  intro p e s m args below meth c ls X hr hlk hH hl
  have hS : va_S (fun _ => False) s.heap s.heap [] := va_S.rf
  have hl : lv_has ls 2 [(0, .ref b6), (1, .int a)] := hl
  refine lv_iload_n X.1 X.2.1 dX6_isRule_0 rfl (lv_at hl 1 rfl) ?_
  refine lv_if_lt (tgt := 19) X.1 X.2.1 dX6_isRule_1 (by decide) (fun c_1 => ?_) (fun c_1 => ?_)
  · refine lv_iconst (v := 0) X.1 X.2.1 dX6_isRule_19 (by decide) ?_
    exact ro_z X hr hlk rfl (by show (_ : Int32) = inI a 0 ((n : Int) - 1); rw [inI_n1 c_1]) dX6_isRule_20
  · refine lv_iload_n X.1 X.2.1 dX6_isRule_4 rfl (lv_at hl 1 rfl) ?_
    refine lv_aload_n X.1 X.2.1 dX6_isRule_5 rfl (lv_at hl 0 rfl) ?_
    refine r_get X hH hb6 (v := .ref rl) (C := RX6) (T := TX6) (N := 5) rfl tin_X6 0 (by decide) tw_148 (fun _ h => h) rfl dX6_isRule_6 ?_
    refine on_Si (run_V (C := RJx4a65c) (As := []) (rest := [.int a]) X (c_Jx4a65c_size_8abf5 l G hp rl eR n mR hrl) (rp_blind _) (rp_at X hH hS) (recv X hH hrl (C := RJx4a65c) (T := TJx4a65c) (N := 3) rfl) mf_Jx4a65c_size_8abf5 tw_247 tw_218 tw_219 ⟨rfl, rfl, Nat.le_of_ble_eq_true rfl, Nat.le_of_ble_eq_true rfl⟩ hl.1 rfl rfl (Nat.le_of_ble_eq_true rfl) ⟨Nat.le_of_ble_eq_true rfl, Nat.le_of_ble_eq_true rfl⟩ dX6_isRule_9) (fun r_9 q_9 => ?_)
    obtain rfl : r_9 = (nI n) := q_9
    refine lv_icmp_ge (tgt := 19) X.1 X.2.1 dX6_isRule_12 (by decide) (fun c_12 => ?_) (fun c_12 => ?_)
    · refine lv_iconst (v := 0) X.1 X.2.1 dX6_isRule_19 (by decide) ?_
      exact ro_z X hr hlk rfl (by show (_ : Int32) = inI a 0 ((n : Int) - 1); rw [inI_n2 hn c_12]) dX6_isRule_20
    · refine lv_iconst (v := 1) X.1 X.2.1 dX6_isRule_15 (by decide) ?_
      refine lv_goto (tgt := 20) X.1 X.2.1 dX6_isRule_16 (by decide) ?_
      exact ro_z X hr hlk rfl (by show (_ : Int32) = inI a 0 ((n : Int) - 1); rw [inI_n3 hn c_1 c_12]) dX6_isRule_20
