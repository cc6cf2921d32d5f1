/-! lists -/
def alE (mc : Int32) (ea n : Nat) : va_E := .inr (1, [.int mc, .ref ea, .int (nI n)])
set_option maxHeartbeats 4000000 in
set_option maxRecDepth 100000 in
theorem c_Jx4a65c_size_8abf5 (l : Launch) (G : HG) (hp : HP) (b9 ea n9 : Nat) (mc : Int32) (hb9 : hp b9 = some (alE mc ea n9)) : Met l yJx4a65c_size_8abf5 [.code yJx4a65c_size_8abf5 cJx4a65c_size_8abf5 1 (some .int)] { frames := 0, cells := 0, slots := 0, locals := 0 } (va_Pc [.ref b9] (RP G hp)) (vp_Si (fun r => r = nI n9)) 0 0 (fun _ => False) := by
  refine ro_ofW (by decide) (Nat.le_of_ble_eq_true rfl) ?_
  intro p e s m args below meth c ls X hr hlk hH hl
  have hS : va_S (fun _ => False) s.heap s.heap [] := va_S.rf
  have hl : lv_has ls 1 [(0, .ref b9)] := hl
  refine lv_aload_n X.1 X.2.1 dJx4a65c_size_8abf5_0 rfl (lv_at hl 0 rfl) ?_
  refine r_get X hH hb9 (v := .int (nI n9)) (C := RJx4a65c) (T := TJx4a65c) (N := 3) rfl tin_Jx4a65c 2 (by decide) tw_58 (fun _ h => h) rfl dJx4a65c_size_8abf5_1 ?_
  exact ro_i X hr hlk rfl dJx4a65c_size_8abf5_4

set_option maxHeartbeats 4000000 in
set_option maxRecDepth 100000 in
theorem c_J3_checkIndex_8e157 (l : Launch) (G : HG) (hp : HP) (i9 n9 : Nat) (hi9 : i9 < n9) (hn9 : n9 < 2 ^ 31) : Met l yJ3_checkIndex_8e157 [.code yJ3_checkIndex_8e157 cJ3_checkIndex_8e157 3 (some .int)] { frames := 0, cells := 0, slots := 0, locals := 0 } (va_Pc [.int (nI i9), .int (nI n9), .null] (RP G hp)) (vp_Si (fun r => r = nI i9)) 0 0 (fun _ => False) := by
  refine ro_ofW (by decide) (Nat.le_of_ble_eq_true rfl) ?_
  intro p e s m args below meth c ls X hr hlk hH hl
  have hS : va_S (fun _ => False) s.heap s.heap [] := va_S.rf
  have hl : lv_has ls 3 [(0, .int (nI i9)), (1, .int (nI n9)), (2, .null)] := hl
  refine lv_iload_n X.1 X.2.1 dJ3_checkIndex_8e157_0 rfl (lv_at hl 0 rfl) ?_
  refine lv_if_lt (tgt := 9) X.1 X.2.1 dJ3_checkIndex_8e157_1 (by decide) (fun c_1 => absurd c_1 (nI_nlt (a := i9) (b := 0) (by omega) (by omega))) (fun c_1 => ?_)
  refine lv_iload_n X.1 X.2.1 dJ3_checkIndex_8e157_4 rfl (lv_at hl 0 rfl) ?_
  refine lv_iload_n X.1 X.2.1 dJ3_checkIndex_8e157_5 rfl (lv_at hl 1 rfl) ?_
  refine lv_icmp_lt (tgt := 16) X.1 X.2.1 dJ3_checkIndex_8e157_6 (by decide) (fun c_6 => ?_) (fun c_6 => absurd (nI_lt (a := i9) (b := n9) (by omega) (by omega)) c_6)
  refine lv_iload_n X.1 X.2.1 dJ3_checkIndex_8e157_16 rfl (lv_at hl 0 rfl) ?_
  exact ro_i X hr hlk rfl dJ3_checkIndex_8e157_17

set_option maxHeartbeats 4000000 in
set_option maxRecDepth 100000 in
theorem c_J15_checkIndex_7cf53 (l : Launch) (G : HG) (hp : HP) (i9 n9 : Nat) (hi9 : i9 < n9) (hn9 : n9 < 2 ^ 31) : Met l yJ15_checkIndex_7cf53 [.code yJ15_checkIndex_7cf53 cJ15_checkIndex_7cf53 2 (some .int)] { frames := 1, cells := 0, slots := 0, locals := 22 } (va_Pc [.int (nI i9), .int (nI n9)] (RP G hp)) (vp_Si (fun r => r = nI i9)) 0 0 (fun _ => False) := by
  refine ro_ofW (by decide) (Nat.le_of_ble_eq_true rfl) ?_
  intro p e s m args below meth c ls X hr hlk hH hl
  have hS : va_S (fun _ => False) s.heap s.heap [] := va_S.rf
  have hl : lv_has ls 2 [(0, .int (nI i9)), (1, .int (nI n9))] := hl
  refine lv_iload_n X.1 X.2.1 dJ15_checkIndex_7cf53_0 rfl (lv_at hl 0 rfl) ?_
  refine lv_iload_n X.1 X.2.1 dJ15_checkIndex_7cf53_1 rfl (lv_at hl 1 rfl) ?_
  refine lv_null X.1 X.2.1 dJ15_checkIndex_7cf53_2 ?_
  refine on_Si (run_S (As := [.int (nI i9), .int (nI n9), .null]) (rest := []) X (c_J3_checkIndex_8e157 l G hp i9 n9 (by omega) (by omega)) (rp_blind _) (rp_at X hH hS) mf_J3_checkIndex_8e157 tw_228 tw_229 ⟨rfl, rfl, Nat.le_of_ble_eq_true rfl, Nat.le_of_ble_eq_true rfl⟩ hl.1 rfl rfl (Nat.le_of_ble_eq_true rfl) ⟨Nat.le_of_ble_eq_true rfl, Nat.le_of_ble_eq_true rfl⟩ dJ15_checkIndex_7cf53_3) (fun r_3 q_3 => ?_)
  obtain rfl : r_3 = (nI i9) := q_3
  exact ro_i X hr hlk rfl dJ15_checkIndex_7cf53_6

set_option maxHeartbeats 4000000 in
set_option maxRecDepth 100000 in
theorem c_Jx4a65c_elementData_915e3 (l : Launch) (G : HG) (hp : HP) (b9 ea n9 : Nat) (mc : Int32) (hb9 : hp b9 = some (alE mc ea n9)) (cap : Nat) (f9 : Nat → Option Nat) (hea : hp ea = some (.inl (G.2.1 3, cap, .inr (.inr (.inr (.inr f9)))))) (hcap : n9 ≤ cap) (hc2 : cap < 2 ^ 20) (i9 : Nat) (hi9 : i9 < cap) : Met l yJx4a65c_elementData_915e3 [.code yJx4a65c_elementData_915e3 cJx4a65c_elementData_915e3 2 (some (.object "java/lang/Object"))] { frames := 0, cells := 0, slots := 0, locals := 0 } (va_Pc [.ref b9, .int (nI i9)] (RP G hp)) (va_Sq (fun r => r = f9 i9)) 0 0 (fun _ => False) := by
  refine ro_ofW (by decide) (Nat.le_of_ble_eq_true rfl) ?_
  intro p e s m args below meth c ls X hr hlk hH hl
  have hS : va_S (fun _ => False) s.heap s.heap [] := va_S.rf
  have hl : lv_has ls 2 [(0, .ref b9), (1, .int (nI i9))] := hl
  refine lv_aload_n X.1 X.2.1 dJx4a65c_elementData_915e3_0 rfl (lv_at hl 0 rfl) ?_
  refine r_get X hH hb9 (v := .ref ea) (C := RJx4a65c) (T := TJx4a65c) (N := 3) rfl tin_Jx4a65c 1 (by decide) tw_57 (fun _ h => h) rfl dJx4a65c_elementData_915e3_1 ?_
  refine lv_iload_n X.1 X.2.1 dJx4a65c_elementData_915e3_4 rfl (lv_at hl 1 rfl) ?_
  refine r_aald X hH hea (show vp_in ((nI i9)) cap from vp_in_nI (n := i9) (by omega) (by omega)) (v := va_rf (f9 i9)) (by rw [nI_clamp (by omega)]) dJx4a65c_elementData_915e3_5 ?_
  exact ro_q (r := (f9 i9)) X hr (Or.inl ⟨_, rfl⟩) hlk rfl dJx4a65c_elementData_915e3_6

set_option maxHeartbeats 4000000 in
set_option maxRecDepth 100000 in
theorem c_Jx4a65c_get_915e3 (l : Launch) (G : HG) (hp : HP) (b9 ea n9 : Nat) (mc : Int32) (hb9 : hp b9 = some (alE mc ea n9)) (cap : Nat) (f9 : Nat → Option Nat) (hea : hp ea = some (.inl (G.2.1 3, cap, .inr (.inr (.inr (.inr f9)))))) (hcap : n9 ≤ cap) (hc2 : cap < 2 ^ 20) (i9 : Nat) (hi9 : i9 < n9) : Met l yJx4a65c_get_915e3 [.code yJx4a65c_get_915e3 cJx4a65c_get_915e3 2 (some (.object "java/lang/Object"))] { frames := 2, cells := 0, slots := 0, locals := 43 } (va_Pc [.ref b9, .int (nI i9)] (RP G hp)) (va_Sq (fun r => r = f9 i9)) 0 0 (fun _ => False) := by
  refine ro_ofW (by decide) (Nat.le_of_ble_eq_true rfl) ?_
  intro p e s m args below meth c ls X hr hlk hH hl
  have hS : va_S (fun _ => False) s.heap s.heap [] := va_S.rf
  have hl : lv_has ls 2 [(0, .ref b9), (1, .int (nI i9))] := hl
  refine lv_iload_n X.1 X.2.1 dJx4a65c_get_915e3_0 rfl (lv_at hl 1 rfl) ?_
  refine lv_aload_n X.1 X.2.1 dJx4a65c_get_915e3_1 rfl (lv_at hl 0 rfl) ?_
  refine r_get X hH hb9 (v := .int (nI n9)) (C := RJx4a65c) (T := TJx4a65c) (N := 3) rfl tin_Jx4a65c 2 (by decide) tw_58 (fun _ h => h) rfl dJx4a65c_get_915e3_2 ?_
  refine on_Si (run_S (As := [.int (nI i9), .int (nI n9)]) (rest := []) X (c_J15_checkIndex_7cf53 l G hp i9 n9 (by omega) (by omega)) (rp_blind _) (rp_at X hH hS) mf_J15_checkIndex_7cf53 tw_225 tw_226 ⟨rfl, rfl, Nat.le_of_ble_eq_true rfl, Nat.le_of_ble_eq_true rfl⟩ hl.1 rfl rfl (Nat.le_of_ble_eq_true rfl) ⟨Nat.le_of_ble_eq_true rfl, Nat.le_of_ble_eq_true rfl⟩ dJx4a65c_get_915e3_5) (fun r_5 q_5 => ?_)
  obtain rfl : r_5 = (nI i9) := q_5
  refine lv_pop X.1 X.2.1 dJx4a65c_get_915e3_8 rfl ?_
  refine lv_aload_n X.1 X.2.1 dJx4a65c_get_915e3_9 rfl (lv_at hl 0 rfl) ?_
  refine lv_iload_n X.1 X.2.1 dJx4a65c_get_915e3_10 rfl (lv_at hl 1 rfl) ?_
  refine on_Sq (run_V (C := RJx4a65c) (As := [.int (nI i9)]) (rest := []) X (c_Jx4a65c_elementData_915e3 l G hp b9 ea n9 mc hb9 cap f9 hea hcap hc2 i9 (by omega)) (rp_blind _) (rp_at X hH hS) (recv X hH hb9 (C := RJx4a65c) (T := TJx4a65c) (N := 3) rfl) mf_Jx4a65c_elementData_915e3 tw_231 tw_232 tw_233 ⟨rfl, rfl, Nat.le_of_ble_eq_true rfl, Nat.le_of_ble_eq_true rfl⟩ hl.1 rfl rfl (Nat.le_of_ble_eq_true rfl) ⟨Nat.le_of_ble_eq_true rfl, Nat.le_of_ble_eq_true rfl⟩ dJx4a65c_get_915e3_11) (fun r_11 q_11 => ?_)
  exact ro_q (r := r_11) X hr (Or.inl ⟨_, rfl⟩) hlk q_11 dJx4a65c_get_915e3_14
