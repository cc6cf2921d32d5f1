/-! the auction of the component -/
def auE (al p0 pn : Nat) (sk : Bool) : va_E := .inr (2, [.ref al, .ref p0, .ref pn, .int (bI sk)])
/-- its cells: itself, the list with its row, made calls CA i with their positions QA i, the start, the position now -/
def AU (G : HG) (hp : HP) (au al p0 pn ea cap : Nat) (mc : Int32) (f9 : Nat → Option Nat) (CA QA : Nat → Nat) (k : Nat) (cs : Nat → Nat → Int32) (sk : Bool) : Prop := hp au = some (auE al p0 pn sk) ∧ hp al = some (alE mc ea k) ∧ ((0 < cap → hp ea = some (.inl (G.2.1 3, cap, .inr (.inr (.inr (.inr f9)))))) ∧ (cap = 0 → ea = G.2.2 0)) ∧ k ≤ 12 ∧ k ≤ cap ∧ cap ≤ 34 ∧ (∀ i, i < k → f9 i = some (CA i) ∧ hp (CA i) = some (mcE (cs i 0) (cs i 1) (QA i)) ∧ hp (QA i) = some (poE (cs i 2) (cs i 4) (cs i 3))) ∧ hp pn = some (poE (cs k 2) (cs k 4) (cs k 3)) ∧ hp p0 = some (poE 0 (-6) 0)
set_option maxHeartbeats 4000000 in
set_option maxRecDepth 100000 in
theorem c_X0_turn (l : Launch) (G : HG) (hp : HP) (au al p0 pn ea cap : Nat) (mc : Int32) (f9 : Nat → Option Nat) (CA QA : Nat → Nat) (k : Nat) (cs : Nat → Nat → Int32) (sk : Bool) (hU9 : AU G hp au al p0 pn ea cap mc f9 CA QA k cs sk) : Met l yX0_turn [.code yX0_turn cX0_turn 1 (some .int)] { frames := 1, cells := 0, slots := 0, locals := 20 } (va_Pc [.ref au] (RP G hp)) (vp_Si (fun r => r = nI (k % 2))) 0 0 (fun _ => False) := by
  refine ro_ofW (by decide) (Nat.le_of_ble_eq_true rfl) ?_
  intro p e s m args below meth c ls X hr hlk hH hl
  have hS : va_S (fun _ => False) s.heap s.heap [] := va_S.rf
  have hl : lv_has ls 1 [(0, .ref au)] := hl
  have hk := hU9.2.2.2.1
  refine lv_aload_n X.1 X.2.1 dX0_turn_0 rfl (lv_at hl 0 rfl) ?_
  refine r_get X hH hU9.1 (v := .ref al) (C := RX0) (T := TX0) (N := 4) rfl tin_X0 0 (by decide) tw_101 (fun _ h => h) rfl dX0_turn_1 ?_
  refine on_Si (run_V (C := RJx4a65c) (As := []) (rest := []) X (c_Jx4a65c_size_8abf5 l G hp al ea k mc hU9.2.1) (rp_blind _) (rp_at X hH hS) (recv X hH hU9.2.1 (C := RJx4a65c) (T := TJx4a65c) (N := 3) rfl) mf_Jx4a65c_size_8abf5 tw_217 tw_218 tw_219 ⟨rfl, rfl, Nat.le_of_ble_eq_true rfl, Nat.le_of_ble_eq_true rfl⟩ hl.1 rfl rfl (Nat.le_of_ble_eq_true rfl) ⟨Nat.le_of_ble_eq_true rfl, Nat.le_of_ble_eq_true rfl⟩ dX0_turn_4) (fun r_4 q_4 => ?_)
  obtain rfl : r_4 = (nI k) := q_4
  refine lv_iconst (v := 2) X.1 X.2.1 dX0_turn_7 (by decide) ?_
  refine lv_irem X.1 X.2.1 dX0_turn_8 (by decide) ?_
  refine r_eqi (show (((nI k) - (nI k) / 2 * 2) : Int32) = nI (k % 2) from pk_rem (a := k) (d := 2) (by omega) (by omega) (by omega)) ?_
  exact ro_i X hr hlk rfl dX0_turn_9

def hpB (k : Nat) (cs : Nat → Nat → Int32) : Bool := decide (0 < k) && decide (cs (k - 1) 0 = 25)
theorem ov_hp (k : Nat) (cs : Nat → Nat → Int32) (sk : Bool) : ovB k cs sk = (sk || (decide (k = 12) || hpB k cs)) := rfl
set_option maxHeartbeats 4000000 in
set_option maxRecDepth 100000 in
theorem c_X0_hasPass (l : Launch) (G : HG) (hp : HP) (au al p0 pn ea cap : Nat) (mc : Int32) (f9 : Nat → Option Nat) (CA QA : Nat → Nat) (k : Nat) (cs : Nat → Nat → Int32) (sk : Bool) (hU9 : AU G hp au al p0 pn ea cap mc f9 CA QA k cs sk) : Met l yX0_hasPass [.code yX0_hasPass cX0_hasPass 2 (some .boolean)] { frames := 3, cells := 0, slots := 0, locals := 64 } (va_Pc [.ref au] (RP G hp)) (vp_Si (fun r => r = bI (hpB k cs))) 0 0 (fun _ => False) := by
  refine ro_ofW (by decide) (Nat.le_of_ble_eq_true rfl) ?_
  intro p e s m args below meth c ls X hr hlk hH hl
  have hS : va_S (fun _ => False) s.heap s.heap [] := va_S.rf
  have hl : lv_has ls 2 [(0, .ref au)] := hl
  have hk := hU9.2.2.2.1
  refine lv_aload_n X.1 X.2.1 dX0_hasPass_0 rfl (lv_at hl 0 rfl) ?_
  refine r_get X hH hU9.1 (v := .ref al) (C := RX0) (T := TX0) (N := 4) rfl tin_X0 0 (by decide) tw_101 (fun _ h => h) rfl dX0_hasPass_1 ?_
  refine on_Si (run_V (C := RJx4a65c) (As := []) (rest := []) X (c_Jx4a65c_size_8abf5 l G hp al ea k mc hU9.2.1) (rp_blind _) (rp_at X hH hS) (recv X hH hU9.2.1 (C := RJx4a65c) (T := TJx4a65c) (N := 3) rfl) mf_Jx4a65c_size_8abf5 tw_217 tw_218 tw_219 ⟨rfl, rfl, Nat.le_of_ble_eq_true rfl, Nat.le_of_ble_eq_true rfl⟩ hl.1 rfl rfl (Nat.le_of_ble_eq_true rfl) ⟨Nat.le_of_ble_eq_true rfl, Nat.le_of_ble_eq_true rfl⟩ dX0_hasPass_4) (fun r_4 q_4 => ?_)
  obtain rfl : r_4 = (nI k) := q_4
  refine lv_istore_n (lv' := [(1, .int (nI k)), (0, .ref au)]) X.1 X.2.1 dX0_hasPass_7 rfl hl (by decide) rfl (fun ls hl => ?_)
  refine lv_iload_n X.1 X.2.1 dX0_hasPass_8 rfl (lv_at hl 0 rfl) ?_
  refine lv_if_le (tgt := 37) X.1 X.2.1 dX0_hasPass_9 (by decide) (fun c_9 => ?_) (fun c_9 => ?_)
  · have k_9 := k_le (a := k) (b := 0) (by omega) (by omega) c_9
    refine lv_iconst (v := 0) X.1 X.2.1 dX0_hasPass_37 (by decide) ?_
    exact ro_z X hr hlk rfl (by show (_ : Int32) = bI _; unfold hpB; rw [decide_eq_false (show ¬ 0 < k by omega)]; rfl) dX0_hasPass_38
  · have k_9 := k_nle (a := k) (b := 0) (by omega) (by omega) c_9
    refine lv_aload_n X.1 X.2.1 dX0_hasPass_12 rfl (lv_at hl 1 rfl) ?_
    refine r_get X hH hU9.1 (v := .ref al) (C := RX0) (T := TX0) (N := 4) rfl tin_X0 0 (by decide) tw_101 (fun _ h => h) rfl dX0_hasPass_13 ?_
    refine lv_iload_n X.1 X.2.1 dX0_hasPass_16 rfl (lv_at hl 0 rfl) ?_
    refine lv_iconst (v := 1) X.1 X.2.1 dX0_hasPass_17 (by decide) ?_
    refine lv_isub X.1 X.2.1 dX0_hasPass_18 ?_
    refine r_eqi (show (((nI k) - 1) : Int32) = nI (k - 1) from pk_sub (a := k) (b := 1) (by omega)) ?_
    refine on_Sq (run_V (C := RJx4a65c) (As := [.int (nI (k - 1))]) (rest := []) X (c_Jx4a65c_get_915e3 l G hp al ea k mc hU9.2.1 cap f9 (hU9.2.2.1.1 (by have := hU9.2.2.2.2.1; omega)) hU9.2.2.2.2.1 (Nat.lt_of_le_of_lt hU9.2.2.2.2.2.1 (by decide)) (k - 1) (by omega)) (rp_blind _) (rp_at X hH hS) (recv X hH hU9.2.1 (C := RJx4a65c) (T := TJx4a65c) (N := 3) rfl) mf_Jx4a65c_get_915e3 tw_221 tw_222 tw_223 ⟨rfl, rfl, Nat.le_of_ble_eq_true rfl, Nat.le_of_ble_eq_true rfl⟩ hl.1 rfl rfl (Nat.le_of_ble_eq_true rfl) ⟨Nat.le_of_ble_eq_true rfl, Nat.le_of_ble_eq_true rfl⟩ dX0_hasPass_19) (fun r_19 q_19 => ?_)
    obtain rfl : r_19 = some (CA (k - 1)) := q_19.trans (hU9.2.2.2.2.2.2.1 (k - 1) (by omega)).1
    refine W.eq (g2 := F0 m 22 ls [.ref (CA (k - 1))]) rfl ?_
    refine r_cast X hH (hU9.2.2.2.2.2.2.1 (k - 1) (by omega)).2.1 (C := RX2) (T := TX2) (N := 3) rfl tw_235 dX0_hasPass_22 ?_
    refine r_getN X hH (hU9.2.2.2.2.2.2.1 (k - 1) (by omega)).2.1 (v := .int (cs (k - 1) 0)) (C := RX2) (T := TX2) (N := 3) rfl tin_X2 0 (by decide) tw_497 (fun _ h => h) rfl dX0_hasPass_25 ?_
    refine lv_bipush (v := 25) X.1 X.2.1 dX0_hasPass_28 (by decide) ?_
    refine lv_icmp_ne (tgt := 37) X.1 X.2.1 dX0_hasPass_30 (by decide) (fun c_30 => ?_) (fun c_30 => ?_)
    · refine lv_iconst (v := 0) X.1 X.2.1 dX0_hasPass_37 (by decide) ?_
      exact ro_z X hr hlk rfl (by show (_ : Int32) = bI _; unfold hpB; rw [decide_eq_true (show 0 < k by omega)]; rw [decide_eq_false c_30]; rfl) dX0_hasPass_38
    · refine lv_iconst (v := 1) X.1 X.2.1 dX0_hasPass_33 (by decide) ?_
      refine lv_goto (tgt := 38) X.1 X.2.1 dX0_hasPass_34 (by decide) ?_
      exact ro_z X hr hlk rfl (by show (_ : Int32) = bI _; unfold hpB; rw [decide_eq_true (show 0 < k by omega)]; rw [decide_eq_true c_30]; rfl) dX0_hasPass_38

set_option maxHeartbeats 4000000 in
set_option maxRecDepth 100000 in
theorem c_X0_isOver (l : Launch) (G : HG) (hp : HP) (au al p0 pn ea cap : Nat) (mc : Int32) (f9 : Nat → Option Nat) (CA QA : Nat → Nat) (k : Nat) (cs : Nat → Nat → Int32) (sk : Bool) (hU9 : AU G hp au al p0 pn ea cap mc f9 CA QA k cs sk) : Met l yX0_isOver [.code yX0_isOver cX0_isOver 1 (some .boolean)] { frames := 4, cells := 0, slots := 0, locals := 85 } (va_Pc [.ref au] (RP G hp)) (vp_Si (fun r => r = bI (ovB k cs sk))) 0 0 (fun _ => False) := by
  refine ro_ofW (by decide) (Nat.le_of_ble_eq_true rfl) ?_
  intro p e s m args below meth c ls X hr hlk hH hl
  have hS : va_S (fun _ => False) s.heap s.heap [] := va_S.rf
  have hl : lv_has ls 1 [(0, .ref au)] := hl
  have hk := hU9.2.2.2.1
  refine lv_aload_n X.1 X.2.1 dX0_isOver_0 rfl (lv_at hl 0 rfl) ?_
  refine r_get X hH hU9.1 (v := .int (bI sk)) (C := RX0) (T := TX0) (N := 4) rfl tin_X0 3 (by decide) tw_106 (fun _ h => h) rfl dX0_isOver_1 ?_
  refine lv_if_ne (tgt := 26) X.1 X.2.1 dX0_isOver_4 (by decide) (fun c_4 => ?_) (fun c_4 => ?_)
  · refine lv_iconst (v := 1) X.1 X.2.1 dX0_isOver_26 (by decide) ?_
    refine lv_goto (tgt := 31) X.1 X.2.1 dX0_isOver_27 (by decide) ?_
    exact ro_z X hr hlk rfl (by show (_ : Int32) = bI _; rw [ov_hp]; rw [bI_1 c_4]; rfl) dX0_isOver_31
  · refine lv_aload_n X.1 X.2.1 dX0_isOver_7 rfl (lv_at hl 0 rfl) ?_
    refine on_Si (run_V (C := RX0) (As := []) (rest := []) X (c_X0_hasPass l G hp au al p0 pn ea cap mc f9 CA QA k cs sk hU9) (rp_blind _) (rp_at X hH hS) (recv X hH hU9.1 (C := RX0) (T := TX0) (N := 4) rfl) mf_X0_hasPass tw_264 tw_266 tw_2 ⟨rfl, rfl, Nat.le_of_ble_eq_true rfl, Nat.le_of_ble_eq_true rfl⟩ hl.1 rfl rfl (Nat.le_of_ble_eq_true rfl) ⟨Nat.le_of_ble_eq_true rfl, Nat.le_of_ble_eq_true rfl⟩ dX0_isOver_8) (fun r_8 q_8 => ?_)
    obtain rfl : r_8 = (bI (hpB k cs)) := q_8
    refine lv_if_ne (tgt := 26) X.1 X.2.1 dX0_isOver_11 (by decide) (fun c_11 => ?_) (fun c_11 => ?_)
    · refine lv_iconst (v := 1) X.1 X.2.1 dX0_isOver_26 (by decide) ?_
      refine lv_goto (tgt := 31) X.1 X.2.1 dX0_isOver_27 (by decide) ?_
      exact ro_z X hr hlk rfl (by show (_ : Int32) = bI _; rw [ov_hp]; rw [bI_0 c_4]; rw [bI_1 c_11, Bool.or_true]; rfl) dX0_isOver_31
    · refine lv_aload_n X.1 X.2.1 dX0_isOver_14 rfl (lv_at hl 0 rfl) ?_
      refine r_get X hH hU9.1 (v := .ref al) (C := RX0) (T := TX0) (N := 4) rfl tin_X0 0 (by decide) tw_101 (fun _ h => h) rfl dX0_isOver_15 ?_
      refine on_Si (run_V (C := RJx4a65c) (As := []) (rest := []) X (c_Jx4a65c_size_8abf5 l G hp al ea k mc hU9.2.1) (rp_blind _) (rp_at X hH hS) (recv X hH hU9.2.1 (C := RJx4a65c) (T := TJx4a65c) (N := 3) rfl) mf_Jx4a65c_size_8abf5 tw_217 tw_218 tw_219 ⟨rfl, rfl, Nat.le_of_ble_eq_true rfl, Nat.le_of_ble_eq_true rfl⟩ hl.1 rfl rfl (Nat.le_of_ble_eq_true rfl) ⟨Nat.le_of_ble_eq_true rfl, Nat.le_of_ble_eq_true rfl⟩ dX0_isOver_18) (fun r_18 q_18 => ?_)
      obtain rfl : r_18 = (nI k) := q_18
      refine lv_bipush (v := 12) X.1 X.2.1 dX0_isOver_21 (by decide) ?_
      refine lv_icmp_lt (tgt := 30) X.1 X.2.1 dX0_isOver_23 (by decide) (fun c_23 => ?_) (fun c_23 => ?_)
      · have k_23 := k_lt (a := k) (b := 12) (by omega) (by omega) c_23
        refine lv_iconst (v := 0) X.1 X.2.1 dX0_isOver_30 (by decide) ?_
        exact ro_z X hr hlk rfl (by show (_ : Int32) = bI _; rw [ov_hp]; rw [bI_0 c_4]; rw [bI_0 c_11]; rw [decide_eq_false (show ¬ k = 12 by omega)]; rfl) dX0_isOver_31
      · have k_23 := k_nlt (a := k) (b := 12) (by omega) (by omega) c_23
        refine lv_iconst (v := 1) X.1 X.2.1 dX0_isOver_26 (by decide) ?_
        refine lv_goto (tgt := 31) X.1 X.2.1 dX0_isOver_27 (by decide) ?_
        exact ro_z X hr hlk rfl (by show (_ : Int32) = bI _; rw [ov_hp]; rw [bI_0 c_4]; rw [bI_0 c_11]; rw [decide_eq_true (show k = 12 by omega)]; rfl) dX0_isOver_31

set_option maxHeartbeats 4000000 in
set_option maxRecDepth 100000 in
theorem c_X0_ending (l : Launch) (G : HG) (hp : HP) (au al p0 pn ea cap : Nat) (mc : Int32) (f9 : Nat → Option Nat) (CA QA : Nat → Nat) (k : Nat) (cs : Nat → Nat → Int32) (sk : Bool) (hU9 : AU G hp au al p0 pn ea cap mc f9 CA QA k cs sk) : Met l yX0_ending [.code yX0_ending cX0_ending 1 (some .int)] { frames := 5, cells := 0, slots := 0, locals := 105 } (va_Pc [.ref au] (RP G hp)) (vp_Si (fun r => r = if sk = true then 2 else bI (ovB k cs sk))) 0 0 (fun _ => False) := by
  refine ro_ofW (by decide) (Nat.le_of_ble_eq_true rfl) ?_
  intro p e s m args below meth c ls X hr hlk hH hl
  have hS : va_S (fun _ => False) s.heap s.heap [] := va_S.rf
  have hl : lv_has ls 1 [(0, .ref au)] := hl
  refine lv_aload_n X.1 X.2.1 dX0_ending_0 rfl (lv_at hl 0 rfl) ?_
  refine r_get X hH hU9.1 (v := .int (bI sk)) (C := RX0) (T := TX0) (N := 4) rfl tin_X0 3 (by decide) tw_106 (fun _ h => h) rfl dX0_ending_1 ?_
  refine lv_if_eq (tgt := 9) X.1 X.2.1 dX0_ending_4 (by decide) (fun c_4 => ?_) (fun c_4 => ?_)
  · refine lv_aload_n X.1 X.2.1 dX0_ending_9 rfl (lv_at hl 0 rfl) ?_
    refine on_Si (run_V (C := RX0) (As := []) (rest := []) X (c_X0_isOver l G hp au al p0 pn ea cap mc f9 CA QA k cs sk hU9) (rp_blind _) (rp_at X hH hS) (recv X hH hU9.1 (C := RX0) (T := TX0) (N := 4) rfl) mf_X0_isOver tw_260 tw_261 tw_262 ⟨rfl, rfl, Nat.le_of_ble_eq_true rfl, Nat.le_of_ble_eq_true rfl⟩ hl.1 rfl rfl (Nat.le_of_ble_eq_true rfl) ⟨Nat.le_of_ble_eq_true rfl, Nat.le_of_ble_eq_true rfl⟩ dX0_ending_10) (fun r_10 q_10 => ?_)
    obtain rfl : r_10 = (bI (ovB k cs sk)) := q_10
    refine lv_if_eq (tgt := 20) X.1 X.2.1 dX0_ending_13 (by decide) (fun c_13 => ?_) (fun c_13 => ?_)
    · refine lv_iconst (v := 0) X.1 X.2.1 dX0_ending_20 (by decide) ?_
      exact ro_i X hr hlk (by show (_ : Int32) = if sk = true then 2 else bI (ovB k cs sk); rw [if_neg (fun q => Bool.false_ne_true ((bI_0 c_4).symm.trans q))]; rw [bI_0 c_13]; rfl) dX0_ending_21
    · refine lv_iconst (v := 1) X.1 X.2.1 dX0_ending_16 (by decide) ?_
      refine lv_goto (tgt := 21) X.1 X.2.1 dX0_ending_17 (by decide) ?_
      exact ro_i X hr hlk (by show (_ : Int32) = if sk = true then 2 else bI (ovB k cs sk); rw [if_neg (fun q => Bool.false_ne_true ((bI_0 c_4).symm.trans q))]; rw [bI_1 c_13]; rfl) dX0_ending_21
  · refine lv_iconst (v := 2) X.1 X.2.1 dX0_ending_7 (by decide) ?_
    exact ro_i X hr hlk (by show (_ : Int32) = if sk = true then 2 else bI (ovB k cs sk); rw [if_pos (bI_1 c_4)]) dX0_ending_8
