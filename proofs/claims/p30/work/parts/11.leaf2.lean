theorem size_small (a : Nat) (h : a < 32) : sizeH a = pc5 a := by
  have k : ∀ z, z < 32 → sizeH z = pc5 z := by decide +kernel
  exact k a h
theorem n_max (a b : Nat) (ha : a < 2 ^ 31) (hb : b < 2 ^ 31) : (if nI a < nI b then nI b else nI a) = nI (max a b) := by
  by_cases h : a < b
  · rw [if_pos (nI_lt h hb), Nat.max_eq_right (by omega)]
  · rw [if_neg (nI_nlt (by omega) ha), Nat.max_eq_left (by omega)]
theorem n_min (a b : Nat) (ha : a < 2 ^ 31) (hb : b < 2 ^ 31) : (if nI b < nI a then nI b else nI a) = nI (min a b) := by
  by_cases h : b < a
  · rw [if_pos (nI_lt h ha), Nat.min_eq_right (by omega)]
  · rw [if_neg (nI_nlt (by omega) hb), Nat.min_eq_left (by omega)]
theorem tw_math_max : Cond.code Lib.Math.max.name Lib.Math.max.code 2 (some .int) ∈ tG := List.mem_filter.mpr ⟨List.mem_of_getElem? (i := 324) (by decide +kernel), by decide +kernel⟩
theorem tw_math_min : Cond.code Lib.Math.min.name Lib.Math.min.code 2 (some .int) ∈ tG := List.mem_filter.mpr ⟨List.mem_of_getElem? (i := 327) (by decide +kernel), by decide +kernel⟩
def measN (h w : Nat) : Nat := if w = 4 then strH h else lenH h w
def snN (h w : Nat) : Nat := if 10 ≤ w then h else measN h (w / 2)
def jsN (a b w : Nat) : Nat := if w = 10 then a &&& b else if 10 < w then a ||| b else if w % 2 = 0 then min a b else max a b
/-- the cards from the highest rank downward without a gap -/
def ldN (x : Nat) : Nat := if x / 16 % 2 = 1 then (if x / 8 % 2 = 1 then (if x / 4 % 2 = 1 then (if x / 2 % 2 = 1 then (if x % 2 = 1 then 5 else 4) else 3) else 2) else 1) else 0
def wnN (a b : Nat) : Nat := min (ldN (a ||| b)) (max (pc5 a) (pc5 b))
def rfN (a b s t : Nat) : Nat := if su a s = 0 ∧ su a t ≠ 0 ∧ su b s ≠ 0 then 1 else 0
def trS (t a b s : Nat) : Nat := wnN (su a s) (su b s) + (if t ≠ 4 ∧ s ≠ t then rfN a b s t + rfN b a s t else 0)
/-- the tricks of two hands -/
def trN (t a b : Nat) : Nat := min (trS t a b 0 + trS t a b 1 + trS t a b 2 + trS t a b 3) 5
theorem wnN_le (a b : Nat) : wnN a b ≤ 5 := by
  unfold wnN
  have := pc5_le a
  have := pc5_le b
  omega
theorem rfN_le (a b s t : Nat) : rfN a b s t ≤ 1 := by unfold rfN; split <;> omega
theorem trN_le (t a b : Nat) : trN t a b ≤ 5 := by unfold trN; omega
theorem measN_le {h w : Nat} : measN h w ≤ 40 := by
  have := strH_le h
  have := lenH_le h w
  unfold measN
  split <;> omega
set_option maxHeartbeats 4000000 in
set_option maxRecDepth 100000 in
theorem c_X1_measure (l : Launch) (G : HG) (hp : HP) (h w9 : Nat) (hh : h ≤ 1048575) (hw : w9 < 5) : Met l yX1_measure [.code yX1_measure cX1_measure 2 (some .int)] { frames := 2, cells := 0, slots := 0, locals := 42 } (va_Pc [.int (nI h), .int (nI w9)] (RP G hp)) (vp_Si (fun r => r = nI (measN h w9))) 0 0 (fun _ => False) := by
  refine ro_ofW (by decide) (Nat.le_of_ble_eq_true rfl) ?_
  intro p e s m args below meth c ls X hr hlk hH hl
  have hS : va_S (fun _ => False) s.heap s.heap [] := va_S.rf
  have hl : lv_has ls 2 [(0, .int (nI h)), (1, .int (nI w9))] := hl
  refine lv_iload_n X.1 X.2.1 dX1_measure_0 rfl (lv_at hl 1 rfl) ?_
  refine lv_iconst (v := 4) X.1 X.2.1 dX1_measure_1 (by decide) ?_
  refine lv_icmp_ne (tgt := 12) X.1 X.2.1 dX1_measure_2 (by decide) (fun c_2 => ?_) (fun c_2 => ?_)
  · have k_2 := k_ne (a := w9) (b := 4) (by omega) (by omega) c_2
    refine lv_iload_n X.1 X.2.1 dX1_measure_12 rfl (lv_at hl 0 rfl) ?_
    refine lv_iload_n X.1 X.2.1 dX1_measure_13 rfl (lv_at hl 1 rfl) ?_
    refine on_Si (run_S (As := [.int (nI h), .int (nI w9)]) (rest := []) X (c_X1_ofSuit l G hp h w9 (by omega) (by omega)) (rp_blind _) (rp_at X hH hS) mf_X1_ofSuit tw_206 tw_207 ⟨rfl, rfl, Nat.le_of_ble_eq_true rfl, Nat.le_of_ble_eq_true rfl⟩ hl.1 rfl rfl (Nat.le_of_ble_eq_true rfl) ⟨Nat.le_of_ble_eq_true rfl, Nat.le_of_ble_eq_true rfl⟩ dX1_measure_14) (fun r_14 q_14 => ?_)
    obtain rfl : r_14 = (nI (su h w9)) := q_14
    refine on_Si (run_S (As := [.int (nI (su h w9))]) (rest := []) X (c_J6_bitCount_0f7a4 l G hp (su h w9) (Nat.lt_trans (su_lt _ _) (by decide))) (rp_blind _) (rp_at X hH hS) mf_J6_bitCount_0f7a4 tw_200 tw_201 ⟨rfl, rfl, Nat.le_of_ble_eq_true rfl, Nat.le_of_ble_eq_true rfl⟩ hl.1 rfl rfl (Nat.le_of_ble_eq_true rfl) ⟨Nat.le_of_ble_eq_true rfl, Nat.le_of_ble_eq_true rfl⟩ dX1_measure_17) (fun r_17 q_17 => ?_)
    obtain rfl : r_17 = (nI (sizeH (su h w9))) := q_17
    exact ro_i X hr hlk (by show nI _ = nI _; refine congrArg nI ?_; unfold measN; rw [if_neg k_2, size_small _ (su_lt h w9)]; rfl) dX1_measure_20
  · have k_2 := k_eq (a := w9) (b := 4) (by omega) (by omega) c_2
    refine lv_iload_n X.1 X.2.1 dX1_measure_5 rfl (lv_at hl 0 rfl) ?_
    refine on_Si (run_S (As := [.int (nI h)]) (rest := []) X (c_X1_strength l G hp h (by omega)) (rp_blind _) (rp_at X hH hS) mf_X1_strength tw_196 tw_197 ⟨rfl, rfl, Nat.le_of_ble_eq_true rfl, Nat.le_of_ble_eq_true rfl⟩ hl.1 rfl rfl (Nat.le_of_ble_eq_true rfl) ⟨Nat.le_of_ble_eq_true rfl, Nat.le_of_ble_eq_true rfl⟩ dX1_measure_6) (fun r_6 q_6 => ?_)
    obtain rfl : r_6 = (nI (strH h)) := q_6
    refine lv_goto (tgt := 20) X.1 X.2.1 dX1_measure_9 (by decide) ?_
    exact ro_i X hr hlk (by show nI _ = nI _; refine congrArg nI ?_; unfold measN; rw [if_pos k_2]) dX1_measure_20

set_option maxHeartbeats 4000000 in
set_option maxRecDepth 100000 in
theorem c_X1_shownNumber (l : Launch) (G : HG) (hp : HP) (h w9 : Nat) (hh : h ≤ 1048575) (hw : w9 < 12) : Met l yX1_shownNumber [.code yX1_shownNumber cX1_shownNumber 2 (some .int)] { frames := 3, cells := 0, slots := 0, locals := 63 } (va_Pc [.int (nI h), .int (nI w9)] (RP G hp)) (vp_Si (fun r => r = nI (snN h w9))) 0 0 (fun _ => False) := by
  refine ro_ofW (by decide) (Nat.le_of_ble_eq_true rfl) ?_
  intro p e s m args below meth c ls X hr hlk hH hl
  have hS : va_S (fun _ => False) s.heap s.heap [] := va_S.rf
  have hl : lv_has ls 2 [(0, .int (nI h)), (1, .int (nI w9))] := hl
  refine lv_iload_n X.1 X.2.1 dX1_shownNumber_0 rfl (lv_at hl 1 rfl) ?_
  refine lv_bipush (v := 10) X.1 X.2.1 dX1_shownNumber_1 (by decide) ?_
  refine lv_icmp_lt (tgt := 10) X.1 X.2.1 dX1_shownNumber_3 (by decide) (fun c_3 => ?_) (fun c_3 => ?_)
  · have k_3 := k_lt (a := w9) (b := 10) (by omega) (by omega) c_3
    refine lv_iload_n X.1 X.2.1 dX1_shownNumber_10 rfl (lv_at hl 0 rfl) ?_
    refine lv_iload_n X.1 X.2.1 dX1_shownNumber_11 rfl (lv_at hl 1 rfl) ?_
    refine lv_iconst (v := 2) X.1 X.2.1 dX1_shownNumber_12 (by decide) ?_
    refine lv_idiv X.1 X.2.1 dX1_shownNumber_13 (by decide) ?_
    refine r_eqi (show (((nI w9) / 2) : Int32) = nI (w9 / 2) from pk_div (a := w9) (d := 2) (by omega) (by omega) (by omega)) ?_
    refine on_Si (run_S (As := [.int (nI h), .int (nI (w9 / 2))]) (rest := []) X (c_X1_measure l G hp h (w9 / 2) (by omega) (by omega)) (rp_blind _) (rp_at X hH hS) mf_X1_measure tw_556 tw_194 ⟨rfl, rfl, Nat.le_of_ble_eq_true rfl, Nat.le_of_ble_eq_true rfl⟩ hl.1 rfl rfl (Nat.le_of_ble_eq_true rfl) ⟨Nat.le_of_ble_eq_true rfl, Nat.le_of_ble_eq_true rfl⟩ dX1_shownNumber_14) (fun r_14 q_14 => ?_)
    obtain rfl : r_14 = (nI (measN h (w9 / 2))) := q_14
    exact ro_i X hr hlk (by show nI _ = nI _; refine congrArg nI ?_; unfold snN; rw [if_neg (show ¬ 10 ≤ w9 by omega)]) dX1_shownNumber_17
  · have k_3 := k_nlt (a := w9) (b := 10) (by omega) (by omega) c_3
    refine lv_iload_n X.1 X.2.1 dX1_shownNumber_6 rfl (lv_at hl 0 rfl) ?_
    refine lv_goto (tgt := 17) X.1 X.2.1 dX1_shownNumber_7 (by decide) ?_
    exact ro_i X hr hlk (by show nI _ = nI _; refine congrArg nI ?_; unfold snN; rw [if_pos k_3]) dX1_shownNumber_17

set_option maxHeartbeats 4000000 in
set_option maxRecDepth 100000 in
theorem c_X1_joinShown (l : Launch) (G : HG) (hp : HP) (a b w9 : Nat) (ha : a < 2 ^ 31) (hb : b < 2 ^ 31) (hw : w9 < 12) : Met l yX1_joinShown [.code yX1_joinShown cX1_joinShown 3 (some .int)] { frames := 1, cells := 0, slots := 0, locals := 13 } (va_Pc [.int (nI a), .int (nI b), .int (nI w9)] (RP G hp)) (vp_Si (fun r => r = nI (jsN a b w9))) 0 0 (fun _ => False) := by
  refine ro_ofW (by decide) (Nat.le_of_ble_eq_true rfl) ?_
  intro p e s m args below meth c ls X hr hlk hH hl
  have hS : va_S (fun _ => False) s.heap s.heap [] := va_S.rf
  have hl : lv_has ls 3 [(0, .int (nI a)), (1, .int (nI b)), (2, .int (nI w9))] := hl
  refine lv_iload_n X.1 X.2.1 dX1_joinShown_0 rfl (lv_at hl 2 rfl) ?_
  refine lv_bipush (v := 10) X.1 X.2.1 dX1_joinShown_1 (by decide) ?_
  refine lv_icmp_ne (tgt := 10) X.1 X.2.1 dX1_joinShown_3 (by decide) (fun c_3 => ?_) (fun c_3 => ?_)
  · have k_3 := k_ne (a := w9) (b := 10) (by omega) (by omega) c_3
    refine lv_iload_n X.1 X.2.1 dX1_joinShown_10 rfl (lv_at hl 2 rfl) ?_
    refine lv_bipush (v := 10) X.1 X.2.1 dX1_joinShown_11 (by decide) ?_
    refine lv_icmp_le (tgt := 20) X.1 X.2.1 dX1_joinShown_13 (by decide) (fun c_13 => ?_) (fun c_13 => ?_)
    · have k_13 := k_le (a := w9) (b := 10) (by omega) (by omega) c_13
      refine lv_iload_n X.1 X.2.1 dX1_joinShown_20 rfl (lv_at hl 2 rfl) ?_
      refine lv_iconst (v := 2) X.1 X.2.1 dX1_joinShown_21 (by decide) ?_
      refine lv_irem X.1 X.2.1 dX1_joinShown_22 (by decide) ?_
      refine r_eqi (show (((nI w9) - (nI w9) / 2 * 2) : Int32) = nI (w9 % 2) from pk_rem (a := w9) (d := 2) (by omega) (by omega) (by omega)) ?_
      refine lv_if_ne (tgt := 34) X.1 X.2.1 dX1_joinShown_23 (by decide) (fun c_23 => ?_) (fun c_23 => ?_)
      · have k_23 := k_ne (a := (w9 % 2)) (b := 0) (by omega) (by omega) c_23
        refine lv_iload_n X.1 X.2.1 dX1_joinShown_34 rfl (lv_at hl 0 rfl) ?_
        refine lv_iload_n X.1 X.2.1 dX1_joinShown_35 rfl (lv_at hl 1 rfl) ?_
        refine va_mmax X.1 X.2.1 (by rw [X.2.2.1]; exact hl.1.symm) X.2.2.2.1 (tb_all X.2.2.2.2.1 _ tw_322) (tb_all X.2.2.2.2.1 _ tw_323) (tb_all X.2.2.2.2.1 _ tw_29) (tb_all X.2.2.2.2.1 _ tw_math_max) (Nat.le_of_ble_eq_true rfl) (Nat.le_of_ble_eq_true rfl) (Nat.le_of_ble_eq_true rfl) (Nat.le_of_ble_eq_true rfl) dX1_joinShown_36 ?_
        refine r_eqi (n_max a b (by omega) (by omega)) ?_
        exact ro_i X hr hlk (by show nI _ = nI _; refine congrArg nI ?_; unfold jsN; rw [if_neg (show ¬ w9 = 10 by omega)]; rw [if_neg (show ¬ 10 < w9 by omega)]; rw [if_neg (show ¬ w9 % 2 = 0 by omega)]) dX1_joinShown_39
      · have k_23 := k_eq (a := (w9 % 2)) (b := 0) (by omega) (by omega) c_23
        refine lv_iload_n X.1 X.2.1 dX1_joinShown_26 rfl (lv_at hl 0 rfl) ?_
        refine lv_iload_n X.1 X.2.1 dX1_joinShown_27 rfl (lv_at hl 1 rfl) ?_
        refine va_mmin X.1 X.2.1 (by rw [X.2.2.1]; exact hl.1.symm) X.2.2.2.1 (tb_all X.2.2.2.2.1 _ tw_325) (tb_all X.2.2.2.2.1 _ tw_326) (tb_all X.2.2.2.2.1 _ tw_29) (tb_all X.2.2.2.2.1 _ tw_math_min) (Nat.le_of_ble_eq_true rfl) (Nat.le_of_ble_eq_true rfl) (Nat.le_of_ble_eq_true rfl) (Nat.le_of_ble_eq_true rfl) dX1_joinShown_28 ?_
        refine r_eqi (n_min a b (by omega) (by omega)) ?_
        refine lv_goto (tgt := 39) X.1 X.2.1 dX1_joinShown_31 (by decide) ?_
        exact ro_i X hr hlk (by show nI _ = nI _; refine congrArg nI ?_; unfold jsN; rw [if_neg (show ¬ w9 = 10 by omega)]; rw [if_neg (show ¬ 10 < w9 by omega)]; rw [if_pos (show w9 % 2 = 0 by omega)]) dX1_joinShown_39
    · have k_13 := k_nle (a := w9) (b := 10) (by omega) (by omega) c_13
      refine lv_iload_n X.1 X.2.1 dX1_joinShown_16 rfl (lv_at hl 0 rfl) ?_
      refine lv_iload_n X.1 X.2.1 dX1_joinShown_17 rfl (lv_at hl 1 rfl) ?_
      refine lv_ior X.1 X.2.1 dX1_joinShown_18 ?_
      refine r_eqi (show (((nI a) ||| (nI b)) : Int32) = nI (a ||| b) from n_or a b) ?_
      exact ro_i X hr hlk (by show nI _ = nI _; refine congrArg nI ?_; unfold jsN; rw [if_neg (show ¬ w9 = 10 by omega)]; rw [if_pos (show 10 < w9 by omega)]) dX1_joinShown_19
  · have k_3 := k_eq (a := w9) (b := 10) (by omega) (by omega) c_3
    refine lv_iload_n X.1 X.2.1 dX1_joinShown_6 rfl (lv_at hl 0 rfl) ?_
    refine lv_iload_n X.1 X.2.1 dX1_joinShown_7 rfl (lv_at hl 1 rfl) ?_
    refine lv_iand X.1 X.2.1 dX1_joinShown_8 ?_
    refine r_eqi (show (((nI a) &&& (nI b)) : Int32) = nI (a &&& b) from n_and a b) ?_
    exact ro_i X hr hlk (by show nI _ = nI _; refine congrArg nI ?_; unfold jsN; rw [if_pos k_3]) dX1_joinShown_9

set_option maxHeartbeats 4000000 in
set_option maxRecDepth 100000 in
theorem c_X1_winners (l : Launch) (G : HG) (hp : HP) (a b : Nat) (ha : a < 32) (hb : b < 32) : Met l yX1_winners [.code yX1_winners cX1_winners 5 (some .int)] { frames := 1, cells := 0, slots := 0, locals := 20 } (va_Pc [.int (nI a), .int (nI b)] (RP G hp)) (vp_Si (fun r => r = nI (wnN a b))) 0 0 (fun _ => False) := by
  refine ro_ofW (by decide) (Nat.le_of_ble_eq_true rfl) ?_
  intro p e s m args below meth c ls X hr hlk hH hl
  have hS : va_S (fun _ => False) s.heap s.heap [] := va_S.rf
  have hl : lv_has ls 5 [(0, .int (nI a)), (1, .int (nI b))] := hl
  have hab : (a ||| b) < 2 ^ 5 := Nat.or_lt_two_pow ha hb
  have hsa := sizeH_le a
  have hsb := sizeH_le b
  refine lv_iload_n X.1 X.2.1 dX1_winners_0 rfl (lv_at hl 0 rfl) ?_
  refine lv_iload_n X.1 X.2.1 dX1_winners_1 rfl (lv_at hl 1 rfl) ?_
  refine lv_ior X.1 X.2.1 dX1_winners_2 ?_
  refine r_eqi (show (((nI a) ||| (nI b)) : Int32) = nI (a ||| b) from n_or a b) ?_
  refine lv_istore_n (lv' := [(2, .int (nI (a ||| b))), (0, .int (nI a)), (1, .int (nI b))]) X.1 X.2.1 dX1_winners_3 rfl hl (by decide) rfl (fun ls hl => ?_)
  refine lv_iconst (v := 0) X.1 X.2.1 dX1_winners_4 (by decide) ?_
  refine lv_istore_n (lv' := [(3, .int 0), (2, .int (nI (a ||| b))), (0, .int (nI a)), (1, .int (nI b))]) X.1 X.2.1 dX1_winners_5 rfl hl (by decide) rfl (fun ls hl => ?_)
  refine lv_iconst (v := 4) X.1 X.2.1 dX1_winners_6 (by decide) ?_
  refine lv_istore (lv' := [(4, .int 4), (3, .int 0), (2, .int (nI (a ||| b))), (0, .int (nI a)), (1, .int (nI b))]) X.1 X.2.1 dX1_winners_7 hl (by decide) rfl (fun ls hl => ?_)
  refine lv_iload X.1 X.2.1 dX1_winners_9 (lv_at hl 0 rfl) ?_
  refine lv_if_lt (tgt := 33) X.1 X.2.1 dX1_winners_11 (by decide) (fun c_11 => absurd c_11 (by decide)) (fun c_11 => ?_)
  refine lv_iload_n X.1 X.2.1 dX1_winners_14 rfl (lv_at hl 2 rfl) ?_
  refine lv_iload X.1 X.2.1 dX1_winners_15 (lv_at hl 0 rfl) ?_
  refine lv_ishr X.1 X.2.1 dX1_winners_17 ?_
  refine r_eqi (show (((nI (a ||| b)) >>> (4 &&& 31)) : Int32) = nI ((a ||| b) / 16) from pk_shrN (n := (a ||| b)) (by omega) _ 4 (by decide)) ?_
  refine lv_iconst (v := 1) X.1 X.2.1 dX1_winners_18 (by decide) ?_
  refine lv_iand X.1 X.2.1 dX1_winners_19 ?_
  refine r_eqi (show (((nI ((a ||| b) / 16)) &&& 1) : Int32) = nI (((a ||| b) / 16) % 2) from n_and1 ((a ||| b) / 16)) ?_
  refine lv_iconst (v := 1) X.1 X.2.1 dX1_winners_20 (by decide) ?_
  refine lv_icmp_ne (tgt := 33) X.1 X.2.1 dX1_winners_21 (by decide) (fun c_21 => ?_) (fun c_21 => ?_)
  · have k_21 := k_ne (a := (((a ||| b) / 16) % 2)) (b := 1) (by omega) (by omega) c_21
    refine lv_iload_n X.1 X.2.1 dX1_winners_33 rfl (lv_at hl 1 rfl) ?_
    refine lv_iload_n X.1 X.2.1 dX1_winners_34 rfl (lv_at hl 3 rfl) ?_
    refine on_Si (run_S (As := [.int (nI a)]) (rest := [.int 0]) X (c_J6_bitCount_0f7a4 l G hp a (by omega)) (rp_blind _) (rp_at X hH hS) mf_J6_bitCount_0f7a4 tw_200 tw_201 ⟨rfl, rfl, Nat.le_of_ble_eq_true rfl, Nat.le_of_ble_eq_true rfl⟩ hl.1 rfl rfl (Nat.le_of_ble_eq_true rfl) ⟨Nat.le_of_ble_eq_true rfl, Nat.le_of_ble_eq_true rfl⟩ dX1_winners_35) (fun r_35 q_35 => ?_)
    obtain rfl : r_35 = (nI (sizeH a)) := q_35
    refine lv_iload_n X.1 X.2.1 dX1_winners_38 rfl (lv_at hl 4 rfl) ?_
    refine on_Si (run_S (As := [.int (nI b)]) (rest := [.int (nI (sizeH a)), .int 0]) X (c_J6_bitCount_0f7a4 l G hp b (by omega)) (rp_blind _) (rp_at X hH hS) mf_J6_bitCount_0f7a4 tw_200 tw_201 ⟨rfl, rfl, Nat.le_of_ble_eq_true rfl, Nat.le_of_ble_eq_true rfl⟩ hl.1 rfl rfl (Nat.le_of_ble_eq_true rfl) ⟨Nat.le_of_ble_eq_true rfl, Nat.le_of_ble_eq_true rfl⟩ dX1_winners_39) (fun r_39 q_39 => ?_)
    obtain rfl : r_39 = (nI (sizeH b)) := q_39
    refine va_mmax X.1 X.2.1 (by rw [X.2.2.1]; exact hl.1.symm) X.2.2.2.1 (tb_all X.2.2.2.2.1 _ tw_322) (tb_all X.2.2.2.2.1 _ tw_323) (tb_all X.2.2.2.2.1 _ tw_29) (tb_all X.2.2.2.2.1 _ tw_math_max) (Nat.le_of_ble_eq_true rfl) (Nat.le_of_ble_eq_true rfl) (Nat.le_of_ble_eq_true rfl) (Nat.le_of_ble_eq_true rfl) dX1_winners_42 ?_
    refine r_eqi (n_max (sizeH a) (sizeH b) (by omega) (by omega)) ?_
    refine va_mmin X.1 X.2.1 (by rw [X.2.2.1]; exact hl.1.symm) X.2.2.2.1 (tb_all X.2.2.2.2.1 _ tw_325) (tb_all X.2.2.2.2.1 _ tw_326) (tb_all X.2.2.2.2.1 _ tw_29) (tb_all X.2.2.2.2.1 _ tw_math_min) (Nat.le_of_ble_eq_true rfl) (Nat.le_of_ble_eq_true rfl) (Nat.le_of_ble_eq_true rfl) (Nat.le_of_ble_eq_true rfl) dX1_winners_45 ?_
    refine r_eqi (n_min 0 (max (sizeH a) (sizeH b)) (by omega) (by omega)) ?_
    exact ro_i X hr hlk (by show nI _ = nI _; refine congrArg nI ?_; rw [size_small a ha, size_small b hb]; unfold wnN ldN; rw [if_neg (show ¬ (a ||| b) / 16 % 2 = 1 by assumption)]) dX1_winners_48
  · have k_21 := k_eq (a := (((a ||| b) / 16) % 2)) (b := 1) (by omega) (by omega) c_21
    refine lv_iinc (v := 1) (lv' := [(3, .int 1), (4, .int 4), (2, .int (nI (a ||| b))), (0, .int (nI a)), (1, .int (nI b))]) X.1 X.2.1 dX1_winners_24 hl (k := 1) rfl (by decide) (by decide) rfl (fun ls hl => ?_)
    refine lv_iinc (v := 3) (lv' := [(4, .int 3), (3, .int 1), (2, .int (nI (a ||| b))), (0, .int (nI a)), (1, .int (nI b))]) X.1 X.2.1 dX1_winners_27 hl (k := 1) rfl (by decide) (by decide) rfl (fun ls hl => ?_)
    refine lv_goto (tgt := 9) X.1 X.2.1 dX1_winners_30 (by decide) ?_
    refine lv_iload X.1 X.2.1 dX1_winners_9 (lv_at hl 0 rfl) ?_
    refine lv_if_lt (tgt := 33) X.1 X.2.1 dX1_winners_11 (by decide) (fun c_11 => absurd c_11 (by decide)) (fun c_11 => ?_)
    refine lv_iload_n X.1 X.2.1 dX1_winners_14 rfl (lv_at hl 2 rfl) ?_
    refine lv_iload X.1 X.2.1 dX1_winners_15 (lv_at hl 0 rfl) ?_
    refine lv_ishr X.1 X.2.1 dX1_winners_17 ?_
    refine r_eqi (show (((nI (a ||| b)) >>> (3 &&& 31)) : Int32) = nI ((a ||| b) / 8) from pk_shrN (n := (a ||| b)) (by omega) _ 3 (by decide)) ?_
    refine lv_iconst (v := 1) X.1 X.2.1 dX1_winners_18 (by decide) ?_
    refine lv_iand X.1 X.2.1 dX1_winners_19 ?_
    refine r_eqi (show (((nI ((a ||| b) / 8)) &&& 1) : Int32) = nI (((a ||| b) / 8) % 2) from n_and1 ((a ||| b) / 8)) ?_
    refine lv_iconst (v := 1) X.1 X.2.1 dX1_winners_20 (by decide) ?_
    refine lv_icmp_ne (tgt := 33) X.1 X.2.1 dX1_winners_21 (by decide) (fun c_21 => ?_) (fun c_21 => ?_)
    · have k_21 := k_ne (a := (((a ||| b) / 8) % 2)) (b := 1) (by omega) (by omega) c_21
      refine lv_iload_n X.1 X.2.1 dX1_winners_33 rfl (lv_at hl 1 rfl) ?_
      refine lv_iload_n X.1 X.2.1 dX1_winners_34 rfl (lv_at hl 3 rfl) ?_
      refine on_Si (run_S (As := [.int (nI a)]) (rest := [.int 1]) X (c_J6_bitCount_0f7a4 l G hp a (by omega)) (rp_blind _) (rp_at X hH hS) mf_J6_bitCount_0f7a4 tw_200 tw_201 ⟨rfl, rfl, Nat.le_of_ble_eq_true rfl, Nat.le_of_ble_eq_true rfl⟩ hl.1 rfl rfl (Nat.le_of_ble_eq_true rfl) ⟨Nat.le_of_ble_eq_true rfl, Nat.le_of_ble_eq_true rfl⟩ dX1_winners_35) (fun r_35 q_35 => ?_)
      obtain rfl : r_35 = (nI (sizeH a)) := q_35
      refine lv_iload_n X.1 X.2.1 dX1_winners_38 rfl (lv_at hl 4 rfl) ?_
      refine on_Si (run_S (As := [.int (nI b)]) (rest := [.int (nI (sizeH a)), .int 1]) X (c_J6_bitCount_0f7a4 l G hp b (by omega)) (rp_blind _) (rp_at X hH hS) mf_J6_bitCount_0f7a4 tw_200 tw_201 ⟨rfl, rfl, Nat.le_of_ble_eq_true rfl, Nat.le_of_ble_eq_true rfl⟩ hl.1 rfl rfl (Nat.le_of_ble_eq_true rfl) ⟨Nat.le_of_ble_eq_true rfl, Nat.le_of_ble_eq_true rfl⟩ dX1_winners_39) (fun r_39 q_39 => ?_)
      obtain rfl : r_39 = (nI (sizeH b)) := q_39
      refine va_mmax X.1 X.2.1 (by rw [X.2.2.1]; exact hl.1.symm) X.2.2.2.1 (tb_all X.2.2.2.2.1 _ tw_322) (tb_all X.2.2.2.2.1 _ tw_323) (tb_all X.2.2.2.2.1 _ tw_29) (tb_all X.2.2.2.2.1 _ tw_math_max) (Nat.le_of_ble_eq_true rfl) (Nat.le_of_ble_eq_true rfl) (Nat.le_of_ble_eq_true rfl) (Nat.le_of_ble_eq_true rfl) dX1_winners_42 ?_
      refine r_eqi (n_max (sizeH a) (sizeH b) (by omega) (by omega)) ?_
      refine va_mmin X.1 X.2.1 (by rw [X.2.2.1]; exact hl.1.symm) X.2.2.2.1 (tb_all X.2.2.2.2.1 _ tw_325) (tb_all X.2.2.2.2.1 _ tw_326) (tb_all X.2.2.2.2.1 _ tw_29) (tb_all X.2.2.2.2.1 _ tw_math_min) (Nat.le_of_ble_eq_true rfl) (Nat.le_of_ble_eq_true rfl) (Nat.le_of_ble_eq_true rfl) (Nat.le_of_ble_eq_true rfl) dX1_winners_45 ?_
      refine r_eqi (n_min 1 (max (sizeH a) (sizeH b)) (by omega) (by omega)) ?_
      exact ro_i X hr hlk (by show nI _ = nI _; refine congrArg nI ?_; rw [size_small a ha, size_small b hb]; unfold wnN ldN; rw [if_pos (show (a ||| b) / 16 % 2 = 1 by assumption)]; rw [if_neg (show ¬ (a ||| b) / 8 % 2 = 1 by assumption)]) dX1_winners_48
    · have k_21 := k_eq (a := (((a ||| b) / 8) % 2)) (b := 1) (by omega) (by omega) c_21
      refine lv_iinc (v := 2) (lv' := [(3, .int 2), (4, .int 3), (2, .int (nI (a ||| b))), (0, .int (nI a)), (1, .int (nI b))]) X.1 X.2.1 dX1_winners_24 hl (k := 1) rfl (by decide) (by decide) rfl (fun ls hl => ?_)
      refine lv_iinc (v := 2) (lv' := [(4, .int 2), (3, .int 2), (2, .int (nI (a ||| b))), (0, .int (nI a)), (1, .int (nI b))]) X.1 X.2.1 dX1_winners_27 hl (k := 1) rfl (by decide) (by decide) rfl (fun ls hl => ?_)
      refine lv_goto (tgt := 9) X.1 X.2.1 dX1_winners_30 (by decide) ?_
      refine lv_iload X.1 X.2.1 dX1_winners_9 (lv_at hl 0 rfl) ?_
      refine lv_if_lt (tgt := 33) X.1 X.2.1 dX1_winners_11 (by decide) (fun c_11 => absurd c_11 (by decide)) (fun c_11 => ?_)
      refine lv_iload_n X.1 X.2.1 dX1_winners_14 rfl (lv_at hl 2 rfl) ?_
      refine lv_iload X.1 X.2.1 dX1_winners_15 (lv_at hl 0 rfl) ?_
      refine lv_ishr X.1 X.2.1 dX1_winners_17 ?_
      refine r_eqi (show (((nI (a ||| b)) >>> (2 &&& 31)) : Int32) = nI ((a ||| b) / 4) from pk_shrN (n := (a ||| b)) (by omega) _ 2 (by decide)) ?_
      refine lv_iconst (v := 1) X.1 X.2.1 dX1_winners_18 (by decide) ?_
      refine lv_iand X.1 X.2.1 dX1_winners_19 ?_
      refine r_eqi (show (((nI ((a ||| b) / 4)) &&& 1) : Int32) = nI (((a ||| b) / 4) % 2) from n_and1 ((a ||| b) / 4)) ?_
      refine lv_iconst (v := 1) X.1 X.2.1 dX1_winners_20 (by decide) ?_
      refine lv_icmp_ne (tgt := 33) X.1 X.2.1 dX1_winners_21 (by decide) (fun c_21 => ?_) (fun c_21 => ?_)
      · have k_21 := k_ne (a := (((a ||| b) / 4) % 2)) (b := 1) (by omega) (by omega) c_21
        refine lv_iload_n X.1 X.2.1 dX1_winners_33 rfl (lv_at hl 1 rfl) ?_
        refine lv_iload_n X.1 X.2.1 dX1_winners_34 rfl (lv_at hl 3 rfl) ?_
        refine on_Si (run_S (As := [.int (nI a)]) (rest := [.int 2]) X (c_J6_bitCount_0f7a4 l G hp a (by omega)) (rp_blind _) (rp_at X hH hS) mf_J6_bitCount_0f7a4 tw_200 tw_201 ⟨rfl, rfl, Nat.le_of_ble_eq_true rfl, Nat.le_of_ble_eq_true rfl⟩ hl.1 rfl rfl (Nat.le_of_ble_eq_true rfl) ⟨Nat.le_of_ble_eq_true rfl, Nat.le_of_ble_eq_true rfl⟩ dX1_winners_35) (fun r_35 q_35 => ?_)
        obtain rfl : r_35 = (nI (sizeH a)) := q_35
        refine lv_iload_n X.1 X.2.1 dX1_winners_38 rfl (lv_at hl 4 rfl) ?_
        refine on_Si (run_S (As := [.int (nI b)]) (rest := [.int (nI (sizeH a)), .int 2]) X (c_J6_bitCount_0f7a4 l G hp b (by omega)) (rp_blind _) (rp_at X hH hS) mf_J6_bitCount_0f7a4 tw_200 tw_201 ⟨rfl, rfl, Nat.le_of_ble_eq_true rfl, Nat.le_of_ble_eq_true rfl⟩ hl.1 rfl rfl (Nat.le_of_ble_eq_true rfl) ⟨Nat.le_of_ble_eq_true rfl, Nat.le_of_ble_eq_true rfl⟩ dX1_winners_39) (fun r_39 q_39 => ?_)
        obtain rfl : r_39 = (nI (sizeH b)) := q_39
        refine va_mmax X.1 X.2.1 (by rw [X.2.2.1]; exact hl.1.symm) X.2.2.2.1 (tb_all X.2.2.2.2.1 _ tw_322) (tb_all X.2.2.2.2.1 _ tw_323) (tb_all X.2.2.2.2.1 _ tw_29) (tb_all X.2.2.2.2.1 _ tw_math_max) (Nat.le_of_ble_eq_true rfl) (Nat.le_of_ble_eq_true rfl) (Nat.le_of_ble_eq_true rfl) (Nat.le_of_ble_eq_true rfl) dX1_winners_42 ?_
        refine r_eqi (n_max (sizeH a) (sizeH b) (by omega) (by omega)) ?_
        refine va_mmin X.1 X.2.1 (by rw [X.2.2.1]; exact hl.1.symm) X.2.2.2.1 (tb_all X.2.2.2.2.1 _ tw_325) (tb_all X.2.2.2.2.1 _ tw_326) (tb_all X.2.2.2.2.1 _ tw_29) (tb_all X.2.2.2.2.1 _ tw_math_min) (Nat.le_of_ble_eq_true rfl) (Nat.le_of_ble_eq_true rfl) (Nat.le_of_ble_eq_true rfl) (Nat.le_of_ble_eq_true rfl) dX1_winners_45 ?_
        refine r_eqi (n_min 2 (max (sizeH a) (sizeH b)) (by omega) (by omega)) ?_
        exact ro_i X hr hlk (by show nI _ = nI _; refine congrArg nI ?_; rw [size_small a ha, size_small b hb]; unfold wnN ldN; rw [if_pos (show (a ||| b) / 16 % 2 = 1 by assumption)]; rw [if_pos (show (a ||| b) / 8 % 2 = 1 by assumption)]; rw [if_neg (show ¬ (a ||| b) / 4 % 2 = 1 by assumption)]) dX1_winners_48
      · have k_21 := k_eq (a := (((a ||| b) / 4) % 2)) (b := 1) (by omega) (by omega) c_21
        refine lv_iinc (v := 3) (lv' := [(3, .int 3), (4, .int 2), (2, .int (nI (a ||| b))), (0, .int (nI a)), (1, .int (nI b))]) X.1 X.2.1 dX1_winners_24 hl (k := 1) rfl (by decide) (by decide) rfl (fun ls hl => ?_)
        refine lv_iinc (v := 1) (lv' := [(4, .int 1), (3, .int 3), (2, .int (nI (a ||| b))), (0, .int (nI a)), (1, .int (nI b))]) X.1 X.2.1 dX1_winners_27 hl (k := 1) rfl (by decide) (by decide) rfl (fun ls hl => ?_)
        refine lv_goto (tgt := 9) X.1 X.2.1 dX1_winners_30 (by decide) ?_
        refine lv_iload X.1 X.2.1 dX1_winners_9 (lv_at hl 0 rfl) ?_
        refine lv_if_lt (tgt := 33) X.1 X.2.1 dX1_winners_11 (by decide) (fun c_11 => absurd c_11 (by decide)) (fun c_11 => ?_)
        refine lv_iload_n X.1 X.2.1 dX1_winners_14 rfl (lv_at hl 2 rfl) ?_
        refine lv_iload X.1 X.2.1 dX1_winners_15 (lv_at hl 0 rfl) ?_
        refine lv_ishr X.1 X.2.1 dX1_winners_17 ?_
        refine r_eqi (show (((nI (a ||| b)) >>> (1 &&& 31)) : Int32) = nI ((a ||| b) / 2) from pk_shrN (n := (a ||| b)) (by omega) _ 1 (by decide)) ?_
        refine lv_iconst (v := 1) X.1 X.2.1 dX1_winners_18 (by decide) ?_
        refine lv_iand X.1 X.2.1 dX1_winners_19 ?_
        refine r_eqi (show (((nI ((a ||| b) / 2)) &&& 1) : Int32) = nI (((a ||| b) / 2) % 2) from n_and1 ((a ||| b) / 2)) ?_
        refine lv_iconst (v := 1) X.1 X.2.1 dX1_winners_20 (by decide) ?_
        refine lv_icmp_ne (tgt := 33) X.1 X.2.1 dX1_winners_21 (by decide) (fun c_21 => ?_) (fun c_21 => ?_)
        · have k_21 := k_ne (a := (((a ||| b) / 2) % 2)) (b := 1) (by omega) (by omega) c_21
          refine lv_iload_n X.1 X.2.1 dX1_winners_33 rfl (lv_at hl 1 rfl) ?_
          refine lv_iload_n X.1 X.2.1 dX1_winners_34 rfl (lv_at hl 3 rfl) ?_
          refine on_Si (run_S (As := [.int (nI a)]) (rest := [.int 3]) X (c_J6_bitCount_0f7a4 l G hp a (by omega)) (rp_blind _) (rp_at X hH hS) mf_J6_bitCount_0f7a4 tw_200 tw_201 ⟨rfl, rfl, Nat.le_of_ble_eq_true rfl, Nat.le_of_ble_eq_true rfl⟩ hl.1 rfl rfl (Nat.le_of_ble_eq_true rfl) ⟨Nat.le_of_ble_eq_true rfl, Nat.le_of_ble_eq_true rfl⟩ dX1_winners_35) (fun r_35 q_35 => ?_)
          obtain rfl : r_35 = (nI (sizeH a)) := q_35
          refine lv_iload_n X.1 X.2.1 dX1_winners_38 rfl (lv_at hl 4 rfl) ?_
          refine on_Si (run_S (As := [.int (nI b)]) (rest := [.int (nI (sizeH a)), .int 3]) X (c_J6_bitCount_0f7a4 l G hp b (by omega)) (rp_blind _) (rp_at X hH hS) mf_J6_bitCount_0f7a4 tw_200 tw_201 ⟨rfl, rfl, Nat.le_of_ble_eq_true rfl, Nat.le_of_ble_eq_true rfl⟩ hl.1 rfl rfl (Nat.le_of_ble_eq_true rfl) ⟨Nat.le_of_ble_eq_true rfl, Nat.le_of_ble_eq_true rfl⟩ dX1_winners_39) (fun r_39 q_39 => ?_)
          obtain rfl : r_39 = (nI (sizeH b)) := q_39
          refine va_mmax X.1 X.2.1 (by rw [X.2.2.1]; exact hl.1.symm) X.2.2.2.1 (tb_all X.2.2.2.2.1 _ tw_322) (tb_all X.2.2.2.2.1 _ tw_323) (tb_all X.2.2.2.2.1 _ tw_29) (tb_all X.2.2.2.2.1 _ tw_math_max) (Nat.le_of_ble_eq_true rfl) (Nat.le_of_ble_eq_true rfl) (Nat.le_of_ble_eq_true rfl) (Nat.le_of_ble_eq_true rfl) dX1_winners_42 ?_
          refine r_eqi (n_max (sizeH a) (sizeH b) (by omega) (by omega)) ?_
          refine va_mmin X.1 X.2.1 (by rw [X.2.2.1]; exact hl.1.symm) X.2.2.2.1 (tb_all X.2.2.2.2.1 _ tw_325) (tb_all X.2.2.2.2.1 _ tw_326) (tb_all X.2.2.2.2.1 _ tw_29) (tb_all X.2.2.2.2.1 _ tw_math_min) (Nat.le_of_ble_eq_true rfl) (Nat.le_of_ble_eq_true rfl) (Nat.le_of_ble_eq_true rfl) (Nat.le_of_ble_eq_true rfl) dX1_winners_45 ?_
          refine r_eqi (n_min 3 (max (sizeH a) (sizeH b)) (by omega) (by omega)) ?_
          exact ro_i X hr hlk (by show nI _ = nI _; refine congrArg nI ?_; rw [size_small a ha, size_small b hb]; unfold wnN ldN; rw [if_pos (show (a ||| b) / 16 % 2 = 1 by assumption)]; rw [if_pos (show (a ||| b) / 8 % 2 = 1 by assumption)]; rw [if_pos (show (a ||| b) / 4 % 2 = 1 by assumption)]; rw [if_neg (show ¬ (a ||| b) / 2 % 2 = 1 by assumption)]) dX1_winners_48
        · have k_21 := k_eq (a := (((a ||| b) / 2) % 2)) (b := 1) (by omega) (by omega) c_21
          refine lv_iinc (v := 4) (lv' := [(3, .int 4), (4, .int 1), (2, .int (nI (a ||| b))), (0, .int (nI a)), (1, .int (nI b))]) X.1 X.2.1 dX1_winners_24 hl (k := 1) rfl (by decide) (by decide) rfl (fun ls hl => ?_)
          refine lv_iinc (v := 0) (lv' := [(4, .int 0), (3, .int 4), (2, .int (nI (a ||| b))), (0, .int (nI a)), (1, .int (nI b))]) X.1 X.2.1 dX1_winners_27 hl (k := 1) rfl (by decide) (by decide) rfl (fun ls hl => ?_)
          refine lv_goto (tgt := 9) X.1 X.2.1 dX1_winners_30 (by decide) ?_
          refine lv_iload X.1 X.2.1 dX1_winners_9 (lv_at hl 0 rfl) ?_
          refine lv_if_lt (tgt := 33) X.1 X.2.1 dX1_winners_11 (by decide) (fun c_11 => absurd c_11 (by decide)) (fun c_11 => ?_)
          refine lv_iload_n X.1 X.2.1 dX1_winners_14 rfl (lv_at hl 2 rfl) ?_
          refine lv_iload X.1 X.2.1 dX1_winners_15 (lv_at hl 0 rfl) ?_
          refine lv_ishr X.1 X.2.1 dX1_winners_17 ?_
          refine r_eqi (show (((nI (a ||| b)) >>> (0 &&& 31)) : Int32) = nI (a ||| b) from sb_shr0 (nI (a ||| b))) ?_
          refine lv_iconst (v := 1) X.1 X.2.1 dX1_winners_18 (by decide) ?_
          refine lv_iand X.1 X.2.1 dX1_winners_19 ?_
          refine r_eqi (show (((nI (a ||| b)) &&& 1) : Int32) = nI ((a ||| b) % 2) from n_and1 (a ||| b)) ?_
          refine lv_iconst (v := 1) X.1 X.2.1 dX1_winners_20 (by decide) ?_
          refine lv_icmp_ne (tgt := 33) X.1 X.2.1 dX1_winners_21 (by decide) (fun c_21 => ?_) (fun c_21 => ?_)
          · have k_21 := k_ne (a := ((a ||| b) % 2)) (b := 1) (by omega) (by omega) c_21
            refine lv_iload_n X.1 X.2.1 dX1_winners_33 rfl (lv_at hl 1 rfl) ?_
            refine lv_iload_n X.1 X.2.1 dX1_winners_34 rfl (lv_at hl 3 rfl) ?_
            refine on_Si (run_S (As := [.int (nI a)]) (rest := [.int 4]) X (c_J6_bitCount_0f7a4 l G hp a (by omega)) (rp_blind _) (rp_at X hH hS) mf_J6_bitCount_0f7a4 tw_200 tw_201 ⟨rfl, rfl, Nat.le_of_ble_eq_true rfl, Nat.le_of_ble_eq_true rfl⟩ hl.1 rfl rfl (Nat.le_of_ble_eq_true rfl) ⟨Nat.le_of_ble_eq_true rfl, Nat.le_of_ble_eq_true rfl⟩ dX1_winners_35) (fun r_35 q_35 => ?_)
            obtain rfl : r_35 = (nI (sizeH a)) := q_35
            refine lv_iload_n X.1 X.2.1 dX1_winners_38 rfl (lv_at hl 4 rfl) ?_
            refine on_Si (run_S (As := [.int (nI b)]) (rest := [.int (nI (sizeH a)), .int 4]) X (c_J6_bitCount_0f7a4 l G hp b (by omega)) (rp_blind _) (rp_at X hH hS) mf_J6_bitCount_0f7a4 tw_200 tw_201 ⟨rfl, rfl, Nat.le_of_ble_eq_true rfl, Nat.le_of_ble_eq_true rfl⟩ hl.1 rfl rfl (Nat.le_of_ble_eq_true rfl) ⟨Nat.le_of_ble_eq_true rfl, Nat.le_of_ble_eq_true rfl⟩ dX1_winners_39) (fun r_39 q_39 => ?_)
            obtain rfl : r_39 = (nI (sizeH b)) := q_39
            refine va_mmax X.1 X.2.1 (by rw [X.2.2.1]; exact hl.1.symm) X.2.2.2.1 (tb_all X.2.2.2.2.1 _ tw_322) (tb_all X.2.2.2.2.1 _ tw_323) (tb_all X.2.2.2.2.1 _ tw_29) (tb_all X.2.2.2.2.1 _ tw_math_max) (Nat.le_of_ble_eq_true rfl) (Nat.le_of_ble_eq_true rfl) (Nat.le_of_ble_eq_true rfl) (Nat.le_of_ble_eq_true rfl) dX1_winners_42 ?_
            refine r_eqi (n_max (sizeH a) (sizeH b) (by omega) (by omega)) ?_
            refine va_mmin X.1 X.2.1 (by rw [X.2.2.1]; exact hl.1.symm) X.2.2.2.1 (tb_all X.2.2.2.2.1 _ tw_325) (tb_all X.2.2.2.2.1 _ tw_326) (tb_all X.2.2.2.2.1 _ tw_29) (tb_all X.2.2.2.2.1 _ tw_math_min) (Nat.le_of_ble_eq_true rfl) (Nat.le_of_ble_eq_true rfl) (Nat.le_of_ble_eq_true rfl) (Nat.le_of_ble_eq_true rfl) dX1_winners_45 ?_
            refine r_eqi (n_min 4 (max (sizeH a) (sizeH b)) (by omega) (by omega)) ?_
            exact ro_i X hr hlk (by show nI _ = nI _; refine congrArg nI ?_; rw [size_small a ha, size_small b hb]; unfold wnN ldN; rw [if_pos (show (a ||| b) / 16 % 2 = 1 by assumption)]; rw [if_pos (show (a ||| b) / 8 % 2 = 1 by assumption)]; rw [if_pos (show (a ||| b) / 4 % 2 = 1 by assumption)]; rw [if_pos (show (a ||| b) / 2 % 2 = 1 by assumption)]; rw [if_neg (show ¬ (a ||| b) % 2 = 1 by assumption)]) dX1_winners_48
          · have k_21 := k_eq (a := ((a ||| b) % 2)) (b := 1) (by omega) (by omega) c_21
            refine lv_iinc (v := 5) (lv' := [(3, .int 5), (4, .int 0), (2, .int (nI (a ||| b))), (0, .int (nI a)), (1, .int (nI b))]) X.1 X.2.1 dX1_winners_24 hl (k := 1) rfl (by decide) (by decide) rfl (fun ls hl => ?_)
            refine lv_iinc (v := (-1)) (lv' := [(4, .int (-1)), (3, .int 5), (2, .int (nI (a ||| b))), (0, .int (nI a)), (1, .int (nI b))]) X.1 X.2.1 dX1_winners_27 hl (k := 1) rfl (by decide) (by decide) rfl (fun ls hl => ?_)
            refine lv_goto (tgt := 9) X.1 X.2.1 dX1_winners_30 (by decide) ?_
            refine lv_iload X.1 X.2.1 dX1_winners_9 (lv_at hl 0 rfl) ?_
            refine lv_if_lt (tgt := 33) X.1 X.2.1 dX1_winners_11 (by decide) (fun c_11 => ?_) (fun c_11 => absurd (by decide) c_11)
            refine lv_iload_n X.1 X.2.1 dX1_winners_33 rfl (lv_at hl 1 rfl) ?_
            refine lv_iload_n X.1 X.2.1 dX1_winners_34 rfl (lv_at hl 3 rfl) ?_
            refine on_Si (run_S (As := [.int (nI a)]) (rest := [.int 5]) X (c_J6_bitCount_0f7a4 l G hp a (by omega)) (rp_blind _) (rp_at X hH hS) mf_J6_bitCount_0f7a4 tw_200 tw_201 ⟨rfl, rfl, Nat.le_of_ble_eq_true rfl, Nat.le_of_ble_eq_true rfl⟩ hl.1 rfl rfl (Nat.le_of_ble_eq_true rfl) ⟨Nat.le_of_ble_eq_true rfl, Nat.le_of_ble_eq_true rfl⟩ dX1_winners_35) (fun r_35 q_35 => ?_)
            obtain rfl : r_35 = (nI (sizeH a)) := q_35
            refine lv_iload_n X.1 X.2.1 dX1_winners_38 rfl (lv_at hl 4 rfl) ?_
            refine on_Si (run_S (As := [.int (nI b)]) (rest := [.int (nI (sizeH a)), .int 5]) X (c_J6_bitCount_0f7a4 l G hp b (by omega)) (rp_blind _) (rp_at X hH hS) mf_J6_bitCount_0f7a4 tw_200 tw_201 ⟨rfl, rfl, Nat.le_of_ble_eq_true rfl, Nat.le_of_ble_eq_true rfl⟩ hl.1 rfl rfl (Nat.le_of_ble_eq_true rfl) ⟨Nat.le_of_ble_eq_true rfl, Nat.le_of_ble_eq_true rfl⟩ dX1_winners_39) (fun r_39 q_39 => ?_)
            obtain rfl : r_39 = (nI (sizeH b)) := q_39
            refine va_mmax X.1 X.2.1 (by rw [X.2.2.1]; exact hl.1.symm) X.2.2.2.1 (tb_all X.2.2.2.2.1 _ tw_322) (tb_all X.2.2.2.2.1 _ tw_323) (tb_all X.2.2.2.2.1 _ tw_29) (tb_all X.2.2.2.2.1 _ tw_math_max) (Nat.le_of_ble_eq_true rfl) (Nat.le_of_ble_eq_true rfl) (Nat.le_of_ble_eq_true rfl) (Nat.le_of_ble_eq_true rfl) dX1_winners_42 ?_
            refine r_eqi (n_max (sizeH a) (sizeH b) (by omega) (by omega)) ?_
            refine va_mmin X.1 X.2.1 (by rw [X.2.2.1]; exact hl.1.symm) X.2.2.2.1 (tb_all X.2.2.2.2.1 _ tw_325) (tb_all X.2.2.2.2.1 _ tw_326) (tb_all X.2.2.2.2.1 _ tw_29) (tb_all X.2.2.2.2.1 _ tw_math_min) (Nat.le_of_ble_eq_true rfl) (Nat.le_of_ble_eq_true rfl) (Nat.le_of_ble_eq_true rfl) (Nat.le_of_ble_eq_true rfl) dX1_winners_45 ?_
            refine r_eqi (n_min 5 (max (sizeH a) (sizeH b)) (by omega) (by omega)) ?_
            exact ro_i X hr hlk (by show nI _ = nI _; refine congrArg nI ?_; rw [size_small a ha, size_small b hb]; unfold wnN ldN; rw [if_pos (show (a ||| b) / 16 % 2 = 1 by assumption)]; rw [if_pos (show (a ||| b) / 8 % 2 = 1 by assumption)]; rw [if_pos (show (a ||| b) / 4 % 2 = 1 by assumption)]; rw [if_pos (show (a ||| b) / 2 % 2 = 1 by assumption)]; rw [if_pos (show (a ||| b) % 2 = 1 by assumption)]) dX1_winners_48

set_option maxHeartbeats 4000000 in
set_option maxRecDepth 100000 in
theorem c_X1_ruffs (l : Launch) (G : HG) (hp : HP) (a b s9 t9 : Nat) (ha : a ≤ 1048575) (hb : b ≤ 1048575) (hs : s9 < 4) (ht : t9 < 4) : Met l yX1_ruffs [.code yX1_ruffs cX1_ruffs 5 (some .int)] { frames := 1, cells := 0, slots := 0, locals := 21 } (va_Pc [.int (nI a), .int (nI b), .int (nI s9), .int (nI t9)] (RP G hp)) (vp_Si (fun r => r = nI (rfN a b s9 t9))) 0 0 (fun _ => False) := by
  refine ro_ofW (by decide) (Nat.le_of_ble_eq_true rfl) ?_
  intro p e s m args below meth c ls X hr hlk hH hl
  have hS : va_S (fun _ => False) s.heap s.heap [] := va_S.rf
  have hl : lv_has ls 5 [(0, .int (nI a)), (1, .int (nI b)), (2, .int (nI s9)), (3, .int (nI t9))] := hl
  have := su_lt a s9
  have := su_lt a t9
  have := su_lt b s9
  refine lv_iload_n X.1 X.2.1 dX1_ruffs_0 rfl (lv_at hl 0 rfl) ?_
  refine lv_iload_n X.1 X.2.1 dX1_ruffs_1 rfl (lv_at hl 2 rfl) ?_
  refine on_Si (run_S (As := [.int (nI a), .int (nI s9)]) (rest := []) X (c_X1_ofSuit l G hp a s9 (by omega) (by omega)) (rp_blind _) (rp_at X hH hS) mf_X1_ofSuit tw_206 tw_207 ⟨rfl, rfl, Nat.le_of_ble_eq_true rfl, Nat.le_of_ble_eq_true rfl⟩ hl.1 rfl rfl (Nat.le_of_ble_eq_true rfl) ⟨Nat.le_of_ble_eq_true rfl, Nat.le_of_ble_eq_true rfl⟩ dX1_ruffs_2) (fun r_2 q_2 => ?_)
  obtain rfl : r_2 = (nI (su a s9)) := q_2
  refine lv_if_ne (tgt := 20) X.1 X.2.1 dX1_ruffs_5 (by decide) (fun c_5 => ?_) (fun c_5 => ?_)
  · have k_5 := k_ne (a := (su a s9)) (b := 0) (by omega) (by omega) c_5
    refine lv_iconst (v := 0) X.1 X.2.1 dX1_ruffs_20 (by decide) ?_
    refine lv_istore (lv' := [(4, .int 0), (0, .int (nI a)), (1, .int (nI b)), (2, .int (nI s9)), (3, .int (nI t9))]) X.1 X.2.1 dX1_ruffs_21 hl (by decide) rfl (fun ls hl => ?_)
    refine lv_iload X.1 X.2.1 dX1_ruffs_23 (lv_at hl 0 rfl) ?_
    refine lv_if_eq (tgt := 40) X.1 X.2.1 dX1_ruffs_25 (by decide) (fun c_25 => ?_) (fun c_25 => absurd (by decide) c_25)
    refine lv_iconst (v := 0) X.1 X.2.1 dX1_ruffs_40 (by decide) ?_
    exact ro_i X hr hlk (by show nI _ = nI _; refine congrArg nI ?_; unfold rfN; rw [if_neg (fun q => k_5 q.1)]) dX1_ruffs_41
  · have k_5 := k_eq (a := (su a s9)) (b := 0) (by omega) (by omega) c_5
    refine lv_iload_n X.1 X.2.1 dX1_ruffs_8 rfl (lv_at hl 0 rfl) ?_
    refine lv_iload_n X.1 X.2.1 dX1_ruffs_9 rfl (lv_at hl 3 rfl) ?_
    refine on_Si (run_S (As := [.int (nI a), .int (nI t9)]) (rest := []) X (c_X1_ofSuit l G hp a t9 (by omega) (by omega)) (rp_blind _) (rp_at X hH hS) mf_X1_ofSuit tw_206 tw_207 ⟨rfl, rfl, Nat.le_of_ble_eq_true rfl, Nat.le_of_ble_eq_true rfl⟩ hl.1 rfl rfl (Nat.le_of_ble_eq_true rfl) ⟨Nat.le_of_ble_eq_true rfl, Nat.le_of_ble_eq_true rfl⟩ dX1_ruffs_10) (fun r_10 q_10 => ?_)
    obtain rfl : r_10 = (nI (su a t9)) := q_10
    refine lv_if_eq (tgt := 20) X.1 X.2.1 dX1_ruffs_13 (by decide) (fun c_13 => ?_) (fun c_13 => ?_)
    · have k_13 := k_eq (a := (su a t9)) (b := 0) (by omega) (by omega) c_13
      refine lv_iconst (v := 0) X.1 X.2.1 dX1_ruffs_20 (by decide) ?_
      refine lv_istore (lv' := [(4, .int 0), (0, .int (nI a)), (1, .int (nI b)), (2, .int (nI s9)), (3, .int (nI t9))]) X.1 X.2.1 dX1_ruffs_21 hl (by decide) rfl (fun ls hl => ?_)
      refine lv_iload X.1 X.2.1 dX1_ruffs_23 (lv_at hl 0 rfl) ?_
      refine lv_if_eq (tgt := 40) X.1 X.2.1 dX1_ruffs_25 (by decide) (fun c_25 => ?_) (fun c_25 => absurd (by decide) c_25)
      refine lv_iconst (v := 0) X.1 X.2.1 dX1_ruffs_40 (by decide) ?_
      exact ro_i X hr hlk (by show nI _ = nI _; refine congrArg nI ?_; unfold rfN; rw [if_neg (fun q => q.2.1 k_13)]) dX1_ruffs_41
    · have k_13 := k_ne (a := (su a t9)) (b := 0) (by omega) (by omega) c_13
      refine lv_iconst (v := 1) X.1 X.2.1 dX1_ruffs_16 (by decide) ?_
      refine lv_goto (tgt := 21) X.1 X.2.1 dX1_ruffs_17 (by decide) ?_
      refine lv_istore (lv' := [(4, .int 1), (0, .int (nI a)), (1, .int (nI b)), (2, .int (nI s9)), (3, .int (nI t9))]) X.1 X.2.1 dX1_ruffs_21 hl (by decide) rfl (fun ls hl => ?_)
      refine lv_iload X.1 X.2.1 dX1_ruffs_23 (lv_at hl 0 rfl) ?_
      refine lv_if_eq (tgt := 40) X.1 X.2.1 dX1_ruffs_25 (by decide) (fun c_25 => absurd c_25 (by decide)) (fun c_25 => ?_)
      refine lv_iload_n X.1 X.2.1 dX1_ruffs_28 rfl (lv_at hl 2 rfl) ?_
      refine lv_iload_n X.1 X.2.1 dX1_ruffs_29 rfl (lv_at hl 3 rfl) ?_
      refine on_Si (run_S (As := [.int (nI b), .int (nI s9)]) (rest := []) X (c_X1_ofSuit l G hp b s9 (by omega) (by omega)) (rp_blind _) (rp_at X hH hS) mf_X1_ofSuit tw_206 tw_207 ⟨rfl, rfl, Nat.le_of_ble_eq_true rfl, Nat.le_of_ble_eq_true rfl⟩ hl.1 rfl rfl (Nat.le_of_ble_eq_true rfl) ⟨Nat.le_of_ble_eq_true rfl, Nat.le_of_ble_eq_true rfl⟩ dX1_ruffs_30) (fun r_30 q_30 => ?_)
      obtain rfl : r_30 = (nI (su b s9)) := q_30
      refine lv_if_eq (tgt := 40) X.1 X.2.1 dX1_ruffs_33 (by decide) (fun c_33 => ?_) (fun c_33 => ?_)
      · have k_33 := k_eq (a := (su b s9)) (b := 0) (by omega) (by omega) c_33
        refine lv_iconst (v := 0) X.1 X.2.1 dX1_ruffs_40 (by decide) ?_
        exact ro_i X hr hlk (by show nI _ = nI _; refine congrArg nI ?_; unfold rfN; rw [if_neg (fun q => q.2.2 k_33)]) dX1_ruffs_41
      · have k_33 := k_ne (a := (su b s9)) (b := 0) (by omega) (by omega) c_33
        refine lv_iconst (v := 1) X.1 X.2.1 dX1_ruffs_36 (by decide) ?_
        refine lv_goto (tgt := 41) X.1 X.2.1 dX1_ruffs_37 (by decide) ?_
        exact ro_i X hr hlk (by show nI _ = nI _; refine congrArg nI ?_; unfold rfN; rw [if_pos ⟨k_5, k_13, k_33⟩]) dX1_ruffs_41

set_option maxHeartbeats 4000000 in
set_option maxRecDepth 100000 in
theorem c_X1_tricksOf_0 (l : Launch) (G : HG) (hp : HP) (a b : Nat) (ha : a ≤ 1048575) (hb : b ≤ 1048575) : Met l yX1_tricksOf [.code yX1_tricksOf cX1_tricksOf 5 (some .int)] { frames := 2, cells := 0, slots := 0, locals := 45 } (va_Pc [.int 0, .int (nI a), .int (nI b)] (RP G hp)) (vp_Si (fun r => r = nI (trN 0 a b))) 0 0 (fun _ => False) := by
  refine ro_ofW (by decide) (Nat.le_of_ble_eq_true rfl) ?_
  intro p e s m args below meth c ls X hr hlk hH hl
  have hS : va_S (fun _ => False) s.heap s.heap [] := va_S.rf
  have hl : lv_has ls 5 [(0, .int 0), (1, .int (nI a)), (2, .int (nI b))] := hl
  have := wnN_le (su a 0) (su b 0)
  have := wnN_le (su a 1) (su b 1)
  have := rfN_le a b 1 0
  have := rfN_le b a 1 0
  have := wnN_le (su a 2) (su b 2)
  have := rfN_le a b 2 0
  have := rfN_le b a 2 0
  have := wnN_le (su a 3) (su b 3)
  have := rfN_le a b 3 0
  have := rfN_le b a 3 0
  refine lv_iconst (v := 0) X.1 X.2.1 dX1_tricksOf_0 (by decide) ?_
  refine lv_istore_n (lv' := [(3, .int 0), (0, .int 0), (1, .int (nI a)), (2, .int (nI b))]) X.1 X.2.1 dX1_tricksOf_1 rfl hl (by decide) rfl (fun ls hl => ?_)
  refine lv_iconst (v := 0) X.1 X.2.1 dX1_tricksOf_2 (by decide) ?_
  refine lv_istore (lv' := [(4, .int 0), (3, .int 0), (0, .int 0), (1, .int (nI a)), (2, .int (nI b))]) X.1 X.2.1 dX1_tricksOf_3 hl (by decide) rfl (fun ls hl => ?_)
  refine lv_iload X.1 X.2.1 dX1_tricksOf_5 (lv_at hl 0 rfl) ?_
  refine lv_iconst (v := 4) X.1 X.2.1 dX1_tricksOf_7 (by decide) ?_
  refine lv_icmp_ge (tgt := 66) X.1 X.2.1 dX1_tricksOf_8 (by decide) (fun c_8 => absurd c_8 (by decide)) (fun c_8 => ?_)
  refine lv_iload_n X.1 X.2.1 dX1_tricksOf_11 rfl (lv_at hl 1 rfl) ?_
  refine lv_iload_n X.1 X.2.1 dX1_tricksOf_12 rfl (lv_at hl 3 rfl) ?_
  refine lv_iload X.1 X.2.1 dX1_tricksOf_13 (lv_at hl 0 rfl) ?_
  refine on_Si (run_S (As := [.int (nI a), .int 0]) (rest := [.int 0]) X (c_X1_ofSuit l G hp a 0 (by omega) (by decide)) (rp_blind _) (rp_at X hH hS) mf_X1_ofSuit tw_206 tw_207 ⟨rfl, rfl, Nat.le_of_ble_eq_true rfl, Nat.le_of_ble_eq_true rfl⟩ hl.1 rfl rfl (Nat.le_of_ble_eq_true rfl) ⟨Nat.le_of_ble_eq_true rfl, Nat.le_of_ble_eq_true rfl⟩ dX1_tricksOf_15) (fun r_15 q_15 => ?_)
  obtain rfl : r_15 = (nI (su a 0)) := q_15
  refine lv_iload_n X.1 X.2.1 dX1_tricksOf_18 rfl (lv_at hl 4 rfl) ?_
  refine lv_iload X.1 X.2.1 dX1_tricksOf_19 (lv_at hl 0 rfl) ?_
  refine on_Si (run_S (As := [.int (nI b), .int 0]) (rest := [.int (nI (su a 0)), .int 0]) X (c_X1_ofSuit l G hp b 0 (by omega) (by decide)) (rp_blind _) (rp_at X hH hS) mf_X1_ofSuit tw_206 tw_207 ⟨rfl, rfl, Nat.le_of_ble_eq_true rfl, Nat.le_of_ble_eq_true rfl⟩ hl.1 rfl rfl (Nat.le_of_ble_eq_true rfl) ⟨Nat.le_of_ble_eq_true rfl, Nat.le_of_ble_eq_true rfl⟩ dX1_tricksOf_21) (fun r_21 q_21 => ?_)
  obtain rfl : r_21 = (nI (su b 0)) := q_21
  refine on_Si (run_S (As := [.int (nI (su a 0)), .int (nI (su b 0))]) (rest := [.int 0]) X (c_X1_winners l G hp (su a 0) (su b 0) (su_lt _ _) (su_lt _ _)) (rp_blind _) (rp_at X hH hS) mf_X1_winners tw_319 tw_320 ⟨rfl, rfl, Nat.le_of_ble_eq_true rfl, Nat.le_of_ble_eq_true rfl⟩ hl.1 rfl rfl (Nat.le_of_ble_eq_true rfl) ⟨Nat.le_of_ble_eq_true rfl, Nat.le_of_ble_eq_true rfl⟩ dX1_tricksOf_24) (fun r_24 q_24 => ?_)
  obtain rfl : r_24 = (nI (wnN (su a 0) (su b 0))) := q_24
  refine lv_iadd X.1 X.2.1 dX1_tricksOf_27 ?_
  refine r_eqi (show (((0 : Int32) + (nI (wnN (su a 0) (su b 0)))) : Int32) = nI (0 + (wnN (su a 0) (su b 0))) from nI_add 0 (wnN (su a 0) (su b 0))) ?_
  refine lv_istore_n (lv' := [(3, .int (nI (0 + (wnN (su a 0) (su b 0))))), (4, .int 0), (0, .int 0), (1, .int (nI a)), (2, .int (nI b))]) X.1 X.2.1 dX1_tricksOf_28 rfl hl (by decide) rfl (fun ls hl => ?_)
  refine lv_iload_n X.1 X.2.1 dX1_tricksOf_29 rfl (lv_at hl 2 rfl) ?_
  refine lv_iconst (v := 4) X.1 X.2.1 dX1_tricksOf_30 (by decide) ?_
  refine lv_icmp_eq (tgt := 60) X.1 X.2.1 dX1_tricksOf_31 (by decide) (fun c_31 => absurd c_31 (by decide)) (fun c_31 => ?_)
  refine lv_iload X.1 X.2.1 dX1_tricksOf_34 (lv_at hl 1 rfl) ?_
  refine lv_iload_n X.1 X.2.1 dX1_tricksOf_36 rfl (lv_at hl 2 rfl) ?_
  refine lv_icmp_eq (tgt := 60) X.1 X.2.1 dX1_tricksOf_37 (by decide) (fun c_37 => ?_) (fun c_37 => absurd (by decide) c_37)
  refine lv_iinc (v := 1) (lv' := [(4, .int 1), (3, .int (nI (0 + (wnN (su a 0) (su b 0))))), (0, .int 0), (1, .int (nI a)), (2, .int (nI b))]) X.1 X.2.1 dX1_tricksOf_60 hl (k := 1) rfl (by decide) (by decide) rfl (fun ls hl => ?_)
  refine lv_goto (tgt := 5) X.1 X.2.1 dX1_tricksOf_63 (by decide) ?_
  refine lv_iload X.1 X.2.1 dX1_tricksOf_5 (lv_at hl 0 rfl) ?_
  refine lv_iconst (v := 4) X.1 X.2.1 dX1_tricksOf_7 (by decide) ?_
  refine lv_icmp_ge (tgt := 66) X.1 X.2.1 dX1_tricksOf_8 (by decide) (fun c_8 => absurd c_8 (by decide)) (fun c_8 => ?_)
  refine lv_iload_n X.1 X.2.1 dX1_tricksOf_11 rfl (lv_at hl 1 rfl) ?_
  refine lv_iload_n X.1 X.2.1 dX1_tricksOf_12 rfl (lv_at hl 3 rfl) ?_
  refine lv_iload X.1 X.2.1 dX1_tricksOf_13 (lv_at hl 0 rfl) ?_
  refine on_Si (run_S (As := [.int (nI a), .int 1]) (rest := [.int (nI (0 + (wnN (su a 0) (su b 0))))]) X (c_X1_ofSuit l G hp a 1 (by omega) (by decide)) (rp_blind _) (rp_at X hH hS) mf_X1_ofSuit tw_206 tw_207 ⟨rfl, rfl, Nat.le_of_ble_eq_true rfl, Nat.le_of_ble_eq_true rfl⟩ hl.1 rfl rfl (Nat.le_of_ble_eq_true rfl) ⟨Nat.le_of_ble_eq_true rfl, Nat.le_of_ble_eq_true rfl⟩ dX1_tricksOf_15) (fun r_15x q_15x => ?_)
  obtain rfl : r_15x = (nI (su a 1)) := q_15x
  refine lv_iload_n X.1 X.2.1 dX1_tricksOf_18 rfl (lv_at hl 4 rfl) ?_
  refine lv_iload X.1 X.2.1 dX1_tricksOf_19 (lv_at hl 0 rfl) ?_
  refine on_Si (run_S (As := [.int (nI b), .int 1]) (rest := [.int (nI (su a 1)), .int (nI (0 + (wnN (su a 0) (su b 0))))]) X (c_X1_ofSuit l G hp b 1 (by omega) (by decide)) (rp_blind _) (rp_at X hH hS) mf_X1_ofSuit tw_206 tw_207 ⟨rfl, rfl, Nat.le_of_ble_eq_true rfl, Nat.le_of_ble_eq_true rfl⟩ hl.1 rfl rfl (Nat.le_of_ble_eq_true rfl) ⟨Nat.le_of_ble_eq_true rfl, Nat.le_of_ble_eq_true rfl⟩ dX1_tricksOf_21) (fun r_21x q_21x => ?_)
  obtain rfl : r_21x = (nI (su b 1)) := q_21x
  refine on_Si (run_S (As := [.int (nI (su a 1)), .int (nI (su b 1))]) (rest := [.int (nI (0 + (wnN (su a 0) (su b 0))))]) X (c_X1_winners l G hp (su a 1) (su b 1) (su_lt _ _) (su_lt _ _)) (rp_blind _) (rp_at X hH hS) mf_X1_winners tw_319 tw_320 ⟨rfl, rfl, Nat.le_of_ble_eq_true rfl, Nat.le_of_ble_eq_true rfl⟩ hl.1 rfl rfl (Nat.le_of_ble_eq_true rfl) ⟨Nat.le_of_ble_eq_true rfl, Nat.le_of_ble_eq_true rfl⟩ dX1_tricksOf_24) (fun r_24x q_24x => ?_)
  obtain rfl : r_24x = (nI (wnN (su a 1) (su b 1))) := q_24x
  refine lv_iadd X.1 X.2.1 dX1_tricksOf_27 ?_
  refine r_eqi (show (((nI (0 + (wnN (su a 0) (su b 0)))) + (nI (wnN (su a 1) (su b 1)))) : Int32) = nI ((0 + (wnN (su a 0) (su b 0))) + (wnN (su a 1) (su b 1))) from nI_add (0 + (wnN (su a 0) (su b 0))) (wnN (su a 1) (su b 1))) ?_
  refine lv_istore_n (lv' := [(3, .int (nI ((0 + (wnN (su a 0) (su b 0))) + (wnN (su a 1) (su b 1))))), (4, .int 1), (0, .int 0), (1, .int (nI a)), (2, .int (nI b))]) X.1 X.2.1 dX1_tricksOf_28 rfl hl (by decide) rfl (fun ls hl => ?_)
  refine lv_iload_n X.1 X.2.1 dX1_tricksOf_29 rfl (lv_at hl 2 rfl) ?_
  refine lv_iconst (v := 4) X.1 X.2.1 dX1_tricksOf_30 (by decide) ?_
  refine lv_icmp_eq (tgt := 60) X.1 X.2.1 dX1_tricksOf_31 (by decide) (fun c_31 => absurd c_31 (by decide)) (fun c_31 => ?_)
  refine lv_iload X.1 X.2.1 dX1_tricksOf_34 (lv_at hl 1 rfl) ?_
  refine lv_iload_n X.1 X.2.1 dX1_tricksOf_36 rfl (lv_at hl 2 rfl) ?_
  refine lv_icmp_eq (tgt := 60) X.1 X.2.1 dX1_tricksOf_37 (by decide) (fun c_37 => absurd c_37 (by decide)) (fun c_37 => ?_)
  refine lv_iload_n X.1 X.2.1 dX1_tricksOf_40 rfl (lv_at hl 0 rfl) ?_
  refine lv_iload_n X.1 X.2.1 dX1_tricksOf_41 rfl (lv_at hl 3 rfl) ?_
  refine lv_iload_n X.1 X.2.1 dX1_tricksOf_42 rfl (lv_at hl 4 rfl) ?_
  refine lv_iload X.1 X.2.1 dX1_tricksOf_43 (lv_at hl 1 rfl) ?_
  refine lv_iload_n X.1 X.2.1 dX1_tricksOf_45 rfl (lv_at hl 2 rfl) ?_
  refine on_Si (run_S (As := [.int (nI a), .int (nI b), .int 1, .int 0]) (rest := [.int (nI ((0 + (wnN (su a 0) (su b 0))) + (wnN (su a 1) (su b 1))))]) X (c_X1_ruffs l G hp a b 1 0 ha hb (by decide) (by decide)) (rp_blind _) (rp_at X hH hS) mf_X1_ruffs tw_328 tw_329 ⟨rfl, rfl, Nat.le_of_ble_eq_true rfl, Nat.le_of_ble_eq_true rfl⟩ hl.1 rfl rfl (Nat.le_of_ble_eq_true rfl) ⟨Nat.le_of_ble_eq_true rfl, Nat.le_of_ble_eq_true rfl⟩ dX1_tricksOf_46) (fun r_46 q_46 => ?_)
  obtain rfl : r_46 = (nI (rfN a b 1 0)) := q_46
  refine lv_iload_n X.1 X.2.1 dX1_tricksOf_49 rfl (lv_at hl 4 rfl) ?_
  refine lv_iload_n X.1 X.2.1 dX1_tricksOf_50 rfl (lv_at hl 3 rfl) ?_
  refine lv_iload X.1 X.2.1 dX1_tricksOf_51 (lv_at hl 1 rfl) ?_
  refine lv_iload_n X.1 X.2.1 dX1_tricksOf_53 rfl (lv_at hl 2 rfl) ?_
  refine on_Si (run_S (As := [.int (nI b), .int (nI a), .int 1, .int 0]) (rest := [.int (nI (rfN a b 1 0)), .int (nI ((0 + (wnN (su a 0) (su b 0))) + (wnN (su a 1) (su b 1))))]) X (c_X1_ruffs l G hp b a 1 0 hb ha (by decide) (by decide)) (rp_blind _) (rp_at X hH hS) mf_X1_ruffs tw_328 tw_329 ⟨rfl, rfl, Nat.le_of_ble_eq_true rfl, Nat.le_of_ble_eq_true rfl⟩ hl.1 rfl rfl (Nat.le_of_ble_eq_true rfl) ⟨Nat.le_of_ble_eq_true rfl, Nat.le_of_ble_eq_true rfl⟩ dX1_tricksOf_54) (fun r_54 q_54 => ?_)
  obtain rfl : r_54 = (nI (rfN b a 1 0)) := q_54
  refine lv_iadd X.1 X.2.1 dX1_tricksOf_57 ?_
  refine r_eqi (show (((nI (rfN a b 1 0)) + (nI (rfN b a 1 0))) : Int32) = nI ((rfN a b 1 0) + (rfN b a 1 0)) from nI_add (rfN a b 1 0) (rfN b a 1 0)) ?_
  refine lv_iadd X.1 X.2.1 dX1_tricksOf_58 ?_
  refine r_eqi (show (((nI ((0 + (wnN (su a 0) (su b 0))) + (wnN (su a 1) (su b 1)))) + (nI ((rfN a b 1 0) + (rfN b a 1 0)))) : Int32) = nI (((0 + (wnN (su a 0) (su b 0))) + (wnN (su a 1) (su b 1))) + ((rfN a b 1 0) + (rfN b a 1 0))) from nI_add ((0 + (wnN (su a 0) (su b 0))) + (wnN (su a 1) (su b 1))) ((rfN a b 1 0) + (rfN b a 1 0))) ?_
  refine lv_istore_n (lv' := [(3, .int (nI (((0 + (wnN (su a 0) (su b 0))) + (wnN (su a 1) (su b 1))) + ((rfN a b 1 0) + (rfN b a 1 0))))), (4, .int 1), (0, .int 0), (1, .int (nI a)), (2, .int (nI b))]) X.1 X.2.1 dX1_tricksOf_59 rfl hl (by decide) rfl (fun ls hl => ?_)
  refine lv_iinc (v := 2) (lv' := [(4, .int 2), (3, .int (nI (((0 + (wnN (su a 0) (su b 0))) + (wnN (su a 1) (su b 1))) + ((rfN a b 1 0) + (rfN b a 1 0))))), (0, .int 0), (1, .int (nI a)), (2, .int (nI b))]) X.1 X.2.1 dX1_tricksOf_60 hl (k := 1) rfl (by decide) (by decide) rfl (fun ls hl => ?_)
  refine lv_goto (tgt := 5) X.1 X.2.1 dX1_tricksOf_63 (by decide) ?_
  refine lv_iload X.1 X.2.1 dX1_tricksOf_5 (lv_at hl 0 rfl) ?_
  refine lv_iconst (v := 4) X.1 X.2.1 dX1_tricksOf_7 (by decide) ?_
  refine lv_icmp_ge (tgt := 66) X.1 X.2.1 dX1_tricksOf_8 (by decide) (fun c_8 => absurd c_8 (by decide)) (fun c_8 => ?_)
  refine lv_iload_n X.1 X.2.1 dX1_tricksOf_11 rfl (lv_at hl 1 rfl) ?_
  refine lv_iload_n X.1 X.2.1 dX1_tricksOf_12 rfl (lv_at hl 3 rfl) ?_
  refine lv_iload X.1 X.2.1 dX1_tricksOf_13 (lv_at hl 0 rfl) ?_
  refine on_Si (run_S (As := [.int (nI a), .int 2]) (rest := [.int (nI (((0 + (wnN (su a 0) (su b 0))) + (wnN (su a 1) (su b 1))) + ((rfN a b 1 0) + (rfN b a 1 0))))]) X (c_X1_ofSuit l G hp a 2 (by omega) (by decide)) (rp_blind _) (rp_at X hH hS) mf_X1_ofSuit tw_206 tw_207 ⟨rfl, rfl, Nat.le_of_ble_eq_true rfl, Nat.le_of_ble_eq_true rfl⟩ hl.1 rfl rfl (Nat.le_of_ble_eq_true rfl) ⟨Nat.le_of_ble_eq_true rfl, Nat.le_of_ble_eq_true rfl⟩ dX1_tricksOf_15) (fun r_15xx q_15xx => ?_)
  obtain rfl : r_15xx = (nI (su a 2)) := q_15xx
  refine lv_iload_n X.1 X.2.1 dX1_tricksOf_18 rfl (lv_at hl 4 rfl) ?_
  refine lv_iload X.1 X.2.1 dX1_tricksOf_19 (lv_at hl 0 rfl) ?_
  refine on_Si (run_S (As := [.int (nI b), .int 2]) (rest := [.int (nI (su a 2)), .int (nI (((0 + (wnN (su a 0) (su b 0))) + (wnN (su a 1) (su b 1))) + ((rfN a b 1 0) + (rfN b a 1 0))))]) X (c_X1_ofSuit l G hp b 2 (by omega) (by decide)) (rp_blind _) (rp_at X hH hS) mf_X1_ofSuit tw_206 tw_207 ⟨rfl, rfl, Nat.le_of_ble_eq_true rfl, Nat.le_of_ble_eq_true rfl⟩ hl.1 rfl rfl (Nat.le_of_ble_eq_true rfl) ⟨Nat.le_of_ble_eq_true rfl, Nat.le_of_ble_eq_true rfl⟩ dX1_tricksOf_21) (fun r_21xx q_21xx => ?_)
  obtain rfl : r_21xx = (nI (su b 2)) := q_21xx
  refine on_Si (run_S (As := [.int (nI (su a 2)), .int (nI (su b 2))]) (rest := [.int (nI (((0 + (wnN (su a 0) (su b 0))) + (wnN (su a 1) (su b 1))) + ((rfN a b 1 0) + (rfN b a 1 0))))]) X (c_X1_winners l G hp (su a 2) (su b 2) (su_lt _ _) (su_lt _ _)) (rp_blind _) (rp_at X hH hS) mf_X1_winners tw_319 tw_320 ⟨rfl, rfl, Nat.le_of_ble_eq_true rfl, Nat.le_of_ble_eq_true rfl⟩ hl.1 rfl rfl (Nat.le_of_ble_eq_true rfl) ⟨Nat.le_of_ble_eq_true rfl, Nat.le_of_ble_eq_true rfl⟩ dX1_tricksOf_24) (fun r_24xx q_24xx => ?_)
  obtain rfl : r_24xx = (nI (wnN (su a 2) (su b 2))) := q_24xx
  refine lv_iadd X.1 X.2.1 dX1_tricksOf_27 ?_
  refine r_eqi (show (((nI (((0 + (wnN (su a 0) (su b 0))) + (wnN (su a 1) (su b 1))) + ((rfN a b 1 0) + (rfN b a 1 0)))) + (nI (wnN (su a 2) (su b 2)))) : Int32) = nI ((((0 + (wnN (su a 0) (su b 0))) + (wnN (su a 1) (su b 1))) + ((rfN a b 1 0) + (rfN b a 1 0))) + (wnN (su a 2) (su b 2))) from nI_add (((0 + (wnN (su a 0) (su b 0))) + (wnN (su a 1) (su b 1))) + ((rfN a b 1 0) + (rfN b a 1 0))) (wnN (su a 2) (su b 2))) ?_
  refine lv_istore_n (lv' := [(3, .int (nI ((((0 + (wnN (su a 0) (su b 0))) + (wnN (su a 1) (su b 1))) + ((rfN a b 1 0) + (rfN b a 1 0))) + (wnN (su a 2) (su b 2))))), (4, .int 2), (0, .int 0), (1, .int (nI a)), (2, .int (nI b))]) X.1 X.2.1 dX1_tricksOf_28 rfl hl (by decide) rfl (fun ls hl => ?_)
  refine lv_iload_n X.1 X.2.1 dX1_tricksOf_29 rfl (lv_at hl 2 rfl) ?_
  refine lv_iconst (v := 4) X.1 X.2.1 dX1_tricksOf_30 (by decide) ?_
  refine lv_icmp_eq (tgt := 60) X.1 X.2.1 dX1_tricksOf_31 (by decide) (fun c_31 => absurd c_31 (by decide)) (fun c_31 => ?_)
  refine lv_iload X.1 X.2.1 dX1_tricksOf_34 (lv_at hl 1 rfl) ?_
  refine lv_iload_n X.1 X.2.1 dX1_tricksOf_36 rfl (lv_at hl 2 rfl) ?_
  refine lv_icmp_eq (tgt := 60) X.1 X.2.1 dX1_tricksOf_37 (by decide) (fun c_37 => absurd c_37 (by decide)) (fun c_37 => ?_)
  refine lv_iload_n X.1 X.2.1 dX1_tricksOf_40 rfl (lv_at hl 0 rfl) ?_
  refine lv_iload_n X.1 X.2.1 dX1_tricksOf_41 rfl (lv_at hl 3 rfl) ?_
  refine lv_iload_n X.1 X.2.1 dX1_tricksOf_42 rfl (lv_at hl 4 rfl) ?_
  refine lv_iload X.1 X.2.1 dX1_tricksOf_43 (lv_at hl 1 rfl) ?_
  refine lv_iload_n X.1 X.2.1 dX1_tricksOf_45 rfl (lv_at hl 2 rfl) ?_
  refine on_Si (run_S (As := [.int (nI a), .int (nI b), .int 2, .int 0]) (rest := [.int (nI ((((0 + (wnN (su a 0) (su b 0))) + (wnN (su a 1) (su b 1))) + ((rfN a b 1 0) + (rfN b a 1 0))) + (wnN (su a 2) (su b 2))))]) X (c_X1_ruffs l G hp a b 2 0 ha hb (by decide) (by decide)) (rp_blind _) (rp_at X hH hS) mf_X1_ruffs tw_328 tw_329 ⟨rfl, rfl, Nat.le_of_ble_eq_true rfl, Nat.le_of_ble_eq_true rfl⟩ hl.1 rfl rfl (Nat.le_of_ble_eq_true rfl) ⟨Nat.le_of_ble_eq_true rfl, Nat.le_of_ble_eq_true rfl⟩ dX1_tricksOf_46) (fun r_46x q_46x => ?_)
  obtain rfl : r_46x = (nI (rfN a b 2 0)) := q_46x
  refine lv_iload_n X.1 X.2.1 dX1_tricksOf_49 rfl (lv_at hl 4 rfl) ?_
  refine lv_iload_n X.1 X.2.1 dX1_tricksOf_50 rfl (lv_at hl 3 rfl) ?_
  refine lv_iload X.1 X.2.1 dX1_tricksOf_51 (lv_at hl 1 rfl) ?_
  refine lv_iload_n X.1 X.2.1 dX1_tricksOf_53 rfl (lv_at hl 2 rfl) ?_
  refine on_Si (run_S (As := [.int (nI b), .int (nI a), .int 2, .int 0]) (rest := [.int (nI (rfN a b 2 0)), .int (nI ((((0 + (wnN (su a 0) (su b 0))) + (wnN (su a 1) (su b 1))) + ((rfN a b 1 0) + (rfN b a 1 0))) + (wnN (su a 2) (su b 2))))]) X (c_X1_ruffs l G hp b a 2 0 hb ha (by decide) (by decide)) (rp_blind _) (rp_at X hH hS) mf_X1_ruffs tw_328 tw_329 ⟨rfl, rfl, Nat.le_of_ble_eq_true rfl, Nat.le_of_ble_eq_true rfl⟩ hl.1 rfl rfl (Nat.le_of_ble_eq_true rfl) ⟨Nat.le_of_ble_eq_true rfl, Nat.le_of_ble_eq_true rfl⟩ dX1_tricksOf_54) (fun r_54x q_54x => ?_)
  obtain rfl : r_54x = (nI (rfN b a 2 0)) := q_54x
  refine lv_iadd X.1 X.2.1 dX1_tricksOf_57 ?_
  refine r_eqi (show (((nI (rfN a b 2 0)) + (nI (rfN b a 2 0))) : Int32) = nI ((rfN a b 2 0) + (rfN b a 2 0)) from nI_add (rfN a b 2 0) (rfN b a 2 0)) ?_
  refine lv_iadd X.1 X.2.1 dX1_tricksOf_58 ?_
  refine r_eqi (show (((nI ((((0 + (wnN (su a 0) (su b 0))) + (wnN (su a 1) (su b 1))) + ((rfN a b 1 0) + (rfN b a 1 0))) + (wnN (su a 2) (su b 2)))) + (nI ((rfN a b 2 0) + (rfN b a 2 0)))) : Int32) = nI (((((0 + (wnN (su a 0) (su b 0))) + (wnN (su a 1) (su b 1))) + ((rfN a b 1 0) + (rfN b a 1 0))) + (wnN (su a 2) (su b 2))) + ((rfN a b 2 0) + (rfN b a 2 0))) from nI_add ((((0 + (wnN (su a 0) (su b 0))) + (wnN (su a 1) (su b 1))) + ((rfN a b 1 0) + (rfN b a 1 0))) + (wnN (su a 2) (su b 2))) ((rfN a b 2 0) + (rfN b a 2 0))) ?_
  refine lv_istore_n (lv' := [(3, .int (nI (((((0 + (wnN (su a 0) (su b 0))) + (wnN (su a 1) (su b 1))) + ((rfN a b 1 0) + (rfN b a 1 0))) + (wnN (su a 2) (su b 2))) + ((rfN a b 2 0) + (rfN b a 2 0))))), (4, .int 2), (0, .int 0), (1, .int (nI a)), (2, .int (nI b))]) X.1 X.2.1 dX1_tricksOf_59 rfl hl (by decide) rfl (fun ls hl => ?_)
  refine lv_iinc (v := 3) (lv' := [(4, .int 3), (3, .int (nI (((((0 + (wnN (su a 0) (su b 0))) + (wnN (su a 1) (su b 1))) + ((rfN a b 1 0) + (rfN b a 1 0))) + (wnN (su a 2) (su b 2))) + ((rfN a b 2 0) + (rfN b a 2 0))))), (0, .int 0), (1, .int (nI a)), (2, .int (nI b))]) X.1 X.2.1 dX1_tricksOf_60 hl (k := 1) rfl (by decide) (by decide) rfl (fun ls hl => ?_)
  refine lv_goto (tgt := 5) X.1 X.2.1 dX1_tricksOf_63 (by decide) ?_
  refine lv_iload X.1 X.2.1 dX1_tricksOf_5 (lv_at hl 0 rfl) ?_
  refine lv_iconst (v := 4) X.1 X.2.1 dX1_tricksOf_7 (by decide) ?_
  refine lv_icmp_ge (tgt := 66) X.1 X.2.1 dX1_tricksOf_8 (by decide) (fun c_8 => absurd c_8 (by decide)) (fun c_8 => ?_)
  refine lv_iload_n X.1 X.2.1 dX1_tricksOf_11 rfl (lv_at hl 1 rfl) ?_
  refine lv_iload_n X.1 X.2.1 dX1_tricksOf_12 rfl (lv_at hl 3 rfl) ?_
  refine lv_iload X.1 X.2.1 dX1_tricksOf_13 (lv_at hl 0 rfl) ?_
  refine on_Si (run_S (As := [.int (nI a), .int 3]) (rest := [.int (nI (((((0 + (wnN (su a 0) (su b 0))) + (wnN (su a 1) (su b 1))) + ((rfN a b 1 0) + (rfN b a 1 0))) + (wnN (su a 2) (su b 2))) + ((rfN a b 2 0) + (rfN b a 2 0))))]) X (c_X1_ofSuit l G hp a 3 (by omega) (by decide)) (rp_blind _) (rp_at X hH hS) mf_X1_ofSuit tw_206 tw_207 ⟨rfl, rfl, Nat.le_of_ble_eq_true rfl, Nat.le_of_ble_eq_true rfl⟩ hl.1 rfl rfl (Nat.le_of_ble_eq_true rfl) ⟨Nat.le_of_ble_eq_true rfl, Nat.le_of_ble_eq_true rfl⟩ dX1_tricksOf_15) (fun r_15xxx q_15xxx => ?_)
  obtain rfl : r_15xxx = (nI (su a 3)) := q_15xxx
  refine lv_iload_n X.1 X.2.1 dX1_tricksOf_18 rfl (lv_at hl 4 rfl) ?_
  refine lv_iload X.1 X.2.1 dX1_tricksOf_19 (lv_at hl 0 rfl) ?_
  refine on_Si (run_S (As := [.int (nI b), .int 3]) (rest := [.int (nI (su a 3)), .int (nI (((((0 + (wnN (su a 0) (su b 0))) + (wnN (su a 1) (su b 1))) + ((rfN a b 1 0) + (rfN b a 1 0))) + (wnN (su a 2) (su b 2))) + ((rfN a b 2 0) + (rfN b a 2 0))))]) X (c_X1_ofSuit l G hp b 3 (by omega) (by decide)) (rp_blind _) (rp_at X hH hS) mf_X1_ofSuit tw_206 tw_207 ⟨rfl, rfl, Nat.le_of_ble_eq_true rfl, Nat.le_of_ble_eq_true rfl⟩ hl.1 rfl rfl (Nat.le_of_ble_eq_true rfl) ⟨Nat.le_of_ble_eq_true rfl, Nat.le_of_ble_eq_true rfl⟩ dX1_tricksOf_21) (fun r_21xxx q_21xxx => ?_)
  obtain rfl : r_21xxx = (nI (su b 3)) := q_21xxx
  refine on_Si (run_S (As := [.int (nI (su a 3)), .int (nI (su b 3))]) (rest := [.int (nI (((((0 + (wnN (su a 0) (su b 0))) + (wnN (su a 1) (su b 1))) + ((rfN a b 1 0) + (rfN b a 1 0))) + (wnN (su a 2) (su b 2))) + ((rfN a b 2 0) + (rfN b a 2 0))))]) X (c_X1_winners l G hp (su a 3) (su b 3) (su_lt _ _) (su_lt _ _)) (rp_blind _) (rp_at X hH hS) mf_X1_winners tw_319 tw_320 ⟨rfl, rfl, Nat.le_of_ble_eq_true rfl, Nat.le_of_ble_eq_true rfl⟩ hl.1 rfl rfl (Nat.le_of_ble_eq_true rfl) ⟨Nat.le_of_ble_eq_true rfl, Nat.le_of_ble_eq_true rfl⟩ dX1_tricksOf_24) (fun r_24xxx q_24xxx => ?_)
  obtain rfl : r_24xxx = (nI (wnN (su a 3) (su b 3))) := q_24xxx
  refine lv_iadd X.1 X.2.1 dX1_tricksOf_27 ?_
  refine r_eqi (show (((nI (((((0 + (wnN (su a 0) (su b 0))) + (wnN (su a 1) (su b 1))) + ((rfN a b 1 0) + (rfN b a 1 0))) + (wnN (su a 2) (su b 2))) + ((rfN a b 2 0) + (rfN b a 2 0)))) + (nI (wnN (su a 3) (su b 3)))) : Int32) = nI ((((((0 + (wnN (su a 0) (su b 0))) + (wnN (su a 1) (su b 1))) + ((rfN a b 1 0) + (rfN b a 1 0))) + (wnN (su a 2) (su b 2))) + ((rfN a b 2 0) + (rfN b a 2 0))) + (wnN (su a 3) (su b 3))) from nI_add (((((0 + (wnN (su a 0) (su b 0))) + (wnN (su a 1) (su b 1))) + ((rfN a b 1 0) + (rfN b a 1 0))) + (wnN (su a 2) (su b 2))) + ((rfN a b 2 0) + (rfN b a 2 0))) (wnN (su a 3) (su b 3))) ?_
  refine lv_istore_n (lv' := [(3, .int (nI ((((((0 + (wnN (su a 0) (su b 0))) + (wnN (su a 1) (su b 1))) + ((rfN a b 1 0) + (rfN b a 1 0))) + (wnN (su a 2) (su b 2))) + ((rfN a b 2 0) + (rfN b a 2 0))) + (wnN (su a 3) (su b 3))))), (4, .int 3), (0, .int 0), (1, .int (nI a)), (2, .int (nI b))]) X.1 X.2.1 dX1_tricksOf_28 rfl hl (by decide) rfl (fun ls hl => ?_)
  refine lv_iload_n X.1 X.2.1 dX1_tricksOf_29 rfl (lv_at hl 2 rfl) ?_
  refine lv_iconst (v := 4) X.1 X.2.1 dX1_tricksOf_30 (by decide) ?_
  refine lv_icmp_eq (tgt := 60) X.1 X.2.1 dX1_tricksOf_31 (by decide) (fun c_31 => absurd c_31 (by decide)) (fun c_31 => ?_)
  refine lv_iload X.1 X.2.1 dX1_tricksOf_34 (lv_at hl 1 rfl) ?_
  refine lv_iload_n X.1 X.2.1 dX1_tricksOf_36 rfl (lv_at hl 2 rfl) ?_
  refine lv_icmp_eq (tgt := 60) X.1 X.2.1 dX1_tricksOf_37 (by decide) (fun c_37 => absurd c_37 (by decide)) (fun c_37 => ?_)
  refine lv_iload_n X.1 X.2.1 dX1_tricksOf_40 rfl (lv_at hl 0 rfl) ?_
  refine lv_iload_n X.1 X.2.1 dX1_tricksOf_41 rfl (lv_at hl 3 rfl) ?_
  refine lv_iload_n X.1 X.2.1 dX1_tricksOf_42 rfl (lv_at hl 4 rfl) ?_
  refine lv_iload X.1 X.2.1 dX1_tricksOf_43 (lv_at hl 1 rfl) ?_
  refine lv_iload_n X.1 X.2.1 dX1_tricksOf_45 rfl (lv_at hl 2 rfl) ?_
  refine on_Si (run_S (As := [.int (nI a), .int (nI b), .int 3, .int 0]) (rest := [.int (nI ((((((0 + (wnN (su a 0) (su b 0))) + (wnN (su a 1) (su b 1))) + ((rfN a b 1 0) + (rfN b a 1 0))) + (wnN (su a 2) (su b 2))) + ((rfN a b 2 0) + (rfN b a 2 0))) + (wnN (su a 3) (su b 3))))]) X (c_X1_ruffs l G hp a b 3 0 ha hb (by decide) (by decide)) (rp_blind _) (rp_at X hH hS) mf_X1_ruffs tw_328 tw_329 ⟨rfl, rfl, Nat.le_of_ble_eq_true rfl, Nat.le_of_ble_eq_true rfl⟩ hl.1 rfl rfl (Nat.le_of_ble_eq_true rfl) ⟨Nat.le_of_ble_eq_true rfl, Nat.le_of_ble_eq_true rfl⟩ dX1_tricksOf_46) (fun r_46xx q_46xx => ?_)
  obtain rfl : r_46xx = (nI (rfN a b 3 0)) := q_46xx
  refine lv_iload_n X.1 X.2.1 dX1_tricksOf_49 rfl (lv_at hl 4 rfl) ?_
  refine lv_iload_n X.1 X.2.1 dX1_tricksOf_50 rfl (lv_at hl 3 rfl) ?_
  refine lv_iload X.1 X.2.1 dX1_tricksOf_51 (lv_at hl 1 rfl) ?_
  refine lv_iload_n X.1 X.2.1 dX1_tricksOf_53 rfl (lv_at hl 2 rfl) ?_
  refine on_Si (run_S (As := [.int (nI b), .int (nI a), .int 3, .int 0]) (rest := [.int (nI (rfN a b 3 0)), .int (nI ((((((0 + (wnN (su a 0) (su b 0))) + (wnN (su a 1) (su b 1))) + ((rfN a b 1 0) + (rfN b a 1 0))) + (wnN (su a 2) (su b 2))) + ((rfN a b 2 0) + (rfN b a 2 0))) + (wnN (su a 3) (su b 3))))]) X (c_X1_ruffs l G hp b a 3 0 hb ha (by decide) (by decide)) (rp_blind _) (rp_at X hH hS) mf_X1_ruffs tw_328 tw_329 ⟨rfl, rfl, Nat.le_of_ble_eq_true rfl, Nat.le_of_ble_eq_true rfl⟩ hl.1 rfl rfl (Nat.le_of_ble_eq_true rfl) ⟨Nat.le_of_ble_eq_true rfl, Nat.le_of_ble_eq_true rfl⟩ dX1_tricksOf_54) (fun r_54xx q_54xx => ?_)
  obtain rfl : r_54xx = (nI (rfN b a 3 0)) := q_54xx
  refine lv_iadd X.1 X.2.1 dX1_tricksOf_57 ?_
  refine r_eqi (show (((nI (rfN a b 3 0)) + (nI (rfN b a 3 0))) : Int32) = nI ((rfN a b 3 0) + (rfN b a 3 0)) from nI_add (rfN a b 3 0) (rfN b a 3 0)) ?_
  refine lv_iadd X.1 X.2.1 dX1_tricksOf_58 ?_
  refine r_eqi (show (((nI ((((((0 + (wnN (su a 0) (su b 0))) + (wnN (su a 1) (su b 1))) + ((rfN a b 1 0) + (rfN b a 1 0))) + (wnN (su a 2) (su b 2))) + ((rfN a b 2 0) + (rfN b a 2 0))) + (wnN (su a 3) (su b 3)))) + (nI ((rfN a b 3 0) + (rfN b a 3 0)))) : Int32) = nI (((((((0 + (wnN (su a 0) (su b 0))) + (wnN (su a 1) (su b 1))) + ((rfN a b 1 0) + (rfN b a 1 0))) + (wnN (su a 2) (su b 2))) + ((rfN a b 2 0) + (rfN b a 2 0))) + (wnN (su a 3) (su b 3))) + ((rfN a b 3 0) + (rfN b a 3 0))) from nI_add ((((((0 + (wnN (su a 0) (su b 0))) + (wnN (su a 1) (su b 1))) + ((rfN a b 1 0) + (rfN b a 1 0))) + (wnN (su a 2) (su b 2))) + ((rfN a b 2 0) + (rfN b a 2 0))) + (wnN (su a 3) (su b 3))) ((rfN a b 3 0) + (rfN b a 3 0))) ?_
  refine lv_istore_n (lv' := [(3, .int (nI (((((((0 + (wnN (su a 0) (su b 0))) + (wnN (su a 1) (su b 1))) + ((rfN a b 1 0) + (rfN b a 1 0))) + (wnN (su a 2) (su b 2))) + ((rfN a b 2 0) + (rfN b a 2 0))) + (wnN (su a 3) (su b 3))) + ((rfN a b 3 0) + (rfN b a 3 0))))), (4, .int 3), (0, .int 0), (1, .int (nI a)), (2, .int (nI b))]) X.1 X.2.1 dX1_tricksOf_59 rfl hl (by decide) rfl (fun ls hl => ?_)
  refine lv_iinc (v := 4) (lv' := [(4, .int 4), (3, .int (nI (((((((0 + (wnN (su a 0) (su b 0))) + (wnN (su a 1) (su b 1))) + ((rfN a b 1 0) + (rfN b a 1 0))) + (wnN (su a 2) (su b 2))) + ((rfN a b 2 0) + (rfN b a 2 0))) + (wnN (su a 3) (su b 3))) + ((rfN a b 3 0) + (rfN b a 3 0))))), (0, .int 0), (1, .int (nI a)), (2, .int (nI b))]) X.1 X.2.1 dX1_tricksOf_60 hl (k := 1) rfl (by decide) (by decide) rfl (fun ls hl => ?_)
  refine lv_goto (tgt := 5) X.1 X.2.1 dX1_tricksOf_63 (by decide) ?_
  refine lv_iload X.1 X.2.1 dX1_tricksOf_5 (lv_at hl 0 rfl) ?_
  refine lv_iconst (v := 4) X.1 X.2.1 dX1_tricksOf_7 (by decide) ?_
  refine lv_icmp_ge (tgt := 66) X.1 X.2.1 dX1_tricksOf_8 (by decide) (fun c_8 => ?_) (fun c_8 => absurd (by decide) c_8)
  refine lv_iload_n X.1 X.2.1 dX1_tricksOf_66 rfl (lv_at hl 1 rfl) ?_
  refine lv_iconst (v := 5) X.1 X.2.1 dX1_tricksOf_67 (by decide) ?_
  refine va_mmin X.1 X.2.1 (by rw [X.2.2.1]; exact hl.1.symm) X.2.2.2.1 (tb_all X.2.2.2.2.1 _ tw_325) (tb_all X.2.2.2.2.1 _ tw_326) (tb_all X.2.2.2.2.1 _ tw_29) (tb_all X.2.2.2.2.1 _ tw_math_min) (Nat.le_of_ble_eq_true rfl) (Nat.le_of_ble_eq_true rfl) (Nat.le_of_ble_eq_true rfl) (Nat.le_of_ble_eq_true rfl) dX1_tricksOf_68 ?_
  refine r_eqi (n_min (((((((0 + (wnN (su a 0) (su b 0))) + (wnN (su a 1) (su b 1))) + ((rfN a b 1 0) + (rfN b a 1 0))) + (wnN (su a 2) (su b 2))) + ((rfN a b 2 0) + (rfN b a 2 0))) + (wnN (su a 3) (su b 3))) + ((rfN a b 3 0) + (rfN b a 3 0))) 5 (by omega) (by omega)) ?_
  exact ro_i X hr hlk (by show nI _ = nI _; refine congrArg nI ?_; unfold trN trS; rw [if_neg (show ¬ ((0 : Nat) ≠ 4 ∧ (0 : Nat) ≠ 0) by decide)]; rw [if_pos (show (0 : Nat) ≠ 4 ∧ (1 : Nat) ≠ 0 by decide)]; rw [if_pos (show (0 : Nat) ≠ 4 ∧ (2 : Nat) ≠ 0 by decide)]; rw [if_pos (show (0 : Nat) ≠ 4 ∧ (3 : Nat) ≠ 0 by decide)]; refine congrArg (fun z => min z 5) ?_; omega) dX1_tricksOf_71

set_option maxHeartbeats 4000000 in
set_option maxRecDepth 100000 in
theorem c_X1_tricksOf_1 (l : Launch) (G : HG) (hp : HP) (a b : Nat) (ha : a ≤ 1048575) (hb : b ≤ 1048575) : Met l yX1_tricksOf [.code yX1_tricksOf cX1_tricksOf 5 (some .int)] { frames := 2, cells := 0, slots := 0, locals := 45 } (va_Pc [.int 1, .int (nI a), .int (nI b)] (RP G hp)) (vp_Si (fun r => r = nI (trN 1 a b))) 0 0 (fun _ => False) := by
  refine ro_ofW (by decide) (Nat.le_of_ble_eq_true rfl) ?_
  intro p e s m args below meth c ls X hr hlk hH hl
  have hS : va_S (fun _ => False) s.heap s.heap [] := va_S.rf
  have hl : lv_has ls 5 [(0, .int 1), (1, .int (nI a)), (2, .int (nI b))] := hl
  have := wnN_le (su a 0) (su b 0)
  have := rfN_le a b 0 1
  have := rfN_le b a 0 1
  have := wnN_le (su a 1) (su b 1)
  have := wnN_le (su a 2) (su b 2)
  have := rfN_le a b 2 1
  have := rfN_le b a 2 1
  have := wnN_le (su a 3) (su b 3)
  have := rfN_le a b 3 1
  have := rfN_le b a 3 1
  refine lv_iconst (v := 0) X.1 X.2.1 dX1_tricksOf_0 (by decide) ?_
  refine lv_istore_n (lv' := [(3, .int 0), (0, .int 1), (1, .int (nI a)), (2, .int (nI b))]) X.1 X.2.1 dX1_tricksOf_1 rfl hl (by decide) rfl (fun ls hl => ?_)
  refine lv_iconst (v := 0) X.1 X.2.1 dX1_tricksOf_2 (by decide) ?_
  refine lv_istore (lv' := [(4, .int 0), (3, .int 0), (0, .int 1), (1, .int (nI a)), (2, .int (nI b))]) X.1 X.2.1 dX1_tricksOf_3 hl (by decide) rfl (fun ls hl => ?_)
  refine lv_iload X.1 X.2.1 dX1_tricksOf_5 (lv_at hl 0 rfl) ?_
  refine lv_iconst (v := 4) X.1 X.2.1 dX1_tricksOf_7 (by decide) ?_
  refine lv_icmp_ge (tgt := 66) X.1 X.2.1 dX1_tricksOf_8 (by decide) (fun c_8 => absurd c_8 (by decide)) (fun c_8 => ?_)
  refine lv_iload_n X.1 X.2.1 dX1_tricksOf_11 rfl (lv_at hl 1 rfl) ?_
  refine lv_iload_n X.1 X.2.1 dX1_tricksOf_12 rfl (lv_at hl 3 rfl) ?_
  refine lv_iload X.1 X.2.1 dX1_tricksOf_13 (lv_at hl 0 rfl) ?_
  refine on_Si (run_S (As := [.int (nI a), .int 0]) (rest := [.int 0]) X (c_X1_ofSuit l G hp a 0 (by omega) (by decide)) (rp_blind _) (rp_at X hH hS) mf_X1_ofSuit tw_206 tw_207 ⟨rfl, rfl, Nat.le_of_ble_eq_true rfl, Nat.le_of_ble_eq_true rfl⟩ hl.1 rfl rfl (Nat.le_of_ble_eq_true rfl) ⟨Nat.le_of_ble_eq_true rfl, Nat.le_of_ble_eq_true rfl⟩ dX1_tricksOf_15) (fun r_15 q_15 => ?_)
  obtain rfl : r_15 = (nI (su a 0)) := q_15
  refine lv_iload_n X.1 X.2.1 dX1_tricksOf_18 rfl (lv_at hl 4 rfl) ?_
  refine lv_iload X.1 X.2.1 dX1_tricksOf_19 (lv_at hl 0 rfl) ?_
  refine on_Si (run_S (As := [.int (nI b), .int 0]) (rest := [.int (nI (su a 0)), .int 0]) X (c_X1_ofSuit l G hp b 0 (by omega) (by decide)) (rp_blind _) (rp_at X hH hS) mf_X1_ofSuit tw_206 tw_207 ⟨rfl, rfl, Nat.le_of_ble_eq_true rfl, Nat.le_of_ble_eq_true rfl⟩ hl.1 rfl rfl (Nat.le_of_ble_eq_true rfl) ⟨Nat.le_of_ble_eq_true rfl, Nat.le_of_ble_eq_true rfl⟩ dX1_tricksOf_21) (fun r_21 q_21 => ?_)
  obtain rfl : r_21 = (nI (su b 0)) := q_21
  refine on_Si (run_S (As := [.int (nI (su a 0)), .int (nI (su b 0))]) (rest := [.int 0]) X (c_X1_winners l G hp (su a 0) (su b 0) (su_lt _ _) (su_lt _ _)) (rp_blind _) (rp_at X hH hS) mf_X1_winners tw_319 tw_320 ⟨rfl, rfl, Nat.le_of_ble_eq_true rfl, Nat.le_of_ble_eq_true rfl⟩ hl.1 rfl rfl (Nat.le_of_ble_eq_true rfl) ⟨Nat.le_of_ble_eq_true rfl, Nat.le_of_ble_eq_true rfl⟩ dX1_tricksOf_24) (fun r_24 q_24 => ?_)
  obtain rfl : r_24 = (nI (wnN (su a 0) (su b 0))) := q_24
  refine lv_iadd X.1 X.2.1 dX1_tricksOf_27 ?_
  refine r_eqi (show (((0 : Int32) + (nI (wnN (su a 0) (su b 0)))) : Int32) = nI (0 + (wnN (su a 0) (su b 0))) from nI_add 0 (wnN (su a 0) (su b 0))) ?_
  refine lv_istore_n (lv' := [(3, .int (nI (0 + (wnN (su a 0) (su b 0))))), (4, .int 0), (0, .int 1), (1, .int (nI a)), (2, .int (nI b))]) X.1 X.2.1 dX1_tricksOf_28 rfl hl (by decide) rfl (fun ls hl => ?_)
  refine lv_iload_n X.1 X.2.1 dX1_tricksOf_29 rfl (lv_at hl 2 rfl) ?_
  refine lv_iconst (v := 4) X.1 X.2.1 dX1_tricksOf_30 (by decide) ?_
  refine lv_icmp_eq (tgt := 60) X.1 X.2.1 dX1_tricksOf_31 (by decide) (fun c_31 => absurd c_31 (by decide)) (fun c_31 => ?_)
  refine lv_iload X.1 X.2.1 dX1_tricksOf_34 (lv_at hl 1 rfl) ?_
  refine lv_iload_n X.1 X.2.1 dX1_tricksOf_36 rfl (lv_at hl 2 rfl) ?_
  refine lv_icmp_eq (tgt := 60) X.1 X.2.1 dX1_tricksOf_37 (by decide) (fun c_37 => absurd c_37 (by decide)) (fun c_37 => ?_)
  refine lv_iload_n X.1 X.2.1 dX1_tricksOf_40 rfl (lv_at hl 0 rfl) ?_
  refine lv_iload_n X.1 X.2.1 dX1_tricksOf_41 rfl (lv_at hl 3 rfl) ?_
  refine lv_iload_n X.1 X.2.1 dX1_tricksOf_42 rfl (lv_at hl 4 rfl) ?_
  refine lv_iload X.1 X.2.1 dX1_tricksOf_43 (lv_at hl 1 rfl) ?_
  refine lv_iload_n X.1 X.2.1 dX1_tricksOf_45 rfl (lv_at hl 2 rfl) ?_
  refine on_Si (run_S (As := [.int (nI a), .int (nI b), .int 0, .int 1]) (rest := [.int (nI (0 + (wnN (su a 0) (su b 0))))]) X (c_X1_ruffs l G hp a b 0 1 ha hb (by decide) (by decide)) (rp_blind _) (rp_at X hH hS) mf_X1_ruffs tw_328 tw_329 ⟨rfl, rfl, Nat.le_of_ble_eq_true rfl, Nat.le_of_ble_eq_true rfl⟩ hl.1 rfl rfl (Nat.le_of_ble_eq_true rfl) ⟨Nat.le_of_ble_eq_true rfl, Nat.le_of_ble_eq_true rfl⟩ dX1_tricksOf_46) (fun r_46 q_46 => ?_)
  obtain rfl : r_46 = (nI (rfN a b 0 1)) := q_46
  refine lv_iload_n X.1 X.2.1 dX1_tricksOf_49 rfl (lv_at hl 4 rfl) ?_
  refine lv_iload_n X.1 X.2.1 dX1_tricksOf_50 rfl (lv_at hl 3 rfl) ?_
  refine lv_iload X.1 X.2.1 dX1_tricksOf_51 (lv_at hl 1 rfl) ?_
  refine lv_iload_n X.1 X.2.1 dX1_tricksOf_53 rfl (lv_at hl 2 rfl) ?_
  refine on_Si (run_S (As := [.int (nI b), .int (nI a), .int 0, .int 1]) (rest := [.int (nI (rfN a b 0 1)), .int (nI (0 + (wnN (su a 0) (su b 0))))]) X (c_X1_ruffs l G hp b a 0 1 hb ha (by decide) (by decide)) (rp_blind _) (rp_at X hH hS) mf_X1_ruffs tw_328 tw_329 ⟨rfl, rfl, Nat.le_of_ble_eq_true rfl, Nat.le_of_ble_eq_true rfl⟩ hl.1 rfl rfl (Nat.le_of_ble_eq_true rfl) ⟨Nat.le_of_ble_eq_true rfl, Nat.le_of_ble_eq_true rfl⟩ dX1_tricksOf_54) (fun r_54 q_54 => ?_)
  obtain rfl : r_54 = (nI (rfN b a 0 1)) := q_54
  refine lv_iadd X.1 X.2.1 dX1_tricksOf_57 ?_
  refine r_eqi (show (((nI (rfN a b 0 1)) + (nI (rfN b a 0 1))) : Int32) = nI ((rfN a b 0 1) + (rfN b a 0 1)) from nI_add (rfN a b 0 1) (rfN b a 0 1)) ?_
  refine lv_iadd X.1 X.2.1 dX1_tricksOf_58 ?_
  refine r_eqi (show (((nI (0 + (wnN (su a 0) (su b 0)))) + (nI ((rfN a b 0 1) + (rfN b a 0 1)))) : Int32) = nI ((0 + (wnN (su a 0) (su b 0))) + ((rfN a b 0 1) + (rfN b a 0 1))) from nI_add (0 + (wnN (su a 0) (su b 0))) ((rfN a b 0 1) + (rfN b a 0 1))) ?_
  refine lv_istore_n (lv' := [(3, .int (nI ((0 + (wnN (su a 0) (su b 0))) + ((rfN a b 0 1) + (rfN b a 0 1))))), (4, .int 0), (0, .int 1), (1, .int (nI a)), (2, .int (nI b))]) X.1 X.2.1 dX1_tricksOf_59 rfl hl (by decide) rfl (fun ls hl => ?_)
  refine lv_iinc (v := 1) (lv' := [(4, .int 1), (3, .int (nI ((0 + (wnN (su a 0) (su b 0))) + ((rfN a b 0 1) + (rfN b a 0 1))))), (0, .int 1), (1, .int (nI a)), (2, .int (nI b))]) X.1 X.2.1 dX1_tricksOf_60 hl (k := 1) rfl (by decide) (by decide) rfl (fun ls hl => ?_)
  refine lv_goto (tgt := 5) X.1 X.2.1 dX1_tricksOf_63 (by decide) ?_
  refine lv_iload X.1 X.2.1 dX1_tricksOf_5 (lv_at hl 0 rfl) ?_
  refine lv_iconst (v := 4) X.1 X.2.1 dX1_tricksOf_7 (by decide) ?_
  refine lv_icmp_ge (tgt := 66) X.1 X.2.1 dX1_tricksOf_8 (by decide) (fun c_8 => absurd c_8 (by decide)) (fun c_8 => ?_)
  refine lv_iload_n X.1 X.2.1 dX1_tricksOf_11 rfl (lv_at hl 1 rfl) ?_
  refine lv_iload_n X.1 X.2.1 dX1_tricksOf_12 rfl (lv_at hl 3 rfl) ?_
  refine lv_iload X.1 X.2.1 dX1_tricksOf_13 (lv_at hl 0 rfl) ?_
  refine on_Si (run_S (As := [.int (nI a), .int 1]) (rest := [.int (nI ((0 + (wnN (su a 0) (su b 0))) + ((rfN a b 0 1) + (rfN b a 0 1))))]) X (c_X1_ofSuit l G hp a 1 (by omega) (by decide)) (rp_blind _) (rp_at X hH hS) mf_X1_ofSuit tw_206 tw_207 ⟨rfl, rfl, Nat.le_of_ble_eq_true rfl, Nat.le_of_ble_eq_true rfl⟩ hl.1 rfl rfl (Nat.le_of_ble_eq_true rfl) ⟨Nat.le_of_ble_eq_true rfl, Nat.le_of_ble_eq_true rfl⟩ dX1_tricksOf_15) (fun r_15x q_15x => ?_)
  obtain rfl : r_15x = (nI (su a 1)) := q_15x
  refine lv_iload_n X.1 X.2.1 dX1_tricksOf_18 rfl (lv_at hl 4 rfl) ?_
  refine lv_iload X.1 X.2.1 dX1_tricksOf_19 (lv_at hl 0 rfl) ?_
  refine on_Si (run_S (As := [.int (nI b), .int 1]) (rest := [.int (nI (su a 1)), .int (nI ((0 + (wnN (su a 0) (su b 0))) + ((rfN a b 0 1) + (rfN b a 0 1))))]) X (c_X1_ofSuit l G hp b 1 (by omega) (by decide)) (rp_blind _) (rp_at X hH hS) mf_X1_ofSuit tw_206 tw_207 ⟨rfl, rfl, Nat.le_of_ble_eq_true rfl, Nat.le_of_ble_eq_true rfl⟩ hl.1 rfl rfl (Nat.le_of_ble_eq_true rfl) ⟨Nat.le_of_ble_eq_true rfl, Nat.le_of_ble_eq_true rfl⟩ dX1_tricksOf_21) (fun r_21x q_21x => ?_)
  obtain rfl : r_21x = (nI (su b 1)) := q_21x
  refine on_Si (run_S (As := [.int (nI (su a 1)), .int (nI (su b 1))]) (rest := [.int (nI ((0 + (wnN (su a 0) (su b 0))) + ((rfN a b 0 1) + (rfN b a 0 1))))]) X (c_X1_winners l G hp (su a 1) (su b 1) (su_lt _ _) (su_lt _ _)) (rp_blind _) (rp_at X hH hS) mf_X1_winners tw_319 tw_320 ⟨rfl, rfl, Nat.le_of_ble_eq_true rfl, Nat.le_of_ble_eq_true rfl⟩ hl.1 rfl rfl (Nat.le_of_ble_eq_true rfl) ⟨Nat.le_of_ble_eq_true rfl, Nat.le_of_ble_eq_true rfl⟩ dX1_tricksOf_24) (fun r_24x q_24x => ?_)
  obtain rfl : r_24x = (nI (wnN (su a 1) (su b 1))) := q_24x
  refine lv_iadd X.1 X.2.1 dX1_tricksOf_27 ?_
  refine r_eqi (show (((nI ((0 + (wnN (su a 0) (su b 0))) + ((rfN a b 0 1) + (rfN b a 0 1)))) + (nI (wnN (su a 1) (su b 1)))) : Int32) = nI (((0 + (wnN (su a 0) (su b 0))) + ((rfN a b 0 1) + (rfN b a 0 1))) + (wnN (su a 1) (su b 1))) from nI_add ((0 + (wnN (su a 0) (su b 0))) + ((rfN a b 0 1) + (rfN b a 0 1))) (wnN (su a 1) (su b 1))) ?_
  refine lv_istore_n (lv' := [(3, .int (nI (((0 + (wnN (su a 0) (su b 0))) + ((rfN a b 0 1) + (rfN b a 0 1))) + (wnN (su a 1) (su b 1))))), (4, .int 1), (0, .int 1), (1, .int (nI a)), (2, .int (nI b))]) X.1 X.2.1 dX1_tricksOf_28 rfl hl (by decide) rfl (fun ls hl => ?_)
  refine lv_iload_n X.1 X.2.1 dX1_tricksOf_29 rfl (lv_at hl 2 rfl) ?_
  refine lv_iconst (v := 4) X.1 X.2.1 dX1_tricksOf_30 (by decide) ?_
  refine lv_icmp_eq (tgt := 60) X.1 X.2.1 dX1_tricksOf_31 (by decide) (fun c_31 => absurd c_31 (by decide)) (fun c_31 => ?_)
  refine lv_iload X.1 X.2.1 dX1_tricksOf_34 (lv_at hl 1 rfl) ?_
  refine lv_iload_n X.1 X.2.1 dX1_tricksOf_36 rfl (lv_at hl 2 rfl) ?_
  refine lv_icmp_eq (tgt := 60) X.1 X.2.1 dX1_tricksOf_37 (by decide) (fun c_37 => ?_) (fun c_37 => absurd (by decide) c_37)
  refine lv_iinc (v := 2) (lv' := [(4, .int 2), (3, .int (nI (((0 + (wnN (su a 0) (su b 0))) + ((rfN a b 0 1) + (rfN b a 0 1))) + (wnN (su a 1) (su b 1))))), (0, .int 1), (1, .int (nI a)), (2, .int (nI b))]) X.1 X.2.1 dX1_tricksOf_60 hl (k := 1) rfl (by decide) (by decide) rfl (fun ls hl => ?_)
  refine lv_goto (tgt := 5) X.1 X.2.1 dX1_tricksOf_63 (by decide) ?_
  refine lv_iload X.1 X.2.1 dX1_tricksOf_5 (lv_at hl 0 rfl) ?_
  refine lv_iconst (v := 4) X.1 X.2.1 dX1_tricksOf_7 (by decide) ?_
  refine lv_icmp_ge (tgt := 66) X.1 X.2.1 dX1_tricksOf_8 (by decide) (fun c_8 => absurd c_8 (by decide)) (fun c_8 => ?_)
  refine lv_iload_n X.1 X.2.1 dX1_tricksOf_11 rfl (lv_at hl 1 rfl) ?_
  refine lv_iload_n X.1 X.2.1 dX1_tricksOf_12 rfl (lv_at hl 3 rfl) ?_
  refine lv_iload X.1 X.2.1 dX1_tricksOf_13 (lv_at hl 0 rfl) ?_
  refine on_Si (run_S (As := [.int (nI a), .int 2]) (rest := [.int (nI (((0 + (wnN (su a 0) (su b 0))) + ((rfN a b 0 1) + (rfN b a 0 1))) + (wnN (su a 1) (su b 1))))]) X (c_X1_ofSuit l G hp a 2 (by omega) (by decide)) (rp_blind _) (rp_at X hH hS) mf_X1_ofSuit tw_206 tw_207 ⟨rfl, rfl, Nat.le_of_ble_eq_true rfl, Nat.le_of_ble_eq_true rfl⟩ hl.1 rfl rfl (Nat.le_of_ble_eq_true rfl) ⟨Nat.le_of_ble_eq_true rfl, Nat.le_of_ble_eq_true rfl⟩ dX1_tricksOf_15) (fun r_15xx q_15xx => ?_)
  obtain rfl : r_15xx = (nI (su a 2)) := q_15xx
  refine lv_iload_n X.1 X.2.1 dX1_tricksOf_18 rfl (lv_at hl 4 rfl) ?_
  refine lv_iload X.1 X.2.1 dX1_tricksOf_19 (lv_at hl 0 rfl) ?_
  refine on_Si (run_S (As := [.int (nI b), .int 2]) (rest := [.int (nI (su a 2)), .int (nI (((0 + (wnN (su a 0) (su b 0))) + ((rfN a b 0 1) + (rfN b a 0 1))) + (wnN (su a 1) (su b 1))))]) X (c_X1_ofSuit l G hp b 2 (by omega) (by decide)) (rp_blind _) (rp_at X hH hS) mf_X1_ofSuit tw_206 tw_207 ⟨rfl, rfl, Nat.le_of_ble_eq_true rfl, Nat.le_of_ble_eq_true rfl⟩ hl.1 rfl rfl (Nat.le_of_ble_eq_true rfl) ⟨Nat.le_of_ble_eq_true rfl, Nat.le_of_ble_eq_true rfl⟩ dX1_tricksOf_21) (fun r_21xx q_21xx => ?_)
  obtain rfl : r_21xx = (nI (su b 2)) := q_21xx
  refine on_Si (run_S (As := [.int (nI (su a 2)), .int (nI (su b 2))]) (rest := [.int (nI (((0 + (wnN (su a 0) (su b 0))) + ((rfN a b 0 1) + (rfN b a 0 1))) + (wnN (su a 1) (su b 1))))]) X (c_X1_winners l G hp (su a 2) (su b 2) (su_lt _ _) (su_lt _ _)) (rp_blind _) (rp_at X hH hS) mf_X1_winners tw_319 tw_320 ⟨rfl, rfl, Nat.le_of_ble_eq_true rfl, Nat.le_of_ble_eq_true rfl⟩ hl.1 rfl rfl (Nat.le_of_ble_eq_true rfl) ⟨Nat.le_of_ble_eq_true rfl, Nat.le_of_ble_eq_true rfl⟩ dX1_tricksOf_24) (fun r_24xx q_24xx => ?_)
  obtain rfl : r_24xx = (nI (wnN (su a 2) (su b 2))) := q_24xx
  refine lv_iadd X.1 X.2.1 dX1_tricksOf_27 ?_
  refine r_eqi (show (((nI (((0 + (wnN (su a 0) (su b 0))) + ((rfN a b 0 1) + (rfN b a 0 1))) + (wnN (su a 1) (su b 1)))) + (nI (wnN (su a 2) (su b 2)))) : Int32) = nI ((((0 + (wnN (su a 0) (su b 0))) + ((rfN a b 0 1) + (rfN b a 0 1))) + (wnN (su a 1) (su b 1))) + (wnN (su a 2) (su b 2))) from nI_add (((0 + (wnN (su a 0) (su b 0))) + ((rfN a b 0 1) + (rfN b a 0 1))) + (wnN (su a 1) (su b 1))) (wnN (su a 2) (su b 2))) ?_
  refine lv_istore_n (lv' := [(3, .int (nI ((((0 + (wnN (su a 0) (su b 0))) + ((rfN a b 0 1) + (rfN b a 0 1))) + (wnN (su a 1) (su b 1))) + (wnN (su a 2) (su b 2))))), (4, .int 2), (0, .int 1), (1, .int (nI a)), (2, .int (nI b))]) X.1 X.2.1 dX1_tricksOf_28 rfl hl (by decide) rfl (fun ls hl => ?_)
  refine lv_iload_n X.1 X.2.1 dX1_tricksOf_29 rfl (lv_at hl 2 rfl) ?_
  refine lv_iconst (v := 4) X.1 X.2.1 dX1_tricksOf_30 (by decide) ?_
  refine lv_icmp_eq (tgt := 60) X.1 X.2.1 dX1_tricksOf_31 (by decide) (fun c_31 => absurd c_31 (by decide)) (fun c_31 => ?_)
  refine lv_iload X.1 X.2.1 dX1_tricksOf_34 (lv_at hl 1 rfl) ?_
  refine lv_iload_n X.1 X.2.1 dX1_tricksOf_36 rfl (lv_at hl 2 rfl) ?_
  refine lv_icmp_eq (tgt := 60) X.1 X.2.1 dX1_tricksOf_37 (by decide) (fun c_37 => absurd c_37 (by decide)) (fun c_37 => ?_)
  refine lv_iload_n X.1 X.2.1 dX1_tricksOf_40 rfl (lv_at hl 0 rfl) ?_
  refine lv_iload_n X.1 X.2.1 dX1_tricksOf_41 rfl (lv_at hl 3 rfl) ?_
  refine lv_iload_n X.1 X.2.1 dX1_tricksOf_42 rfl (lv_at hl 4 rfl) ?_
  refine lv_iload X.1 X.2.1 dX1_tricksOf_43 (lv_at hl 1 rfl) ?_
  refine lv_iload_n X.1 X.2.1 dX1_tricksOf_45 rfl (lv_at hl 2 rfl) ?_
  refine on_Si (run_S (As := [.int (nI a), .int (nI b), .int 2, .int 1]) (rest := [.int (nI ((((0 + (wnN (su a 0) (su b 0))) + ((rfN a b 0 1) + (rfN b a 0 1))) + (wnN (su a 1) (su b 1))) + (wnN (su a 2) (su b 2))))]) X (c_X1_ruffs l G hp a b 2 1 ha hb (by decide) (by decide)) (rp_blind _) (rp_at X hH hS) mf_X1_ruffs tw_328 tw_329 ⟨rfl, rfl, Nat.le_of_ble_eq_true rfl, Nat.le_of_ble_eq_true rfl⟩ hl.1 rfl rfl (Nat.le_of_ble_eq_true rfl) ⟨Nat.le_of_ble_eq_true rfl, Nat.le_of_ble_eq_true rfl⟩ dX1_tricksOf_46) (fun r_46x q_46x => ?_)
  obtain rfl : r_46x = (nI (rfN a b 2 1)) := q_46x
  refine lv_iload_n X.1 X.2.1 dX1_tricksOf_49 rfl (lv_at hl 4 rfl) ?_
  refine lv_iload_n X.1 X.2.1 dX1_tricksOf_50 rfl (lv_at hl 3 rfl) ?_
  refine lv_iload X.1 X.2.1 dX1_tricksOf_51 (lv_at hl 1 rfl) ?_
  refine lv_iload_n X.1 X.2.1 dX1_tricksOf_53 rfl (lv_at hl 2 rfl) ?_
  refine on_Si (run_S (As := [.int (nI b), .int (nI a), .int 2, .int 1]) (rest := [.int (nI (rfN a b 2 1)), .int (nI ((((0 + (wnN (su a 0) (su b 0))) + ((rfN a b 0 1) + (rfN b a 0 1))) + (wnN (su a 1) (su b 1))) + (wnN (su a 2) (su b 2))))]) X (c_X1_ruffs l G hp b a 2 1 hb ha (by decide) (by decide)) (rp_blind _) (rp_at X hH hS) mf_X1_ruffs tw_328 tw_329 ⟨rfl, rfl, Nat.le_of_ble_eq_true rfl, Nat.le_of_ble_eq_true rfl⟩ hl.1 rfl rfl (Nat.le_of_ble_eq_true rfl) ⟨Nat.le_of_ble_eq_true rfl, Nat.le_of_ble_eq_true rfl⟩ dX1_tricksOf_54) (fun r_54x q_54x => ?_)
  obtain rfl : r_54x = (nI (rfN b a 2 1)) := q_54x
  refine lv_iadd X.1 X.2.1 dX1_tricksOf_57 ?_
  refine r_eqi (show (((nI (rfN a b 2 1)) + (nI (rfN b a 2 1))) : Int32) = nI ((rfN a b 2 1) + (rfN b a 2 1)) from nI_add (rfN a b 2 1) (rfN b a 2 1)) ?_
  refine lv_iadd X.1 X.2.1 dX1_tricksOf_58 ?_
  refine r_eqi (show (((nI ((((0 + (wnN (su a 0) (su b 0))) + ((rfN a b 0 1) + (rfN b a 0 1))) + (wnN (su a 1) (su b 1))) + (wnN (su a 2) (su b 2)))) + (nI ((rfN a b 2 1) + (rfN b a 2 1)))) : Int32) = nI (((((0 + (wnN (su a 0) (su b 0))) + ((rfN a b 0 1) + (rfN b a 0 1))) + (wnN (su a 1) (su b 1))) + (wnN (su a 2) (su b 2))) + ((rfN a b 2 1) + (rfN b a 2 1))) from nI_add ((((0 + (wnN (su a 0) (su b 0))) + ((rfN a b 0 1) + (rfN b a 0 1))) + (wnN (su a 1) (su b 1))) + (wnN (su a 2) (su b 2))) ((rfN a b 2 1) + (rfN b a 2 1))) ?_
  refine lv_istore_n (lv' := [(3, .int (nI (((((0 + (wnN (su a 0) (su b 0))) + ((rfN a b 0 1) + (rfN b a 0 1))) + (wnN (su a 1) (su b 1))) + (wnN (su a 2) (su b 2))) + ((rfN a b 2 1) + (rfN b a 2 1))))), (4, .int 2), (0, .int 1), (1, .int (nI a)), (2, .int (nI b))]) X.1 X.2.1 dX1_tricksOf_59 rfl hl (by decide) rfl (fun ls hl => ?_)
  refine lv_iinc (v := 3) (lv' := [(4, .int 3), (3, .int (nI (((((0 + (wnN (su a 0) (su b 0))) + ((rfN a b 0 1) + (rfN b a 0 1))) + (wnN (su a 1) (su b 1))) + (wnN (su a 2) (su b 2))) + ((rfN a b 2 1) + (rfN b a 2 1))))), (0, .int 1), (1, .int (nI a)), (2, .int (nI b))]) X.1 X.2.1 dX1_tricksOf_60 hl (k := 1) rfl (by decide) (by decide) rfl (fun ls hl => ?_)
  refine lv_goto (tgt := 5) X.1 X.2.1 dX1_tricksOf_63 (by decide) ?_
  refine lv_iload X.1 X.2.1 dX1_tricksOf_5 (lv_at hl 0 rfl) ?_
  refine lv_iconst (v := 4) X.1 X.2.1 dX1_tricksOf_7 (by decide) ?_
  refine lv_icmp_ge (tgt := 66) X.1 X.2.1 dX1_tricksOf_8 (by decide) (fun c_8 => absurd c_8 (by decide)) (fun c_8 => ?_)
  refine lv_iload_n X.1 X.2.1 dX1_tricksOf_11 rfl (lv_at hl 1 rfl) ?_
  refine lv_iload_n X.1 X.2.1 dX1_tricksOf_12 rfl (lv_at hl 3 rfl) ?_
  refine lv_iload X.1 X.2.1 dX1_tricksOf_13 (lv_at hl 0 rfl) ?_
  refine on_Si (run_S (As := [.int (nI a), .int 3]) (rest := [.int (nI (((((0 + (wnN (su a 0) (su b 0))) + ((rfN a b 0 1) + (rfN b a 0 1))) + (wnN (su a 1) (su b 1))) + (wnN (su a 2) (su b 2))) + ((rfN a b 2 1) + (rfN b a 2 1))))]) X (c_X1_ofSuit l G hp a 3 (by omega) (by decide)) (rp_blind _) (rp_at X hH hS) mf_X1_ofSuit tw_206 tw_207 ⟨rfl, rfl, Nat.le_of_ble_eq_true rfl, Nat.le_of_ble_eq_true rfl⟩ hl.1 rfl rfl (Nat.le_of_ble_eq_true rfl) ⟨Nat.le_of_ble_eq_true rfl, Nat.le_of_ble_eq_true rfl⟩ dX1_tricksOf_15) (fun r_15xxx q_15xxx => ?_)
  obtain rfl : r_15xxx = (nI (su a 3)) := q_15xxx
  refine lv_iload_n X.1 X.2.1 dX1_tricksOf_18 rfl (lv_at hl 4 rfl) ?_
  refine lv_iload X.1 X.2.1 dX1_tricksOf_19 (lv_at hl 0 rfl) ?_
  refine on_Si (run_S (As := [.int (nI b), .int 3]) (rest := [.int (nI (su a 3)), .int (nI (((((0 + (wnN (su a 0) (su b 0))) + ((rfN a b 0 1) + (rfN b a 0 1))) + (wnN (su a 1) (su b 1))) + (wnN (su a 2) (su b 2))) + ((rfN a b 2 1) + (rfN b a 2 1))))]) X (c_X1_ofSuit l G hp b 3 (by omega) (by decide)) (rp_blind _) (rp_at X hH hS) mf_X1_ofSuit tw_206 tw_207 ⟨rfl, rfl, Nat.le_of_ble_eq_true rfl, Nat.le_of_ble_eq_true rfl⟩ hl.1 rfl rfl (Nat.le_of_ble_eq_true rfl) ⟨Nat.le_of_ble_eq_true rfl, Nat.le_of_ble_eq_true rfl⟩ dX1_tricksOf_21) (fun r_21xxx q_21xxx => ?_)
  obtain rfl : r_21xxx = (nI (su b 3)) := q_21xxx
  refine on_Si (run_S (As := [.int (nI (su a 3)), .int (nI (su b 3))]) (rest := [.int (nI (((((0 + (wnN (su a 0) (su b 0))) + ((rfN a b 0 1) + (rfN b a 0 1))) + (wnN (su a 1) (su b 1))) + (wnN (su a 2) (su b 2))) + ((rfN a b 2 1) + (rfN b a 2 1))))]) X (c_X1_winners l G hp (su a 3) (su b 3) (su_lt _ _) (su_lt _ _)) (rp_blind _) (rp_at X hH hS) mf_X1_winners tw_319 tw_320 ⟨rfl, rfl, Nat.le_of_ble_eq_true rfl, Nat.le_of_ble_eq_true rfl⟩ hl.1 rfl rfl (Nat.le_of_ble_eq_true rfl) ⟨Nat.le_of_ble_eq_true rfl, Nat.le_of_ble_eq_true rfl⟩ dX1_tricksOf_24) (fun r_24xxx q_24xxx => ?_)
  obtain rfl : r_24xxx = (nI (wnN (su a 3) (su b 3))) := q_24xxx
  refine lv_iadd X.1 X.2.1 dX1_tricksOf_27 ?_
  refine r_eqi (show (((nI (((((0 + (wnN (su a 0) (su b 0))) + ((rfN a b 0 1) + (rfN b a 0 1))) + (wnN (su a 1) (su b 1))) + (wnN (su a 2) (su b 2))) + ((rfN a b 2 1) + (rfN b a 2 1)))) + (nI (wnN (su a 3) (su b 3)))) : Int32) = nI ((((((0 + (wnN (su a 0) (su b 0))) + ((rfN a b 0 1) + (rfN b a 0 1))) + (wnN (su a 1) (su b 1))) + (wnN (su a 2) (su b 2))) + ((rfN a b 2 1) + (rfN b a 2 1))) + (wnN (su a 3) (su b 3))) from nI_add (((((0 + (wnN (su a 0) (su b 0))) + ((rfN a b 0 1) + (rfN b a 0 1))) + (wnN (su a 1) (su b 1))) + (wnN (su a 2) (su b 2))) + ((rfN a b 2 1) + (rfN b a 2 1))) (wnN (su a 3) (su b 3))) ?_
  refine lv_istore_n (lv' := [(3, .int (nI ((((((0 + (wnN (su a 0) (su b 0))) + ((rfN a b 0 1) + (rfN b a 0 1))) + (wnN (su a 1) (su b 1))) + (wnN (su a 2) (su b 2))) + ((rfN a b 2 1) + (rfN b a 2 1))) + (wnN (su a 3) (su b 3))))), (4, .int 3), (0, .int 1), (1, .int (nI a)), (2, .int (nI b))]) X.1 X.2.1 dX1_tricksOf_28 rfl hl (by decide) rfl (fun ls hl => ?_)
  refine lv_iload_n X.1 X.2.1 dX1_tricksOf_29 rfl (lv_at hl 2 rfl) ?_
  refine lv_iconst (v := 4) X.1 X.2.1 dX1_tricksOf_30 (by decide) ?_
  refine lv_icmp_eq (tgt := 60) X.1 X.2.1 dX1_tricksOf_31 (by decide) (fun c_31 => absurd c_31 (by decide)) (fun c_31 => ?_)
  refine lv_iload X.1 X.2.1 dX1_tricksOf_34 (lv_at hl 1 rfl) ?_
  refine lv_iload_n X.1 X.2.1 dX1_tricksOf_36 rfl (lv_at hl 2 rfl) ?_
  refine lv_icmp_eq (tgt := 60) X.1 X.2.1 dX1_tricksOf_37 (by decide) (fun c_37 => absurd c_37 (by decide)) (fun c_37 => ?_)
  refine lv_iload_n X.1 X.2.1 dX1_tricksOf_40 rfl (lv_at hl 0 rfl) ?_
  refine lv_iload_n X.1 X.2.1 dX1_tricksOf_41 rfl (lv_at hl 3 rfl) ?_
  refine lv_iload_n X.1 X.2.1 dX1_tricksOf_42 rfl (lv_at hl 4 rfl) ?_
  refine lv_iload X.1 X.2.1 dX1_tricksOf_43 (lv_at hl 1 rfl) ?_
  refine lv_iload_n X.1 X.2.1 dX1_tricksOf_45 rfl (lv_at hl 2 rfl) ?_
  refine on_Si (run_S (As := [.int (nI a), .int (nI b), .int 3, .int 1]) (rest := [.int (nI ((((((0 + (wnN (su a 0) (su b 0))) + ((rfN a b 0 1) + (rfN b a 0 1))) + (wnN (su a 1) (su b 1))) + (wnN (su a 2) (su b 2))) + ((rfN a b 2 1) + (rfN b a 2 1))) + (wnN (su a 3) (su b 3))))]) X (c_X1_ruffs l G hp a b 3 1 ha hb (by decide) (by decide)) (rp_blind _) (rp_at X hH hS) mf_X1_ruffs tw_328 tw_329 ⟨rfl, rfl, Nat.le_of_ble_eq_true rfl, Nat.le_of_ble_eq_true rfl⟩ hl.1 rfl rfl (Nat.le_of_ble_eq_true rfl) ⟨Nat.le_of_ble_eq_true rfl, Nat.le_of_ble_eq_true rfl⟩ dX1_tricksOf_46) (fun r_46xx q_46xx => ?_)
  obtain rfl : r_46xx = (nI (rfN a b 3 1)) := q_46xx
  refine lv_iload_n X.1 X.2.1 dX1_tricksOf_49 rfl (lv_at hl 4 rfl) ?_
  refine lv_iload_n X.1 X.2.1 dX1_tricksOf_50 rfl (lv_at hl 3 rfl) ?_
  refine lv_iload X.1 X.2.1 dX1_tricksOf_51 (lv_at hl 1 rfl) ?_
  refine lv_iload_n X.1 X.2.1 dX1_tricksOf_53 rfl (lv_at hl 2 rfl) ?_
  refine on_Si (run_S (As := [.int (nI b), .int (nI a), .int 3, .int 1]) (rest := [.int (nI (rfN a b 3 1)), .int (nI ((((((0 + (wnN (su a 0) (su b 0))) + ((rfN a b 0 1) + (rfN b a 0 1))) + (wnN (su a 1) (su b 1))) + (wnN (su a 2) (su b 2))) + ((rfN a b 2 1) + (rfN b a 2 1))) + (wnN (su a 3) (su b 3))))]) X (c_X1_ruffs l G hp b a 3 1 hb ha (by decide) (by decide)) (rp_blind _) (rp_at X hH hS) mf_X1_ruffs tw_328 tw_329 ⟨rfl, rfl, Nat.le_of_ble_eq_true rfl, Nat.le_of_ble_eq_true rfl⟩ hl.1 rfl rfl (Nat.le_of_ble_eq_true rfl) ⟨Nat.le_of_ble_eq_true rfl, Nat.le_of_ble_eq_true rfl⟩ dX1_tricksOf_54) (fun r_54xx q_54xx => ?_)
  obtain rfl : r_54xx = (nI (rfN b a 3 1)) := q_54xx
  refine lv_iadd X.1 X.2.1 dX1_tricksOf_57 ?_
  refine r_eqi (show (((nI (rfN a b 3 1)) + (nI (rfN b a 3 1))) : Int32) = nI ((rfN a b 3 1) + (rfN b a 3 1)) from nI_add (rfN a b 3 1) (rfN b a 3 1)) ?_
  refine lv_iadd X.1 X.2.1 dX1_tricksOf_58 ?_
  refine r_eqi (show (((nI ((((((0 + (wnN (su a 0) (su b 0))) + ((rfN a b 0 1) + (rfN b a 0 1))) + (wnN (su a 1) (su b 1))) + (wnN (su a 2) (su b 2))) + ((rfN a b 2 1) + (rfN b a 2 1))) + (wnN (su a 3) (su b 3)))) + (nI ((rfN a b 3 1) + (rfN b a 3 1)))) : Int32) = nI (((((((0 + (wnN (su a 0) (su b 0))) + ((rfN a b 0 1) + (rfN b a 0 1))) + (wnN (su a 1) (su b 1))) + (wnN (su a 2) (su b 2))) + ((rfN a b 2 1) + (rfN b a 2 1))) + (wnN (su a 3) (su b 3))) + ((rfN a b 3 1) + (rfN b a 3 1))) from nI_add ((((((0 + (wnN (su a 0) (su b 0))) + ((rfN a b 0 1) + (rfN b a 0 1))) + (wnN (su a 1) (su b 1))) + (wnN (su a 2) (su b 2))) + ((rfN a b 2 1) + (rfN b a 2 1))) + (wnN (su a 3) (su b 3))) ((rfN a b 3 1) + (rfN b a 3 1))) ?_
  refine lv_istore_n (lv' := [(3, .int (nI (((((((0 + (wnN (su a 0) (su b 0))) + ((rfN a b 0 1) + (rfN b a 0 1))) + (wnN (su a 1) (su b 1))) + (wnN (su a 2) (su b 2))) + ((rfN a b 2 1) + (rfN b a 2 1))) + (wnN (su a 3) (su b 3))) + ((rfN a b 3 1) + (rfN b a 3 1))))), (4, .int 3), (0, .int 1), (1, .int (nI a)), (2, .int (nI b))]) X.1 X.2.1 dX1_tricksOf_59 rfl hl (by decide) rfl (fun ls hl => ?_)
  refine lv_iinc (v := 4) (lv' := [(4, .int 4), (3, .int (nI (((((((0 + (wnN (su a 0) (su b 0))) + ((rfN a b 0 1) + (rfN b a 0 1))) + (wnN (su a 1) (su b 1))) + (wnN (su a 2) (su b 2))) + ((rfN a b 2 1) + (rfN b a 2 1))) + (wnN (su a 3) (su b 3))) + ((rfN a b 3 1) + (rfN b a 3 1))))), (0, .int 1), (1, .int (nI a)), (2, .int (nI b))]) X.1 X.2.1 dX1_tricksOf_60 hl (k := 1) rfl (by decide) (by decide) rfl (fun ls hl => ?_)
  refine lv_goto (tgt := 5) X.1 X.2.1 dX1_tricksOf_63 (by decide) ?_
  refine lv_iload X.1 X.2.1 dX1_tricksOf_5 (lv_at hl 0 rfl) ?_
  refine lv_iconst (v := 4) X.1 X.2.1 dX1_tricksOf_7 (by decide) ?_
  refine lv_icmp_ge (tgt := 66) X.1 X.2.1 dX1_tricksOf_8 (by decide) (fun c_8 => ?_) (fun c_8 => absurd (by decide) c_8)
  refine lv_iload_n X.1 X.2.1 dX1_tricksOf_66 rfl (lv_at hl 1 rfl) ?_
  refine lv_iconst (v := 5) X.1 X.2.1 dX1_tricksOf_67 (by decide) ?_
  refine va_mmin X.1 X.2.1 (by rw [X.2.2.1]; exact hl.1.symm) X.2.2.2.1 (tb_all X.2.2.2.2.1 _ tw_325) (tb_all X.2.2.2.2.1 _ tw_326) (tb_all X.2.2.2.2.1 _ tw_29) (tb_all X.2.2.2.2.1 _ tw_math_min) (Nat.le_of_ble_eq_true rfl) (Nat.le_of_ble_eq_true rfl) (Nat.le_of_ble_eq_true rfl) (Nat.le_of_ble_eq_true rfl) dX1_tricksOf_68 ?_
  refine r_eqi (n_min (((((((0 + (wnN (su a 0) (su b 0))) + ((rfN a b 0 1) + (rfN b a 0 1))) + (wnN (su a 1) (su b 1))) + (wnN (su a 2) (su b 2))) + ((rfN a b 2 1) + (rfN b a 2 1))) + (wnN (su a 3) (su b 3))) + ((rfN a b 3 1) + (rfN b a 3 1))) 5 (by omega) (by omega)) ?_
  exact ro_i X hr hlk (by show nI _ = nI _; refine congrArg nI ?_; unfold trN trS; rw [if_pos (show (1 : Nat) ≠ 4 ∧ (0 : Nat) ≠ 1 by decide)]; rw [if_neg (show ¬ ((1 : Nat) ≠ 4 ∧ (1 : Nat) ≠ 1) by decide)]; rw [if_pos (show (1 : Nat) ≠ 4 ∧ (2 : Nat) ≠ 1 by decide)]; rw [if_pos (show (1 : Nat) ≠ 4 ∧ (3 : Nat) ≠ 1 by decide)]; refine congrArg (fun z => min z 5) ?_; omega) dX1_tricksOf_71

set_option maxHeartbeats 4000000 in
set_option maxRecDepth 100000 in
theorem c_X1_tricksOf_2 (l : Launch) (G : HG) (hp : HP) (a b : Nat) (ha : a ≤ 1048575) (hb : b ≤ 1048575) : Met l yX1_tricksOf [.code yX1_tricksOf cX1_tricksOf 5 (some .int)] { frames := 2, cells := 0, slots := 0, locals := 45 } (va_Pc [.int 2, .int (nI a), .int (nI b)] (RP G hp)) (vp_Si (fun r => r = nI (trN 2 a b))) 0 0 (fun _ => False) := by
  refine ro_ofW (by decide) (Nat.le_of_ble_eq_true rfl) ?_
  intro p e s m args below meth c ls X hr hlk hH hl
  have hS : va_S (fun _ => False) s.heap s.heap [] := va_S.rf
  have hl : lv_has ls 5 [(0, .int 2), (1, .int (nI a)), (2, .int (nI b))] := hl
  have := wnN_le (su a 0) (su b 0)
  have := rfN_le a b 0 2
  have := rfN_le b a 0 2
  have := wnN_le (su a 1) (su b 1)
  have := rfN_le a b 1 2
  have := rfN_le b a 1 2
  have := wnN_le (su a 2) (su b 2)
  have := wnN_le (su a 3) (su b 3)
  have := rfN_le a b 3 2
  have := rfN_le b a 3 2
  refine lv_iconst (v := 0) X.1 X.2.1 dX1_tricksOf_0 (by decide) ?_
  refine lv_istore_n (lv' := [(3, .int 0), (0, .int 2), (1, .int (nI a)), (2, .int (nI b))]) X.1 X.2.1 dX1_tricksOf_1 rfl hl (by decide) rfl (fun ls hl => ?_)
  refine lv_iconst (v := 0) X.1 X.2.1 dX1_tricksOf_2 (by decide) ?_
  refine lv_istore (lv' := [(4, .int 0), (3, .int 0), (0, .int 2), (1, .int (nI a)), (2, .int (nI b))]) X.1 X.2.1 dX1_tricksOf_3 hl (by decide) rfl (fun ls hl => ?_)
  refine lv_iload X.1 X.2.1 dX1_tricksOf_5 (lv_at hl 0 rfl) ?_
  refine lv_iconst (v := 4) X.1 X.2.1 dX1_tricksOf_7 (by decide) ?_
  refine lv_icmp_ge (tgt := 66) X.1 X.2.1 dX1_tricksOf_8 (by decide) (fun c_8 => absurd c_8 (by decide)) (fun c_8 => ?_)
  refine lv_iload_n X.1 X.2.1 dX1_tricksOf_11 rfl (lv_at hl 1 rfl) ?_
  refine lv_iload_n X.1 X.2.1 dX1_tricksOf_12 rfl (lv_at hl 3 rfl) ?_
  refine lv_iload X.1 X.2.1 dX1_tricksOf_13 (lv_at hl 0 rfl) ?_
  refine on_Si (run_S (As := [.int (nI a), .int 0]) (rest := [.int 0]) X (c_X1_ofSuit l G hp a 0 (by omega) (by decide)) (rp_blind _) (rp_at X hH hS) mf_X1_ofSuit tw_206 tw_207 ⟨rfl, rfl, Nat.le_of_ble_eq_true rfl, Nat.le_of_ble_eq_true rfl⟩ hl.1 rfl rfl (Nat.le_of_ble_eq_true rfl) ⟨Nat.le_of_ble_eq_true rfl, Nat.le_of_ble_eq_true rfl⟩ dX1_tricksOf_15) (fun r_15 q_15 => ?_)
  obtain rfl : r_15 = (nI (su a 0)) := q_15
  refine lv_iload_n X.1 X.2.1 dX1_tricksOf_18 rfl (lv_at hl 4 rfl) ?_
  refine lv_iload X.1 X.2.1 dX1_tricksOf_19 (lv_at hl 0 rfl) ?_
  refine on_Si (run_S (As := [.int (nI b), .int 0]) (rest := [.int (nI (su a 0)), .int 0]) X (c_X1_ofSuit l G hp b 0 (by omega) (by decide)) (rp_blind _) (rp_at X hH hS) mf_X1_ofSuit tw_206 tw_207 ⟨rfl, rfl, Nat.le_of_ble_eq_true rfl, Nat.le_of_ble_eq_true rfl⟩ hl.1 rfl rfl (Nat.le_of_ble_eq_true rfl) ⟨Nat.le_of_ble_eq_true rfl, Nat.le_of_ble_eq_true rfl⟩ dX1_tricksOf_21) (fun r_21 q_21 => ?_)
  obtain rfl : r_21 = (nI (su b 0)) := q_21
  refine on_Si (run_S (As := [.int (nI (su a 0)), .int (nI (su b 0))]) (rest := [.int 0]) X (c_X1_winners l G hp (su a 0) (su b 0) (su_lt _ _) (su_lt _ _)) (rp_blind _) (rp_at X hH hS) mf_X1_winners tw_319 tw_320 ⟨rfl, rfl, Nat.le_of_ble_eq_true rfl, Nat.le_of_ble_eq_true rfl⟩ hl.1 rfl rfl (Nat.le_of_ble_eq_true rfl) ⟨Nat.le_of_ble_eq_true rfl, Nat.le_of_ble_eq_true rfl⟩ dX1_tricksOf_24) (fun r_24 q_24 => ?_)
  obtain rfl : r_24 = (nI (wnN (su a 0) (su b 0))) := q_24
  refine lv_iadd X.1 X.2.1 dX1_tricksOf_27 ?_
  refine r_eqi (show (((0 : Int32) + (nI (wnN (su a 0) (su b 0)))) : Int32) = nI (0 + (wnN (su a 0) (su b 0))) from nI_add 0 (wnN (su a 0) (su b 0))) ?_
  refine lv_istore_n (lv' := [(3, .int (nI (0 + (wnN (su a 0) (su b 0))))), (4, .int 0), (0, .int 2), (1, .int (nI a)), (2, .int (nI b))]) X.1 X.2.1 dX1_tricksOf_28 rfl hl (by decide) rfl (fun ls hl => ?_)
  refine lv_iload_n X.1 X.2.1 dX1_tricksOf_29 rfl (lv_at hl 2 rfl) ?_
  refine lv_iconst (v := 4) X.1 X.2.1 dX1_tricksOf_30 (by decide) ?_
  refine lv_icmp_eq (tgt := 60) X.1 X.2.1 dX1_tricksOf_31 (by decide) (fun c_31 => absurd c_31 (by decide)) (fun c_31 => ?_)
  refine lv_iload X.1 X.2.1 dX1_tricksOf_34 (lv_at hl 1 rfl) ?_
  refine lv_iload_n X.1 X.2.1 dX1_tricksOf_36 rfl (lv_at hl 2 rfl) ?_
  refine lv_icmp_eq (tgt := 60) X.1 X.2.1 dX1_tricksOf_37 (by decide) (fun c_37 => absurd c_37 (by decide)) (fun c_37 => ?_)
  refine lv_iload_n X.1 X.2.1 dX1_tricksOf_40 rfl (lv_at hl 0 rfl) ?_
  refine lv_iload_n X.1 X.2.1 dX1_tricksOf_41 rfl (lv_at hl 3 rfl) ?_
  refine lv_iload_n X.1 X.2.1 dX1_tricksOf_42 rfl (lv_at hl 4 rfl) ?_
  refine lv_iload X.1 X.2.1 dX1_tricksOf_43 (lv_at hl 1 rfl) ?_
  refine lv_iload_n X.1 X.2.1 dX1_tricksOf_45 rfl (lv_at hl 2 rfl) ?_
  refine on_Si (run_S (As := [.int (nI a), .int (nI b), .int 0, .int 2]) (rest := [.int (nI (0 + (wnN (su a 0) (su b 0))))]) X (c_X1_ruffs l G hp a b 0 2 ha hb (by decide) (by decide)) (rp_blind _) (rp_at X hH hS) mf_X1_ruffs tw_328 tw_329 ⟨rfl, rfl, Nat.le_of_ble_eq_true rfl, Nat.le_of_ble_eq_true rfl⟩ hl.1 rfl rfl (Nat.le_of_ble_eq_true rfl) ⟨Nat.le_of_ble_eq_true rfl, Nat.le_of_ble_eq_true rfl⟩ dX1_tricksOf_46) (fun r_46 q_46 => ?_)
  obtain rfl : r_46 = (nI (rfN a b 0 2)) := q_46
  refine lv_iload_n X.1 X.2.1 dX1_tricksOf_49 rfl (lv_at hl 4 rfl) ?_
  refine lv_iload_n X.1 X.2.1 dX1_tricksOf_50 rfl (lv_at hl 3 rfl) ?_
  refine lv_iload X.1 X.2.1 dX1_tricksOf_51 (lv_at hl 1 rfl) ?_
  refine lv_iload_n X.1 X.2.1 dX1_tricksOf_53 rfl (lv_at hl 2 rfl) ?_
  refine on_Si (run_S (As := [.int (nI b), .int (nI a), .int 0, .int 2]) (rest := [.int (nI (rfN a b 0 2)), .int (nI (0 + (wnN (su a 0) (su b 0))))]) X (c_X1_ruffs l G hp b a 0 2 hb ha (by decide) (by decide)) (rp_blind _) (rp_at X hH hS) mf_X1_ruffs tw_328 tw_329 ⟨rfl, rfl, Nat.le_of_ble_eq_true rfl, Nat.le_of_ble_eq_true rfl⟩ hl.1 rfl rfl (Nat.le_of_ble_eq_true rfl) ⟨Nat.le_of_ble_eq_true rfl, Nat.le_of_ble_eq_true rfl⟩ dX1_tricksOf_54) (fun r_54 q_54 => ?_)
  obtain rfl : r_54 = (nI (rfN b a 0 2)) := q_54
  refine lv_iadd X.1 X.2.1 dX1_tricksOf_57 ?_
  refine r_eqi (show (((nI (rfN a b 0 2)) + (nI (rfN b a 0 2))) : Int32) = nI ((rfN a b 0 2) + (rfN b a 0 2)) from nI_add (rfN a b 0 2) (rfN b a 0 2)) ?_
  refine lv_iadd X.1 X.2.1 dX1_tricksOf_58 ?_
  refine r_eqi (show (((nI (0 + (wnN (su a 0) (su b 0)))) + (nI ((rfN a b 0 2) + (rfN b a 0 2)))) : Int32) = nI ((0 + (wnN (su a 0) (su b 0))) + ((rfN a b 0 2) + (rfN b a 0 2))) from nI_add (0 + (wnN (su a 0) (su b 0))) ((rfN a b 0 2) + (rfN b a 0 2))) ?_
  refine lv_istore_n (lv' := [(3, .int (nI ((0 + (wnN (su a 0) (su b 0))) + ((rfN a b 0 2) + (rfN b a 0 2))))), (4, .int 0), (0, .int 2), (1, .int (nI a)), (2, .int (nI b))]) X.1 X.2.1 dX1_tricksOf_59 rfl hl (by decide) rfl (fun ls hl => ?_)
  refine lv_iinc (v := 1) (lv' := [(4, .int 1), (3, .int (nI ((0 + (wnN (su a 0) (su b 0))) + ((rfN a b 0 2) + (rfN b a 0 2))))), (0, .int 2), (1, .int (nI a)), (2, .int (nI b))]) X.1 X.2.1 dX1_tricksOf_60 hl (k := 1) rfl (by decide) (by decide) rfl (fun ls hl => ?_)
  refine lv_goto (tgt := 5) X.1 X.2.1 dX1_tricksOf_63 (by decide) ?_
  refine lv_iload X.1 X.2.1 dX1_tricksOf_5 (lv_at hl 0 rfl) ?_
  refine lv_iconst (v := 4) X.1 X.2.1 dX1_tricksOf_7 (by decide) ?_
  refine lv_icmp_ge (tgt := 66) X.1 X.2.1 dX1_tricksOf_8 (by decide) (fun c_8 => absurd c_8 (by decide)) (fun c_8 => ?_)
  refine lv_iload_n X.1 X.2.1 dX1_tricksOf_11 rfl (lv_at hl 1 rfl) ?_
  refine lv_iload_n X.1 X.2.1 dX1_tricksOf_12 rfl (lv_at hl 3 rfl) ?_
  refine lv_iload X.1 X.2.1 dX1_tricksOf_13 (lv_at hl 0 rfl) ?_
  refine on_Si (run_S (As := [.int (nI a), .int 1]) (rest := [.int (nI ((0 + (wnN (su a 0) (su b 0))) + ((rfN a b 0 2) + (rfN b a 0 2))))]) X (c_X1_ofSuit l G hp a 1 (by omega) (by decide)) (rp_blind _) (rp_at X hH hS) mf_X1_ofSuit tw_206 tw_207 ⟨rfl, rfl, Nat.le_of_ble_eq_true rfl, Nat.le_of_ble_eq_true rfl⟩ hl.1 rfl rfl (Nat.le_of_ble_eq_true rfl) ⟨Nat.le_of_ble_eq_true rfl, Nat.le_of_ble_eq_true rfl⟩ dX1_tricksOf_15) (fun r_15x q_15x => ?_)
  obtain rfl : r_15x = (nI (su a 1)) := q_15x
  refine lv_iload_n X.1 X.2.1 dX1_tricksOf_18 rfl (lv_at hl 4 rfl) ?_
  refine lv_iload X.1 X.2.1 dX1_tricksOf_19 (lv_at hl 0 rfl) ?_
  refine on_Si (run_S (As := [.int (nI b), .int 1]) (rest := [.int (nI (su a 1)), .int (nI ((0 + (wnN (su a 0) (su b 0))) + ((rfN a b 0 2) + (rfN b a 0 2))))]) X (c_X1_ofSuit l G hp b 1 (by omega) (by decide)) (rp_blind _) (rp_at X hH hS) mf_X1_ofSuit tw_206 tw_207 ⟨rfl, rfl, Nat.le_of_ble_eq_true rfl, Nat.le_of_ble_eq_true rfl⟩ hl.1 rfl rfl (Nat.le_of_ble_eq_true rfl) ⟨Nat.le_of_ble_eq_true rfl, Nat.le_of_ble_eq_true rfl⟩ dX1_tricksOf_21) (fun r_21x q_21x => ?_)
  obtain rfl : r_21x = (nI (su b 1)) := q_21x
  refine on_Si (run_S (As := [.int (nI (su a 1)), .int (nI (su b 1))]) (rest := [.int (nI ((0 + (wnN (su a 0) (su b 0))) + ((rfN a b 0 2) + (rfN b a 0 2))))]) X (c_X1_winners l G hp (su a 1) (su b 1) (su_lt _ _) (su_lt _ _)) (rp_blind _) (rp_at X hH hS) mf_X1_winners tw_319 tw_320 ⟨rfl, rfl, Nat.le_of_ble_eq_true rfl, Nat.le_of_ble_eq_true rfl⟩ hl.1 rfl rfl (Nat.le_of_ble_eq_true rfl) ⟨Nat.le_of_ble_eq_true rfl, Nat.le_of_ble_eq_true rfl⟩ dX1_tricksOf_24) (fun r_24x q_24x => ?_)
  obtain rfl : r_24x = (nI (wnN (su a 1) (su b 1))) := q_24x
  refine lv_iadd X.1 X.2.1 dX1_tricksOf_27 ?_
  refine r_eqi (show (((nI ((0 + (wnN (su a 0) (su b 0))) + ((rfN a b 0 2) + (rfN b a 0 2)))) + (nI (wnN (su a 1) (su b 1)))) : Int32) = nI (((0 + (wnN (su a 0) (su b 0))) + ((rfN a b 0 2) + (rfN b a 0 2))) + (wnN (su a 1) (su b 1))) from nI_add ((0 + (wnN (su a 0) (su b 0))) + ((rfN a b 0 2) + (rfN b a 0 2))) (wnN (su a 1) (su b 1))) ?_
  refine lv_istore_n (lv' := [(3, .int (nI (((0 + (wnN (su a 0) (su b 0))) + ((rfN a b 0 2) + (rfN b a 0 2))) + (wnN (su a 1) (su b 1))))), (4, .int 1), (0, .int 2), (1, .int (nI a)), (2, .int (nI b))]) X.1 X.2.1 dX1_tricksOf_28 rfl hl (by decide) rfl (fun ls hl => ?_)
  refine lv_iload_n X.1 X.2.1 dX1_tricksOf_29 rfl (lv_at hl 2 rfl) ?_
  refine lv_iconst (v := 4) X.1 X.2.1 dX1_tricksOf_30 (by decide) ?_
  refine lv_icmp_eq (tgt := 60) X.1 X.2.1 dX1_tricksOf_31 (by decide) (fun c_31 => absurd c_31 (by decide)) (fun c_31 => ?_)
  refine lv_iload X.1 X.2.1 dX1_tricksOf_34 (lv_at hl 1 rfl) ?_
  refine lv_iload_n X.1 X.2.1 dX1_tricksOf_36 rfl (lv_at hl 2 rfl) ?_
  refine lv_icmp_eq (tgt := 60) X.1 X.2.1 dX1_tricksOf_37 (by decide) (fun c_37 => absurd c_37 (by decide)) (fun c_37 => ?_)
  refine lv_iload_n X.1 X.2.1 dX1_tricksOf_40 rfl (lv_at hl 0 rfl) ?_
  refine lv_iload_n X.1 X.2.1 dX1_tricksOf_41 rfl (lv_at hl 3 rfl) ?_
  refine lv_iload_n X.1 X.2.1 dX1_tricksOf_42 rfl (lv_at hl 4 rfl) ?_
  refine lv_iload X.1 X.2.1 dX1_tricksOf_43 (lv_at hl 1 rfl) ?_
  refine lv_iload_n X.1 X.2.1 dX1_tricksOf_45 rfl (lv_at hl 2 rfl) ?_
  refine on_Si (run_S (As := [.int (nI a), .int (nI b), .int 1, .int 2]) (rest := [.int (nI (((0 + (wnN (su a 0) (su b 0))) + ((rfN a b 0 2) + (rfN b a 0 2))) + (wnN (su a 1) (su b 1))))]) X (c_X1_ruffs l G hp a b 1 2 ha hb (by decide) (by decide)) (rp_blind _) (rp_at X hH hS) mf_X1_ruffs tw_328 tw_329 ⟨rfl, rfl, Nat.le_of_ble_eq_true rfl, Nat.le_of_ble_eq_true rfl⟩ hl.1 rfl rfl (Nat.le_of_ble_eq_true rfl) ⟨Nat.le_of_ble_eq_true rfl, Nat.le_of_ble_eq_true rfl⟩ dX1_tricksOf_46) (fun r_46x q_46x => ?_)
  obtain rfl : r_46x = (nI (rfN a b 1 2)) := q_46x
  refine lv_iload_n X.1 X.2.1 dX1_tricksOf_49 rfl (lv_at hl 4 rfl) ?_
  refine lv_iload_n X.1 X.2.1 dX1_tricksOf_50 rfl (lv_at hl 3 rfl) ?_
  refine lv_iload X.1 X.2.1 dX1_tricksOf_51 (lv_at hl 1 rfl) ?_
  refine lv_iload_n X.1 X.2.1 dX1_tricksOf_53 rfl (lv_at hl 2 rfl) ?_
  refine on_Si (run_S (As := [.int (nI b), .int (nI a), .int 1, .int 2]) (rest := [.int (nI (rfN a b 1 2)), .int (nI (((0 + (wnN (su a 0) (su b 0))) + ((rfN a b 0 2) + (rfN b a 0 2))) + (wnN (su a 1) (su b 1))))]) X (c_X1_ruffs l G hp b a 1 2 hb ha (by decide) (by decide)) (rp_blind _) (rp_at X hH hS) mf_X1_ruffs tw_328 tw_329 ⟨rfl, rfl, Nat.le_of_ble_eq_true rfl, Nat.le_of_ble_eq_true rfl⟩ hl.1 rfl rfl (Nat.le_of_ble_eq_true rfl) ⟨Nat.le_of_ble_eq_true rfl, Nat.le_of_ble_eq_true rfl⟩ dX1_tricksOf_54) (fun r_54x q_54x => ?_)
  obtain rfl : r_54x = (nI (rfN b a 1 2)) := q_54x
  refine lv_iadd X.1 X.2.1 dX1_tricksOf_57 ?_
  refine r_eqi (show (((nI (rfN a b 1 2)) + (nI (rfN b a 1 2))) : Int32) = nI ((rfN a b 1 2) + (rfN b a 1 2)) from nI_add (rfN a b 1 2) (rfN b a 1 2)) ?_
  refine lv_iadd X.1 X.2.1 dX1_tricksOf_58 ?_
  refine r_eqi (show (((nI (((0 + (wnN (su a 0) (su b 0))) + ((rfN a b 0 2) + (rfN b a 0 2))) + (wnN (su a 1) (su b 1)))) + (nI ((rfN a b 1 2) + (rfN b a 1 2)))) : Int32) = nI ((((0 + (wnN (su a 0) (su b 0))) + ((rfN a b 0 2) + (rfN b a 0 2))) + (wnN (su a 1) (su b 1))) + ((rfN a b 1 2) + (rfN b a 1 2))) from nI_add (((0 + (wnN (su a 0) (su b 0))) + ((rfN a b 0 2) + (rfN b a 0 2))) + (wnN (su a 1) (su b 1))) ((rfN a b 1 2) + (rfN b a 1 2))) ?_
  refine lv_istore_n (lv' := [(3, .int (nI ((((0 + (wnN (su a 0) (su b 0))) + ((rfN a b 0 2) + (rfN b a 0 2))) + (wnN (su a 1) (su b 1))) + ((rfN a b 1 2) + (rfN b a 1 2))))), (4, .int 1), (0, .int 2), (1, .int (nI a)), (2, .int (nI b))]) X.1 X.2.1 dX1_tricksOf_59 rfl hl (by decide) rfl (fun ls hl => ?_)
  refine lv_iinc (v := 2) (lv' := [(4, .int 2), (3, .int (nI ((((0 + (wnN (su a 0) (su b 0))) + ((rfN a b 0 2) + (rfN b a 0 2))) + (wnN (su a 1) (su b 1))) + ((rfN a b 1 2) + (rfN b a 1 2))))), (0, .int 2), (1, .int (nI a)), (2, .int (nI b))]) X.1 X.2.1 dX1_tricksOf_60 hl (k := 1) rfl (by decide) (by decide) rfl (fun ls hl => ?_)
  refine lv_goto (tgt := 5) X.1 X.2.1 dX1_tricksOf_63 (by decide) ?_
  refine lv_iload X.1 X.2.1 dX1_tricksOf_5 (lv_at hl 0 rfl) ?_
  refine lv_iconst (v := 4) X.1 X.2.1 dX1_tricksOf_7 (by decide) ?_
  refine lv_icmp_ge (tgt := 66) X.1 X.2.1 dX1_tricksOf_8 (by decide) (fun c_8 => absurd c_8 (by decide)) (fun c_8 => ?_)
  refine lv_iload_n X.1 X.2.1 dX1_tricksOf_11 rfl (lv_at hl 1 rfl) ?_
  refine lv_iload_n X.1 X.2.1 dX1_tricksOf_12 rfl (lv_at hl 3 rfl) ?_
  refine lv_iload X.1 X.2.1 dX1_tricksOf_13 (lv_at hl 0 rfl) ?_
  refine on_Si (run_S (As := [.int (nI a), .int 2]) (rest := [.int (nI ((((0 + (wnN (su a 0) (su b 0))) + ((rfN a b 0 2) + (rfN b a 0 2))) + (wnN (su a 1) (su b 1))) + ((rfN a b 1 2) + (rfN b a 1 2))))]) X (c_X1_ofSuit l G hp a 2 (by omega) (by decide)) (rp_blind _) (rp_at X hH hS) mf_X1_ofSuit tw_206 tw_207 ⟨rfl, rfl, Nat.le_of_ble_eq_true rfl, Nat.le_of_ble_eq_true rfl⟩ hl.1 rfl rfl (Nat.le_of_ble_eq_true rfl) ⟨Nat.le_of_ble_eq_true rfl, Nat.le_of_ble_eq_true rfl⟩ dX1_tricksOf_15) (fun r_15xx q_15xx => ?_)
  obtain rfl : r_15xx = (nI (su a 2)) := q_15xx
  refine lv_iload_n X.1 X.2.1 dX1_tricksOf_18 rfl (lv_at hl 4 rfl) ?_
  refine lv_iload X.1 X.2.1 dX1_tricksOf_19 (lv_at hl 0 rfl) ?_
  refine on_Si (run_S (As := [.int (nI b), .int 2]) (rest := [.int (nI (su a 2)), .int (nI ((((0 + (wnN (su a 0) (su b 0))) + ((rfN a b 0 2) + (rfN b a 0 2))) + (wnN (su a 1) (su b 1))) + ((rfN a b 1 2) + (rfN b a 1 2))))]) X (c_X1_ofSuit l G hp b 2 (by omega) (by decide)) (rp_blind _) (rp_at X hH hS) mf_X1_ofSuit tw_206 tw_207 ⟨rfl, rfl, Nat.le_of_ble_eq_true rfl, Nat.le_of_ble_eq_true rfl⟩ hl.1 rfl rfl (Nat.le_of_ble_eq_true rfl) ⟨Nat.le_of_ble_eq_true rfl, Nat.le_of_ble_eq_true rfl⟩ dX1_tricksOf_21) (fun r_21xx q_21xx => ?_)
  obtain rfl : r_21xx = (nI (su b 2)) := q_21xx
  refine on_Si (run_S (As := [.int (nI (su a 2)), .int (nI (su b 2))]) (rest := [.int (nI ((((0 + (wnN (su a 0) (su b 0))) + ((rfN a b 0 2) + (rfN b a 0 2))) + (wnN (su a 1) (su b 1))) + ((rfN a b 1 2) + (rfN b a 1 2))))]) X (c_X1_winners l G hp (su a 2) (su b 2) (su_lt _ _) (su_lt _ _)) (rp_blind _) (rp_at X hH hS) mf_X1_winners tw_319 tw_320 ⟨rfl, rfl, Nat.le_of_ble_eq_true rfl, Nat.le_of_ble_eq_true rfl⟩ hl.1 rfl rfl (Nat.le_of_ble_eq_true rfl) ⟨Nat.le_of_ble_eq_true rfl, Nat.le_of_ble_eq_true rfl⟩ dX1_tricksOf_24) (fun r_24xx q_24xx => ?_)
  obtain rfl : r_24xx = (nI (wnN (su a 2) (su b 2))) := q_24xx
  refine lv_iadd X.1 X.2.1 dX1_tricksOf_27 ?_
  refine r_eqi (show (((nI ((((0 + (wnN (su a 0) (su b 0))) + ((rfN a b 0 2) + (rfN b a 0 2))) + (wnN (su a 1) (su b 1))) + ((rfN a b 1 2) + (rfN b a 1 2)))) + (nI (wnN (su a 2) (su b 2)))) : Int32) = nI (((((0 + (wnN (su a 0) (su b 0))) + ((rfN a b 0 2) + (rfN b a 0 2))) + (wnN (su a 1) (su b 1))) + ((rfN a b 1 2) + (rfN b a 1 2))) + (wnN (su a 2) (su b 2))) from nI_add ((((0 + (wnN (su a 0) (su b 0))) + ((rfN a b 0 2) + (rfN b a 0 2))) + (wnN (su a 1) (su b 1))) + ((rfN a b 1 2) + (rfN b a 1 2))) (wnN (su a 2) (su b 2))) ?_
  refine lv_istore_n (lv' := [(3, .int (nI (((((0 + (wnN (su a 0) (su b 0))) + ((rfN a b 0 2) + (rfN b a 0 2))) + (wnN (su a 1) (su b 1))) + ((rfN a b 1 2) + (rfN b a 1 2))) + (wnN (su a 2) (su b 2))))), (4, .int 2), (0, .int 2), (1, .int (nI a)), (2, .int (nI b))]) X.1 X.2.1 dX1_tricksOf_28 rfl hl (by decide) rfl (fun ls hl => ?_)
  refine lv_iload_n X.1 X.2.1 dX1_tricksOf_29 rfl (lv_at hl 2 rfl) ?_
  refine lv_iconst (v := 4) X.1 X.2.1 dX1_tricksOf_30 (by decide) ?_
  refine lv_icmp_eq (tgt := 60) X.1 X.2.1 dX1_tricksOf_31 (by decide) (fun c_31 => absurd c_31 (by decide)) (fun c_31 => ?_)
  refine lv_iload X.1 X.2.1 dX1_tricksOf_34 (lv_at hl 1 rfl) ?_
  refine lv_iload_n X.1 X.2.1 dX1_tricksOf_36 rfl (lv_at hl 2 rfl) ?_
  refine lv_icmp_eq (tgt := 60) X.1 X.2.1 dX1_tricksOf_37 (by decide) (fun c_37 => ?_) (fun c_37 => absurd (by decide) c_37)
  refine lv_iinc (v := 3) (lv' := [(4, .int 3), (3, .int (nI (((((0 + (wnN (su a 0) (su b 0))) + ((rfN a b 0 2) + (rfN b a 0 2))) + (wnN (su a 1) (su b 1))) + ((rfN a b 1 2) + (rfN b a 1 2))) + (wnN (su a 2) (su b 2))))), (0, .int 2), (1, .int (nI a)), (2, .int (nI b))]) X.1 X.2.1 dX1_tricksOf_60 hl (k := 1) rfl (by decide) (by decide) rfl (fun ls hl => ?_)
  refine lv_goto (tgt := 5) X.1 X.2.1 dX1_tricksOf_63 (by decide) ?_
  refine lv_iload X.1 X.2.1 dX1_tricksOf_5 (lv_at hl 0 rfl) ?_
  refine lv_iconst (v := 4) X.1 X.2.1 dX1_tricksOf_7 (by decide) ?_
  refine lv_icmp_ge (tgt := 66) X.1 X.2.1 dX1_tricksOf_8 (by decide) (fun c_8 => absurd c_8 (by decide)) (fun c_8 => ?_)
  refine lv_iload_n X.1 X.2.1 dX1_tricksOf_11 rfl (lv_at hl 1 rfl) ?_
  refine lv_iload_n X.1 X.2.1 dX1_tricksOf_12 rfl (lv_at hl 3 rfl) ?_
  refine lv_iload X.1 X.2.1 dX1_tricksOf_13 (lv_at hl 0 rfl) ?_
  refine on_Si (run_S (As := [.int (nI a), .int 3]) (rest := [.int (nI (((((0 + (wnN (su a 0) (su b 0))) + ((rfN a b 0 2) + (rfN b a 0 2))) + (wnN (su a 1) (su b 1))) + ((rfN a b 1 2) + (rfN b a 1 2))) + (wnN (su a 2) (su b 2))))]) X (c_X1_ofSuit l G hp a 3 (by omega) (by decide)) (rp_blind _) (rp_at X hH hS) mf_X1_ofSuit tw_206 tw_207 ⟨rfl, rfl, Nat.le_of_ble_eq_true rfl, Nat.le_of_ble_eq_true rfl⟩ hl.1 rfl rfl (Nat.le_of_ble_eq_true rfl) ⟨Nat.le_of_ble_eq_true rfl, Nat.le_of_ble_eq_true rfl⟩ dX1_tricksOf_15) (fun r_15xxx q_15xxx => ?_)
  obtain rfl : r_15xxx = (nI (su a 3)) := q_15xxx
  refine lv_iload_n X.1 X.2.1 dX1_tricksOf_18 rfl (lv_at hl 4 rfl) ?_
  refine lv_iload X.1 X.2.1 dX1_tricksOf_19 (lv_at hl 0 rfl) ?_
  refine on_Si (run_S (As := [.int (nI b), .int 3]) (rest := [.int (nI (su a 3)), .int (nI (((((0 + (wnN (su a 0) (su b 0))) + ((rfN a b 0 2) + (rfN b a 0 2))) + (wnN (su a 1) (su b 1))) + ((rfN a b 1 2) + (rfN b a 1 2))) + (wnN (su a 2) (su b 2))))]) X (c_X1_ofSuit l G hp b 3 (by omega) (by decide)) (rp_blind _) (rp_at X hH hS) mf_X1_ofSuit tw_206 tw_207 ⟨rfl, rfl, Nat.le_of_ble_eq_true rfl, Nat.le_of_ble_eq_true rfl⟩ hl.1 rfl rfl (Nat.le_of_ble_eq_true rfl) ⟨Nat.le_of_ble_eq_true rfl, Nat.le_of_ble_eq_true rfl⟩ dX1_tricksOf_21) (fun r_21xxx q_21xxx => ?_)
  obtain rfl : r_21xxx = (nI (su b 3)) := q_21xxx
  refine on_Si (run_S (As := [.int (nI (su a 3)), .int (nI (su b 3))]) (rest := [.int (nI (((((0 + (wnN (su a 0) (su b 0))) + ((rfN a b 0 2) + (rfN b a 0 2))) + (wnN (su a 1) (su b 1))) + ((rfN a b 1 2) + (rfN b a 1 2))) + (wnN (su a 2) (su b 2))))]) X (c_X1_winners l G hp (su a 3) (su b 3) (su_lt _ _) (su_lt _ _)) (rp_blind _) (rp_at X hH hS) mf_X1_winners tw_319 tw_320 ⟨rfl, rfl, Nat.le_of_ble_eq_true rfl, Nat.le_of_ble_eq_true rfl⟩ hl.1 rfl rfl (Nat.le_of_ble_eq_true rfl) ⟨Nat.le_of_ble_eq_true rfl, Nat.le_of_ble_eq_true rfl⟩ dX1_tricksOf_24) (fun r_24xxx q_24xxx => ?_)
  obtain rfl : r_24xxx = (nI (wnN (su a 3) (su b 3))) := q_24xxx
  refine lv_iadd X.1 X.2.1 dX1_tricksOf_27 ?_
  refine r_eqi (show (((nI (((((0 + (wnN (su a 0) (su b 0))) + ((rfN a b 0 2) + (rfN b a 0 2))) + (wnN (su a 1) (su b 1))) + ((rfN a b 1 2) + (rfN b a 1 2))) + (wnN (su a 2) (su b 2)))) + (nI (wnN (su a 3) (su b 3)))) : Int32) = nI ((((((0 + (wnN (su a 0) (su b 0))) + ((rfN a b 0 2) + (rfN b a 0 2))) + (wnN (su a 1) (su b 1))) + ((rfN a b 1 2) + (rfN b a 1 2))) + (wnN (su a 2) (su b 2))) + (wnN (su a 3) (su b 3))) from nI_add (((((0 + (wnN (su a 0) (su b 0))) + ((rfN a b 0 2) + (rfN b a 0 2))) + (wnN (su a 1) (su b 1))) + ((rfN a b 1 2) + (rfN b a 1 2))) + (wnN (su a 2) (su b 2))) (wnN (su a 3) (su b 3))) ?_
  refine lv_istore_n (lv' := [(3, .int (nI ((((((0 + (wnN (su a 0) (su b 0))) + ((rfN a b 0 2) + (rfN b a 0 2))) + (wnN (su a 1) (su b 1))) + ((rfN a b 1 2) + (rfN b a 1 2))) + (wnN (su a 2) (su b 2))) + (wnN (su a 3) (su b 3))))), (4, .int 3), (0, .int 2), (1, .int (nI a)), (2, .int (nI b))]) X.1 X.2.1 dX1_tricksOf_28 rfl hl (by decide) rfl (fun ls hl => ?_)
  refine lv_iload_n X.1 X.2.1 dX1_tricksOf_29 rfl (lv_at hl 2 rfl) ?_
  refine lv_iconst (v := 4) X.1 X.2.1 dX1_tricksOf_30 (by decide) ?_
  refine lv_icmp_eq (tgt := 60) X.1 X.2.1 dX1_tricksOf_31 (by decide) (fun c_31 => absurd c_31 (by decide)) (fun c_31 => ?_)
  refine lv_iload X.1 X.2.1 dX1_tricksOf_34 (lv_at hl 1 rfl) ?_
  refine lv_iload_n X.1 X.2.1 dX1_tricksOf_36 rfl (lv_at hl 2 rfl) ?_
  refine lv_icmp_eq (tgt := 60) X.1 X.2.1 dX1_tricksOf_37 (by decide) (fun c_37 => absurd c_37 (by decide)) (fun c_37 => ?_)
  refine lv_iload_n X.1 X.2.1 dX1_tricksOf_40 rfl (lv_at hl 0 rfl) ?_
  refine lv_iload_n X.1 X.2.1 dX1_tricksOf_41 rfl (lv_at hl 3 rfl) ?_
  refine lv_iload_n X.1 X.2.1 dX1_tricksOf_42 rfl (lv_at hl 4 rfl) ?_
  refine lv_iload X.1 X.2.1 dX1_tricksOf_43 (lv_at hl 1 rfl) ?_
  refine lv_iload_n X.1 X.2.1 dX1_tricksOf_45 rfl (lv_at hl 2 rfl) ?_
  refine on_Si (run_S (As := [.int (nI a), .int (nI b), .int 3, .int 2]) (rest := [.int (nI ((((((0 + (wnN (su a 0) (su b 0))) + ((rfN a b 0 2) + (rfN b a 0 2))) + (wnN (su a 1) (su b 1))) + ((rfN a b 1 2) + (rfN b a 1 2))) + (wnN (su a 2) (su b 2))) + (wnN (su a 3) (su b 3))))]) X (c_X1_ruffs l G hp a b 3 2 ha hb (by decide) (by decide)) (rp_blind _) (rp_at X hH hS) mf_X1_ruffs tw_328 tw_329 ⟨rfl, rfl, Nat.le_of_ble_eq_true rfl, Nat.le_of_ble_eq_true rfl⟩ hl.1 rfl rfl (Nat.le_of_ble_eq_true rfl) ⟨Nat.le_of_ble_eq_true rfl, Nat.le_of_ble_eq_true rfl⟩ dX1_tricksOf_46) (fun r_46xx q_46xx => ?_)
  obtain rfl : r_46xx = (nI (rfN a b 3 2)) := q_46xx
  refine lv_iload_n X.1 X.2.1 dX1_tricksOf_49 rfl (lv_at hl 4 rfl) ?_
  refine lv_iload_n X.1 X.2.1 dX1_tricksOf_50 rfl (lv_at hl 3 rfl) ?_
  refine lv_iload X.1 X.2.1 dX1_tricksOf_51 (lv_at hl 1 rfl) ?_
  refine lv_iload_n X.1 X.2.1 dX1_tricksOf_53 rfl (lv_at hl 2 rfl) ?_
  refine on_Si (run_S (As := [.int (nI b), .int (nI a), .int 3, .int 2]) (rest := [.int (nI (rfN a b 3 2)), .int (nI ((((((0 + (wnN (su a 0) (su b 0))) + ((rfN a b 0 2) + (rfN b a 0 2))) + (wnN (su a 1) (su b 1))) + ((rfN a b 1 2) + (rfN b a 1 2))) + (wnN (su a 2) (su b 2))) + (wnN (su a 3) (su b 3))))]) X (c_X1_ruffs l G hp b a 3 2 hb ha (by decide) (by decide)) (rp_blind _) (rp_at X hH hS) mf_X1_ruffs tw_328 tw_329 ⟨rfl, rfl, Nat.le_of_ble_eq_true rfl, Nat.le_of_ble_eq_true rfl⟩ hl.1 rfl rfl (Nat.le_of_ble_eq_true rfl) ⟨Nat.le_of_ble_eq_true rfl, Nat.le_of_ble_eq_true rfl⟩ dX1_tricksOf_54) (fun r_54xx q_54xx => ?_)
  obtain rfl : r_54xx = (nI (rfN b a 3 2)) := q_54xx
  refine lv_iadd X.1 X.2.1 dX1_tricksOf_57 ?_
  refine r_eqi (show (((nI (rfN a b 3 2)) + (nI (rfN b a 3 2))) : Int32) = nI ((rfN a b 3 2) + (rfN b a 3 2)) from nI_add (rfN a b 3 2) (rfN b a 3 2)) ?_
  refine lv_iadd X.1 X.2.1 dX1_tricksOf_58 ?_
  refine r_eqi (show (((nI ((((((0 + (wnN (su a 0) (su b 0))) + ((rfN a b 0 2) + (rfN b a 0 2))) + (wnN (su a 1) (su b 1))) + ((rfN a b 1 2) + (rfN b a 1 2))) + (wnN (su a 2) (su b 2))) + (wnN (su a 3) (su b 3)))) + (nI ((rfN a b 3 2) + (rfN b a 3 2)))) : Int32) = nI (((((((0 + (wnN (su a 0) (su b 0))) + ((rfN a b 0 2) + (rfN b a 0 2))) + (wnN (su a 1) (su b 1))) + ((rfN a b 1 2) + (rfN b a 1 2))) + (wnN (su a 2) (su b 2))) + (wnN (su a 3) (su b 3))) + ((rfN a b 3 2) + (rfN b a 3 2))) from nI_add ((((((0 + (wnN (su a 0) (su b 0))) + ((rfN a b 0 2) + (rfN b a 0 2))) + (wnN (su a 1) (su b 1))) + ((rfN a b 1 2) + (rfN b a 1 2))) + (wnN (su a 2) (su b 2))) + (wnN (su a 3) (su b 3))) ((rfN a b 3 2) + (rfN b a 3 2))) ?_
  refine lv_istore_n (lv' := [(3, .int (nI (((((((0 + (wnN (su a 0) (su b 0))) + ((rfN a b 0 2) + (rfN b a 0 2))) + (wnN (su a 1) (su b 1))) + ((rfN a b 1 2) + (rfN b a 1 2))) + (wnN (su a 2) (su b 2))) + (wnN (su a 3) (su b 3))) + ((rfN a b 3 2) + (rfN b a 3 2))))), (4, .int 3), (0, .int 2), (1, .int (nI a)), (2, .int (nI b))]) X.1 X.2.1 dX1_tricksOf_59 rfl hl (by decide) rfl (fun ls hl => ?_)
  refine lv_iinc (v := 4) (lv' := [(4, .int 4), (3, .int (nI (((((((0 + (wnN (su a 0) (su b 0))) + ((rfN a b 0 2) + (rfN b a 0 2))) + (wnN (su a 1) (su b 1))) + ((rfN a b 1 2) + (rfN b a 1 2))) + (wnN (su a 2) (su b 2))) + (wnN (su a 3) (su b 3))) + ((rfN a b 3 2) + (rfN b a 3 2))))), (0, .int 2), (1, .int (nI a)), (2, .int (nI b))]) X.1 X.2.1 dX1_tricksOf_60 hl (k := 1) rfl (by decide) (by decide) rfl (fun ls hl => ?_)
  refine lv_goto (tgt := 5) X.1 X.2.1 dX1_tricksOf_63 (by decide) ?_
  refine lv_iload X.1 X.2.1 dX1_tricksOf_5 (lv_at hl 0 rfl) ?_
  refine lv_iconst (v := 4) X.1 X.2.1 dX1_tricksOf_7 (by decide) ?_
  refine lv_icmp_ge (tgt := 66) X.1 X.2.1 dX1_tricksOf_8 (by decide) (fun c_8 => ?_) (fun c_8 => absurd (by decide) c_8)
  refine lv_iload_n X.1 X.2.1 dX1_tricksOf_66 rfl (lv_at hl 1 rfl) ?_
  refine lv_iconst (v := 5) X.1 X.2.1 dX1_tricksOf_67 (by decide) ?_
  refine va_mmin X.1 X.2.1 (by rw [X.2.2.1]; exact hl.1.symm) X.2.2.2.1 (tb_all X.2.2.2.2.1 _ tw_325) (tb_all X.2.2.2.2.1 _ tw_326) (tb_all X.2.2.2.2.1 _ tw_29) (tb_all X.2.2.2.2.1 _ tw_math_min) (Nat.le_of_ble_eq_true rfl) (Nat.le_of_ble_eq_true rfl) (Nat.le_of_ble_eq_true rfl) (Nat.le_of_ble_eq_true rfl) dX1_tricksOf_68 ?_
  refine r_eqi (n_min (((((((0 + (wnN (su a 0) (su b 0))) + ((rfN a b 0 2) + (rfN b a 0 2))) + (wnN (su a 1) (su b 1))) + ((rfN a b 1 2) + (rfN b a 1 2))) + (wnN (su a 2) (su b 2))) + (wnN (su a 3) (su b 3))) + ((rfN a b 3 2) + (rfN b a 3 2))) 5 (by omega) (by omega)) ?_
  exact ro_i X hr hlk (by show nI _ = nI _; refine congrArg nI ?_; unfold trN trS; rw [if_pos (show (2 : Nat) ≠ 4 ∧ (0 : Nat) ≠ 2 by decide)]; rw [if_pos (show (2 : Nat) ≠ 4 ∧ (1 : Nat) ≠ 2 by decide)]; rw [if_neg (show ¬ ((2 : Nat) ≠ 4 ∧ (2 : Nat) ≠ 2) by decide)]; rw [if_pos (show (2 : Nat) ≠ 4 ∧ (3 : Nat) ≠ 2 by decide)]; refine congrArg (fun z => min z 5) ?_; omega) dX1_tricksOf_71

set_option maxHeartbeats 4000000 in
set_option maxRecDepth 100000 in
theorem c_X1_tricksOf_3 (l : Launch) (G : HG) (hp : HP) (a b : Nat) (ha : a ≤ 1048575) (hb : b ≤ 1048575) : Met l yX1_tricksOf [.code yX1_tricksOf cX1_tricksOf 5 (some .int)] { frames := 2, cells := 0, slots := 0, locals := 45 } (va_Pc [.int 3, .int (nI a), .int (nI b)] (RP G hp)) (vp_Si (fun r => r = nI (trN 3 a b))) 0 0 (fun _ => False) := by
  refine ro_ofW (by decide) (Nat.le_of_ble_eq_true rfl) ?_
  intro p e s m args below meth c ls X hr hlk hH hl
  have hS : va_S (fun _ => False) s.heap s.heap [] := va_S.rf
  have hl : lv_has ls 5 [(0, .int 3), (1, .int (nI a)), (2, .int (nI b))] := hl
  have := wnN_le (su a 0) (su b 0)
  have := rfN_le a b 0 3
  have := rfN_le b a 0 3
  have := wnN_le (su a 1) (su b 1)
  have := rfN_le a b 1 3
  have := rfN_le b a 1 3
  have := wnN_le (su a 2) (su b 2)
  have := rfN_le a b 2 3
  have := rfN_le b a 2 3
  have := wnN_le (su a 3) (su b 3)
  refine lv_iconst (v := 0) X.1 X.2.1 dX1_tricksOf_0 (by decide) ?_
  refine lv_istore_n (lv' := [(3, .int 0), (0, .int 3), (1, .int (nI a)), (2, .int (nI b))]) X.1 X.2.1 dX1_tricksOf_1 rfl hl (by decide) rfl (fun ls hl => ?_)
  refine lv_iconst (v := 0) X.1 X.2.1 dX1_tricksOf_2 (by decide) ?_
  refine lv_istore (lv' := [(4, .int 0), (3, .int 0), (0, .int 3), (1, .int (nI a)), (2, .int (nI b))]) X.1 X.2.1 dX1_tricksOf_3 hl (by decide) rfl (fun ls hl => ?_)
  refine lv_iload X.1 X.2.1 dX1_tricksOf_5 (lv_at hl 0 rfl) ?_
  refine lv_iconst (v := 4) X.1 X.2.1 dX1_tricksOf_7 (by decide) ?_
  refine lv_icmp_ge (tgt := 66) X.1 X.2.1 dX1_tricksOf_8 (by decide) (fun c_8 => absurd c_8 (by decide)) (fun c_8 => ?_)
  refine lv_iload_n X.1 X.2.1 dX1_tricksOf_11 rfl (lv_at hl 1 rfl) ?_
  refine lv_iload_n X.1 X.2.1 dX1_tricksOf_12 rfl (lv_at hl 3 rfl) ?_
  refine lv_iload X.1 X.2.1 dX1_tricksOf_13 (lv_at hl 0 rfl) ?_
  refine on_Si (run_S (As := [.int (nI a), .int 0]) (rest := [.int 0]) X (c_X1_ofSuit l G hp a 0 (by omega) (by decide)) (rp_blind _) (rp_at X hH hS) mf_X1_ofSuit tw_206 tw_207 ⟨rfl, rfl, Nat.le_of_ble_eq_true rfl, Nat.le_of_ble_eq_true rfl⟩ hl.1 rfl rfl (Nat.le_of_ble_eq_true rfl) ⟨Nat.le_of_ble_eq_true rfl, Nat.le_of_ble_eq_true rfl⟩ dX1_tricksOf_15) (fun r_15 q_15 => ?_)
  obtain rfl : r_15 = (nI (su a 0)) := q_15
  refine lv_iload_n X.1 X.2.1 dX1_tricksOf_18 rfl (lv_at hl 4 rfl) ?_
  refine lv_iload X.1 X.2.1 dX1_tricksOf_19 (lv_at hl 0 rfl) ?_
  refine on_Si (run_S (As := [.int (nI b), .int 0]) (rest := [.int (nI (su a 0)), .int 0]) X (c_X1_ofSuit l G hp b 0 (by omega) (by decide)) (rp_blind _) (rp_at X hH hS) mf_X1_ofSuit tw_206 tw_207 ⟨rfl, rfl, Nat.le_of_ble_eq_true rfl, Nat.le_of_ble_eq_true rfl⟩ hl.1 rfl rfl (Nat.le_of_ble_eq_true rfl) ⟨Nat.le_of_ble_eq_true rfl, Nat.le_of_ble_eq_true rfl⟩ dX1_tricksOf_21) (fun r_21 q_21 => ?_)
  obtain rfl : r_21 = (nI (su b 0)) := q_21
  refine on_Si (run_S (As := [.int (nI (su a 0)), .int (nI (su b 0))]) (rest := [.int 0]) X (c_X1_winners l G hp (su a 0) (su b 0) (su_lt _ _) (su_lt _ _)) (rp_blind _) (rp_at X hH hS) mf_X1_winners tw_319 tw_320 ⟨rfl, rfl, Nat.le_of_ble_eq_true rfl, Nat.le_of_ble_eq_true rfl⟩ hl.1 rfl rfl (Nat.le_of_ble_eq_true rfl) ⟨Nat.le_of_ble_eq_true rfl, Nat.le_of_ble_eq_true rfl⟩ dX1_tricksOf_24) (fun r_24 q_24 => ?_)
  obtain rfl : r_24 = (nI (wnN (su a 0) (su b 0))) := q_24
  refine lv_iadd X.1 X.2.1 dX1_tricksOf_27 ?_
  refine r_eqi (show (((0 : Int32) + (nI (wnN (su a 0) (su b 0)))) : Int32) = nI (0 + (wnN (su a 0) (su b 0))) from nI_add 0 (wnN (su a 0) (su b 0))) ?_
  refine lv_istore_n (lv' := [(3, .int (nI (0 + (wnN (su a 0) (su b 0))))), (4, .int 0), (0, .int 3), (1, .int (nI a)), (2, .int (nI b))]) X.1 X.2.1 dX1_tricksOf_28 rfl hl (by decide) rfl (fun ls hl => ?_)
  refine lv_iload_n X.1 X.2.1 dX1_tricksOf_29 rfl (lv_at hl 2 rfl) ?_
  refine lv_iconst (v := 4) X.1 X.2.1 dX1_tricksOf_30 (by decide) ?_
  refine lv_icmp_eq (tgt := 60) X.1 X.2.1 dX1_tricksOf_31 (by decide) (fun c_31 => absurd c_31 (by decide)) (fun c_31 => ?_)
  refine lv_iload X.1 X.2.1 dX1_tricksOf_34 (lv_at hl 1 rfl) ?_
  refine lv_iload_n X.1 X.2.1 dX1_tricksOf_36 rfl (lv_at hl 2 rfl) ?_
  refine lv_icmp_eq (tgt := 60) X.1 X.2.1 dX1_tricksOf_37 (by decide) (fun c_37 => absurd c_37 (by decide)) (fun c_37 => ?_)
  refine lv_iload_n X.1 X.2.1 dX1_tricksOf_40 rfl (lv_at hl 0 rfl) ?_
  refine lv_iload_n X.1 X.2.1 dX1_tricksOf_41 rfl (lv_at hl 3 rfl) ?_
  refine lv_iload_n X.1 X.2.1 dX1_tricksOf_42 rfl (lv_at hl 4 rfl) ?_
  refine lv_iload X.1 X.2.1 dX1_tricksOf_43 (lv_at hl 1 rfl) ?_
  refine lv_iload_n X.1 X.2.1 dX1_tricksOf_45 rfl (lv_at hl 2 rfl) ?_
  refine on_Si (run_S (As := [.int (nI a), .int (nI b), .int 0, .int 3]) (rest := [.int (nI (0 + (wnN (su a 0) (su b 0))))]) X (c_X1_ruffs l G hp a b 0 3 ha hb (by decide) (by decide)) (rp_blind _) (rp_at X hH hS) mf_X1_ruffs tw_328 tw_329 ⟨rfl, rfl, Nat.le_of_ble_eq_true rfl, Nat.le_of_ble_eq_true rfl⟩ hl.1 rfl rfl (Nat.le_of_ble_eq_true rfl) ⟨Nat.le_of_ble_eq_true rfl, Nat.le_of_ble_eq_true rfl⟩ dX1_tricksOf_46) (fun r_46 q_46 => ?_)
  obtain rfl : r_46 = (nI (rfN a b 0 3)) := q_46
  refine lv_iload_n X.1 X.2.1 dX1_tricksOf_49 rfl (lv_at hl 4 rfl) ?_
  refine lv_iload_n X.1 X.2.1 dX1_tricksOf_50 rfl (lv_at hl 3 rfl) ?_
  refine lv_iload X.1 X.2.1 dX1_tricksOf_51 (lv_at hl 1 rfl) ?_
  refine lv_iload_n X.1 X.2.1 dX1_tricksOf_53 rfl (lv_at hl 2 rfl) ?_
  refine on_Si (run_S (As := [.int (nI b), .int (nI a), .int 0, .int 3]) (rest := [.int (nI (rfN a b 0 3)), .int (nI (0 + (wnN (su a 0) (su b 0))))]) X (c_X1_ruffs l G hp b a 0 3 hb ha (by decide) (by decide)) (rp_blind _) (rp_at X hH hS) mf_X1_ruffs tw_328 tw_329 ⟨rfl, rfl, Nat.le_of_ble_eq_true rfl, Nat.le_of_ble_eq_true rfl⟩ hl.1 rfl rfl (Nat.le_of_ble_eq_true rfl) ⟨Nat.le_of_ble_eq_true rfl, Nat.le_of_ble_eq_true rfl⟩ dX1_tricksOf_54) (fun r_54 q_54 => ?_)
  obtain rfl : r_54 = (nI (rfN b a 0 3)) := q_54
  refine lv_iadd X.1 X.2.1 dX1_tricksOf_57 ?_
  refine r_eqi (show (((nI (rfN a b 0 3)) + (nI (rfN b a 0 3))) : Int32) = nI ((rfN a b 0 3) + (rfN b a 0 3)) from nI_add (rfN a b 0 3) (rfN b a 0 3)) ?_
  refine lv_iadd X.1 X.2.1 dX1_tricksOf_58 ?_
  refine r_eqi (show (((nI (0 + (wnN (su a 0) (su b 0)))) + (nI ((rfN a b 0 3) + (rfN b a 0 3)))) : Int32) = nI ((0 + (wnN (su a 0) (su b 0))) + ((rfN a b 0 3) + (rfN b a 0 3))) from nI_add (0 + (wnN (su a 0) (su b 0))) ((rfN a b 0 3) + (rfN b a 0 3))) ?_
  refine lv_istore_n (lv' := [(3, .int (nI ((0 + (wnN (su a 0) (su b 0))) + ((rfN a b 0 3) + (rfN b a 0 3))))), (4, .int 0), (0, .int 3), (1, .int (nI a)), (2, .int (nI b))]) X.1 X.2.1 dX1_tricksOf_59 rfl hl (by decide) rfl (fun ls hl => ?_)
  refine lv_iinc (v := 1) (lv' := [(4, .int 1), (3, .int (nI ((0 + (wnN (su a 0) (su b 0))) + ((rfN a b 0 3) + (rfN b a 0 3))))), (0, .int 3), (1, .int (nI a)), (2, .int (nI b))]) X.1 X.2.1 dX1_tricksOf_60 hl (k := 1) rfl (by decide) (by decide) rfl (fun ls hl => ?_)
  refine lv_goto (tgt := 5) X.1 X.2.1 dX1_tricksOf_63 (by decide) ?_
  refine lv_iload X.1 X.2.1 dX1_tricksOf_5 (lv_at hl 0 rfl) ?_
  refine lv_iconst (v := 4) X.1 X.2.1 dX1_tricksOf_7 (by decide) ?_
  refine lv_icmp_ge (tgt := 66) X.1 X.2.1 dX1_tricksOf_8 (by decide) (fun c_8 => absurd c_8 (by decide)) (fun c_8 => ?_)
  refine lv_iload_n X.1 X.2.1 dX1_tricksOf_11 rfl (lv_at hl 1 rfl) ?_
  refine lv_iload_n X.1 X.2.1 dX1_tricksOf_12 rfl (lv_at hl 3 rfl) ?_
  refine lv_iload X.1 X.2.1 dX1_tricksOf_13 (lv_at hl 0 rfl) ?_
  refine on_Si (run_S (As := [.int (nI a), .int 1]) (rest := [.int (nI ((0 + (wnN (su a 0) (su b 0))) + ((rfN a b 0 3) + (rfN b a 0 3))))]) X (c_X1_ofSuit l G hp a 1 (by omega) (by decide)) (rp_blind _) (rp_at X hH hS) mf_X1_ofSuit tw_206 tw_207 ⟨rfl, rfl, Nat.le_of_ble_eq_true rfl, Nat.le_of_ble_eq_true rfl⟩ hl.1 rfl rfl (Nat.le_of_ble_eq_true rfl) ⟨Nat.le_of_ble_eq_true rfl, Nat.le_of_ble_eq_true rfl⟩ dX1_tricksOf_15) (fun r_15x q_15x => ?_)
  obtain rfl : r_15x = (nI (su a 1)) := q_15x
  refine lv_iload_n X.1 X.2.1 dX1_tricksOf_18 rfl (lv_at hl 4 rfl) ?_
  refine lv_iload X.1 X.2.1 dX1_tricksOf_19 (lv_at hl 0 rfl) ?_
  refine on_Si (run_S (As := [.int (nI b), .int 1]) (rest := [.int (nI (su a 1)), .int (nI ((0 + (wnN (su a 0) (su b 0))) + ((rfN a b 0 3) + (rfN b a 0 3))))]) X (c_X1_ofSuit l G hp b 1 (by omega) (by decide)) (rp_blind _) (rp_at X hH hS) mf_X1_ofSuit tw_206 tw_207 ⟨rfl, rfl, Nat.le_of_ble_eq_true rfl, Nat.le_of_ble_eq_true rfl⟩ hl.1 rfl rfl (Nat.le_of_ble_eq_true rfl) ⟨Nat.le_of_ble_eq_true rfl, Nat.le_of_ble_eq_true rfl⟩ dX1_tricksOf_21) (fun r_21x q_21x => ?_)
  obtain rfl : r_21x = (nI (su b 1)) := q_21x
  refine on_Si (run_S (As := [.int (nI (su a 1)), .int (nI (su b 1))]) (rest := [.int (nI ((0 + (wnN (su a 0) (su b 0))) + ((rfN a b 0 3) + (rfN b a 0 3))))]) X (c_X1_winners l G hp (su a 1) (su b 1) (su_lt _ _) (su_lt _ _)) (rp_blind _) (rp_at X hH hS) mf_X1_winners tw_319 tw_320 ⟨rfl, rfl, Nat.le_of_ble_eq_true rfl, Nat.le_of_ble_eq_true rfl⟩ hl.1 rfl rfl (Nat.le_of_ble_eq_true rfl) ⟨Nat.le_of_ble_eq_true rfl, Nat.le_of_ble_eq_true rfl⟩ dX1_tricksOf_24) (fun r_24x q_24x => ?_)
  obtain rfl : r_24x = (nI (wnN (su a 1) (su b 1))) := q_24x
  refine lv_iadd X.1 X.2.1 dX1_tricksOf_27 ?_
  refine r_eqi (show (((nI ((0 + (wnN (su a 0) (su b 0))) + ((rfN a b 0 3) + (rfN b a 0 3)))) + (nI (wnN (su a 1) (su b 1)))) : Int32) = nI (((0 + (wnN (su a 0) (su b 0))) + ((rfN a b 0 3) + (rfN b a 0 3))) + (wnN (su a 1) (su b 1))) from nI_add ((0 + (wnN (su a 0) (su b 0))) + ((rfN a b 0 3) + (rfN b a 0 3))) (wnN (su a 1) (su b 1))) ?_
  refine lv_istore_n (lv' := [(3, .int (nI (((0 + (wnN (su a 0) (su b 0))) + ((rfN a b 0 3) + (rfN b a 0 3))) + (wnN (su a 1) (su b 1))))), (4, .int 1), (0, .int 3), (1, .int (nI a)), (2, .int (nI b))]) X.1 X.2.1 dX1_tricksOf_28 rfl hl (by decide) rfl (fun ls hl => ?_)
  refine lv_iload_n X.1 X.2.1 dX1_tricksOf_29 rfl (lv_at hl 2 rfl) ?_
  refine lv_iconst (v := 4) X.1 X.2.1 dX1_tricksOf_30 (by decide) ?_
  refine lv_icmp_eq (tgt := 60) X.1 X.2.1 dX1_tricksOf_31 (by decide) (fun c_31 => absurd c_31 (by decide)) (fun c_31 => ?_)
  refine lv_iload X.1 X.2.1 dX1_tricksOf_34 (lv_at hl 1 rfl) ?_
  refine lv_iload_n X.1 X.2.1 dX1_tricksOf_36 rfl (lv_at hl 2 rfl) ?_
  refine lv_icmp_eq (tgt := 60) X.1 X.2.1 dX1_tricksOf_37 (by decide) (fun c_37 => absurd c_37 (by decide)) (fun c_37 => ?_)
  refine lv_iload_n X.1 X.2.1 dX1_tricksOf_40 rfl (lv_at hl 0 rfl) ?_
  refine lv_iload_n X.1 X.2.1 dX1_tricksOf_41 rfl (lv_at hl 3 rfl) ?_
  refine lv_iload_n X.1 X.2.1 dX1_tricksOf_42 rfl (lv_at hl 4 rfl) ?_
  refine lv_iload X.1 X.2.1 dX1_tricksOf_43 (lv_at hl 1 rfl) ?_
  refine lv_iload_n X.1 X.2.1 dX1_tricksOf_45 rfl (lv_at hl 2 rfl) ?_
  refine on_Si (run_S (As := [.int (nI a), .int (nI b), .int 1, .int 3]) (rest := [.int (nI (((0 + (wnN (su a 0) (su b 0))) + ((rfN a b 0 3) + (rfN b a 0 3))) + (wnN (su a 1) (su b 1))))]) X (c_X1_ruffs l G hp a b 1 3 ha hb (by decide) (by decide)) (rp_blind _) (rp_at X hH hS) mf_X1_ruffs tw_328 tw_329 ⟨rfl, rfl, Nat.le_of_ble_eq_true rfl, Nat.le_of_ble_eq_true rfl⟩ hl.1 rfl rfl (Nat.le_of_ble_eq_true rfl) ⟨Nat.le_of_ble_eq_true rfl, Nat.le_of_ble_eq_true rfl⟩ dX1_tricksOf_46) (fun r_46x q_46x => ?_)
  obtain rfl : r_46x = (nI (rfN a b 1 3)) := q_46x
  refine lv_iload_n X.1 X.2.1 dX1_tricksOf_49 rfl (lv_at hl 4 rfl) ?_
  refine lv_iload_n X.1 X.2.1 dX1_tricksOf_50 rfl (lv_at hl 3 rfl) ?_
  refine lv_iload X.1 X.2.1 dX1_tricksOf_51 (lv_at hl 1 rfl) ?_
  refine lv_iload_n X.1 X.2.1 dX1_tricksOf_53 rfl (lv_at hl 2 rfl) ?_
  refine on_Si (run_S (As := [.int (nI b), .int (nI a), .int 1, .int 3]) (rest := [.int (nI (rfN a b 1 3)), .int (nI (((0 + (wnN (su a 0) (su b 0))) + ((rfN a b 0 3) + (rfN b a 0 3))) + (wnN (su a 1) (su b 1))))]) X (c_X1_ruffs l G hp b a 1 3 hb ha (by decide) (by decide)) (rp_blind _) (rp_at X hH hS) mf_X1_ruffs tw_328 tw_329 ⟨rfl, rfl, Nat.le_of_ble_eq_true rfl, Nat.le_of_ble_eq_true rfl⟩ hl.1 rfl rfl (Nat.le_of_ble_eq_true rfl) ⟨Nat.le_of_ble_eq_true rfl, Nat.le_of_ble_eq_true rfl⟩ dX1_tricksOf_54) (fun r_54x q_54x => ?_)
  obtain rfl : r_54x = (nI (rfN b a 1 3)) := q_54x
  refine lv_iadd X.1 X.2.1 dX1_tricksOf_57 ?_
  refine r_eqi (show (((nI (rfN a b 1 3)) + (nI (rfN b a 1 3))) : Int32) = nI ((rfN a b 1 3) + (rfN b a 1 3)) from nI_add (rfN a b 1 3) (rfN b a 1 3)) ?_
  refine lv_iadd X.1 X.2.1 dX1_tricksOf_58 ?_
  refine r_eqi (show (((nI (((0 + (wnN (su a 0) (su b 0))) + ((rfN a b 0 3) + (rfN b a 0 3))) + (wnN (su a 1) (su b 1)))) + (nI ((rfN a b 1 3) + (rfN b a 1 3)))) : Int32) = nI ((((0 + (wnN (su a 0) (su b 0))) + ((rfN a b 0 3) + (rfN b a 0 3))) + (wnN (su a 1) (su b 1))) + ((rfN a b 1 3) + (rfN b a 1 3))) from nI_add (((0 + (wnN (su a 0) (su b 0))) + ((rfN a b 0 3) + (rfN b a 0 3))) + (wnN (su a 1) (su b 1))) ((rfN a b 1 3) + (rfN b a 1 3))) ?_
  refine lv_istore_n (lv' := [(3, .int (nI ((((0 + (wnN (su a 0) (su b 0))) + ((rfN a b 0 3) + (rfN b a 0 3))) + (wnN (su a 1) (su b 1))) + ((rfN a b 1 3) + (rfN b a 1 3))))), (4, .int 1), (0, .int 3), (1, .int (nI a)), (2, .int (nI b))]) X.1 X.2.1 dX1_tricksOf_59 rfl hl (by decide) rfl (fun ls hl => ?_)
  refine lv_iinc (v := 2) (lv' := [(4, .int 2), (3, .int (nI ((((0 + (wnN (su a 0) (su b 0))) + ((rfN a b 0 3) + (rfN b a 0 3))) + (wnN (su a 1) (su b 1))) + ((rfN a b 1 3) + (rfN b a 1 3))))), (0, .int 3), (1, .int (nI a)), (2, .int (nI b))]) X.1 X.2.1 dX1_tricksOf_60 hl (k := 1) rfl (by decide) (by decide) rfl (fun ls hl => ?_)
  refine lv_goto (tgt := 5) X.1 X.2.1 dX1_tricksOf_63 (by decide) ?_
  refine lv_iload X.1 X.2.1 dX1_tricksOf_5 (lv_at hl 0 rfl) ?_
  refine lv_iconst (v := 4) X.1 X.2.1 dX1_tricksOf_7 (by decide) ?_
  refine lv_icmp_ge (tgt := 66) X.1 X.2.1 dX1_tricksOf_8 (by decide) (fun c_8 => absurd c_8 (by decide)) (fun c_8 => ?_)
  refine lv_iload_n X.1 X.2.1 dX1_tricksOf_11 rfl (lv_at hl 1 rfl) ?_
  refine lv_iload_n X.1 X.2.1 dX1_tricksOf_12 rfl (lv_at hl 3 rfl) ?_
  refine lv_iload X.1 X.2.1 dX1_tricksOf_13 (lv_at hl 0 rfl) ?_
  refine on_Si (run_S (As := [.int (nI a), .int 2]) (rest := [.int (nI ((((0 + (wnN (su a 0) (su b 0))) + ((rfN a b 0 3) + (rfN b a 0 3))) + (wnN (su a 1) (su b 1))) + ((rfN a b 1 3) + (rfN b a 1 3))))]) X (c_X1_ofSuit l G hp a 2 (by omega) (by decide)) (rp_blind _) (rp_at X hH hS) mf_X1_ofSuit tw_206 tw_207 ⟨rfl, rfl, Nat.le_of_ble_eq_true rfl, Nat.le_of_ble_eq_true rfl⟩ hl.1 rfl rfl (Nat.le_of_ble_eq_true rfl) ⟨Nat.le_of_ble_eq_true rfl, Nat.le_of_ble_eq_true rfl⟩ dX1_tricksOf_15) (fun r_15xx q_15xx => ?_)
  obtain rfl : r_15xx = (nI (su a 2)) := q_15xx
  refine lv_iload_n X.1 X.2.1 dX1_tricksOf_18 rfl (lv_at hl 4 rfl) ?_
  refine lv_iload X.1 X.2.1 dX1_tricksOf_19 (lv_at hl 0 rfl) ?_
  refine on_Si (run_S (As := [.int (nI b), .int 2]) (rest := [.int (nI (su a 2)), .int (nI ((((0 + (wnN (su a 0) (su b 0))) + ((rfN a b 0 3) + (rfN b a 0 3))) + (wnN (su a 1) (su b 1))) + ((rfN a b 1 3) + (rfN b a 1 3))))]) X (c_X1_ofSuit l G hp b 2 (by omega) (by decide)) (rp_blind _) (rp_at X hH hS) mf_X1_ofSuit tw_206 tw_207 ⟨rfl, rfl, Nat.le_of_ble_eq_true rfl, Nat.le_of_ble_eq_true rfl⟩ hl.1 rfl rfl (Nat.le_of_ble_eq_true rfl) ⟨Nat.le_of_ble_eq_true rfl, Nat.le_of_ble_eq_true rfl⟩ dX1_tricksOf_21) (fun r_21xx q_21xx => ?_)
  obtain rfl : r_21xx = (nI (su b 2)) := q_21xx
  refine on_Si (run_S (As := [.int (nI (su a 2)), .int (nI (su b 2))]) (rest := [.int (nI ((((0 + (wnN (su a 0) (su b 0))) + ((rfN a b 0 3) + (rfN b a 0 3))) + (wnN (su a 1) (su b 1))) + ((rfN a b 1 3) + (rfN b a 1 3))))]) X (c_X1_winners l G hp (su a 2) (su b 2) (su_lt _ _) (su_lt _ _)) (rp_blind _) (rp_at X hH hS) mf_X1_winners tw_319 tw_320 ⟨rfl, rfl, Nat.le_of_ble_eq_true rfl, Nat.le_of_ble_eq_true rfl⟩ hl.1 rfl rfl (Nat.le_of_ble_eq_true rfl) ⟨Nat.le_of_ble_eq_true rfl, Nat.le_of_ble_eq_true rfl⟩ dX1_tricksOf_24) (fun r_24xx q_24xx => ?_)
  obtain rfl : r_24xx = (nI (wnN (su a 2) (su b 2))) := q_24xx
  refine lv_iadd X.1 X.2.1 dX1_tricksOf_27 ?_
  refine r_eqi (show (((nI ((((0 + (wnN (su a 0) (su b 0))) + ((rfN a b 0 3) + (rfN b a 0 3))) + (wnN (su a 1) (su b 1))) + ((rfN a b 1 3) + (rfN b a 1 3)))) + (nI (wnN (su a 2) (su b 2)))) : Int32) = nI (((((0 + (wnN (su a 0) (su b 0))) + ((rfN a b 0 3) + (rfN b a 0 3))) + (wnN (su a 1) (su b 1))) + ((rfN a b 1 3) + (rfN b a 1 3))) + (wnN (su a 2) (su b 2))) from nI_add ((((0 + (wnN (su a 0) (su b 0))) + ((rfN a b 0 3) + (rfN b a 0 3))) + (wnN (su a 1) (su b 1))) + ((rfN a b 1 3) + (rfN b a 1 3))) (wnN (su a 2) (su b 2))) ?_
  refine lv_istore_n (lv' := [(3, .int (nI (((((0 + (wnN (su a 0) (su b 0))) + ((rfN a b 0 3) + (rfN b a 0 3))) + (wnN (su a 1) (su b 1))) + ((rfN a b 1 3) + (rfN b a 1 3))) + (wnN (su a 2) (su b 2))))), (4, .int 2), (0, .int 3), (1, .int (nI a)), (2, .int (nI b))]) X.1 X.2.1 dX1_tricksOf_28 rfl hl (by decide) rfl (fun ls hl => ?_)
  refine lv_iload_n X.1 X.2.1 dX1_tricksOf_29 rfl (lv_at hl 2 rfl) ?_
  refine lv_iconst (v := 4) X.1 X.2.1 dX1_tricksOf_30 (by decide) ?_
  refine lv_icmp_eq (tgt := 60) X.1 X.2.1 dX1_tricksOf_31 (by decide) (fun c_31 => absurd c_31 (by decide)) (fun c_31 => ?_)
  refine lv_iload X.1 X.2.1 dX1_tricksOf_34 (lv_at hl 1 rfl) ?_
  refine lv_iload_n X.1 X.2.1 dX1_tricksOf_36 rfl (lv_at hl 2 rfl) ?_
  refine lv_icmp_eq (tgt := 60) X.1 X.2.1 dX1_tricksOf_37 (by decide) (fun c_37 => absurd c_37 (by decide)) (fun c_37 => ?_)
  refine lv_iload_n X.1 X.2.1 dX1_tricksOf_40 rfl (lv_at hl 0 rfl) ?_
  refine lv_iload_n X.1 X.2.1 dX1_tricksOf_41 rfl (lv_at hl 3 rfl) ?_
  refine lv_iload_n X.1 X.2.1 dX1_tricksOf_42 rfl (lv_at hl 4 rfl) ?_
  refine lv_iload X.1 X.2.1 dX1_tricksOf_43 (lv_at hl 1 rfl) ?_
  refine lv_iload_n X.1 X.2.1 dX1_tricksOf_45 rfl (lv_at hl 2 rfl) ?_
  refine on_Si (run_S (As := [.int (nI a), .int (nI b), .int 2, .int 3]) (rest := [.int (nI (((((0 + (wnN (su a 0) (su b 0))) + ((rfN a b 0 3) + (rfN b a 0 3))) + (wnN (su a 1) (su b 1))) + ((rfN a b 1 3) + (rfN b a 1 3))) + (wnN (su a 2) (su b 2))))]) X (c_X1_ruffs l G hp a b 2 3 ha hb (by decide) (by decide)) (rp_blind _) (rp_at X hH hS) mf_X1_ruffs tw_328 tw_329 ⟨rfl, rfl, Nat.le_of_ble_eq_true rfl, Nat.le_of_ble_eq_true rfl⟩ hl.1 rfl rfl (Nat.le_of_ble_eq_true rfl) ⟨Nat.le_of_ble_eq_true rfl, Nat.le_of_ble_eq_true rfl⟩ dX1_tricksOf_46) (fun r_46xx q_46xx => ?_)
  obtain rfl : r_46xx = (nI (rfN a b 2 3)) := q_46xx
  refine lv_iload_n X.1 X.2.1 dX1_tricksOf_49 rfl (lv_at hl 4 rfl) ?_
  refine lv_iload_n X.1 X.2.1 dX1_tricksOf_50 rfl (lv_at hl 3 rfl) ?_
  refine lv_iload X.1 X.2.1 dX1_tricksOf_51 (lv_at hl 1 rfl) ?_
  refine lv_iload_n X.1 X.2.1 dX1_tricksOf_53 rfl (lv_at hl 2 rfl) ?_
  refine on_Si (run_S (As := [.int (nI b), .int (nI a), .int 2, .int 3]) (rest := [.int (nI (rfN a b 2 3)), .int (nI (((((0 + (wnN (su a 0) (su b 0))) + ((rfN a b 0 3) + (rfN b a 0 3))) + (wnN (su a 1) (su b 1))) + ((rfN a b 1 3) + (rfN b a 1 3))) + (wnN (su a 2) (su b 2))))]) X (c_X1_ruffs l G hp b a 2 3 hb ha (by decide) (by decide)) (rp_blind _) (rp_at X hH hS) mf_X1_ruffs tw_328 tw_329 ⟨rfl, rfl, Nat.le_of_ble_eq_true rfl, Nat.le_of_ble_eq_true rfl⟩ hl.1 rfl rfl (Nat.le_of_ble_eq_true rfl) ⟨Nat.le_of_ble_eq_true rfl, Nat.le_of_ble_eq_true rfl⟩ dX1_tricksOf_54) (fun r_54xx q_54xx => ?_)
  obtain rfl : r_54xx = (nI (rfN b a 2 3)) := q_54xx
  refine lv_iadd X.1 X.2.1 dX1_tricksOf_57 ?_
  refine r_eqi (show (((nI (rfN a b 2 3)) + (nI (rfN b a 2 3))) : Int32) = nI ((rfN a b 2 3) + (rfN b a 2 3)) from nI_add (rfN a b 2 3) (rfN b a 2 3)) ?_
  refine lv_iadd X.1 X.2.1 dX1_tricksOf_58 ?_
  refine r_eqi (show (((nI (((((0 + (wnN (su a 0) (su b 0))) + ((rfN a b 0 3) + (rfN b a 0 3))) + (wnN (su a 1) (su b 1))) + ((rfN a b 1 3) + (rfN b a 1 3))) + (wnN (su a 2) (su b 2)))) + (nI ((rfN a b 2 3) + (rfN b a 2 3)))) : Int32) = nI ((((((0 + (wnN (su a 0) (su b 0))) + ((rfN a b 0 3) + (rfN b a 0 3))) + (wnN (su a 1) (su b 1))) + ((rfN a b 1 3) + (rfN b a 1 3))) + (wnN (su a 2) (su b 2))) + ((rfN a b 2 3) + (rfN b a 2 3))) from nI_add (((((0 + (wnN (su a 0) (su b 0))) + ((rfN a b 0 3) + (rfN b a 0 3))) + (wnN (su a 1) (su b 1))) + ((rfN a b 1 3) + (rfN b a 1 3))) + (wnN (su a 2) (su b 2))) ((rfN a b 2 3) + (rfN b a 2 3))) ?_
  refine lv_istore_n (lv' := [(3, .int (nI ((((((0 + (wnN (su a 0) (su b 0))) + ((rfN a b 0 3) + (rfN b a 0 3))) + (wnN (su a 1) (su b 1))) + ((rfN a b 1 3) + (rfN b a 1 3))) + (wnN (su a 2) (su b 2))) + ((rfN a b 2 3) + (rfN b a 2 3))))), (4, .int 2), (0, .int 3), (1, .int (nI a)), (2, .int (nI b))]) X.1 X.2.1 dX1_tricksOf_59 rfl hl (by decide) rfl (fun ls hl => ?_)
  refine lv_iinc (v := 3) (lv' := [(4, .int 3), (3, .int (nI ((((((0 + (wnN (su a 0) (su b 0))) + ((rfN a b 0 3) + (rfN b a 0 3))) + (wnN (su a 1) (su b 1))) + ((rfN a b 1 3) + (rfN b a 1 3))) + (wnN (su a 2) (su b 2))) + ((rfN a b 2 3) + (rfN b a 2 3))))), (0, .int 3), (1, .int (nI a)), (2, .int (nI b))]) X.1 X.2.1 dX1_tricksOf_60 hl (k := 1) rfl (by decide) (by decide) rfl (fun ls hl => ?_)
  refine lv_goto (tgt := 5) X.1 X.2.1 dX1_tricksOf_63 (by decide) ?_
  refine lv_iload X.1 X.2.1 dX1_tricksOf_5 (lv_at hl 0 rfl) ?_
  refine lv_iconst (v := 4) X.1 X.2.1 dX1_tricksOf_7 (by decide) ?_
  refine lv_icmp_ge (tgt := 66) X.1 X.2.1 dX1_tricksOf_8 (by decide) (fun c_8 => absurd c_8 (by decide)) (fun c_8 => ?_)
  refine lv_iload_n X.1 X.2.1 dX1_tricksOf_11 rfl (lv_at hl 1 rfl) ?_
  refine lv_iload_n X.1 X.2.1 dX1_tricksOf_12 rfl (lv_at hl 3 rfl) ?_
  refine lv_iload X.1 X.2.1 dX1_tricksOf_13 (lv_at hl 0 rfl) ?_
  refine on_Si (run_S (As := [.int (nI a), .int 3]) (rest := [.int (nI ((((((0 + (wnN (su a 0) (su b 0))) + ((rfN a b 0 3) + (rfN b a 0 3))) + (wnN (su a 1) (su b 1))) + ((rfN a b 1 3) + (rfN b a 1 3))) + (wnN (su a 2) (su b 2))) + ((rfN a b 2 3) + (rfN b a 2 3))))]) X (c_X1_ofSuit l G hp a 3 (by omega) (by decide)) (rp_blind _) (rp_at X hH hS) mf_X1_ofSuit tw_206 tw_207 ⟨rfl, rfl, Nat.le_of_ble_eq_true rfl, Nat.le_of_ble_eq_true rfl⟩ hl.1 rfl rfl (Nat.le_of_ble_eq_true rfl) ⟨Nat.le_of_ble_eq_true rfl, Nat.le_of_ble_eq_true rfl⟩ dX1_tricksOf_15) (fun r_15xxx q_15xxx => ?_)
  obtain rfl : r_15xxx = (nI (su a 3)) := q_15xxx
  refine lv_iload_n X.1 X.2.1 dX1_tricksOf_18 rfl (lv_at hl 4 rfl) ?_
  refine lv_iload X.1 X.2.1 dX1_tricksOf_19 (lv_at hl 0 rfl) ?_
  refine on_Si (run_S (As := [.int (nI b), .int 3]) (rest := [.int (nI (su a 3)), .int (nI ((((((0 + (wnN (su a 0) (su b 0))) + ((rfN a b 0 3) + (rfN b a 0 3))) + (wnN (su a 1) (su b 1))) + ((rfN a b 1 3) + (rfN b a 1 3))) + (wnN (su a 2) (su b 2))) + ((rfN a b 2 3) + (rfN b a 2 3))))]) X (c_X1_ofSuit l G hp b 3 (by omega) (by decide)) (rp_blind _) (rp_at X hH hS) mf_X1_ofSuit tw_206 tw_207 ⟨rfl, rfl, Nat.le_of_ble_eq_true rfl, Nat.le_of_ble_eq_true rfl⟩ hl.1 rfl rfl (Nat.le_of_ble_eq_true rfl) ⟨Nat.le_of_ble_eq_true rfl, Nat.le_of_ble_eq_true rfl⟩ dX1_tricksOf_21) (fun r_21xxx q_21xxx => ?_)
  obtain rfl : r_21xxx = (nI (su b 3)) := q_21xxx
  refine on_Si (run_S (As := [.int (nI (su a 3)), .int (nI (su b 3))]) (rest := [.int (nI ((((((0 + (wnN (su a 0) (su b 0))) + ((rfN a b 0 3) + (rfN b a 0 3))) + (wnN (su a 1) (su b 1))) + ((rfN a b 1 3) + (rfN b a 1 3))) + (wnN (su a 2) (su b 2))) + ((rfN a b 2 3) + (rfN b a 2 3))))]) X (c_X1_winners l G hp (su a 3) (su b 3) (su_lt _ _) (su_lt _ _)) (rp_blind _) (rp_at X hH hS) mf_X1_winners tw_319 tw_320 ⟨rfl, rfl, Nat.le_of_ble_eq_true rfl, Nat.le_of_ble_eq_true rfl⟩ hl.1 rfl rfl (Nat.le_of_ble_eq_true rfl) ⟨Nat.le_of_ble_eq_true rfl, Nat.le_of_ble_eq_true rfl⟩ dX1_tricksOf_24) (fun r_24xxx q_24xxx => ?_)
  obtain rfl : r_24xxx = (nI (wnN (su a 3) (su b 3))) := q_24xxx
  refine lv_iadd X.1 X.2.1 dX1_tricksOf_27 ?_
  refine r_eqi (show (((nI ((((((0 + (wnN (su a 0) (su b 0))) + ((rfN a b 0 3) + (rfN b a 0 3))) + (wnN (su a 1) (su b 1))) + ((rfN a b 1 3) + (rfN b a 1 3))) + (wnN (su a 2) (su b 2))) + ((rfN a b 2 3) + (rfN b a 2 3)))) + (nI (wnN (su a 3) (su b 3)))) : Int32) = nI (((((((0 + (wnN (su a 0) (su b 0))) + ((rfN a b 0 3) + (rfN b a 0 3))) + (wnN (su a 1) (su b 1))) + ((rfN a b 1 3) + (rfN b a 1 3))) + (wnN (su a 2) (su b 2))) + ((rfN a b 2 3) + (rfN b a 2 3))) + (wnN (su a 3) (su b 3))) from nI_add ((((((0 + (wnN (su a 0) (su b 0))) + ((rfN a b 0 3) + (rfN b a 0 3))) + (wnN (su a 1) (su b 1))) + ((rfN a b 1 3) + (rfN b a 1 3))) + (wnN (su a 2) (su b 2))) + ((rfN a b 2 3) + (rfN b a 2 3))) (wnN (su a 3) (su b 3))) ?_
  refine lv_istore_n (lv' := [(3, .int (nI (((((((0 + (wnN (su a 0) (su b 0))) + ((rfN a b 0 3) + (rfN b a 0 3))) + (wnN (su a 1) (su b 1))) + ((rfN a b 1 3) + (rfN b a 1 3))) + (wnN (su a 2) (su b 2))) + ((rfN a b 2 3) + (rfN b a 2 3))) + (wnN (su a 3) (su b 3))))), (4, .int 3), (0, .int 3), (1, .int (nI a)), (2, .int (nI b))]) X.1 X.2.1 dX1_tricksOf_28 rfl hl (by decide) rfl (fun ls hl => ?_)
  refine lv_iload_n X.1 X.2.1 dX1_tricksOf_29 rfl (lv_at hl 2 rfl) ?_
  refine lv_iconst (v := 4) X.1 X.2.1 dX1_tricksOf_30 (by decide) ?_
  refine lv_icmp_eq (tgt := 60) X.1 X.2.1 dX1_tricksOf_31 (by decide) (fun c_31 => absurd c_31 (by decide)) (fun c_31 => ?_)
  refine lv_iload X.1 X.2.1 dX1_tricksOf_34 (lv_at hl 1 rfl) ?_
  refine lv_iload_n X.1 X.2.1 dX1_tricksOf_36 rfl (lv_at hl 2 rfl) ?_
  refine lv_icmp_eq (tgt := 60) X.1 X.2.1 dX1_tricksOf_37 (by decide) (fun c_37 => ?_) (fun c_37 => absurd (by decide) c_37)
  refine lv_iinc (v := 4) (lv' := [(4, .int 4), (3, .int (nI (((((((0 + (wnN (su a 0) (su b 0))) + ((rfN a b 0 3) + (rfN b a 0 3))) + (wnN (su a 1) (su b 1))) + ((rfN a b 1 3) + (rfN b a 1 3))) + (wnN (su a 2) (su b 2))) + ((rfN a b 2 3) + (rfN b a 2 3))) + (wnN (su a 3) (su b 3))))), (0, .int 3), (1, .int (nI a)), (2, .int (nI b))]) X.1 X.2.1 dX1_tricksOf_60 hl (k := 1) rfl (by decide) (by decide) rfl (fun ls hl => ?_)
  refine lv_goto (tgt := 5) X.1 X.2.1 dX1_tricksOf_63 (by decide) ?_
  refine lv_iload X.1 X.2.1 dX1_tricksOf_5 (lv_at hl 0 rfl) ?_
  refine lv_iconst (v := 4) X.1 X.2.1 dX1_tricksOf_7 (by decide) ?_
  refine lv_icmp_ge (tgt := 66) X.1 X.2.1 dX1_tricksOf_8 (by decide) (fun c_8 => ?_) (fun c_8 => absurd (by decide) c_8)
  refine lv_iload_n X.1 X.2.1 dX1_tricksOf_66 rfl (lv_at hl 1 rfl) ?_
  refine lv_iconst (v := 5) X.1 X.2.1 dX1_tricksOf_67 (by decide) ?_
  refine va_mmin X.1 X.2.1 (by rw [X.2.2.1]; exact hl.1.symm) X.2.2.2.1 (tb_all X.2.2.2.2.1 _ tw_325) (tb_all X.2.2.2.2.1 _ tw_326) (tb_all X.2.2.2.2.1 _ tw_29) (tb_all X.2.2.2.2.1 _ tw_math_min) (Nat.le_of_ble_eq_true rfl) (Nat.le_of_ble_eq_true rfl) (Nat.le_of_ble_eq_true rfl) (Nat.le_of_ble_eq_true rfl) dX1_tricksOf_68 ?_
  refine r_eqi (n_min (((((((0 + (wnN (su a 0) (su b 0))) + ((rfN a b 0 3) + (rfN b a 0 3))) + (wnN (su a 1) (su b 1))) + ((rfN a b 1 3) + (rfN b a 1 3))) + (wnN (su a 2) (su b 2))) + ((rfN a b 2 3) + (rfN b a 2 3))) + (wnN (su a 3) (su b 3))) 5 (by omega) (by omega)) ?_
  exact ro_i X hr hlk (by show nI _ = nI _; refine congrArg nI ?_; unfold trN trS; rw [if_pos (show (3 : Nat) ≠ 4 ∧ (0 : Nat) ≠ 3 by decide)]; rw [if_pos (show (3 : Nat) ≠ 4 ∧ (1 : Nat) ≠ 3 by decide)]; rw [if_pos (show (3 : Nat) ≠ 4 ∧ (2 : Nat) ≠ 3 by decide)]; rw [if_neg (show ¬ ((3 : Nat) ≠ 4 ∧ (3 : Nat) ≠ 3) by decide)]; refine congrArg (fun z => min z 5) ?_; omega) dX1_tricksOf_71

set_option maxHeartbeats 4000000 in
set_option maxRecDepth 100000 in
theorem c_X1_tricksOf_4 (l : Launch) (G : HG) (hp : HP) (a b : Nat) (ha : a ≤ 1048575) (hb : b ≤ 1048575) : Met l yX1_tricksOf [.code yX1_tricksOf cX1_tricksOf 5 (some .int)] { frames := 2, cells := 0, slots := 0, locals := 45 } (va_Pc [.int 4, .int (nI a), .int (nI b)] (RP G hp)) (vp_Si (fun r => r = nI (trN 4 a b))) 0 0 (fun _ => False) := by
  refine ro_ofW (by decide) (Nat.le_of_ble_eq_true rfl) ?_
  intro p e s m args below meth c ls X hr hlk hH hl
  have hS : va_S (fun _ => False) s.heap s.heap [] := va_S.rf
  have hl : lv_has ls 5 [(0, .int 4), (1, .int (nI a)), (2, .int (nI b))] := hl
  have := wnN_le (su a 0) (su b 0)
  have := wnN_le (su a 1) (su b 1)
  have := wnN_le (su a 2) (su b 2)
  have := wnN_le (su a 3) (su b 3)
  refine lv_iconst (v := 0) X.1 X.2.1 dX1_tricksOf_0 (by decide) ?_
  refine lv_istore_n (lv' := [(3, .int 0), (0, .int 4), (1, .int (nI a)), (2, .int (nI b))]) X.1 X.2.1 dX1_tricksOf_1 rfl hl (by decide) rfl (fun ls hl => ?_)
  refine lv_iconst (v := 0) X.1 X.2.1 dX1_tricksOf_2 (by decide) ?_
  refine lv_istore (lv' := [(4, .int 0), (3, .int 0), (0, .int 4), (1, .int (nI a)), (2, .int (nI b))]) X.1 X.2.1 dX1_tricksOf_3 hl (by decide) rfl (fun ls hl => ?_)
  refine lv_iload X.1 X.2.1 dX1_tricksOf_5 (lv_at hl 0 rfl) ?_
  refine lv_iconst (v := 4) X.1 X.2.1 dX1_tricksOf_7 (by decide) ?_
  refine lv_icmp_ge (tgt := 66) X.1 X.2.1 dX1_tricksOf_8 (by decide) (fun c_8 => absurd c_8 (by decide)) (fun c_8 => ?_)
  refine lv_iload_n X.1 X.2.1 dX1_tricksOf_11 rfl (lv_at hl 1 rfl) ?_
  refine lv_iload_n X.1 X.2.1 dX1_tricksOf_12 rfl (lv_at hl 3 rfl) ?_
  refine lv_iload X.1 X.2.1 dX1_tricksOf_13 (lv_at hl 0 rfl) ?_
  refine on_Si (run_S (As := [.int (nI a), .int 0]) (rest := [.int 0]) X (c_X1_ofSuit l G hp a 0 (by omega) (by decide)) (rp_blind _) (rp_at X hH hS) mf_X1_ofSuit tw_206 tw_207 ⟨rfl, rfl, Nat.le_of_ble_eq_true rfl, Nat.le_of_ble_eq_true rfl⟩ hl.1 rfl rfl (Nat.le_of_ble_eq_true rfl) ⟨Nat.le_of_ble_eq_true rfl, Nat.le_of_ble_eq_true rfl⟩ dX1_tricksOf_15) (fun r_15 q_15 => ?_)
  obtain rfl : r_15 = (nI (su a 0)) := q_15
  refine lv_iload_n X.1 X.2.1 dX1_tricksOf_18 rfl (lv_at hl 4 rfl) ?_
  refine lv_iload X.1 X.2.1 dX1_tricksOf_19 (lv_at hl 0 rfl) ?_
  refine on_Si (run_S (As := [.int (nI b), .int 0]) (rest := [.int (nI (su a 0)), .int 0]) X (c_X1_ofSuit l G hp b 0 (by omega) (by decide)) (rp_blind _) (rp_at X hH hS) mf_X1_ofSuit tw_206 tw_207 ⟨rfl, rfl, Nat.le_of_ble_eq_true rfl, Nat.le_of_ble_eq_true rfl⟩ hl.1 rfl rfl (Nat.le_of_ble_eq_true rfl) ⟨Nat.le_of_ble_eq_true rfl, Nat.le_of_ble_eq_true rfl⟩ dX1_tricksOf_21) (fun r_21 q_21 => ?_)
  obtain rfl : r_21 = (nI (su b 0)) := q_21
  refine on_Si (run_S (As := [.int (nI (su a 0)), .int (nI (su b 0))]) (rest := [.int 0]) X (c_X1_winners l G hp (su a 0) (su b 0) (su_lt _ _) (su_lt _ _)) (rp_blind _) (rp_at X hH hS) mf_X1_winners tw_319 tw_320 ⟨rfl, rfl, Nat.le_of_ble_eq_true rfl, Nat.le_of_ble_eq_true rfl⟩ hl.1 rfl rfl (Nat.le_of_ble_eq_true rfl) ⟨Nat.le_of_ble_eq_true rfl, Nat.le_of_ble_eq_true rfl⟩ dX1_tricksOf_24) (fun r_24 q_24 => ?_)
  obtain rfl : r_24 = (nI (wnN (su a 0) (su b 0))) := q_24
  refine lv_iadd X.1 X.2.1 dX1_tricksOf_27 ?_
  refine r_eqi (show (((0 : Int32) + (nI (wnN (su a 0) (su b 0)))) : Int32) = nI (0 + (wnN (su a 0) (su b 0))) from nI_add 0 (wnN (su a 0) (su b 0))) ?_
  refine lv_istore_n (lv' := [(3, .int (nI (0 + (wnN (su a 0) (su b 0))))), (4, .int 0), (0, .int 4), (1, .int (nI a)), (2, .int (nI b))]) X.1 X.2.1 dX1_tricksOf_28 rfl hl (by decide) rfl (fun ls hl => ?_)
  refine lv_iload_n X.1 X.2.1 dX1_tricksOf_29 rfl (lv_at hl 2 rfl) ?_
  refine lv_iconst (v := 4) X.1 X.2.1 dX1_tricksOf_30 (by decide) ?_
  refine lv_icmp_eq (tgt := 60) X.1 X.2.1 dX1_tricksOf_31 (by decide) (fun c_31 => ?_) (fun c_31 => absurd (by decide) c_31)
  refine lv_iinc (v := 1) (lv' := [(4, .int 1), (3, .int (nI (0 + (wnN (su a 0) (su b 0))))), (0, .int 4), (1, .int (nI a)), (2, .int (nI b))]) X.1 X.2.1 dX1_tricksOf_60 hl (k := 1) rfl (by decide) (by decide) rfl (fun ls hl => ?_)
  refine lv_goto (tgt := 5) X.1 X.2.1 dX1_tricksOf_63 (by decide) ?_
  refine lv_iload X.1 X.2.1 dX1_tricksOf_5 (lv_at hl 0 rfl) ?_
  refine lv_iconst (v := 4) X.1 X.2.1 dX1_tricksOf_7 (by decide) ?_
  refine lv_icmp_ge (tgt := 66) X.1 X.2.1 dX1_tricksOf_8 (by decide) (fun c_8 => absurd c_8 (by decide)) (fun c_8 => ?_)
  refine lv_iload_n X.1 X.2.1 dX1_tricksOf_11 rfl (lv_at hl 1 rfl) ?_
  refine lv_iload_n X.1 X.2.1 dX1_tricksOf_12 rfl (lv_at hl 3 rfl) ?_
  refine lv_iload X.1 X.2.1 dX1_tricksOf_13 (lv_at hl 0 rfl) ?_
  refine on_Si (run_S (As := [.int (nI a), .int 1]) (rest := [.int (nI (0 + (wnN (su a 0) (su b 0))))]) X (c_X1_ofSuit l G hp a 1 (by omega) (by decide)) (rp_blind _) (rp_at X hH hS) mf_X1_ofSuit tw_206 tw_207 ⟨rfl, rfl, Nat.le_of_ble_eq_true rfl, Nat.le_of_ble_eq_true rfl⟩ hl.1 rfl rfl (Nat.le_of_ble_eq_true rfl) ⟨Nat.le_of_ble_eq_true rfl, Nat.le_of_ble_eq_true rfl⟩ dX1_tricksOf_15) (fun r_15x q_15x => ?_)
  obtain rfl : r_15x = (nI (su a 1)) := q_15x
  refine lv_iload_n X.1 X.2.1 dX1_tricksOf_18 rfl (lv_at hl 4 rfl) ?_
  refine lv_iload X.1 X.2.1 dX1_tricksOf_19 (lv_at hl 0 rfl) ?_
  refine on_Si (run_S (As := [.int (nI b), .int 1]) (rest := [.int (nI (su a 1)), .int (nI (0 + (wnN (su a 0) (su b 0))))]) X (c_X1_ofSuit l G hp b 1 (by omega) (by decide)) (rp_blind _) (rp_at X hH hS) mf_X1_ofSuit tw_206 tw_207 ⟨rfl, rfl, Nat.le_of_ble_eq_true rfl, Nat.le_of_ble_eq_true rfl⟩ hl.1 rfl rfl (Nat.le_of_ble_eq_true rfl) ⟨Nat.le_of_ble_eq_true rfl, Nat.le_of_ble_eq_true rfl⟩ dX1_tricksOf_21) (fun r_21x q_21x => ?_)
  obtain rfl : r_21x = (nI (su b 1)) := q_21x
  refine on_Si (run_S (As := [.int (nI (su a 1)), .int (nI (su b 1))]) (rest := [.int (nI (0 + (wnN (su a 0) (su b 0))))]) X (c_X1_winners l G hp (su a 1) (su b 1) (su_lt _ _) (su_lt _ _)) (rp_blind _) (rp_at X hH hS) mf_X1_winners tw_319 tw_320 ⟨rfl, rfl, Nat.le_of_ble_eq_true rfl, Nat.le_of_ble_eq_true rfl⟩ hl.1 rfl rfl (Nat.le_of_ble_eq_true rfl) ⟨Nat.le_of_ble_eq_true rfl, Nat.le_of_ble_eq_true rfl⟩ dX1_tricksOf_24) (fun r_24x q_24x => ?_)
  obtain rfl : r_24x = (nI (wnN (su a 1) (su b 1))) := q_24x
  refine lv_iadd X.1 X.2.1 dX1_tricksOf_27 ?_
  refine r_eqi (show (((nI (0 + (wnN (su a 0) (su b 0)))) + (nI (wnN (su a 1) (su b 1)))) : Int32) = nI ((0 + (wnN (su a 0) (su b 0))) + (wnN (su a 1) (su b 1))) from nI_add (0 + (wnN (su a 0) (su b 0))) (wnN (su a 1) (su b 1))) ?_
  refine lv_istore_n (lv' := [(3, .int (nI ((0 + (wnN (su a 0) (su b 0))) + (wnN (su a 1) (su b 1))))), (4, .int 1), (0, .int 4), (1, .int (nI a)), (2, .int (nI b))]) X.1 X.2.1 dX1_tricksOf_28 rfl hl (by decide) rfl (fun ls hl => ?_)
  refine lv_iload_n X.1 X.2.1 dX1_tricksOf_29 rfl (lv_at hl 2 rfl) ?_
  refine lv_iconst (v := 4) X.1 X.2.1 dX1_tricksOf_30 (by decide) ?_
  refine lv_icmp_eq (tgt := 60) X.1 X.2.1 dX1_tricksOf_31 (by decide) (fun c_31 => ?_) (fun c_31 => absurd (by decide) c_31)
  refine lv_iinc (v := 2) (lv' := [(4, .int 2), (3, .int (nI ((0 + (wnN (su a 0) (su b 0))) + (wnN (su a 1) (su b 1))))), (0, .int 4), (1, .int (nI a)), (2, .int (nI b))]) X.1 X.2.1 dX1_tricksOf_60 hl (k := 1) rfl (by decide) (by decide) rfl (fun ls hl => ?_)
  refine lv_goto (tgt := 5) X.1 X.2.1 dX1_tricksOf_63 (by decide) ?_
  refine lv_iload X.1 X.2.1 dX1_tricksOf_5 (lv_at hl 0 rfl) ?_
  refine lv_iconst (v := 4) X.1 X.2.1 dX1_tricksOf_7 (by decide) ?_
  refine lv_icmp_ge (tgt := 66) X.1 X.2.1 dX1_tricksOf_8 (by decide) (fun c_8 => absurd c_8 (by decide)) (fun c_8 => ?_)
  refine lv_iload_n X.1 X.2.1 dX1_tricksOf_11 rfl (lv_at hl 1 rfl) ?_
  refine lv_iload_n X.1 X.2.1 dX1_tricksOf_12 rfl (lv_at hl 3 rfl) ?_
  refine lv_iload X.1 X.2.1 dX1_tricksOf_13 (lv_at hl 0 rfl) ?_
  refine on_Si (run_S (As := [.int (nI a), .int 2]) (rest := [.int (nI ((0 + (wnN (su a 0) (su b 0))) + (wnN (su a 1) (su b 1))))]) X (c_X1_ofSuit l G hp a 2 (by omega) (by decide)) (rp_blind _) (rp_at X hH hS) mf_X1_ofSuit tw_206 tw_207 ⟨rfl, rfl, Nat.le_of_ble_eq_true rfl, Nat.le_of_ble_eq_true rfl⟩ hl.1 rfl rfl (Nat.le_of_ble_eq_true rfl) ⟨Nat.le_of_ble_eq_true rfl, Nat.le_of_ble_eq_true rfl⟩ dX1_tricksOf_15) (fun r_15xx q_15xx => ?_)
  obtain rfl : r_15xx = (nI (su a 2)) := q_15xx
  refine lv_iload_n X.1 X.2.1 dX1_tricksOf_18 rfl (lv_at hl 4 rfl) ?_
  refine lv_iload X.1 X.2.1 dX1_tricksOf_19 (lv_at hl 0 rfl) ?_
  refine on_Si (run_S (As := [.int (nI b), .int 2]) (rest := [.int (nI (su a 2)), .int (nI ((0 + (wnN (su a 0) (su b 0))) + (wnN (su a 1) (su b 1))))]) X (c_X1_ofSuit l G hp b 2 (by omega) (by decide)) (rp_blind _) (rp_at X hH hS) mf_X1_ofSuit tw_206 tw_207 ⟨rfl, rfl, Nat.le_of_ble_eq_true rfl, Nat.le_of_ble_eq_true rfl⟩ hl.1 rfl rfl (Nat.le_of_ble_eq_true rfl) ⟨Nat.le_of_ble_eq_true rfl, Nat.le_of_ble_eq_true rfl⟩ dX1_tricksOf_21) (fun r_21xx q_21xx => ?_)
  obtain rfl : r_21xx = (nI (su b 2)) := q_21xx
  refine on_Si (run_S (As := [.int (nI (su a 2)), .int (nI (su b 2))]) (rest := [.int (nI ((0 + (wnN (su a 0) (su b 0))) + (wnN (su a 1) (su b 1))))]) X (c_X1_winners l G hp (su a 2) (su b 2) (su_lt _ _) (su_lt _ _)) (rp_blind _) (rp_at X hH hS) mf_X1_winners tw_319 tw_320 ⟨rfl, rfl, Nat.le_of_ble_eq_true rfl, Nat.le_of_ble_eq_true rfl⟩ hl.1 rfl rfl (Nat.le_of_ble_eq_true rfl) ⟨Nat.le_of_ble_eq_true rfl, Nat.le_of_ble_eq_true rfl⟩ dX1_tricksOf_24) (fun r_24xx q_24xx => ?_)
  obtain rfl : r_24xx = (nI (wnN (su a 2) (su b 2))) := q_24xx
  refine lv_iadd X.1 X.2.1 dX1_tricksOf_27 ?_
  refine r_eqi (show (((nI ((0 + (wnN (su a 0) (su b 0))) + (wnN (su a 1) (su b 1)))) + (nI (wnN (su a 2) (su b 2)))) : Int32) = nI (((0 + (wnN (su a 0) (su b 0))) + (wnN (su a 1) (su b 1))) + (wnN (su a 2) (su b 2))) from nI_add ((0 + (wnN (su a 0) (su b 0))) + (wnN (su a 1) (su b 1))) (wnN (su a 2) (su b 2))) ?_
  refine lv_istore_n (lv' := [(3, .int (nI (((0 + (wnN (su a 0) (su b 0))) + (wnN (su a 1) (su b 1))) + (wnN (su a 2) (su b 2))))), (4, .int 2), (0, .int 4), (1, .int (nI a)), (2, .int (nI b))]) X.1 X.2.1 dX1_tricksOf_28 rfl hl (by decide) rfl (fun ls hl => ?_)
  refine lv_iload_n X.1 X.2.1 dX1_tricksOf_29 rfl (lv_at hl 2 rfl) ?_
  refine lv_iconst (v := 4) X.1 X.2.1 dX1_tricksOf_30 (by decide) ?_
  refine lv_icmp_eq (tgt := 60) X.1 X.2.1 dX1_tricksOf_31 (by decide) (fun c_31 => ?_) (fun c_31 => absurd (by decide) c_31)
  refine lv_iinc (v := 3) (lv' := [(4, .int 3), (3, .int (nI (((0 + (wnN (su a 0) (su b 0))) + (wnN (su a 1) (su b 1))) + (wnN (su a 2) (su b 2))))), (0, .int 4), (1, .int (nI a)), (2, .int (nI b))]) X.1 X.2.1 dX1_tricksOf_60 hl (k := 1) rfl (by decide) (by decide) rfl (fun ls hl => ?_)
  refine lv_goto (tgt := 5) X.1 X.2.1 dX1_tricksOf_63 (by decide) ?_
  refine lv_iload X.1 X.2.1 dX1_tricksOf_5 (lv_at hl 0 rfl) ?_
  refine lv_iconst (v := 4) X.1 X.2.1 dX1_tricksOf_7 (by decide) ?_
  refine lv_icmp_ge (tgt := 66) X.1 X.2.1 dX1_tricksOf_8 (by decide) (fun c_8 => absurd c_8 (by decide)) (fun c_8 => ?_)
  refine lv_iload_n X.1 X.2.1 dX1_tricksOf_11 rfl (lv_at hl 1 rfl) ?_
  refine lv_iload_n X.1 X.2.1 dX1_tricksOf_12 rfl (lv_at hl 3 rfl) ?_
  refine lv_iload X.1 X.2.1 dX1_tricksOf_13 (lv_at hl 0 rfl) ?_
  refine on_Si (run_S (As := [.int (nI a), .int 3]) (rest := [.int (nI (((0 + (wnN (su a 0) (su b 0))) + (wnN (su a 1) (su b 1))) + (wnN (su a 2) (su b 2))))]) X (c_X1_ofSuit l G hp a 3 (by omega) (by decide)) (rp_blind _) (rp_at X hH hS) mf_X1_ofSuit tw_206 tw_207 ⟨rfl, rfl, Nat.le_of_ble_eq_true rfl, Nat.le_of_ble_eq_true rfl⟩ hl.1 rfl rfl (Nat.le_of_ble_eq_true rfl) ⟨Nat.le_of_ble_eq_true rfl, Nat.le_of_ble_eq_true rfl⟩ dX1_tricksOf_15) (fun r_15xxx q_15xxx => ?_)
  obtain rfl : r_15xxx = (nI (su a 3)) := q_15xxx
  refine lv_iload_n X.1 X.2.1 dX1_tricksOf_18 rfl (lv_at hl 4 rfl) ?_
  refine lv_iload X.1 X.2.1 dX1_tricksOf_19 (lv_at hl 0 rfl) ?_
  refine on_Si (run_S (As := [.int (nI b), .int 3]) (rest := [.int (nI (su a 3)), .int (nI (((0 + (wnN (su a 0) (su b 0))) + (wnN (su a 1) (su b 1))) + (wnN (su a 2) (su b 2))))]) X (c_X1_ofSuit l G hp b 3 (by omega) (by decide)) (rp_blind _) (rp_at X hH hS) mf_X1_ofSuit tw_206 tw_207 ⟨rfl, rfl, Nat.le_of_ble_eq_true rfl, Nat.le_of_ble_eq_true rfl⟩ hl.1 rfl rfl (Nat.le_of_ble_eq_true rfl) ⟨Nat.le_of_ble_eq_true rfl, Nat.le_of_ble_eq_true rfl⟩ dX1_tricksOf_21) (fun r_21xxx q_21xxx => ?_)
  obtain rfl : r_21xxx = (nI (su b 3)) := q_21xxx
  refine on_Si (run_S (As := [.int (nI (su a 3)), .int (nI (su b 3))]) (rest := [.int (nI (((0 + (wnN (su a 0) (su b 0))) + (wnN (su a 1) (su b 1))) + (wnN (su a 2) (su b 2))))]) X (c_X1_winners l G hp (su a 3) (su b 3) (su_lt _ _) (su_lt _ _)) (rp_blind _) (rp_at X hH hS) mf_X1_winners tw_319 tw_320 ⟨rfl, rfl, Nat.le_of_ble_eq_true rfl, Nat.le_of_ble_eq_true rfl⟩ hl.1 rfl rfl (Nat.le_of_ble_eq_true rfl) ⟨Nat.le_of_ble_eq_true rfl, Nat.le_of_ble_eq_true rfl⟩ dX1_tricksOf_24) (fun r_24xxx q_24xxx => ?_)
  obtain rfl : r_24xxx = (nI (wnN (su a 3) (su b 3))) := q_24xxx
  refine lv_iadd X.1 X.2.1 dX1_tricksOf_27 ?_
  refine r_eqi (show (((nI (((0 + (wnN (su a 0) (su b 0))) + (wnN (su a 1) (su b 1))) + (wnN (su a 2) (su b 2)))) + (nI (wnN (su a 3) (su b 3)))) : Int32) = nI ((((0 + (wnN (su a 0) (su b 0))) + (wnN (su a 1) (su b 1))) + (wnN (su a 2) (su b 2))) + (wnN (su a 3) (su b 3))) from nI_add (((0 + (wnN (su a 0) (su b 0))) + (wnN (su a 1) (su b 1))) + (wnN (su a 2) (su b 2))) (wnN (su a 3) (su b 3))) ?_
  refine lv_istore_n (lv' := [(3, .int (nI ((((0 + (wnN (su a 0) (su b 0))) + (wnN (su a 1) (su b 1))) + (wnN (su a 2) (su b 2))) + (wnN (su a 3) (su b 3))))), (4, .int 3), (0, .int 4), (1, .int (nI a)), (2, .int (nI b))]) X.1 X.2.1 dX1_tricksOf_28 rfl hl (by decide) rfl (fun ls hl => ?_)
  refine lv_iload_n X.1 X.2.1 dX1_tricksOf_29 rfl (lv_at hl 2 rfl) ?_
  refine lv_iconst (v := 4) X.1 X.2.1 dX1_tricksOf_30 (by decide) ?_
  refine lv_icmp_eq (tgt := 60) X.1 X.2.1 dX1_tricksOf_31 (by decide) (fun c_31 => ?_) (fun c_31 => absurd (by decide) c_31)
  refine lv_iinc (v := 4) (lv' := [(4, .int 4), (3, .int (nI ((((0 + (wnN (su a 0) (su b 0))) + (wnN (su a 1) (su b 1))) + (wnN (su a 2) (su b 2))) + (wnN (su a 3) (su b 3))))), (0, .int 4), (1, .int (nI a)), (2, .int (nI b))]) X.1 X.2.1 dX1_tricksOf_60 hl (k := 1) rfl (by decide) (by decide) rfl (fun ls hl => ?_)
  refine lv_goto (tgt := 5) X.1 X.2.1 dX1_tricksOf_63 (by decide) ?_
  refine lv_iload X.1 X.2.1 dX1_tricksOf_5 (lv_at hl 0 rfl) ?_
  refine lv_iconst (v := 4) X.1 X.2.1 dX1_tricksOf_7 (by decide) ?_
  refine lv_icmp_ge (tgt := 66) X.1 X.2.1 dX1_tricksOf_8 (by decide) (fun c_8 => ?_) (fun c_8 => absurd (by decide) c_8)
  refine lv_iload_n X.1 X.2.1 dX1_tricksOf_66 rfl (lv_at hl 1 rfl) ?_
  refine lv_iconst (v := 5) X.1 X.2.1 dX1_tricksOf_67 (by decide) ?_
  refine va_mmin X.1 X.2.1 (by rw [X.2.2.1]; exact hl.1.symm) X.2.2.2.1 (tb_all X.2.2.2.2.1 _ tw_325) (tb_all X.2.2.2.2.1 _ tw_326) (tb_all X.2.2.2.2.1 _ tw_29) (tb_all X.2.2.2.2.1 _ tw_math_min) (Nat.le_of_ble_eq_true rfl) (Nat.le_of_ble_eq_true rfl) (Nat.le_of_ble_eq_true rfl) (Nat.le_of_ble_eq_true rfl) dX1_tricksOf_68 ?_
  refine r_eqi (n_min ((((0 + (wnN (su a 0) (su b 0))) + (wnN (su a 1) (su b 1))) + (wnN (su a 2) (su b 2))) + (wnN (su a 3) (su b 3))) 5 (by omega) (by omega)) ?_
  exact ro_i X hr hlk (by show nI _ = nI _; refine congrArg nI ?_; unfold trN trS; rw [if_neg (show ¬ ((4 : Nat) ≠ 4 ∧ (0 : Nat) ≠ 4) by decide)]; rw [if_neg (show ¬ ((4 : Nat) ≠ 4 ∧ (1 : Nat) ≠ 4) by decide)]; rw [if_neg (show ¬ ((4 : Nat) ≠ 4 ∧ (2 : Nat) ≠ 4) by decide)]; rw [if_neg (show ¬ ((4 : Nat) ≠ 4 ∧ (3 : Nat) ≠ 4) by decide)]; refine congrArg (fun z => min z 5) ?_; omega) dX1_tricksOf_71

theorem c_X1_tricksOf (l : Launch) (G : HG) (hp : HP) (t a b : Nat) (ht : t < 5) (ha : a ≤ 1048575) (hb : b ≤ 1048575) : Met l yX1_tricksOf [.code yX1_tricksOf cX1_tricksOf 5 (some .int)] { frames := 2, cells := 0, slots := 0, locals := 45 } (va_Pc [.int (nI t), .int (nI a), .int (nI b)] (RP G hp)) (vp_Si (fun r => r = nI (trN t a b))) 0 0 (fun _ => False) := by
  match t, ht with
  | 0, _ => exact c_X1_tricksOf_0 l G hp a b ha hb
  | 1, _ => exact c_X1_tricksOf_1 l G hp a b ha hb
  | 2, _ => exact c_X1_tricksOf_2 l G hp a b ha hb
  | 3, _ => exact c_X1_tricksOf_3 l G hp a b ha hb
  | 4, _ => exact c_X1_tricksOf_4 l G hp a b ha hb
