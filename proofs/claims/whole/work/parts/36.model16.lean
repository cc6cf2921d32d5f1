/-- a number up to m, its first digit up to h: a second digit is taken; the place behind, the value -/
def nmB (tx : Nat → Nat) (w : Bool) (m h sp : Nat) : Bool := !(tkW tx w 48 h sp) && decide (0 < tkV tx w 48 h sp ∧ 48 ≤ tx (tkS tx w 48 h sp) ∧ tx (tkS tx w 48 h sp) ≤ 57 ∧ 10 * tkV tx w 48 h sp + tx (tkS tx w 48 h sp) - 48 ≤ m)
def nmS (tx : Nat → Nat) (w : Bool) (m h sp : Nat) : Nat := if nmB tx w m h sp = true then tkS tx w 48 h sp + 1 else tkS tx w 48 h sp
def nmV (tx : Nat → Nat) (w : Bool) (m h sp : Nat) : Nat := if nmB tx w m h sp = true then 10 * tkV tx w 48 h sp + tx (tkS tx w 48 h sp) - 48 else tkV tx w 48 h sp
theorem nm_t {tx : Nat → Nat} {w : Bool} {m h sp : Nat} (q : nmB tx w m h sp = true) : nmS tx w m h sp = tkS tx w 48 h sp + 1 ∧ nmV tx w m h sp = 10 * tkV tx w 48 h sp + tx (tkS tx w 48 h sp) - 48 := ⟨if_pos q, if_pos q⟩
theorem nm_f {tx : Nat → Nat} {w : Bool} {m h sp : Nat} (q : nmB tx w m h sp = false) : nmS tx w m h sp = tkS tx w 48 h sp ∧ nmV tx w m h sp = tkV tx w 48 h sp := ⟨if_neg (fun e => Bool.false_ne_true (q.symm.trans e)), if_neg (fun e => Bool.false_ne_true (q.symm.trans e))⟩
theorem nmS_le (tx : Nat → Nat) (w : Bool) (m h sp : Nat) : nmS tx w m h sp ≤ sp + 2 := by
  have := tkS_le tx w 48 h sp
  unfold nmS
  split <;> omega
theorem tkV_le {tx : Nat → Nat} {w : Bool} {lo hi sp : Nat} : tkV tx w lo hi sp ≤ hi - lo := by
  unfold tkV
  by_cases h : tkW tx w lo hi sp = true
  · rw [if_pos h]; omega
  · rw [if_neg h]
    have := tkW_w (Bool.eq_false_iff.mpr h)
    omega
theorem nmV_le {tx : Nat → Nat} {w : Bool} {m h sp : Nat} (hh : h - 48 ≤ m) : nmV tx w m h sp ≤ m := by
  unfold nmV
  by_cases q : nmB tx w m h sp = true
  · rw [if_pos q]
    unfold nmB at q
    rw [Bool.and_eq_true] at q
    have := of_decide_eq_true q.2
    omega
  · rw [if_neg q]
    exact Nat.le_trans tkV_le hh
set_option maxHeartbeats 4000000 in
set_option maxRecDepth 100000 in
theorem c_X7_takeNumber_5 (l : Launch) (G : HG) (A : Nat → Prop) (hp : HP) (sz : Nat) (hA : ∀ q, sz ≤ q → A q) (hO : Ow A hp) (M : Nat → Nat) (sc : Nat → Int32) (ar : Nat → Nat → Int32) (sm : Nat → Int64) (hM : MR G hp M sc ar sm) (pn : Nat) (pt : Nat → Nat) (hP : MP pn pt sc ar) (sp : Nat) (hs5 : sc 5 = nI sp) (hsp : sp < 2 ^ 20) (w : Bool) (hs6 : sc 6 = bI w) : Met l yX7_takeNumber [.code yX7_takeNumber cX7_takeNumber 3 (some .int)] { frames := 2, cells := 0, slots := 0, locals := 45 } (va_Pc [.ref (M 0), .int 5] (WP G A sz hp)) (va_Qi (fun r hp1 => r = nI (nmV (txN pn pt) w 5 53 sp) ∧ MR G hp1 M (va_up (va_up sc 6 (bI (tkW (txN pn pt) w 48 53 sp))) 5 (nI (nmS (txN pn pt) w 5 53 sp))) ar sm) (WB G A) A) 0 0 A := by
  refine wr_ofW (by decide) (Nat.le_of_ble_eq_true rfl) hO ?_
  intro p e s m args below meth c ls X hr hlk hnm hsz hW hl
  have hA : ∀ q, s.heap.size ≤ q → A q := fun q h => hA q (by omega)
  have hl : lv_has ls 3 [(0, .ref (M 0)), (1, .int 5)] := hl
  have hpn := hP.2.1
  have hv1 := @tkV_le (txN pn pt) w 48 53 sp
  refine lv_aload_n X.1 X.2.1 dX7_takeNumber_0 rfl (lv_at hl 0 rfl) ?_
  refine lv_bipush (v := 48) X.1 X.2.1 dX7_takeNumber_1 (by decide) ?_
  refine lv_bipush (v := 48) X.1 X.2.1 dX7_takeNumber_3 (by decide) ?_
  refine lv_iload_n X.1 X.2.1 dX7_takeNumber_5 rfl (lv_at hl 1 rfl) ?_
  refine lv_bipush (v := 9) X.1 X.2.1 dX7_takeNumber_6 (by decide) ?_
  refine lv_icmp_ge (tgt := 15) X.1 X.2.1 dX7_takeNumber_8 (by decide) (fun c_8 => absurd c_8 (by decide)) (fun c_8 => ?_)
  refine lv_iload_n X.1 X.2.1 dX7_takeNumber_11 rfl (lv_at hl 1 rfl) ?_
  refine lv_goto (tgt := 17) X.1 X.2.1 dX7_takeNumber_12 (by decide) ?_
  refine lv_iadd X.1 X.2.1 dX7_takeNumber_17 ?_
  refine r_eqi (show (((48 : Int32) + 5) : Int32) = 53 from (by decide)) ?_
  refine on_Wi (k' := 0) (n' := 0) (run_V (C := RX7) (As := [.int 48, .int 53]) (rest := []) X (c_X7_takeOne l G A hp _ (fun q h => hA q (Nat.le_trans hW.2.2.1 h)) hW.2.1 M sc ar sm hM pn pt hP sp (by first | rfl | exact hs5) (by omega) w (by first | rfl | exact hs6) 48 53 (by omega) (by omega)) (wp_blind _) (wp_at X hW.1 hW.2.2) (recv X hW.1 hM.1 (C := RX7) (T := TX7) (N := 19) rfl) mf_X7_takeOne tw_1116 tw_1118 tw_49 ⟨rfl, rfl, Nat.le_of_ble_eq_true rfl, Nat.le_of_ble_eq_true rfl⟩ hl.1 rfl rfl (Nat.le_of_ble_eq_true rfl) ⟨Nat.le_of_ble_eq_true rfl, Nat.le_of_ble_eq_true rfl⟩ dX7_takeNumber_18) hW (by omega) (by omega) (fun r_18 hp_1 H locs q_18 hW => ?_)
  obtain ⟨rfl, hM⟩ := q_18
  have := tkS_le (txN pn pt) w 48 53 sp
  refine lv_istore_n (lv' := [(2, .int (nI (tkV (txN pn pt) w 48 53 sp))), (0, .ref (M 0)), (1, .int 5)]) X.1 X.2.1 dX7_takeNumber_21 rfl hl (by decide) rfl (fun ls hl => ?_)
  refine lv_aload_n X.1 X.2.1 dX7_takeNumber_22 rfl (lv_at hl 1 rfl) ?_
  refine r_get X hW.1 hM.1 (v := .int (bI (tkW (txN pn pt) w 48 53 sp))) (C := RX7) (T := TX7) (N := 19) rfl tin_X7 18 (by decide) tw_861 (fun _ h => h) rfl dX7_takeNumber_23 ?_
  refine lv_if_ne (tgt := 89) X.1 X.2.1 dX7_takeNumber_26 (by decide) (fun c_26 => ?_) (fun c_26 => ?_)
  · refine lv_iload_n X.1 X.2.1 dX7_takeNumber_89 rfl (lv_at hl 0 rfl) ?_
    have hb : nmB (txN pn pt) w 5 53 sp = false := by unfold nmB; rw [bI_1 c_26]; rfl
    exact wr_i X hr hlk hW ⟨congrArg nI (nm_f hb).2.symm, by rw [(nm_f hb).1]; exact hM⟩ (Nat.le_of_ble_eq_true rfl) (Nat.le_of_ble_eq_true rfl) dX7_takeNumber_90
  · have h26 := c_26
    refine lv_iload_n X.1 X.2.1 dX7_takeNumber_29 rfl (lv_at hl 0 rfl) ?_
    refine lv_if_le (tgt := 89) X.1 X.2.1 dX7_takeNumber_30 (by decide) (fun c_30 => ?_) (fun c_30 => ?_)
    · have k_30 := k_le (a := (tkV (txN pn pt) w 48 53 sp)) (b := 0) (by omega) (by omega) c_30
      refine lv_iload_n X.1 X.2.1 dX7_takeNumber_89 rfl (lv_at hl 0 rfl) ?_
      have hb : nmB (txN pn pt) w 5 53 sp = false := by unfold nmB; rw [decide_eq_false (by omega), Bool.and_false]
      exact wr_i X hr hlk hW ⟨congrArg nI (nm_f hb).2.symm, by rw [(nm_f hb).1]; exact hM⟩ (Nat.le_of_ble_eq_true rfl) (Nat.le_of_ble_eq_true rfl) dX7_takeNumber_90
    · have k_30 := k_nle (a := (tkV (txN pn pt) w 48 53 sp)) (b := 0) (by omega) (by omega) c_30
      refine lv_aload_n X.1 X.2.1 dX7_takeNumber_33 rfl (lv_at hl 1 rfl) ?_
      refine on_Si (run_V (C := RX7) (As := []) (rest := []) X (c_X7_next l G hp_1 M (va_up (va_up sc 6 (bI (tkW (txN pn pt) w 48 53 sp))) 5 (nI (tkS (txN pn pt) w 48 53 sp))) ar sm hM pn pt hP (tkS (txN pn pt) w 48 53 sp) (by first | rfl | exact hs5) (by omega)) (rp_blind _) (rp_at X hW.1 hW.2.2) (recv X hW.1 hM.1 (C := RX7) (T := TX7) (N := 19) rfl) mf_X7_next tw_1120 tw_1122 tw_50 ⟨rfl, rfl, Nat.le_of_ble_eq_true rfl, Nat.le_of_ble_eq_true rfl⟩ hl.1 rfl rfl (Nat.le_of_ble_eq_true rfl) ⟨Nat.le_of_ble_eq_true rfl, Nat.le_of_ble_eq_true rfl⟩ dX7_takeNumber_34) (fun r_34 q_34 => ?_)
      obtain rfl : r_34 = nI (txN pn pt (tkS (txN pn pt) w 48 53 sp)) := q_34
      have htx_34 := tx_le hP (tkS (txN pn pt) w 48 53 sp)
      refine lv_bipush (v := 48) X.1 X.2.1 dX7_takeNumber_37 (by decide) ?_
      refine lv_bipush (v := 57) X.1 X.2.1 dX7_takeNumber_39 (by decide) ?_
      refine on_Si (run_S (As := [.int (nI (txN pn pt (tkS (txN pn pt) w 48 53 sp))), .int 48, .int 57]) (rest := []) X (c_X7_in l G hp_1 (nI (txN pn pt (tkS (txN pn pt) w 48 53 sp))) 48 57) (rp_blind _) (rp_at X hW.1 hW.2.2) mf_X7_in tw_907 tw_908 ⟨rfl, rfl, Nat.le_of_ble_eq_true rfl, Nat.le_of_ble_eq_true rfl⟩ hl.1 rfl rfl (Nat.le_of_ble_eq_true rfl) ⟨Nat.le_of_ble_eq_true rfl, Nat.le_of_ble_eq_true rfl⟩ dX7_takeNumber_41) (fun r_41 q_41 => ?_)
      obtain rfl : r_41 = (inI (nI (txN pn pt (tkS (txN pn pt) w 48 53 sp))) 48 57) := q_41
      refine r_eqi (inI_n (x := (txN pn pt (tkS (txN pn pt) w 48 53 sp))) (a := 48) (b := 57) (by omega) (by omega) (by omega)) ?_
      refine lv_if_eq (tgt := 89) X.1 X.2.1 dX7_takeNumber_44 (by decide) (fun c_44 => ?_) (fun c_44 => ?_)
      · have q44 : ¬ (48 ≤ txN pn pt (tkS (txN pn pt) w 48 53 sp) ∧ txN pn pt (tkS (txN pn pt) w 48 53 sp) ≤ 57) := of_decide_eq_false (bI_0 c_44)
        refine lv_iload_n X.1 X.2.1 dX7_takeNumber_89 rfl (lv_at hl 0 rfl) ?_
        have hb : nmB (txN pn pt) w 5 53 sp = false := by unfold nmB; rw [decide_eq_false (by omega), Bool.and_false]
        exact wr_i X hr hlk hW ⟨congrArg nI (nm_f hb).2.symm, by rw [(nm_f hb).1]; exact hM⟩ (Nat.le_of_ble_eq_true rfl) (Nat.le_of_ble_eq_true rfl) dX7_takeNumber_90
      · have q44 : 48 ≤ txN pn pt (tkS (txN pn pt) w 48 53 sp) ∧ txN pn pt (tkS (txN pn pt) w 48 53 sp) ≤ 57 := of_decide_eq_true (bI_1 c_44)
        refine lv_bipush (v := 10) X.1 X.2.1 dX7_takeNumber_47 (by decide) ?_
        refine lv_iload_n X.1 X.2.1 dX7_takeNumber_49 rfl (lv_at hl 0 rfl) ?_
        refine lv_imul X.1 X.2.1 dX7_takeNumber_50 ?_
        refine r_eqi (show (((10 : Int32) * (nI (tkV (txN pn pt) w 48 53 sp))) : Int32) = nI (10 * (tkV (txN pn pt) w 48 53 sp)) from pk_mul 10 (tkV (txN pn pt) w 48 53 sp)) ?_
        refine lv_aload_n X.1 X.2.1 dX7_takeNumber_51 rfl (lv_at hl 1 rfl) ?_
        refine on_Si (run_V (C := RX7) (As := []) (rest := [.int (nI (10 * (tkV (txN pn pt) w 48 53 sp)))]) X (c_X7_next l G hp_1 M (va_up (va_up sc 6 (bI (tkW (txN pn pt) w 48 53 sp))) 5 (nI (tkS (txN pn pt) w 48 53 sp))) ar sm hM pn pt hP (tkS (txN pn pt) w 48 53 sp) (by first | rfl | exact hs5) (by omega)) (rp_blind _) (rp_at X hW.1 hW.2.2) (recv X hW.1 hM.1 (C := RX7) (T := TX7) (N := 19) rfl) mf_X7_next tw_1120 tw_1122 tw_50 ⟨rfl, rfl, Nat.le_of_ble_eq_true rfl, Nat.le_of_ble_eq_true rfl⟩ hl.1 rfl rfl (Nat.le_of_ble_eq_true rfl) ⟨Nat.le_of_ble_eq_true rfl, Nat.le_of_ble_eq_true rfl⟩ dX7_takeNumber_52) (fun r_52 q_52 => ?_)
        obtain rfl : r_52 = nI (txN pn pt (tkS (txN pn pt) w 48 53 sp)) := q_52
        have htx_52 := tx_le hP (tkS (txN pn pt) w 48 53 sp)
        refine lv_iadd X.1 X.2.1 dX7_takeNumber_55 ?_
        refine r_eqi (show (((nI (10 * (tkV (txN pn pt) w 48 53 sp))) + (nI (txN pn pt (tkS (txN pn pt) w 48 53 sp)))) : Int32) = nI ((10 * (tkV (txN pn pt) w 48 53 sp)) + (txN pn pt (tkS (txN pn pt) w 48 53 sp))) from nI_add (10 * (tkV (txN pn pt) w 48 53 sp)) (txN pn pt (tkS (txN pn pt) w 48 53 sp))) ?_
        refine lv_bipush (v := 48) X.1 X.2.1 dX7_takeNumber_56 (by decide) ?_
        refine lv_isub X.1 X.2.1 dX7_takeNumber_58 ?_
        refine r_eqi (show (((nI ((10 * (tkV (txN pn pt) w 48 53 sp)) + (txN pn pt (tkS (txN pn pt) w 48 53 sp)))) - 48) : Int32) = nI (((10 * (tkV (txN pn pt) w 48 53 sp)) + (txN pn pt (tkS (txN pn pt) w 48 53 sp))) - 48) from pk_sub (a := ((10 * (tkV (txN pn pt) w 48 53 sp)) + (txN pn pt (tkS (txN pn pt) w 48 53 sp)))) (b := 48) (by omega)) ?_
        refine lv_iload_n X.1 X.2.1 dX7_takeNumber_59 rfl (lv_at hl 2 rfl) ?_
        refine lv_icmp_gt (tgt := 89) X.1 X.2.1 dX7_takeNumber_60 (by decide) (fun c_60 => ?_) (fun c_60 => ?_)
        · have k_60 := k_lt (a := 5) (b := (((10 * (tkV (txN pn pt) w 48 53 sp)) + (txN pn pt (tkS (txN pn pt) w 48 53 sp))) - 48)) (by omega) (by omega) c_60
          refine lv_iload_n X.1 X.2.1 dX7_takeNumber_89 rfl (lv_at hl 0 rfl) ?_
          have hb : nmB (txN pn pt) w 5 53 sp = false := by unfold nmB; rw [decide_eq_false (by omega), Bool.and_false]
          exact wr_i X hr hlk hW ⟨congrArg nI (nm_f hb).2.symm, by rw [(nm_f hb).1]; exact hM⟩ (Nat.le_of_ble_eq_true rfl) (Nat.le_of_ble_eq_true rfl) dX7_takeNumber_90
        · have k_60 := k_nlt (a := 5) (b := (((10 * (tkV (txN pn pt) w 48 53 sp)) + (txN pn pt (tkS (txN pn pt) w 48 53 sp))) - 48)) (by omega) (by omega) c_60
          refine lv_bipush (v := 10) X.1 X.2.1 dX7_takeNumber_63 (by decide) ?_
          refine lv_iload_n X.1 X.2.1 dX7_takeNumber_65 rfl (lv_at hl 0 rfl) ?_
          refine lv_imul X.1 X.2.1 dX7_takeNumber_66 ?_
          refine r_eqi (show (((10 : Int32) * (nI (tkV (txN pn pt) w 48 53 sp))) : Int32) = nI (10 * (tkV (txN pn pt) w 48 53 sp)) from pk_mul 10 (tkV (txN pn pt) w 48 53 sp)) ?_
          refine lv_aload_n X.1 X.2.1 dX7_takeNumber_67 rfl (lv_at hl 1 rfl) ?_
          refine on_Si (run_V (C := RX7) (As := []) (rest := [.int (nI (10 * (tkV (txN pn pt) w 48 53 sp)))]) X (c_X7_next l G hp_1 M (va_up (va_up sc 6 (bI (tkW (txN pn pt) w 48 53 sp))) 5 (nI (tkS (txN pn pt) w 48 53 sp))) ar sm hM pn pt hP (tkS (txN pn pt) w 48 53 sp) (by first | rfl | exact hs5) (by omega)) (rp_blind _) (rp_at X hW.1 hW.2.2) (recv X hW.1 hM.1 (C := RX7) (T := TX7) (N := 19) rfl) mf_X7_next tw_1120 tw_1122 tw_50 ⟨rfl, rfl, Nat.le_of_ble_eq_true rfl, Nat.le_of_ble_eq_true rfl⟩ hl.1 rfl rfl (Nat.le_of_ble_eq_true rfl) ⟨Nat.le_of_ble_eq_true rfl, Nat.le_of_ble_eq_true rfl⟩ dX7_takeNumber_68) (fun r_68 q_68 => ?_)
          obtain rfl : r_68 = nI (txN pn pt (tkS (txN pn pt) w 48 53 sp)) := q_68
          have htx_68 := tx_le hP (tkS (txN pn pt) w 48 53 sp)
          refine lv_iadd X.1 X.2.1 dX7_takeNumber_71 ?_
          refine r_eqi (show (((nI (10 * (tkV (txN pn pt) w 48 53 sp))) + (nI (txN pn pt (tkS (txN pn pt) w 48 53 sp)))) : Int32) = nI ((10 * (tkV (txN pn pt) w 48 53 sp)) + (txN pn pt (tkS (txN pn pt) w 48 53 sp))) from nI_add (10 * (tkV (txN pn pt) w 48 53 sp)) (txN pn pt (tkS (txN pn pt) w 48 53 sp))) ?_
          refine lv_bipush (v := 48) X.1 X.2.1 dX7_takeNumber_72 (by decide) ?_
          refine lv_isub X.1 X.2.1 dX7_takeNumber_74 ?_
          refine r_eqi (show (((nI ((10 * (tkV (txN pn pt) w 48 53 sp)) + (txN pn pt (tkS (txN pn pt) w 48 53 sp)))) - 48) : Int32) = nI (((10 * (tkV (txN pn pt) w 48 53 sp)) + (txN pn pt (tkS (txN pn pt) w 48 53 sp))) - 48) from pk_sub (a := ((10 * (tkV (txN pn pt) w 48 53 sp)) + (txN pn pt (tkS (txN pn pt) w 48 53 sp)))) (b := 48) (by omega)) ?_
          refine lv_istore_n (lv' := [(2, .int (nI (((10 * (tkV (txN pn pt) w 48 53 sp)) + (txN pn pt (tkS (txN pn pt) w 48 53 sp))) - 48))), (0, .ref (M 0)), (1, .int 5)]) X.1 X.2.1 dX7_takeNumber_75 rfl hl (by decide) rfl (fun ls hl => ?_)
          refine lv_aload_n X.1 X.2.1 dX7_takeNumber_76 rfl (lv_at hl 1 rfl) ?_
          refine lv_dup X.1 X.2.1 dX7_takeNumber_77 rfl ?_
          refine r_get X hW.1 hM.1 (v := .int (nI (tkS (txN pn pt) w 48 53 sp))) (C := RX7) (T := TX7) (N := 19) rfl tin_X7 17 (by decide) tw_860 (fun _ h => h) rfl dX7_takeNumber_78 ?_
          refine lv_iconst (v := 1) X.1 X.2.1 dX7_takeNumber_81 (by decide) ?_
          refine lv_iadd X.1 X.2.1 dX7_takeNumber_82 ?_
          refine r_eqi (show (((nI (tkS (txN pn pt) w 48 53 sp)) + 1) : Int32) = nI ((tkS (txN pn pt) w 48 53 sp) + 1) from nI_add (tkS (txN pn pt) w 48 53 sp) 1) ?_
          refine r_put X hW hM.1 (v := .int (nI ((tkS (txN pn pt) w 48 53 sp) + 1))) (C := RX7) (T := TX7) (N := 19) rfl tin_X7 tyX7_ok nmX7 17 (Nat.le_of_ble_eq_true rfl) tw_860 (fun _ h => h) rfl rfl rfl (Nat.le_of_ble_eq_true rfl) dX7_takeNumber_83 (fun hp_2 H locs hW eh_3 => ?_)
          have hM := mr_sc5 hM eh_3
          refine lv_goto (tgt := 22) X.1 X.2.1 dX7_takeNumber_86 (by decide) ?_
          refine lv_aload_n X.1 X.2.1 dX7_takeNumber_22 rfl (lv_at hl 1 rfl) ?_
          refine r_get X hW.1 hM.1 (v := .int (bI (tkW (txN pn pt) w 48 53 sp))) (C := RX7) (T := TX7) (N := 19) rfl tin_X7 18 (by decide) tw_861 (fun _ h => h) rfl dX7_takeNumber_23 ?_
          refine lv_if_ne (tgt := 89) X.1 X.2.1 dX7_takeNumber_26 (by decide) (fun c_26 => absurd h26 c_26) (fun c_26 => ?_)
          refine lv_iload_n X.1 X.2.1 dX7_takeNumber_29 rfl (lv_at hl 0 rfl) ?_
          refine lv_if_le (tgt := 89) X.1 X.2.1 dX7_takeNumber_30 (by decide) (fun c_30 => absurd c_30 (nI_ge (a := 0) (b := (((10 * (tkV (txN pn pt) w 48 53 sp)) + (txN pn pt (tkS (txN pn pt) w 48 53 sp))) - 48)) (by omega) (by omega))) (fun c_30 => ?_)
          refine lv_aload_n X.1 X.2.1 dX7_takeNumber_33 rfl (lv_at hl 1 rfl) ?_
          refine on_Si (run_V (C := RX7) (As := []) (rest := []) X (c_X7_next l G hp_2 M (va_up (va_up (va_up sc 6 (bI (tkW (txN pn pt) w 48 53 sp))) 5 (nI (tkS (txN pn pt) w 48 53 sp))) 5 (nI ((tkS (txN pn pt) w 48 53 sp) + 1))) ar sm hM pn pt hP ((tkS (txN pn pt) w 48 53 sp) + 1) (by first | rfl | exact hs5) (by omega)) (rp_blind _) (rp_at X hW.1 hW.2.2) (recv X hW.1 hM.1 (C := RX7) (T := TX7) (N := 19) rfl) mf_X7_next tw_1120 tw_1122 tw_50 ⟨rfl, rfl, Nat.le_of_ble_eq_true rfl, Nat.le_of_ble_eq_true rfl⟩ hl.1 rfl rfl (Nat.le_of_ble_eq_true rfl) ⟨Nat.le_of_ble_eq_true rfl, Nat.le_of_ble_eq_true rfl⟩ dX7_takeNumber_34) (fun r_34x q_34x => ?_)
          obtain rfl : r_34x = nI (txN pn pt ((tkS (txN pn pt) w 48 53 sp) + 1)) := q_34x
          have htx_34 := tx_le hP ((tkS (txN pn pt) w 48 53 sp) + 1)
          refine lv_bipush (v := 48) X.1 X.2.1 dX7_takeNumber_37 (by decide) ?_
          refine lv_bipush (v := 57) X.1 X.2.1 dX7_takeNumber_39 (by decide) ?_
          refine on_Si (run_S (As := [.int (nI (txN pn pt ((tkS (txN pn pt) w 48 53 sp) + 1))), .int 48, .int 57]) (rest := []) X (c_X7_in l G hp_2 (nI (txN pn pt ((tkS (txN pn pt) w 48 53 sp) + 1))) 48 57) (rp_blind _) (rp_at X hW.1 hW.2.2) mf_X7_in tw_907 tw_908 ⟨rfl, rfl, Nat.le_of_ble_eq_true rfl, Nat.le_of_ble_eq_true rfl⟩ hl.1 rfl rfl (Nat.le_of_ble_eq_true rfl) ⟨Nat.le_of_ble_eq_true rfl, Nat.le_of_ble_eq_true rfl⟩ dX7_takeNumber_41) (fun r_41x q_41x => ?_)
          obtain rfl : r_41x = (inI (nI (txN pn pt ((tkS (txN pn pt) w 48 53 sp) + 1))) 48 57) := q_41x
          refine r_eqi (inI_n (x := (txN pn pt ((tkS (txN pn pt) w 48 53 sp) + 1))) (a := 48) (b := 57) (by omega) (by omega) (by omega)) ?_
          refine lv_if_eq (tgt := 89) X.1 X.2.1 dX7_takeNumber_44 (by decide) (fun c_44 => ?_) (fun c_44 => ?_)
          · have q44b : ¬ (48 ≤ txN pn pt ((tkS (txN pn pt) w 48 53 sp) + 1) ∧ txN pn pt ((tkS (txN pn pt) w 48 53 sp) + 1) ≤ 57) := of_decide_eq_false (bI_0 c_44)
            refine lv_iload_n X.1 X.2.1 dX7_takeNumber_89 rfl (lv_at hl 0 rfl) ?_
            have hb : nmB (txN pn pt) w 5 53 sp = true := by unfold nmB; rw [bI_0 h26, decide_eq_true (by omega)]; rfl
            exact wr_i X hr hlk hW ⟨congrArg nI (nm_t hb).2.symm, by rw [(nm_t hb).1]; rw [va_uu] at hM; exact hM⟩ (Nat.le_of_ble_eq_true rfl) (Nat.le_of_ble_eq_true rfl) dX7_takeNumber_90
          · have q44b : 48 ≤ txN pn pt ((tkS (txN pn pt) w 48 53 sp) + 1) ∧ txN pn pt ((tkS (txN pn pt) w 48 53 sp) + 1) ≤ 57 := of_decide_eq_true (bI_1 c_44)
            refine lv_bipush (v := 10) X.1 X.2.1 dX7_takeNumber_47 (by decide) ?_
            refine lv_iload_n X.1 X.2.1 dX7_takeNumber_49 rfl (lv_at hl 0 rfl) ?_
            refine lv_imul X.1 X.2.1 dX7_takeNumber_50 ?_
            refine r_eqi (show (((10 : Int32) * (nI (((10 * (tkV (txN pn pt) w 48 53 sp)) + (txN pn pt (tkS (txN pn pt) w 48 53 sp))) - 48))) : Int32) = nI (10 * (((10 * (tkV (txN pn pt) w 48 53 sp)) + (txN pn pt (tkS (txN pn pt) w 48 53 sp))) - 48)) from pk_mul 10 (((10 * (tkV (txN pn pt) w 48 53 sp)) + (txN pn pt (tkS (txN pn pt) w 48 53 sp))) - 48)) ?_
            refine lv_aload_n X.1 X.2.1 dX7_takeNumber_51 rfl (lv_at hl 1 rfl) ?_
            refine on_Si (run_V (C := RX7) (As := []) (rest := [.int (nI (10 * (((10 * (tkV (txN pn pt) w 48 53 sp)) + (txN pn pt (tkS (txN pn pt) w 48 53 sp))) - 48)))]) X (c_X7_next l G hp_2 M (va_up (va_up (va_up sc 6 (bI (tkW (txN pn pt) w 48 53 sp))) 5 (nI (tkS (txN pn pt) w 48 53 sp))) 5 (nI ((tkS (txN pn pt) w 48 53 sp) + 1))) ar sm hM pn pt hP ((tkS (txN pn pt) w 48 53 sp) + 1) (by first | rfl | exact hs5) (by omega)) (rp_blind _) (rp_at X hW.1 hW.2.2) (recv X hW.1 hM.1 (C := RX7) (T := TX7) (N := 19) rfl) mf_X7_next tw_1120 tw_1122 tw_50 ⟨rfl, rfl, Nat.le_of_ble_eq_true rfl, Nat.le_of_ble_eq_true rfl⟩ hl.1 rfl rfl (Nat.le_of_ble_eq_true rfl) ⟨Nat.le_of_ble_eq_true rfl, Nat.le_of_ble_eq_true rfl⟩ dX7_takeNumber_52) (fun r_52x q_52x => ?_)
            obtain rfl : r_52x = nI (txN pn pt ((tkS (txN pn pt) w 48 53 sp) + 1)) := q_52x
            have htx_52 := tx_le hP ((tkS (txN pn pt) w 48 53 sp) + 1)
            refine lv_iadd X.1 X.2.1 dX7_takeNumber_55 ?_
            refine r_eqi (show (((nI (10 * (((10 * (tkV (txN pn pt) w 48 53 sp)) + (txN pn pt (tkS (txN pn pt) w 48 53 sp))) - 48))) + (nI (txN pn pt ((tkS (txN pn pt) w 48 53 sp) + 1)))) : Int32) = nI ((10 * (((10 * (tkV (txN pn pt) w 48 53 sp)) + (txN pn pt (tkS (txN pn pt) w 48 53 sp))) - 48)) + (txN pn pt ((tkS (txN pn pt) w 48 53 sp) + 1))) from nI_add (10 * (((10 * (tkV (txN pn pt) w 48 53 sp)) + (txN pn pt (tkS (txN pn pt) w 48 53 sp))) - 48)) (txN pn pt ((tkS (txN pn pt) w 48 53 sp) + 1))) ?_
            refine lv_bipush (v := 48) X.1 X.2.1 dX7_takeNumber_56 (by decide) ?_
            refine lv_isub X.1 X.2.1 dX7_takeNumber_58 ?_
            refine r_eqi (show (((nI ((10 * (((10 * (tkV (txN pn pt) w 48 53 sp)) + (txN pn pt (tkS (txN pn pt) w 48 53 sp))) - 48)) + (txN pn pt ((tkS (txN pn pt) w 48 53 sp) + 1)))) - 48) : Int32) = nI (((10 * (((10 * (tkV (txN pn pt) w 48 53 sp)) + (txN pn pt (tkS (txN pn pt) w 48 53 sp))) - 48)) + (txN pn pt ((tkS (txN pn pt) w 48 53 sp) + 1))) - 48) from pk_sub (a := ((10 * (((10 * (tkV (txN pn pt) w 48 53 sp)) + (txN pn pt (tkS (txN pn pt) w 48 53 sp))) - 48)) + (txN pn pt ((tkS (txN pn pt) w 48 53 sp) + 1)))) (b := 48) (by omega)) ?_
            refine lv_iload_n X.1 X.2.1 dX7_takeNumber_59 rfl (lv_at hl 2 rfl) ?_
            refine lv_icmp_gt (tgt := 89) X.1 X.2.1 dX7_takeNumber_60 (by decide) (fun c_60 => ?_) (fun c_60 => absurd (nI_lt (a := 5) (b := (((10 * (((10 * (tkV (txN pn pt) w 48 53 sp)) + (txN pn pt (tkS (txN pn pt) w 48 53 sp))) - 48)) + (txN pn pt ((tkS (txN pn pt) w 48 53 sp) + 1))) - 48)) (by omega) (by omega)) c_60)
            refine lv_iload_n X.1 X.2.1 dX7_takeNumber_89 rfl (lv_at hl 0 rfl) ?_
            have hb : nmB (txN pn pt) w 5 53 sp = true := by unfold nmB; rw [bI_0 h26, decide_eq_true (by omega)]; rfl
            exact wr_i X hr hlk hW ⟨congrArg nI (nm_t hb).2.symm, by rw [(nm_t hb).1]; rw [va_uu] at hM; exact hM⟩ (Nat.le_of_ble_eq_true rfl) (Nat.le_of_ble_eq_true rfl) dX7_takeNumber_90

set_option maxHeartbeats 4000000 in
set_option maxRecDepth 100000 in
theorem c_X7_takeNumber_20 (l : Launch) (G : HG) (A : Nat → Prop) (hp : HP) (sz : Nat) (hA : ∀ q, sz ≤ q → A q) (hO : Ow A hp) (M : Nat → Nat) (sc : Nat → Int32) (ar : Nat → Nat → Int32) (sm : Nat → Int64) (hM : MR G hp M sc ar sm) (pn : Nat) (pt : Nat → Nat) (hP : MP pn pt sc ar) (sp : Nat) (hs5 : sc 5 = nI sp) (hsp : sp < 2 ^ 20) (w : Bool) (hs6 : sc 6 = bI w) : Met l yX7_takeNumber [.code yX7_takeNumber cX7_takeNumber 3 (some .int)] { frames := 2, cells := 0, slots := 0, locals := 45 } (va_Pc [.ref (M 0), .int 20] (WP G A sz hp)) (va_Qi (fun r hp1 => r = nI (nmV (txN pn pt) w 20 57 sp) ∧ MR G hp1 M (va_up (va_up sc 6 (bI (tkW (txN pn pt) w 48 57 sp))) 5 (nI (nmS (txN pn pt) w 20 57 sp))) ar sm) (WB G A) A) 0 0 A := by
  refine wr_ofW (by decide) (Nat.le_of_ble_eq_true rfl) hO ?_
  intro p e s m args below meth c ls X hr hlk hnm hsz hW hl
  have hA : ∀ q, s.heap.size ≤ q → A q := fun q h => hA q (by omega)
  have hl : lv_has ls 3 [(0, .ref (M 0)), (1, .int 20)] := hl
  have hpn := hP.2.1
  have hv1 := @tkV_le (txN pn pt) w 48 57 sp
  refine lv_aload_n X.1 X.2.1 dX7_takeNumber_0 rfl (lv_at hl 0 rfl) ?_
  refine lv_bipush (v := 48) X.1 X.2.1 dX7_takeNumber_1 (by decide) ?_
  refine lv_bipush (v := 48) X.1 X.2.1 dX7_takeNumber_3 (by decide) ?_
  refine lv_iload_n X.1 X.2.1 dX7_takeNumber_5 rfl (lv_at hl 1 rfl) ?_
  refine lv_bipush (v := 9) X.1 X.2.1 dX7_takeNumber_6 (by decide) ?_
  refine lv_icmp_ge (tgt := 15) X.1 X.2.1 dX7_takeNumber_8 (by decide) (fun c_8 => ?_) (fun c_8 => absurd (by decide) c_8)
  refine lv_bipush (v := 9) X.1 X.2.1 dX7_takeNumber_15 (by decide) ?_
  refine lv_iadd X.1 X.2.1 dX7_takeNumber_17 ?_
  refine r_eqi (show (((48 : Int32) + 9) : Int32) = 57 from (by decide)) ?_
  refine on_Wi (k' := 0) (n' := 0) (run_V (C := RX7) (As := [.int 48, .int 57]) (rest := []) X (c_X7_takeOne l G A hp _ (fun q h => hA q (Nat.le_trans hW.2.2.1 h)) hW.2.1 M sc ar sm hM pn pt hP sp (by first | rfl | exact hs5) (by omega) w (by first | rfl | exact hs6) 48 57 (by omega) (by omega)) (wp_blind _) (wp_at X hW.1 hW.2.2) (recv X hW.1 hM.1 (C := RX7) (T := TX7) (N := 19) rfl) mf_X7_takeOne tw_1116 tw_1118 tw_49 ⟨rfl, rfl, Nat.le_of_ble_eq_true rfl, Nat.le_of_ble_eq_true rfl⟩ hl.1 rfl rfl (Nat.le_of_ble_eq_true rfl) ⟨Nat.le_of_ble_eq_true rfl, Nat.le_of_ble_eq_true rfl⟩ dX7_takeNumber_18) hW (by omega) (by omega) (fun r_18 hp_1 H locs q_18 hW => ?_)
  obtain ⟨rfl, hM⟩ := q_18
  have := tkS_le (txN pn pt) w 48 57 sp
  refine lv_istore_n (lv' := [(2, .int (nI (tkV (txN pn pt) w 48 57 sp))), (0, .ref (M 0)), (1, .int 20)]) X.1 X.2.1 dX7_takeNumber_21 rfl hl (by decide) rfl (fun ls hl => ?_)
  refine lv_aload_n X.1 X.2.1 dX7_takeNumber_22 rfl (lv_at hl 1 rfl) ?_
  refine r_get X hW.1 hM.1 (v := .int (bI (tkW (txN pn pt) w 48 57 sp))) (C := RX7) (T := TX7) (N := 19) rfl tin_X7 18 (by decide) tw_861 (fun _ h => h) rfl dX7_takeNumber_23 ?_
  refine lv_if_ne (tgt := 89) X.1 X.2.1 dX7_takeNumber_26 (by decide) (fun c_26 => ?_) (fun c_26 => ?_)
  · refine lv_iload_n X.1 X.2.1 dX7_takeNumber_89 rfl (lv_at hl 0 rfl) ?_
    have hb : nmB (txN pn pt) w 20 57 sp = false := by unfold nmB; rw [bI_1 c_26]; rfl
    exact wr_i X hr hlk hW ⟨congrArg nI (nm_f hb).2.symm, by rw [(nm_f hb).1]; exact hM⟩ (Nat.le_of_ble_eq_true rfl) (Nat.le_of_ble_eq_true rfl) dX7_takeNumber_90
  · have h26 := c_26
    refine lv_iload_n X.1 X.2.1 dX7_takeNumber_29 rfl (lv_at hl 0 rfl) ?_
    refine lv_if_le (tgt := 89) X.1 X.2.1 dX7_takeNumber_30 (by decide) (fun c_30 => ?_) (fun c_30 => ?_)
    · have k_30 := k_le (a := (tkV (txN pn pt) w 48 57 sp)) (b := 0) (by omega) (by omega) c_30
      refine lv_iload_n X.1 X.2.1 dX7_takeNumber_89 rfl (lv_at hl 0 rfl) ?_
      have hb : nmB (txN pn pt) w 20 57 sp = false := by unfold nmB; rw [decide_eq_false (by omega), Bool.and_false]
      exact wr_i X hr hlk hW ⟨congrArg nI (nm_f hb).2.symm, by rw [(nm_f hb).1]; exact hM⟩ (Nat.le_of_ble_eq_true rfl) (Nat.le_of_ble_eq_true rfl) dX7_takeNumber_90
    · have k_30 := k_nle (a := (tkV (txN pn pt) w 48 57 sp)) (b := 0) (by omega) (by omega) c_30
      refine lv_aload_n X.1 X.2.1 dX7_takeNumber_33 rfl (lv_at hl 1 rfl) ?_
      refine on_Si (run_V (C := RX7) (As := []) (rest := []) X (c_X7_next l G hp_1 M (va_up (va_up sc 6 (bI (tkW (txN pn pt) w 48 57 sp))) 5 (nI (tkS (txN pn pt) w 48 57 sp))) ar sm hM pn pt hP (tkS (txN pn pt) w 48 57 sp) (by first | rfl | exact hs5) (by omega)) (rp_blind _) (rp_at X hW.1 hW.2.2) (recv X hW.1 hM.1 (C := RX7) (T := TX7) (N := 19) rfl) mf_X7_next tw_1120 tw_1122 tw_50 ⟨rfl, rfl, Nat.le_of_ble_eq_true rfl, Nat.le_of_ble_eq_true rfl⟩ hl.1 rfl rfl (Nat.le_of_ble_eq_true rfl) ⟨Nat.le_of_ble_eq_true rfl, Nat.le_of_ble_eq_true rfl⟩ dX7_takeNumber_34) (fun r_34 q_34 => ?_)
      obtain rfl : r_34 = nI (txN pn pt (tkS (txN pn pt) w 48 57 sp)) := q_34
      have htx_34 := tx_le hP (tkS (txN pn pt) w 48 57 sp)
      refine lv_bipush (v := 48) X.1 X.2.1 dX7_takeNumber_37 (by decide) ?_
      refine lv_bipush (v := 57) X.1 X.2.1 dX7_takeNumber_39 (by decide) ?_
      refine on_Si (run_S (As := [.int (nI (txN pn pt (tkS (txN pn pt) w 48 57 sp))), .int 48, .int 57]) (rest := []) X (c_X7_in l G hp_1 (nI (txN pn pt (tkS (txN pn pt) w 48 57 sp))) 48 57) (rp_blind _) (rp_at X hW.1 hW.2.2) mf_X7_in tw_907 tw_908 ⟨rfl, rfl, Nat.le_of_ble_eq_true rfl, Nat.le_of_ble_eq_true rfl⟩ hl.1 rfl rfl (Nat.le_of_ble_eq_true rfl) ⟨Nat.le_of_ble_eq_true rfl, Nat.le_of_ble_eq_true rfl⟩ dX7_takeNumber_41) (fun r_41 q_41 => ?_)
      obtain rfl : r_41 = (inI (nI (txN pn pt (tkS (txN pn pt) w 48 57 sp))) 48 57) := q_41
      refine r_eqi (inI_n (x := (txN pn pt (tkS (txN pn pt) w 48 57 sp))) (a := 48) (b := 57) (by omega) (by omega) (by omega)) ?_
      refine lv_if_eq (tgt := 89) X.1 X.2.1 dX7_takeNumber_44 (by decide) (fun c_44 => ?_) (fun c_44 => ?_)
      · have q44 : ¬ (48 ≤ txN pn pt (tkS (txN pn pt) w 48 57 sp) ∧ txN pn pt (tkS (txN pn pt) w 48 57 sp) ≤ 57) := of_decide_eq_false (bI_0 c_44)
        refine lv_iload_n X.1 X.2.1 dX7_takeNumber_89 rfl (lv_at hl 0 rfl) ?_
        have hb : nmB (txN pn pt) w 20 57 sp = false := by unfold nmB; rw [decide_eq_false (by omega), Bool.and_false]
        exact wr_i X hr hlk hW ⟨congrArg nI (nm_f hb).2.symm, by rw [(nm_f hb).1]; exact hM⟩ (Nat.le_of_ble_eq_true rfl) (Nat.le_of_ble_eq_true rfl) dX7_takeNumber_90
      · have q44 : 48 ≤ txN pn pt (tkS (txN pn pt) w 48 57 sp) ∧ txN pn pt (tkS (txN pn pt) w 48 57 sp) ≤ 57 := of_decide_eq_true (bI_1 c_44)
        refine lv_bipush (v := 10) X.1 X.2.1 dX7_takeNumber_47 (by decide) ?_
        refine lv_iload_n X.1 X.2.1 dX7_takeNumber_49 rfl (lv_at hl 0 rfl) ?_
        refine lv_imul X.1 X.2.1 dX7_takeNumber_50 ?_
        refine r_eqi (show (((10 : Int32) * (nI (tkV (txN pn pt) w 48 57 sp))) : Int32) = nI (10 * (tkV (txN pn pt) w 48 57 sp)) from pk_mul 10 (tkV (txN pn pt) w 48 57 sp)) ?_
        refine lv_aload_n X.1 X.2.1 dX7_takeNumber_51 rfl (lv_at hl 1 rfl) ?_
        refine on_Si (run_V (C := RX7) (As := []) (rest := [.int (nI (10 * (tkV (txN pn pt) w 48 57 sp)))]) X (c_X7_next l G hp_1 M (va_up (va_up sc 6 (bI (tkW (txN pn pt) w 48 57 sp))) 5 (nI (tkS (txN pn pt) w 48 57 sp))) ar sm hM pn pt hP (tkS (txN pn pt) w 48 57 sp) (by first | rfl | exact hs5) (by omega)) (rp_blind _) (rp_at X hW.1 hW.2.2) (recv X hW.1 hM.1 (C := RX7) (T := TX7) (N := 19) rfl) mf_X7_next tw_1120 tw_1122 tw_50 ⟨rfl, rfl, Nat.le_of_ble_eq_true rfl, Nat.le_of_ble_eq_true rfl⟩ hl.1 rfl rfl (Nat.le_of_ble_eq_true rfl) ⟨Nat.le_of_ble_eq_true rfl, Nat.le_of_ble_eq_true rfl⟩ dX7_takeNumber_52) (fun r_52 q_52 => ?_)
        obtain rfl : r_52 = nI (txN pn pt (tkS (txN pn pt) w 48 57 sp)) := q_52
        have htx_52 := tx_le hP (tkS (txN pn pt) w 48 57 sp)
        refine lv_iadd X.1 X.2.1 dX7_takeNumber_55 ?_
        refine r_eqi (show (((nI (10 * (tkV (txN pn pt) w 48 57 sp))) + (nI (txN pn pt (tkS (txN pn pt) w 48 57 sp)))) : Int32) = nI ((10 * (tkV (txN pn pt) w 48 57 sp)) + (txN pn pt (tkS (txN pn pt) w 48 57 sp))) from nI_add (10 * (tkV (txN pn pt) w 48 57 sp)) (txN pn pt (tkS (txN pn pt) w 48 57 sp))) ?_
        refine lv_bipush (v := 48) X.1 X.2.1 dX7_takeNumber_56 (by decide) ?_
        refine lv_isub X.1 X.2.1 dX7_takeNumber_58 ?_
        refine r_eqi (show (((nI ((10 * (tkV (txN pn pt) w 48 57 sp)) + (txN pn pt (tkS (txN pn pt) w 48 57 sp)))) - 48) : Int32) = nI (((10 * (tkV (txN pn pt) w 48 57 sp)) + (txN pn pt (tkS (txN pn pt) w 48 57 sp))) - 48) from pk_sub (a := ((10 * (tkV (txN pn pt) w 48 57 sp)) + (txN pn pt (tkS (txN pn pt) w 48 57 sp)))) (b := 48) (by omega)) ?_
        refine lv_iload_n X.1 X.2.1 dX7_takeNumber_59 rfl (lv_at hl 2 rfl) ?_
        refine lv_icmp_gt (tgt := 89) X.1 X.2.1 dX7_takeNumber_60 (by decide) (fun c_60 => ?_) (fun c_60 => ?_)
        · have k_60 := k_lt (a := 20) (b := (((10 * (tkV (txN pn pt) w 48 57 sp)) + (txN pn pt (tkS (txN pn pt) w 48 57 sp))) - 48)) (by omega) (by omega) c_60
          refine lv_iload_n X.1 X.2.1 dX7_takeNumber_89 rfl (lv_at hl 0 rfl) ?_
          have hb : nmB (txN pn pt) w 20 57 sp = false := by unfold nmB; rw [decide_eq_false (by omega), Bool.and_false]
          exact wr_i X hr hlk hW ⟨congrArg nI (nm_f hb).2.symm, by rw [(nm_f hb).1]; exact hM⟩ (Nat.le_of_ble_eq_true rfl) (Nat.le_of_ble_eq_true rfl) dX7_takeNumber_90
        · have k_60 := k_nlt (a := 20) (b := (((10 * (tkV (txN pn pt) w 48 57 sp)) + (txN pn pt (tkS (txN pn pt) w 48 57 sp))) - 48)) (by omega) (by omega) c_60
          refine lv_bipush (v := 10) X.1 X.2.1 dX7_takeNumber_63 (by decide) ?_
          refine lv_iload_n X.1 X.2.1 dX7_takeNumber_65 rfl (lv_at hl 0 rfl) ?_
          refine lv_imul X.1 X.2.1 dX7_takeNumber_66 ?_
          refine r_eqi (show (((10 : Int32) * (nI (tkV (txN pn pt) w 48 57 sp))) : Int32) = nI (10 * (tkV (txN pn pt) w 48 57 sp)) from pk_mul 10 (tkV (txN pn pt) w 48 57 sp)) ?_
          refine lv_aload_n X.1 X.2.1 dX7_takeNumber_67 rfl (lv_at hl 1 rfl) ?_
          refine on_Si (run_V (C := RX7) (As := []) (rest := [.int (nI (10 * (tkV (txN pn pt) w 48 57 sp)))]) X (c_X7_next l G hp_1 M (va_up (va_up sc 6 (bI (tkW (txN pn pt) w 48 57 sp))) 5 (nI (tkS (txN pn pt) w 48 57 sp))) ar sm hM pn pt hP (tkS (txN pn pt) w 48 57 sp) (by first | rfl | exact hs5) (by omega)) (rp_blind _) (rp_at X hW.1 hW.2.2) (recv X hW.1 hM.1 (C := RX7) (T := TX7) (N := 19) rfl) mf_X7_next tw_1120 tw_1122 tw_50 ⟨rfl, rfl, Nat.le_of_ble_eq_true rfl, Nat.le_of_ble_eq_true rfl⟩ hl.1 rfl rfl (Nat.le_of_ble_eq_true rfl) ⟨Nat.le_of_ble_eq_true rfl, Nat.le_of_ble_eq_true rfl⟩ dX7_takeNumber_68) (fun r_68 q_68 => ?_)
          obtain rfl : r_68 = nI (txN pn pt (tkS (txN pn pt) w 48 57 sp)) := q_68
          have htx_68 := tx_le hP (tkS (txN pn pt) w 48 57 sp)
          refine lv_iadd X.1 X.2.1 dX7_takeNumber_71 ?_
          refine r_eqi (show (((nI (10 * (tkV (txN pn pt) w 48 57 sp))) + (nI (txN pn pt (tkS (txN pn pt) w 48 57 sp)))) : Int32) = nI ((10 * (tkV (txN pn pt) w 48 57 sp)) + (txN pn pt (tkS (txN pn pt) w 48 57 sp))) from nI_add (10 * (tkV (txN pn pt) w 48 57 sp)) (txN pn pt (tkS (txN pn pt) w 48 57 sp))) ?_
          refine lv_bipush (v := 48) X.1 X.2.1 dX7_takeNumber_72 (by decide) ?_
          refine lv_isub X.1 X.2.1 dX7_takeNumber_74 ?_
          refine r_eqi (show (((nI ((10 * (tkV (txN pn pt) w 48 57 sp)) + (txN pn pt (tkS (txN pn pt) w 48 57 sp)))) - 48) : Int32) = nI (((10 * (tkV (txN pn pt) w 48 57 sp)) + (txN pn pt (tkS (txN pn pt) w 48 57 sp))) - 48) from pk_sub (a := ((10 * (tkV (txN pn pt) w 48 57 sp)) + (txN pn pt (tkS (txN pn pt) w 48 57 sp)))) (b := 48) (by omega)) ?_
          refine lv_istore_n (lv' := [(2, .int (nI (((10 * (tkV (txN pn pt) w 48 57 sp)) + (txN pn pt (tkS (txN pn pt) w 48 57 sp))) - 48))), (0, .ref (M 0)), (1, .int 20)]) X.1 X.2.1 dX7_takeNumber_75 rfl hl (by decide) rfl (fun ls hl => ?_)
          refine lv_aload_n X.1 X.2.1 dX7_takeNumber_76 rfl (lv_at hl 1 rfl) ?_
          refine lv_dup X.1 X.2.1 dX7_takeNumber_77 rfl ?_
          refine r_get X hW.1 hM.1 (v := .int (nI (tkS (txN pn pt) w 48 57 sp))) (C := RX7) (T := TX7) (N := 19) rfl tin_X7 17 (by decide) tw_860 (fun _ h => h) rfl dX7_takeNumber_78 ?_
          refine lv_iconst (v := 1) X.1 X.2.1 dX7_takeNumber_81 (by decide) ?_
          refine lv_iadd X.1 X.2.1 dX7_takeNumber_82 ?_
          refine r_eqi (show (((nI (tkS (txN pn pt) w 48 57 sp)) + 1) : Int32) = nI ((tkS (txN pn pt) w 48 57 sp) + 1) from nI_add (tkS (txN pn pt) w 48 57 sp) 1) ?_
          refine r_put X hW hM.1 (v := .int (nI ((tkS (txN pn pt) w 48 57 sp) + 1))) (C := RX7) (T := TX7) (N := 19) rfl tin_X7 tyX7_ok nmX7 17 (Nat.le_of_ble_eq_true rfl) tw_860 (fun _ h => h) rfl rfl rfl (Nat.le_of_ble_eq_true rfl) dX7_takeNumber_83 (fun hp_2 H locs hW eh_3 => ?_)
          have hM := mr_sc5 hM eh_3
          refine lv_goto (tgt := 22) X.1 X.2.1 dX7_takeNumber_86 (by decide) ?_
          refine lv_aload_n X.1 X.2.1 dX7_takeNumber_22 rfl (lv_at hl 1 rfl) ?_
          refine r_get X hW.1 hM.1 (v := .int (bI (tkW (txN pn pt) w 48 57 sp))) (C := RX7) (T := TX7) (N := 19) rfl tin_X7 18 (by decide) tw_861 (fun _ h => h) rfl dX7_takeNumber_23 ?_
          refine lv_if_ne (tgt := 89) X.1 X.2.1 dX7_takeNumber_26 (by decide) (fun c_26 => absurd h26 c_26) (fun c_26 => ?_)
          refine lv_iload_n X.1 X.2.1 dX7_takeNumber_29 rfl (lv_at hl 0 rfl) ?_
          refine lv_if_le (tgt := 89) X.1 X.2.1 dX7_takeNumber_30 (by decide) (fun c_30 => absurd c_30 (nI_ge (a := 0) (b := (((10 * (tkV (txN pn pt) w 48 57 sp)) + (txN pn pt (tkS (txN pn pt) w 48 57 sp))) - 48)) (by omega) (by omega))) (fun c_30 => ?_)
          refine lv_aload_n X.1 X.2.1 dX7_takeNumber_33 rfl (lv_at hl 1 rfl) ?_
          refine on_Si (run_V (C := RX7) (As := []) (rest := []) X (c_X7_next l G hp_2 M (va_up (va_up (va_up sc 6 (bI (tkW (txN pn pt) w 48 57 sp))) 5 (nI (tkS (txN pn pt) w 48 57 sp))) 5 (nI ((tkS (txN pn pt) w 48 57 sp) + 1))) ar sm hM pn pt hP ((tkS (txN pn pt) w 48 57 sp) + 1) (by first | rfl | exact hs5) (by omega)) (rp_blind _) (rp_at X hW.1 hW.2.2) (recv X hW.1 hM.1 (C := RX7) (T := TX7) (N := 19) rfl) mf_X7_next tw_1120 tw_1122 tw_50 ⟨rfl, rfl, Nat.le_of_ble_eq_true rfl, Nat.le_of_ble_eq_true rfl⟩ hl.1 rfl rfl (Nat.le_of_ble_eq_true rfl) ⟨Nat.le_of_ble_eq_true rfl, Nat.le_of_ble_eq_true rfl⟩ dX7_takeNumber_34) (fun r_34x q_34x => ?_)
          obtain rfl : r_34x = nI (txN pn pt ((tkS (txN pn pt) w 48 57 sp) + 1)) := q_34x
          have htx_34 := tx_le hP ((tkS (txN pn pt) w 48 57 sp) + 1)
          refine lv_bipush (v := 48) X.1 X.2.1 dX7_takeNumber_37 (by decide) ?_
          refine lv_bipush (v := 57) X.1 X.2.1 dX7_takeNumber_39 (by decide) ?_
          refine on_Si (run_S (As := [.int (nI (txN pn pt ((tkS (txN pn pt) w 48 57 sp) + 1))), .int 48, .int 57]) (rest := []) X (c_X7_in l G hp_2 (nI (txN pn pt ((tkS (txN pn pt) w 48 57 sp) + 1))) 48 57) (rp_blind _) (rp_at X hW.1 hW.2.2) mf_X7_in tw_907 tw_908 ⟨rfl, rfl, Nat.le_of_ble_eq_true rfl, Nat.le_of_ble_eq_true rfl⟩ hl.1 rfl rfl (Nat.le_of_ble_eq_true rfl) ⟨Nat.le_of_ble_eq_true rfl, Nat.le_of_ble_eq_true rfl⟩ dX7_takeNumber_41) (fun r_41x q_41x => ?_)
          obtain rfl : r_41x = (inI (nI (txN pn pt ((tkS (txN pn pt) w 48 57 sp) + 1))) 48 57) := q_41x
          refine r_eqi (inI_n (x := (txN pn pt ((tkS (txN pn pt) w 48 57 sp) + 1))) (a := 48) (b := 57) (by omega) (by omega) (by omega)) ?_
          refine lv_if_eq (tgt := 89) X.1 X.2.1 dX7_takeNumber_44 (by decide) (fun c_44 => ?_) (fun c_44 => ?_)
          · have q44b : ¬ (48 ≤ txN pn pt ((tkS (txN pn pt) w 48 57 sp) + 1) ∧ txN pn pt ((tkS (txN pn pt) w 48 57 sp) + 1) ≤ 57) := of_decide_eq_false (bI_0 c_44)
            refine lv_iload_n X.1 X.2.1 dX7_takeNumber_89 rfl (lv_at hl 0 rfl) ?_
            have hb : nmB (txN pn pt) w 20 57 sp = true := by unfold nmB; rw [bI_0 h26, decide_eq_true (by omega)]; rfl
            exact wr_i X hr hlk hW ⟨congrArg nI (nm_t hb).2.symm, by rw [(nm_t hb).1]; rw [va_uu] at hM; exact hM⟩ (Nat.le_of_ble_eq_true rfl) (Nat.le_of_ble_eq_true rfl) dX7_takeNumber_90
          · have q44b : 48 ≤ txN pn pt ((tkS (txN pn pt) w 48 57 sp) + 1) ∧ txN pn pt ((tkS (txN pn pt) w 48 57 sp) + 1) ≤ 57 := of_decide_eq_true (bI_1 c_44)
            refine lv_bipush (v := 10) X.1 X.2.1 dX7_takeNumber_47 (by decide) ?_
            refine lv_iload_n X.1 X.2.1 dX7_takeNumber_49 rfl (lv_at hl 0 rfl) ?_
            refine lv_imul X.1 X.2.1 dX7_takeNumber_50 ?_
            refine r_eqi (show (((10 : Int32) * (nI (((10 * (tkV (txN pn pt) w 48 57 sp)) + (txN pn pt (tkS (txN pn pt) w 48 57 sp))) - 48))) : Int32) = nI (10 * (((10 * (tkV (txN pn pt) w 48 57 sp)) + (txN pn pt (tkS (txN pn pt) w 48 57 sp))) - 48)) from pk_mul 10 (((10 * (tkV (txN pn pt) w 48 57 sp)) + (txN pn pt (tkS (txN pn pt) w 48 57 sp))) - 48)) ?_
            refine lv_aload_n X.1 X.2.1 dX7_takeNumber_51 rfl (lv_at hl 1 rfl) ?_
            refine on_Si (run_V (C := RX7) (As := []) (rest := [.int (nI (10 * (((10 * (tkV (txN pn pt) w 48 57 sp)) + (txN pn pt (tkS (txN pn pt) w 48 57 sp))) - 48)))]) X (c_X7_next l G hp_2 M (va_up (va_up (va_up sc 6 (bI (tkW (txN pn pt) w 48 57 sp))) 5 (nI (tkS (txN pn pt) w 48 57 sp))) 5 (nI ((tkS (txN pn pt) w 48 57 sp) + 1))) ar sm hM pn pt hP ((tkS (txN pn pt) w 48 57 sp) + 1) (by first | rfl | exact hs5) (by omega)) (rp_blind _) (rp_at X hW.1 hW.2.2) (recv X hW.1 hM.1 (C := RX7) (T := TX7) (N := 19) rfl) mf_X7_next tw_1120 tw_1122 tw_50 ⟨rfl, rfl, Nat.le_of_ble_eq_true rfl, Nat.le_of_ble_eq_true rfl⟩ hl.1 rfl rfl (Nat.le_of_ble_eq_true rfl) ⟨Nat.le_of_ble_eq_true rfl, Nat.le_of_ble_eq_true rfl⟩ dX7_takeNumber_52) (fun r_52x q_52x => ?_)
            obtain rfl : r_52x = nI (txN pn pt ((tkS (txN pn pt) w 48 57 sp) + 1)) := q_52x
            have htx_52 := tx_le hP ((tkS (txN pn pt) w 48 57 sp) + 1)
            refine lv_iadd X.1 X.2.1 dX7_takeNumber_55 ?_
            refine r_eqi (show (((nI (10 * (((10 * (tkV (txN pn pt) w 48 57 sp)) + (txN pn pt (tkS (txN pn pt) w 48 57 sp))) - 48))) + (nI (txN pn pt ((tkS (txN pn pt) w 48 57 sp) + 1)))) : Int32) = nI ((10 * (((10 * (tkV (txN pn pt) w 48 57 sp)) + (txN pn pt (tkS (txN pn pt) w 48 57 sp))) - 48)) + (txN pn pt ((tkS (txN pn pt) w 48 57 sp) + 1))) from nI_add (10 * (((10 * (tkV (txN pn pt) w 48 57 sp)) + (txN pn pt (tkS (txN pn pt) w 48 57 sp))) - 48)) (txN pn pt ((tkS (txN pn pt) w 48 57 sp) + 1))) ?_
            refine lv_bipush (v := 48) X.1 X.2.1 dX7_takeNumber_56 (by decide) ?_
            refine lv_isub X.1 X.2.1 dX7_takeNumber_58 ?_
            refine r_eqi (show (((nI ((10 * (((10 * (tkV (txN pn pt) w 48 57 sp)) + (txN pn pt (tkS (txN pn pt) w 48 57 sp))) - 48)) + (txN pn pt ((tkS (txN pn pt) w 48 57 sp) + 1)))) - 48) : Int32) = nI (((10 * (((10 * (tkV (txN pn pt) w 48 57 sp)) + (txN pn pt (tkS (txN pn pt) w 48 57 sp))) - 48)) + (txN pn pt ((tkS (txN pn pt) w 48 57 sp) + 1))) - 48) from pk_sub (a := ((10 * (((10 * (tkV (txN pn pt) w 48 57 sp)) + (txN pn pt (tkS (txN pn pt) w 48 57 sp))) - 48)) + (txN pn pt ((tkS (txN pn pt) w 48 57 sp) + 1)))) (b := 48) (by omega)) ?_
            refine lv_iload_n X.1 X.2.1 dX7_takeNumber_59 rfl (lv_at hl 2 rfl) ?_
            refine lv_icmp_gt (tgt := 89) X.1 X.2.1 dX7_takeNumber_60 (by decide) (fun c_60 => ?_) (fun c_60 => absurd (nI_lt (a := 20) (b := (((10 * (((10 * (tkV (txN pn pt) w 48 57 sp)) + (txN pn pt (tkS (txN pn pt) w 48 57 sp))) - 48)) + (txN pn pt ((tkS (txN pn pt) w 48 57 sp) + 1))) - 48)) (by omega) (by omega)) c_60)
            refine lv_iload_n X.1 X.2.1 dX7_takeNumber_89 rfl (lv_at hl 0 rfl) ?_
            have hb : nmB (txN pn pt) w 20 57 sp = true := by unfold nmB; rw [bI_0 h26, decide_eq_true (by omega)]; rfl
            exact wr_i X hr hlk hW ⟨congrArg nI (nm_t hb).2.symm, by rw [(nm_t hb).1]; rw [va_uu] at hM; exact hM⟩ (Nat.le_of_ble_eq_true rfl) (Nat.le_of_ble_eq_true rfl) dX7_takeNumber_90

