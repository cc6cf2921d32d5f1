/-! numbers, suits -/
theorem nI_m1 {x : Nat} (h : x < 2 ^ 31) : ¬ nI x = -1 := fun q => by
  have := congrArg Int32.toInt q
  rw [nI_toInt h] at this
  have z : (-1 : Int32).toInt = -1 := rfl
  omega
section NMS
variable {tx : Nat → Nat} {m h sp : Nat}
theorem nm_A (hK : tkW tx false 48 h sp = true) : nmS tx false m h sp = tkS tx false 48 h sp := (nm_f (by unfold nmB; rw [hK]; rfl)).1
theorem nm_B (hK : ¬ tkW tx false 48 h sp = true) (hv : ¬ 0 < tx sp - 48) : nmS tx false m h sp = tkS tx false 48 h sp ∧ nmV tx false m h sp = tx sp - 48 := by
  have e := tk_f hK
  have k := nm_f (m := m) (show nmB tx false m h sp = false by unfold nmB; rw [decide_eq_false (fun z => hv (by rw [← e.2]; exact z.1)), Bool.and_false])
  exact ⟨k.1, k.2.trans e.2⟩
theorem nm_C (hK : ¬ tkW tx false 48 h sp = true) (hn : ¬ (48 ≤ tx (tkS tx false 48 h sp) ∧ tx (tkS tx false 48 h sp) ≤ 57 ∧ 10 * (tx sp - 48) + tx (tkS tx false 48 h sp) - 48 ≤ m)) : nmS tx false m h sp = tkS tx false 48 h sp ∧ nmV tx false m h sp = tx sp - 48 := by
  have e := tk_f hK
  have k := nm_f (m := m) (show nmB tx false m h sp = false by unfold nmB; rw [decide_eq_false (fun z => hn (by rw [← e.2]; exact z.2)), Bool.and_false])
  exact ⟨k.1, k.2.trans e.2⟩
theorem nm_D (hK : ¬ tkW tx false 48 h sp = true) (hv : 0 < tx sp - 48) (hy : 48 ≤ tx (tkS tx false 48 h sp) ∧ tx (tkS tx false 48 h sp) ≤ 57 ∧ 10 * (tx sp - 48) + tx (tkS tx false 48 h sp) - 48 ≤ m) : nmS tx false m h sp = tkS tx false 48 h sp + 1 ∧ nmV tx false m h sp = 10 * (tx sp - 48) + tx (tkS tx false 48 h sp) - 48 := by
  have e := tk_f hK
  have k := nm_t (m := m) (show nmB tx false m h sp = true by unfold nmB; rw [Bool.eq_false_iff.mpr hK, decide_eq_true (by rw [e.2]; exact ⟨hv, hy⟩)]; rfl)
  exact ⟨k.1, k.2.trans (by rw [e.2])⟩
theorem tkW_iff {lo hi : Nat} : tkW tx false lo hi sp = true ↔ ¬ (lo ≤ tx sp ∧ tx sp ≤ hi) := by
  unfold tkW
  by_cases c : lo ≤ tx sp ∧ tx sp ≤ hi
  · rw [decide_eq_true c]; simp [c]
  · rw [decide_eq_false c]; simp only [c, not_false_eq_true, iff_true]; rfl
end NMS
theorem mm_h (u : Nat) : min (mmN u) 9 = mhN u - 48 ∧ 48 + (mhN u - 48) = mhN u ∧ mhN u - 48 ≤ 9 ∧ mmN u ≤ 20 := by
  unfold mmN mhN
  by_cases c : u = 4
  · rw [if_pos c, if_pos c]; decide
  · rw [if_neg c, if_neg c]; decide
set_option maxHeartbeats 4000000 in
set_option maxRecDepth 100000 in
theorem c_X5_readNumber (l : Launch) (G : HG) (A : Nat → Prop) (hp : HP) (sz : Nat) (hA : ∀ q, sz ≤ q → A q) (hO : Ow A hp) (pa vb cv : Nat) (ml : Bool) (fb : Nat → Int32) (pn : Nat) (pt : Nat → Nat) (hSB : SBp G hp pa vb cv ml fb pn pt) (rd rr sp lim : Nat) (hrd : hp rd = some (rdE pa rr sp lim)) (hsp : sp ≤ 90) (u : Nat) : Met l yX5_readNumber [.code yX5_readNumber cX5_readNumber 4 (some .int)] { frames := 6, cells := 0, slots := 0, locals := 131 } (va_Pc [.ref rd, .int (nI (mmN u))] (WP G A sz hp)) (va_Qi (fun r hp1 => r = (if tkW (txN pn pt) false 48 (mhN u) sp = true then -1 else nI (nmV (txN pn pt) false (mmN u) (mhN u) sp)) ∧ hp1 rd = some (rdE pa rr (nmS (txN pn pt) false (mmN u) (mhN u) sp) lim) ∧ XF hp hp1 rd) (WB G A) A) 0 0 A := by
  refine wr_ofW (by decide) (Nat.le_of_ble_eq_true rfl) hO ?_
  intro p e s m args below meth c ls X hr hlk hnm hsz hW hl
  have hA : ∀ q, s.heap.size ≤ q → A q := fun q h => hA q (by omega)
  have hl : lv_has ls 4 [(0, .ref rd), (1, .int (nI (mmN u)))] := hl
  have hpn := hSB.2.2.1
  have hcv := hSB.2.2.2.1
  have hcv2 := hSB.2.2.2.2.2.1
  have hcv1 := hSB.2.2.2.2.1
  have ht := tx_126 hSB.2.2.2.2.2.2.2.2 sp
  obtain ⟨hm1, hm2, hm3, hm4⟩ := mm_h u
  refine lv_aload_n X.1 X.2.1 dX5_readNumber_0 rfl (lv_at hl 0 rfl) ?_
  refine lv_iconst (v := 0) X.1 X.2.1 dX5_readNumber_1 (by decide) ?_
  refine lv_iload_n X.1 X.2.1 dX5_readNumber_2 rfl (lv_at hl 1 rfl) ?_
  refine lv_bipush (v := 9) X.1 X.2.1 dX5_readNumber_3 (by decide) ?_
  refine va_mmin X.1 X.2.1 (by rw [X.2.2.1]; exact hl.1.symm) X.2.2.2.1 (tb_all X.2.2.2.2.1 _ tw_827) (tb_all X.2.2.2.2.1 _ tw_327) (tb_all X.2.2.2.2.1 _ tw_70) (tb_all X.2.2.2.2.1 _ tw_math_min) (Nat.le_of_ble_eq_true rfl) (Nat.le_of_ble_eq_true rfl) (Nat.le_of_ble_eq_true rfl) (Nat.le_of_ble_eq_true rfl) dX5_readNumber_5 ?_
  refine r_eqi (n_min (mmN u) 9 (by omega) (by omega)) ?_
  refine r_eqi (congrArg nI hm1) ?_
  refine on_Wi (k' := 0) (n' := 0) (run_V (C := RX5) (As := [.int 0, .int (nI (mhN u - 48))]) (rest := []) X (c_X5_readDigit l G A hp _ (fun q h => hA q (Nat.le_trans hW.2.2.1 h)) hW.2.1 pa vb cv ml fb pn pt hSB rd rr sp lim hrd (by omega) 0 (mhN u - 48) (by omega) (by omega)) (wp_blind _) (wp_at X hW.1 hW.2.2) (recv X hW.1 hrd (C := RX5) (T := TX5) (N := 4) rfl) mf_X5_readDigit tw_781 tw_783 tw_18 ⟨rfl, rfl, Nat.le_of_ble_eq_true rfl, Nat.le_of_ble_eq_true rfl⟩ hl.1 rfl rfl (Nat.le_of_ble_eq_true rfl) ⟨Nat.le_of_ble_eq_true rfl, Nat.le_of_ble_eq_true rfl⟩ dX5_readNumber_8) hW (by omega) (by omega) (fun r_8 hp_1 H locs q_8 hW => ?_)
  rw [show 48 + 0 = 48 from rfl, hm2] at q_8
  obtain ⟨rfl, hr_1, hx_1⟩ := q_8
  have hS_1 := SBp.xf hSB hx_1 hrd (by decide)
  have g_2 : hp_1 rd = some (.inr (6, [.ref pa, .ref rr, .int (nI (tkS (txN pn pt) false 48 (mhN u) sp)), .int (nI lim)])) := hr_1
  have g_3 : hp_1 pa = some (.inr (0, [.ref vb, .int 0, .int (bI ml), .int (nI pn)])) := hS_1.1
  have g_4 : hp_1 vb = some (.inl (G.2.1 0, cv, .inl fb)) := hS_1.2.1
  have hle_1 := tkS_le (txN pn pt) false 48 (mhN u) sp
  by_cases hK : tkW (txN pn pt) false 48 (mhN u) sp = true
  · refine r_eqi (if_pos hK) ?_
    refine lv_istore_n (lv' := [(2, .int (-1)), (0, .ref rd), (1, .int (nI (mmN u)))]) X.1 X.2.1 dX5_readNumber_11 rfl hl (by decide) rfl (fun ls hl => ?_)
    refine lv_iload_n X.1 X.2.1 dX5_readNumber_12 rfl (lv_at hl 0 rfl) ?_
    refine lv_if_gt (tgt := 18) X.1 X.2.1 dX5_readNumber_13 (by decide) (fun c_13 => absurd c_13 (by decide)) (fun c_13 => ?_)
    refine lv_iload_n X.1 X.2.1 dX5_readNumber_16 rfl (lv_at hl 0 rfl) ?_
    exact wr_i X hr hlk hW ⟨(if_pos hK).symm, by rw [nm_A hK]; exact g_2, hx_1⟩ (Nat.le_of_ble_eq_true rfl) (Nat.le_of_ble_eq_true rfl) dX5_readNumber_17
  · have y1 := Decidable.not_not.mp (fun y9 => hK (tkW_iff.mpr y9))
    refine r_eqi (if_neg hK) ?_
    refine lv_istore_n (lv' := [(2, .int (nI ((txN pn pt) sp - 48))), (0, .ref rd), (1, .int (nI (mmN u)))]) X.1 X.2.1 dX5_readNumber_11 rfl hl (by decide) rfl (fun ls hl => ?_)
    refine lv_iload_n X.1 X.2.1 dX5_readNumber_12 rfl (lv_at hl 0 rfl) ?_
    refine lv_if_gt (tgt := 18) X.1 X.2.1 dX5_readNumber_13 (by decide) (fun c_13 => ?_) (fun c_13 => ?_)
    · have k_13 := k_lt (a := 0) (b := ((txN pn pt) sp - 48)) (by omega) (by omega) c_13
      refine lv_aload_n X.1 X.2.1 dX5_readNumber_18 rfl (lv_at hl 1 rfl) ?_
      refine lv_iconst (v := 0) X.1 X.2.1 dX5_readNumber_19 (by decide) ?_
      refine lv_iload_n X.1 X.2.1 dX5_readNumber_20 rfl (lv_at hl 2 rfl) ?_
      refine lv_bipush (v := 10) X.1 X.2.1 dX5_readNumber_21 (by decide) ?_
      refine lv_iload_n X.1 X.2.1 dX5_readNumber_23 rfl (lv_at hl 0 rfl) ?_
      refine lv_imul X.1 X.2.1 dX5_readNumber_24 ?_
      refine r_eqi (show (((10 : Int32) * (nI ((txN pn pt) sp - 48))) : Int32) = nI (10 * ((txN pn pt) sp - 48)) from pk_mul 10 ((txN pn pt) sp - 48)) ?_
      refine lv_isub X.1 X.2.1 dX5_readNumber_25 ?_
      by_cases hN : 10 * ((txN pn pt) sp - 48) ≤ mmN u
      · refine r_eqi (pk_sub hN) ?_
        refine lv_bipush (v := 9) X.1 X.2.1 dX5_readNumber_26 (by decide) ?_
        refine va_mmin X.1 X.2.1 (by rw [X.2.2.1]; exact hl.1.symm) X.2.2.2.1 (tb_all X.2.2.2.2.1 _ tw_827) (tb_all X.2.2.2.2.1 _ tw_327) (tb_all X.2.2.2.2.1 _ tw_70) (tb_all X.2.2.2.2.1 _ tw_math_min) (Nat.le_of_ble_eq_true rfl) (Nat.le_of_ble_eq_true rfl) (Nat.le_of_ble_eq_true rfl) (Nat.le_of_ble_eq_true rfl) dX5_readNumber_28 ?_
        refine r_eqi (n_min (mmN u - 10 * ((txN pn pt) sp - 48)) 9 (by omega) (by omega)) ?_
        refine on_Wi (k' := 0) (n' := 0) (run_V (C := RX5) (As := [.int 0, .int (nI (min (mmN u - 10 * ((txN pn pt) sp - 48)) 9))]) (rest := []) X (c_X5_readDigit l G A hp_1 _ (fun q h => hA q (Nat.le_trans hW.2.2.1 h)) hW.2.1 pa vb cv ml fb pn pt hS_1 rd rr (tkS (txN pn pt) false 48 (mhN u) sp) lim g_2 (by omega) 0 (min (mmN u - 10 * ((txN pn pt) sp - 48)) 9) (by omega) (by omega)) (wp_blind _) (wp_at X hW.1 hW.2.2) (recv X hW.1 g_2 (C := RX5) (T := TX5) (N := 4) rfl) mf_X5_readDigit tw_781 tw_783 tw_18 ⟨rfl, rfl, Nat.le_of_ble_eq_true rfl, Nat.le_of_ble_eq_true rfl⟩ hl.1 rfl rfl (Nat.le_of_ble_eq_true rfl) ⟨Nat.le_of_ble_eq_true rfl, Nat.le_of_ble_eq_true rfl⟩ dX5_readNumber_31) hW (by omega) (by omega) (fun r_31 hp_5 H locs q_31 hW => ?_)
        rw [show 48 + 0 = 48 from rfl] at q_31
        obtain ⟨rfl, hr_2, hx_2⟩ := q_31
        have hS_2 := SBp.xf hS_1 hx_2 g_2 (by decide)
        have g_6 : hp_5 rd = some (.inr (6, [.ref pa, .ref rr, .int (nI (tkS (txN pn pt) false 48 (48 + min (mmN u - 10 * ((txN pn pt) sp - 48)) 9) (tkS (txN pn pt) false 48 (mhN u) sp))), .int (nI lim)])) := hr_2
        have g_7 : hp_5 pa = some (.inr (0, [.ref vb, .int 0, .int (bI ml), .int (nI pn)])) := hS_2.1
        have g_8 : hp_5 vb = some (.inl (G.2.1 0, cv, .inl fb)) := hS_2.2.1
        have hle_2 := tkS_le (txN pn pt) false 48 (48 + min (mmN u - 10 * ((txN pn pt) sp - 48)) 9) (tkS (txN pn pt) false 48 (mhN u) sp)
        by_cases hK2 : tkW (txN pn pt) false 48 (48 + min (mmN u - 10 * ((txN pn pt) sp - 48)) 9) (tkS (txN pn pt) false 48 (mhN u) sp) = true
        · refine r_eqi (if_pos hK2) ?_
          refine lv_istore_n (lv' := [(3, .int (-1)), (2, .int (nI ((txN pn pt) sp - 48))), (0, .ref rd), (1, .int (nI (mmN u)))]) X.1 X.2.1 dX5_readNumber_34 rfl hl (by decide) rfl (fun ls hl => ?_)
          refine lv_iload_n X.1 X.2.1 dX5_readNumber_35 rfl (lv_at hl 0 rfl) ?_
          refine lv_iconst (v := (-1)) X.1 X.2.1 dX5_readNumber_36 (by decide) ?_
          refine lv_icmp_ne (tgt := 44) X.1 X.2.1 dX5_readNumber_37 (by decide) (fun c_37 => absurd (by decide) c_37) (fun c_37 => ?_)
          refine lv_iload_n X.1 X.2.1 dX5_readNumber_40 rfl (lv_at hl 1 rfl) ?_
          refine lv_goto (tgt := 50) X.1 X.2.1 dX5_readNumber_41 (by decide) ?_
          have z9 := nm_C (m := mmN u) hK (fun y9 => tkW_iff.mp hK2 (by omega))
          exact wr_i X hr hlk hW ⟨by rw [if_neg hK, z9.2], by rw [z9.1]; have y9 := g_6; rw [(tk_t hK2).1] at y9; exact y9, (XF.tr hx_1 hx_2)⟩ (Nat.le_of_ble_eq_true rfl) (Nat.le_of_ble_eq_true rfl) dX5_readNumber_50
        · have y2 := tx_126 hSB.2.2.2.2.2.2.2.2 (tkS (txN pn pt) false 48 (mhN u) sp)
          refine r_eqi (if_neg hK2) ?_
          refine lv_istore_n (lv' := [(3, .int (nI ((txN pn pt) (tkS (txN pn pt) false 48 (mhN u) sp) - 48))), (2, .int (nI ((txN pn pt) sp - 48))), (0, .ref rd), (1, .int (nI (mmN u)))]) X.1 X.2.1 dX5_readNumber_34 rfl hl (by decide) rfl (fun ls hl => ?_)
          refine lv_iload_n X.1 X.2.1 dX5_readNumber_35 rfl (lv_at hl 0 rfl) ?_
          refine lv_iconst (v := (-1)) X.1 X.2.1 dX5_readNumber_36 (by decide) ?_
          refine lv_icmp_ne (tgt := 44) X.1 X.2.1 dX5_readNumber_37 (by decide) (fun c_37 => ?_) (fun c_37 => absurd c_37 (nI_m1 (by omega)))
          refine lv_bipush (v := 10) X.1 X.2.1 dX5_readNumber_44 (by decide) ?_
          refine lv_iload_n X.1 X.2.1 dX5_readNumber_46 rfl (lv_at hl 1 rfl) ?_
          refine lv_imul X.1 X.2.1 dX5_readNumber_47 ?_
          refine r_eqi (show (((10 : Int32) * (nI ((txN pn pt) sp - 48))) : Int32) = nI (10 * ((txN pn pt) sp - 48)) from pk_mul 10 ((txN pn pt) sp - 48)) ?_
          refine lv_iload_n X.1 X.2.1 dX5_readNumber_48 rfl (lv_at hl 0 rfl) ?_
          refine lv_iadd X.1 X.2.1 dX5_readNumber_49 ?_
          refine r_eqi (show (((nI (10 * ((txN pn pt) sp - 48))) + (nI ((txN pn pt) (tkS (txN pn pt) false 48 (mhN u) sp) - 48))) : Int32) = nI ((10 * ((txN pn pt) sp - 48)) + ((txN pn pt) (tkS (txN pn pt) false 48 (mhN u) sp) - 48)) from nI_add (10 * ((txN pn pt) sp - 48)) ((txN pn pt) (tkS (txN pn pt) false 48 (mhN u) sp) - 48)) ?_
          have y9 := Decidable.not_not.mp (fun y9 => hK2 (tkW_iff.mpr y9))
          have z9 := nm_D (m := mmN u) hK k_13 (by omega)
          exact wr_i X hr hlk hW ⟨by rw [if_neg hK, z9.2]; exact congrArg nI (by omega), by rw [z9.1]; have x9 := g_6; rw [(tk_f hK2).1] at x9; exact x9, (XF.tr hx_1 hx_2)⟩ (Nat.le_of_ble_eq_true rfl) (Nat.le_of_ble_eq_true rfl) dX5_readNumber_50
      · refine r_eqi rfl ?_
        refine lv_bipush (v := 9) X.1 X.2.1 dX5_readNumber_26 (by decide) ?_
        refine va_mmin X.1 X.2.1 (by rw [X.2.2.1]; exact hl.1.symm) X.2.2.2.1 (tb_all X.2.2.2.2.1 _ tw_827) (tb_all X.2.2.2.2.1 _ tw_327) (tb_all X.2.2.2.2.1 _ tw_70) (tb_all X.2.2.2.2.1 _ tw_math_min) (Nat.le_of_ble_eq_true rfl) (Nat.le_of_ble_eq_true rfl) (Nat.le_of_ble_eq_true rfl) (Nat.le_of_ble_eq_true rfl) dX5_readNumber_28 ?_
        have hng : nI (mmN u) - nI (10 * ((txN pn pt) sp - 48)) < 0 := Int32.lt_iff_toInt_lt.mpr (by rw [pk_sub_toInt (by omega) (by omega)]; have z : (0 : Int32).toInt = 0 := rfl; omega)
        refine r_eqi (show (if 9 < (nI (mmN u) - nI (10 * ((txN pn pt) sp - 48))) then 9 else (nI (mmN u) - nI (10 * ((txN pn pt) sp - 48)))) = nI (mmN u) - nI (10 * ((txN pn pt) sp - 48)) from if_neg (fun z9 => absurd (Int32.lt_trans z9 hng) (by decide))) ?_
        refine on_Wi (k' := 0) (n' := 0) (run_V (C := RX5) (As := [.int 0, .int (nI (mmN u) - nI (10 * ((txN pn pt) sp - 48)))]) (rest := []) X (c_X5_readDigit_n l G A hp_1 _ (fun q h => hA q (Nat.le_trans hW.2.2.1 h)) hW.2.1 pa vb cv ml fb pn pt hS_1 rd rr (tkS (txN pn pt) false 48 (mhN u) sp) lim g_2 (by omega) (nI (mmN u) - nI (10 * ((txN pn pt) sp - 48))) hng) (wp_blind _) (wp_at X hW.1 hW.2.2) (recv X hW.1 g_2 (C := RX5) (T := TX5) (N := 4) rfl) mf_X5_readDigit tw_781 tw_783 tw_18 ⟨rfl, rfl, Nat.le_of_ble_eq_true rfl, Nat.le_of_ble_eq_true rfl⟩ hl.1 rfl rfl (Nat.le_of_ble_eq_true rfl) ⟨Nat.le_of_ble_eq_true rfl, Nat.le_of_ble_eq_true rfl⟩ dX5_readNumber_31) hW (by omega) (by omega) (fun r_31 hp_9 H locs q_31 hW => ?_)
        obtain ⟨rfl, hr_2, hx_2⟩ := q_31
        have hS_2 := SBp.xf hS_1 hx_2 g_2 (by decide)
        have g_10 : hp_9 rd = some (.inr (6, [.ref pa, .ref rr, .int (nI (tkS (txN pn pt) false 48 (mhN u) sp)), .int (nI lim)])) := hr_2
        have g_11 : hp_9 pa = some (.inr (0, [.ref vb, .int 0, .int (bI ml), .int (nI pn)])) := hS_2.1
        have g_12 : hp_9 vb = some (.inl (G.2.1 0, cv, .inl fb)) := hS_2.2.1
        refine lv_istore_n (lv' := [(3, .int (-1)), (2, .int (nI ((txN pn pt) sp - 48))), (0, .ref rd), (1, .int (nI (mmN u)))]) X.1 X.2.1 dX5_readNumber_34 rfl hl (by decide) rfl (fun ls hl => ?_)
        refine lv_iload_n X.1 X.2.1 dX5_readNumber_35 rfl (lv_at hl 0 rfl) ?_
        refine lv_iconst (v := (-1)) X.1 X.2.1 dX5_readNumber_36 (by decide) ?_
        refine lv_icmp_ne (tgt := 44) X.1 X.2.1 dX5_readNumber_37 (by decide) (fun c_37 => absurd (by decide) c_37) (fun c_37 => ?_)
        refine lv_iload_n X.1 X.2.1 dX5_readNumber_40 rfl (lv_at hl 1 rfl) ?_
        refine lv_goto (tgt := 50) X.1 X.2.1 dX5_readNumber_41 (by decide) ?_
        have z9 := nm_C (m := mmN u) hK (fun y9 => by omega)
        exact wr_i X hr hlk hW ⟨by rw [if_neg hK, z9.2], by rw [z9.1]; exact g_10, (XF.tr hx_1 hx_2)⟩ (Nat.le_of_ble_eq_true rfl) (Nat.le_of_ble_eq_true rfl) dX5_readNumber_50
    · have k_13 := k_nlt (a := 0) (b := ((txN pn pt) sp - 48)) (by omega) (by omega) c_13
      refine lv_iload_n X.1 X.2.1 dX5_readNumber_16 rfl (lv_at hl 0 rfl) ?_
      have z9 := nm_B (m := mmN u) hK (by omega)
      exact wr_i X hr hlk hW ⟨by rw [if_neg hK, z9.2], by rw [z9.1]; exact g_2, hx_1⟩ (Nat.le_of_ble_eq_true rfl) (Nat.le_of_ble_eq_true rfl) dX5_readNumber_17

def suO (t : Nat) : Int32 := if suN t = 9 then -1 else nI (suN t)
theorem su_k {t : Nat} (ht : t ≤ 126) : (sgI t = 99 → suO t = 0) ∧ (sgI t = 100 → suO t = 1) ∧ (sgI t = 104 → suO t = 2) ∧ (sgI t = 115 → suO t = 3) ∧ (¬ sgI t = 99 → ¬ sgI t = 100 → ¬ sgI t = 104 → ¬ sgI t = 115 → suO t = -1) := by
  have k1 : ∀ t, t < 127 → sgI t = 99 → suO t = 0 := by decide +kernel
  have k2 : ∀ t, t < 127 → sgI t = 100 → suO t = 1 := by decide +kernel
  have k3 : ∀ t, t < 127 → sgI t = 104 → suO t = 2 := by decide +kernel
  have k4 : ∀ t, t < 127 → sgI t = 115 → suO t = 3 := by decide +kernel
  have k5 : ∀ t, t < 127 → ¬ sgI t = 99 → ¬ sgI t = 100 → ¬ sgI t = 104 → ¬ sgI t = 115 → suO t = -1 := by decide +kernel
  exact ⟨k1 t (by omega), k2 t (by omega), k3 t (by omega), k4 t (by omega), k5 t (by omega)⟩
set_option maxHeartbeats 4000000 in
set_option maxRecDepth 100000 in
theorem c_X5_suitOfSign (l : Launch) (G : HG) (hp : HP) (pa vb cv : Nat) (ml : Bool) (fb : Nat → Int32) (pn : Nat) (pt : Nat → Nat) (hSB : SBp G hp pa vb cv ml fb pn pt) (rd rr sp lim : Nat) (hrd : hp rd = some (rdE pa rr sp lim)) (hsp : sp ≤ 100) : Met l yX5_suitOfSign [.code yX5_suitOfSign cX5_suitOfSign 1 (some .int)] { frames := 5, cells := 0, slots := 0, locals := 108 } (va_Pc [.ref rd] (RP G hp)) (vp_Si (fun r => r = suO ((txN pn pt) sp))) 0 0 (fun _ => False) := by
  refine ro_ofW (by decide) (Nat.le_of_ble_eq_true rfl) ?_
  intro p e s m args below meth c ls X hr hlk hH hl
  have hS : va_S (fun _ => False) s.heap s.heap [] := va_S.rf
  have hl : lv_has ls 1 [(0, .ref rd)] := hl
  have hpn := hSB.2.2.1
  have hcv := hSB.2.2.2.1
  have hcv2 := hSB.2.2.2.2.2.1
  have hcv1 := hSB.2.2.2.2.1
  have ht := tx_126 hSB.2.2.2.2.2.2.2.2 sp
  refine lv_aload_n X.1 X.2.1 dX5_suitOfSign_0 rfl (lv_at hl 0 rfl) ?_
  refine on_Si (run_V (C := RX5) (As := []) (rest := []) X (c_X5_sign l G hp pa vb cv ml fb pn pt hSB rd rr sp lim hrd (by omega)) (rp_blind _) (rp_at X hH hS) (recv X hH hrd (C := RX5) (T := TX5) (N := 4) rfl) mf_X5_sign tw_785 tw_787 tw_19 ⟨rfl, rfl, Nat.le_of_ble_eq_true rfl, Nat.le_of_ble_eq_true rfl⟩ hl.1 rfl rfl (Nat.le_of_ble_eq_true rfl) ⟨Nat.le_of_ble_eq_true rfl, Nat.le_of_ble_eq_true rfl⟩ dX5_suitOfSign_1) (fun r_1 q_1 => ?_)
  obtain rfl : r_1 = (sgI ((txN pn pt) sp)) := q_1
  refine (Decidable.em (((sgI ((txN pn pt) sp)) : Int32) = 99)).elim (fun sw_4_99 => ?_) (fun sw_4_99 => ?_)
  · refine r_eqi sw_4_99 ?_
    refine lv_lookup (off := 44) (tgt := 48) X.1 X.2.1 dX5_suitOfSign_4 (by decide) (by decide) (by decide) ?_
    refine lv_iconst (v := 0) X.1 X.2.1 dX5_suitOfSign_48 (by decide) ?_
    exact ro_i X hr hlk ((su_k ht).1 sw_4_99).symm dX5_suitOfSign_49
  · skip
    refine (Decidable.em (((sgI ((txN pn pt) sp)) : Int32) = 100)).elim (fun sw_4_100 => ?_) (fun sw_4_100 => ?_)
    · refine r_eqi sw_4_100 ?_
      refine lv_lookup (off := 46) (tgt := 50) X.1 X.2.1 dX5_suitOfSign_4 (by decide) (by decide) (by decide) ?_
      refine lv_iconst (v := 1) X.1 X.2.1 dX5_suitOfSign_50 (by decide) ?_
      exact ro_i X hr hlk ((su_k ht).2.1 sw_4_100).symm dX5_suitOfSign_51
    · skip
      refine (Decidable.em (((sgI ((txN pn pt) sp)) : Int32) = 104)).elim (fun sw_4_104 => ?_) (fun sw_4_104 => ?_)
      · refine r_eqi sw_4_104 ?_
        refine lv_lookup (off := 48) (tgt := 52) X.1 X.2.1 dX5_suitOfSign_4 (by decide) (by decide) (by decide) ?_
        refine lv_iconst (v := 2) X.1 X.2.1 dX5_suitOfSign_52 (by decide) ?_
        exact ro_i X hr hlk ((su_k ht).2.2.1 sw_4_104).symm dX5_suitOfSign_53
      · skip
        refine (Decidable.em (((sgI ((txN pn pt) sp)) : Int32) = 115)).elim (fun sw_4_115 => ?_) (fun sw_4_115 => ?_)
        · refine r_eqi sw_4_115 ?_
          refine lv_lookup (off := 50) (tgt := 54) X.1 X.2.1 dX5_suitOfSign_4 (by decide) (by decide) (by decide) ?_
          refine lv_iconst (v := 3) X.1 X.2.1 dX5_suitOfSign_54 (by decide) ?_
          exact ro_i X hr hlk ((su_k ht).2.2.2.1 sw_4_115).symm dX5_suitOfSign_55
        · skip
          refine lv_lookup (off := 52) (tgt := 56) X.1 X.2.1 dX5_suitOfSign_4 (by decide) (by rw [lv_osw sw_4_99 (by decide), lv_osw sw_4_100 (by decide), lv_osw sw_4_104 (by decide), lv_osw sw_4_115 (by decide)]; rfl) (by decide) ?_
          refine lv_iconst (v := (-1)) X.1 X.2.1 dX5_suitOfSign_56 (by decide) ?_
          exact ro_i X hr hlk ((su_k ht).2.2.2.2 sw_4_99 sw_4_100 sw_4_104 sw_4_115).symm dX5_suitOfSign_57

