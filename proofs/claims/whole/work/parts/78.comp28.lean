/-! calls, conditions -/
section CAS
variable {tx : Nat → Nat} {sp lim : Nat}
theorem not_f {b : Bool} (h : (!b) = true) : b = false := by cases b <;> simp_all
theorem not_t {b : Bool} (h : (!b) = false) : b = true := by cases b <;> simp_all
theorem tk1_f {d : Nat} (h : tkW tx false d d sp = false) : tx sp = d := by have := tkW_w h; omega
theorem tk1_t {d : Nat} (h : tkW tx false d d sp = true) : ¬ tx sp = d := by have := tkW_iff.mp h; omega
theorem caP_t (h : tkW tx false 112 112 sp = false) : caP tx false sp = true := by unfold caP; rw [decide_eq_true (tk1_f h)]; rfl
theorem caP_f (h : tkW tx false 112 112 sp = true) : caP tx false sp = false := by unfold caP; rw [decide_eq_false (tk1_t h)]; rfl
theorem ca_A (h : tkW tx false 112 112 sp = false) : caW tx false sp = false ∧ caS tx false sp = tkS tx false 112 112 sp ∧ caV tx false sp = 25 := by
  have e := ca_p (caP_t h)
  exact ⟨e.1, e.2.1.trans (tk_f (fun z => Bool.false_ne_true (h.symm.trans z))).1.symm, e.2.2⟩
theorem ca_B (h0 : tkW tx false 112 112 sp = true) (hK : tkW tx false 49 53 sp = true) : caW tx false sp = true ∧ caS tx false sp = tkS tx false 49 53 sp := by
  have e := ca_n (caP_f h0)
  have w : caW tx false sp = true := by rw [e.1, hK]; rfl
  exact ⟨w, e.2.1.trans (if_pos w)⟩
theorem ca_C (h0 : tkW tx false 112 112 sp = true) (hs : stN 110 (tx (tkS tx false 49 53 sp)) = 9) : caW tx false sp = true ∧ caS tx false sp = tkS tx false 49 53 sp := by
  have e := ca_n (caP_f h0)
  have w : caW tx false sp = true := by rw [e.1, decide_eq_true hs, Bool.or_true]
  exact ⟨w, e.2.1.trans (if_pos w)⟩
theorem ca_D (h0 : tkW tx false 112 112 sp = true) (hK : ¬ tkW tx false 49 53 sp = true) (hs : ¬ stN 110 (tx (tkS tx false 49 53 sp)) = 9) : caW tx false sp = false ∧ caS tx false sp = tkS tx false 49 53 sp + 1 ∧ caV tx false sp = 5 * (tx sp - 49) + stN 110 (tx (tkS tx false 49 53 sp)) := by
  have e := ca_n (caP_f h0)
  have w : caW tx false sp = false := by rw [e.1, decide_eq_false hs, Bool.eq_false_iff.mpr hK]; rfl
  refine ⟨w, e.2.1.trans (if_neg (fun z => Bool.false_ne_true (w.symm.trans z))), ?_⟩
  rw [e.2.2, (tk_f hK).2]
theorem sg_ne {t d : Nat} (h : sgI t = nI d) (ht : t ≤ 126) (hd : 1 ≤ d ∧ d ≤ 126) : t = d := by have := (sg_eq ht hd).mp h; omega
theorem st_e {e t : Nat} (h : t = e) : stN e t = 4 := if_pos h
theorem st_n {e t : Nat} (h : ¬ t = e) : stN e t = suN t := if_neg h
theorem suN_3 {t : Nat} (h : ¬ suN t = 9) : suN t ≤ 3 := (suN_le t).elim id (fun z => absurd z h)
end CAS
set_option maxHeartbeats 4000000 in
set_option maxRecDepth 100000 in
theorem c_X5_readCall (l : Launch) (G : HG) (A : Nat → Prop) (hp : HP) (sz : Nat) (hA : ∀ q, sz ≤ q → A q) (hO : Ow A hp) (pa vb cv : Nat) (ml : Bool) (fb : Nat → Int32) (pn : Nat) (pt : Nat → Nat) (hSB : SBp G hp pa vb cv ml fb pn pt) (rd rr sp lim : Nat) (hrd : hp rd = some (rdE pa rr sp lim)) (hsp : sp ≤ 90) : Met l yX5_readCall [.code yX5_readCall cX5_readCall 3 (some .int)] { frames := 6, cells := 0, slots := 0, locals := 131 } (va_Pc [.ref rd] (WP G A sz hp)) (va_Qi (fun r hp1 => r = (if caW (txN pn pt) false sp = true then -1 else nI (caV (txN pn pt) false sp)) ∧ hp1 rd = some (rdE pa rr (caS (txN pn pt) false sp) lim) ∧ XF hp hp1 rd) (WB G A) A) 0 0 A := by
  refine wr_ofW (by decide) (Nat.le_of_ble_eq_true rfl) hO ?_
  intro p e s m args below meth c ls X hr hlk hnm hsz hW hl
  have hA : ∀ q, s.heap.size ≤ q → A q := fun q h => hA q (by omega)
  have hl : lv_has ls 3 [(0, .ref rd)] := hl
  have hpn := hSB.2.2.1
  have hcv := hSB.2.2.2.1
  have hcv2 := hSB.2.2.2.2.2.1
  have hcv1 := hSB.2.2.2.2.1
  have ht := tx_126 hSB.2.2.2.2.2.2.2.2 sp
  refine lv_aload_n X.1 X.2.1 dX5_readCall_0 rfl (lv_at hl 0 rfl) ?_
  refine lv_bipush (v := 112) X.1 X.2.1 dX5_readCall_1 (by decide) ?_
  refine on_Wi (k' := 0) (n' := 0) (run_V (C := RX5) (As := [.int 112]) (rest := []) X (c_X5_reads l G A hp _ (fun q h => hA q (Nat.le_trans hW.2.2.1 h)) hW.2.1 pa vb cv ml fb pn pt hSB rd rr sp lim hrd (by omega) 112 ⟨by decide, by decide⟩) (wp_blind _) (wp_at X hW.1 hW.2.2) (recv X hW.1 hrd (C := RX5) (T := TX5) (N := 4) rfl) mf_X5_reads tw_802 tw_804 tw_20 ⟨rfl, rfl, Nat.le_of_ble_eq_true rfl, Nat.le_of_ble_eq_true rfl⟩ hl.1 rfl rfl (Nat.le_of_ble_eq_true rfl) ⟨Nat.le_of_ble_eq_true rfl, Nat.le_of_ble_eq_true rfl⟩ dX5_readCall_3) hW (by omega) (by omega) (fun r_3 hp_1 H locs q_3 hW => ?_)
  obtain ⟨rfl, hr_1, hx_1⟩ := q_3
  have hS_1 := SBp.xf hSB hx_1 hrd (by decide)
  have g_2 : hp_1 rd = some (.inr (6, [.ref pa, .ref rr, .int (nI (tkS (txN pn pt) false 112 112 sp)), .int (nI lim)])) := hr_1
  have g_3 : hp_1 pa = some (.inr (0, [.ref vb, .int 0, .int (bI ml), .int (nI pn)])) := hS_1.1
  have g_4 : hp_1 vb = some (.inl (G.2.1 0, cv, .inl fb)) := hS_1.2.1
  have hle_1 := tkS_le (txN pn pt) false 112 112 sp
  refine lv_if_eq (tgt := 12) X.1 X.2.1 dX5_readCall_6 (by decide) (fun c_6 => ?_) (fun c_6 => ?_)
  · have hp0 := not_t (bI_0 c_6)
    have g_5 : hp_1 rd = some (.inr (6, [.ref pa, .ref rr, .int (nI sp), .int (nI lim)])) := by have z9 := g_2; rw [(tk_t hp0).1] at z9; exact z9
    refine lv_aload_n X.1 X.2.1 dX5_readCall_12 rfl (lv_at hl 0 rfl) ?_
    refine lv_iconst (v := 1) X.1 X.2.1 dX5_readCall_13 (by decide) ?_
    refine lv_iconst (v := 5) X.1 X.2.1 dX5_readCall_14 (by decide) ?_
    refine on_Wi (k' := 0) (n' := 0) (run_V (C := RX5) (As := [.int 1, .int 5]) (rest := []) X (c_X5_readDigit l G A hp_1 _ (fun q h => hA q (Nat.le_trans hW.2.2.1 h)) hW.2.1 pa vb cv ml fb pn pt hS_1 rd rr sp lim g_5 (by omega) 1 5 (by omega) (by omega)) (wp_blind _) (wp_at X hW.1 hW.2.2) (recv X hW.1 g_5 (C := RX5) (T := TX5) (N := 4) rfl) mf_X5_readDigit tw_781 tw_783 tw_18 ⟨rfl, rfl, Nat.le_of_ble_eq_true rfl, Nat.le_of_ble_eq_true rfl⟩ hl.1 rfl rfl (Nat.le_of_ble_eq_true rfl) ⟨Nat.le_of_ble_eq_true rfl, Nat.le_of_ble_eq_true rfl⟩ dX5_readCall_15) hW (by omega) (by omega) (fun r_15 hp_6 H locs q_15 hW => ?_)
    rw [show 48 + 1 = 49 from rfl, show 48 + 5 = 53 from rfl] at q_15
    obtain ⟨rfl, hr_2, hx_2⟩ := q_15
    have hS_2 := SBp.xf hS_1 hx_2 g_5 (by decide)
    have g_7 : hp_6 rd = some (.inr (6, [.ref pa, .ref rr, .int (nI (tkS (txN pn pt) false 49 53 sp)), .int (nI lim)])) := hr_2
    have g_8 : hp_6 pa = some (.inr (0, [.ref vb, .int 0, .int (bI ml), .int (nI pn)])) := hS_2.1
    have g_9 : hp_6 vb = some (.inl (G.2.1 0, cv, .inl fb)) := hS_2.2.1
    have hle_2 := tkS_le (txN pn pt) false 49 53 sp
    by_cases hK : tkW (txN pn pt) false 49 53 sp = true
    · refine r_eqi (if_pos hK) ?_
      refine lv_istore_n (lv' := [(1, .int (-1)), (0, .ref rd)]) X.1 X.2.1 dX5_readCall_18 rfl hl (by decide) rfl (fun ls hl => ?_)
      refine lv_iload_n X.1 X.2.1 dX5_readCall_19 rfl (lv_at hl 0 rfl) ?_
      refine lv_iconst (v := (-1)) X.1 X.2.1 dX5_readCall_20 (by decide) ?_
      refine lv_icmp_ne (tgt := 26) X.1 X.2.1 dX5_readCall_21 (by decide) (fun c_21 => absurd (by decide) c_21) (fun c_21 => ?_)
      refine lv_iconst (v := (-1)) X.1 X.2.1 dX5_readCall_24 (by decide) ?_
      have z9 := ca_B hp0 hK
      exact wr_i X hr hlk hW ⟨(if_pos z9.1).symm, by rw [z9.2]; exact g_7, (XF.tr hx_1 hx_2)⟩ (Nat.le_of_ble_eq_true rfl) (Nat.le_of_ble_eq_true rfl) dX5_readCall_25
    · have y1 := Decidable.not_not.mp (fun y9 => hK (tkW_iff.mpr y9))
      have hc9 := tx_126 hSB.2.2.2.2.2.2.2.2 (tkS (txN pn pt) false 49 53 sp)
      refine r_eqi (if_neg hK) ?_
      refine lv_istore_n (lv' := [(1, .int (nI ((txN pn pt) sp - 48))), (0, .ref rd)]) X.1 X.2.1 dX5_readCall_18 rfl hl (by decide) rfl (fun ls hl => ?_)
      refine lv_iload_n X.1 X.2.1 dX5_readCall_19 rfl (lv_at hl 0 rfl) ?_
      refine lv_iconst (v := (-1)) X.1 X.2.1 dX5_readCall_20 (by decide) ?_
      refine lv_icmp_ne (tgt := 26) X.1 X.2.1 dX5_readCall_21 (by decide) (fun c_21 => ?_) (fun c_21 => absurd c_21 (nI_m1 (by omega)))
      refine lv_aload_n X.1 X.2.1 dX5_readCall_26 rfl (lv_at hl 1 rfl) ?_
      refine on_Si (run_V (C := RX5) (As := []) (rest := []) X (c_X5_sign l G hp_6 pa vb cv ml fb pn pt hS_2 rd rr (tkS (txN pn pt) false 49 53 sp) lim g_7 (by omega)) (rp_blind _) (rp_at X hW.1 hW.2.2) (recv X hW.1 g_7 (C := RX5) (T := TX5) (N := 4) rfl) mf_X5_sign tw_785 tw_787 tw_19 ⟨rfl, rfl, Nat.le_of_ble_eq_true rfl, Nat.le_of_ble_eq_true rfl⟩ hl.1 rfl rfl (Nat.le_of_ble_eq_true rfl) ⟨Nat.le_of_ble_eq_true rfl, Nat.le_of_ble_eq_true rfl⟩ dX5_readCall_27) (fun r_27 q_27 => ?_)
      obtain rfl : r_27 = (sgI ((txN pn pt) (tkS (txN pn pt) false 49 53 sp))) := q_27
      refine lv_bipush (v := 110) X.1 X.2.1 dX5_readCall_30 (by decide) ?_
      refine lv_icmp_ne (tgt := 39) X.1 X.2.1 dX5_readCall_32 (by decide) (fun c_32 => ?_) (fun c_32 => ?_)
      · have x32 : ¬ (txN pn pt) (tkS (txN pn pt) false 49 53 sp) = 110 := fun z9 => c_32 (by rw [z9]; rfl)
        refine lv_aload_n X.1 X.2.1 dX5_readCall_39 rfl (lv_at hl 1 rfl) ?_
        refine on_Si (run_V (C := RX5) (As := []) (rest := []) X (c_X5_suitOfSign l G hp_6 pa vb cv ml fb pn pt hS_2 rd rr (tkS (txN pn pt) false 49 53 sp) lim g_7 (by omega)) (rp_blind _) (rp_at X hW.1 hW.2.2) (recv X hW.1 g_7 (C := RX5) (T := TX5) (N := 4) rfl) mf_X5_suitOfSign tw_810 tw_812 tw_22 ⟨rfl, rfl, Nat.le_of_ble_eq_true rfl, Nat.le_of_ble_eq_true rfl⟩ hl.1 rfl rfl (Nat.le_of_ble_eq_true rfl) ⟨Nat.le_of_ble_eq_true rfl, Nat.le_of_ble_eq_true rfl⟩ dX5_readCall_40) (fun r_40 q_40 => ?_)
        obtain rfl : r_40 = (suO ((txN pn pt) (tkS (txN pn pt) false 49 53 sp))) := q_40
        by_cases hT : suN ((txN pn pt) (tkS (txN pn pt) false 49 53 sp)) = 9
        · refine r_eqi (if_pos hT) ?_
          refine lv_istore_n (lv' := [(2, .int (-1)), (1, .int (nI ((txN pn pt) sp - 48))), (0, .ref rd)]) X.1 X.2.1 dX5_readCall_43 rfl hl (by decide) rfl (fun ls hl => ?_)
          refine lv_iload_n X.1 X.2.1 dX5_readCall_44 rfl (lv_at hl 0 rfl) ?_
          refine lv_iconst (v := (-1)) X.1 X.2.1 dX5_readCall_45 (by decide) ?_
          refine lv_icmp_ne (tgt := 51) X.1 X.2.1 dX5_readCall_46 (by decide) (fun c_46 => absurd (by decide) c_46) (fun c_46 => ?_)
          refine lv_iconst (v := (-1)) X.1 X.2.1 dX5_readCall_49 (by decide) ?_
          have z9 := ca_C hp0 ((st_n x32).trans hT)
          exact wr_i X hr hlk hW ⟨(if_pos z9.1).symm, by rw [z9.2]; exact g_7, (XF.tr hx_1 hx_2)⟩ (Nat.le_of_ble_eq_true rfl) (Nat.le_of_ble_eq_true rfl) dX5_readCall_50
        · have hs3 := suN_3 hT
          refine r_eqi (if_neg hT) ?_
          refine lv_istore_n (lv' := [(2, .int (nI (suN ((txN pn pt) (tkS (txN pn pt) false 49 53 sp))))), (1, .int (nI ((txN pn pt) sp - 48))), (0, .ref rd)]) X.1 X.2.1 dX5_readCall_43 rfl hl (by decide) rfl (fun ls hl => ?_)
          refine lv_iload_n X.1 X.2.1 dX5_readCall_44 rfl (lv_at hl 0 rfl) ?_
          refine lv_iconst (v := (-1)) X.1 X.2.1 dX5_readCall_45 (by decide) ?_
          refine lv_icmp_ne (tgt := 51) X.1 X.2.1 dX5_readCall_46 (by decide) (fun c_46 => ?_) (fun c_46 => absurd c_46 (nI_m1 (by omega)))
          refine lv_aload_n X.1 X.2.1 dX5_readCall_51 rfl (lv_at hl 2 rfl) ?_
          refine lv_dup X.1 X.2.1 dX5_readCall_52 rfl ?_
          refine r_get X hW.1 g_7 (v := .int (nI (tkS (txN pn pt) false 49 53 sp))) (C := RX5) (T := TX5) (N := 4) rfl tin_X5 2 (by decide) tw_761 (fun _ h => h) rfl dX5_readCall_53 ?_
          refine lv_iconst (v := 1) X.1 X.2.1 dX5_readCall_56 (by decide) ?_
          refine lv_iadd X.1 X.2.1 dX5_readCall_57 ?_
          refine r_eqi (show (((nI (tkS (txN pn pt) false 49 53 sp)) + 1) : Int32) = nI ((tkS (txN pn pt) false 49 53 sp) + 1) from nI_add (tkS (txN pn pt) false 49 53 sp) 1) ?_
          refine r_put X hW g_7 (v := .int (nI ((tkS (txN pn pt) false 49 53 sp) + 1))) (C := RX5) (T := TX5) (N := 4) rfl tin_X5 tyX5_ok nmX5 2 (Nat.le_of_ble_eq_true rfl) tw_761 (fun _ h => h) rfl rfl rfl (Nat.le_of_ble_eq_true rfl) dX5_readCall_58 (fun hp_10 H locs hW eh_11 => ?_)
          have f_12 : hp_10 rd = some (.inr (6, [.ref pa, .ref rr, .int (nI ((tkS (txN pn pt) false 49 53 sp) + 1)), .int (nI lim)])) := by rw [eh_11]; exact va_up_self _ _ _
          refine lv_iload_n X.1 X.2.1 dX5_readCall_61 rfl (lv_at hl 1 rfl) ?_
          refine lv_iconst (v := 1) X.1 X.2.1 dX5_readCall_62 (by decide) ?_
          refine lv_isub X.1 X.2.1 dX5_readCall_63 ?_
          refine r_eqi (show (((nI ((txN pn pt) sp - 48)) - 1) : Int32) = nI (((txN pn pt) sp - 48) - 1) from pk_sub (a := ((txN pn pt) sp - 48)) (b := 1) (by omega)) ?_
          refine lv_iconst (v := 5) X.1 X.2.1 dX5_readCall_64 (by decide) ?_
          refine lv_imul X.1 X.2.1 dX5_readCall_65 ?_
          refine r_eqi (show (((nI (((txN pn pt) sp - 48) - 1)) * 5) : Int32) = nI ((((txN pn pt) sp - 48) - 1) * 5) from pk_mul (((txN pn pt) sp - 48) - 1) 5) ?_
          refine lv_iload_n X.1 X.2.1 dX5_readCall_66 rfl (lv_at hl 0 rfl) ?_
          refine lv_iadd X.1 X.2.1 dX5_readCall_67 ?_
          refine r_eqi (show (((nI ((((txN pn pt) sp - 48) - 1) * 5)) + (nI (suN ((txN pn pt) (tkS (txN pn pt) false 49 53 sp))))) : Int32) = nI (((((txN pn pt) sp - 48) - 1) * 5) + (suN ((txN pn pt) (tkS (txN pn pt) false 49 53 sp)))) from nI_add ((((txN pn pt) sp - 48) - 1) * 5) (suN ((txN pn pt) (tkS (txN pn pt) false 49 53 sp)))) ?_
          have w9 : stN 110 ((txN pn pt) (tkS (txN pn pt) false 49 53 sp)) = suN ((txN pn pt) (tkS (txN pn pt) false 49 53 sp)) := st_n x32
          have z9 := ca_D hp0 hK (by rw [w9]; exact hT)
          exact wr_i X hr hlk hW ⟨by rw [if_neg (fun y9 => Bool.false_ne_true (z9.1.symm.trans y9)), z9.2.2, w9]; exact congrArg nI (by omega), by rw [z9.2.1]; exact f_12, (XF.up (XF.tr hx_1 hx_2) eh_11)⟩ (Nat.le_of_ble_eq_true rfl) (Nat.le_of_ble_eq_true rfl) dX5_readCall_68
      · have x32 : (txN pn pt) (tkS (txN pn pt) false 49 53 sp) = 110 := sg_ne c_32 hc9 ⟨by decide, by decide⟩
        refine lv_iconst (v := 4) X.1 X.2.1 dX5_readCall_35 (by decide) ?_
        refine lv_goto (tgt := 43) X.1 X.2.1 dX5_readCall_36 (by decide) ?_
        refine lv_istore_n (lv' := [(2, .int 4), (1, .int (nI ((txN pn pt) sp - 48))), (0, .ref rd)]) X.1 X.2.1 dX5_readCall_43 rfl hl (by decide) rfl (fun ls hl => ?_)
        refine lv_iload_n X.1 X.2.1 dX5_readCall_44 rfl (lv_at hl 0 rfl) ?_
        refine lv_iconst (v := (-1)) X.1 X.2.1 dX5_readCall_45 (by decide) ?_
        refine lv_icmp_ne (tgt := 51) X.1 X.2.1 dX5_readCall_46 (by decide) (fun c_46 => ?_) (fun c_46 => absurd c_46 (by decide))
        refine lv_aload_n X.1 X.2.1 dX5_readCall_51 rfl (lv_at hl 2 rfl) ?_
        refine lv_dup X.1 X.2.1 dX5_readCall_52 rfl ?_
        refine r_get X hW.1 g_7 (v := .int (nI (tkS (txN pn pt) false 49 53 sp))) (C := RX5) (T := TX5) (N := 4) rfl tin_X5 2 (by decide) tw_761 (fun _ h => h) rfl dX5_readCall_53 ?_
        refine lv_iconst (v := 1) X.1 X.2.1 dX5_readCall_56 (by decide) ?_
        refine lv_iadd X.1 X.2.1 dX5_readCall_57 ?_
        refine r_eqi (show (((nI (tkS (txN pn pt) false 49 53 sp)) + 1) : Int32) = nI ((tkS (txN pn pt) false 49 53 sp) + 1) from nI_add (tkS (txN pn pt) false 49 53 sp) 1) ?_
        refine r_put X hW g_7 (v := .int (nI ((tkS (txN pn pt) false 49 53 sp) + 1))) (C := RX5) (T := TX5) (N := 4) rfl tin_X5 tyX5_ok nmX5 2 (Nat.le_of_ble_eq_true rfl) tw_761 (fun _ h => h) rfl rfl rfl (Nat.le_of_ble_eq_true rfl) dX5_readCall_58 (fun hp_13 H locs hW eh_14 => ?_)
        have f_15 : hp_13 rd = some (.inr (6, [.ref pa, .ref rr, .int (nI ((tkS (txN pn pt) false 49 53 sp) + 1)), .int (nI lim)])) := by rw [eh_14]; exact va_up_self _ _ _
        refine lv_iload_n X.1 X.2.1 dX5_readCall_61 rfl (lv_at hl 1 rfl) ?_
        refine lv_iconst (v := 1) X.1 X.2.1 dX5_readCall_62 (by decide) ?_
        refine lv_isub X.1 X.2.1 dX5_readCall_63 ?_
        refine r_eqi (show (((nI ((txN pn pt) sp - 48)) - 1) : Int32) = nI (((txN pn pt) sp - 48) - 1) from pk_sub (a := ((txN pn pt) sp - 48)) (b := 1) (by omega)) ?_
        refine lv_iconst (v := 5) X.1 X.2.1 dX5_readCall_64 (by decide) ?_
        refine lv_imul X.1 X.2.1 dX5_readCall_65 ?_
        refine r_eqi (show (((nI (((txN pn pt) sp - 48) - 1)) * 5) : Int32) = nI ((((txN pn pt) sp - 48) - 1) * 5) from pk_mul (((txN pn pt) sp - 48) - 1) 5) ?_
        refine lv_iload_n X.1 X.2.1 dX5_readCall_66 rfl (lv_at hl 0 rfl) ?_
        refine lv_iadd X.1 X.2.1 dX5_readCall_67 ?_
        refine r_eqi (show (((nI ((((txN pn pt) sp - 48) - 1) * 5)) + 4) : Int32) = nI (((((txN pn pt) sp - 48) - 1) * 5) + 4) from nI_add ((((txN pn pt) sp - 48) - 1) * 5) 4) ?_
        have w9 : stN 110 ((txN pn pt) (tkS (txN pn pt) false 49 53 sp)) = 4 := st_e x32
        have z9 := ca_D hp0 hK (by rw [w9]; decide)
        exact wr_i X hr hlk hW ⟨by rw [if_neg (fun y9 => Bool.false_ne_true (z9.1.symm.trans y9)), z9.2.2, w9]; exact congrArg nI (by omega), by rw [z9.2.1]; exact f_15, (XF.up (XF.tr hx_1 hx_2) eh_14)⟩ (Nat.le_of_ble_eq_true rfl) (Nat.le_of_ble_eq_true rfl) dX5_readCall_68
  · refine lv_bipush (v := 25) X.1 X.2.1 dX5_readCall_9 (by decide) ?_
    have z9 := ca_A (not_f (bI_1 c_6))
    exact wr_i X hr hlk hW ⟨by rw [if_neg (fun y9 => Bool.false_ne_true (z9.1.symm.trans y9)), z9.2.2]; rfl, by rw [z9.2.1]; exact g_2, hx_1⟩ (Nat.le_of_ble_eq_true rfl) (Nat.le_of_ble_eq_true rfl) dX5_readCall_11

section CDS
variable {tx : Nat → Nat} {p h : Nat}
theorem cdX_9 (e : whN tx p = 9) : cdX tx h p = true := by unfold cdX; rw [decide_eq_true e]; rfl
theorem cdX_1 (e : h / 2 ^ whN tx p % 2 = 1) : cdX tx h p = true := by unfold cdX; rw [decide_eq_true e, Bool.or_true]
theorem cdX_0 (e : ¬ whN tx p = 9) (e2 : ¬ h / 2 ^ whN tx p % 2 = 1) : cdX tx h p = false := by unfold cdX; rw [decide_eq_false e, decide_eq_false e2]; rfl
end CDS
set_option maxHeartbeats 4000000 in
set_option maxRecDepth 100000 in
theorem c_X5_readKind (l : Launch) (G : HG) (A : Nat → Prop) (hp : HP) (sz : Nat) (hA : ∀ q, sz ≤ q → A q) (hO : Ow A hp) (pa vb cv : Nat) (ml : Bool) (fb : Nat → Int32) (pn : Nat) (pt : Nat → Nat) (hSB : SBp G hp pa vb cv ml fb pn pt) (rd rr sp lim : Nat) (hrd : hp rd = some (rdE pa rr sp lim)) (hsp : sp ≤ 90) (hlim : lim < 32) : Met l yX5_readKind [.code yX5_readKind cX5_readKind 2 (some .int)] { frames := 6, cells := 0, slots := 0, locals := 129 } (va_Pc [.ref rd] (WP G A sz hp)) (va_Qi (fun r hp1 => r = (if tkW (txN pn pt) false 44 44 sp = true ∨ cdX (txN pn pt) lim (sp + 1) = true then -1 else nI (whN (txN pn pt) (sp + 1))) ∧ hp1 rd = some (rdE pa rr (if tkW (txN pn pt) false 44 44 sp = true then sp else if cdX (txN pn pt) lim (sp + 1) = true then sp + 1 else sp + 1 + 1) (if tkW (txN pn pt) false 44 44 sp = true ∨ cdX (txN pn pt) lim (sp + 1) = true then lim else lim ||| 2 ^ (whN (txN pn pt) (sp + 1)))) ∧ XF hp hp1 rd) (WB G A) A) 0 0 A := by
  refine wr_ofW (by decide) (Nat.le_of_ble_eq_true rfl) hO ?_
  intro p e s m args below meth c ls X hr hlk hnm hsz hW hl
  have hA : ∀ q, s.heap.size ≤ q → A q := fun q h => hA q (by omega)
  have hl : lv_has ls 2 [(0, .ref rd)] := hl
  have hpn := hSB.2.2.1
  have hcv := hSB.2.2.2.1
  have hcv2 := hSB.2.2.2.2.2.1
  have hcv1 := hSB.2.2.2.2.1
  refine lv_aload_n X.1 X.2.1 dX5_readKind_0 rfl (lv_at hl 0 rfl) ?_
  refine lv_bipush (v := 44) X.1 X.2.1 dX5_readKind_1 (by decide) ?_
  refine on_Wi (k' := 0) (n' := 0) (run_V (C := RX5) (As := [.int 44]) (rest := []) X (c_X5_reads l G A hp _ (fun q h => hA q (Nat.le_trans hW.2.2.1 h)) hW.2.1 pa vb cv ml fb pn pt hSB rd rr sp lim hrd (by omega) 44 ⟨by decide, by decide⟩) (wp_blind _) (wp_at X hW.1 hW.2.2) (recv X hW.1 hrd (C := RX5) (T := TX5) (N := 4) rfl) mf_X5_reads tw_802 tw_804 tw_20 ⟨rfl, rfl, Nat.le_of_ble_eq_true rfl, Nat.le_of_ble_eq_true rfl⟩ hl.1 rfl rfl (Nat.le_of_ble_eq_true rfl) ⟨Nat.le_of_ble_eq_true rfl, Nat.le_of_ble_eq_true rfl⟩ dX5_readKind_3) hW (by omega) (by omega) (fun r_3 hp_1 H locs q_3 hW => ?_)
  obtain ⟨rfl, hr_1, hx_1⟩ := q_3
  have hS_1 := SBp.xf hSB hx_1 hrd (by decide)
  have g_2 : hp_1 rd = some (.inr (6, [.ref pa, .ref rr, .int (nI (tkS (txN pn pt) false 44 44 sp)), .int (nI lim)])) := hr_1
  have g_3 : hp_1 pa = some (.inr (0, [.ref vb, .int 0, .int (bI ml), .int (nI pn)])) := hS_1.1
  have g_4 : hp_1 vb = some (.inl (G.2.1 0, cv, .inl fb)) := hS_1.2.1
  have hle_1 := tkS_le (txN pn pt) false 44 44 sp
  refine lv_if_ne (tgt := 11) X.1 X.2.1 dX5_readKind_6 (by decide) (fun c_6 => ?_) (fun c_6 => ?_)
  · have hcm0 := not_f (bI_1 c_6)
    have hcm : ¬ tkW (txN pn pt) false 44 44 sp = true := fun z9 => Bool.false_ne_true (hcm0.symm.trans z9)
    have g_5 : hp_1 rd = some (.inr (6, [.ref pa, .ref rr, .int (nI (sp + 1)), .int (nI lim)])) := by have z9 := g_2; rw [(tk_f hcm).1] at z9; exact z9
    have hc9 := tx_126 hSB.2.2.2.2.2.2.2.2 (sp + 1)
    refine lv_aload_n X.1 X.2.1 dX5_readKind_11 rfl (lv_at hl 0 rfl) ?_
    refine on_Si (run_V (C := RX5) (As := []) (rest := []) X (c_X5_sign l G hp_1 pa vb cv ml fb pn pt hS_1 rd rr (sp + 1) lim g_5 (by omega)) (rp_blind _) (rp_at X hW.1 hW.2.2) (recv X hW.1 g_5 (C := RX5) (T := TX5) (N := 4) rfl) mf_X5_sign tw_785 tw_787 tw_19 ⟨rfl, rfl, Nat.le_of_ble_eq_true rfl, Nat.le_of_ble_eq_true rfl⟩ hl.1 rfl rfl (Nat.le_of_ble_eq_true rfl) ⟨Nat.le_of_ble_eq_true rfl, Nat.le_of_ble_eq_true rfl⟩ dX5_readKind_12) (fun r_12 q_12 => ?_)
    obtain rfl : r_12 = (sgI ((txN pn pt) (sp + 1))) := q_12
    refine lv_bipush (v := 43) X.1 X.2.1 dX5_readKind_15 (by decide) ?_
    refine lv_icmp_ne (tgt := 24) X.1 X.2.1 dX5_readKind_17 (by decide) (fun c_17 => ?_) (fun c_17 => ?_)
    · have x17 : ¬ (txN pn pt) (sp + 1) = 43 := fun z9 => c_17 (by rw [z9]; rfl)
      refine lv_aload_n X.1 X.2.1 dX5_readKind_24 rfl (lv_at hl 0 rfl) ?_
      refine on_Si (run_V (C := RX5) (As := []) (rest := []) X (c_X5_suitOfSign l G hp_1 pa vb cv ml fb pn pt hS_1 rd rr (sp + 1) lim g_5 (by omega)) (rp_blind _) (rp_at X hW.1 hW.2.2) (recv X hW.1 g_5 (C := RX5) (T := TX5) (N := 4) rfl) mf_X5_suitOfSign tw_810 tw_812 tw_22 ⟨rfl, rfl, Nat.le_of_ble_eq_true rfl, Nat.le_of_ble_eq_true rfl⟩ hl.1 rfl rfl (Nat.le_of_ble_eq_true rfl) ⟨Nat.le_of_ble_eq_true rfl, Nat.le_of_ble_eq_true rfl⟩ dX5_readKind_25) (fun r_25 q_25 => ?_)
      obtain rfl : r_25 = (suO ((txN pn pt) (sp + 1))) := q_25
      by_cases hT : suN ((txN pn pt) (sp + 1)) = 9
      · refine r_eqi (if_pos hT) ?_
        refine lv_istore_n (lv' := [(1, .int (-1)), (0, .ref rd)]) X.1 X.2.1 dX5_readKind_28 rfl hl (by decide) rfl (fun ls hl => ?_)
        refine lv_iload_n X.1 X.2.1 dX5_readKind_29 rfl (lv_at hl 0 rfl) ?_
        refine lv_iconst (v := (-1)) X.1 X.2.1 dX5_readKind_30 (by decide) ?_
        refine lv_icmp_eq (tgt := 46) X.1 X.2.1 dX5_readKind_31 (by decide) (fun c_31 => ?_) (fun c_31 => absurd (by decide) c_31)
        refine lv_iconst (v := (-1)) X.1 X.2.1 dX5_readKind_46 (by decide) ?_
        have hX : cdX (txN pn pt) lim (sp + 1) = true := cdX_9 ((st_n x17).trans hT)
        exact wr_i X hr hlk hW ⟨(if_pos (Or.inr hX)).symm, by rw [if_neg hcm, if_pos hX, if_pos (Or.inr hX)]; exact g_5, hx_1⟩ (Nat.le_of_ble_eq_true rfl) (Nat.le_of_ble_eq_true rfl) dX5_readKind_47
      · have hs3 := suN_3 hT
        refine r_eqi (if_neg hT) ?_
        refine lv_istore_n (lv' := [(1, .int (nI (suN ((txN pn pt) (sp + 1))))), (0, .ref rd)]) X.1 X.2.1 dX5_readKind_28 rfl hl (by decide) rfl (fun ls hl => ?_)
        refine lv_iload_n X.1 X.2.1 dX5_readKind_29 rfl (lv_at hl 0 rfl) ?_
        refine lv_iconst (v := (-1)) X.1 X.2.1 dX5_readKind_30 (by decide) ?_
        refine lv_icmp_eq (tgt := 46) X.1 X.2.1 dX5_readKind_31 (by decide) (fun c_31 => absurd c_31 (nI_m1 (by omega))) (fun c_31 => ?_)
        refine lv_aload_n X.1 X.2.1 dX5_readKind_34 rfl (lv_at hl 1 rfl) ?_
        refine r_get X hW.1 g_5 (v := .int (nI lim)) (C := RX5) (T := TX5) (N := 4) rfl tin_X5 3 (by decide) tw_763 (fun _ h => h) rfl dX5_readKind_35 ?_
        refine lv_iload_n X.1 X.2.1 dX5_readKind_38 rfl (lv_at hl 0 rfl) ?_
        have hdl : lim / 2 ^ (suN ((txN pn pt) (sp + 1))) ≤ lim := Nat.div_le_self _ _
        refine lv_ishr X.1 X.2.1 dX5_readKind_39 ?_
        refine r_eqi (show (((nI lim) >>> ((nI (suN ((txN pn pt) (sp + 1)))) &&& 31)) : Int32) = nI (lim / 2 ^ (suN ((txN pn pt) (sp + 1)))) from shrV lim (suN ((txN pn pt) (sp + 1))) (by omega) (by omega)) ?_
        refine lv_iconst (v := 1) X.1 X.2.1 dX5_readKind_40 (by decide) ?_
        refine lv_iand X.1 X.2.1 dX5_readKind_41 ?_
        refine r_eqi (show (((nI (lim / 2 ^ (suN ((txN pn pt) (sp + 1))))) &&& 1) : Int32) = nI ((lim / 2 ^ (suN ((txN pn pt) (sp + 1)))) % 2) from n_and1 (lim / 2 ^ (suN ((txN pn pt) (sp + 1))))) ?_
        refine lv_iconst (v := 1) X.1 X.2.1 dX5_readKind_42 (by decide) ?_
        refine lv_icmp_ne (tgt := 48) X.1 X.2.1 dX5_readKind_43 (by decide) (fun c_43 => ?_) (fun c_43 => ?_)
        · have k_43 := k_ne (a := ((lim / 2 ^ (suN ((txN pn pt) (sp + 1)))) % 2)) (b := 1) (by omega) (by omega) c_43
          refine lv_aload_n X.1 X.2.1 dX5_readKind_48 rfl (lv_at hl 1 rfl) ?_
          refine lv_dup X.1 X.2.1 dX5_readKind_49 rfl ?_
          refine r_get X hW.1 g_5 (v := .int (nI (sp + 1))) (C := RX5) (T := TX5) (N := 4) rfl tin_X5 2 (by decide) tw_761 (fun _ h => h) rfl dX5_readKind_50 ?_
          refine lv_iconst (v := 1) X.1 X.2.1 dX5_readKind_53 (by decide) ?_
          refine lv_iadd X.1 X.2.1 dX5_readKind_54 ?_
          refine r_eqi (show (((nI (sp + 1)) + 1) : Int32) = nI ((sp + 1) + 1) from nI_add (sp + 1) 1) ?_
          refine r_put X hW g_5 (v := .int (nI ((sp + 1) + 1))) (C := RX5) (T := TX5) (N := 4) rfl tin_X5 tyX5_ok nmX5 2 (Nat.le_of_ble_eq_true rfl) tw_761 (fun _ h => h) rfl rfl rfl (Nat.le_of_ble_eq_true rfl) dX5_readKind_55 (fun hp_6 H locs hW eh_7 => ?_)
          have f_8 : hp_6 rd = some (.inr (6, [.ref pa, .ref rr, .int (nI ((sp + 1) + 1)), .int (nI lim)])) := by rw [eh_7]; exact va_up_self _ _ _
          refine lv_aload_n X.1 X.2.1 dX5_readKind_58 rfl (lv_at hl 1 rfl) ?_
          refine lv_dup X.1 X.2.1 dX5_readKind_59 rfl ?_
          refine r_get X hW.1 f_8 (v := .int (nI lim)) (C := RX5) (T := TX5) (N := 4) rfl tin_X5 3 (by decide) tw_763 (fun _ h => h) rfl dX5_readKind_60 ?_
          refine lv_iconst (v := 1) X.1 X.2.1 dX5_readKind_63 (by decide) ?_
          refine lv_iload_n X.1 X.2.1 dX5_readKind_64 rfl (lv_at hl 0 rfl) ?_
          refine lv_ishl X.1 X.2.1 dX5_readKind_65 ?_
          refine r_eqi (show ((1 <<< ((nI (suN ((txN pn pt) (sp + 1)))) &&& 31)) : Int32) = nI (2 ^ (suN ((txN pn pt) (sp + 1)))) from shlV (suN ((txN pn pt) (sp + 1))) (by omega)) ?_
          refine lv_ior X.1 X.2.1 dX5_readKind_66 ?_
          refine r_eqi (show (((nI lim) ||| (nI (2 ^ (suN ((txN pn pt) (sp + 1)))))) : Int32) = nI (lim ||| (2 ^ (suN ((txN pn pt) (sp + 1))))) from n_or lim (2 ^ (suN ((txN pn pt) (sp + 1))))) ?_
          refine r_put X hW f_8 (v := .int (nI (lim ||| (2 ^ (suN ((txN pn pt) (sp + 1))))))) (C := RX5) (T := TX5) (N := 4) rfl tin_X5 tyX5_ok nmX5 3 (Nat.le_of_ble_eq_true rfl) tw_763 (fun _ h => h) rfl rfl rfl (Nat.le_of_ble_eq_true rfl) dX5_readKind_67 (fun hp_9 H locs hW eh_10 => ?_)
          have f_11 : hp_9 rd = some (.inr (6, [.ref pa, .ref rr, .int (nI ((sp + 1) + 1)), .int (nI (lim ||| (2 ^ (suN ((txN pn pt) (sp + 1))))))])) := by rw [eh_10]; exact va_up_self _ _ _
          refine lv_iload_n X.1 X.2.1 dX5_readKind_70 rfl (lv_at hl 0 rfl) ?_
          have hX : cdX (txN pn pt) lim (sp + 1) = false := cdX_0 (by rw [show whN (txN pn pt) (sp + 1) = _ from (st_n x17)]; exact hT) (by rw [show whN (txN pn pt) (sp + 1) = _ from (st_n x17)]; exact k_43)
          have hno : ¬ (tkW (txN pn pt) false 44 44 sp = true ∨ cdX (txN pn pt) lim (sp + 1) = true) := fun z9 => Or.elim z9 hcm (fun z9 => Bool.false_ne_true (hX.symm.trans z9))
          exact wr_i X hr hlk hW ⟨by rw [if_neg hno, show whN (txN pn pt) (sp + 1) = _ from (st_n x17)] <;> rfl, by rw [if_neg hcm, if_neg (fun z9 => Bool.false_ne_true (hX.symm.trans z9)), if_neg hno, show whN (txN pn pt) (sp + 1) = _ from (st_n x17)]; exact f_11, (XF.up (XF.up hx_1 eh_7) eh_10)⟩ (Nat.le_of_ble_eq_true rfl) (Nat.le_of_ble_eq_true rfl) dX5_readKind_71
        · have k_43 := k_eq (a := ((lim / 2 ^ (suN ((txN pn pt) (sp + 1)))) % 2)) (b := 1) (by omega) (by omega) c_43
          refine lv_iconst (v := (-1)) X.1 X.2.1 dX5_readKind_46 (by decide) ?_
          have hX : cdX (txN pn pt) lim (sp + 1) = true := cdX_1 (by rw [show whN (txN pn pt) (sp + 1) = _ from (st_n x17)]; exact k_43)
          exact wr_i X hr hlk hW ⟨(if_pos (Or.inr hX)).symm, by rw [if_neg hcm, if_pos hX, if_pos (Or.inr hX)]; exact g_5, hx_1⟩ (Nat.le_of_ble_eq_true rfl) (Nat.le_of_ble_eq_true rfl) dX5_readKind_47
    · have x17 : (txN pn pt) (sp + 1) = 43 := sg_ne c_17 hc9 ⟨by decide, by decide⟩
      refine lv_iconst (v := 4) X.1 X.2.1 dX5_readKind_20 (by decide) ?_
      refine lv_goto (tgt := 28) X.1 X.2.1 dX5_readKind_21 (by decide) ?_
      refine lv_istore_n (lv' := [(1, .int 4), (0, .ref rd)]) X.1 X.2.1 dX5_readKind_28 rfl hl (by decide) rfl (fun ls hl => ?_)
      refine lv_iload_n X.1 X.2.1 dX5_readKind_29 rfl (lv_at hl 0 rfl) ?_
      refine lv_iconst (v := (-1)) X.1 X.2.1 dX5_readKind_30 (by decide) ?_
      refine lv_icmp_eq (tgt := 46) X.1 X.2.1 dX5_readKind_31 (by decide) (fun c_31 => absurd c_31 (by decide)) (fun c_31 => ?_)
      refine lv_aload_n X.1 X.2.1 dX5_readKind_34 rfl (lv_at hl 1 rfl) ?_
      refine r_get X hW.1 g_5 (v := .int (nI lim)) (C := RX5) (T := TX5) (N := 4) rfl tin_X5 3 (by decide) tw_763 (fun _ h => h) rfl dX5_readKind_35 ?_
      refine lv_iload_n X.1 X.2.1 dX5_readKind_38 rfl (lv_at hl 0 rfl) ?_
      have hdl : lim / 2 ^ 4 ≤ lim := Nat.div_le_self _ _
      refine lv_ishr X.1 X.2.1 dX5_readKind_39 ?_
      refine r_eqi (show (((nI lim) >>> (4 &&& 31)) : Int32) = nI (lim / 2 ^ 4) from shrV lim 4 (by omega) (by omega)) ?_
      refine lv_iconst (v := 1) X.1 X.2.1 dX5_readKind_40 (by decide) ?_
      refine lv_iand X.1 X.2.1 dX5_readKind_41 ?_
      refine r_eqi (show (((nI (lim / 2 ^ 4)) &&& 1) : Int32) = nI ((lim / 2 ^ 4) % 2) from n_and1 (lim / 2 ^ 4)) ?_
      refine lv_iconst (v := 1) X.1 X.2.1 dX5_readKind_42 (by decide) ?_
      refine lv_icmp_ne (tgt := 48) X.1 X.2.1 dX5_readKind_43 (by decide) (fun c_43 => ?_) (fun c_43 => ?_)
      · have k_43 := k_ne (a := ((lim / 2 ^ 4) % 2)) (b := 1) (by omega) (by omega) c_43
        refine lv_aload_n X.1 X.2.1 dX5_readKind_48 rfl (lv_at hl 1 rfl) ?_
        refine lv_dup X.1 X.2.1 dX5_readKind_49 rfl ?_
        refine r_get X hW.1 g_5 (v := .int (nI (sp + 1))) (C := RX5) (T := TX5) (N := 4) rfl tin_X5 2 (by decide) tw_761 (fun _ h => h) rfl dX5_readKind_50 ?_
        refine lv_iconst (v := 1) X.1 X.2.1 dX5_readKind_53 (by decide) ?_
        refine lv_iadd X.1 X.2.1 dX5_readKind_54 ?_
        refine r_eqi (show (((nI (sp + 1)) + 1) : Int32) = nI ((sp + 1) + 1) from nI_add (sp + 1) 1) ?_
        refine r_put X hW g_5 (v := .int (nI ((sp + 1) + 1))) (C := RX5) (T := TX5) (N := 4) rfl tin_X5 tyX5_ok nmX5 2 (Nat.le_of_ble_eq_true rfl) tw_761 (fun _ h => h) rfl rfl rfl (Nat.le_of_ble_eq_true rfl) dX5_readKind_55 (fun hp_12 H locs hW eh_13 => ?_)
        have f_14 : hp_12 rd = some (.inr (6, [.ref pa, .ref rr, .int (nI ((sp + 1) + 1)), .int (nI lim)])) := by rw [eh_13]; exact va_up_self _ _ _
        refine lv_aload_n X.1 X.2.1 dX5_readKind_58 rfl (lv_at hl 1 rfl) ?_
        refine lv_dup X.1 X.2.1 dX5_readKind_59 rfl ?_
        refine r_get X hW.1 f_14 (v := .int (nI lim)) (C := RX5) (T := TX5) (N := 4) rfl tin_X5 3 (by decide) tw_763 (fun _ h => h) rfl dX5_readKind_60 ?_
        refine lv_iconst (v := 1) X.1 X.2.1 dX5_readKind_63 (by decide) ?_
        refine lv_iload_n X.1 X.2.1 dX5_readKind_64 rfl (lv_at hl 0 rfl) ?_
        refine lv_ishl X.1 X.2.1 dX5_readKind_65 ?_
        refine r_eqi (show (((1 : Int32) <<< (4 &&& 31)) : Int32) = 16 from (by decide)) ?_
        refine lv_ior X.1 X.2.1 dX5_readKind_66 ?_
        refine r_eqi (show (((nI lim) ||| 16) : Int32) = nI (lim ||| 16) from n_or lim 16) ?_
        refine r_put X hW f_14 (v := .int (nI (lim ||| 16))) (C := RX5) (T := TX5) (N := 4) rfl tin_X5 tyX5_ok nmX5 3 (Nat.le_of_ble_eq_true rfl) tw_763 (fun _ h => h) rfl rfl rfl (Nat.le_of_ble_eq_true rfl) dX5_readKind_67 (fun hp_15 H locs hW eh_16 => ?_)
        have f_17 : hp_15 rd = some (.inr (6, [.ref pa, .ref rr, .int (nI ((sp + 1) + 1)), .int (nI (lim ||| 16))])) := by rw [eh_16]; exact va_up_self _ _ _
        refine lv_iload_n X.1 X.2.1 dX5_readKind_70 rfl (lv_at hl 0 rfl) ?_
        have hX : cdX (txN pn pt) lim (sp + 1) = false := cdX_0 (by rw [show whN (txN pn pt) (sp + 1) = _ from (st_e x17)]; decide) (by rw [show whN (txN pn pt) (sp + 1) = _ from (st_e x17)]; exact k_43)
        have hno : ¬ (tkW (txN pn pt) false 44 44 sp = true ∨ cdX (txN pn pt) lim (sp + 1) = true) := fun z9 => Or.elim z9 hcm (fun z9 => Bool.false_ne_true (hX.symm.trans z9))
        exact wr_i X hr hlk hW ⟨by rw [if_neg hno, show whN (txN pn pt) (sp + 1) = _ from (st_e x17)] <;> rfl, by rw [if_neg hcm, if_neg (fun z9 => Bool.false_ne_true (hX.symm.trans z9)), if_neg hno, show whN (txN pn pt) (sp + 1) = _ from (st_e x17)]; exact f_17, (XF.up (XF.up hx_1 eh_13) eh_16)⟩ (Nat.le_of_ble_eq_true rfl) (Nat.le_of_ble_eq_true rfl) dX5_readKind_71
      · have k_43 := k_eq (a := ((lim / 2 ^ 4) % 2)) (b := 1) (by omega) (by omega) c_43
        refine lv_iconst (v := (-1)) X.1 X.2.1 dX5_readKind_46 (by decide) ?_
        have hX : cdX (txN pn pt) lim (sp + 1) = true := cdX_1 (by rw [show whN (txN pn pt) (sp + 1) = _ from (st_e x17)]; exact k_43)
        exact wr_i X hr hlk hW ⟨(if_pos (Or.inr hX)).symm, by rw [if_neg hcm, if_pos hX, if_pos (Or.inr hX)]; exact g_5, hx_1⟩ (Nat.le_of_ble_eq_true rfl) (Nat.le_of_ble_eq_true rfl) dX5_readKind_47
  · have hcm := not_t (bI_0 c_6)
    have g_18 : hp_1 rd = some (.inr (6, [.ref pa, .ref rr, .int (nI sp), .int (nI lim)])) := by have z9 := g_2; rw [(tk_t hcm).1] at z9; exact z9
    refine lv_iconst (v := (-1)) X.1 X.2.1 dX5_readKind_9 (by decide) ?_
    exact wr_i X hr hlk hW ⟨(if_pos (Or.inl hcm)).symm, by rw [if_pos hcm, if_pos (Or.inl hcm)]; exact g_18, hx_1⟩ (Nat.le_of_ble_eq_true rfl) (Nat.le_of_ble_eq_true rfl) dX5_readKind_10

