/-! reading the whole text -/
theorem SBp.xg {G : HG} {hp hp1 : HP} {pa vb cv : Nat} {ml : Bool} {fb : Nat → Int32} {pn : Nat} {pt : Nat → Nat} {rd rr ci ci2 : Nat} {vs vs2 : List Value} (h : SBp G hp pa vb cv ml fb pn pt) (hF : XG hp hp1 rd rr) (hr : hp rd = some (.inr (ci, vs))) (hr2 : hp rr = some (.inr (ci2, vs2))) (hci : ci ≠ 0) (hci2 : ci2 ≠ 0) : SBp G hp1 pa vb cv ml fb pn pt := h.fr (fun e he => by rw [hF _ (ne_look h.1 hr (by simp; omega)) (ne_look h.1 hr2 (by simp; omega))]; exact he) (fun e he => by rw [hF _ (ne_look h.2.1 hr (by simp)) (ne_look h.2.1 hr2 (by simp))]; exact he)
theorem not_f5 {b : Bool} (h : bI (!b) = 0) : b = true := not_t (bI_0 h)
set_option maxHeartbeats 4000000 in
set_option maxRecDepth 100000 in
theorem c_X5_readsWhole (l : Launch) (G : HG) (A : Nat → Prop) (hp : HP) (sz : Nat) (hA : ∀ q, sz ≤ q → A q) (hO : Ow A hp) (pa vb cv : Nat) (ml : Bool) (fb : Nat → Int32) (pn : Nat) (pt : Nat → Nat) (hSB : SBp G hp pa vb cv ml fb pn pt) (rd rr : Nat) (hrd : hp rd = some (rdE pa rr 0 0)) (hrr : hp rr = some (.inr (5, [.int 0, .int 0, .int 0, .int 0, .int 0, .int 336875845]))) : Met l yX5_readsWhole [.code yX5_readsWhole cX5_readsWhole 3 (some .boolean)] { frames := 8, cells := 0, slots := 0, locals := 178 } (va_Pc [.ref rd] (WP G A sz hp)) (va_Qi (fun r hp1 => r = bI (!(bdB pn (rdF (txN pn pt)))) ∧ (∃ sp9 lim9, hp1 rd = some (rdE pa rr sp9 lim9)) ∧ (bdB pn (rdF (txN pn pt)) = true → ∃ lim, hp1 rd = some (rdE pa rr (rdF (txN pn pt)).2.1 lim)) ∧ (bdB pn (rdF (txN pn pt)) = false → hp1 rr = some (rcE (rdF (txN pn pt)).2.2) ∧ ∀ j, j < 14 → (rdF (txN pn pt)).2.2 j ≤ 25) ∧ XG hp hp1 rd rr) (WB G A) A) 0 0 A := by
  refine wr_ofW (by decide) (Nat.le_of_ble_eq_true rfl) hO ?_
  intro p e s m args below meth c ls X hr hlk hnm hsz hW hl
  have hA : ∀ q, s.heap.size ≤ q → A q := fun q h => hA q (by omega)
  have hl : lv_has ls 3 [(0, .ref rd)] := hl
  have hpn := hSB.2.2.1
  have hcv := hSB.2.2.2.1
  have hcv2 := hSB.2.2.2.2.2.1
  have hcv1 := hSB.2.2.2.2.1
  have g_1 : hp rd = some (.inr (6, [.ref pa, .ref rr, .int (nI 0), .int (nI 0)])) := hrd
  have g_2 : hp pa = some (.inr (0, [.ref vb, .int 0, .int (bI ml), .int (nI pn)])) := hSB.1
  have g_3 : hp vb = some (.inl (G.2.1 0, cv, .inl fb)) := hSB.2.1
  have hcv0 := hcv
  refine lv_aload_n X.1 X.2.1 dX5_readsWhole_0 rfl (lv_at hl 0 rfl) ?_
  refine on_Wi (k' := 0) (n' := 0) (run_V (C := RX5) (As := []) (rest := []) X (c_X5_readsHead l G A hp _ (fun q h => hA q (Nat.le_trans hW.2.2.1 h)) hW.2.1 pa vb cv ml fb pn pt hSB rd rr hrd hrr) (wp_blind _) (wp_at X hW.1 hW.2.2) (recv X hW.1 g_1 (C := RX5) (T := TX5) (N := 4) rfl) mf_X5_readsHead tw_777 tw_779 tw_17 ⟨rfl, rfl, Nat.le_of_ble_eq_true rfl, Nat.le_of_ble_eq_true rfl⟩ hl.1 rfl rfl (Nat.le_of_ble_eq_true rfl) ⟨Nat.le_of_ble_eq_true rfl, Nat.le_of_ble_eq_true rfl⟩ dX5_readsWhole_1) hW (by omega) (by omega) (fun r_1 hp_4 H locs q_1 hW => ?_)
  obtain ⟨rfl, hr_1, hx_1, hq_1⟩ := q_1
  have hS_1 := hSB.xg hx_1 hrd hrr (by decide) (by decide)
  have g_5 : hp_4 rd = some (.inr (6, [.ref pa, .ref rr, .int (nI (h5S (txN pn pt) + hFo (txN pn pt))), .int (nI 0)])) := hr_1
  refine lv_if_ne (tgt := 9) X.1 X.2.1 dX5_readsWhole_4 (by decide) (fun c_4 => ?_) (fun c_4 => ?_)
  · have h5 : h5W (txN pn pt) = false := not_f (bI_1 c_4)
    refine lv_iconst (v := 0) X.1 X.2.1 dX5_readsWhole_9 (by decide) ?_
    refine lv_istore_n (lv' := [(1, .int 0), (0, .ref rd)]) X.1 X.2.1 dX5_readsWhole_10 rfl hl (by decide) rfl (fun ls hl => ?_)
    have L11 : ∀ (f : Nat) (i : Nat) (sv : Nat) (lm9 : Nat) (qv : Nat → Nat) (hpL : HP) (H : Heap) (locs : List Loc), (hpL rd = some (rdE pa rr sv lm9)) → (hpL rr = some (rcE qv)) → (XG hp hpL rd rr) → (SBp G hpL pa vb cv ml fb pn pt) → WS s G A hpL H locs → (i + f = 60) → (i ≤ sv) → (sv ≤ pn) → (lm9 < 32) → (∀ j, j < 14 → qv j ≤ 25) → (rdF (txN pn pt) = lpF (txN pn pt) (f + 1) false sv lm9 qv) → ∀ ls, lv_has ls 3 [(0, .ref rd), (1, .int (nI i))] → W p l e ({ frames := 8, cells := 0, slots := 0, locals := 178 } : Room) s m args below meth c H locs 0 0 (MQ below (va_Qi (fun r hp1 => r = bI (!(bdB pn (rdF (txN pn pt)))) ∧ (∃ sp9 lim9, hp1 rd = some (rdE pa rr sp9 lim9)) ∧ (bdB pn (rdF (txN pn pt)) = true → ∃ lim, hp1 rd = some (rdE pa rr (rdF (txN pn pt)).2.1 lim)) ∧ (bdB pn (rdF (txN pn pt)) = false → hp1 rr = some (rcE (rdF (txN pn pt)).2.2) ∧ ∀ j, j < 14 → (rdF (txN pn pt)).2.2 j ≤ 25) ∧ XG hp hp1 rd rr) (WB G A) A) args s 0 0 A) (F0 m 11 ls []) := by
      intro f
      induction f with
      | zero =>
        intro i sv lm9 qv hpL H locs  hrdL hrrL hXL hSL hW h0 h1 h2 h3 h4 h5 ls hl
        have g_6 : hpL rd = some (.inr (6, [.ref pa, .ref rr, .int (nI sv), .int (nI lm9)])) := hrdL
        have g_7 : hpL pa = some (.inr (0, [.ref vb, .int 0, .int (bI ml), .int (nI pn)])) := hSL.1
        refine lv_iload_n X.1 X.2.1 dX5_readsWhole_11 rfl (lv_at hl 1 rfl) ?_
        refine lv_bipush (v := 60) X.1 X.2.1 dX5_readsWhole_12 (by decide) ?_
        refine lv_icmp_ge (tgt := 57) X.1 X.2.1 dX5_readsWhole_14 (by decide) (fun c_14 => ?_) (fun c_14 => absurd (nI_le (a := 60) (b := i) (by omega) (by omega)) c_14)
        refine lv_aload_n X.1 X.2.1 dX5_readsWhole_57 rfl (lv_at hl 0 rfl) ?_
        refine r_get X hW.1 g_6 (v := .int (nI sv)) (C := RX5) (T := TX5) (N := 4) rfl tin_X5 2 (by decide) tw_761 (fun _ h => h) rfl dX5_readsWhole_58 ?_
        refine lv_aload_n X.1 X.2.1 dX5_readsWhole_61 rfl (lv_at hl 0 rfl) ?_
        refine r_get X hW.1 g_6 (v := .ref pa) (C := RX5) (T := TX5) (N := 4) rfl tin_X5 0 (by decide) tw_758 (fun _ h => h) rfl dX5_readsWhole_62 ?_
        refine on_Si (run_V (C := RJ4) (As := []) (rest := [.int (nI sv)]) X (c_J4_length_8abf5 l G hpL pa vb cv ml fb pn pt hSL) (rp_blind _) (rp_at X hW.1 hW.2.2) (recv X hW.1 g_7 (C := RJ4) (T := TJ4) (N := 4) rfl) mf_J4_length_8abf5 tw_789 tw_548 tw_549 ⟨rfl, rfl, Nat.le_of_ble_eq_true rfl, Nat.le_of_ble_eq_true rfl⟩ hl.1 rfl rfl (Nat.le_of_ble_eq_true rfl) ⟨Nat.le_of_ble_eq_true rfl, Nat.le_of_ble_eq_true rfl⟩ dX5_readsWhole_65) (fun r_65 q_65 => ?_)
        obtain rfl : r_65 = (nI pn) := q_65
        refine lv_icmp_ne (tgt := 75) X.1 X.2.1 dX5_readsWhole_68 (by decide) (fun c_68 => absurd (congrArg nI (show sv = pn by omega)) c_68) (fun c_68 => ?_)
        refine lv_iconst (v := 1) X.1 X.2.1 dX5_readsWhole_71 (by decide) ?_
        refine lv_goto (tgt := 76) X.1 X.2.1 dX5_readsWhole_72 (by decide) ?_
        have z8 := rw_end (pn := pn) h5 (by rw [show sv = pn by omega, tx_0 (Nat.le_refl _)]; decide) (by omega)
        exact wr_z X hr hlk rfl hW ⟨by rw [z8.1]; rfl, ⟨_, _, hrdL⟩, fun z9 => Bool.noConfusion (z8.1.symm.trans z9), fun _ => ⟨by rw [z8.2]; exact hrrL, by rw [z8.2]; exact h4⟩, hXL⟩ (Nat.le_of_ble_eq_true rfl) (Nat.le_of_ble_eq_true rfl) dX5_readsWhole_76
      | succ f ih =>
        intro i sv lm9 qv hpL H locs  hrdL hrrL hXL hSL hW h0 h1 h2 h3 h4 h5 ls hl
        have g_8 : hpL rd = some (.inr (6, [.ref pa, .ref rr, .int (nI sv), .int (nI lm9)])) := hrdL
        have g_9 : hpL pa = some (.inr (0, [.ref vb, .int 0, .int (bI ml), .int (nI pn)])) := hSL.1
        refine lv_iload_n X.1 X.2.1 dX5_readsWhole_11 rfl (lv_at hl 1 rfl) ?_
        refine lv_bipush (v := 60) X.1 X.2.1 dX5_readsWhole_12 (by decide) ?_
        refine lv_icmp_ge (tgt := 57) X.1 X.2.1 dX5_readsWhole_14 (by decide) (fun c_14 => absurd c_14 (nI_ge (a := i) (b := 60) (by omega) (by decide))) (fun c_14 => ?_)
        have hh := h3
        have hq := h4
        refine lv_aload_n X.1 X.2.1 dX5_readsWhole_17 rfl (lv_at hl 0 rfl) ?_
        refine r_get X hW.1 g_8 (v := .int (nI sv)) (C := RX5) (T := TX5) (N := 4) rfl tin_X5 2 (by decide) tw_761 (fun _ h => h) rfl dX5_readsWhole_18 ?_
        refine lv_aload_n X.1 X.2.1 dX5_readsWhole_21 rfl (lv_at hl 0 rfl) ?_
        refine r_get X hW.1 g_8 (v := .ref pa) (C := RX5) (T := TX5) (N := 4) rfl tin_X5 0 (by decide) tw_758 (fun _ h => h) rfl dX5_readsWhole_22 ?_
        refine on_Si (run_V (C := RJ4) (As := []) (rest := [.int (nI sv)]) X (c_J4_length_8abf5 l G hpL pa vb cv ml fb pn pt hSL) (rp_blind _) (rp_at X hW.1 hW.2.2) (recv X hW.1 g_9 (C := RJ4) (T := TJ4) (N := 4) rfl) mf_J4_length_8abf5 tw_789 tw_548 tw_549 ⟨rfl, rfl, Nat.le_of_ble_eq_true rfl, Nat.le_of_ble_eq_true rfl⟩ hl.1 rfl rfl (Nat.le_of_ble_eq_true rfl) ⟨Nat.le_of_ble_eq_true rfl, Nat.le_of_ble_eq_true rfl⟩ dX5_readsWhole_25) (fun r_25 q_25 => ?_)
        obtain rfl : r_25 = (nI pn) := q_25
        refine lv_icmp_ge (tgt := 57) X.1 X.2.1 dX5_readsWhole_28 (by decide) (fun c_28 => ?_) (fun c_28 => ?_)
        · have k_28 := k_le (a := pn) (b := sv) (by omega) (by omega) c_28
          refine lv_aload_n X.1 X.2.1 dX5_readsWhole_57 rfl (lv_at hl 0 rfl) ?_
          refine r_get X hW.1 g_8 (v := .int (nI sv)) (C := RX5) (T := TX5) (N := 4) rfl tin_X5 2 (by decide) tw_761 (fun _ h => h) rfl dX5_readsWhole_58 ?_
          refine lv_aload_n X.1 X.2.1 dX5_readsWhole_61 rfl (lv_at hl 0 rfl) ?_
          refine r_get X hW.1 g_8 (v := .ref pa) (C := RX5) (T := TX5) (N := 4) rfl tin_X5 0 (by decide) tw_758 (fun _ h => h) rfl dX5_readsWhole_62 ?_
          refine on_Si (run_V (C := RJ4) (As := []) (rest := [.int (nI sv)]) X (c_J4_length_8abf5 l G hpL pa vb cv ml fb pn pt hSL) (rp_blind _) (rp_at X hW.1 hW.2.2) (recv X hW.1 g_9 (C := RJ4) (T := TJ4) (N := 4) rfl) mf_J4_length_8abf5 tw_789 tw_548 tw_549 ⟨rfl, rfl, Nat.le_of_ble_eq_true rfl, Nat.le_of_ble_eq_true rfl⟩ hl.1 rfl rfl (Nat.le_of_ble_eq_true rfl) ⟨Nat.le_of_ble_eq_true rfl, Nat.le_of_ble_eq_true rfl⟩ dX5_readsWhole_65) (fun r_65 q_65 => ?_)
          obtain rfl : r_65 = (nI pn) := q_65
          refine lv_icmp_ne (tgt := 75) X.1 X.2.1 dX5_readsWhole_68 (by decide) (fun c_68 => absurd (congrArg nI (show sv = pn by omega)) c_68) (fun c_68 => ?_)
          refine lv_iconst (v := 1) X.1 X.2.1 dX5_readsWhole_71 (by decide) ?_
          refine lv_goto (tgt := 76) X.1 X.2.1 dX5_readsWhole_72 (by decide) ?_
          have z8 := rw_end (pn := pn) h5 (by rw [show sv = pn by omega, tx_0 (Nat.le_refl _)]; decide) (by omega)
          exact wr_z X hr hlk rfl hW ⟨by rw [z8.1]; rfl, ⟨_, _, hrdL⟩, fun z9 => Bool.noConfusion (z8.1.symm.trans z9), fun _ => ⟨by rw [z8.2]; exact hrrL, by rw [z8.2]; exact h4⟩, hXL⟩ (Nat.le_of_ble_eq_true rfl) (Nat.le_of_ble_eq_true rfl) dX5_readsWhole_76
        · have k_28 := k_nle (a := pn) (b := sv) (by omega) (by omega) c_28
          refine lv_aload_n X.1 X.2.1 dX5_readsWhole_31 rfl (lv_at hl 0 rfl) ?_
          refine on_Wi (k' := 0) (n' := 0) (run_V (C := RX5) (As := []) (rest := []) X (c_X5_readKind l G A hpL _ (fun q h => hA q (Nat.le_trans hW.2.2.1 h)) hW.2.1 pa vb cv ml fb pn pt hSL rd rr sv lm9 g_8 (by omega) hh) (wp_blind _) (wp_at X hW.1 hW.2.2) (recv X hW.1 g_8 (C := RX5) (T := TX5) (N := 4) rfl) mf_X5_readKind tw_814 tw_816 tw_23 ⟨rfl, rfl, Nat.le_of_ble_eq_true rfl, Nat.le_of_ble_eq_true rfl⟩ hl.1 rfl rfl (Nat.le_of_ble_eq_true rfl) ⟨Nat.le_of_ble_eq_true rfl, Nat.le_of_ble_eq_true rfl⟩ dX5_readsWhole_32) hW (by omega) (by omega) (fun r_32 hp_10 H locs q_32 hW => ?_)
          obtain ⟨rfl, hr_2, hx_2⟩ := q_32
          have hS_2 := hSL.xf hx_2 g_8 (by decide)
          have hX_2 : XG hp hp_10 rd rr := XG.xf hXL hx_2
          have hrr_2 : hp_10 rr = some (rcE qv) := by rw [hx_2 _ (ne_look hrrL g_8 (by simp [rcE]))]; exact hrrL
          by_cases hB : tkW (txN pn pt) false 44 44 sv = true ∨ cdX (txN pn pt) lm9 (sv + 1) = true
          · refine r_eqi (if_pos hB) ?_
            refine lv_istore_n (lv' := [(2, .int (-1)), (0, .ref rd), (1, .int (nI i))]) X.1 X.2.1 dX5_readsWhole_35 rfl hl (by decide) rfl (fun ls hl => ?_)
            refine lv_iload_n X.1 X.2.1 dX5_readsWhole_36 rfl (lv_at hl 0 rfl) ?_
            refine lv_iconst (v := (-1)) X.1 X.2.1 dX5_readsWhole_37 (by decide) ?_
            refine lv_icmp_eq (tgt := 49) X.1 X.2.1 dX5_readsWhole_38 (by decide) (fun c_38 => ?_) (fun c_38 => absurd (by decide) c_38)
            refine lv_iconst (v := 0) X.1 X.2.1 dX5_readsWhole_49 (by decide) ?_
            have z8 := rw_k (pn := pn) h5 k_28 hB
            exact wr_z X hr hlk rfl hW ⟨by rw [z8.1]; rfl, ⟨_, _, hr_2⟩, fun _ => ⟨_, by rw [z8.2]; exact hr_2⟩, fun z9 => Bool.noConfusion (z8.1.symm.trans z9), hX_2⟩ (Nat.le_of_ble_eq_true rfl) (Nat.le_of_ble_eq_true rfl) dX5_readsWhole_50
          · have hc9 : ¬ tkW (txN pn pt) false 44 44 sv = true := fun z9 => hB (Or.inl z9)
            have hx9 : ¬ cdX (txN pn pt) lm9 (sv + 1) = true := fun z9 => hB (Or.inr z9)
            obtain ⟨hw4, hw9⟩ := whN4 hx9
            refine r_eqi (if_neg hB) ?_
            have hs1 := st_pn (pn := pn) (pt := pt) (sp := sv + 1) (e := 43) (by decide) hw9
            rw [if_neg hc9, if_neg hx9, if_neg hB] at hr_2
            have g_11 : hp_10 rd = some (.inr (6, [.ref pa, .ref rr, .int (nI (sv + 1 + 1)), .int (nI (lm9 ||| 2 ^ (whN (txN pn pt) (sv + 1))))])) := hr_2
            refine lv_istore_n (lv' := [(2, .int (nI (whN (txN pn pt) (sv + 1)))), (0, .ref rd), (1, .int (nI i))]) X.1 X.2.1 dX5_readsWhole_35 rfl hl (by decide) rfl (fun ls hl => ?_)
            refine lv_iload_n X.1 X.2.1 dX5_readsWhole_36 rfl (lv_at hl 0 rfl) ?_
            refine lv_iconst (v := (-1)) X.1 X.2.1 dX5_readsWhole_37 (by decide) ?_
            refine lv_icmp_eq (tgt := 49) X.1 X.2.1 dX5_readsWhole_38 (by decide) (fun c_38 => absurd c_38 (nI_m1 (by omega))) (fun c_38 => ?_)
            refine lv_aload_n X.1 X.2.1 dX5_readsWhole_41 rfl (lv_at hl 1 rfl) ?_
            refine lv_iload_n X.1 X.2.1 dX5_readsWhole_42 rfl (lv_at hl 0 rfl) ?_
            refine on_Wi (k' := 0) (n' := 0) (run_V (C := RX5) (As := [.int (nI (whN (txN pn pt) (sv + 1)))]) (rest := []) X (c_X5_readsRange l G A hp_10 _ (fun q h => hA q (Nat.le_trans hW.2.2.1 h)) hW.2.1 pa vb cv ml fb pn pt hS_2 rd rr (sv + 1) (lm9 ||| 2 ^ (whN (txN pn pt) (sv + 1))) hr_2 (by omega) (whN (txN pn pt) (sv + 1)) hw4 qv hq hrr_2) (wp_blind _) (wp_at X hW.1 hW.2.2) (recv X hW.1 g_11 (C := RX5) (T := TX5) (N := 4) rfl) mf_X5_readsRange tw_818 tw_820 tw_24 ⟨rfl, rfl, Nat.le_of_ble_eq_true rfl, Nat.le_of_ble_eq_true rfl⟩ hl.1 rfl rfl (Nat.le_of_ble_eq_true rfl) ⟨Nat.le_of_ble_eq_true rfl, Nat.le_of_ble_eq_true rfl⟩ dX5_readsWhole_43) hW (by omega) (by omega) (fun r_43 hp_12 H locs q_43 hW => ?_)
            obtain ⟨rfl, hr_3, hx_3, hq_3⟩ := q_43
            have hS_3 := hS_2.xg hx_3 hr_2 hrr_2 (by decide) (by decide)
            have hX_3 : XG hp hp_12 rd rr := XG.tr hX_2 hx_3
            refine lv_if_ne (tgt := 51) X.1 X.2.1 dX5_readsWhole_46 (by decide) (fun c_46 => ?_) (fun c_46 => ?_)
            · have k46 : ¬ (cC (txN pn pt) (whN (txN pn pt) (sv + 1)) (sv + 1) || cdY (txN pn pt) (whN (txN pn pt) (sv + 1)) (sv + 1)) = true := fun z9 => c_46 (by rw [z9]; rfl)
              have hn9 := rw_n h5 hc9 hx9 k46
              refine lv_iinc (v := (nI (i + 1))) (lv' := [(1, .int (nI (i + 1))), (2, .int (nI (whN (txN pn pt) (sv + 1)))), (0, .ref rd)]) X.1 X.2.1 dX5_readsWhole_51 hl (k := 2) rfl (nI_add i 1) (by decide) rfl (fun ls hl => ?_)
              refine lv_goto (tgt := 11) X.1 X.2.1 dX5_readsWhole_54 (by decide) ?_
              exact ih (i + 1) (c3 (txN pn pt) (whN (txN pn pt) (sv + 1)) (sv + 1)) (lm9 ||| 2 ^ (whN (txN pn pt) (sv + 1))) (slR qv (whN (txN pn pt) (sv + 1)) (cL (txN pn pt) (whN (txN pn pt) (sv + 1)) (sv + 1)) (cH (txN pn pt) (whN (txN pn pt) (sv + 1)) (sv + 1))) _ _ _  (by rw [hn9.2, if_neg Bool.false_ne_true] at hr_3; exact hr_3) (by rw [if_neg k46] at hq_3; exact hq_3) hX_3 hS_3 hW (by omega) (by have z9 := cdS_ge (txN pn pt) lm9 (sv + 1); rw [show cdS (txN pn pt) lm9 (sv + 1) = c3 (txN pn pt) (whN (txN pn pt) (sv + 1)) (sv + 1) from (if_neg hx9).trans (if_neg (fun z9 => Bool.false_ne_true (hn9.2.symm.trans z9)))] at z9; omega) (c3_pn (by omega)) (Nat.or_lt_two_pow (n := 5) h3 (Nat.pow_lt_pow_right (by decide) (by omega))) (cdQ_le (tx := (txN pn pt)) (sp := sv + 1) h4) hn9.1 ls (lv_sub hl [2, 0] rfl)
            · refine lv_iconst (v := 0) X.1 X.2.1 dX5_readsWhole_49 (by decide) ?_
              have z8 := rw_r (pn := pn) h5 hc9 hx9 (not_t (bI_0 c_46))
              exact wr_z X hr hlk rfl hW ⟨by rw [z8.1]; rfl, ⟨_, _, hr_3⟩, fun _ => ⟨_, by rw [z8.2]; exact hr_3⟩, fun z9 => Bool.noConfusion (z8.1.symm.trans z9), hX_3⟩ (Nat.le_of_ble_eq_true rfl) (Nat.le_of_ble_eq_true rfl) dX5_readsWhole_50
    exact L11 60 0 (h5S (txN pn pt) + hFo (txN pn pt)) 0 (hQ (txN pn pt)) _ _ _  hr_1 (hq_1 h5) hx_1 hS_1 hW rfl (Nat.zero_le _) (hd_pn h5) (by decide) (hQ_bd h5) (by unfold rdF; rw [h5]) ls (lv_sub hl [1, 0] rfl)
  · refine lv_iconst (v := 0) X.1 X.2.1 dX5_readsWhole_7 (by decide) ?_
    have z8 := rw_h (pn := pn) (not_f5 c_4)
    exact wr_z X hr hlk rfl hW ⟨by rw [z8.1]; rfl, ⟨_, _, hr_1⟩, fun _ => ⟨_, by rw [z8.2]; exact hr_1⟩, fun z9 => Bool.noConfusion (z8.1.symm.trans z9), hx_1⟩ (Nat.le_of_ble_eq_true rfl) (Nat.le_of_ble_eq_true rfl) dX5_readsWhole_8

