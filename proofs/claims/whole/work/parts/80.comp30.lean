/-! the head -/
section HDS
variable {tx : Nat → Nat} {sp : Nat}
theorem caW_true : caW tx true sp = true := by
  have e := ca_n (tx := tx) (w := true) (sp := sp) (show caP tx true sp = false from rfl)
  rw [e.1, tkW_true]; rfl
theorem caS_true : caS tx true sp = sp := by
  have e := ca_n (tx := tx) (w := true) (sp := sp) (show caP tx true sp = false from rfl)
  rw [e.2.1, if_pos caW_true, tkS_true]
theorem hd_12 (h : h1W tx = true) : h2W tx = true ∧ h2S tx = h1S tx := by unfold h2W h2S; rw [h]; exact ⟨tkW_true, tkS_true⟩
theorem hd_23 (h : h2W tx = true) : h3W tx = true ∧ h3S tx = h2S tx := by unfold h3W h3S; rw [h]; exact ⟨caW_true, caS_true⟩
theorem hd_34 (h : h3W tx = true) : h4W tx = true ∧ h4S tx = h3S tx := by unfold h4W h4S; rw [h]; exact ⟨tkW_true, tkS_true⟩
theorem hd_45 (h : h4W tx = true) : h5W tx = true ∧ h5S tx = h4S tx := by unfold h5W h5S; rw [h]; exact ⟨tkW_true, tkS_true⟩
theorem hd_4 (h : h4W tx = true) : h5W tx = true ∧ h5S tx + hFo tx = h4S tx := by
  have e := hd_45 h
  refine ⟨e.1, ?_⟩
  unfold hFo
  rw [if_neg (fun z => Bool.false_ne_true (z.1.symm.trans e.1)), e.2]; rfl
theorem hd_3 (h : h3W tx = true) : h5W tx = true ∧ h5S tx + hFo tx = h3S tx := by
  have e := hd_34 h
  have k := hd_4 e.1
  exact ⟨k.1, k.2.trans e.2⟩
theorem hd_2 (h : h2W tx = true) : h5W tx = true ∧ h5S tx + hFo tx = h2S tx := by
  have e := hd_23 h
  have k := hd_3 e.1
  exact ⟨k.1, k.2.trans e.2⟩
theorem hd_1 (h : h1W tx = true) : h5W tx = true ∧ h5S tx + hFo tx = h1S tx := by
  have e := hd_12 h
  have k := hd_2 e.1
  exact ⟨k.1, k.2.trans e.2⟩
theorem hd_5 (h : h5W tx = true) : h5S tx + hFo tx = h5S tx := by
  unfold hFo
  rw [if_neg (fun z => Bool.false_ne_true (z.1.symm.trans h))]; rfl
theorem hw2 (h : h1W tx = false) : h2W tx = tkW tx false 58 58 (tkS tx false 48 55 0) ∧ h2S tx = tkS tx false 58 58 (tkS tx false 48 55 0) := by unfold h2W h2S; rw [h]; exact ⟨rfl, rfl⟩
theorem hw3 (h : h2W tx = false) : h3W tx = caW tx false (h2S tx) ∧ h3S tx = caS tx false (h2S tx) := by unfold h3W h3S; rw [h]; exact ⟨rfl, rfl⟩
theorem hw4 (h : h3W tx = false) : h4W tx = tkW tx false 62 62 (h3S tx) ∧ h4S tx = tkS tx false 62 62 (h3S tx) := by unfold h4W h4S; rw [h]; exact ⟨rfl, rfl⟩
theorem hw5 (h : h4W tx = false) : h5W tx = tkW tx false 48 55 (h4S tx) ∧ h5S tx = tkS tx false 48 55 (h4S tx) := by unfold h5W h5S; rw [h]; exact ⟨rfl, rfl⟩
end HDS
theorem caV_le {tx : Nat → Nat} {sp : Nat} (h : caW tx false sp = false) : caV tx false sp ≤ 25 := by
  by_cases c : caP tx false sp = true
  · rw [(ca_p c).2.2]; omega
  · have e := ca_n (Bool.eq_false_iff.mpr c)
    rw [e.1, Bool.or_eq_false_iff] at h
    have h9 := of_decide_eq_false h.2
    have hv := tkV_le (tx := tx) (w := false) (lo := 49) (hi := 53) (sp := sp)
    have hs : stN 110 (tx (tkS tx false 49 53 sp)) ≤ 4 := by
      unfold stN at h9 ⊢
      split
      · omega
      · rename_i z
        rw [if_neg z] at h9
        have := suN_3 h9
        omega
    rw [e.2.2]
    omega
set_option maxHeartbeats 4000000 in
set_option maxRecDepth 100000 in
theorem c_X5_readsHead (l : Launch) (G : HG) (A : Nat → Prop) (hp : HP) (sz : Nat) (hA : ∀ q, sz ≤ q → A q) (hO : Ow A hp) (pa vb cv : Nat) (ml : Bool) (fb : Nat → Int32) (pn : Nat) (pt : Nat → Nat) (hSB : SBp G hp pa vb cv ml fb pn pt) (rd rr : Nat) (hrd : hp rd = some (rdE pa rr 0 0)) (hrr : hp rr = some (.inr (5, [.int 0, .int 0, .int 0, .int 0, .int 0, .int 336875845]))) : Met l yX5_readsHead [.code yX5_readsHead cX5_readsHead 1 (some .boolean)] { frames := 7, cells := 0, slots := 0, locals := 153 } (va_Pc [.ref rd] (WP G A sz hp)) (va_Qi (fun r hp1 => r = bI (!(h5W (txN pn pt))) ∧ hp1 rd = some (rdE pa rr (h5S (txN pn pt) + hFo (txN pn pt)) 0) ∧ XG hp hp1 rd rr ∧ (h5W (txN pn pt) = false → hp1 rr = some (rcE (hQ (txN pn pt))))) (WB G A) A) 0 0 A := by
  refine wr_ofW (by decide) (Nat.le_of_ble_eq_true rfl) hO ?_
  intro p e s m args below meth c ls X hr hlk hnm hsz hW hl
  have hA : ∀ q, s.heap.size ≤ q → A q := fun q h => hA q (by omega)
  have hl : lv_has ls 1 [(0, .ref rd)] := hl
  have hpn := hSB.2.2.1
  have hcv := hSB.2.2.2.1
  have hcv2 := hSB.2.2.2.2.2.1
  have hcv1 := hSB.2.2.2.2.1
  have htk0 := tkV_le (tx := (txN pn pt)) (w := false) (lo := 48) (hi := 55) (sp := 0)
  have g_1 : hp rd = some (.inr (6, [.ref pa, .ref rr, .int (nI 0), .int (nI 0)])) := hrd
  have g_2 : hp pa = some (.inr (0, [.ref vb, .int 0, .int (bI ml), .int (nI pn)])) := hSB.1
  have g_3 : hp vb = some (.inl (G.2.1 0, cv, .inl fb)) := hSB.2.1
  have g_4 : hp rr = some (.inr (5, [.int 0, .int 0, .int 0, .int 0, .int 0, .int 336875845])) := hrr
  refine lv_aload_n X.1 X.2.1 dX5_readsHead_0 rfl (lv_at hl 0 rfl) ?_
  refine r_get X hW.1 g_1 (v := .ref rr) (C := RX5) (T := TX5) (N := 4) rfl tin_X5 1 (by decide) tw_759 (fun _ h => h) rfl dX5_readsHead_1 ?_
  refine lv_aload_n X.1 X.2.1 dX5_readsHead_4 rfl (lv_at hl 0 rfl) ?_
  refine lv_iconst (v := 0) X.1 X.2.1 dX5_readsHead_5 (by decide) ?_
  refine lv_bipush (v := 7) X.1 X.2.1 dX5_readsHead_6 (by decide) ?_
  refine on_Wi (k' := 0) (n' := 0) (run_V (C := RX5) (As := [.int 0, .int 7]) (rest := [.ref rr]) X (c_X5_readDigit l G A hp _ (fun q h => hA q (Nat.le_trans hW.2.2.1 h)) hW.2.1 pa vb cv ml fb pn pt hSB rd rr 0 0 g_1 (by omega) 0 7 (by omega) (by omega)) (wp_blind _) (wp_at X hW.1 hW.2.2) (recv X hW.1 g_1 (C := RX5) (T := TX5) (N := 4) rfl) mf_X5_readDigit tw_781 tw_783 tw_18 ⟨rfl, rfl, Nat.le_of_ble_eq_true rfl, Nat.le_of_ble_eq_true rfl⟩ hl.1 rfl rfl (Nat.le_of_ble_eq_true rfl) ⟨Nat.le_of_ble_eq_true rfl, Nat.le_of_ble_eq_true rfl⟩ dX5_readsHead_8) hW (by omega) (by omega) (fun r_8 hp_5 H locs q_8 hW => ?_)
  rw [show 48 + 0 = 48 from rfl, show 48 + 7 = 55 from rfl] at q_8
  obtain ⟨rfl, hr_1, hx_1⟩ := q_8
  have hS_1 := SBp.xf hSB hx_1 g_1 (by decide)
  have g_6 : hp_5 rd = some (.inr (6, [.ref pa, .ref rr, .int (nI (tkS (txN pn pt) false 48 55 0)), .int (nI 0)])) := hr_1
  have g_7 : hp_5 pa = some (.inr (0, [.ref vb, .int 0, .int (bI ml), .int (nI pn)])) := hS_1.1
  have g_8 : hp_5 vb = some (.inl (G.2.1 0, cv, .inl fb)) := hS_1.2.1
  have g_9 : hp_5 rr = some (.inr (5, [.int 0, .int 0, .int 0, .int 0, .int 0, .int 336875845])) := by rw [hx_1 _ (ne_look g_4 g_1 (by simp))]; exact g_4
  have hle_1 := tkS_le (txN pn pt) false 48 55 0
  by_cases hK1 : h1W (txN pn pt) = true
  · refine r_eqi (if_pos hK1) ?_
    refine r_putN X hW g_9 (v := .int (-1)) (C := RX4) (T := TX4) (N := 6) rfl tin_X4 tyX4_ok nmX4 0 (Nat.le_of_ble_eq_true rfl) tw_229 (fun _ h => h) rfl rfl rfl (Nat.le_of_ble_eq_true rfl) dX5_readsHead_11 (fun hp_10 H locs hW eh_11 => ?_)
    have f_12 : hp_10 rr = some (.inr (5, [.int (-1), .int 0, .int 0, .int 0, .int 0, .int 336875845])) := by rw [eh_11]; exact va_up_self _ _ _
    have hS_2 := SBp.xf hS_1 (XF.up (XF.rf (rd := rr)) eh_11) g_9 (by decide)
    refine lv_aload_n X.1 X.2.1 dX5_readsHead_14 rfl (lv_at hl 0 rfl) ?_
    have f_13 : hp_10 rd = some (.inr (6, [.ref pa, .ref rr, .int (nI (tkS (txN pn pt) false 48 55 0)), .int (nI 0)])) := by rw [eh_11, va_up_ne _ _ (ne_look g_6 g_9 (by simp))]; exact g_6
    refine r_get X hW.1 f_13 (v := .ref rr) (C := RX5) (T := TX5) (N := 4) rfl tin_X5 1 (by decide) tw_759 (fun _ h => h) rfl dX5_readsHead_15 ?_
    refine r_getN X hW.1 f_12 (v := .int (-1)) (C := RX4) (T := TX4) (N := 6) rfl tin_X4 0 (by decide) tw_229 (fun _ h => h) rfl dX5_readsHead_18 ?_
    refine lv_iconst (v := (-1)) X.1 X.2.1 dX5_readsHead_21 (by decide) ?_
    refine lv_icmp_eq (tgt := 34) X.1 X.2.1 dX5_readsHead_22 (by decide) (fun c_22 => ?_) (fun c_22 => absurd (by decide) c_22)
    refine lv_iconst (v := 0) X.1 X.2.1 dX5_readsHead_34 (by decide) ?_
    obtain ⟨hw9, hs9⟩ := hd_1 (tx := (txN pn pt)) hK1
    exact wr_z X hr hlk rfl hW ⟨by rw [hw9]; rfl, by rw [hs9]; exact f_13, (XG.xr (XG.xf XG.rf hx_1) (XF.up XF.rf eh_11)), fun z9 => Bool.noConfusion (hw9.symm.trans z9)⟩ (Nat.le_of_ble_eq_true rfl) (Nat.le_of_ble_eq_true rfl) dX5_readsHead_35
  · have h1 : h1W (txN pn pt) = false := Bool.eq_false_iff.mpr hK1
    refine r_eqi ((if_neg hK1).trans (congrArg nI (tk_f (show ¬ tkW (txN pn pt) false 48 55 0 = true from hK1)).2.symm)) ?_
    refine r_putN X hW g_9 (v := .int (nI (tkV (txN pn pt) false 48 55 0))) (C := RX4) (T := TX4) (N := 6) rfl tin_X4 tyX4_ok nmX4 0 (Nat.le_of_ble_eq_true rfl) tw_229 (fun _ h => h) rfl rfl rfl (Nat.le_of_ble_eq_true rfl) dX5_readsHead_11 (fun hp_14 H locs hW eh_15 => ?_)
    have f_16 : hp_14 rr = some (.inr (5, [.int (nI (tkV (txN pn pt) false 48 55 0)), .int 0, .int 0, .int 0, .int 0, .int 336875845])) := by rw [eh_15]; exact va_up_self _ _ _
    have hS_2 := SBp.xf hS_1 (XF.up (XF.rf (rd := rr)) eh_15) g_9 (by decide)
    refine lv_aload_n X.1 X.2.1 dX5_readsHead_14 rfl (lv_at hl 0 rfl) ?_
    have f_17 : hp_14 rd = some (.inr (6, [.ref pa, .ref rr, .int (nI (tkS (txN pn pt) false 48 55 0)), .int (nI 0)])) := by rw [eh_15, va_up_ne _ _ (ne_look g_6 g_9 (by simp))]; exact g_6
    refine r_get X hW.1 f_17 (v := .ref rr) (C := RX5) (T := TX5) (N := 4) rfl tin_X5 1 (by decide) tw_759 (fun _ h => h) rfl dX5_readsHead_15 ?_
    refine r_getN X hW.1 f_16 (v := .int (nI (tkV (txN pn pt) false 48 55 0))) (C := RX4) (T := TX4) (N := 6) rfl tin_X4 0 (by decide) tw_229 (fun _ h => h) rfl dX5_readsHead_18 ?_
    refine lv_iconst (v := (-1)) X.1 X.2.1 dX5_readsHead_21 (by decide) ?_
    refine lv_icmp_eq (tgt := 34) X.1 X.2.1 dX5_readsHead_22 (by decide) (fun c_22 => absurd c_22 (nI_m1 (by omega))) (fun c_22 => ?_)
    refine lv_aload_n X.1 X.2.1 dX5_readsHead_25 rfl (lv_at hl 0 rfl) ?_
    refine lv_bipush (v := 58) X.1 X.2.1 dX5_readsHead_26 (by decide) ?_
    refine on_Wi (k' := 0) (n' := 0) (run_V (C := RX5) (As := [.int 58]) (rest := []) X (c_X5_reads l G A hp_14 _ (fun q h => hA q (Nat.le_trans hW.2.2.1 h)) hW.2.1 pa vb cv ml fb pn pt hS_2 rd rr (tkS (txN pn pt) false 48 55 0) 0 f_17 (by omega) 58 ⟨by decide, by decide⟩) (wp_blind _) (wp_at X hW.1 hW.2.2) (recv X hW.1 f_17 (C := RX5) (T := TX5) (N := 4) rfl) mf_X5_reads tw_802 tw_804 tw_20 ⟨rfl, rfl, Nat.le_of_ble_eq_true rfl, Nat.le_of_ble_eq_true rfl⟩ hl.1 rfl rfl (Nat.le_of_ble_eq_true rfl) ⟨Nat.le_of_ble_eq_true rfl, Nat.le_of_ble_eq_true rfl⟩ dX5_readsHead_28) hW (by omega) (by omega) (fun r_28 hp_18 H locs q_28 hW => ?_)
    obtain ⟨rfl, hr_3, hx_3⟩ := q_28
    have hS_3 := SBp.xf hS_2 hx_3 f_17 (by decide)
    have g_19 : hp_18 rd = some (.inr (6, [.ref pa, .ref rr, .int (nI (tkS (txN pn pt) false 58 58 (tkS (txN pn pt) false 48 55 0))), .int (nI 0)])) := hr_3
    have g_20 : hp_18 pa = some (.inr (0, [.ref vb, .int 0, .int (bI ml), .int (nI pn)])) := hS_3.1
    have g_21 : hp_18 vb = some (.inl (G.2.1 0, cv, .inl fb)) := hS_3.2.1
    have g_22 : hp_18 rr = some (.inr (5, [.int (nI (tkV (txN pn pt) false 48 55 0)), .int 0, .int 0, .int 0, .int 0, .int 336875845])) := by rw [hx_3 _ (ne_look f_16 f_17 (by simp))]; exact f_16
    have hle_3 := tkS_le (txN pn pt) false 58 58 (tkS (txN pn pt) false 48 55 0)
    refine lv_if_ne (tgt := 36) X.1 X.2.1 dX5_readsHead_31 (by decide) (fun c_31 => ?_) (fun c_31 => ?_)
    · have h2 : h2W (txN pn pt) = false := (hw2 h1).1.trans (not_f (bI_1 c_31))
      have g_23 : hp_18 rd = some (.inr (6, [.ref pa, .ref rr, .int (nI (h2S (txN pn pt))), .int (nI 0)])) := by have z9 := g_19; rw [← (hw2 h1).2] at z9; exact z9
      have b2 : h2S (txN pn pt) ≤ 2 := by rw [(hw2 h1).2]; omega
      refine lv_aload_n X.1 X.2.1 dX5_readsHead_36 rfl (lv_at hl 0 rfl) ?_
      refine r_get X hW.1 g_23 (v := .ref rr) (C := RX5) (T := TX5) (N := 4) rfl tin_X5 1 (by decide) tw_759 (fun _ h => h) rfl dX5_readsHead_37 ?_
      refine lv_aload_n X.1 X.2.1 dX5_readsHead_40 rfl (lv_at hl 0 rfl) ?_
      refine on_Wi (k' := 0) (n' := 0) (run_V (C := RX5) (As := []) (rest := [.ref rr]) X (c_X5_readCall l G A hp_18 _ (fun q h => hA q (Nat.le_trans hW.2.2.1 h)) hW.2.1 pa vb cv ml fb pn pt hS_3 rd rr (h2S (txN pn pt)) 0 g_23 (by omega)) (wp_blind _) (wp_at X hW.1 hW.2.2) (recv X hW.1 g_23 (C := RX5) (T := TX5) (N := 4) rfl) mf_X5_readCall tw_806 tw_808 tw_21 ⟨rfl, rfl, Nat.le_of_ble_eq_true rfl, Nat.le_of_ble_eq_true rfl⟩ hl.1 rfl rfl (Nat.le_of_ble_eq_true rfl) ⟨Nat.le_of_ble_eq_true rfl, Nat.le_of_ble_eq_true rfl⟩ dX5_readsHead_41) hW (by omega) (by omega) (fun r_41 hp_24 H locs q_41 hW => ?_)
      obtain ⟨rfl, hr_4, hx_4⟩ := q_41
      have hS_4 := SBp.xf hS_3 hx_4 g_23 (by decide)
      have g_25 : hp_24 rd = some (.inr (6, [.ref pa, .ref rr, .int (nI (caS (txN pn pt) false (h2S (txN pn pt)))), .int (nI 0)])) := hr_4
      have g_26 : hp_24 pa = some (.inr (0, [.ref vb, .int 0, .int (bI ml), .int (nI pn)])) := hS_4.1
      have g_27 : hp_24 vb = some (.inl (G.2.1 0, cv, .inl fb)) := hS_4.2.1
      have g_28 : hp_24 rr = some (.inr (5, [.int (nI (tkV (txN pn pt) false 48 55 0)), .int 0, .int 0, .int 0, .int 0, .int 336875845])) := by rw [hx_4 _ (ne_look g_22 g_23 (by simp))]; exact g_22
      have hle_4 := caS_le (txN pn pt) false (h2S (txN pn pt))
      have g_29 : hp_24 rd = some (.inr (6, [.ref pa, .ref rr, .int (nI (h3S (txN pn pt))), .int (nI 0)])) := by have z9 := g_25; rw [← (hw3 h2).2] at z9; exact z9
      have b3 : h3S (txN pn pt) ≤ 4 := by rw [(hw3 h2).2]; omega
      by_cases hK3 : h3W (txN pn pt) = true
      · refine r_eqi (if_pos ((hw3 h2).1.symm.trans hK3)) ?_
        refine r_putN X hW g_28 (v := .int (-1)) (C := RX4) (T := TX4) (N := 6) rfl tin_X4 tyX4_ok nmX4 1 (Nat.le_of_ble_eq_true rfl) tw_232 (fun _ h => h) rfl rfl rfl (Nat.le_of_ble_eq_true rfl) dX5_readsHead_44 (fun hp_30 H locs hW eh_31 => ?_)
        have f_32 : hp_30 rr = some (.inr (5, [.int (nI (tkV (txN pn pt) false 48 55 0)), .int (-1), .int 0, .int 0, .int 0, .int 336875845])) := by rw [eh_31]; exact va_up_self _ _ _
        have hS_5 := SBp.xf hS_4 (XF.up (XF.rf (rd := rr)) eh_31) g_28 (by decide)
        refine lv_aload_n X.1 X.2.1 dX5_readsHead_47 rfl (lv_at hl 0 rfl) ?_
        have f_33 : hp_30 rd = some (.inr (6, [.ref pa, .ref rr, .int (nI (h3S (txN pn pt))), .int (nI 0)])) := by rw [eh_31, va_up_ne _ _ (ne_look g_29 g_28 (by simp))]; exact g_29
        refine r_get X hW.1 f_33 (v := .ref rr) (C := RX5) (T := TX5) (N := 4) rfl tin_X5 1 (by decide) tw_759 (fun _ h => h) rfl dX5_readsHead_48 ?_
        refine r_getN X hW.1 f_32 (v := .int (-1)) (C := RX4) (T := TX4) (N := 6) rfl tin_X4 1 (by decide) tw_232 (fun _ h => h) rfl dX5_readsHead_51 ?_
        refine lv_iconst (v := (-1)) X.1 X.2.1 dX5_readsHead_54 (by decide) ?_
        refine lv_icmp_eq (tgt := 67) X.1 X.2.1 dX5_readsHead_55 (by decide) (fun c_55 => ?_) (fun c_55 => absurd (by decide) c_55)
        refine lv_iconst (v := 0) X.1 X.2.1 dX5_readsHead_67 (by decide) ?_
        obtain ⟨hw9, hs9⟩ := hd_3 (tx := (txN pn pt)) hK3
        exact wr_z X hr hlk rfl hW ⟨by rw [hw9]; rfl, by rw [hs9]; exact f_33, (XG.xr (XG.xf (XG.xf (XG.xr (XG.xf XG.rf hx_1) (XF.up XF.rf eh_15)) hx_3) hx_4) (XF.up XF.rf eh_31)), fun z9 => Bool.noConfusion (hw9.symm.trans z9)⟩ (Nat.le_of_ble_eq_true rfl) (Nat.le_of_ble_eq_true rfl) dX5_readsHead_68
      · have h3 : h3W (txN pn pt) = false := Bool.eq_false_iff.mpr hK3
        have hcv9 := caV_le (tx := (txN pn pt)) (sp := h2S (txN pn pt)) ((hw3 h2).1.symm.trans h3)
        refine r_eqi (show ((if caW (txN pn pt) false (h2S (txN pn pt)) = true then -1 else nI (caV (txN pn pt) false (h2S (txN pn pt)))) : Int32) = nI (caV (txN pn pt) (h2W (txN pn pt)) (h2S (txN pn pt))) from (if_neg (fun z9 => hK3 ((hw3 h2).1.trans z9))).trans (by rw [h2])) ?_
        refine r_putN X hW g_28 (v := .int (nI (caV (txN pn pt) (h2W (txN pn pt)) (h2S (txN pn pt))))) (C := RX4) (T := TX4) (N := 6) rfl tin_X4 tyX4_ok nmX4 1 (Nat.le_of_ble_eq_true rfl) tw_232 (fun _ h => h) rfl rfl rfl (Nat.le_of_ble_eq_true rfl) dX5_readsHead_44 (fun hp_34 H locs hW eh_35 => ?_)
        have f_36 : hp_34 rr = some (.inr (5, [.int (nI (tkV (txN pn pt) false 48 55 0)), .int (nI (caV (txN pn pt) (h2W (txN pn pt)) (h2S (txN pn pt)))), .int 0, .int 0, .int 0, .int 336875845])) := by rw [eh_35]; exact va_up_self _ _ _
        have hS_5 := SBp.xf hS_4 (XF.up (XF.rf (rd := rr)) eh_35) g_28 (by decide)
        refine lv_aload_n X.1 X.2.1 dX5_readsHead_47 rfl (lv_at hl 0 rfl) ?_
        have f_37 : hp_34 rd = some (.inr (6, [.ref pa, .ref rr, .int (nI (h3S (txN pn pt))), .int (nI 0)])) := by rw [eh_35, va_up_ne _ _ (ne_look g_29 g_28 (by simp))]; exact g_29
        refine r_get X hW.1 f_37 (v := .ref rr) (C := RX5) (T := TX5) (N := 4) rfl tin_X5 1 (by decide) tw_759 (fun _ h => h) rfl dX5_readsHead_48 ?_
        refine r_getN X hW.1 f_36 (v := .int (nI (caV (txN pn pt) (h2W (txN pn pt)) (h2S (txN pn pt))))) (C := RX4) (T := TX4) (N := 6) rfl tin_X4 1 (by decide) tw_232 (fun _ h => h) rfl dX5_readsHead_51 ?_
        refine lv_iconst (v := (-1)) X.1 X.2.1 dX5_readsHead_54 (by decide) ?_
        refine lv_icmp_eq (tgt := 67) X.1 X.2.1 dX5_readsHead_55 (by decide) (fun c_55 => absurd c_55 (nI_m1 (by rw [h2]; omega))) (fun c_55 => ?_)
        refine lv_aload_n X.1 X.2.1 dX5_readsHead_58 rfl (lv_at hl 0 rfl) ?_
        refine lv_bipush (v := 62) X.1 X.2.1 dX5_readsHead_59 (by decide) ?_
        refine on_Wi (k' := 0) (n' := 0) (run_V (C := RX5) (As := [.int 62]) (rest := []) X (c_X5_reads l G A hp_34 _ (fun q h => hA q (Nat.le_trans hW.2.2.1 h)) hW.2.1 pa vb cv ml fb pn pt hS_5 rd rr (h3S (txN pn pt)) 0 f_37 (by omega) 62 ⟨by decide, by decide⟩) (wp_blind _) (wp_at X hW.1 hW.2.2) (recv X hW.1 f_37 (C := RX5) (T := TX5) (N := 4) rfl) mf_X5_reads tw_802 tw_804 tw_20 ⟨rfl, rfl, Nat.le_of_ble_eq_true rfl, Nat.le_of_ble_eq_true rfl⟩ hl.1 rfl rfl (Nat.le_of_ble_eq_true rfl) ⟨Nat.le_of_ble_eq_true rfl, Nat.le_of_ble_eq_true rfl⟩ dX5_readsHead_61) hW (by omega) (by omega) (fun r_61 hp_38 H locs q_61 hW => ?_)
        obtain ⟨rfl, hr_6, hx_6⟩ := q_61
        have hS_6 := SBp.xf hS_5 hx_6 f_37 (by decide)
        have g_39 : hp_38 rd = some (.inr (6, [.ref pa, .ref rr, .int (nI (tkS (txN pn pt) false 62 62 (h3S (txN pn pt)))), .int (nI 0)])) := hr_6
        have g_40 : hp_38 pa = some (.inr (0, [.ref vb, .int 0, .int (bI ml), .int (nI pn)])) := hS_6.1
        have g_41 : hp_38 vb = some (.inl (G.2.1 0, cv, .inl fb)) := hS_6.2.1
        have g_42 : hp_38 rr = some (.inr (5, [.int (nI (tkV (txN pn pt) false 48 55 0)), .int (nI (caV (txN pn pt) (h2W (txN pn pt)) (h2S (txN pn pt)))), .int 0, .int 0, .int 0, .int 336875845])) := by rw [hx_6 _ (ne_look f_36 f_37 (by simp))]; exact f_36
        have hle_6 := tkS_le (txN pn pt) false 62 62 (h3S (txN pn pt))
        refine lv_if_ne (tgt := 69) X.1 X.2.1 dX5_readsHead_64 (by decide) (fun c_64 => ?_) (fun c_64 => ?_)
        · have h4 : h4W (txN pn pt) = false := (hw4 h3).1.trans (not_f (bI_1 c_64))
          have g_43 : hp_38 rd = some (.inr (6, [.ref pa, .ref rr, .int (nI (h4S (txN pn pt))), .int (nI 0)])) := by have z9 := g_39; rw [← (hw4 h3).2] at z9; exact z9
          have b4 : h4S (txN pn pt) ≤ 5 := by rw [(hw4 h3).2]; omega
          refine lv_aload_n X.1 X.2.1 dX5_readsHead_69 rfl (lv_at hl 0 rfl) ?_
          refine r_get X hW.1 g_43 (v := .ref rr) (C := RX5) (T := TX5) (N := 4) rfl tin_X5 1 (by decide) tw_759 (fun _ h => h) rfl dX5_readsHead_70 ?_
          refine lv_aload_n X.1 X.2.1 dX5_readsHead_73 rfl (lv_at hl 0 rfl) ?_
          refine lv_iconst (v := 0) X.1 X.2.1 dX5_readsHead_74 (by decide) ?_
          refine lv_bipush (v := 7) X.1 X.2.1 dX5_readsHead_75 (by decide) ?_
          refine on_Wi (k' := 0) (n' := 0) (run_V (C := RX5) (As := [.int 0, .int 7]) (rest := [.ref rr]) X (c_X5_readDigit l G A hp_38 _ (fun q h => hA q (Nat.le_trans hW.2.2.1 h)) hW.2.1 pa vb cv ml fb pn pt hS_6 rd rr (h4S (txN pn pt)) 0 g_43 (by omega) 0 7 (by omega) (by omega)) (wp_blind _) (wp_at X hW.1 hW.2.2) (recv X hW.1 g_43 (C := RX5) (T := TX5) (N := 4) rfl) mf_X5_readDigit tw_781 tw_783 tw_18 ⟨rfl, rfl, Nat.le_of_ble_eq_true rfl, Nat.le_of_ble_eq_true rfl⟩ hl.1 rfl rfl (Nat.le_of_ble_eq_true rfl) ⟨Nat.le_of_ble_eq_true rfl, Nat.le_of_ble_eq_true rfl⟩ dX5_readsHead_77) hW (by omega) (by omega) (fun r_77 hp_44 H locs q_77 hW => ?_)
          rw [show 48 + 0 = 48 from rfl, show 48 + 7 = 55 from rfl] at q_77
          obtain ⟨rfl, hr_7, hx_7⟩ := q_77
          have hS_7 := SBp.xf hS_6 hx_7 g_43 (by decide)
          have g_45 : hp_44 rd = some (.inr (6, [.ref pa, .ref rr, .int (nI (tkS (txN pn pt) false 48 55 (h4S (txN pn pt)))), .int (nI 0)])) := hr_7
          have g_46 : hp_44 pa = some (.inr (0, [.ref vb, .int 0, .int (bI ml), .int (nI pn)])) := hS_7.1
          have g_47 : hp_44 vb = some (.inl (G.2.1 0, cv, .inl fb)) := hS_7.2.1
          have g_48 : hp_44 rr = some (.inr (5, [.int (nI (tkV (txN pn pt) false 48 55 0)), .int (nI (caV (txN pn pt) (h2W (txN pn pt)) (h2S (txN pn pt)))), .int 0, .int 0, .int 0, .int 336875845])) := by rw [hx_7 _ (ne_look g_42 g_43 (by simp))]; exact g_42
          have hle_7 := tkS_le (txN pn pt) false 48 55 (h4S (txN pn pt))
          have g_49 : hp_44 rd = some (.inr (6, [.ref pa, .ref rr, .int (nI (h5S (txN pn pt))), .int (nI 0)])) := by have z9 := g_45; rw [← (hw5 h4).2] at z9; exact z9
          have b5 : h5S (txN pn pt) ≤ 6 := by rw [(hw5 h4).2]; omega
          by_cases hK5 : h5W (txN pn pt) = true
          · refine r_eqi (if_pos ((hw5 h4).1.symm.trans hK5)) ?_
            refine r_putN X hW g_48 (v := .int (-1)) (C := RX4) (T := TX4) (N := 6) rfl tin_X4 tyX4_ok nmX4 2 (Nat.le_of_ble_eq_true rfl) tw_236 (fun _ h => h) rfl rfl rfl (Nat.le_of_ble_eq_true rfl) dX5_readsHead_80 (fun hp_50 H locs hW eh_51 => ?_)
            have f_52 : hp_50 rr = some (.inr (5, [.int (nI (tkV (txN pn pt) false 48 55 0)), .int (nI (caV (txN pn pt) (h2W (txN pn pt)) (h2S (txN pn pt)))), .int (-1), .int 0, .int 0, .int 336875845])) := by rw [eh_51]; exact va_up_self _ _ _
            have hS_8 := SBp.xf hS_7 (XF.up (XF.rf (rd := rr)) eh_51) g_48 (by decide)
            refine lv_aload_n X.1 X.2.1 dX5_readsHead_83 rfl (lv_at hl 0 rfl) ?_
            have f_53 : hp_50 rd = some (.inr (6, [.ref pa, .ref rr, .int (nI (h5S (txN pn pt))), .int (nI 0)])) := by rw [eh_51, va_up_ne _ _ (ne_look g_49 g_48 (by simp))]; exact g_49
            refine r_get X hW.1 f_53 (v := .ref rr) (C := RX5) (T := TX5) (N := 4) rfl tin_X5 1 (by decide) tw_759 (fun _ h => h) rfl dX5_readsHead_84 ?_
            refine r_getN X hW.1 f_52 (v := .int (-1)) (C := RX4) (T := TX4) (N := 6) rfl tin_X4 2 (by decide) tw_236 (fun _ h => h) rfl dX5_readsHead_87 ?_
            refine lv_iconst (v := (-1)) X.1 X.2.1 dX5_readsHead_90 (by decide) ?_
            refine lv_icmp_ne (tgt := 96) X.1 X.2.1 dX5_readsHead_91 (by decide) (fun c_91 => absurd (by decide) c_91) (fun c_91 => ?_)
            refine lv_iconst (v := 0) X.1 X.2.1 dX5_readsHead_94 (by decide) ?_
            obtain ⟨hw9, hs9⟩ := (⟨hK5, hd_5 hK5⟩ : h5W (txN pn pt) = true ∧ h5S (txN pn pt) + hFo (txN pn pt) = h5S (txN pn pt))
            exact wr_z X hr hlk rfl hW ⟨by rw [hw9]; rfl, by rw [hs9]; exact f_53, (XG.xr (XG.xf (XG.xf (XG.xr (XG.xf (XG.xf (XG.xr (XG.xf XG.rf hx_1) (XF.up XF.rf eh_15)) hx_3) hx_4) (XF.up XF.rf eh_35)) hx_6) hx_7) (XF.up XF.rf eh_51)), fun z9 => Bool.noConfusion (hw9.symm.trans z9)⟩ (Nat.le_of_ble_eq_true rfl) (Nat.le_of_ble_eq_true rfl) dX5_readsHead_95
          · have h5 : h5W (txN pn pt) = false := Bool.eq_false_iff.mpr hK5
            have htv9 := tkV_le (tx := (txN pn pt)) (w := h4W (txN pn pt)) (lo := 48) (hi := 55) (sp := h4S (txN pn pt))
            refine r_eqi (show ((if tkW (txN pn pt) false 48 55 (h4S (txN pn pt)) = true then -1 else nI ((txN pn pt) (h4S (txN pn pt)) - 48)) : Int32) = nI (tkV (txN pn pt) (h4W (txN pn pt)) 48 55 (h4S (txN pn pt))) from (if_neg (fun z9 => hK5 ((hw5 h4).1.trans z9))).trans (by rw [h4]; exact congrArg nI (tk_f (fun z9 => hK5 ((hw5 h4).1.trans z9))).2.symm)) ?_
            refine r_putN X hW g_48 (v := .int (nI (tkV (txN pn pt) (h4W (txN pn pt)) 48 55 (h4S (txN pn pt))))) (C := RX4) (T := TX4) (N := 6) rfl tin_X4 tyX4_ok nmX4 2 (Nat.le_of_ble_eq_true rfl) tw_236 (fun _ h => h) rfl rfl rfl (Nat.le_of_ble_eq_true rfl) dX5_readsHead_80 (fun hp_54 H locs hW eh_55 => ?_)
            have f_56 : hp_54 rr = some (.inr (5, [.int (nI (tkV (txN pn pt) false 48 55 0)), .int (nI (caV (txN pn pt) (h2W (txN pn pt)) (h2S (txN pn pt)))), .int (nI (tkV (txN pn pt) (h4W (txN pn pt)) 48 55 (h4S (txN pn pt)))), .int 0, .int 0, .int 336875845])) := by rw [eh_55]; exact va_up_self _ _ _
            have hS_8 := SBp.xf hS_7 (XF.up (XF.rf (rd := rr)) eh_55) g_48 (by decide)
            refine lv_aload_n X.1 X.2.1 dX5_readsHead_83 rfl (lv_at hl 0 rfl) ?_
            have f_57 : hp_54 rd = some (.inr (6, [.ref pa, .ref rr, .int (nI (h5S (txN pn pt))), .int (nI 0)])) := by rw [eh_55, va_up_ne _ _ (ne_look g_49 g_48 (by simp))]; exact g_49
            refine r_get X hW.1 f_57 (v := .ref rr) (C := RX5) (T := TX5) (N := 4) rfl tin_X5 1 (by decide) tw_759 (fun _ h => h) rfl dX5_readsHead_84 ?_
            refine r_getN X hW.1 f_56 (v := .int (nI (tkV (txN pn pt) (h4W (txN pn pt)) 48 55 (h4S (txN pn pt))))) (C := RX4) (T := TX4) (N := 6) rfl tin_X4 2 (by decide) tw_236 (fun _ h => h) rfl dX5_readsHead_87 ?_
            refine lv_iconst (v := (-1)) X.1 X.2.1 dX5_readsHead_90 (by decide) ?_
            refine lv_icmp_ne (tgt := 96) X.1 X.2.1 dX5_readsHead_91 (by decide) (fun c_91 => ?_) (fun c_91 => absurd c_91 (nI_m1 (by omega)))
            refine lv_aload_n X.1 X.2.1 dX5_readsHead_96 rfl (lv_at hl 0 rfl) ?_
            refine r_get X hW.1 f_57 (v := .ref rr) (C := RX5) (T := TX5) (N := 4) rfl tin_X5 1 (by decide) tw_759 (fun _ h => h) rfl dX5_readsHead_97 ?_
            refine lv_aload_n X.1 X.2.1 dX5_readsHead_100 rfl (lv_at hl 0 rfl) ?_
            refine lv_bipush (v := 33) X.1 X.2.1 dX5_readsHead_101 (by decide) ?_
            refine on_Wi (k' := 0) (n' := 0) (run_V (C := RX5) (As := [.int 33]) (rest := [.ref rr]) X (c_X5_reads l G A hp_54 _ (fun q h => hA q (Nat.le_trans hW.2.2.1 h)) hW.2.1 pa vb cv ml fb pn pt hS_8 rd rr (h5S (txN pn pt)) 0 f_57 (by omega) 33 ⟨by decide, by decide⟩) (wp_blind _) (wp_at X hW.1 hW.2.2) (recv X hW.1 f_57 (C := RX5) (T := TX5) (N := 4) rfl) mf_X5_reads tw_802 tw_804 tw_20 ⟨rfl, rfl, Nat.le_of_ble_eq_true rfl, Nat.le_of_ble_eq_true rfl⟩ hl.1 rfl rfl (Nat.le_of_ble_eq_true rfl) ⟨Nat.le_of_ble_eq_true rfl, Nat.le_of_ble_eq_true rfl⟩ dX5_readsHead_103) hW (by omega) (by omega) (fun r_103 hp_58 H locs q_103 hW => ?_)
            obtain ⟨rfl, hr_9, hx_9⟩ := q_103
            have hS_9 := SBp.xf hS_8 hx_9 f_57 (by decide)
            have g_59 : hp_58 rd = some (.inr (6, [.ref pa, .ref rr, .int (nI (tkS (txN pn pt) false 33 33 (h5S (txN pn pt)))), .int (nI 0)])) := hr_9
            have g_60 : hp_58 pa = some (.inr (0, [.ref vb, .int 0, .int (bI ml), .int (nI pn)])) := hS_9.1
            have g_61 : hp_58 vb = some (.inl (G.2.1 0, cv, .inl fb)) := hS_9.2.1
            have g_62 : hp_58 rr = some (.inr (5, [.int (nI (tkV (txN pn pt) false 48 55 0)), .int (nI (caV (txN pn pt) (h2W (txN pn pt)) (h2S (txN pn pt)))), .int (nI (tkV (txN pn pt) (h4W (txN pn pt)) 48 55 (h4S (txN pn pt)))), .int 0, .int 0, .int 336875845])) := by rw [hx_9 _ (ne_look f_56 f_57 (by simp))]; exact f_56
            have hle_9 := tkS_le (txN pn pt) false 33 33 (h5S (txN pn pt))
            refine lv_if_eq (tgt := 113) X.1 X.2.1 dX5_readsHead_106 (by decide) (fun c_106 => ?_) (fun c_106 => ?_)
            · have h6 := not_t (bI_0 c_106)
              have g_63 : hp_58 rd = some (.inr (6, [.ref pa, .ref rr, .int (nI (h5S (txN pn pt) + 0)), .int (nI 0)])) := by have z9 := g_59; rw [(tk_t h6).1] at z9; exact z9
              refine lv_iconst (v := 0) X.1 X.2.1 dX5_readsHead_113 (by decide) ?_
              refine r_putN X hW g_62 (v := .int 0) (C := RX4) (T := TX4) (N := 6) rfl tin_X4 tyX4_ok nmX4 3 (Nat.le_of_ble_eq_true rfl) tw_239 (fun _ h => h) rfl rfl rfl (Nat.le_of_ble_eq_true rfl) dX5_readsHead_114 (fun hp_64 H locs hW eh_65 => ?_)
              have f_66 : hp_64 rr = some (.inr (5, [.int (nI (tkV (txN pn pt) false 48 55 0)), .int (nI (caV (txN pn pt) (h2W (txN pn pt)) (h2S (txN pn pt)))), .int (nI (tkV (txN pn pt) (h4W (txN pn pt)) 48 55 (h4S (txN pn pt)))), .int 0, .int 0, .int 336875845])) := by rw [eh_65]; exact va_up_self _ _ _
              have hS_10 := SBp.xf hS_9 (XF.up (XF.rf (rd := rr)) eh_65) g_62 (by decide)
              refine lv_iconst (v := 1) X.1 X.2.1 dX5_readsHead_117 (by decide) ?_
              have hf9 : hFo (txN pn pt) = 0 := if_neg (fun z9 => tk1_t h6 z9.2)
              exact wr_z X hr hlk rfl hW ⟨by rw [h5]; rfl, by rw [hf9]; exact (show (_ : Option va_E) = some (.inr (6, [.ref pa, .ref rr, .int (nI (h5S (txN pn pt) + 0)), .int (nI 0)])) by rw [eh_65, va_up_ne _ _ (ne_look g_63 g_62 (by simp))]; exact g_63), (XG.xr (XG.xf (XG.xr (XG.xf (XG.xf (XG.xr (XG.xf (XG.xf (XG.xr (XG.xf XG.rf hx_1) (XF.up XF.rf eh_15)) hx_3) hx_4) (XF.up XF.rf eh_35)) hx_6) hx_7) (XF.up XF.rf eh_55)) hx_9) (XF.up XF.rf eh_65)), fun _ => by unfold hQ; rw [rc_new, hf9]; exact f_66⟩ (Nat.le_of_ble_eq_true rfl) (Nat.le_of_ble_eq_true rfl) dX5_readsHead_118
            · have h6 := not_f (bI_1 c_106)
              have g_67 : hp_58 rd = some (.inr (6, [.ref pa, .ref rr, .int (nI (h5S (txN pn pt) + 1)), .int (nI 0)])) := by have z9 := g_59; rw [(tk_f (fun z9 => Bool.false_ne_true (h6.symm.trans z9))).1] at z9; exact z9
              refine lv_iconst (v := 1) X.1 X.2.1 dX5_readsHead_109 (by decide) ?_
              refine lv_goto (tgt := 114) X.1 X.2.1 dX5_readsHead_110 (by decide) ?_
              refine r_putN X hW g_62 (v := .int 1) (C := RX4) (T := TX4) (N := 6) rfl tin_X4 tyX4_ok nmX4 3 (Nat.le_of_ble_eq_true rfl) tw_239 (fun _ h => h) rfl rfl rfl (Nat.le_of_ble_eq_true rfl) dX5_readsHead_114 (fun hp_68 H locs hW eh_69 => ?_)
              have f_70 : hp_68 rr = some (.inr (5, [.int (nI (tkV (txN pn pt) false 48 55 0)), .int (nI (caV (txN pn pt) (h2W (txN pn pt)) (h2S (txN pn pt)))), .int (nI (tkV (txN pn pt) (h4W (txN pn pt)) 48 55 (h4S (txN pn pt)))), .int 1, .int 0, .int 336875845])) := by rw [eh_69]; exact va_up_self _ _ _
              have hS_10 := SBp.xf hS_9 (XF.up (XF.rf (rd := rr)) eh_69) g_62 (by decide)
              refine lv_iconst (v := 1) X.1 X.2.1 dX5_readsHead_117 (by decide) ?_
              have hf9 : hFo (txN pn pt) = 1 := if_pos ⟨h5, tk1_f h6⟩
              exact wr_z X hr hlk rfl hW ⟨by rw [h5]; rfl, by rw [hf9]; exact (show (_ : Option va_E) = some (.inr (6, [.ref pa, .ref rr, .int (nI (h5S (txN pn pt) + 1)), .int (nI 0)])) by rw [eh_69, va_up_ne _ _ (ne_look g_67 g_62 (by simp))]; exact g_67), (XG.xr (XG.xf (XG.xr (XG.xf (XG.xf (XG.xr (XG.xf (XG.xf (XG.xr (XG.xf XG.rf hx_1) (XF.up XF.rf eh_15)) hx_3) hx_4) (XF.up XF.rf eh_35)) hx_6) hx_7) (XF.up XF.rf eh_55)) hx_9) (XF.up XF.rf eh_69)), fun _ => by unfold hQ; rw [rc_new, hf9]; exact f_70⟩ (Nat.le_of_ble_eq_true rfl) (Nat.le_of_ble_eq_true rfl) dX5_readsHead_118
        · have h4 : h4W (txN pn pt) = true := (hw4 h3).1.trans (not_t (bI_0 c_64))
          have g_71 : hp_38 rd = some (.inr (6, [.ref pa, .ref rr, .int (nI (h4S (txN pn pt))), .int (nI 0)])) := by have z9 := g_39; rw [← (hw4 h3).2] at z9; exact z9
          have b4 : h4S (txN pn pt) ≤ 5 := by rw [(hw4 h3).2]; omega
          refine lv_iconst (v := 0) X.1 X.2.1 dX5_readsHead_67 (by decide) ?_
          obtain ⟨hw9, hs9⟩ := hd_4 (tx := (txN pn pt)) h4
          exact wr_z X hr hlk rfl hW ⟨by rw [hw9]; rfl, by rw [hs9]; exact g_71, (XG.xf (XG.xr (XG.xf (XG.xf (XG.xr (XG.xf XG.rf hx_1) (XF.up XF.rf eh_15)) hx_3) hx_4) (XF.up XF.rf eh_35)) hx_6), fun z9 => Bool.noConfusion (hw9.symm.trans z9)⟩ (Nat.le_of_ble_eq_true rfl) (Nat.le_of_ble_eq_true rfl) dX5_readsHead_68
    · have h2 : h2W (txN pn pt) = true := (hw2 h1).1.trans (not_t (bI_0 c_31))
      have g_72 : hp_18 rd = some (.inr (6, [.ref pa, .ref rr, .int (nI (h2S (txN pn pt))), .int (nI 0)])) := by have z9 := g_19; rw [← (hw2 h1).2] at z9; exact z9
      have b2 : h2S (txN pn pt) ≤ 2 := by rw [(hw2 h1).2]; omega
      refine lv_iconst (v := 0) X.1 X.2.1 dX5_readsHead_34 (by decide) ?_
      obtain ⟨hw9, hs9⟩ := hd_2 (tx := (txN pn pt)) h2
      exact wr_z X hr hlk rfl hW ⟨by rw [hw9]; rfl, by rw [hs9]; exact g_72, (XG.xf (XG.xr (XG.xf XG.rf hx_1) (XF.up XF.rf eh_15)) hx_3), fun z9 => Bool.noConfusion (hw9.symm.trans z9)⟩ (Nat.le_of_ble_eq_true rfl) (Nat.le_of_ble_eq_true rfl) dX5_readsHead_35

