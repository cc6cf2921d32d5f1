set_option maxHeartbeats 4000000 in
set_option maxRecDepth 100000 in
theorem c_X7_load (l : Launch) (G : HG) (A : Nat → Prop) (hp : HP) (sz : Nat) (hA : ∀ q, sz ≤ q → A q) (hO : Ow A hp) (M : Nat → Nat) (sc : Nat → Int32) (ar : Nat → Nat → Int32) (sm : Nat → Int64) (hM : MR G hp M sc ar sm) (n : Nat) (R : Nat → Nat → Nat) (hd : Nat → Nat) (k : Nat) (cs : Nat → Nat → Int32) (sk : Bool) (pn : Nat) (pt : Nat → Nat) (hz : MST (n, R, hd, k, cs, sk, pn, pt) sc ar) : Met l yX7_load [.code yX7_load cX7_load 2 (some .int)] { frames := 5, cells := 0, slots := 0, locals := 115 } (va_Pc [.ref (M 0)] (WP G A sz hp)) (va_Qi (fun r hp1 => r = fLoad (n, R, hd, k, cs, sk, pn, pt) ∧ ∃ sc1 ar1 sm1, MR G hp1 M sc1 ar1 sm1 ∧ MST (gLoad (n, R, hd, k, cs, sk, pn, pt)) sc1 ar1) (WB G A) A) 0 0 A := by
  refine wr_ofW (by decide) (Nat.le_of_ble_eq_true rfl) hO ?_
  intro p e s m args below meth c ls X hr hlk hnm hsz hW hl
  have hA : ∀ q, s.heap.size ≤ q → A q := fun q h => hA q (by omega)
  have hl : lv_has ls 2 [(0, .ref (M 0))] := hl
  have hT : MT ar := hz.1
  have hU : MU n R sc ar := hz.2.1
  have hH2 : MH hd ar := hz.2.2.1
  have hau : MAu k cs sk sc ar := hz.2.2.2.1
  have hP : MP pn pt sc ar := hz.2.2.2.2
  have hn := hU.2.1
  have hk := hau.2.1
  refine lv_aload_n X.1 X.2.1 dX7_load_0 rfl (lv_at hl 0 rfl) ?_
  refine on_Wi (k' := 0) (n' := 0) (run_V (C := RX7) (As := []) (rest := []) X (c_X7_fault l G A hp _ (fun q h => hA q (Nat.le_trans hW.2.2.1 h)) hW.2.1 M sc ar sm hM n R hd k cs sk pn pt hz ) (wp_blind _) (wp_at X hW.1 hW.2.2) (recv X hW.1 hM.1 (C := RX7) (T := TX7) (N := 19) rfl) mf_X7_fault tw_1143 tw_1113 tw_1114 ⟨rfl, rfl, Nat.le_of_ble_eq_true rfl, Nat.le_of_ble_eq_true rfl⟩ hl.1 rfl rfl (Nat.le_of_ble_eq_true rfl) ⟨Nat.le_of_ble_eq_true rfl, Nat.le_of_ble_eq_true rfl⟩ dX7_load_1) hW (by omega) (by omega) (fun r_1 hp_1 H locs q_1 hW => ?_)
  obtain ⟨rfl, sc7, ar7, sm7, hM, hz, hfr⟩ := q_1
  refine lv_bipush (v := (-6)) X.1 X.2.1 dX7_load_4 (by decide) ?_
  refine lv_icmp_eq (tgt := 12) X.1 X.2.1 dX7_load_6 (by decide) (fun c_6 => ?_) (fun c_6 => ?_)
  · refine lv_aload_n X.1 X.2.1 dX7_load_12 rfl (lv_at hl 0 rfl) ?_
    refine on_Wi (k' := 0) (n' := 0) (run_V (C := RX7) (As := []) (rest := []) X (c_X7_addFresh l G A hp_1 _ (fun q h => hA q (Nat.le_trans hW.2.2.1 h)) hW.2.1 M sc7 ar7 sm7 hM n R hd k cs sk pn pt hz (rdF (txN pn pt)).2.2 (hfr c_6)) (wp_blind _) (wp_at X hW.1 hW.2.2) (recv X hW.1 hM.1 (C := RX7) (T := TX7) (N := 19) rfl) mf_X7_addFresh tw_914 tw_916 tw_28 ⟨rfl, rfl, Nat.le_of_ble_eq_true rfl, Nat.le_of_ble_eq_true rfl⟩ hl.1 rfl rfl (Nat.le_of_ble_eq_true rfl) ⟨Nat.le_of_ble_eq_true rfl, Nat.le_of_ble_eq_true rfl⟩ dX7_load_13) hW (by omega) (by omega) (fun r_13 hp_2 H locs q_13 hW => ?_)
    obtain ⟨rfl, sc8, ar8, sm8, hM, hz⟩ := q_13
    refine lv_istore_n (lv' := [(1, .int (fAdd (n, R, hd, k, cs, sk, pn, pt) (rdF (txN pn pt)).2.2)), (0, .ref (M 0))]) X.1 X.2.1 dX7_load_16 rfl hl (by decide) rfl (fun ls hl => ?_)
    refine lv_aload_n X.1 X.2.1 dX7_load_17 rfl (lv_at hl 1 rfl) ?_
    refine lv_iload_n X.1 X.2.1 dX7_load_18 rfl (lv_at hl 0 rfl) ?_
    refine lv_if_ge (tgt := 29) X.1 X.2.1 dX7_load_19 (by decide) (fun c_19 => ?_) (fun c_19 => ?_)
    · refine lv_iconst (v := 0) X.1 X.2.1 dX7_load_29 (by decide) ?_
      refine r_put X hW hM.1 (v := .int 0) (C := RX7) (T := TX7) (N := 19) rfl tin_X7 tyX7_ok nmX7 13 (Nat.le_of_ble_eq_true rfl) tw_856 (fun _ h => h) rfl rfl rfl (Nat.le_of_ble_eq_true rfl) dX7_load_30 (fun hp_3 H locs hW eh_4 => ?_)
      have hM := mr_sc3 hM eh_4
      refine lv_iload_n X.1 X.2.1 dX7_load_33 rfl (lv_at hl 0 rfl) ?_
      exact wr_i X hr hlk hW ⟨(if_pos c_6).symm, _, _, _, hM, by rw [show gLoad (n, R, hd, k, cs, sk, pn, pt) = gPad (gAdd (n, R, hd, k, cs, sk, pn, pt) (rdF (txN pn pt)).2.2) 0 pt from (if_pos c_6).trans (if_neg (Int32.not_lt.mpr c_19))]; exact ⟨hz.1, hz.2.1, hz.2.2.1, hz.2.2.2.1, mp_0 (pn := pn)⟩⟩ (Nat.le_of_ble_eq_true rfl) (Nat.le_of_ble_eq_true rfl) dX7_load_34
    · refine lv_aload_n X.1 X.2.1 dX7_load_22 rfl (lv_at hl 1 rfl) ?_
      refine r_get X hW.1 hM.1 (v := .int (sc8 3)) (C := RX7) (T := TX7) (N := 19) rfl tin_X7 13 (by decide) tw_856 (fun _ h => h) rfl dX7_load_23 ?_
      refine lv_goto (tgt := 30) X.1 X.2.1 dX7_load_26 (by decide) ?_
      refine r_put X hW hM.1 (v := .int (sc8 3)) (C := RX7) (T := TX7) (N := 19) rfl tin_X7 tyX7_ok nmX7 13 (Nat.le_of_ble_eq_true rfl) tw_856 (fun _ h => h) rfl rfl rfl (Nat.le_of_ble_eq_true rfl) dX7_load_30 (fun hp_5 H locs hW eh_6 => ?_)
      have hM := mr_sc3 hM eh_6
      refine lv_iload_n X.1 X.2.1 dX7_load_33 rfl (lv_at hl 0 rfl) ?_
      exact wr_i X hr hlk hW ⟨(if_pos c_6).symm, _, _, _, hM, by rw [show gLoad (n, R, hd, k, cs, sk, pn, pt) = gAdd (n, R, hd, k, cs, sk, pn, pt) (rdF (txN pn pt)).2.2 from (if_pos c_6).trans (if_pos (Int32.not_le.mp c_19)), va_id6 rfl]; exact hz⟩ (Nat.le_of_ble_eq_true rfl) (Nat.le_of_ble_eq_true rfl) dX7_load_34
  · refine lv_bipush (v := (-3)) X.1 X.2.1 dX7_load_9 (by decide) ?_
    exact wr_i X hr hlk hW ⟨(if_neg c_6).symm, _, _, _, hM, by rw [show gLoad (n, R, hd, k, cs, sk, pn, pt) = (n, R, hd, k, cs, sk, pn, pt) from if_neg c_6]; exact hz⟩ (Nat.le_of_ble_eq_true rfl) (Nat.le_of_ble_eq_true rfl) dX7_load_11

