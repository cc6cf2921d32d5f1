/-! the constructor of the component -/
set_option maxHeartbeats 4000000 in
set_option maxRecDepth 100000 in
theorem c_J5_init_d00df (l : Launch) (G : HG) (A : Nat → Prop) (hp : HP) (sz : Nat) (hA : ∀ q, sz ≤ q → A q) (hO : Ow A hp) (pa : Nat) (pt : Nat → Nat) (hpa : hp pa = some (.inr (0, [.null, .int 0, .int 0, .int 0]))) : Met l yJ5_init_d00df [.code yJ5_init_d00df cJ5_init_d00df 2 none] { frames := 1, cells := 1, slots := 16, locals := 12 } (va_Pc [.ref pa, .int 16] (WP G A sz hp)) (va_Qv (fun hp1 => ∃ vb, SBp G hp1 pa vb 16 false (fun _ => 0) 0 pt ∧ IFq hp hp1 pa) (WB G A) A) 1 16 A := by
  refine wr_ofW (by decide) (Nat.le_of_ble_eq_true rfl) hO ?_
  intro p e s m args below meth c ls X hr hlk hnm hsz hW hl
  have hA : ∀ q, s.heap.size ≤ q → A q := fun q h => hA q (by omega)
  have hl : lv_has ls 2 [(0, .ref pa), (1, .int 16)] := hl
  refine lv_aload_n X.1 X.2.1 dJ5_init_d00df_0 rfl (lv_at hl 0 rfl) ?_
  refine W.objInit X.1 X.2.1 X.2.2.2.1 (tb_all X.2.2.2.2.1 _ tw_125) (tb_all X.2.2.2.2.1 _ tw_41) (tb_all X.2.2.2.2.1 _ tw_objinit) rfl (by rw [X.2.2.1]; exact hl.1) rfl dJ5_init_d00df_1 (Nat.le_of_ble_eq_true rfl) (Nat.le_of_ble_eq_true rfl) ?_
  refine W.eq (g2 := F0 m 4 ls []) rfl ?_
  refine r_getCS X hW.2.2 tw_126 dJ5_init_d00df_4 ?_
  refine lv_if_eq (tgt := 25) X.1 X.2.1 dJ5_init_d00df_7 (by decide) (fun c_7 => absurd c_7 (by decide)) (fun c_7 => ?_)
  refine lv_aload_n X.1 X.2.1 dJ5_init_d00df_10 rfl (lv_at hl 0 rfl) ?_
  refine lv_iload_n X.1 X.2.1 dJ5_init_d00df_11 rfl (lv_at hl 1 rfl) ?_
  refine r_newB (k := 1) (n := 16) X hA hW (N := 16) (by decide) (by decide) (by decide) (by omega) (by omega) (Nat.le_of_ble_eq_true rfl) (Nat.le_of_ble_eq_true rfl) tw_147 dJ5_init_d00df_12 (fun q_12 hp_1 H hW eh_2 hn_3 => ?_)
  have ne_4 : pa ≠ q_12 := ne_none hpa hn_3
  have f_5 : hp_1 q_12 = some (.inl (G.2.1 0, 16, .inl (fun _ => 0))) := by rw [eh_2]; exact va_up_self _ _ _
  have f_6 : hp_1 pa = some (.inr (0, [.null, .int 0, .int 0, .int 0])) := by rw [eh_2, va_up_ne _ _ ne_4]; exact hpa
  refine r_put X hW f_6 (v := .ref q_12) (C := RJ4) (T := TJ4) (N := 4) rfl tin_J4 tyJ4_ok nmJ4 0 (Nat.le_of_ble_eq_true rfl) tw_135 (fun _ h => h) rfl rfl rfl (Nat.le_of_ble_eq_true rfl) dJ5_init_d00df_14 (fun hp_7 H locs hW eh_8 => ?_)
  have f_9 : hp_7 pa = some (.inr (0, [.ref q_12, .int 0, .int 0, .int 0])) := by rw [eh_8]; exact va_up_self _ _ _
  refine lv_aload_n X.1 X.2.1 dJ5_init_d00df_17 rfl (lv_at hl 0 rfl) ?_
  refine lv_iconst (v := 0) X.1 X.2.1 dJ5_init_d00df_18 (by decide) ?_
  refine r_put X hW f_9 (v := .int 0) (C := RJ4) (T := TJ4) (N := 4) rfl tin_J4 tyJ4_ok nmJ4 1 (Nat.le_of_ble_eq_true rfl) tw_136 (fun _ h => h) rfl rfl rfl (Nat.le_of_ble_eq_true rfl) dJ5_init_d00df_19 (fun hp_10 H locs hW eh_11 => ?_)
  have f_12 : hp_10 pa = some (.inr (0, [.ref q_12, .int 0, .int 0, .int 0])) := by rw [eh_11]; exact va_up_self _ _ _
  refine lv_goto (tgt := 38) X.1 X.2.1 dJ5_init_d00df_22 (by decide) ?_
  exact wr_v X hr hlk hW ⟨q_12, ⟨f_12, (show (_ : Option va_E) = some (.inl (G.2.1 0, 16, .inl (fun _ => 0))) by rw [eh_11, va_up_ne _ _ (Ne.symm ne_4), eh_8, va_up_ne _ _ (Ne.symm ne_4)]; exact f_5), by decide, by decide, by decide, by decide, fun _ => byf0, fun i hi => absurd hi (Nat.not_lt_zero i), fun i hi => absurd hi (Nat.not_lt_zero i)⟩, (IF.au (IF.au (IF.tw IF.rf (le_new hn_3 eh_2)) eh_8) eh_11)⟩ (Nat.le_of_ble_eq_true rfl) (Nat.le_of_ble_eq_true rfl) dJ5_init_d00df_38

set_option maxHeartbeats 4000000 in
set_option maxRecDepth 100000 in
theorem c_J4_init_da8c8 (l : Launch) (G : HG) (A : Nat → Prop) (hp : HP) (sz : Nat) (hA : ∀ q, sz ≤ q → A q) (hO : Ow A hp) (pa : Nat) (pt : Nat → Nat) (hpa : hp pa = some (.inr (0, [.null, .int 0, .int 0, .int 0]))) : Met l yJ4_init_da8c8 [.code yJ4_init_da8c8 cJ4_init_da8c8 1 none] { frames := 2, cells := 1, slots := 16, locals := 33 } (va_Pc [.ref pa] (WP G A sz hp)) (va_Qv (fun hp1 => ∃ vb, SBp G hp1 pa vb 16 false (fun _ => 0) 0 pt ∧ IFq hp hp1 pa) (WB G A) A) 1 16 A := by
  refine wr_ofW (by decide) (Nat.le_of_ble_eq_true rfl) hO ?_
  intro p e s m args below meth c ls X hr hlk hnm hsz hW hl
  have hA : ∀ q, s.heap.size ≤ q → A q := fun q h => hA q (by omega)
  have hl : lv_has ls 1 [(0, .ref pa)] := hl
  refine lv_aload_n X.1 X.2.1 dJ4_init_da8c8_0 rfl (lv_at hl 0 rfl) ?_
  refine lv_bipush (v := 16) X.1 X.2.1 dJ4_init_da8c8_1 (by decide) ?_
  refine on_Wv (k' := 1) (n' := 16) (run_I (As := [.int 16]) (rest := []) X (c_J5_init_d00df l G A hp _ (fun q h => hA q (Nat.le_trans hW.2.2.1 h)) hW.2.1 pa pt hpa) (wp_blind _) (wp_at X hW.1 hW.2.2) mf_J5_init_d00df tw_122 tw_123 rfl ⟨rfl, rfl, Nat.le_of_ble_eq_true rfl, Nat.le_of_ble_eq_true rfl⟩ hl.1 rfl rfl (Nat.le_of_ble_eq_true rfl) ⟨Nat.le_of_ble_eq_true rfl, Nat.le_of_ble_eq_true rfl⟩ dJ4_init_da8c8_3) hW (by omega) (by omega) (fun hp_1 H locs q_3 hW => ?_)
  exact wr_v X hr hlk hW q_3 (Nat.le_of_ble_eq_true rfl) (Nat.le_of_ble_eq_true rfl) dJ4_init_da8c8_6

theorem hd0_ok : ∀ i, i < 2 → z0.2.2.1 i ≤ 1048575 ∧ strH (z0.2.2.1 i) ≤ 20 := fun i hi => by
  rcases (show i = 0 ∨ i = 1 by omega) with rfl | rfl <;> exact ⟨by decide, by decide⟩
set_option maxHeartbeats 4000000 in
set_option maxRecDepth 100000 in
theorem c_X6_init (l : Launch) (G : HG) (A : Nat → Prop) (hp : HP) (sz : Nat) (hA : ∀ q, sz ≤ q → A q) (hO : Ow A hp) (b6 : Nat) (hb6 : hp b6 = some (.inr (7, [.null, .null, .null, .int 0, .int 0]))) : Met l yX6_init [.code yX6_init cX6_init 1 none] { frames := 5, cells := 6, slots := 33, locals := 92 } (va_Pc [.ref b6] (WP G A sz hp)) (va_Qv (fun hp1 => CZ G hp1 b6 z0) (WB G A) A) 6 33 A := by
  refine wr_ofW (by decide) (Nat.le_of_ble_eq_true rfl) hO ?_
  intro p e s m args below meth c ls X hr hlk hnm hsz hW hl
  have hA : ∀ q, s.heap.size ≤ q → A q := fun q h => hA q (by omega)
  have hl : lv_has ls 1 [(0, .ref b6)] := hl
  refine lv_aload_n X.1 X.2.1 dX6_init_0 rfl (lv_at hl 0 rfl) ?_
  refine W.objInit X.1 X.2.1 X.2.2.2.1 (tb_all X.2.2.2.2.1 _ tw_40) (tb_all X.2.2.2.2.1 _ tw_41) (tb_all X.2.2.2.2.1 _ tw_objinit) rfl (by rw [X.2.2.1]; exact hl.1) rfl dX6_init_1 (Nat.le_of_ble_eq_true rfl) (Nat.le_of_ble_eq_true rfl) ?_
  refine W.eq (g2 := F0 m 4 ls []) rfl ?_
  refine lv_aload_n X.1 X.2.1 dX6_init_4 rfl (lv_at hl 0 rfl) ?_
  refine r_new (k := 1) (n := 3) (fs := [.int 0, .null, .int 0]) X hA hW (C := RJx4a65c) (T := TJx4a65c) (N := 3) (ci := 1) rfl tin_Jx4a65c tyJx4a65c_ok tw_43 tw_44 tw_18 (fun j hj => by rcases (show j = 0 ∨ j = 1 ∨ j = 2 by omega) with rfl | rfl | rfl <;> rfl) (by omega) (by omega) (Nat.le_of_ble_eq_true rfl) (Nat.le_of_ble_eq_true rfl) dX6_init_5 (fun q_5 hp_1 H hW eh_2 hn_3 => ?_)
  have ne_4 : b6 ≠ q_5 := ne_none hb6 hn_3
  have f_5 : hp_1 q_5 = some (.inr (1, [.int 0, .null, .int 0])) := by rw [eh_2]; exact va_up_self _ _ _
  refine lv_dup X.1 X.2.1 dX6_init_8 rfl ?_
  refine on_Wv (k' := 1) (n' := 3) (run_I (As := []) (rest := [.ref q_5, .ref b6]) X (c_Jx4a65c_init_da8c8 l G A hp_1 _ (fun q h => hA q (Nat.le_trans hW.2.2.1 h)) hW.2.1 q_5 f_5) (wp_blind _) (wp_at X hW.1 hW.2.2) mf_Jx4a65c_init_da8c8 tw_45 tw_46 rfl ⟨rfl, rfl, Nat.le_of_ble_eq_true rfl, Nat.le_of_ble_eq_true rfl⟩ hl.1 rfl rfl (Nat.le_of_ble_eq_true rfl) ⟨Nat.le_of_ble_eq_true rfl, Nat.le_of_ble_eq_true rfl⟩ dX6_init_9) hW (by omega) (by omega) (fun hp_6 H locs q_9 hW => ?_)
  have f_7 : hp_6 q_5 = some (.inr (1, [.int 0, .ref (G.2.2 0), .int (nI 0)])) := by rw [q_9]; exact va_up_self _ _ _
  have f_8 : hp_6 b6 = some (.inr (7, [.null, .null, .null, .int 0, .int 0])) := by rw [q_9, va_up_ne _ _ ne_4, eh_2, va_up_ne _ _ ne_4]; exact hb6
  refine r_putF X hW f_8 (v := .ref q_5) (C := RX6) (T := TX6) (N := 5) rfl tin_X6 tyX6_ok nmX6 0 (Nat.le_of_ble_eq_true rfl) tw_148 (fun _ h => h) rfl hnm rfl rfl rfl (Nat.le_of_ble_eq_true rfl) dX6_init_12 (fun hp_9 H locs hW eh_10 => ?_)
  have f_11 : hp_9 b6 = some (.inr (7, [.ref q_5, .null, .null, .int 0, .int 0])) := by rw [eh_10]; exact va_up_self _ _ _
  refine lv_aload_n X.1 X.2.1 dX6_init_15 rfl (lv_at hl 0 rfl) ?_
  refine r_new (k := 2) (n := 7) (fs := [.null, .null, .null, .int 0]) X hA hW (C := RX0) (T := TX0) (N := 4) (ci := 2) rfl tin_X0 tyX0_ok tw_69 tw_70 tw_19 (fun j hj => by rcases (show j = 0 ∨ j = 1 ∨ j = 2 ∨ j = 3 by omega) with rfl | rfl | rfl | rfl <;> rfl) (by omega) (by omega) (Nat.le_of_ble_eq_true rfl) (Nat.le_of_ble_eq_true rfl) dX6_init_16 (fun q_16 hp_12 H hW eh_13 hn_14 => ?_)
  have ne_15 : b6 ≠ q_16 := ne_none f_11 hn_14
  have f_17 : hp_9 q_5 = some (.inr (1, [.int 0, .ref (G.2.2 0), .int (nI 0)])) := by rw [eh_10, va_up_ne _ _ (Ne.symm ne_4)]; exact f_7
  have ne_16 : q_5 ≠ q_16 := ne_none f_17 hn_14
  have f_18 : hp_12 q_16 = some (.inr (2, [.null, .null, .null, .int 0])) := by rw [eh_13]; exact va_up_self _ _ _
  refine lv_dup X.1 X.2.1 dX6_init_19 rfl ?_
  have f_19 : hp_12 b6 = some (.inr (7, [.ref q_5, .null, .null, .int 0, .int 0])) := by rw [eh_13, va_up_ne _ _ ne_15]; exact f_11
  have f_20 : hp_12 q_5 = some (.inr (1, [.int 0, .ref (G.2.2 0), .int (nI 0)])) := by rw [eh_13, va_up_ne _ _ ne_16]; exact f_17
  refine on_Wv (k' := 4) (n' := 13) (run_IN (As := []) (rest := [.ref q_16, .ref b6]) X (c_X0_init l G A hp_12 _ (fun q h => hA q (Nat.le_trans hW.2.2.1 h)) hW.2.1 q_16 f_18) (wp_blind _) (wp_at X hW.1 hW.2.2) mf_X0_init tw_71 tw_72 rfl ⟨rfl, rfl, Nat.le_of_ble_eq_true rfl, Nat.le_of_ble_eq_true rfl⟩ hl.1 rfl rfl (Nat.le_of_ble_eq_true rfl) ⟨Nat.le_of_ble_eq_true rfl, Nat.le_of_ble_eq_true rfl⟩ dX6_init_20) hW (by omega) (by omega) (fun hp_21 H locs q_20 hW => ?_)
  obtain ⟨al, p0, hA9, hI9, hal9⟩ := q_20
  have hrl9 : q_5 ≠ al := ne_none f_20 hal9
  have f_22 : hp_21 b6 = some (.inr (7, [.ref q_5, .null, .null, .int 0, .int 0])) := hI9 _ _ f_19 (ne_look f_19 f_18 (by simp))
  have f_23 : hp_21 q_5 = some (.inr (1, [.int 0, .ref (G.2.2 0), .int (nI 0)])) := hI9 _ _ f_20 (ne_look f_20 f_18 (by simp))
  have g_24 : hp_21 q_16 = some (.inr (2, [.ref al, .ref p0, .ref p0, .int (bI false)])) := hA9.1
  have g_25 : hp_21 al = some (.inr (1, [.int 0, .ref (G.2.2 0), .int (nI 0)])) := hA9.2.1
  have g_26 : hp_21 p0 = some (.inr (4, [.int 0, .int (-6), .int 0])) := hA9.2.2.2.2.2.2.2.2
  refine r_putF X hW f_22 (v := .ref q_16) (C := RX6) (T := TX6) (N := 5) rfl tin_X6 tyX6_ok nmX6 1 (Nat.le_of_ble_eq_true rfl) tw_149 (fun _ h => h) rfl hnm rfl rfl rfl (Nat.le_of_ble_eq_true rfl) dX6_init_23 (fun hp_27 H locs hW eh_28 => ?_)
  have f_29 : hp_27 b6 = some (.inr (7, [.ref q_5, .ref q_16, .null, .int 0, .int 0])) := by rw [eh_28]; exact va_up_self _ _ _
  refine lv_aload_n X.1 X.2.1 dX6_init_26 rfl (lv_at hl 0 rfl) ?_
  refine r_new (k := 5) (n := 17) (fs := [.null, .int 0, .int 0, .int 0]) X hA hW (C := RJ4) (T := TJ4) (N := 4) (ci := 0) rfl tin_J4 tyJ4_ok tw_117 tw_118 tw_22 (fun j hj => by rcases (show j = 0 ∨ j = 1 ∨ j = 2 ∨ j = 3 by omega) with rfl | rfl | rfl | rfl <;> rfl) (by omega) (by omega) (Nat.le_of_ble_eq_true rfl) (Nat.le_of_ble_eq_true rfl) dX6_init_27 (fun q_27 hp_30 H hW eh_31 hn_32 => ?_)
  have ne_33 : b6 ≠ q_27 := ne_none f_29 hn_32
  have f_35 : hp_27 q_5 = some (.inr (1, [.int 0, .ref (G.2.2 0), .int (nI 0)])) := by rw [eh_28, va_up_ne _ _ (Ne.symm ne_4)]; exact f_23
  have ne_34 : q_5 ≠ q_27 := ne_none f_35 hn_32
  have f_37 : hp_27 q_16 = some (.inr (2, [.ref al, .ref p0, .ref p0, .int (bI false)])) := by rw [eh_28, va_up_ne _ _ (Ne.symm ne_15)]; exact g_24
  have ne_36 : q_16 ≠ q_27 := ne_none f_37 hn_32
  have f_39 : hp_27 al = some (.inr (1, [.int 0, .ref (G.2.2 0), .int (nI 0)])) := by rw [eh_28, va_up_ne _ _ (ne_look g_25 f_22 (by simp))]; exact g_25
  have ne_38 : al ≠ q_27 := ne_none f_39 hn_32
  have f_41 : hp_27 p0 = some (.inr (4, [.int 0, .int (-6), .int 0])) := by rw [eh_28, va_up_ne _ _ (ne_look g_26 f_22 (by simp))]; exact g_26
  have ne_40 : p0 ≠ q_27 := ne_none f_41 hn_32
  have f_42 : hp_30 q_27 = some (.inr (0, [.null, .int 0, .int 0, .int 0])) := by rw [eh_31]; exact va_up_self _ _ _
  refine lv_dup X.1 X.2.1 dX6_init_30 rfl ?_
  have f_43 : hp_30 b6 = some (.inr (7, [.ref q_5, .ref q_16, .null, .int 0, .int 0])) := by rw [eh_31, va_up_ne _ _ ne_33]; exact f_29
  have f_44 : hp_30 q_5 = some (.inr (1, [.int 0, .ref (G.2.2 0), .int (nI 0)])) := by rw [eh_31, va_up_ne _ _ ne_34]; exact f_35
  have f_45 : hp_30 q_16 = some (.inr (2, [.ref al, .ref p0, .ref p0, .int (bI false)])) := by rw [eh_31, va_up_ne _ _ ne_36]; exact f_37
  have f_46 : hp_30 al = some (.inr (1, [.int 0, .ref (G.2.2 0), .int (nI 0)])) := by rw [eh_31, va_up_ne _ _ ne_38]; exact f_39
  have f_47 : hp_30 p0 = some (.inr (4, [.int 0, .int (-6), .int 0])) := by rw [eh_31, va_up_ne _ _ ne_40]; exact f_41
  refine on_Wv (k' := 6) (n' := 33) (run_I (As := []) (rest := [.ref q_27, .ref b6]) X (c_J4_init_da8c8 l G A hp_30 _ (fun q h => hA q (Nat.le_trans hW.2.2.1 h)) hW.2.1 q_27 (fun _ => 0) f_42) (wp_blind _) (wp_at X hW.1 hW.2.2) mf_J4_init_da8c8 tw_119 tw_120 rfl ⟨rfl, rfl, Nat.le_of_ble_eq_true rfl, Nat.le_of_ble_eq_true rfl⟩ hl.1 rfl rfl (Nat.le_of_ble_eq_true rfl) ⟨Nat.le_of_ble_eq_true rfl, Nat.le_of_ble_eq_true rfl⟩ dX6_init_31) hW (by omega) (by omega) (fun hp_48 H locs q_31 hW => ?_)
  obtain ⟨vb, hS9, hJ9⟩ := q_31
  have f_49 : hp_48 b6 = some (.inr (7, [.ref q_5, .ref q_16, .null, .int 0, .int 0])) := hJ9 _ _ f_43 (ne_look f_43 f_42 (by simp))
  have f_50 : hp_48 q_5 = some (.inr (1, [.int 0, .ref (G.2.2 0), .int (nI 0)])) := hJ9 _ _ f_44 (ne_look f_44 f_42 (by simp))
  have f_51 : hp_48 q_16 = some (.inr (2, [.ref al, .ref p0, .ref p0, .int (bI false)])) := hJ9 _ _ f_45 (ne_look f_45 f_42 (by simp))
  have f_52 : hp_48 al = some (.inr (1, [.int 0, .ref (G.2.2 0), .int (nI 0)])) := hJ9 _ _ f_46 (ne_look f_46 f_42 (by simp))
  have f_53 : hp_48 p0 = some (.inr (4, [.int 0, .int (-6), .int 0])) := hJ9 _ _ f_47 (ne_look f_47 f_42 (by simp))
  have g_54 : hp_48 q_27 = some (.inr (0, [.ref vb, .int 0, .int (bI false), .int (nI 0)])) := hS9.1
  have g_55 : hp_48 vb = some (.inl (G.2.1 0, 16, .inl (fun _ => 0))) := hS9.2.1
  refine r_putF X hW f_49 (v := .ref q_27) (C := RX6) (T := TX6) (N := 5) rfl tin_X6 tyX6_ok nmX6 2 (Nat.le_of_ble_eq_true rfl) tw_150 (fun _ h => h) rfl hnm rfl rfl rfl (Nat.le_of_ble_eq_true rfl) dX6_init_34 (fun hp_56 H locs hW eh_57 => ?_)
  have f_58 : hp_56 b6 = some (.inr (7, [.ref q_5, .ref q_16, .ref q_27, .int 0, .int 0])) := by rw [eh_57]; exact va_up_self _ _ _
  refine lv_aload_n X.1 X.2.1 dX6_init_37 rfl (lv_at hl 0 rfl) ?_
  refine lv_bipush (v := 31) X.1 X.2.1 dX6_init_38 (by decide) ?_
  refine r_put X hW f_58 (v := .int 31) (C := RX6) (T := TX6) (N := 5) rfl tin_X6 tyX6_ok nmX6 3 (Nat.le_of_ble_eq_true rfl) tw_151 (fun _ h => h) rfl rfl rfl (Nat.le_of_ble_eq_true rfl) dX6_init_40 (fun hp_59 H locs hW eh_60 => ?_)
  have f_61 : hp_59 b6 = some (.inr (7, [.ref q_5, .ref q_16, .ref q_27, .int 31, .int 0])) := by rw [eh_60]; exact va_up_self _ _ _
  refine lv_aload_n X.1 X.2.1 dX6_init_43 rfl (lv_at hl 0 rfl) ?_
  refine lv_sipush (v := 992) X.1 X.2.1 dX6_init_44 (by decide) ?_
  refine r_put X hW f_61 (v := .int 992) (C := RX6) (T := TX6) (N := 5) rfl tin_X6 tyX6_ok nmX6 4 (Nat.le_of_ble_eq_true rfl) tw_152 (fun _ h => h) rfl rfl rfl (Nat.le_of_ble_eq_true rfl) dX6_init_47 (fun hp_62 H locs hW eh_63 => ?_)
  have f_64 : hp_62 b6 = some (.inr (7, [.ref q_5, .ref q_16, .ref q_27, .int 31, .int 992])) := by rw [eh_63]; exact va_up_self _ _ _
  exact wr_v X hr hlk hW ⟨q_5, q_16, q_27, 31, 992, G.2.2 0, 0, 0, fun _ => none, fun _ => 0, al, p0, p0, G.2.2 0, 0, 0, fun _ => none, fun _ => 0, fun _ => 0, vb, 16, false, fun _ => 0, f_64, ⟨(show (_ : Option va_E) = some (.inr (1, [.int 0, .ref (G.2.2 0), .int (nI 0)])) by rw [eh_63, va_up_ne _ _ (Ne.symm ne_4), eh_60, va_up_ne _ _ (Ne.symm ne_4), eh_57, va_up_ne _ _ (Ne.symm ne_4)]; exact f_50), ⟨fun z => absurd z (by decide), fun _ => rfl⟩, by decide, Nat.le_refl _, by decide, fun i hi => absurd hi (Nat.not_lt_zero i), fun i _ hi => absurd hi (Nat.not_lt_zero i)⟩, ⟨(show (_ : Option va_E) = some (.inr (2, [.ref al, .ref p0, .ref p0, .int (bI false)])) by rw [eh_63, va_up_ne _ _ (Ne.symm ne_15), eh_60, va_up_ne _ _ (Ne.symm ne_15), eh_57, va_up_ne _ _ (Ne.symm ne_15)]; exact f_51), (show (_ : Option va_E) = some (.inr (1, [.int 0, .ref (G.2.2 0), .int (nI 0)])) by rw [eh_63, va_up_ne _ _ (ne_look (show (_ : Option va_E) = some (.inr (1, [.int 0, .ref (G.2.2 0), .int (nI 0)])) by rw [eh_60, va_up_ne _ _ (ne_look (show (_ : Option va_E) = some (.inr (1, [.int 0, .ref (G.2.2 0), .int (nI 0)])) by rw [eh_57, va_up_ne _ _ (ne_look f_52 f_49 (by simp))]; exact f_52) f_58 (by simp)), eh_57, va_up_ne _ _ (ne_look f_52 f_49 (by simp))]; exact f_52) f_61 (by simp)), eh_60, va_up_ne _ _ (ne_look (show (_ : Option va_E) = some (.inr (1, [.int 0, .ref (G.2.2 0), .int (nI 0)])) by rw [eh_57, va_up_ne _ _ (ne_look f_52 f_49 (by simp))]; exact f_52) f_58 (by simp)), eh_57, va_up_ne _ _ (ne_look f_52 f_49 (by simp))]; exact f_52), ⟨fun z => absurd z (by decide), fun _ => rfl⟩, by decide, Nat.le_refl _, by decide, fun i hi => absurd hi (Nat.not_lt_zero i), (show (_ : Option va_E) = some (.inr (4, [.int 0, .int (-6), .int 0])) by rw [eh_63, va_up_ne _ _ (ne_look (show (_ : Option va_E) = some (.inr (4, [.int 0, .int (-6), .int 0])) by rw [eh_60, va_up_ne _ _ (ne_look (show (_ : Option va_E) = some (.inr (4, [.int 0, .int (-6), .int 0])) by rw [eh_57, va_up_ne _ _ (ne_look f_53 f_49 (by simp))]; exact f_53) f_58 (by simp)), eh_57, va_up_ne _ _ (ne_look f_53 f_49 (by simp))]; exact f_53) f_61 (by simp)), eh_60, va_up_ne _ _ (ne_look (show (_ : Option va_E) = some (.inr (4, [.int 0, .int (-6), .int 0])) by rw [eh_57, va_up_ne _ _ (ne_look f_53 f_49 (by simp))]; exact f_53) f_58 (by simp)), eh_57, va_up_ne _ _ (ne_look f_53 f_49 (by simp))]; exact f_53), (show (_ : Option va_E) = some (.inr (4, [.int 0, .int (-6), .int 0])) by rw [eh_63, va_up_ne _ _ (ne_look (show (_ : Option va_E) = some (.inr (4, [.int 0, .int (-6), .int 0])) by rw [eh_60, va_up_ne _ _ (ne_look (show (_ : Option va_E) = some (.inr (4, [.int 0, .int (-6), .int 0])) by rw [eh_57, va_up_ne _ _ (ne_look f_53 f_49 (by simp))]; exact f_53) f_58 (by simp)), eh_57, va_up_ne _ _ (ne_look f_53 f_49 (by simp))]; exact f_53) f_61 (by simp)), eh_60, va_up_ne _ _ (ne_look (show (_ : Option va_E) = some (.inr (4, [.int 0, .int (-6), .int 0])) by rw [eh_57, va_up_ne _ _ (ne_look f_53 f_49 (by simp))]; exact f_53) f_58 (by simp)), eh_57, va_up_ne _ _ (ne_look f_53 f_49 (by simp))]; exact f_53)⟩, ⟨(show (_ : Option va_E) = some (.inr (0, [.ref vb, .int 0, .int (bI false), .int (nI 0)])) by rw [eh_63, va_up_ne _ _ (Ne.symm ne_33), eh_60, va_up_ne _ _ (Ne.symm ne_33), eh_57, va_up_ne _ _ (Ne.symm ne_33)]; exact g_54), (show (_ : Option va_E) = some (.inl (G.2.1 0, 16, .inl (fun _ => 0))) by rw [eh_63, va_up_ne _ _ (ne_look (show (_ : Option va_E) = some (.inl (G.2.1 0, 16, .inl (fun _ => 0))) by rw [eh_60, va_up_ne _ _ (ne_look (show (_ : Option va_E) = some (.inl (G.2.1 0, 16, .inl (fun _ => 0))) by rw [eh_57, va_up_ne _ _ (ne_look g_55 f_49 (by simp))]; exact g_55) f_58 (by simp)), eh_57, va_up_ne _ _ (ne_look g_55 f_49 (by simp))]; exact g_55) f_61 (by simp)), eh_60, va_up_ne _ _ (ne_look (show (_ : Option va_E) = some (.inl (G.2.1 0, 16, .inl (fun _ => 0))) by rw [eh_57, va_up_ne _ _ (ne_look g_55 f_49 (by simp))]; exact g_55) f_58 (by simp)), eh_57, va_up_ne _ _ (ne_look g_55 f_49 (by simp))]; exact g_55), hS9.2.2⟩, ⟨⟨rfl, rfl⟩, hd0_ok⟩, ⟨hrl9, fun z => absurd z (by decide), fun i _ hi => absurd hi (Nat.not_lt_zero i)⟩, fun i _ hi => absurd hi (Nat.not_lt_zero i)⟩ (Nat.le_of_ble_eq_true rfl) (Nat.le_of_ble_eq_true rfl) dX6_init_50
