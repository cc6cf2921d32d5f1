theorem mr_mk {G : HG} {hp : HP} (a0 a1 a2 a3 a4 a5 a6 a7 a8 a9 a10 a11 a12 : Nat) (h0 : hp a0 = some (.inr (8, [.ref a1, .int 0, .ref a2, .ref a3, .ref a4, .ref a5, .ref a6, .ref a7, .ref a8, .ref a9, .int 0, .int 0, .ref a10, .int 0, .ref a11, .ref a12, .int 0, .int 0, .int 0]))) (h1 : hp a1 = some (.inl (G.2.1 1, 336, .inl (fun _ => 0)))) (h2 : hp a2 = some (.inl (G.2.1 1, 2, .inl (fun _ => 0)))) (h3 : hp a3 = some (.inl (G.2.1 1, 32, .inl (fun _ => 0)))) (h4 : hp a4 = some (.inl (G.2.1 1, 32, .inl (fun _ => 0)))) (h5 : hp a5 = some (.inl (G.2.1 1, 12, .inl (fun _ => 0)))) (h6 : hp a6 = some (.inl (G.2.1 1, 12, .inl (fun _ => 0)))) (h7 : hp a7 = some (.inl (G.2.1 1, 13, .inl (fun _ => 0)))) (h8 : hp a8 = some (.inl (G.2.1 1, 13, .inl (fun _ => 0)))) (h9 : hp a9 = some (.inl (G.2.1 1, 13, .inl (fun _ => 0)))) (h10 : hp a10 = some (.inl (G.2.1 1, 60, .inl (fun _ => 0)))) (h11 : hp a11 = some (.inl (G.2.1 1, 14, .inl (fun _ => 0)))) (h12 : hp a12 = some (.inl (G.2.1 2, 5, .inr (.inl (fun _ => 0))))) (nd : [a0, a1, a2, a3, a4, a5, a6, a7, a8, a9, a10, a11, a12].Nodup) : ∃ M : Nat → Nat, M 0 = a0 ∧ MR G hp M (fun _ => 0) (fun _ _ => 0) (fun _ => 0) := by
  refine ⟨fun i => [a0, a1, a2, a3, a4, a5, a6, a7, a8, a9, a10, a11, a12].getD i 0, rfl, h0, fun i hi => ?_, h12, fun i j hi hj e => ?_⟩
  · rcases (show i = 0 ∨ i = 1 ∨ i = 2 ∨ i = 3 ∨ i = 4 ∨ i = 5 ∨ i = 6 ∨ i = 7 ∨ i = 8 ∨ i = 9 ∨ i = 10 by omega) with rfl | rfl | rfl | rfl | rfl | rfl | rfl | rfl | rfl | rfl | rfl
    · exact h1
    · exact h2
    · exact h3
    · exact h4
    · exact h5
    · exact h6
    · exact h7
    · exact h8
    · exact h9
    · exact h10
    · exact h11
  · have ei : [a0, a1, a2, a3, a4, a5, a6, a7, a8, a9, a10, a11, a12][i]? = some ([a0, a1, a2, a3, a4, a5, a6, a7, a8, a9, a10, a11, a12].getD i 0) := by rw [List.getD_eq_getElem?_getD, List.getElem?_eq_getElem (by exact hi)]; rfl
    have ej : [a0, a1, a2, a3, a4, a5, a6, a7, a8, a9, a10, a11, a12][j]? = some ([a0, a1, a2, a3, a4, a5, a6, a7, a8, a9, a10, a11, a12].getD j 0) := by rw [List.getD_eq_getElem?_getD, List.getElem?_eq_getElem (by exact hj)]; rfl
    exact (List.getElem?_inj (by exact hi) nd).mp (ei.trans ((congrArg some e).trans ej.symm))
theorem tb_step {g g' : Nat → Int32} {F : Nat → Nat} {i : Nat} (h : ∀ j, j < 32 → g j = if j < i then nI (F j) else 0) (e1 : g' i = nI (F i)) (e2 : ∀ j, ¬ j = i → g' j = g j) : ∀ j, j < 32 → g' j = if j < i + 1 then nI (F j) else 0 := by
  intro j hj
  by_cases c : j = i
  · rw [c, if_pos (by omega), e1]
  · rw [e2 j c, h j hj]
    by_cases d : j < i
    · rw [if_pos d, if_pos (by omega)]
    · rw [if_neg d, if_neg (by omega)]
/-- the state at the start -/
def z0 : ST := (0, fun _ _ => 0, fun i => if i = 0 then 31 else 992, 0, cs0, false, 0, fun _ => 0)
theorem mst0 {g2 g3 : Nat → Int32} (h2 : ∀ j, j < 32 → g2 j = nI (pc5 j)) (h3 : ∀ j, j < 32 → g3 j = nI (st5 j)) : MST z0 (anS (fun _ => 0)) (anR (va_up (va_up (va_up (va_up (fun _ _ => 0) 1 (upd (fun _ => 0) (0 : Int32).toNatClampNeg 31)) 1 (upd (upd (fun _ => 0) (0 : Int32).toNatClampNeg 31) (1 : Int32).toNatClampNeg 992)) 2 g2) 3 g3)) := by
  refine ⟨⟨h2, h3⟩, ⟨rfl, by decide, fun r k h => absurd h (Nat.not_lt_zero r), fun r k h => absurd h (Nat.not_lt_zero r)⟩, ⟨fun i hi => ?_, fun i hi => ?_⟩, an_au _ _, ⟨rfl, by decide, fun i h => absurd h (Nat.not_lt_zero i), fun i h => absurd h (Nat.not_lt_zero i)⟩⟩
  · rcases (show i = 0 ∨ i = 1 by omega) with rfl | rfl <;> rfl
  · show (if i = 0 then 31 else 992) ≤ 1048575
    split <;> omega
set_option maxHeartbeats 4000000 in
set_option maxRecDepth 100000 in
theorem c_X7_init (l : Launch) (G : HG) (A : Nat → Prop) (hp : HP) (sz : Nat) (hA : ∀ q, sz ≤ q → A q) (hO : Ow A hp) (b : Nat) (hb : hp b = some (.inr (8, [.null, .int 0, .null, .null, .null, .null, .null, .null, .null, .null, .int 0, .int 0, .null, .int 0, .null, .null, .int 0, .int 0, .int 0]))) : Met l yX7_init [.code yX7_init cX7_init 3 none] { frames := 1, cells := 12, slots := 544, locals := 20 } (va_Pc [.ref b] (WP G A sz hp)) (va_Qv (fun hp1 => ∃ M1 sc1 ar1 sm1, M1 0 = b ∧ MR G hp1 M1 sc1 ar1 sm1 ∧ MST z0 sc1 ar1) (WB G A) A) 12 544 A := by
  refine wr_ofW (by decide) (Nat.le_of_ble_eq_true rfl) hO ?_
  intro p e s m args below meth c ls X hr hlk hnm hsz hW hl
  have hA : ∀ q, s.heap.size ≤ q → A q := fun q h => hA q (by omega)
  have hl : lv_has ls 3 [(0, .ref b)] := hl
  refine lv_aload_n X.1 X.2.1 dX7_init_0 rfl (lv_at hl 0 rfl) ?_
  refine W.objInit X.1 X.2.1 X.2.2.2.1 (tb_all X.2.2.2.2.1 _ tw_838) (tb_all X.2.2.2.2.1 _ tw_84) (tb_all X.2.2.2.2.1 _ tw_objinit) rfl (by rw [X.2.2.1]; exact hl.1) rfl dX7_init_1 (Nat.le_of_ble_eq_true rfl) (Nat.le_of_ble_eq_true rfl) ?_
  refine W.eq (g2 := F0 m 4 ls []) rfl ?_
  refine lv_aload_n X.1 X.2.1 dX7_init_4 rfl (lv_at hl 0 rfl) ?_
  refine lv_sipush (v := 336) X.1 X.2.1 dX7_init_5 (by decide) ?_
  refine r_newI (k := 1) (n := 336) X hA hW (N := 336) (by decide) (by decide) (by decide) (by omega) (by omega) (Nat.le_of_ble_eq_true rfl) (Nat.le_of_ble_eq_true rfl) tw_901 dX7_init_8 (fun q_8 hp_1 H hW eh_2 hn_3 => ?_)
  have ne_b_q_8 : b ≠ q_8 := ne_none hb hn_3
  have f_4 : hp_1 q_8 = some (.inl (G.2.1 1, 336, .inl (fun _ => 0))) := by rw [eh_2]; exact va_up_self _ _ _
  have f_5 : hp_1 b = some (.inr (8, [.null, .int 0, .null, .null, .null, .null, .null, .null, .null, .null, .int 0, .int 0, .null, .int 0, .null, .null, .int 0, .int 0, .int 0])) := by rw [eh_2, va_up_ne _ _ ne_b_q_8]; exact hb
  refine r_putF X hW f_5 (v := .ref q_8) (C := RX7) (T := TX7) (N := 19) rfl tin_X7 tyX7_ok nmX7 0 (Nat.le_of_ble_eq_true rfl) tw_843 (fun _ h => h) rfl hnm rfl rfl rfl (Nat.le_of_ble_eq_true rfl) dX7_init_10 (fun hp_6 H locs hW eh_7 => ?_)
  have f_8 : hp_6 b = some (.inr (8, [.ref q_8, .int 0, .null, .null, .null, .null, .null, .null, .null, .null, .int 0, .int 0, .null, .int 0, .null, .null, .int 0, .int 0, .int 0])) := by rw [eh_7]; exact va_up_self _ _ _
  refine lv_aload_n X.1 X.2.1 dX7_init_13 rfl (lv_at hl 0 rfl) ?_
  refine lv_iconst (v := 2) X.1 X.2.1 dX7_init_14 (by decide) ?_
  refine r_newI (k := 2) (n := 338) X hA hW (N := 2) (by decide) (by decide) (by decide) (by omega) (by omega) (Nat.le_of_ble_eq_true rfl) (Nat.le_of_ble_eq_true rfl) tw_901 dX7_init_15 (fun q_15 hp_9 H hW eh_10 hn_11 => ?_)
  have ne_b_q_15 : b ≠ q_15 := ne_none f_8 hn_11
  have f_12 : hp_6 q_8 = some (.inl (G.2.1 1, 336, .inl (fun _ => 0))) := by rw [eh_7, va_up_ne _ _ (Ne.symm ne_b_q_8)]; exact f_4
  have ne_q_8_q_15 : q_8 ≠ q_15 := ne_none f_12 hn_11
  have f_13 : hp_9 q_15 = some (.inl (G.2.1 1, 2, .inl (fun _ => 0))) := by rw [eh_10]; exact va_up_self _ _ _
  have f_14 : hp_9 b = some (.inr (8, [.ref q_8, .int 0, .null, .null, .null, .null, .null, .null, .null, .null, .int 0, .int 0, .null, .int 0, .null, .null, .int 0, .int 0, .int 0])) := by rw [eh_10, va_up_ne _ _ ne_b_q_15]; exact f_8
  refine r_putF X hW f_14 (v := .ref q_15) (C := RX7) (T := TX7) (N := 19) rfl tin_X7 tyX7_ok nmX7 2 (Nat.le_of_ble_eq_true rfl) tw_845 (fun _ h => h) rfl hnm rfl rfl rfl (Nat.le_of_ble_eq_true rfl) dX7_init_17 (fun hp_15 H locs hW eh_16 => ?_)
  have f_17 : hp_15 b = some (.inr (8, [.ref q_8, .int 0, .ref q_15, .null, .null, .null, .null, .null, .null, .null, .int 0, .int 0, .null, .int 0, .null, .null, .int 0, .int 0, .int 0])) := by rw [eh_16]; exact va_up_self _ _ _
  refine lv_aload_n X.1 X.2.1 dX7_init_20 rfl (lv_at hl 0 rfl) ?_
  refine lv_bipush (v := 32) X.1 X.2.1 dX7_init_21 (by decide) ?_
  refine r_newI (k := 3) (n := 370) X hA hW (N := 32) (by decide) (by decide) (by decide) (by omega) (by omega) (Nat.le_of_ble_eq_true rfl) (Nat.le_of_ble_eq_true rfl) tw_901 dX7_init_23 (fun q_23 hp_18 H hW eh_19 hn_20 => ?_)
  have ne_b_q_23 : b ≠ q_23 := ne_none f_17 hn_20
  have f_21 : hp_15 q_8 = some (.inl (G.2.1 1, 336, .inl (fun _ => 0))) := by rw [eh_16, va_up_ne _ _ (Ne.symm ne_b_q_8), eh_10, va_up_ne _ _ ne_q_8_q_15]; exact f_12
  have ne_q_8_q_23 : q_8 ≠ q_23 := ne_none f_21 hn_20
  have f_22 : hp_15 q_15 = some (.inl (G.2.1 1, 2, .inl (fun _ => 0))) := by rw [eh_16, va_up_ne _ _ (Ne.symm ne_b_q_15)]; exact f_13
  have ne_q_15_q_23 : q_15 ≠ q_23 := ne_none f_22 hn_20
  have f_23 : hp_18 q_23 = some (.inl (G.2.1 1, 32, .inl (fun _ => 0))) := by rw [eh_19]; exact va_up_self _ _ _
  have f_24 : hp_18 b = some (.inr (8, [.ref q_8, .int 0, .ref q_15, .null, .null, .null, .null, .null, .null, .null, .int 0, .int 0, .null, .int 0, .null, .null, .int 0, .int 0, .int 0])) := by rw [eh_19, va_up_ne _ _ ne_b_q_23]; exact f_17
  refine r_putF X hW f_24 (v := .ref q_23) (C := RX7) (T := TX7) (N := 19) rfl tin_X7 tyX7_ok nmX7 3 (Nat.le_of_ble_eq_true rfl) tw_846 (fun _ h => h) rfl hnm rfl rfl rfl (Nat.le_of_ble_eq_true rfl) dX7_init_25 (fun hp_25 H locs hW eh_26 => ?_)
  have f_27 : hp_25 b = some (.inr (8, [.ref q_8, .int 0, .ref q_15, .ref q_23, .null, .null, .null, .null, .null, .null, .int 0, .int 0, .null, .int 0, .null, .null, .int 0, .int 0, .int 0])) := by rw [eh_26]; exact va_up_self _ _ _
  refine lv_aload_n X.1 X.2.1 dX7_init_28 rfl (lv_at hl 0 rfl) ?_
  refine lv_bipush (v := 32) X.1 X.2.1 dX7_init_29 (by decide) ?_
  refine r_newI (k := 4) (n := 402) X hA hW (N := 32) (by decide) (by decide) (by decide) (by omega) (by omega) (Nat.le_of_ble_eq_true rfl) (Nat.le_of_ble_eq_true rfl) tw_901 dX7_init_31 (fun q_31 hp_28 H hW eh_29 hn_30 => ?_)
  have ne_b_q_31 : b ≠ q_31 := ne_none f_27 hn_30
  have f_31 : hp_25 q_8 = some (.inl (G.2.1 1, 336, .inl (fun _ => 0))) := by rw [eh_26, va_up_ne _ _ (Ne.symm ne_b_q_8), eh_19, va_up_ne _ _ ne_q_8_q_23]; exact f_21
  have ne_q_8_q_31 : q_8 ≠ q_31 := ne_none f_31 hn_30
  have f_32 : hp_25 q_15 = some (.inl (G.2.1 1, 2, .inl (fun _ => 0))) := by rw [eh_26, va_up_ne _ _ (Ne.symm ne_b_q_15), eh_19, va_up_ne _ _ ne_q_15_q_23]; exact f_22
  have ne_q_15_q_31 : q_15 ≠ q_31 := ne_none f_32 hn_30
  have f_33 : hp_25 q_23 = some (.inl (G.2.1 1, 32, .inl (fun _ => 0))) := by rw [eh_26, va_up_ne _ _ (Ne.symm ne_b_q_23)]; exact f_23
  have ne_q_23_q_31 : q_23 ≠ q_31 := ne_none f_33 hn_30
  have f_34 : hp_28 q_31 = some (.inl (G.2.1 1, 32, .inl (fun _ => 0))) := by rw [eh_29]; exact va_up_self _ _ _
  have f_35 : hp_28 b = some (.inr (8, [.ref q_8, .int 0, .ref q_15, .ref q_23, .null, .null, .null, .null, .null, .null, .int 0, .int 0, .null, .int 0, .null, .null, .int 0, .int 0, .int 0])) := by rw [eh_29, va_up_ne _ _ ne_b_q_31]; exact f_27
  refine r_putF X hW f_35 (v := .ref q_31) (C := RX7) (T := TX7) (N := 19) rfl tin_X7 tyX7_ok nmX7 4 (Nat.le_of_ble_eq_true rfl) tw_847 (fun _ h => h) rfl hnm rfl rfl rfl (Nat.le_of_ble_eq_true rfl) dX7_init_33 (fun hp_36 H locs hW eh_37 => ?_)
  have f_38 : hp_36 b = some (.inr (8, [.ref q_8, .int 0, .ref q_15, .ref q_23, .ref q_31, .null, .null, .null, .null, .null, .int 0, .int 0, .null, .int 0, .null, .null, .int 0, .int 0, .int 0])) := by rw [eh_37]; exact va_up_self _ _ _
  refine lv_aload_n X.1 X.2.1 dX7_init_36 rfl (lv_at hl 0 rfl) ?_
  refine lv_bipush (v := 12) X.1 X.2.1 dX7_init_37 (by decide) ?_
  refine r_newI (k := 5) (n := 414) X hA hW (N := 12) (by decide) (by decide) (by decide) (by omega) (by omega) (Nat.le_of_ble_eq_true rfl) (Nat.le_of_ble_eq_true rfl) tw_901 dX7_init_39 (fun q_39 hp_39 H hW eh_40 hn_41 => ?_)
  have ne_b_q_39 : b ≠ q_39 := ne_none f_38 hn_41
  have f_42 : hp_36 q_8 = some (.inl (G.2.1 1, 336, .inl (fun _ => 0))) := by rw [eh_37, va_up_ne _ _ (Ne.symm ne_b_q_8), eh_29, va_up_ne _ _ ne_q_8_q_31]; exact f_31
  have ne_q_8_q_39 : q_8 ≠ q_39 := ne_none f_42 hn_41
  have f_43 : hp_36 q_15 = some (.inl (G.2.1 1, 2, .inl (fun _ => 0))) := by rw [eh_37, va_up_ne _ _ (Ne.symm ne_b_q_15), eh_29, va_up_ne _ _ ne_q_15_q_31]; exact f_32
  have ne_q_15_q_39 : q_15 ≠ q_39 := ne_none f_43 hn_41
  have f_44 : hp_36 q_23 = some (.inl (G.2.1 1, 32, .inl (fun _ => 0))) := by rw [eh_37, va_up_ne _ _ (Ne.symm ne_b_q_23), eh_29, va_up_ne _ _ ne_q_23_q_31]; exact f_33
  have ne_q_23_q_39 : q_23 ≠ q_39 := ne_none f_44 hn_41
  have f_45 : hp_36 q_31 = some (.inl (G.2.1 1, 32, .inl (fun _ => 0))) := by rw [eh_37, va_up_ne _ _ (Ne.symm ne_b_q_31)]; exact f_34
  have ne_q_31_q_39 : q_31 ≠ q_39 := ne_none f_45 hn_41
  have f_46 : hp_39 q_39 = some (.inl (G.2.1 1, 12, .inl (fun _ => 0))) := by rw [eh_40]; exact va_up_self _ _ _
  have f_47 : hp_39 b = some (.inr (8, [.ref q_8, .int 0, .ref q_15, .ref q_23, .ref q_31, .null, .null, .null, .null, .null, .int 0, .int 0, .null, .int 0, .null, .null, .int 0, .int 0, .int 0])) := by rw [eh_40, va_up_ne _ _ ne_b_q_39]; exact f_38
  refine r_putF X hW f_47 (v := .ref q_39) (C := RX7) (T := TX7) (N := 19) rfl tin_X7 tyX7_ok nmX7 5 (Nat.le_of_ble_eq_true rfl) tw_848 (fun _ h => h) rfl hnm rfl rfl rfl (Nat.le_of_ble_eq_true rfl) dX7_init_41 (fun hp_48 H locs hW eh_49 => ?_)
  have f_50 : hp_48 b = some (.inr (8, [.ref q_8, .int 0, .ref q_15, .ref q_23, .ref q_31, .ref q_39, .null, .null, .null, .null, .int 0, .int 0, .null, .int 0, .null, .null, .int 0, .int 0, .int 0])) := by rw [eh_49]; exact va_up_self _ _ _
  refine lv_aload_n X.1 X.2.1 dX7_init_44 rfl (lv_at hl 0 rfl) ?_
  refine lv_bipush (v := 12) X.1 X.2.1 dX7_init_45 (by decide) ?_
  refine r_newI (k := 6) (n := 426) X hA hW (N := 12) (by decide) (by decide) (by decide) (by omega) (by omega) (Nat.le_of_ble_eq_true rfl) (Nat.le_of_ble_eq_true rfl) tw_901 dX7_init_47 (fun q_47 hp_51 H hW eh_52 hn_53 => ?_)
  have ne_b_q_47 : b ≠ q_47 := ne_none f_50 hn_53
  have f_54 : hp_48 q_8 = some (.inl (G.2.1 1, 336, .inl (fun _ => 0))) := by rw [eh_49, va_up_ne _ _ (Ne.symm ne_b_q_8), eh_40, va_up_ne _ _ ne_q_8_q_39]; exact f_42
  have ne_q_8_q_47 : q_8 ≠ q_47 := ne_none f_54 hn_53
  have f_55 : hp_48 q_15 = some (.inl (G.2.1 1, 2, .inl (fun _ => 0))) := by rw [eh_49, va_up_ne _ _ (Ne.symm ne_b_q_15), eh_40, va_up_ne _ _ ne_q_15_q_39]; exact f_43
  have ne_q_15_q_47 : q_15 ≠ q_47 := ne_none f_55 hn_53
  have f_56 : hp_48 q_23 = some (.inl (G.2.1 1, 32, .inl (fun _ => 0))) := by rw [eh_49, va_up_ne _ _ (Ne.symm ne_b_q_23), eh_40, va_up_ne _ _ ne_q_23_q_39]; exact f_44
  have ne_q_23_q_47 : q_23 ≠ q_47 := ne_none f_56 hn_53
  have f_57 : hp_48 q_31 = some (.inl (G.2.1 1, 32, .inl (fun _ => 0))) := by rw [eh_49, va_up_ne _ _ (Ne.symm ne_b_q_31), eh_40, va_up_ne _ _ ne_q_31_q_39]; exact f_45
  have ne_q_31_q_47 : q_31 ≠ q_47 := ne_none f_57 hn_53
  have f_58 : hp_48 q_39 = some (.inl (G.2.1 1, 12, .inl (fun _ => 0))) := by rw [eh_49, va_up_ne _ _ (Ne.symm ne_b_q_39)]; exact f_46
  have ne_q_39_q_47 : q_39 ≠ q_47 := ne_none f_58 hn_53
  have f_59 : hp_51 q_47 = some (.inl (G.2.1 1, 12, .inl (fun _ => 0))) := by rw [eh_52]; exact va_up_self _ _ _
  have f_60 : hp_51 b = some (.inr (8, [.ref q_8, .int 0, .ref q_15, .ref q_23, .ref q_31, .ref q_39, .null, .null, .null, .null, .int 0, .int 0, .null, .int 0, .null, .null, .int 0, .int 0, .int 0])) := by rw [eh_52, va_up_ne _ _ ne_b_q_47]; exact f_50
  refine r_putF X hW f_60 (v := .ref q_47) (C := RX7) (T := TX7) (N := 19) rfl tin_X7 tyX7_ok nmX7 6 (Nat.le_of_ble_eq_true rfl) tw_849 (fun _ h => h) rfl hnm rfl rfl rfl (Nat.le_of_ble_eq_true rfl) dX7_init_49 (fun hp_61 H locs hW eh_62 => ?_)
  have f_63 : hp_61 b = some (.inr (8, [.ref q_8, .int 0, .ref q_15, .ref q_23, .ref q_31, .ref q_39, .ref q_47, .null, .null, .null, .int 0, .int 0, .null, .int 0, .null, .null, .int 0, .int 0, .int 0])) := by rw [eh_62]; exact va_up_self _ _ _
  refine lv_aload_n X.1 X.2.1 dX7_init_52 rfl (lv_at hl 0 rfl) ?_
  refine lv_bipush (v := 13) X.1 X.2.1 dX7_init_53 (by decide) ?_
  refine r_newI (k := 7) (n := 439) X hA hW (N := 13) (by decide) (by decide) (by decide) (by omega) (by omega) (Nat.le_of_ble_eq_true rfl) (Nat.le_of_ble_eq_true rfl) tw_901 dX7_init_55 (fun q_55 hp_64 H hW eh_65 hn_66 => ?_)
  have ne_b_q_55 : b ≠ q_55 := ne_none f_63 hn_66
  have f_67 : hp_61 q_8 = some (.inl (G.2.1 1, 336, .inl (fun _ => 0))) := by rw [eh_62, va_up_ne _ _ (Ne.symm ne_b_q_8), eh_52, va_up_ne _ _ ne_q_8_q_47]; exact f_54
  have ne_q_8_q_55 : q_8 ≠ q_55 := ne_none f_67 hn_66
  have f_68 : hp_61 q_15 = some (.inl (G.2.1 1, 2, .inl (fun _ => 0))) := by rw [eh_62, va_up_ne _ _ (Ne.symm ne_b_q_15), eh_52, va_up_ne _ _ ne_q_15_q_47]; exact f_55
  have ne_q_15_q_55 : q_15 ≠ q_55 := ne_none f_68 hn_66
  have f_69 : hp_61 q_23 = some (.inl (G.2.1 1, 32, .inl (fun _ => 0))) := by rw [eh_62, va_up_ne _ _ (Ne.symm ne_b_q_23), eh_52, va_up_ne _ _ ne_q_23_q_47]; exact f_56
  have ne_q_23_q_55 : q_23 ≠ q_55 := ne_none f_69 hn_66
  have f_70 : hp_61 q_31 = some (.inl (G.2.1 1, 32, .inl (fun _ => 0))) := by rw [eh_62, va_up_ne _ _ (Ne.symm ne_b_q_31), eh_52, va_up_ne _ _ ne_q_31_q_47]; exact f_57
  have ne_q_31_q_55 : q_31 ≠ q_55 := ne_none f_70 hn_66
  have f_71 : hp_61 q_39 = some (.inl (G.2.1 1, 12, .inl (fun _ => 0))) := by rw [eh_62, va_up_ne _ _ (Ne.symm ne_b_q_39), eh_52, va_up_ne _ _ ne_q_39_q_47]; exact f_58
  have ne_q_39_q_55 : q_39 ≠ q_55 := ne_none f_71 hn_66
  have f_72 : hp_61 q_47 = some (.inl (G.2.1 1, 12, .inl (fun _ => 0))) := by rw [eh_62, va_up_ne _ _ (Ne.symm ne_b_q_47)]; exact f_59
  have ne_q_47_q_55 : q_47 ≠ q_55 := ne_none f_72 hn_66
  have f_73 : hp_64 q_55 = some (.inl (G.2.1 1, 13, .inl (fun _ => 0))) := by rw [eh_65]; exact va_up_self _ _ _
  have f_74 : hp_64 b = some (.inr (8, [.ref q_8, .int 0, .ref q_15, .ref q_23, .ref q_31, .ref q_39, .ref q_47, .null, .null, .null, .int 0, .int 0, .null, .int 0, .null, .null, .int 0, .int 0, .int 0])) := by rw [eh_65, va_up_ne _ _ ne_b_q_55]; exact f_63
  refine r_putF X hW f_74 (v := .ref q_55) (C := RX7) (T := TX7) (N := 19) rfl tin_X7 tyX7_ok nmX7 7 (Nat.le_of_ble_eq_true rfl) tw_850 (fun _ h => h) rfl hnm rfl rfl rfl (Nat.le_of_ble_eq_true rfl) dX7_init_57 (fun hp_75 H locs hW eh_76 => ?_)
  have f_77 : hp_75 b = some (.inr (8, [.ref q_8, .int 0, .ref q_15, .ref q_23, .ref q_31, .ref q_39, .ref q_47, .ref q_55, .null, .null, .int 0, .int 0, .null, .int 0, .null, .null, .int 0, .int 0, .int 0])) := by rw [eh_76]; exact va_up_self _ _ _
  refine lv_aload_n X.1 X.2.1 dX7_init_60 rfl (lv_at hl 0 rfl) ?_
  refine lv_bipush (v := 13) X.1 X.2.1 dX7_init_61 (by decide) ?_
  refine r_newI (k := 8) (n := 452) X hA hW (N := 13) (by decide) (by decide) (by decide) (by omega) (by omega) (Nat.le_of_ble_eq_true rfl) (Nat.le_of_ble_eq_true rfl) tw_901 dX7_init_63 (fun q_63 hp_78 H hW eh_79 hn_80 => ?_)
  have ne_b_q_63 : b ≠ q_63 := ne_none f_77 hn_80
  have f_81 : hp_75 q_8 = some (.inl (G.2.1 1, 336, .inl (fun _ => 0))) := by rw [eh_76, va_up_ne _ _ (Ne.symm ne_b_q_8), eh_65, va_up_ne _ _ ne_q_8_q_55]; exact f_67
  have ne_q_8_q_63 : q_8 ≠ q_63 := ne_none f_81 hn_80
  have f_82 : hp_75 q_15 = some (.inl (G.2.1 1, 2, .inl (fun _ => 0))) := by rw [eh_76, va_up_ne _ _ (Ne.symm ne_b_q_15), eh_65, va_up_ne _ _ ne_q_15_q_55]; exact f_68
  have ne_q_15_q_63 : q_15 ≠ q_63 := ne_none f_82 hn_80
  have f_83 : hp_75 q_23 = some (.inl (G.2.1 1, 32, .inl (fun _ => 0))) := by rw [eh_76, va_up_ne _ _ (Ne.symm ne_b_q_23), eh_65, va_up_ne _ _ ne_q_23_q_55]; exact f_69
  have ne_q_23_q_63 : q_23 ≠ q_63 := ne_none f_83 hn_80
  have f_84 : hp_75 q_31 = some (.inl (G.2.1 1, 32, .inl (fun _ => 0))) := by rw [eh_76, va_up_ne _ _ (Ne.symm ne_b_q_31), eh_65, va_up_ne _ _ ne_q_31_q_55]; exact f_70
  have ne_q_31_q_63 : q_31 ≠ q_63 := ne_none f_84 hn_80
  have f_85 : hp_75 q_39 = some (.inl (G.2.1 1, 12, .inl (fun _ => 0))) := by rw [eh_76, va_up_ne _ _ (Ne.symm ne_b_q_39), eh_65, va_up_ne _ _ ne_q_39_q_55]; exact f_71
  have ne_q_39_q_63 : q_39 ≠ q_63 := ne_none f_85 hn_80
  have f_86 : hp_75 q_47 = some (.inl (G.2.1 1, 12, .inl (fun _ => 0))) := by rw [eh_76, va_up_ne _ _ (Ne.symm ne_b_q_47), eh_65, va_up_ne _ _ ne_q_47_q_55]; exact f_72
  have ne_q_47_q_63 : q_47 ≠ q_63 := ne_none f_86 hn_80
  have f_87 : hp_75 q_55 = some (.inl (G.2.1 1, 13, .inl (fun _ => 0))) := by rw [eh_76, va_up_ne _ _ (Ne.symm ne_b_q_55)]; exact f_73
  have ne_q_55_q_63 : q_55 ≠ q_63 := ne_none f_87 hn_80
  have f_88 : hp_78 q_63 = some (.inl (G.2.1 1, 13, .inl (fun _ => 0))) := by rw [eh_79]; exact va_up_self _ _ _
  have f_89 : hp_78 b = some (.inr (8, [.ref q_8, .int 0, .ref q_15, .ref q_23, .ref q_31, .ref q_39, .ref q_47, .ref q_55, .null, .null, .int 0, .int 0, .null, .int 0, .null, .null, .int 0, .int 0, .int 0])) := by rw [eh_79, va_up_ne _ _ ne_b_q_63]; exact f_77
  refine r_putF X hW f_89 (v := .ref q_63) (C := RX7) (T := TX7) (N := 19) rfl tin_X7 tyX7_ok nmX7 8 (Nat.le_of_ble_eq_true rfl) tw_851 (fun _ h => h) rfl hnm rfl rfl rfl (Nat.le_of_ble_eq_true rfl) dX7_init_65 (fun hp_90 H locs hW eh_91 => ?_)
  have f_92 : hp_90 b = some (.inr (8, [.ref q_8, .int 0, .ref q_15, .ref q_23, .ref q_31, .ref q_39, .ref q_47, .ref q_55, .ref q_63, .null, .int 0, .int 0, .null, .int 0, .null, .null, .int 0, .int 0, .int 0])) := by rw [eh_91]; exact va_up_self _ _ _
  refine lv_aload_n X.1 X.2.1 dX7_init_68 rfl (lv_at hl 0 rfl) ?_
  refine lv_bipush (v := 13) X.1 X.2.1 dX7_init_69 (by decide) ?_
  refine r_newI (k := 9) (n := 465) X hA hW (N := 13) (by decide) (by decide) (by decide) (by omega) (by omega) (Nat.le_of_ble_eq_true rfl) (Nat.le_of_ble_eq_true rfl) tw_901 dX7_init_71 (fun q_71 hp_93 H hW eh_94 hn_95 => ?_)
  have ne_b_q_71 : b ≠ q_71 := ne_none f_92 hn_95
  have f_96 : hp_90 q_8 = some (.inl (G.2.1 1, 336, .inl (fun _ => 0))) := by rw [eh_91, va_up_ne _ _ (Ne.symm ne_b_q_8), eh_79, va_up_ne _ _ ne_q_8_q_63]; exact f_81
  have ne_q_8_q_71 : q_8 ≠ q_71 := ne_none f_96 hn_95
  have f_97 : hp_90 q_15 = some (.inl (G.2.1 1, 2, .inl (fun _ => 0))) := by rw [eh_91, va_up_ne _ _ (Ne.symm ne_b_q_15), eh_79, va_up_ne _ _ ne_q_15_q_63]; exact f_82
  have ne_q_15_q_71 : q_15 ≠ q_71 := ne_none f_97 hn_95
  have f_98 : hp_90 q_23 = some (.inl (G.2.1 1, 32, .inl (fun _ => 0))) := by rw [eh_91, va_up_ne _ _ (Ne.symm ne_b_q_23), eh_79, va_up_ne _ _ ne_q_23_q_63]; exact f_83
  have ne_q_23_q_71 : q_23 ≠ q_71 := ne_none f_98 hn_95
  have f_99 : hp_90 q_31 = some (.inl (G.2.1 1, 32, .inl (fun _ => 0))) := by rw [eh_91, va_up_ne _ _ (Ne.symm ne_b_q_31), eh_79, va_up_ne _ _ ne_q_31_q_63]; exact f_84
  have ne_q_31_q_71 : q_31 ≠ q_71 := ne_none f_99 hn_95
  have f_100 : hp_90 q_39 = some (.inl (G.2.1 1, 12, .inl (fun _ => 0))) := by rw [eh_91, va_up_ne _ _ (Ne.symm ne_b_q_39), eh_79, va_up_ne _ _ ne_q_39_q_63]; exact f_85
  have ne_q_39_q_71 : q_39 ≠ q_71 := ne_none f_100 hn_95
  have f_101 : hp_90 q_47 = some (.inl (G.2.1 1, 12, .inl (fun _ => 0))) := by rw [eh_91, va_up_ne _ _ (Ne.symm ne_b_q_47), eh_79, va_up_ne _ _ ne_q_47_q_63]; exact f_86
  have ne_q_47_q_71 : q_47 ≠ q_71 := ne_none f_101 hn_95
  have f_102 : hp_90 q_55 = some (.inl (G.2.1 1, 13, .inl (fun _ => 0))) := by rw [eh_91, va_up_ne _ _ (Ne.symm ne_b_q_55), eh_79, va_up_ne _ _ ne_q_55_q_63]; exact f_87
  have ne_q_55_q_71 : q_55 ≠ q_71 := ne_none f_102 hn_95
  have f_103 : hp_90 q_63 = some (.inl (G.2.1 1, 13, .inl (fun _ => 0))) := by rw [eh_91, va_up_ne _ _ (Ne.symm ne_b_q_63)]; exact f_88
  have ne_q_63_q_71 : q_63 ≠ q_71 := ne_none f_103 hn_95
  have f_104 : hp_93 q_71 = some (.inl (G.2.1 1, 13, .inl (fun _ => 0))) := by rw [eh_94]; exact va_up_self _ _ _
  have f_105 : hp_93 b = some (.inr (8, [.ref q_8, .int 0, .ref q_15, .ref q_23, .ref q_31, .ref q_39, .ref q_47, .ref q_55, .ref q_63, .null, .int 0, .int 0, .null, .int 0, .null, .null, .int 0, .int 0, .int 0])) := by rw [eh_94, va_up_ne _ _ ne_b_q_71]; exact f_92
  refine r_putF X hW f_105 (v := .ref q_71) (C := RX7) (T := TX7) (N := 19) rfl tin_X7 tyX7_ok nmX7 9 (Nat.le_of_ble_eq_true rfl) tw_852 (fun _ h => h) rfl hnm rfl rfl rfl (Nat.le_of_ble_eq_true rfl) dX7_init_73 (fun hp_106 H locs hW eh_107 => ?_)
  have f_108 : hp_106 b = some (.inr (8, [.ref q_8, .int 0, .ref q_15, .ref q_23, .ref q_31, .ref q_39, .ref q_47, .ref q_55, .ref q_63, .ref q_71, .int 0, .int 0, .null, .int 0, .null, .null, .int 0, .int 0, .int 0])) := by rw [eh_107]; exact va_up_self _ _ _
  refine lv_aload_n X.1 X.2.1 dX7_init_76 rfl (lv_at hl 0 rfl) ?_
  refine lv_bipush (v := 60) X.1 X.2.1 dX7_init_77 (by decide) ?_
  refine r_newI (k := 10) (n := 525) X hA hW (N := 60) (by decide) (by decide) (by decide) (by omega) (by omega) (Nat.le_of_ble_eq_true rfl) (Nat.le_of_ble_eq_true rfl) tw_901 dX7_init_79 (fun q_79 hp_109 H hW eh_110 hn_111 => ?_)
  have ne_b_q_79 : b ≠ q_79 := ne_none f_108 hn_111
  have f_112 : hp_106 q_8 = some (.inl (G.2.1 1, 336, .inl (fun _ => 0))) := by rw [eh_107, va_up_ne _ _ (Ne.symm ne_b_q_8), eh_94, va_up_ne _ _ ne_q_8_q_71]; exact f_96
  have ne_q_8_q_79 : q_8 ≠ q_79 := ne_none f_112 hn_111
  have f_113 : hp_106 q_15 = some (.inl (G.2.1 1, 2, .inl (fun _ => 0))) := by rw [eh_107, va_up_ne _ _ (Ne.symm ne_b_q_15), eh_94, va_up_ne _ _ ne_q_15_q_71]; exact f_97
  have ne_q_15_q_79 : q_15 ≠ q_79 := ne_none f_113 hn_111
  have f_114 : hp_106 q_23 = some (.inl (G.2.1 1, 32, .inl (fun _ => 0))) := by rw [eh_107, va_up_ne _ _ (Ne.symm ne_b_q_23), eh_94, va_up_ne _ _ ne_q_23_q_71]; exact f_98
  have ne_q_23_q_79 : q_23 ≠ q_79 := ne_none f_114 hn_111
  have f_115 : hp_106 q_31 = some (.inl (G.2.1 1, 32, .inl (fun _ => 0))) := by rw [eh_107, va_up_ne _ _ (Ne.symm ne_b_q_31), eh_94, va_up_ne _ _ ne_q_31_q_71]; exact f_99
  have ne_q_31_q_79 : q_31 ≠ q_79 := ne_none f_115 hn_111
  have f_116 : hp_106 q_39 = some (.inl (G.2.1 1, 12, .inl (fun _ => 0))) := by rw [eh_107, va_up_ne _ _ (Ne.symm ne_b_q_39), eh_94, va_up_ne _ _ ne_q_39_q_71]; exact f_100
  have ne_q_39_q_79 : q_39 ≠ q_79 := ne_none f_116 hn_111
  have f_117 : hp_106 q_47 = some (.inl (G.2.1 1, 12, .inl (fun _ => 0))) := by rw [eh_107, va_up_ne _ _ (Ne.symm ne_b_q_47), eh_94, va_up_ne _ _ ne_q_47_q_71]; exact f_101
  have ne_q_47_q_79 : q_47 ≠ q_79 := ne_none f_117 hn_111
  have f_118 : hp_106 q_55 = some (.inl (G.2.1 1, 13, .inl (fun _ => 0))) := by rw [eh_107, va_up_ne _ _ (Ne.symm ne_b_q_55), eh_94, va_up_ne _ _ ne_q_55_q_71]; exact f_102
  have ne_q_55_q_79 : q_55 ≠ q_79 := ne_none f_118 hn_111
  have f_119 : hp_106 q_63 = some (.inl (G.2.1 1, 13, .inl (fun _ => 0))) := by rw [eh_107, va_up_ne _ _ (Ne.symm ne_b_q_63), eh_94, va_up_ne _ _ ne_q_63_q_71]; exact f_103
  have ne_q_63_q_79 : q_63 ≠ q_79 := ne_none f_119 hn_111
  have f_120 : hp_106 q_71 = some (.inl (G.2.1 1, 13, .inl (fun _ => 0))) := by rw [eh_107, va_up_ne _ _ (Ne.symm ne_b_q_71)]; exact f_104
  have ne_q_71_q_79 : q_71 ≠ q_79 := ne_none f_120 hn_111
  have f_121 : hp_109 q_79 = some (.inl (G.2.1 1, 60, .inl (fun _ => 0))) := by rw [eh_110]; exact va_up_self _ _ _
  have f_122 : hp_109 b = some (.inr (8, [.ref q_8, .int 0, .ref q_15, .ref q_23, .ref q_31, .ref q_39, .ref q_47, .ref q_55, .ref q_63, .ref q_71, .int 0, .int 0, .null, .int 0, .null, .null, .int 0, .int 0, .int 0])) := by rw [eh_110, va_up_ne _ _ ne_b_q_79]; exact f_108
  refine r_putF X hW f_122 (v := .ref q_79) (C := RX7) (T := TX7) (N := 19) rfl tin_X7 tyX7_ok nmX7 12 (Nat.le_of_ble_eq_true rfl) tw_855 (fun _ h => h) rfl hnm rfl rfl rfl (Nat.le_of_ble_eq_true rfl) dX7_init_81 (fun hp_123 H locs hW eh_124 => ?_)
  have f_125 : hp_123 b = some (.inr (8, [.ref q_8, .int 0, .ref q_15, .ref q_23, .ref q_31, .ref q_39, .ref q_47, .ref q_55, .ref q_63, .ref q_71, .int 0, .int 0, .ref q_79, .int 0, .null, .null, .int 0, .int 0, .int 0])) := by rw [eh_124]; exact va_up_self _ _ _
  refine lv_aload_n X.1 X.2.1 dX7_init_84 rfl (lv_at hl 0 rfl) ?_
  refine lv_bipush (v := 14) X.1 X.2.1 dX7_init_85 (by decide) ?_
  refine r_newI (k := 11) (n := 539) X hA hW (N := 14) (by decide) (by decide) (by decide) (by omega) (by omega) (Nat.le_of_ble_eq_true rfl) (Nat.le_of_ble_eq_true rfl) tw_901 dX7_init_87 (fun q_87 hp_126 H hW eh_127 hn_128 => ?_)
  have ne_b_q_87 : b ≠ q_87 := ne_none f_125 hn_128
  have f_129 : hp_123 q_8 = some (.inl (G.2.1 1, 336, .inl (fun _ => 0))) := by rw [eh_124, va_up_ne _ _ (Ne.symm ne_b_q_8), eh_110, va_up_ne _ _ ne_q_8_q_79]; exact f_112
  have ne_q_8_q_87 : q_8 ≠ q_87 := ne_none f_129 hn_128
  have f_130 : hp_123 q_15 = some (.inl (G.2.1 1, 2, .inl (fun _ => 0))) := by rw [eh_124, va_up_ne _ _ (Ne.symm ne_b_q_15), eh_110, va_up_ne _ _ ne_q_15_q_79]; exact f_113
  have ne_q_15_q_87 : q_15 ≠ q_87 := ne_none f_130 hn_128
  have f_131 : hp_123 q_23 = some (.inl (G.2.1 1, 32, .inl (fun _ => 0))) := by rw [eh_124, va_up_ne _ _ (Ne.symm ne_b_q_23), eh_110, va_up_ne _ _ ne_q_23_q_79]; exact f_114
  have ne_q_23_q_87 : q_23 ≠ q_87 := ne_none f_131 hn_128
  have f_132 : hp_123 q_31 = some (.inl (G.2.1 1, 32, .inl (fun _ => 0))) := by rw [eh_124, va_up_ne _ _ (Ne.symm ne_b_q_31), eh_110, va_up_ne _ _ ne_q_31_q_79]; exact f_115
  have ne_q_31_q_87 : q_31 ≠ q_87 := ne_none f_132 hn_128
  have f_133 : hp_123 q_39 = some (.inl (G.2.1 1, 12, .inl (fun _ => 0))) := by rw [eh_124, va_up_ne _ _ (Ne.symm ne_b_q_39), eh_110, va_up_ne _ _ ne_q_39_q_79]; exact f_116
  have ne_q_39_q_87 : q_39 ≠ q_87 := ne_none f_133 hn_128
  have f_134 : hp_123 q_47 = some (.inl (G.2.1 1, 12, .inl (fun _ => 0))) := by rw [eh_124, va_up_ne _ _ (Ne.symm ne_b_q_47), eh_110, va_up_ne _ _ ne_q_47_q_79]; exact f_117
  have ne_q_47_q_87 : q_47 ≠ q_87 := ne_none f_134 hn_128
  have f_135 : hp_123 q_55 = some (.inl (G.2.1 1, 13, .inl (fun _ => 0))) := by rw [eh_124, va_up_ne _ _ (Ne.symm ne_b_q_55), eh_110, va_up_ne _ _ ne_q_55_q_79]; exact f_118
  have ne_q_55_q_87 : q_55 ≠ q_87 := ne_none f_135 hn_128
  have f_136 : hp_123 q_63 = some (.inl (G.2.1 1, 13, .inl (fun _ => 0))) := by rw [eh_124, va_up_ne _ _ (Ne.symm ne_b_q_63), eh_110, va_up_ne _ _ ne_q_63_q_79]; exact f_119
  have ne_q_63_q_87 : q_63 ≠ q_87 := ne_none f_136 hn_128
  have f_137 : hp_123 q_71 = some (.inl (G.2.1 1, 13, .inl (fun _ => 0))) := by rw [eh_124, va_up_ne _ _ (Ne.symm ne_b_q_71), eh_110, va_up_ne _ _ ne_q_71_q_79]; exact f_120
  have ne_q_71_q_87 : q_71 ≠ q_87 := ne_none f_137 hn_128
  have f_138 : hp_123 q_79 = some (.inl (G.2.1 1, 60, .inl (fun _ => 0))) := by rw [eh_124, va_up_ne _ _ (Ne.symm ne_b_q_79)]; exact f_121
  have ne_q_79_q_87 : q_79 ≠ q_87 := ne_none f_138 hn_128
  have f_139 : hp_126 q_87 = some (.inl (G.2.1 1, 14, .inl (fun _ => 0))) := by rw [eh_127]; exact va_up_self _ _ _
  have f_140 : hp_126 b = some (.inr (8, [.ref q_8, .int 0, .ref q_15, .ref q_23, .ref q_31, .ref q_39, .ref q_47, .ref q_55, .ref q_63, .ref q_71, .int 0, .int 0, .ref q_79, .int 0, .null, .null, .int 0, .int 0, .int 0])) := by rw [eh_127, va_up_ne _ _ ne_b_q_87]; exact f_125
  refine r_putF X hW f_140 (v := .ref q_87) (C := RX7) (T := TX7) (N := 19) rfl tin_X7 tyX7_ok nmX7 14 (Nat.le_of_ble_eq_true rfl) tw_857 (fun _ h => h) rfl hnm rfl rfl rfl (Nat.le_of_ble_eq_true rfl) dX7_init_89 (fun hp_141 H locs hW eh_142 => ?_)
  have f_143 : hp_141 b = some (.inr (8, [.ref q_8, .int 0, .ref q_15, .ref q_23, .ref q_31, .ref q_39, .ref q_47, .ref q_55, .ref q_63, .ref q_71, .int 0, .int 0, .ref q_79, .int 0, .ref q_87, .null, .int 0, .int 0, .int 0])) := by rw [eh_142]; exact va_up_self _ _ _
  refine lv_aload_n X.1 X.2.1 dX7_init_92 rfl (lv_at hl 0 rfl) ?_
  refine lv_iconst (v := 5) X.1 X.2.1 dX7_init_93 (by decide) ?_
  refine r_newJ (k := 12) (n := 544) X hA hW (N := 5) (by decide) (by decide) (by decide) (by omega) (by omega) (Nat.le_of_ble_eq_true rfl) (Nat.le_of_ble_eq_true rfl) tw_902 dX7_init_94 (fun q_94 hp_144 H hW eh_145 hn_146 => ?_)
  have ne_b_q_94 : b ≠ q_94 := ne_none f_143 hn_146
  have f_147 : hp_141 q_8 = some (.inl (G.2.1 1, 336, .inl (fun _ => 0))) := by rw [eh_142, va_up_ne _ _ (Ne.symm ne_b_q_8), eh_127, va_up_ne _ _ ne_q_8_q_87]; exact f_129
  have ne_q_8_q_94 : q_8 ≠ q_94 := ne_none f_147 hn_146
  have f_148 : hp_141 q_15 = some (.inl (G.2.1 1, 2, .inl (fun _ => 0))) := by rw [eh_142, va_up_ne _ _ (Ne.symm ne_b_q_15), eh_127, va_up_ne _ _ ne_q_15_q_87]; exact f_130
  have ne_q_15_q_94 : q_15 ≠ q_94 := ne_none f_148 hn_146
  have f_149 : hp_141 q_23 = some (.inl (G.2.1 1, 32, .inl (fun _ => 0))) := by rw [eh_142, va_up_ne _ _ (Ne.symm ne_b_q_23), eh_127, va_up_ne _ _ ne_q_23_q_87]; exact f_131
  have ne_q_23_q_94 : q_23 ≠ q_94 := ne_none f_149 hn_146
  have f_150 : hp_141 q_31 = some (.inl (G.2.1 1, 32, .inl (fun _ => 0))) := by rw [eh_142, va_up_ne _ _ (Ne.symm ne_b_q_31), eh_127, va_up_ne _ _ ne_q_31_q_87]; exact f_132
  have ne_q_31_q_94 : q_31 ≠ q_94 := ne_none f_150 hn_146
  have f_151 : hp_141 q_39 = some (.inl (G.2.1 1, 12, .inl (fun _ => 0))) := by rw [eh_142, va_up_ne _ _ (Ne.symm ne_b_q_39), eh_127, va_up_ne _ _ ne_q_39_q_87]; exact f_133
  have ne_q_39_q_94 : q_39 ≠ q_94 := ne_none f_151 hn_146
  have f_152 : hp_141 q_47 = some (.inl (G.2.1 1, 12, .inl (fun _ => 0))) := by rw [eh_142, va_up_ne _ _ (Ne.symm ne_b_q_47), eh_127, va_up_ne _ _ ne_q_47_q_87]; exact f_134
  have ne_q_47_q_94 : q_47 ≠ q_94 := ne_none f_152 hn_146
  have f_153 : hp_141 q_55 = some (.inl (G.2.1 1, 13, .inl (fun _ => 0))) := by rw [eh_142, va_up_ne _ _ (Ne.symm ne_b_q_55), eh_127, va_up_ne _ _ ne_q_55_q_87]; exact f_135
  have ne_q_55_q_94 : q_55 ≠ q_94 := ne_none f_153 hn_146
  have f_154 : hp_141 q_63 = some (.inl (G.2.1 1, 13, .inl (fun _ => 0))) := by rw [eh_142, va_up_ne _ _ (Ne.symm ne_b_q_63), eh_127, va_up_ne _ _ ne_q_63_q_87]; exact f_136
  have ne_q_63_q_94 : q_63 ≠ q_94 := ne_none f_154 hn_146
  have f_155 : hp_141 q_71 = some (.inl (G.2.1 1, 13, .inl (fun _ => 0))) := by rw [eh_142, va_up_ne _ _ (Ne.symm ne_b_q_71), eh_127, va_up_ne _ _ ne_q_71_q_87]; exact f_137
  have ne_q_71_q_94 : q_71 ≠ q_94 := ne_none f_155 hn_146
  have f_156 : hp_141 q_79 = some (.inl (G.2.1 1, 60, .inl (fun _ => 0))) := by rw [eh_142, va_up_ne _ _ (Ne.symm ne_b_q_79), eh_127, va_up_ne _ _ ne_q_79_q_87]; exact f_138
  have ne_q_79_q_94 : q_79 ≠ q_94 := ne_none f_156 hn_146
  have f_157 : hp_141 q_87 = some (.inl (G.2.1 1, 14, .inl (fun _ => 0))) := by rw [eh_142, va_up_ne _ _ (Ne.symm ne_b_q_87)]; exact f_139
  have ne_q_87_q_94 : q_87 ≠ q_94 := ne_none f_157 hn_146
  have f_158 : hp_144 q_94 = some (.inl (G.2.1 2, 5, .inr (.inl (fun _ => 0)))) := by rw [eh_145]; exact va_up_self _ _ _
  have f_159 : hp_144 b = some (.inr (8, [.ref q_8, .int 0, .ref q_15, .ref q_23, .ref q_31, .ref q_39, .ref q_47, .ref q_55, .ref q_63, .ref q_71, .int 0, .int 0, .ref q_79, .int 0, .ref q_87, .null, .int 0, .int 0, .int 0])) := by rw [eh_145, va_up_ne _ _ ne_b_q_94]; exact f_143
  refine r_putF X hW f_159 (v := .ref q_94) (C := RX7) (T := TX7) (N := 19) rfl tin_X7 tyX7_ok nmX7 15 (Nat.le_of_ble_eq_true rfl) tw_858 (fun _ h => h) rfl hnm rfl rfl rfl (Nat.le_of_ble_eq_true rfl) dX7_init_96 (fun hp_160 H locs hW eh_161 => ?_)
  have f_162 : hp_160 b = some (.inr (8, [.ref q_8, .int 0, .ref q_15, .ref q_23, .ref q_31, .ref q_39, .ref q_47, .ref q_55, .ref q_63, .ref q_71, .int 0, .int 0, .ref q_79, .int 0, .ref q_87, .ref q_94, .int 0, .int 0, .int 0])) := by rw [eh_161]; exact va_up_self _ _ _
  have f_163 : hp_160 q_8 = some (.inl (G.2.1 1, 336, .inl (fun _ => 0))) := by rw [eh_161, va_up_ne _ _ (Ne.symm ne_b_q_8), eh_145, va_up_ne _ _ ne_q_8_q_94]; exact f_147
  have f_164 : hp_160 q_15 = some (.inl (G.2.1 1, 2, .inl (fun _ => 0))) := by rw [eh_161, va_up_ne _ _ (Ne.symm ne_b_q_15), eh_145, va_up_ne _ _ ne_q_15_q_94]; exact f_148
  have f_165 : hp_160 q_23 = some (.inl (G.2.1 1, 32, .inl (fun _ => 0))) := by rw [eh_161, va_up_ne _ _ (Ne.symm ne_b_q_23), eh_145, va_up_ne _ _ ne_q_23_q_94]; exact f_149
  have f_166 : hp_160 q_31 = some (.inl (G.2.1 1, 32, .inl (fun _ => 0))) := by rw [eh_161, va_up_ne _ _ (Ne.symm ne_b_q_31), eh_145, va_up_ne _ _ ne_q_31_q_94]; exact f_150
  have f_167 : hp_160 q_39 = some (.inl (G.2.1 1, 12, .inl (fun _ => 0))) := by rw [eh_161, va_up_ne _ _ (Ne.symm ne_b_q_39), eh_145, va_up_ne _ _ ne_q_39_q_94]; exact f_151
  have f_168 : hp_160 q_47 = some (.inl (G.2.1 1, 12, .inl (fun _ => 0))) := by rw [eh_161, va_up_ne _ _ (Ne.symm ne_b_q_47), eh_145, va_up_ne _ _ ne_q_47_q_94]; exact f_152
  have f_169 : hp_160 q_55 = some (.inl (G.2.1 1, 13, .inl (fun _ => 0))) := by rw [eh_161, va_up_ne _ _ (Ne.symm ne_b_q_55), eh_145, va_up_ne _ _ ne_q_55_q_94]; exact f_153
  have f_170 : hp_160 q_63 = some (.inl (G.2.1 1, 13, .inl (fun _ => 0))) := by rw [eh_161, va_up_ne _ _ (Ne.symm ne_b_q_63), eh_145, va_up_ne _ _ ne_q_63_q_94]; exact f_154
  have f_171 : hp_160 q_71 = some (.inl (G.2.1 1, 13, .inl (fun _ => 0))) := by rw [eh_161, va_up_ne _ _ (Ne.symm ne_b_q_71), eh_145, va_up_ne _ _ ne_q_71_q_94]; exact f_155
  have f_172 : hp_160 q_79 = some (.inl (G.2.1 1, 60, .inl (fun _ => 0))) := by rw [eh_161, va_up_ne _ _ (Ne.symm ne_b_q_79), eh_145, va_up_ne _ _ ne_q_79_q_94]; exact f_156
  have f_173 : hp_160 q_87 = some (.inl (G.2.1 1, 14, .inl (fun _ => 0))) := by rw [eh_161, va_up_ne _ _ (Ne.symm ne_b_q_87), eh_145, va_up_ne _ _ ne_q_87_q_94]; exact f_157
  have f_174 : hp_160 q_94 = some (.inl (G.2.1 2, 5, .inr (.inl (fun _ => 0)))) := by rw [eh_161, va_up_ne _ _ (Ne.symm ne_b_q_94)]; exact f_158
  have nd : [b, q_8, q_15, q_23, q_31, q_39, q_47, q_55, q_63, q_71, q_79, q_87, q_94].Nodup := by simp [ne_b_q_8, ne_b_q_15, ne_q_8_q_15, ne_b_q_23, ne_q_8_q_23, ne_q_15_q_23, ne_b_q_31, ne_q_8_q_31, ne_q_15_q_31, ne_q_23_q_31, ne_b_q_39, ne_q_8_q_39, ne_q_15_q_39, ne_q_23_q_39, ne_q_31_q_39, ne_b_q_47, ne_q_8_q_47, ne_q_15_q_47, ne_q_23_q_47, ne_q_31_q_47, ne_q_39_q_47, ne_b_q_55, ne_q_8_q_55, ne_q_15_q_55, ne_q_23_q_55, ne_q_31_q_55, ne_q_39_q_55, ne_q_47_q_55, ne_b_q_63, ne_q_8_q_63, ne_q_15_q_63, ne_q_23_q_63, ne_q_31_q_63, ne_q_39_q_63, ne_q_47_q_63, ne_q_55_q_63, ne_b_q_71, ne_q_8_q_71, ne_q_15_q_71, ne_q_23_q_71, ne_q_31_q_71, ne_q_39_q_71, ne_q_47_q_71, ne_q_55_q_71, ne_q_63_q_71, ne_b_q_79, ne_q_8_q_79, ne_q_15_q_79, ne_q_23_q_79, ne_q_31_q_79, ne_q_39_q_79, ne_q_47_q_79, ne_q_55_q_79, ne_q_63_q_79, ne_q_71_q_79, ne_b_q_87, ne_q_8_q_87, ne_q_15_q_87, ne_q_23_q_87, ne_q_31_q_87, ne_q_39_q_87, ne_q_47_q_87, ne_q_55_q_87, ne_q_63_q_87, ne_q_71_q_87, ne_q_79_q_87, ne_b_q_94, ne_q_8_q_94, ne_q_15_q_94, ne_q_23_q_94, ne_q_31_q_94, ne_q_39_q_94, ne_q_47_q_94, ne_q_55_q_94, ne_q_63_q_94, ne_q_71_q_94, ne_q_79_q_94, ne_q_87_q_94]
  obtain ⟨M, hMb, hM⟩ := mr_mk (G := G) b q_8 q_15 q_23 q_31 q_39 q_47 q_55 q_63 q_71 q_79 q_87 q_94 f_162 f_163 f_164 f_165 f_166 f_167 f_168 f_169 f_170 f_171 f_172 f_173 f_174 nd
  subst hMb
  refine lv_aload_n X.1 X.2.1 dX7_init_99 rfl (lv_at hl 0 rfl) ?_
  refine r_get X hW.1 hM.1 (v := .ref (M 2)) (C := RX7) (T := TX7) (N := 19) rfl tin_X7 2 (by decide) tw_845 (fun _ h => h) rfl dX7_init_100 ?_
  refine lv_iconst (v := 0) X.1 X.2.1 dX7_init_103 (by decide) ?_
  refine lv_bipush (v := 31) X.1 X.2.1 dX7_init_104 (by decide) ?_
  refine r_iast X hW (hM.2.1 1 (by decide)) (show vp_in (0) 2 from vp_in_nI (n := 0) (by omega) (by decide)) dX7_init_106 (fun hp_175 H locs hW eh_176 => ?_)
  have hM := mr_ar hM 1 (by decide) eh_176
  refine lv_aload_n X.1 X.2.1 dX7_init_107 rfl (lv_at hl 0 rfl) ?_
  refine r_get X hW.1 hM.1 (v := .ref (M 2)) (C := RX7) (T := TX7) (N := 19) rfl tin_X7 2 (by decide) tw_845 (fun _ h => h) rfl dX7_init_108 ?_
  refine lv_iconst (v := 1) X.1 X.2.1 dX7_init_111 (by decide) ?_
  refine lv_sipush (v := 992) X.1 X.2.1 dX7_init_112 (by decide) ?_
  refine r_iast X hW (hM.2.1 1 (by decide)) (show vp_in (1) 2 from vp_in_nI (n := 1) (by omega) (by decide)) dX7_init_115 (fun hp_177 H locs hW eh_178 => ?_)
  have hM := mr_ar hM 1 (by decide) eh_178
  refine lv_iconst (v := 0) X.1 X.2.1 dX7_init_116 (by decide) ?_
  refine lv_istore_n (lv' := [(1, .int 0), (0, .ref (M 0))]) X.1 X.2.1 dX7_init_117 rfl hl (by decide) rfl (fun ls hl => ?_)
  have L118 : ∀ (f : Nat) (i : Nat) (hpL : HP) (H : Heap) (locs : List Loc) (g2 : Nat → Int32) (g3 : Nat → Int32), MR G hpL M (fun _ => 0) (va_up (va_up (va_up (va_up (fun _ _ => 0) 1 (upd (fun _ => 0) (0 : Int32).toNatClampNeg 31)) 1 (upd (upd (fun _ => 0) (0 : Int32).toNatClampNeg 31) (1 : Int32).toNatClampNeg 992)) 2 g2) 3 g3) (fun _ => 0) → WS s G A hpL H locs → (i + f = 32) → (∀ j, j < 32 → g2 j = if j < i then nI (pc5 j) else 0) → (∀ j, j < 32 → g3 j = if j < i then nI (st5 j) else 0) → ∀ ls, lv_has ls 3 [(0, .ref (M 0)), (1, .int (nI i))] → W p l e ({ frames := 1, cells := 12, slots := 544, locals := 20 } : Room) s m args below meth c H locs 12 544 (MQ below (va_Qv (fun hp1 => ∃ M1 sc1 ar1 sm1, M1 0 = (M 0) ∧ MR G hp1 M1 sc1 ar1 sm1 ∧ MST z0 sc1 ar1) (WB G A) A) args s 12 544 A) (F0 m 118 ls []) := by
    intro f
    induction f with
    | zero =>
      intro i hpL H locs g2 g3 hM hW h0 h1 h2 ls hl
      have h32 : i = 32 := by omega
      refine lv_iload_n X.1 X.2.1 dX7_init_118 rfl (lv_at hl 1 rfl) ?_
      refine lv_bipush (v := 32) X.1 X.2.1 dX7_init_119 (by decide) ?_
      refine lv_icmp_ge (tgt := 173) X.1 X.2.1 dX7_init_121 (by decide) (fun c_121 => ?_) (fun c_121 => absurd (nI_le (a := 32) (b := i) (by omega) (by omega)) c_121)
      refine lv_aload_n X.1 X.2.1 dX7_init_173 rfl (lv_at hl 0 rfl) ?_
      refine on_Wv (k' := 12) (n' := 544) (run_V (C := RX7) (As := []) (rest := []) X (c_X7_anew l G A hpL _ (fun q h => hA q (Nat.le_trans hW.2.2.1 h)) hW.2.1 M (fun _ => 0) (va_up (va_up (va_up (va_up (fun _ _ => 0) 1 (upd (fun _ => 0) (0 : Int32).toNatClampNeg 31)) 1 (upd (upd (fun _ => 0) (0 : Int32).toNatClampNeg 31) (1 : Int32).toNatClampNeg 992)) 2 g2) 3 g3) (fun _ => 0) hM) (wp_blind _) (wp_at X hW.1 hW.2.2) (recv X hW.1 hM.1 (C := RX7) (T := TX7) (N := 19) rfl) mf_X7_anew tw_839 tw_841 tw_26 ⟨rfl, rfl, Nat.le_of_ble_eq_true rfl, Nat.le_of_ble_eq_true rfl⟩ hl.1 rfl rfl (Nat.le_of_ble_eq_true rfl) ⟨Nat.le_of_ble_eq_true rfl, Nat.le_of_ble_eq_true rfl⟩ dX7_init_174) hW (by omega) (by omega) (fun hp_179 H locs q_174 hW => ?_)
      have hM := q_174
      exact wr_v X hr hlk hW ⟨M, _, _, _, rfl, hM, mst0 (fun j hj => (h1 j hj).trans (if_pos (by omega))) (fun j hj => (h2 j hj).trans (if_pos (by omega)))⟩ (Nat.le_of_ble_eq_true rfl) (Nat.le_of_ble_eq_true rfl) dX7_init_177
    | succ f ih =>
      intro i hpL H locs g2 g3 hM hW h0 h1 h2 ls hl
      have h32 : i < 32 := by omega
      refine lv_iload_n X.1 X.2.1 dX7_init_118 rfl (lv_at hl 1 rfl) ?_
      refine lv_bipush (v := 32) X.1 X.2.1 dX7_init_119 (by decide) ?_
      refine lv_icmp_ge (tgt := 173) X.1 X.2.1 dX7_init_121 (by decide) (fun c_121 => absurd c_121 (nI_ge (a := i) (b := 32) (by omega) (by decide))) (fun c_121 => ?_)
      refine lv_iconst (v := 0) X.1 X.2.1 dX7_init_124 (by decide) ?_
      refine lv_istore_n (lv' := [(2, .int 0), (0, .ref (M 0)), (1, .int (nI i))]) X.1 X.2.1 dX7_init_125 rfl hl (by decide) rfl (fun ls hl => ?_)
      refine lv_iload_n X.1 X.2.1 dX7_init_126 rfl (lv_at hl 0 rfl) ?_
      refine lv_iconst (v := 5) X.1 X.2.1 dX7_init_127 (by decide) ?_
      refine lv_icmp_ge (tgt := 167) X.1 X.2.1 dX7_init_128 (by decide) (fun c_128 => absurd c_128 (by decide)) (fun c_128 => ?_)
      refine lv_aload_n X.1 X.2.1 dX7_init_131 rfl (lv_at hl 1 rfl) ?_
      refine r_get X hW.1 hM.1 (v := .ref (M 3)) (C := RX7) (T := TX7) (N := 19) rfl tin_X7 3 (by decide) tw_846 (fun _ h => h) rfl dX7_init_132 ?_
      refine lv_iload_n X.1 X.2.1 dX7_init_135 rfl (lv_at hl 2 rfl) ?_
      refine lv_dup2_11 X.1 X.2.1 dX7_init_136 rfl rfl ?_
      refine r_iald X hW.1 (hM.2.1 2 (by decide)) (show vp_in ((nI i)) 32 from vp_in_nI (n := i) (by omega) (by decide)) dX7_init_137 ?_
      refine r_eqi (show ((g2 (nI i).toNatClampNeg) : Int32) = 0 from by rw [nI_clamp (by omega)]; exact (h1 i (by omega)).trans (if_neg (by omega))) ?_
      refine lv_iload_n X.1 X.2.1 dX7_init_138 rfl (lv_at hl 2 rfl) ?_
      refine lv_iload_n X.1 X.2.1 dX7_init_139 rfl (lv_at hl 0 rfl) ?_
      refine lv_ishr X.1 X.2.1 dX7_init_140 ?_
      refine r_eqi (show (((nI i) >>> (0 &&& 31)) : Int32) = nI i from sb_shr0 (nI i)) ?_
      refine lv_iconst (v := 1) X.1 X.2.1 dX7_init_141 (by decide) ?_
      refine lv_iand X.1 X.2.1 dX7_init_142 ?_
      refine r_eqi (show (((nI i) &&& 1) : Int32) = nI (i % 2) from n_and1 i) ?_
      refine lv_iadd X.1 X.2.1 dX7_init_143 ?_
      refine r_eqi (show (((0 : Int32) + (nI (i % 2))) : Int32) = nI (0 + (i % 2)) from nI_add 0 (i % 2)) ?_
      refine r_iast X hW (hM.2.1 2 (by decide)) (show vp_in ((nI i)) 32 from vp_in_nI (n := i) (by omega) (by decide)) dX7_init_144 (fun hp_180 H locs hW eh_181 => ?_)
      have hM := mr_ar hM 2 (by decide) eh_181
      refine lv_aload_n X.1 X.2.1 dX7_init_145 rfl (lv_at hl 1 rfl) ?_
      refine r_get X hW.1 hM.1 (v := .ref (M 4)) (C := RX7) (T := TX7) (N := 19) rfl tin_X7 4 (by decide) tw_847 (fun _ h => h) rfl dX7_init_146 ?_
      refine lv_iload_n X.1 X.2.1 dX7_init_149 rfl (lv_at hl 2 rfl) ?_
      refine lv_dup2_11 X.1 X.2.1 dX7_init_150 rfl rfl ?_
      refine r_iald X hW.1 (hM.2.1 3 (by decide)) (show vp_in ((nI i)) 32 from vp_in_nI (n := i) (by omega) (by decide)) dX7_init_151 ?_
      refine r_eqi (show ((g3 (nI i).toNatClampNeg) : Int32) = 0 from by rw [nI_clamp (by omega)]; exact (h2 i (by omega)).trans (if_neg (by omega))) ?_
      refine lv_iload_n X.1 X.2.1 dX7_init_152 rfl (lv_at hl 2 rfl) ?_
      refine lv_iload_n X.1 X.2.1 dX7_init_153 rfl (lv_at hl 0 rfl) ?_
      refine lv_ishr X.1 X.2.1 dX7_init_154 ?_
      refine r_eqi (show (((nI i) >>> (0 &&& 31)) : Int32) = nI i from sb_shr0 (nI i)) ?_
      refine lv_iconst (v := 1) X.1 X.2.1 dX7_init_155 (by decide) ?_
      refine lv_iand X.1 X.2.1 dX7_init_156 ?_
      refine r_eqi (show (((nI i) &&& 1) : Int32) = nI (i % 2) from n_and1 i) ?_
      refine lv_iload_n X.1 X.2.1 dX7_init_157 rfl (lv_at hl 0 rfl) ?_
      refine lv_imul X.1 X.2.1 dX7_init_158 ?_
      refine r_eqi (show (((nI (i % 2)) * 0) : Int32) = nI ((i % 2) * 0) from pk_mul (i % 2) 0) ?_
      refine lv_iadd X.1 X.2.1 dX7_init_159 ?_
      refine r_eqi (show (((0 : Int32) + (nI ((i % 2) * 0))) : Int32) = nI (0 + ((i % 2) * 0)) from nI_add 0 ((i % 2) * 0)) ?_
      refine r_iast X hW (hM.2.1 3 (by decide)) (show vp_in ((nI i)) 32 from vp_in_nI (n := i) (by omega) (by decide)) dX7_init_160 (fun hp_182 H locs hW eh_183 => ?_)
      have hM := mr_ar hM 3 (by decide) eh_183
      refine lv_iinc (v := 1) (lv' := [(2, .int 1), (0, .ref (M 0)), (1, .int (nI i))]) X.1 X.2.1 dX7_init_161 hl (k := 0) rfl (by decide) (by decide) rfl (fun ls hl => ?_)
      refine lv_goto (tgt := 126) X.1 X.2.1 dX7_init_164 (by decide) ?_
      refine lv_iload_n X.1 X.2.1 dX7_init_126 rfl (lv_at hl 0 rfl) ?_
      refine lv_iconst (v := 5) X.1 X.2.1 dX7_init_127 (by decide) ?_
      refine lv_icmp_ge (tgt := 167) X.1 X.2.1 dX7_init_128 (by decide) (fun c_128 => absurd c_128 (by decide)) (fun c_128 => ?_)
      refine lv_aload_n X.1 X.2.1 dX7_init_131 rfl (lv_at hl 1 rfl) ?_
      refine r_get X hW.1 hM.1 (v := .ref (M 3)) (C := RX7) (T := TX7) (N := 19) rfl tin_X7 3 (by decide) tw_846 (fun _ h => h) rfl dX7_init_132 ?_
      refine lv_iload_n X.1 X.2.1 dX7_init_135 rfl (lv_at hl 2 rfl) ?_
      refine lv_dup2_11 X.1 X.2.1 dX7_init_136 rfl rfl ?_
      refine r_iald X hW.1 (hM.2.1 2 (by decide)) (show vp_in ((nI i)) 32 from vp_in_nI (n := i) (by omega) (by decide)) dX7_init_137 ?_
      refine r_eqi (show (((upd g2 (nI i).toNatClampNeg (nI (0 + (i % 2)))) (nI i).toNatClampNeg) : Int32) = (nI (0 + (i % 2))) from if_pos rfl) ?_
      refine lv_iload_n X.1 X.2.1 dX7_init_138 rfl (lv_at hl 2 rfl) ?_
      refine lv_iload_n X.1 X.2.1 dX7_init_139 rfl (lv_at hl 0 rfl) ?_
      refine lv_ishr X.1 X.2.1 dX7_init_140 ?_
      refine r_eqi (show (((nI i) >>> (1 &&& 31)) : Int32) = nI (i / 2) from pk_shrN (n := i) (by omega) _ 1 (by decide)) ?_
      refine lv_iconst (v := 1) X.1 X.2.1 dX7_init_141 (by decide) ?_
      refine lv_iand X.1 X.2.1 dX7_init_142 ?_
      refine r_eqi (show (((nI (i / 2)) &&& 1) : Int32) = nI ((i / 2) % 2) from n_and1 (i / 2)) ?_
      refine lv_iadd X.1 X.2.1 dX7_init_143 ?_
      refine r_eqi (show (((nI (0 + (i % 2))) + (nI ((i / 2) % 2))) : Int32) = nI ((0 + (i % 2)) + ((i / 2) % 2)) from nI_add (0 + (i % 2)) ((i / 2) % 2)) ?_
      refine r_iast X hW (hM.2.1 2 (by decide)) (show vp_in ((nI i)) 32 from vp_in_nI (n := i) (by omega) (by decide)) dX7_init_144 (fun hp_184 H locs hW eh_185 => ?_)
      have hM := mr_ar hM 2 (by decide) eh_185
      refine lv_aload_n X.1 X.2.1 dX7_init_145 rfl (lv_at hl 1 rfl) ?_
      refine r_get X hW.1 hM.1 (v := .ref (M 4)) (C := RX7) (T := TX7) (N := 19) rfl tin_X7 4 (by decide) tw_847 (fun _ h => h) rfl dX7_init_146 ?_
      refine lv_iload_n X.1 X.2.1 dX7_init_149 rfl (lv_at hl 2 rfl) ?_
      refine lv_dup2_11 X.1 X.2.1 dX7_init_150 rfl rfl ?_
      refine r_iald X hW.1 (hM.2.1 3 (by decide)) (show vp_in ((nI i)) 32 from vp_in_nI (n := i) (by omega) (by decide)) dX7_init_151 ?_
      refine r_eqi (show (((upd g3 (nI i).toNatClampNeg (nI (0 + ((i % 2) * 0)))) (nI i).toNatClampNeg) : Int32) = (nI (0 + ((i % 2) * 0))) from if_pos rfl) ?_
      refine lv_iload_n X.1 X.2.1 dX7_init_152 rfl (lv_at hl 2 rfl) ?_
      refine lv_iload_n X.1 X.2.1 dX7_init_153 rfl (lv_at hl 0 rfl) ?_
      refine lv_ishr X.1 X.2.1 dX7_init_154 ?_
      refine r_eqi (show (((nI i) >>> (1 &&& 31)) : Int32) = nI (i / 2) from pk_shrN (n := i) (by omega) _ 1 (by decide)) ?_
      refine lv_iconst (v := 1) X.1 X.2.1 dX7_init_155 (by decide) ?_
      refine lv_iand X.1 X.2.1 dX7_init_156 ?_
      refine r_eqi (show (((nI (i / 2)) &&& 1) : Int32) = nI ((i / 2) % 2) from n_and1 (i / 2)) ?_
      refine lv_iload_n X.1 X.2.1 dX7_init_157 rfl (lv_at hl 0 rfl) ?_
      refine lv_imul X.1 X.2.1 dX7_init_158 ?_
      refine r_eqi (show (((nI ((i / 2) % 2)) * 1) : Int32) = nI (((i / 2) % 2) * 1) from pk_mul ((i / 2) % 2) 1) ?_
      refine lv_iadd X.1 X.2.1 dX7_init_159 ?_
      refine r_eqi (show (((nI (0 + ((i % 2) * 0))) + (nI (((i / 2) % 2) * 1))) : Int32) = nI ((0 + ((i % 2) * 0)) + (((i / 2) % 2) * 1)) from nI_add (0 + ((i % 2) * 0)) (((i / 2) % 2) * 1)) ?_
      refine r_iast X hW (hM.2.1 3 (by decide)) (show vp_in ((nI i)) 32 from vp_in_nI (n := i) (by omega) (by decide)) dX7_init_160 (fun hp_186 H locs hW eh_187 => ?_)
      have hM := mr_ar hM 3 (by decide) eh_187
      refine lv_iinc (v := 2) (lv' := [(2, .int 2), (0, .ref (M 0)), (1, .int (nI i))]) X.1 X.2.1 dX7_init_161 hl (k := 0) rfl (by decide) (by decide) rfl (fun ls hl => ?_)
      refine lv_goto (tgt := 126) X.1 X.2.1 dX7_init_164 (by decide) ?_
      refine lv_iload_n X.1 X.2.1 dX7_init_126 rfl (lv_at hl 0 rfl) ?_
      refine lv_iconst (v := 5) X.1 X.2.1 dX7_init_127 (by decide) ?_
      refine lv_icmp_ge (tgt := 167) X.1 X.2.1 dX7_init_128 (by decide) (fun c_128 => absurd c_128 (by decide)) (fun c_128 => ?_)
      refine lv_aload_n X.1 X.2.1 dX7_init_131 rfl (lv_at hl 1 rfl) ?_
      refine r_get X hW.1 hM.1 (v := .ref (M 3)) (C := RX7) (T := TX7) (N := 19) rfl tin_X7 3 (by decide) tw_846 (fun _ h => h) rfl dX7_init_132 ?_
      refine lv_iload_n X.1 X.2.1 dX7_init_135 rfl (lv_at hl 2 rfl) ?_
      refine lv_dup2_11 X.1 X.2.1 dX7_init_136 rfl rfl ?_
      refine r_iald X hW.1 (hM.2.1 2 (by decide)) (show vp_in ((nI i)) 32 from vp_in_nI (n := i) (by omega) (by decide)) dX7_init_137 ?_
      refine r_eqi (show (((upd (upd g2 (nI i).toNatClampNeg (nI (0 + (i % 2)))) (nI i).toNatClampNeg (nI ((0 + (i % 2)) + ((i / 2) % 2)))) (nI i).toNatClampNeg) : Int32) = (nI ((0 + (i % 2)) + ((i / 2) % 2))) from if_pos rfl) ?_
      refine lv_iload_n X.1 X.2.1 dX7_init_138 rfl (lv_at hl 2 rfl) ?_
      refine lv_iload_n X.1 X.2.1 dX7_init_139 rfl (lv_at hl 0 rfl) ?_
      refine lv_ishr X.1 X.2.1 dX7_init_140 ?_
      refine r_eqi (show (((nI i) >>> (2 &&& 31)) : Int32) = nI (i / 4) from pk_shrN (n := i) (by omega) _ 2 (by decide)) ?_
      refine lv_iconst (v := 1) X.1 X.2.1 dX7_init_141 (by decide) ?_
      refine lv_iand X.1 X.2.1 dX7_init_142 ?_
      refine r_eqi (show (((nI (i / 4)) &&& 1) : Int32) = nI ((i / 4) % 2) from n_and1 (i / 4)) ?_
      refine lv_iadd X.1 X.2.1 dX7_init_143 ?_
      refine r_eqi (show (((nI ((0 + (i % 2)) + ((i / 2) % 2))) + (nI ((i / 4) % 2))) : Int32) = nI (((0 + (i % 2)) + ((i / 2) % 2)) + ((i / 4) % 2)) from nI_add ((0 + (i % 2)) + ((i / 2) % 2)) ((i / 4) % 2)) ?_
      refine r_iast X hW (hM.2.1 2 (by decide)) (show vp_in ((nI i)) 32 from vp_in_nI (n := i) (by omega) (by decide)) dX7_init_144 (fun hp_188 H locs hW eh_189 => ?_)
      have hM := mr_ar hM 2 (by decide) eh_189
      refine lv_aload_n X.1 X.2.1 dX7_init_145 rfl (lv_at hl 1 rfl) ?_
      refine r_get X hW.1 hM.1 (v := .ref (M 4)) (C := RX7) (T := TX7) (N := 19) rfl tin_X7 4 (by decide) tw_847 (fun _ h => h) rfl dX7_init_146 ?_
      refine lv_iload_n X.1 X.2.1 dX7_init_149 rfl (lv_at hl 2 rfl) ?_
      refine lv_dup2_11 X.1 X.2.1 dX7_init_150 rfl rfl ?_
      refine r_iald X hW.1 (hM.2.1 3 (by decide)) (show vp_in ((nI i)) 32 from vp_in_nI (n := i) (by omega) (by decide)) dX7_init_151 ?_
      refine r_eqi (show (((upd (upd g3 (nI i).toNatClampNeg (nI (0 + ((i % 2) * 0)))) (nI i).toNatClampNeg (nI ((0 + ((i % 2) * 0)) + (((i / 2) % 2) * 1)))) (nI i).toNatClampNeg) : Int32) = (nI ((0 + ((i % 2) * 0)) + (((i / 2) % 2) * 1))) from if_pos rfl) ?_
      refine lv_iload_n X.1 X.2.1 dX7_init_152 rfl (lv_at hl 2 rfl) ?_
      refine lv_iload_n X.1 X.2.1 dX7_init_153 rfl (lv_at hl 0 rfl) ?_
      refine lv_ishr X.1 X.2.1 dX7_init_154 ?_
      refine r_eqi (show (((nI i) >>> (2 &&& 31)) : Int32) = nI (i / 4) from pk_shrN (n := i) (by omega) _ 2 (by decide)) ?_
      refine lv_iconst (v := 1) X.1 X.2.1 dX7_init_155 (by decide) ?_
      refine lv_iand X.1 X.2.1 dX7_init_156 ?_
      refine r_eqi (show (((nI (i / 4)) &&& 1) : Int32) = nI ((i / 4) % 2) from n_and1 (i / 4)) ?_
      refine lv_iload_n X.1 X.2.1 dX7_init_157 rfl (lv_at hl 0 rfl) ?_
      refine lv_imul X.1 X.2.1 dX7_init_158 ?_
      refine r_eqi (show (((nI ((i / 4) % 2)) * 2) : Int32) = nI (((i / 4) % 2) * 2) from pk_mul ((i / 4) % 2) 2) ?_
      refine lv_iadd X.1 X.2.1 dX7_init_159 ?_
      refine r_eqi (show (((nI ((0 + ((i % 2) * 0)) + (((i / 2) % 2) * 1))) + (nI (((i / 4) % 2) * 2))) : Int32) = nI (((0 + ((i % 2) * 0)) + (((i / 2) % 2) * 1)) + (((i / 4) % 2) * 2)) from nI_add ((0 + ((i % 2) * 0)) + (((i / 2) % 2) * 1)) (((i / 4) % 2) * 2)) ?_
      refine r_iast X hW (hM.2.1 3 (by decide)) (show vp_in ((nI i)) 32 from vp_in_nI (n := i) (by omega) (by decide)) dX7_init_160 (fun hp_190 H locs hW eh_191 => ?_)
      have hM := mr_ar hM 3 (by decide) eh_191
      refine lv_iinc (v := 3) (lv' := [(2, .int 3), (0, .ref (M 0)), (1, .int (nI i))]) X.1 X.2.1 dX7_init_161 hl (k := 0) rfl (by decide) (by decide) rfl (fun ls hl => ?_)
      refine lv_goto (tgt := 126) X.1 X.2.1 dX7_init_164 (by decide) ?_
      refine lv_iload_n X.1 X.2.1 dX7_init_126 rfl (lv_at hl 0 rfl) ?_
      refine lv_iconst (v := 5) X.1 X.2.1 dX7_init_127 (by decide) ?_
      refine lv_icmp_ge (tgt := 167) X.1 X.2.1 dX7_init_128 (by decide) (fun c_128 => absurd c_128 (by decide)) (fun c_128 => ?_)
      refine lv_aload_n X.1 X.2.1 dX7_init_131 rfl (lv_at hl 1 rfl) ?_
      refine r_get X hW.1 hM.1 (v := .ref (M 3)) (C := RX7) (T := TX7) (N := 19) rfl tin_X7 3 (by decide) tw_846 (fun _ h => h) rfl dX7_init_132 ?_
      refine lv_iload_n X.1 X.2.1 dX7_init_135 rfl (lv_at hl 2 rfl) ?_
      refine lv_dup2_11 X.1 X.2.1 dX7_init_136 rfl rfl ?_
      refine r_iald X hW.1 (hM.2.1 2 (by decide)) (show vp_in ((nI i)) 32 from vp_in_nI (n := i) (by omega) (by decide)) dX7_init_137 ?_
      refine r_eqi (show (((upd (upd (upd g2 (nI i).toNatClampNeg (nI (0 + (i % 2)))) (nI i).toNatClampNeg (nI ((0 + (i % 2)) + ((i / 2) % 2)))) (nI i).toNatClampNeg (nI (((0 + (i % 2)) + ((i / 2) % 2)) + ((i / 4) % 2)))) (nI i).toNatClampNeg) : Int32) = (nI (((0 + (i % 2)) + ((i / 2) % 2)) + ((i / 4) % 2))) from if_pos rfl) ?_
      refine lv_iload_n X.1 X.2.1 dX7_init_138 rfl (lv_at hl 2 rfl) ?_
      refine lv_iload_n X.1 X.2.1 dX7_init_139 rfl (lv_at hl 0 rfl) ?_
      refine lv_ishr X.1 X.2.1 dX7_init_140 ?_
      refine r_eqi (show (((nI i) >>> (3 &&& 31)) : Int32) = nI (i / 8) from pk_shrN (n := i) (by omega) _ 3 (by decide)) ?_
      refine lv_iconst (v := 1) X.1 X.2.1 dX7_init_141 (by decide) ?_
      refine lv_iand X.1 X.2.1 dX7_init_142 ?_
      refine r_eqi (show (((nI (i / 8)) &&& 1) : Int32) = nI ((i / 8) % 2) from n_and1 (i / 8)) ?_
      refine lv_iadd X.1 X.2.1 dX7_init_143 ?_
      refine r_eqi (show (((nI (((0 + (i % 2)) + ((i / 2) % 2)) + ((i / 4) % 2))) + (nI ((i / 8) % 2))) : Int32) = nI ((((0 + (i % 2)) + ((i / 2) % 2)) + ((i / 4) % 2)) + ((i / 8) % 2)) from nI_add (((0 + (i % 2)) + ((i / 2) % 2)) + ((i / 4) % 2)) ((i / 8) % 2)) ?_
      refine r_iast X hW (hM.2.1 2 (by decide)) (show vp_in ((nI i)) 32 from vp_in_nI (n := i) (by omega) (by decide)) dX7_init_144 (fun hp_192 H locs hW eh_193 => ?_)
      have hM := mr_ar hM 2 (by decide) eh_193
      refine lv_aload_n X.1 X.2.1 dX7_init_145 rfl (lv_at hl 1 rfl) ?_
      refine r_get X hW.1 hM.1 (v := .ref (M 4)) (C := RX7) (T := TX7) (N := 19) rfl tin_X7 4 (by decide) tw_847 (fun _ h => h) rfl dX7_init_146 ?_
      refine lv_iload_n X.1 X.2.1 dX7_init_149 rfl (lv_at hl 2 rfl) ?_
      refine lv_dup2_11 X.1 X.2.1 dX7_init_150 rfl rfl ?_
      refine r_iald X hW.1 (hM.2.1 3 (by decide)) (show vp_in ((nI i)) 32 from vp_in_nI (n := i) (by omega) (by decide)) dX7_init_151 ?_
      refine r_eqi (show (((upd (upd (upd g3 (nI i).toNatClampNeg (nI (0 + ((i % 2) * 0)))) (nI i).toNatClampNeg (nI ((0 + ((i % 2) * 0)) + (((i / 2) % 2) * 1)))) (nI i).toNatClampNeg (nI (((0 + ((i % 2) * 0)) + (((i / 2) % 2) * 1)) + (((i / 4) % 2) * 2)))) (nI i).toNatClampNeg) : Int32) = (nI (((0 + ((i % 2) * 0)) + (((i / 2) % 2) * 1)) + (((i / 4) % 2) * 2))) from if_pos rfl) ?_
      refine lv_iload_n X.1 X.2.1 dX7_init_152 rfl (lv_at hl 2 rfl) ?_
      refine lv_iload_n X.1 X.2.1 dX7_init_153 rfl (lv_at hl 0 rfl) ?_
      refine lv_ishr X.1 X.2.1 dX7_init_154 ?_
      refine r_eqi (show (((nI i) >>> (3 &&& 31)) : Int32) = nI (i / 8) from pk_shrN (n := i) (by omega) _ 3 (by decide)) ?_
      refine lv_iconst (v := 1) X.1 X.2.1 dX7_init_155 (by decide) ?_
      refine lv_iand X.1 X.2.1 dX7_init_156 ?_
      refine r_eqi (show (((nI (i / 8)) &&& 1) : Int32) = nI ((i / 8) % 2) from n_and1 (i / 8)) ?_
      refine lv_iload_n X.1 X.2.1 dX7_init_157 rfl (lv_at hl 0 rfl) ?_
      refine lv_imul X.1 X.2.1 dX7_init_158 ?_
      refine r_eqi (show (((nI ((i / 8) % 2)) * 3) : Int32) = nI (((i / 8) % 2) * 3) from pk_mul ((i / 8) % 2) 3) ?_
      refine lv_iadd X.1 X.2.1 dX7_init_159 ?_
      refine r_eqi (show (((nI (((0 + ((i % 2) * 0)) + (((i / 2) % 2) * 1)) + (((i / 4) % 2) * 2))) + (nI (((i / 8) % 2) * 3))) : Int32) = nI ((((0 + ((i % 2) * 0)) + (((i / 2) % 2) * 1)) + (((i / 4) % 2) * 2)) + (((i / 8) % 2) * 3)) from nI_add (((0 + ((i % 2) * 0)) + (((i / 2) % 2) * 1)) + (((i / 4) % 2) * 2)) (((i / 8) % 2) * 3)) ?_
      refine r_iast X hW (hM.2.1 3 (by decide)) (show vp_in ((nI i)) 32 from vp_in_nI (n := i) (by omega) (by decide)) dX7_init_160 (fun hp_194 H locs hW eh_195 => ?_)
      have hM := mr_ar hM 3 (by decide) eh_195
      refine lv_iinc (v := 4) (lv' := [(2, .int 4), (0, .ref (M 0)), (1, .int (nI i))]) X.1 X.2.1 dX7_init_161 hl (k := 0) rfl (by decide) (by decide) rfl (fun ls hl => ?_)
      refine lv_goto (tgt := 126) X.1 X.2.1 dX7_init_164 (by decide) ?_
      refine lv_iload_n X.1 X.2.1 dX7_init_126 rfl (lv_at hl 0 rfl) ?_
      refine lv_iconst (v := 5) X.1 X.2.1 dX7_init_127 (by decide) ?_
      refine lv_icmp_ge (tgt := 167) X.1 X.2.1 dX7_init_128 (by decide) (fun c_128 => absurd c_128 (by decide)) (fun c_128 => ?_)
      refine lv_aload_n X.1 X.2.1 dX7_init_131 rfl (lv_at hl 1 rfl) ?_
      refine r_get X hW.1 hM.1 (v := .ref (M 3)) (C := RX7) (T := TX7) (N := 19) rfl tin_X7 3 (by decide) tw_846 (fun _ h => h) rfl dX7_init_132 ?_
      refine lv_iload_n X.1 X.2.1 dX7_init_135 rfl (lv_at hl 2 rfl) ?_
      refine lv_dup2_11 X.1 X.2.1 dX7_init_136 rfl rfl ?_
      refine r_iald X hW.1 (hM.2.1 2 (by decide)) (show vp_in ((nI i)) 32 from vp_in_nI (n := i) (by omega) (by decide)) dX7_init_137 ?_
      refine r_eqi (show (((upd (upd (upd (upd g2 (nI i).toNatClampNeg (nI (0 + (i % 2)))) (nI i).toNatClampNeg (nI ((0 + (i % 2)) + ((i / 2) % 2)))) (nI i).toNatClampNeg (nI (((0 + (i % 2)) + ((i / 2) % 2)) + ((i / 4) % 2)))) (nI i).toNatClampNeg (nI ((((0 + (i % 2)) + ((i / 2) % 2)) + ((i / 4) % 2)) + ((i / 8) % 2)))) (nI i).toNatClampNeg) : Int32) = (nI ((((0 + (i % 2)) + ((i / 2) % 2)) + ((i / 4) % 2)) + ((i / 8) % 2))) from if_pos rfl) ?_
      refine lv_iload_n X.1 X.2.1 dX7_init_138 rfl (lv_at hl 2 rfl) ?_
      refine lv_iload_n X.1 X.2.1 dX7_init_139 rfl (lv_at hl 0 rfl) ?_
      refine lv_ishr X.1 X.2.1 dX7_init_140 ?_
      refine r_eqi (show (((nI i) >>> (4 &&& 31)) : Int32) = nI (i / 16) from pk_shrN (n := i) (by omega) _ 4 (by decide)) ?_
      refine lv_iconst (v := 1) X.1 X.2.1 dX7_init_141 (by decide) ?_
      refine lv_iand X.1 X.2.1 dX7_init_142 ?_
      refine r_eqi (show (((nI (i / 16)) &&& 1) : Int32) = nI ((i / 16) % 2) from n_and1 (i / 16)) ?_
      refine lv_iadd X.1 X.2.1 dX7_init_143 ?_
      refine r_eqi (show (((nI ((((0 + (i % 2)) + ((i / 2) % 2)) + ((i / 4) % 2)) + ((i / 8) % 2))) + (nI ((i / 16) % 2))) : Int32) = nI (((((0 + (i % 2)) + ((i / 2) % 2)) + ((i / 4) % 2)) + ((i / 8) % 2)) + ((i / 16) % 2)) from nI_add ((((0 + (i % 2)) + ((i / 2) % 2)) + ((i / 4) % 2)) + ((i / 8) % 2)) ((i / 16) % 2)) ?_
      refine r_iast X hW (hM.2.1 2 (by decide)) (show vp_in ((nI i)) 32 from vp_in_nI (n := i) (by omega) (by decide)) dX7_init_144 (fun hp_196 H locs hW eh_197 => ?_)
      have hM := mr_ar hM 2 (by decide) eh_197
      refine lv_aload_n X.1 X.2.1 dX7_init_145 rfl (lv_at hl 1 rfl) ?_
      refine r_get X hW.1 hM.1 (v := .ref (M 4)) (C := RX7) (T := TX7) (N := 19) rfl tin_X7 4 (by decide) tw_847 (fun _ h => h) rfl dX7_init_146 ?_
      refine lv_iload_n X.1 X.2.1 dX7_init_149 rfl (lv_at hl 2 rfl) ?_
      refine lv_dup2_11 X.1 X.2.1 dX7_init_150 rfl rfl ?_
      refine r_iald X hW.1 (hM.2.1 3 (by decide)) (show vp_in ((nI i)) 32 from vp_in_nI (n := i) (by omega) (by decide)) dX7_init_151 ?_
      refine r_eqi (show (((upd (upd (upd (upd g3 (nI i).toNatClampNeg (nI (0 + ((i % 2) * 0)))) (nI i).toNatClampNeg (nI ((0 + ((i % 2) * 0)) + (((i / 2) % 2) * 1)))) (nI i).toNatClampNeg (nI (((0 + ((i % 2) * 0)) + (((i / 2) % 2) * 1)) + (((i / 4) % 2) * 2)))) (nI i).toNatClampNeg (nI ((((0 + ((i % 2) * 0)) + (((i / 2) % 2) * 1)) + (((i / 4) % 2) * 2)) + (((i / 8) % 2) * 3)))) (nI i).toNatClampNeg) : Int32) = (nI ((((0 + ((i % 2) * 0)) + (((i / 2) % 2) * 1)) + (((i / 4) % 2) * 2)) + (((i / 8) % 2) * 3))) from if_pos rfl) ?_
      refine lv_iload_n X.1 X.2.1 dX7_init_152 rfl (lv_at hl 2 rfl) ?_
      refine lv_iload_n X.1 X.2.1 dX7_init_153 rfl (lv_at hl 0 rfl) ?_
      refine lv_ishr X.1 X.2.1 dX7_init_154 ?_
      refine r_eqi (show (((nI i) >>> (4 &&& 31)) : Int32) = nI (i / 16) from pk_shrN (n := i) (by omega) _ 4 (by decide)) ?_
      refine lv_iconst (v := 1) X.1 X.2.1 dX7_init_155 (by decide) ?_
      refine lv_iand X.1 X.2.1 dX7_init_156 ?_
      refine r_eqi (show (((nI (i / 16)) &&& 1) : Int32) = nI ((i / 16) % 2) from n_and1 (i / 16)) ?_
      refine lv_iload_n X.1 X.2.1 dX7_init_157 rfl (lv_at hl 0 rfl) ?_
      refine lv_imul X.1 X.2.1 dX7_init_158 ?_
      refine r_eqi (show (((nI ((i / 16) % 2)) * 4) : Int32) = nI (((i / 16) % 2) * 4) from pk_mul ((i / 16) % 2) 4) ?_
      refine lv_iadd X.1 X.2.1 dX7_init_159 ?_
      refine r_eqi (show (((nI ((((0 + ((i % 2) * 0)) + (((i / 2) % 2) * 1)) + (((i / 4) % 2) * 2)) + (((i / 8) % 2) * 3))) + (nI (((i / 16) % 2) * 4))) : Int32) = nI (((((0 + ((i % 2) * 0)) + (((i / 2) % 2) * 1)) + (((i / 4) % 2) * 2)) + (((i / 8) % 2) * 3)) + (((i / 16) % 2) * 4)) from nI_add ((((0 + ((i % 2) * 0)) + (((i / 2) % 2) * 1)) + (((i / 4) % 2) * 2)) + (((i / 8) % 2) * 3)) (((i / 16) % 2) * 4)) ?_
      refine r_iast X hW (hM.2.1 3 (by decide)) (show vp_in ((nI i)) 32 from vp_in_nI (n := i) (by omega) (by decide)) dX7_init_160 (fun hp_198 H locs hW eh_199 => ?_)
      have hM := mr_ar hM 3 (by decide) eh_199
      refine lv_iinc (v := 5) (lv' := [(2, .int 5), (0, .ref (M 0)), (1, .int (nI i))]) X.1 X.2.1 dX7_init_161 hl (k := 0) rfl (by decide) (by decide) rfl (fun ls hl => ?_)
      refine lv_goto (tgt := 126) X.1 X.2.1 dX7_init_164 (by decide) ?_
      refine lv_iload_n X.1 X.2.1 dX7_init_126 rfl (lv_at hl 0 rfl) ?_
      refine lv_iconst (v := 5) X.1 X.2.1 dX7_init_127 (by decide) ?_
      refine lv_icmp_ge (tgt := 167) X.1 X.2.1 dX7_init_128 (by decide) (fun c_128 => ?_) (fun c_128 => absurd (by decide) c_128)
      refine lv_iinc (v := (nI (i + 1))) (lv' := [(1, .int (nI (i + 1))), (2, .int 5), (0, .ref (M 0))]) X.1 X.2.1 dX7_init_167 hl (k := 2) rfl (nI_add i 1) (by decide) rfl (fun ls hl => ?_)
      refine lv_goto (tgt := 118) X.1 X.2.1 dX7_init_170 (by decide) ?_
      exact ih (i + 1) _ _ _ (upd (upd (upd (upd (upd g2 (nI i).toNatClampNeg (nI (0 + (i % 2)))) (nI i).toNatClampNeg (nI ((0 + (i % 2)) + ((i / 2) % 2)))) (nI i).toNatClampNeg (nI (((0 + (i % 2)) + ((i / 2) % 2)) + ((i / 4) % 2)))) (nI i).toNatClampNeg (nI ((((0 + (i % 2)) + ((i / 2) % 2)) + ((i / 4) % 2)) + ((i / 8) % 2)))) (nI i).toNatClampNeg (nI (((((0 + (i % 2)) + ((i / 2) % 2)) + ((i / 4) % 2)) + ((i / 8) % 2)) + ((i / 16) % 2)))) (upd (upd (upd (upd (upd g3 (nI i).toNatClampNeg (nI (0 + ((i % 2) * 0)))) (nI i).toNatClampNeg (nI ((0 + ((i % 2) * 0)) + (((i / 2) % 2) * 1)))) (nI i).toNatClampNeg (nI (((0 + ((i % 2) * 0)) + (((i / 2) % 2) * 1)) + (((i / 4) % 2) * 2)))) (nI i).toNatClampNeg (nI ((((0 + ((i % 2) * 0)) + (((i / 2) % 2) * 1)) + (((i / 4) % 2) * 2)) + (((i / 8) % 2) * 3)))) (nI i).toNatClampNeg (nI (((((0 + ((i % 2) * 0)) + (((i / 2) % 2) * 1)) + (((i / 4) % 2) * 2)) + (((i / 8) % 2) * 3)) + (((i / 16) % 2) * 4)))) (mr_cg hM (fun _ => rfl) (fun j => by by_cases h2 : j = 2 <;> by_cases h3 : j = 3 <;> simp [va_up, h2, h3])) hW (by omega) (tb_step h1 (by rw [nI_clamp (by omega)]; exact (if_pos rfl).trans (congrArg nI (by unfold pc5; omega))) (fun j hj => by rw [nI_clamp (by omega)]; unfold upd; rw [if_neg hj, if_neg hj, if_neg hj, if_neg hj, if_neg hj])) (tb_step h2 (by rw [nI_clamp (by omega)]; exact (if_pos rfl).trans (congrArg nI (by unfold st5; omega))) (fun j hj => by rw [nI_clamp (by omega)]; unfold upd; rw [if_neg hj, if_neg hj, if_neg hj, if_neg hj, if_neg hj])) ls (lv_sub hl [2, 0] rfl)
  exact L118 32 0 _ _ _ (fun _ => 0) (fun _ => 0) (mr_cg hM (fun _ => rfl) (fun j => by by_cases h2 : j = 2 <;> by_cases h3 : j = 3 <;> simp [va_up, h2, h3])) hW rfl (fun j _ => by rw [if_neg (Nat.not_lt_zero j)]) (fun j _ => by rw [if_neg (Nat.not_lt_zero j)]) ls (lv_sub hl [1, 0] rfl)

