/-! the component: cells of rules, positions, made calls -/
/-- least and greatest measures of a rule, packed -/
def loP (q : Nat → Nat) : Nat := q 4 + 64 * q 6 + 4096 * q 8 + 262144 * q 10 + 16777216 * q 12
def hiP (q : Nat → Nat) : Nat := q 5 + 64 * q 7 + 4096 * q 9 + 262144 * q 11 + 16777216 * q 13
def rcE (q : Nat → Nat) : va_E := .inr (5, [.int (nI (q 0)), .int (nI (q 1)), .int (nI (q 2)), .int (nI (q 3)), .int (nI (loP q)), .int (nI (hiP q))])
def poE (st la fo : Int32) : va_E := .inr (4, [.int st, .int la, .int fo])
def mcE (ca ru : Int32) (b : Nat) : va_E := .inr (3, [.int ca, .int ru, .ref b])
set_option maxHeartbeats 4000000 in
set_option maxRecDepth 100000 in
theorem c_X3_init (l : Launch) (G : HG) (A : Nat → Prop) (hp : HP) (sz : Nat) (hA : ∀ q, sz ≤ q → A q) (hO : Ow A hp) (b9 : Nat) (st la fo : Int32) (hb9 : hp b9 = some (.inr (4, [.int 0, .int 0, .int 0]))) : Met l yX3_init [.code yX3_init cX3_init 4 none] { frames := 1, cells := 0, slots := 0, locals := 12 } (va_Pc [.ref b9, .int st, .int la, .int fo] (WP G A sz hp)) (va_Qv (fun hp1 => hp1 = va_up hp b9 (some (poE st la fo))) (WB G A) A) 0 0 A := by
  refine wr_ofW (by decide) (Nat.le_of_ble_eq_true rfl) hO ?_
  intro p e s m args below meth c ls X hr hlk hnm hsz hW hl
  have hA : ∀ q, s.heap.size ≤ q → A q := fun q h => hA q (by omega)
  have hl : lv_has ls 4 [(0, .ref b9), (1, .int st), (2, .int la), (3, .int fo)] := hl
  refine lv_aload_n X.1 X.2.1 dX3_init_0 rfl (lv_at hl 0 rfl) ?_
  refine W.objInit X.1 X.2.1 X.2.2.2.1 (tb_all X.2.2.2.2.1 _ tw_82) (tb_all X.2.2.2.2.1 _ tw_41) (tb_all X.2.2.2.2.1 _ tw_objinit) rfl (by rw [X.2.2.1]; exact hl.1) rfl dX3_init_1 (Nat.le_of_ble_eq_true rfl) (Nat.le_of_ble_eq_true rfl) ?_
  refine W.eq (g2 := F0 m 4 ls []) rfl ?_
  refine lv_aload_n X.1 X.2.1 dX3_init_4 rfl (lv_at hl 0 rfl) ?_
  refine lv_iload_n X.1 X.2.1 dX3_init_5 rfl (lv_at hl 1 rfl) ?_
  refine r_putF X hW hb9 (v := .int st) (C := RX3) (T := TX3) (N := 3) rfl tin_X3 tyX3_ok nmX3 0 (Nat.le_of_ble_eq_true rfl) tw_83 (fun _ h => h) rfl hnm rfl rfl rfl (Nat.le_of_ble_eq_true rfl) dX3_init_6 (fun hp_1 H locs hW eh_2 => ?_)
  have f_3 : hp_1 b9 = some (.inr (4, [.int st, .int 0, .int 0])) := by rw [eh_2]; exact va_up_self _ _ _
  refine lv_aload_n X.1 X.2.1 dX3_init_9 rfl (lv_at hl 0 rfl) ?_
  refine lv_iload_n X.1 X.2.1 dX3_init_10 rfl (lv_at hl 2 rfl) ?_
  refine r_putF X hW f_3 (v := .int la) (C := RX3) (T := TX3) (N := 3) rfl tin_X3 tyX3_ok nmX3 1 (Nat.le_of_ble_eq_true rfl) tw_87 (fun _ h => h) rfl hnm rfl rfl rfl (Nat.le_of_ble_eq_true rfl) dX3_init_11 (fun hp_4 H locs hW eh_5 => ?_)
  have f_6 : hp_4 b9 = some (.inr (4, [.int st, .int la, .int 0])) := by rw [eh_5]; exact va_up_self _ _ _
  refine lv_aload_n X.1 X.2.1 dX3_init_14 rfl (lv_at hl 0 rfl) ?_
  refine lv_iload_n X.1 X.2.1 dX3_init_15 rfl (lv_at hl 3 rfl) ?_
  refine r_putF X hW f_6 (v := .int fo) (C := RX3) (T := TX3) (N := 3) rfl tin_X3 tyX3_ok nmX3 2 (Nat.le_of_ble_eq_true rfl) tw_90 (fun _ h => h) rfl hnm rfl rfl rfl (Nat.le_of_ble_eq_true rfl) dX3_init_16 (fun hp_7 H locs hW eh_8 => ?_)
  have f_9 : hp_7 b9 = some (.inr (4, [.int st, .int la, .int fo])) := by rw [eh_8]; exact va_up_self _ _ _
  exact wr_v X hr hlk hW (by rw [eh_8, eh_5, eh_2, va_uu, va_uu] <;> rfl) (Nat.le_of_ble_eq_true rfl) (Nat.le_of_ble_eq_true rfl) dX3_init_19

set_option maxHeartbeats 4000000 in
set_option maxRecDepth 100000 in
theorem c_X2_init (l : Launch) (G : HG) (A : Nat → Prop) (hp : HP) (sz : Nat) (hA : ∀ q, sz ≤ q → A q) (hO : Ow A hp) (b9 : Nat) (ca ru : Int32) (p9 : Nat) (hb9 : hp b9 = some (.inr (3, [.int 0, .int 0, .null]))) : Met l yX2_init [.code yX2_init cX2_init 4 none] { frames := 1, cells := 0, slots := 0, locals := 12 } (va_Pc [.ref b9, .int ca, .int ru, .ref p9] (WP G A sz hp)) (va_Qv (fun hp1 => hp1 = va_up hp b9 (some (mcE ca ru p9))) (WB G A) A) 0 0 A := by
  refine wr_ofW (by decide) (Nat.le_of_ble_eq_true rfl) hO ?_
  intro p e s m args below meth c ls X hr hlk hnm hsz hW hl
  have hA : ∀ q, s.heap.size ≤ q → A q := fun q h => hA q (by omega)
  have hl : lv_has ls 4 [(0, .ref b9), (1, .int ca), (2, .int ru), (3, .ref p9)] := hl
  refine lv_aload_n X.1 X.2.1 dX2_init_0 rfl (lv_at hl 0 rfl) ?_
  refine W.objInit X.1 X.2.1 X.2.2.2.1 (tb_all X.2.2.2.2.1 _ tw_495) (tb_all X.2.2.2.2.1 _ tw_41) (tb_all X.2.2.2.2.1 _ tw_objinit) rfl (by rw [X.2.2.1]; exact hl.1) rfl dX2_init_1 (Nat.le_of_ble_eq_true rfl) (Nat.le_of_ble_eq_true rfl) ?_
  refine W.eq (g2 := F0 m 4 ls []) rfl ?_
  refine lv_aload_n X.1 X.2.1 dX2_init_4 rfl (lv_at hl 0 rfl) ?_
  refine lv_iload_n X.1 X.2.1 dX2_init_5 rfl (lv_at hl 1 rfl) ?_
  refine r_putF X hW hb9 (v := .int ca) (C := RX2) (T := TX2) (N := 3) rfl tin_X2 tyX2_ok nmX2 0 (Nat.le_of_ble_eq_true rfl) tw_496 (fun _ h => h) rfl hnm rfl rfl rfl (Nat.le_of_ble_eq_true rfl) dX2_init_6 (fun hp_1 H locs hW eh_2 => ?_)
  have f_3 : hp_1 b9 = some (.inr (3, [.int ca, .int 0, .null])) := by rw [eh_2]; exact va_up_self _ _ _
  refine lv_aload_n X.1 X.2.1 dX2_init_9 rfl (lv_at hl 0 rfl) ?_
  refine lv_iload_n X.1 X.2.1 dX2_init_10 rfl (lv_at hl 2 rfl) ?_
  refine r_putF X hW f_3 (v := .int ru) (C := RX2) (T := TX2) (N := 3) rfl tin_X2 tyX2_ok nmX2 1 (Nat.le_of_ble_eq_true rfl) tw_498 (fun _ h => h) rfl hnm rfl rfl rfl (Nat.le_of_ble_eq_true rfl) dX2_init_11 (fun hp_4 H locs hW eh_5 => ?_)
  have f_6 : hp_4 b9 = some (.inr (3, [.int ca, .int ru, .null])) := by rw [eh_5]; exact va_up_self _ _ _
  refine lv_aload_n X.1 X.2.1 dX2_init_14 rfl (lv_at hl 0 rfl) ?_
  refine lv_aload_n X.1 X.2.1 dX2_init_15 rfl (lv_at hl 3 rfl) ?_
  refine r_putF X hW f_6 (v := .ref p9) (C := RX2) (T := TX2) (N := 3) rfl tin_X2 tyX2_ok nmX2 2 (Nat.le_of_ble_eq_true rfl) tw_500 (fun _ h => h) rfl hnm rfl rfl rfl (Nat.le_of_ble_eq_true rfl) dX2_init_16 (fun hp_7 H locs hW eh_8 => ?_)
  have f_9 : hp_7 b9 = some (.inr (3, [.int ca, .int ru, .ref p9])) := by rw [eh_8]; exact va_up_self _ _ _
  exact wr_v X hr hlk hW (by rw [eh_8, eh_5, eh_2, va_uu, va_uu] <;> rfl) (Nat.le_of_ble_eq_true rfl) (Nat.le_of_ble_eq_true rfl) dX2_init_19

set_option maxHeartbeats 4000000 in
set_option maxRecDepth 100000 in
theorem c_X4_init (l : Launch) (G : HG) (A : Nat → Prop) (hp : HP) (sz : Nat) (hA : ∀ q, sz ≤ q → A q) (hO : Ow A hp) (b9 : Nat) (st ca nx fo : Int32) (hb9 : hp b9 = some (.inr (5, [.int 0, .int 0, .int 0, .int 0, .int 0, .int 0]))) : Met l yX4_init [.code yX4_init cX4_init 5 none] { frames := 1, cells := 0, slots := 0, locals := 12 } (va_Pc [.ref b9, .int st, .int ca, .int nx, .int fo] (WP G A sz hp)) (va_Qv (fun hp1 => hp1 = va_up hp b9 (some (.inr (5, [.int st, .int ca, .int nx, .int fo, .int 0, .int 336875845])))) (WB G A) A) 0 0 A := by
  refine wr_ofW (by decide) (Nat.le_of_ble_eq_true rfl) hO ?_
  intro p e s m args below meth c ls X hr hlk hnm hsz hW hl
  have hA : ∀ q, s.heap.size ≤ q → A q := fun q h => hA q (by omega)
  have hl : lv_has ls 5 [(0, .ref b9), (1, .int st), (2, .int ca), (3, .int nx), (4, .int fo)] := hl
  refine lv_aload_n X.1 X.2.1 dX4_init_0 rfl (lv_at hl 0 rfl) ?_
  refine W.objInit X.1 X.2.1 X.2.2.2.1 (tb_all X.2.2.2.2.1 _ tw_358) (tb_all X.2.2.2.2.1 _ tw_41) (tb_all X.2.2.2.2.1 _ tw_objinit) rfl (by rw [X.2.2.1]; exact hl.1) rfl dX4_init_1 (Nat.le_of_ble_eq_true rfl) (Nat.le_of_ble_eq_true rfl) ?_
  refine W.eq (g2 := F0 m 4 ls []) rfl ?_
  refine lv_aload_n X.1 X.2.1 dX4_init_4 rfl (lv_at hl 0 rfl) ?_
  refine lv_iconst (v := 0) X.1 X.2.1 dX4_init_5 (by decide) ?_
  refine r_put X hW hb9 (v := .int 0) (C := RX4) (T := TX4) (N := 6) rfl tin_X4 tyX4_ok nmX4 4 (Nat.le_of_ble_eq_true rfl) tw_369 (fun _ h => h) rfl rfl rfl (Nat.le_of_ble_eq_true rfl) dX4_init_6 (fun hp_1 H locs hW eh_2 => ?_)
  have f_3 : hp_1 b9 = some (.inr (5, [.int 0, .int 0, .int 0, .int 0, .int 0, .int 0])) := by rw [eh_2]; exact va_up_self _ _ _
  refine lv_aload_n X.1 X.2.1 dX4_init_9 rfl (lv_at hl 0 rfl) ?_
  refine r_const X tw_359 dX4_init_10 ?_
  refine r_put X hW f_3 (v := .int 336875845) (C := RX4) (T := TX4) (N := 6) rfl tin_X4 tyX4_ok nmX4 5 (Nat.le_of_ble_eq_true rfl) tw_370 (fun _ h => h) rfl rfl rfl (Nat.le_of_ble_eq_true rfl) dX4_init_12 (fun hp_4 H locs hW eh_5 => ?_)
  have f_6 : hp_4 b9 = some (.inr (5, [.int 0, .int 0, .int 0, .int 0, .int 0, .int 336875845])) := by rw [eh_5]; exact va_up_self _ _ _
  refine lv_aload_n X.1 X.2.1 dX4_init_15 rfl (lv_at hl 0 rfl) ?_
  refine lv_iload_n X.1 X.2.1 dX4_init_16 rfl (lv_at hl 1 rfl) ?_
  refine r_put X hW f_6 (v := .int st) (C := RX4) (T := TX4) (N := 6) rfl tin_X4 tyX4_ok nmX4 0 (Nat.le_of_ble_eq_true rfl) tw_360 (fun _ h => h) rfl rfl rfl (Nat.le_of_ble_eq_true rfl) dX4_init_17 (fun hp_7 H locs hW eh_8 => ?_)
  have f_9 : hp_7 b9 = some (.inr (5, [.int st, .int 0, .int 0, .int 0, .int 0, .int 336875845])) := by rw [eh_8]; exact va_up_self _ _ _
  refine lv_aload_n X.1 X.2.1 dX4_init_20 rfl (lv_at hl 0 rfl) ?_
  refine lv_iload_n X.1 X.2.1 dX4_init_21 rfl (lv_at hl 2 rfl) ?_
  refine r_put X hW f_9 (v := .int ca) (C := RX4) (T := TX4) (N := 6) rfl tin_X4 tyX4_ok nmX4 1 (Nat.le_of_ble_eq_true rfl) tw_362 (fun _ h => h) rfl rfl rfl (Nat.le_of_ble_eq_true rfl) dX4_init_22 (fun hp_10 H locs hW eh_11 => ?_)
  have f_12 : hp_10 b9 = some (.inr (5, [.int st, .int ca, .int 0, .int 0, .int 0, .int 336875845])) := by rw [eh_11]; exact va_up_self _ _ _
  refine lv_aload_n X.1 X.2.1 dX4_init_25 rfl (lv_at hl 0 rfl) ?_
  refine lv_iload_n X.1 X.2.1 dX4_init_26 rfl (lv_at hl 3 rfl) ?_
  refine r_put X hW f_12 (v := .int nx) (C := RX4) (T := TX4) (N := 6) rfl tin_X4 tyX4_ok nmX4 2 (Nat.le_of_ble_eq_true rfl) tw_365 (fun _ h => h) rfl rfl rfl (Nat.le_of_ble_eq_true rfl) dX4_init_27 (fun hp_13 H locs hW eh_14 => ?_)
  have f_15 : hp_13 b9 = some (.inr (5, [.int st, .int ca, .int nx, .int 0, .int 0, .int 336875845])) := by rw [eh_14]; exact va_up_self _ _ _
  refine lv_aload_n X.1 X.2.1 dX4_init_30 rfl (lv_at hl 0 rfl) ?_
  refine lv_iload X.1 X.2.1 dX4_init_31 (lv_at hl 4 rfl) ?_
  refine r_put X hW f_15 (v := .int fo) (C := RX4) (T := TX4) (N := 6) rfl tin_X4 tyX4_ok nmX4 3 (Nat.le_of_ble_eq_true rfl) tw_367 (fun _ h => h) rfl rfl rfl (Nat.le_of_ble_eq_true rfl) dX4_init_33 (fun hp_16 H locs hW eh_17 => ?_)
  have f_18 : hp_16 b9 = some (.inr (5, [.int st, .int ca, .int nx, .int fo, .int 0, .int 336875845])) := by rw [eh_17]; exact va_up_self _ _ _
  exact wr_v X hr hlk hW (by rw [eh_17, eh_14, eh_11, eh_8, eh_5, eh_2, va_uu, va_uu, va_uu, va_uu, va_uu] <;> rfl) (Nat.le_of_ble_eq_true rfl) (Nat.le_of_ble_eq_true rfl) dX4_init_36

set_option maxHeartbeats 4000000 in
set_option maxRecDepth 100000 in
theorem c_X4_isOpen (l : Launch) (G : HG) (hp : HP) (r9 p9 : Nat) (q : Nat → Nat) (hq : ∀ j, j < 14 → q j ≤ 25) (st la fo : Int32) (hr9 : hp r9 = some (rcE q)) (hp9 : hp p9 = some (poE st la fo)) : Met l yX4_isOpen [.code yX4_isOpen cX4_isOpen 2 (some .boolean)] { frames := 0, cells := 0, slots := 0, locals := 0 } (va_Pc [.ref r9, .ref p9] (RP G hp)) (vp_Si (fun r => r = bI (opB q st la fo))) 0 0 (fun _ => False) := by
  refine ro_ofW (by decide) (Nat.le_of_ble_eq_true rfl) ?_
  intro p e s m args below meth c ls X hr hlk hH hl
  have hS : va_S (fun _ => False) s.heap s.heap [] := va_S.rf
  have hl : lv_has ls 2 [(0, .ref r9), (1, .ref p9)] := hl
  have hq1 := hq 1 (by decide)
  refine lv_aload_n X.1 X.2.1 dX4_isOpen_0 rfl (lv_at hl 0 rfl) ?_
  refine r_get X hH hr9 (v := .int (nI (q 0))) (C := RX4) (T := TX4) (N := 6) rfl tin_X4 0 (by decide) tw_360 (fun _ h => h) rfl dX4_isOpen_1 ?_
  refine lv_aload_n X.1 X.2.1 dX4_isOpen_4 rfl (lv_at hl 1 rfl) ?_
  refine r_getN X hH hp9 (v := .int st) (C := RX3) (T := TX3) (N := 3) rfl tin_X3 0 (by decide) tw_85 (fun _ h => h) rfl dX4_isOpen_5 ?_
  refine lv_icmp_eq (tgt := 13) X.1 X.2.1 dX4_isOpen_8 (by decide) (fun c_8 => ?_) (fun c_8 => ?_)
  · refine lv_aload_n X.1 X.2.1 dX4_isOpen_13 rfl (lv_at hl 0 rfl) ?_
    refine r_get X hH hr9 (v := .int (nI (q 1))) (C := RX4) (T := TX4) (N := 6) rfl tin_X4 1 (by decide) tw_362 (fun _ h => h) rfl dX4_isOpen_14 ?_
    refine lv_bipush (v := 25) X.1 X.2.1 dX4_isOpen_17 (by decide) ?_
    refine lv_icmp_ne (tgt := 37) X.1 X.2.1 dX4_isOpen_19 (by decide) (fun c_19 => ?_) (fun c_19 => ?_)
    · have k_19 := k_ne (a := (q 1)) (b := 25) (by omega) (by omega) c_19
      refine lv_aload_n X.1 X.2.1 dX4_isOpen_37 rfl (lv_at hl 0 rfl) ?_
      refine r_get X hH hr9 (v := .int (nI (q 1))) (C := RX4) (T := TX4) (N := 6) rfl tin_X4 1 (by decide) tw_362 (fun _ h => h) rfl dX4_isOpen_38 ?_
      refine lv_aload_n X.1 X.2.1 dX4_isOpen_41 rfl (lv_at hl 1 rfl) ?_
      refine r_getN X hH hp9 (v := .int la) (C := RX3) (T := TX3) (N := 3) rfl tin_X3 1 (by decide) tw_88 (fun _ h => h) rfl dX4_isOpen_42 ?_
      refine lv_icmp_le (tgt := 52) X.1 X.2.1 dX4_isOpen_45 (by decide) (fun c_45 => ?_) (fun c_45 => ?_)
      · refine lv_iconst (v := 0) X.1 X.2.1 dX4_isOpen_52 (by decide) ?_
        exact ro_z X hr hlk rfl (by show (_ : Int32) = bI _; unfold opB; rw [decide_eq_true c_8]; rw [if_neg k_19]; rw [decide_eq_false (Int32.not_lt.mpr c_45)]; rfl) dX4_isOpen_53
      · refine lv_iconst (v := 1) X.1 X.2.1 dX4_isOpen_48 (by decide) ?_
        refine lv_goto (tgt := 53) X.1 X.2.1 dX4_isOpen_49 (by decide) ?_
        exact ro_z X hr hlk rfl (by show (_ : Int32) = bI _; unfold opB; rw [decide_eq_true c_8]; rw [if_neg k_19]; rw [decide_eq_true (Int32.not_le.mp c_45)]; rfl) dX4_isOpen_53
    · have k_19 := k_eq (a := (q 1)) (b := 25) (by omega) (by omega) c_19
      refine lv_aload_n X.1 X.2.1 dX4_isOpen_22 rfl (lv_at hl 1 rfl) ?_
      refine r_getN X hH hp9 (v := .int fo) (C := RX3) (T := TX3) (N := 3) rfl tin_X3 2 (by decide) tw_92 (fun _ h => h) rfl dX4_isOpen_23 ?_
      refine lv_if_ne (tgt := 33) X.1 X.2.1 dX4_isOpen_26 (by decide) (fun c_26 => ?_) (fun c_26 => ?_)
      · refine lv_iconst (v := 0) X.1 X.2.1 dX4_isOpen_33 (by decide) ?_
        refine lv_goto (tgt := 53) X.1 X.2.1 dX4_isOpen_34 (by decide) ?_
        exact ro_z X hr hlk rfl (by show (_ : Int32) = bI _; unfold opB; rw [decide_eq_true c_8]; rw [if_pos k_19]; rw [decide_eq_false c_26]; rfl) dX4_isOpen_53
      · refine lv_iconst (v := 1) X.1 X.2.1 dX4_isOpen_29 (by decide) ?_
        refine lv_goto (tgt := 53) X.1 X.2.1 dX4_isOpen_30 (by decide) ?_
        exact ro_z X hr hlk rfl (by show (_ : Int32) = bI _; unfold opB; rw [decide_eq_true c_8]; rw [if_pos k_19]; rw [decide_eq_true c_26]; rfl) dX4_isOpen_53
  · refine lv_iconst (v := 0) X.1 X.2.1 dX4_isOpen_11 (by decide) ?_
    exact ro_z X hr hlk rfl (by show (_ : Int32) = bI _; unfold opB; rw [decide_eq_false c_8]; rfl) dX4_isOpen_12

def mcN (ca ru st fo w : Int32) : Int32 := if w = 0 then ca else if w = 1 then ru else if w = 2 then st else fo
set_option maxHeartbeats 4000000 in
set_option maxRecDepth 100000 in
theorem c_X2_number (l : Launch) (G : HG) (hp : HP) (b9 p9 : Nat) (ca ru st la fo w9 : Int32) (hb9 : hp b9 = some (mcE ca ru p9)) (hp9 : hp p9 = some (poE st la fo)) : Met l yX2_number [.code yX2_number cX2_number 2 (some .int)] { frames := 0, cells := 0, slots := 0, locals := 0 } (va_Pc [.ref b9, .int w9] (RP G hp)) (vp_Si (fun r => r = mcN ca ru st fo w9)) 0 0 (fun _ => False) := by
  refine ro_ofW (by decide) (Nat.le_of_ble_eq_true rfl) ?_
  intro p e s m args below meth c ls X hr hlk hH hl
  have hS : va_S (fun _ => False) s.heap s.heap [] := va_S.rf
  have hl : lv_has ls 2 [(0, .ref b9), (1, .int w9)] := hl
  refine lv_iload_n X.1 X.2.1 dX2_number_0 rfl (lv_at hl 1 rfl) ?_
  refine (Decidable.em ((w9 : Int32) = 0)).elim (fun sw_1_0 => ?_) (fun sw_1_0 => ?_)
  · refine r_eqi sw_1_0 ?_
    refine lv_tableIn (off := 27) (tgt := 28) X.1 X.2.1 dX2_number_1 (by decide) (by decide) (by decide) (by decide) ?_
    refine lv_aload_n X.1 X.2.1 dX2_number_28 rfl (lv_at hl 0 rfl) ?_
    refine r_get X hH hb9 (v := .int ca) (C := RX2) (T := TX2) (N := 3) rfl tin_X2 0 (by decide) tw_496 (fun _ h => h) rfl dX2_number_29 ?_
    exact ro_i X hr hlk (by show (_ : Int32) = _; unfold mcN; rw [if_pos sw_1_0]) dX2_number_32
  · skip
    refine (Decidable.em ((w9 : Int32) = 1)).elim (fun sw_1_1 => ?_) (fun sw_1_1 => ?_)
    · refine r_eqi sw_1_1 ?_
      refine lv_tableIn (off := 32) (tgt := 33) X.1 X.2.1 dX2_number_1 (by decide) (by decide) (by decide) (by decide) ?_
      refine lv_aload_n X.1 X.2.1 dX2_number_33 rfl (lv_at hl 0 rfl) ?_
      refine r_get X hH hb9 (v := .int ru) (C := RX2) (T := TX2) (N := 3) rfl tin_X2 1 (by decide) tw_498 (fun _ h => h) rfl dX2_number_34 ?_
      exact ro_i X hr hlk (by show (_ : Int32) = _; unfold mcN; rw [if_neg sw_1_0, if_pos sw_1_1]) dX2_number_37
    · skip
      refine (Decidable.em ((w9 : Int32) = 2)).elim (fun sw_1_2 => ?_) (fun sw_1_2 => ?_)
      · refine r_eqi sw_1_2 ?_
        refine lv_tableIn (off := 37) (tgt := 38) X.1 X.2.1 dX2_number_1 (by decide) (by decide) (by decide) (by decide) ?_
        refine lv_aload_n X.1 X.2.1 dX2_number_38 rfl (lv_at hl 0 rfl) ?_
        refine r_get X hH hb9 (v := .ref p9) (C := RX2) (T := TX2) (N := 3) rfl tin_X2 2 (by decide) tw_500 (fun _ h => h) rfl dX2_number_39 ?_
        refine r_getN X hH hp9 (v := .int st) (C := RX3) (T := TX3) (N := 3) rfl tin_X3 0 (by decide) tw_84 (fun _ h => h) rfl dX2_number_42 ?_
        exact ro_i X hr hlk (by show (_ : Int32) = _; unfold mcN; rw [if_neg sw_1_0, if_neg sw_1_1, if_pos sw_1_2]) dX2_number_45
      · skip
        have sn_1_0 := lv_neT sw_1_0 (k := 0) (a := 0) (by decide)
        have sn_1_1 := lv_neT sw_1_1 (k := 1) (a := 1) (by decide)
        have sn_1_2 := lv_neT sw_1_2 (k := 2) (a := 2) (by decide)
        refine lv_tableOut (tgt := 46) X.1 X.2.1 dX2_number_1 (by omega) (by decide) ?_
        refine lv_aload_n X.1 X.2.1 dX2_number_46 rfl (lv_at hl 0 rfl) ?_
        refine r_get X hH hb9 (v := .ref p9) (C := RX2) (T := TX2) (N := 3) rfl tin_X2 2 (by decide) tw_500 (fun _ h => h) rfl dX2_number_47 ?_
        refine r_getN X hH hp9 (v := .int fo) (C := RX3) (T := TX3) (N := 3) rfl tin_X3 2 (by decide) tw_91 (fun _ h => h) rfl dX2_number_50 ?_
        exact ro_i X hr hlk (by show (_ : Int32) = _; unfold mcN; rw [if_neg sw_1_0, if_neg sw_1_1, if_neg sw_1_2]) dX2_number_53
