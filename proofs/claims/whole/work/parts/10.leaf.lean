/-- a number in a range, as an answer -/
def inI (a : Int32) (lo hi : Int) : Int32 := if lo ≤ a.toInt ∧ a.toInt ≤ hi then 1 else 0
theorem t_0 : (0 : Int32).toInt = 0 := by decide
theorem t_1 : (1 : Int32).toInt = 1 := by decide
theorem t_2 : (2 : Int32).toInt = 2 := by decide
theorem t_3 : (3 : Int32).toInt = 3 := by decide
theorem t_4 : (4 : Int32).toInt = 4 := by decide
theorem t_5 : (5 : Int32).toInt = 5 := by decide
theorem t_7 : (7 : Int32).toInt = 7 := by decide
theorem t_8 : (8 : Int32).toInt = 8 := by decide
theorem t_9 : (9 : Int32).toInt = 9 := by decide
theorem t_10 : (10 : Int32).toInt = 10 := by decide
theorem t_11 : (11 : Int32).toInt = 11 := by decide
theorem t_12 : (12 : Int32).toInt = 12 := by decide
theorem t_13 : (13 : Int32).toInt = 13 := by decide
theorem t_20 : (20 : Int32).toInt = 20 := by decide
theorem t_24 : (24 : Int32).toInt = 24 := by decide
theorem t_25 : (25 : Int32).toInt = 25 := by decide
theorem t_31 : (31 : Int32).toInt = 31 := by decide
theorem t_32 : (32 : Int32).toInt = 32 := by decide
theorem t_33 : (33 : Int32).toInt = 33 := by decide
theorem t_57 : (57 : Int32).toInt = 57 := by decide
theorem t_60 : (60 : Int32).toInt = 60 := by decide
theorem t_126 : (126 : Int32).toInt = 126 := by decide
theorem t_255 : (255 : Int32).toInt = 255 := by decide
theorem t_1048575 : (1048575 : Int32).toInt = 1048575 := by decide
theorem t_65535 : (65535 : Int32).toInt = 65535 := by decide
theorem t_65536 : (65536 : Int32).toInt = 65536 := by decide
theorem t_m1 : (-1 : Int32).toInt = -1 := by decide
theorem t_m6 : (-6 : Int32).toInt = -6 := by decide
set_option maxHeartbeats 4000000 in
set_option maxRecDepth 100000 in
theorem c_X6_isState (l : Launch) (G : HG) (hp : HP) (a : Int32) : Met l yX6_isState [.code yX6_isState cX6_isState 1 (some .boolean)] { frames := 0, cells := 0, slots := 0, locals := 0 } (va_Pc [.int a] (RP G hp)) (vp_Si (fun r => r = inI a 0 7)) 0 0 (fun _ => False) := by
  refine ro_ofW (by decide) (Nat.le_of_ble_eq_true rfl) ?_
  intro p e s m args below meth c ls X hr hlk hH hl
  have hS : va_S (fun _ => False) s.heap s.heap [] := va_S.rf
  have hl : lv_has ls 1 [(0, .int a)] := hl
  refine lv_iload_n X.1 X.2.1 dX6_isState_0 rfl (lv_at hl 0 rfl) ?_
  refine lv_if_lt (tgt := 14) X.1 X.2.1 dX6_isState_1 (by decide) (fun c_1 => ?_) (fun c_1 => ?_)
  · refine lv_iconst (v := 0) X.1 X.2.1 dX6_isState_14 (by decide) ?_
    exact ro_z X hr hlk rfl (by show (_ : Int32) = _; simp only [inI, Int32.lt_iff_toInt_lt, Int32.le_iff_toInt_le, ← Int32.toInt_inj, GE.ge, GT.gt, t_0, t_1, t_2, t_3, t_4, t_5, t_7, t_8, t_9, t_10, t_11, t_12, t_13, t_20, t_24, t_25, t_31, t_32, t_33, t_57, t_60, t_126, t_255, t_1048575, t_65535, t_65536, t_m1, t_m6] at *; split <;> first | rfl | (exfalso; omega)) dX6_isState_15
  · refine lv_iload_n X.1 X.2.1 dX6_isState_4 rfl (lv_at hl 0 rfl) ?_
    refine lv_bipush (v := 7) X.1 X.2.1 dX6_isState_5 (by decide) ?_
    refine lv_icmp_gt (tgt := 14) X.1 X.2.1 dX6_isState_7 (by decide) (fun c_7 => ?_) (fun c_7 => ?_)
    · refine lv_iconst (v := 0) X.1 X.2.1 dX6_isState_14 (by decide) ?_
      exact ro_z X hr hlk rfl (by show (_ : Int32) = _; simp only [inI, Int32.lt_iff_toInt_lt, Int32.le_iff_toInt_le, ← Int32.toInt_inj, GE.ge, GT.gt, t_0, t_1, t_2, t_3, t_4, t_5, t_7, t_8, t_9, t_10, t_11, t_12, t_13, t_20, t_24, t_25, t_31, t_32, t_33, t_57, t_60, t_126, t_255, t_1048575, t_65535, t_65536, t_m1, t_m6] at *; split <;> first | rfl | (exfalso; omega)) dX6_isState_15
    · refine lv_iconst (v := 1) X.1 X.2.1 dX6_isState_10 (by decide) ?_
      refine lv_goto (tgt := 15) X.1 X.2.1 dX6_isState_11 (by decide) ?_
      exact ro_z X hr hlk rfl (by show (_ : Int32) = _; simp only [inI, Int32.lt_iff_toInt_lt, Int32.le_iff_toInt_le, ← Int32.toInt_inj, GE.ge, GT.gt, t_0, t_1, t_2, t_3, t_4, t_5, t_7, t_8, t_9, t_10, t_11, t_12, t_13, t_20, t_24, t_25, t_31, t_32, t_33, t_57, t_60, t_126, t_255, t_1048575, t_65535, t_65536, t_m1, t_m6] at *; split <;> first | rfl | (exfalso; omega)) dX6_isState_15

set_option maxHeartbeats 4000000 in
set_option maxRecDepth 100000 in
theorem c_X6_isCall (l : Launch) (G : HG) (hp : HP) (a : Int32) : Met l yX6_isCall [.code yX6_isCall cX6_isCall 1 (some .boolean)] { frames := 0, cells := 0, slots := 0, locals := 0 } (va_Pc [.int a] (RP G hp)) (vp_Si (fun r => r = inI a 0 25)) 0 0 (fun _ => False) := by
  refine ro_ofW (by decide) (Nat.le_of_ble_eq_true rfl) ?_
  intro p e s m args below meth c ls X hr hlk hH hl
  have hS : va_S (fun _ => False) s.heap s.heap [] := va_S.rf
  have hl : lv_has ls 1 [(0, .int a)] := hl
  refine lv_iload_n X.1 X.2.1 dX6_isCall_0 rfl (lv_at hl 0 rfl) ?_
  refine lv_if_lt (tgt := 14) X.1 X.2.1 dX6_isCall_1 (by decide) (fun c_1 => ?_) (fun c_1 => ?_)
  · refine lv_iconst (v := 0) X.1 X.2.1 dX6_isCall_14 (by decide) ?_
    exact ro_z X hr hlk rfl (by show (_ : Int32) = _; simp only [inI, Int32.lt_iff_toInt_lt, Int32.le_iff_toInt_le, ← Int32.toInt_inj, GE.ge, GT.gt, t_0, t_1, t_2, t_3, t_4, t_5, t_7, t_8, t_9, t_10, t_11, t_12, t_13, t_20, t_24, t_25, t_31, t_32, t_33, t_57, t_60, t_126, t_255, t_1048575, t_65535, t_65536, t_m1, t_m6] at *; split <;> first | rfl | (exfalso; omega)) dX6_isCall_15
  · refine lv_iload_n X.1 X.2.1 dX6_isCall_4 rfl (lv_at hl 0 rfl) ?_
    refine lv_bipush (v := 25) X.1 X.2.1 dX6_isCall_5 (by decide) ?_
    refine lv_icmp_gt (tgt := 14) X.1 X.2.1 dX6_isCall_7 (by decide) (fun c_7 => ?_) (fun c_7 => ?_)
    · refine lv_iconst (v := 0) X.1 X.2.1 dX6_isCall_14 (by decide) ?_
      exact ro_z X hr hlk rfl (by show (_ : Int32) = _; simp only [inI, Int32.lt_iff_toInt_lt, Int32.le_iff_toInt_le, ← Int32.toInt_inj, GE.ge, GT.gt, t_0, t_1, t_2, t_3, t_4, t_5, t_7, t_8, t_9, t_10, t_11, t_12, t_13, t_20, t_24, t_25, t_31, t_32, t_33, t_57, t_60, t_126, t_255, t_1048575, t_65535, t_65536, t_m1, t_m6] at *; split <;> first | rfl | (exfalso; omega)) dX6_isCall_15
    · refine lv_iconst (v := 1) X.1 X.2.1 dX6_isCall_10 (by decide) ?_
      refine lv_goto (tgt := 15) X.1 X.2.1 dX6_isCall_11 (by decide) ?_
      exact ro_z X hr hlk rfl (by show (_ : Int32) = _; simp only [inI, Int32.lt_iff_toInt_lt, Int32.le_iff_toInt_le, ← Int32.toInt_inj, GE.ge, GT.gt, t_0, t_1, t_2, t_3, t_4, t_5, t_7, t_8, t_9, t_10, t_11, t_12, t_13, t_20, t_24, t_25, t_31, t_32, t_33, t_57, t_60, t_126, t_255, t_1048575, t_65535, t_65536, t_m1, t_m6] at *; split <;> first | rfl | (exfalso; omega)) dX6_isCall_15

set_option maxHeartbeats 4000000 in
set_option maxRecDepth 100000 in
theorem c_X6_isPartner (l : Launch) (G : HG) (hp : HP) (a : Int32) : Met l yX6_isPartner [.code yX6_isPartner cX6_isPartner 1 (some .boolean)] { frames := 0, cells := 0, slots := 0, locals := 0 } (va_Pc [.int a] (RP G hp)) (vp_Si (fun r => r = inI a 0 1)) 0 0 (fun _ => False) := by
  refine ro_ofW (by decide) (Nat.le_of_ble_eq_true rfl) ?_
  intro p e s m args below meth c ls X hr hlk hH hl
  have hS : va_S (fun _ => False) s.heap s.heap [] := va_S.rf
  have hl : lv_has ls 1 [(0, .int a)] := hl
  refine lv_iload_n X.1 X.2.1 dX6_isPartner_0 rfl (lv_at hl 0 rfl) ?_
  refine lv_if_eq (tgt := 9) X.1 X.2.1 dX6_isPartner_1 (by decide) (fun c_1 => ?_) (fun c_1 => ?_)
  · refine lv_iconst (v := 1) X.1 X.2.1 dX6_isPartner_9 (by decide) ?_
    refine lv_goto (tgt := 14) X.1 X.2.1 dX6_isPartner_10 (by decide) ?_
    exact ro_z X hr hlk rfl (by show (_ : Int32) = _; simp only [inI, Int32.lt_iff_toInt_lt, Int32.le_iff_toInt_le, ← Int32.toInt_inj, GE.ge, GT.gt, t_0, t_1, t_2, t_3, t_4, t_5, t_7, t_8, t_9, t_10, t_11, t_12, t_13, t_20, t_24, t_25, t_31, t_32, t_33, t_57, t_60, t_126, t_255, t_1048575, t_65535, t_65536, t_m1, t_m6] at *; split <;> first | rfl | (exfalso; omega)) dX6_isPartner_14
  · refine lv_iload_n X.1 X.2.1 dX6_isPartner_4 rfl (lv_at hl 0 rfl) ?_
    refine lv_iconst (v := 1) X.1 X.2.1 dX6_isPartner_5 (by decide) ?_
    refine lv_icmp_ne (tgt := 13) X.1 X.2.1 dX6_isPartner_6 (by decide) (fun c_6 => ?_) (fun c_6 => ?_)
    · refine lv_iconst (v := 0) X.1 X.2.1 dX6_isPartner_13 (by decide) ?_
      exact ro_z X hr hlk rfl (by show (_ : Int32) = _; simp only [inI, Int32.lt_iff_toInt_lt, Int32.le_iff_toInt_le, ← Int32.toInt_inj, GE.ge, GT.gt, t_0, t_1, t_2, t_3, t_4, t_5, t_7, t_8, t_9, t_10, t_11, t_12, t_13, t_20, t_24, t_25, t_31, t_32, t_33, t_57, t_60, t_126, t_255, t_1048575, t_65535, t_65536, t_m1, t_m6] at *; split <;> first | rfl | (exfalso; omega)) dX6_isPartner_14
    · refine lv_iconst (v := 1) X.1 X.2.1 dX6_isPartner_9 (by decide) ?_
      refine lv_goto (tgt := 14) X.1 X.2.1 dX6_isPartner_10 (by decide) ?_
      exact ro_z X hr hlk rfl (by show (_ : Int32) = _; simp only [inI, Int32.lt_iff_toInt_lt, Int32.le_iff_toInt_le, ← Int32.toInt_inj, GE.ge, GT.gt, t_0, t_1, t_2, t_3, t_4, t_5, t_7, t_8, t_9, t_10, t_11, t_12, t_13, t_20, t_24, t_25, t_31, t_32, t_33, t_57, t_60, t_126, t_255, t_1048575, t_65535, t_65536, t_m1, t_m6] at *; split <;> first | rfl | (exfalso; omega)) dX6_isPartner_14

set_option maxHeartbeats 4000000 in
set_option maxRecDepth 100000 in
theorem c_X6_isFlag (l : Launch) (G : HG) (hp : HP) (a : Int32) : Met l yX6_isFlag [.code yX6_isFlag cX6_isFlag 1 (some .boolean)] { frames := 0, cells := 0, slots := 0, locals := 0 } (va_Pc [.int a] (RP G hp)) (vp_Si (fun r => r = inI a 0 1)) 0 0 (fun _ => False) := by
  refine ro_ofW (by decide) (Nat.le_of_ble_eq_true rfl) ?_
  intro p e s m args below meth c ls X hr hlk hH hl
  have hS : va_S (fun _ => False) s.heap s.heap [] := va_S.rf
  have hl : lv_has ls 1 [(0, .int a)] := hl
  refine lv_iload_n X.1 X.2.1 dX6_isFlag_0 rfl (lv_at hl 0 rfl) ?_
  refine lv_if_eq (tgt := 9) X.1 X.2.1 dX6_isFlag_1 (by decide) (fun c_1 => ?_) (fun c_1 => ?_)
  · refine lv_iconst (v := 1) X.1 X.2.1 dX6_isFlag_9 (by decide) ?_
    refine lv_goto (tgt := 14) X.1 X.2.1 dX6_isFlag_10 (by decide) ?_
    exact ro_z X hr hlk rfl (by show (_ : Int32) = _; simp only [inI, Int32.lt_iff_toInt_lt, Int32.le_iff_toInt_le, ← Int32.toInt_inj, GE.ge, GT.gt, t_0, t_1, t_2, t_3, t_4, t_5, t_7, t_8, t_9, t_10, t_11, t_12, t_13, t_20, t_24, t_25, t_31, t_32, t_33, t_57, t_60, t_126, t_255, t_1048575, t_65535, t_65536, t_m1, t_m6] at *; split <;> first | rfl | (exfalso; omega)) dX6_isFlag_14
  · refine lv_iload_n X.1 X.2.1 dX6_isFlag_4 rfl (lv_at hl 0 rfl) ?_
    refine lv_iconst (v := 1) X.1 X.2.1 dX6_isFlag_5 (by decide) ?_
    refine lv_icmp_ne (tgt := 13) X.1 X.2.1 dX6_isFlag_6 (by decide) (fun c_6 => ?_) (fun c_6 => ?_)
    · refine lv_iconst (v := 0) X.1 X.2.1 dX6_isFlag_13 (by decide) ?_
      exact ro_z X hr hlk rfl (by show (_ : Int32) = _; simp only [inI, Int32.lt_iff_toInt_lt, Int32.le_iff_toInt_le, ← Int32.toInt_inj, GE.ge, GT.gt, t_0, t_1, t_2, t_3, t_4, t_5, t_7, t_8, t_9, t_10, t_11, t_12, t_13, t_20, t_24, t_25, t_31, t_32, t_33, t_57, t_60, t_126, t_255, t_1048575, t_65535, t_65536, t_m1, t_m6] at *; split <;> first | rfl | (exfalso; omega)) dX6_isFlag_14
    · refine lv_iconst (v := 1) X.1 X.2.1 dX6_isFlag_9 (by decide) ?_
      refine lv_goto (tgt := 14) X.1 X.2.1 dX6_isFlag_10 (by decide) ?_
      exact ro_z X hr hlk rfl (by show (_ : Int32) = _; simp only [inI, Int32.lt_iff_toInt_lt, Int32.le_iff_toInt_le, ← Int32.toInt_inj, GE.ge, GT.gt, t_0, t_1, t_2, t_3, t_4, t_5, t_7, t_8, t_9, t_10, t_11, t_12, t_13, t_20, t_24, t_25, t_31, t_32, t_33, t_57, t_60, t_126, t_255, t_1048575, t_65535, t_65536, t_m1, t_m6] at *; split <;> first | rfl | (exfalso; omega)) dX6_isFlag_14

set_option maxHeartbeats 4000000 in
set_option maxRecDepth 100000 in
theorem c_X6_isStrain (l : Launch) (G : HG) (hp : HP) (a : Int32) : Met l yX6_isStrain [.code yX6_isStrain cX6_isStrain 1 (some .boolean)] { frames := 0, cells := 0, slots := 0, locals := 0 } (va_Pc [.int a] (RP G hp)) (vp_Si (fun r => r = inI a 0 4)) 0 0 (fun _ => False) := by
  refine ro_ofW (by decide) (Nat.le_of_ble_eq_true rfl) ?_
  intro p e s m args below meth c ls X hr hlk hH hl
  have hS : va_S (fun _ => False) s.heap s.heap [] := va_S.rf
  have hl : lv_has ls 1 [(0, .int a)] := hl
  refine lv_iload_n X.1 X.2.1 dX6_isStrain_0 rfl (lv_at hl 0 rfl) ?_
  refine lv_if_lt (tgt := 13) X.1 X.2.1 dX6_isStrain_1 (by decide) (fun c_1 => ?_) (fun c_1 => ?_)
  · refine lv_iconst (v := 0) X.1 X.2.1 dX6_isStrain_13 (by decide) ?_
    exact ro_z X hr hlk rfl (by show (_ : Int32) = _; simp only [inI, Int32.lt_iff_toInt_lt, Int32.le_iff_toInt_le, ← Int32.toInt_inj, GE.ge, GT.gt, t_0, t_1, t_2, t_3, t_4, t_5, t_7, t_8, t_9, t_10, t_11, t_12, t_13, t_20, t_24, t_25, t_31, t_32, t_33, t_57, t_60, t_126, t_255, t_1048575, t_65535, t_65536, t_m1, t_m6] at *; split <;> first | rfl | (exfalso; omega)) dX6_isStrain_14
  · refine lv_iload_n X.1 X.2.1 dX6_isStrain_4 rfl (lv_at hl 0 rfl) ?_
    refine lv_iconst (v := 4) X.1 X.2.1 dX6_isStrain_5 (by decide) ?_
    refine lv_icmp_gt (tgt := 13) X.1 X.2.1 dX6_isStrain_6 (by decide) (fun c_6 => ?_) (fun c_6 => ?_)
    · refine lv_iconst (v := 0) X.1 X.2.1 dX6_isStrain_13 (by decide) ?_
      exact ro_z X hr hlk rfl (by show (_ : Int32) = _; simp only [inI, Int32.lt_iff_toInt_lt, Int32.le_iff_toInt_le, ← Int32.toInt_inj, GE.ge, GT.gt, t_0, t_1, t_2, t_3, t_4, t_5, t_7, t_8, t_9, t_10, t_11, t_12, t_13, t_20, t_24, t_25, t_31, t_32, t_33, t_57, t_60, t_126, t_255, t_1048575, t_65535, t_65536, t_m1, t_m6] at *; split <;> first | rfl | (exfalso; omega)) dX6_isStrain_14
    · refine lv_iconst (v := 1) X.1 X.2.1 dX6_isStrain_9 (by decide) ?_
      refine lv_goto (tgt := 14) X.1 X.2.1 dX6_isStrain_10 (by decide) ?_
      exact ro_z X hr hlk rfl (by show (_ : Int32) = _; simp only [inI, Int32.lt_iff_toInt_lt, Int32.le_iff_toInt_le, ← Int32.toInt_inj, GE.ge, GT.gt, t_0, t_1, t_2, t_3, t_4, t_5, t_7, t_8, t_9, t_10, t_11, t_12, t_13, t_20, t_24, t_25, t_31, t_32, t_33, t_57, t_60, t_126, t_255, t_1048575, t_65535, t_65536, t_m1, t_m6] at *; split <;> first | rfl | (exfalso; omega)) dX6_isStrain_14

set_option maxHeartbeats 4000000 in
set_option maxRecDepth 100000 in
theorem c_X6_isCharacter (l : Launch) (G : HG) (hp : HP) (a : Int32) : Met l yX6_isCharacter [.code yX6_isCharacter cX6_isCharacter 1 (some .boolean)] { frames := 0, cells := 0, slots := 0, locals := 0 } (va_Pc [.int a] (RP G hp)) (vp_Si (fun r => r = inI a 33 126)) 0 0 (fun _ => False) := by
  refine ro_ofW (by decide) (Nat.le_of_ble_eq_true rfl) ?_
  intro p e s m args below meth c ls X hr hlk hH hl
  have hS : va_S (fun _ => False) s.heap s.heap [] := va_S.rf
  have hl : lv_has ls 1 [(0, .int a)] := hl
  refine lv_iload_n X.1 X.2.1 dX6_isCharacter_0 rfl (lv_at hl 0 rfl) ?_
  refine lv_bipush (v := 33) X.1 X.2.1 dX6_isCharacter_1 (by decide) ?_
  refine lv_icmp_lt (tgt := 16) X.1 X.2.1 dX6_isCharacter_3 (by decide) (fun c_3 => ?_) (fun c_3 => ?_)
  · refine lv_iconst (v := 0) X.1 X.2.1 dX6_isCharacter_16 (by decide) ?_
    exact ro_z X hr hlk rfl (by show (_ : Int32) = _; simp only [inI, Int32.lt_iff_toInt_lt, Int32.le_iff_toInt_le, ← Int32.toInt_inj, GE.ge, GT.gt, t_0, t_1, t_2, t_3, t_4, t_5, t_7, t_8, t_9, t_10, t_11, t_12, t_13, t_20, t_24, t_25, t_31, t_32, t_33, t_57, t_60, t_126, t_255, t_1048575, t_65535, t_65536, t_m1, t_m6] at *; split <;> first | rfl | (exfalso; omega)) dX6_isCharacter_17
  · refine lv_iload_n X.1 X.2.1 dX6_isCharacter_6 rfl (lv_at hl 0 rfl) ?_
    refine lv_bipush (v := 126) X.1 X.2.1 dX6_isCharacter_7 (by decide) ?_
    refine lv_icmp_gt (tgt := 16) X.1 X.2.1 dX6_isCharacter_9 (by decide) (fun c_9 => ?_) (fun c_9 => ?_)
    · refine lv_iconst (v := 0) X.1 X.2.1 dX6_isCharacter_16 (by decide) ?_
      exact ro_z X hr hlk rfl (by show (_ : Int32) = _; simp only [inI, Int32.lt_iff_toInt_lt, Int32.le_iff_toInt_le, ← Int32.toInt_inj, GE.ge, GT.gt, t_0, t_1, t_2, t_3, t_4, t_5, t_7, t_8, t_9, t_10, t_11, t_12, t_13, t_20, t_24, t_25, t_31, t_32, t_33, t_57, t_60, t_126, t_255, t_1048575, t_65535, t_65536, t_m1, t_m6] at *; split <;> first | rfl | (exfalso; omega)) dX6_isCharacter_17
    · refine lv_iconst (v := 1) X.1 X.2.1 dX6_isCharacter_12 (by decide) ?_
      refine lv_goto (tgt := 17) X.1 X.2.1 dX6_isCharacter_13 (by decide) ?_
      exact ro_z X hr hlk rfl (by show (_ : Int32) = _; simp only [inI, Int32.lt_iff_toInt_lt, Int32.le_iff_toInt_le, ← Int32.toInt_inj, GE.ge, GT.gt, t_0, t_1, t_2, t_3, t_4, t_5, t_7, t_8, t_9, t_10, t_11, t_12, t_13, t_20, t_24, t_25, t_31, t_32, t_33, t_57, t_60, t_126, t_255, t_1048575, t_65535, t_65536, t_m1, t_m6] at *; split <;> first | rfl | (exfalso; omega)) dX6_isCharacter_17

set_option maxHeartbeats 4000000 in
set_option maxRecDepth 100000 in
theorem c_X1_isSet (l : Launch) (G : HG) (hp : HP) (a : Int32) : Met l yX1_isSet [.code yX1_isSet cX1_isSet 1 (some .boolean)] { frames := 0, cells := 0, slots := 0, locals := 0 } (va_Pc [.int a] (RP G hp)) (vp_Si (fun r => r = inI a 0 1048575)) 0 0 (fun _ => False) := by
  refine ro_ofW (by decide) (Nat.le_of_ble_eq_true rfl) ?_
  intro p e s m args below meth c ls X hr hlk hH hl
  have hS : va_S (fun _ => False) s.heap s.heap [] := va_S.rf
  have hl : lv_has ls 1 [(0, .int a)] := hl
  refine lv_iload_n X.1 X.2.1 dX1_isSet_0 rfl (lv_at hl 0 rfl) ?_
  refine lv_if_lt (tgt := 14) X.1 X.2.1 dX1_isSet_1 (by decide) (fun c_1 => ?_) (fun c_1 => ?_)
  · refine lv_iconst (v := 0) X.1 X.2.1 dX1_isSet_14 (by decide) ?_
    exact ro_z X hr hlk rfl (by show (_ : Int32) = _; simp only [inI, Int32.lt_iff_toInt_lt, Int32.le_iff_toInt_le, ← Int32.toInt_inj, GE.ge, GT.gt, t_0, t_1, t_2, t_3, t_4, t_5, t_7, t_8, t_9, t_10, t_11, t_12, t_13, t_20, t_24, t_25, t_31, t_32, t_33, t_57, t_60, t_126, t_255, t_1048575, t_65535, t_65536, t_m1, t_m6] at *; split <;> first | rfl | (exfalso; omega)) dX1_isSet_15
  · refine lv_iload_n X.1 X.2.1 dX1_isSet_4 rfl (lv_at hl 0 rfl) ?_
    refine r_const X tw_435 dX1_isSet_5 ?_
    refine lv_icmp_gt (tgt := 14) X.1 X.2.1 dX1_isSet_7 (by decide) (fun c_7 => ?_) (fun c_7 => ?_)
    · refine lv_iconst (v := 0) X.1 X.2.1 dX1_isSet_14 (by decide) ?_
      exact ro_z X hr hlk rfl (by show (_ : Int32) = _; simp only [inI, Int32.lt_iff_toInt_lt, Int32.le_iff_toInt_le, ← Int32.toInt_inj, GE.ge, GT.gt, t_0, t_1, t_2, t_3, t_4, t_5, t_7, t_8, t_9, t_10, t_11, t_12, t_13, t_20, t_24, t_25, t_31, t_32, t_33, t_57, t_60, t_126, t_255, t_1048575, t_65535, t_65536, t_m1, t_m6] at *; split <;> first | rfl | (exfalso; omega)) dX1_isSet_15
    · refine lv_iconst (v := 1) X.1 X.2.1 dX1_isSet_10 (by decide) ?_
      refine lv_goto (tgt := 15) X.1 X.2.1 dX1_isSet_11 (by decide) ?_
      exact ro_z X hr hlk rfl (by show (_ : Int32) = _; simp only [inI, Int32.lt_iff_toInt_lt, Int32.le_iff_toInt_le, ← Int32.toInt_inj, GE.ge, GT.gt, t_0, t_1, t_2, t_3, t_4, t_5, t_7, t_8, t_9, t_10, t_11, t_12, t_13, t_20, t_24, t_25, t_31, t_32, t_33, t_57, t_60, t_126, t_255, t_1048575, t_65535, t_65536, t_m1, t_m6] at *; split <;> first | rfl | (exfalso; omega)) dX1_isSet_15

set_option maxHeartbeats 4000000 in
set_option maxRecDepth 100000 in
theorem c_X7_in (l : Launch) (G : HG) (hp : HP) (v : Int32) (lo : Int32) (hi : Int32) : Met l yX7_in [.code yX7_in cX7_in 3 (some .boolean)] { frames := 0, cells := 0, slots := 0, locals := 0 } (va_Pc [.int v, .int lo, .int hi] (RP G hp)) (vp_Si (fun r => r = inI v lo.toInt hi.toInt)) 0 0 (fun _ => False) := by
  refine ro_ofW (by decide) (Nat.le_of_ble_eq_true rfl) ?_
  intro p e s m args below meth c ls X hr hlk hH hl
  have hS : va_S (fun _ => False) s.heap s.heap [] := va_S.rf
  have hl : lv_has ls 3 [(0, .int v), (1, .int lo), (2, .int hi)] := hl
  refine lv_iload_n X.1 X.2.1 dX7_in_0 rfl (lv_at hl 0 rfl) ?_
  refine lv_iload_n X.1 X.2.1 dX7_in_1 rfl (lv_at hl 1 rfl) ?_
  refine lv_icmp_lt (tgt := 14) X.1 X.2.1 dX7_in_2 (by decide) (fun c_2 => ?_) (fun c_2 => ?_)
  · refine lv_iconst (v := 0) X.1 X.2.1 dX7_in_14 (by decide) ?_
    exact ro_z X hr hlk rfl (by show (_ : Int32) = _; simp only [inI, Int32.lt_iff_toInt_lt, Int32.le_iff_toInt_le, ← Int32.toInt_inj, GE.ge, GT.gt, t_0, t_1, t_2, t_3, t_4, t_5, t_7, t_8, t_9, t_10, t_11, t_12, t_13, t_20, t_24, t_25, t_31, t_32, t_33, t_57, t_60, t_126, t_255, t_1048575, t_65535, t_65536, t_m1, t_m6] at *; split <;> first | rfl | (exfalso; omega)) dX7_in_15
  · refine lv_iload_n X.1 X.2.1 dX7_in_5 rfl (lv_at hl 0 rfl) ?_
    refine lv_iload_n X.1 X.2.1 dX7_in_6 rfl (lv_at hl 2 rfl) ?_
    refine lv_icmp_gt (tgt := 14) X.1 X.2.1 dX7_in_7 (by decide) (fun c_7 => ?_) (fun c_7 => ?_)
    · refine lv_iconst (v := 0) X.1 X.2.1 dX7_in_14 (by decide) ?_
      exact ro_z X hr hlk rfl (by show (_ : Int32) = _; simp only [inI, Int32.lt_iff_toInt_lt, Int32.le_iff_toInt_le, ← Int32.toInt_inj, GE.ge, GT.gt, t_0, t_1, t_2, t_3, t_4, t_5, t_7, t_8, t_9, t_10, t_11, t_12, t_13, t_20, t_24, t_25, t_31, t_32, t_33, t_57, t_60, t_126, t_255, t_1048575, t_65535, t_65536, t_m1, t_m6] at *; split <;> first | rfl | (exfalso; omega)) dX7_in_15
    · refine lv_iconst (v := 1) X.1 X.2.1 dX7_in_10 (by decide) ?_
      refine lv_goto (tgt := 15) X.1 X.2.1 dX7_in_11 (by decide) ?_
      exact ro_z X hr hlk rfl (by show (_ : Int32) = _; simp only [inI, Int32.lt_iff_toInt_lt, Int32.le_iff_toInt_le, ← Int32.toInt_inj, GE.ge, GT.gt, t_0, t_1, t_2, t_3, t_4, t_5, t_7, t_8, t_9, t_10, t_11, t_12, t_13, t_20, t_24, t_25, t_31, t_32, t_33, t_57, t_60, t_126, t_255, t_1048575, t_65535, t_65536, t_m1, t_m6] at *; split <;> first | rfl | (exfalso; omega)) dX7_in_15

set_option maxHeartbeats 4000000 in
set_option maxRecDepth 100000 in
theorem c_X7_isPartner (l : Launch) (G : HG) (hp : HP) (a : Int32) : Met l yX7_isPartner [.code yX7_isPartner cX7_isPartner 1 (some .boolean)] { frames := 1, cells := 0, slots := 0, locals := 22 } (va_Pc [.int a] (RP G hp)) (vp_Si (fun r => r = inI a 0 1)) 0 0 (fun _ => False) := by
  refine ro_ofW (by decide) (Nat.le_of_ble_eq_true rfl) ?_
  intro p e s m args below meth c ls X hr hlk hH hl
  have hS : va_S (fun _ => False) s.heap s.heap [] := va_S.rf
  have hl : lv_has ls 1 [(0, .int a)] := hl
  refine lv_iload_n X.1 X.2.1 dX7_isPartner_0 rfl (lv_at hl 0 rfl) ?_
  refine lv_iconst (v := 0) X.1 X.2.1 dX7_isPartner_1 (by decide) ?_
  refine lv_iconst (v := 1) X.1 X.2.1 dX7_isPartner_2 (by decide) ?_
  refine on_Si (run_S (As := [.int a, .int 0, .int 1]) (rest := []) X (c_X7_in l G hp a 0 1) (rp_blind _) (rp_at X hH hS) mf_X7_in tw_907 tw_908 ⟨rfl, rfl, Nat.le_of_ble_eq_true rfl, Nat.le_of_ble_eq_true rfl⟩ hl.1 rfl rfl (Nat.le_of_ble_eq_true rfl) ⟨Nat.le_of_ble_eq_true rfl, Nat.le_of_ble_eq_true rfl⟩ dX7_isPartner_3) (fun r_3 q_3 => ?_)
  obtain rfl : r_3 = (inI a 0 1) := q_3
  exact ro_z X hr hlk (by unfold inI; split <;> rfl) rfl dX7_isPartner_6

