section VE
variable {p : Program} {l : Launch} {e : Env} {R : Room} {s : State} {m : MethodId} {args : Array Value} {below : List Frame} {meth : Method} {c : Code} {H : Heap} {locs : List Loc} {cells slots : Nat} {Q : State → Prop} {pc : Nat} {ls : Array Slot} {rest : List Value}
theorem r_eqi {x y : Int32} (h : x = y) (k : W p l e R s m args below meth c H locs cells slots Q (F0 m pc ls (.int y :: rest))) : W p l e R s m args below meth c H locs cells slots Q (F0 m pc ls (.int x :: rest)) := by subst h; exact k
theorem r_eql {x y : Int64} (h : x = y) (k : W p l e R s m args below meth c H locs cells slots Q (F0 m pc ls (.long y :: rest))) : W p l e R s m args below meth c H locs cells slots Q (F0 m pc ls (.long x :: rest)) := by subst h; exact k
end VE
theorem n_and1 (a : Nat) : nI a &&& 1 = nI (a % 2) := by
  show nI a &&& nI 1 = _
  rw [n_and, show (1 : Nat) = 2 ^ 1 - 1 from rfl, Nat.and_two_pow_sub_one_eq_mod]
theorem n_and31 (a : Nat) : nI a &&& 31 = nI (a % 32) := by
  show nI a &&& nI 31 = _
  rw [n_and, show (31 : Nat) = 2 ^ 5 - 1 from rfl, Nat.and_two_pow_sub_one_eq_mod]
theorem n_and63 (a : Nat) : nI a &&& 63 = nI (a % 64) := by
  show nI a &&& nI 63 = _
  rw [n_and, show (63 : Nat) = 2 ^ 6 - 1 from rfl, Nat.and_two_pow_sub_one_eq_mod]
/-- a number in a range, as an answer -/
def inI (a : Int32) (lo hi : Int) : Int32 := if lo ≤ a.toInt ∧ a.toInt ≤ hi then 1 else 0
theorem t_0 : (0 : Int32).toInt = 0 := by decide
theorem t_1 : (1 : Int32).toInt = 1 := by decide
theorem t_2 : (2 : Int32).toInt = 2 := by decide
theorem t_3 : (3 : Int32).toInt = 3 := by decide
theorem t_4 : (4 : Int32).toInt = 4 := by decide
theorem t_5 : (5 : Int32).toInt = 5 := by decide
theorem t_7 : (7 : Int32).toInt = 7 := by decide
theorem t_8 : (8 : Int32).toInt = 8 := by decide
theorem t_9 : (9 : Int32).toInt = 9 := by decide
theorem t_10 : (10 : Int32).toInt = 10 := by decide
theorem t_11 : (11 : Int32).toInt = 11 := by decide
theorem t_12 : (12 : Int32).toInt = 12 := by decide
theorem t_13 : (13 : Int32).toInt = 13 := by decide
theorem t_20 : (20 : Int32).toInt = 20 := by decide
theorem t_24 : (24 : Int32).toInt = 24 := by decide
theorem t_25 : (25 : Int32).toInt = 25 := by decide
theorem t_31 : (31 : Int32).toInt = 31 := by decide
theorem t_32 : (32 : Int32).toInt = 32 := by decide
theorem t_33 : (33 : Int32).toInt = 33 := by decide
theorem t_57 : (57 : Int32).toInt = 57 := by decide
theorem t_60 : (60 : Int32).toInt = 60 := by decide
theorem t_126 : (126 : Int32).toInt = 126 := by decide
theorem t_255 : (255 : Int32).toInt = 255 := by decide
theorem t_1048575 : (1048575 : Int32).toInt = 1048575 := by decide
theorem t_65535 : (65535 : Int32).toInt = 65535 := by decide
theorem t_65536 : (65536 : Int32).toInt = 65536 := by decide
theorem t_m1 : (-1 : Int32).toInt = -1 := by decide
theorem t_m6 : (-6 : Int32).toInt = -6 := by decide
set_option maxHeartbeats 4000000 in
set_option maxRecDepth 100000 in
theorem c_X6_isState (l : Launch) (G : HG) (hp : HP) (a : Int32) : Met l yX6_isState [.code yX6_isState cX6_isState 1 (some .boolean)] { frames := 0, cells := 0, slots := 0, locals := 0 } (va_Pc [.int a] (RP G hp)) (vp_Si (fun r => r = inI a 0 7)) 0 0 (fun _ => False) := by
  refine ro_ofW (by decide) (Nat.le_of_ble_eq_true rfl) ?_
  intro p e s m args below meth c ls X hr hlk hH hl
  have hS : va_S (fun _ => False) s.heap s.heap [] := va_S.rf
  have hl : lv_has ls 1 [(0, .int a)] := hl
  refine lv_iload_n X.1 X.2.1 dX6_isState_0 rfl (lv_at hl 0 rfl) ?_
  refine lv_if_lt (tgt := 14) X.1 X.2.1 dX6_isState_1 (by decide) (fun c_1 => ?_) (fun c_1 => ?_)
  · refine lv_iconst (v := 0) X.1 X.2.1 dX6_isState_14 (by decide) ?_
    exact ro_z X hr hlk rfl (by show (_ : Int32) = _; simp only [inI, Int32.lt_iff_toInt_lt, Int32.le_iff_toInt_le, ← Int32.toInt_inj, GE.ge, GT.gt, t_0, t_1, t_2, t_3, t_4, t_5, t_7, t_8, t_9, t_10, t_11, t_12, t_13, t_20, t_24, t_25, t_31, t_32, t_33, t_57, t_60, t_126, t_255, t_1048575, t_65535, t_65536, t_m1, t_m6] at *; split <;> first | rfl | (exfalso; omega)) dX6_isState_15
  · refine lv_iload_n X.1 X.2.1 dX6_isState_4 rfl (lv_at hl 0 rfl) ?_
    refine lv_bipush (v := 7) X.1 X.2.1 dX6_isState_5 (by decide) ?_
    refine lv_icmp_gt (tgt := 14) X.1 X.2.1 dX6_isState_7 (by decide) (fun c_7 => ?_) (fun c_7 => ?_)
    · refine lv_iconst (v := 0) X.1 X.2.1 dX6_isState_14 (by decide) ?_
      exact ro_z X hr hlk rfl (by show (_ : Int32) = _; simp only [inI, Int32.lt_iff_toInt_lt, Int32.le_iff_toInt_le, ← Int32.toInt_inj, GE.ge, GT.gt, t_0, t_1, t_2, t_3, t_4, t_5, t_7, t_8, t_9, t_10, t_11, t_12, t_13, t_20, t_24, t_25, t_31, t_32, t_33, t_57, t_60, t_126, t_255, t_1048575, t_65535, t_65536, t_m1, t_m6] at *; split <;> first | rfl | (exfalso; omega)) dX6_isState_15
    · refine lv_iconst (v := 1) X.1 X.2.1 dX6_isState_10 (by decide) ?_
      refine lv_goto (tgt := 15) X.1 X.2.1 dX6_isState_11 (by decide) ?_
      exact ro_z X hr hlk rfl (by show (_ : Int32) = _; simp only [inI, Int32.lt_iff_toInt_lt, Int32.le_iff_toInt_le, ← Int32.toInt_inj, GE.ge, GT.gt, t_0, t_1, t_2, t_3, t_4, t_5, t_7, t_8, t_9, t_10, t_11, t_12, t_13, t_20, t_24, t_25, t_31, t_32, t_33, t_57, t_60, t_126, t_255, t_1048575, t_65535, t_65536, t_m1, t_m6] at *; split <;> first | rfl | (exfalso; omega)) dX6_isState_15

set_option maxHeartbeats 4000000 in
set_option maxRecDepth 100000 in
theorem c_X6_isCall (l : Launch) (G : HG) (hp : HP) (a : Int32) : Met l yX6_isCall [.code yX6_isCall cX6_isCall 1 (some .boolean)] { frames := 0, cells := 0, slots := 0, locals := 0 } (va_Pc [.int a] (RP G hp)) (vp_Si (fun r => r = inI a 0 25)) 0 0 (fun _ => False) := by
  refine ro_ofW (by decide) (Nat.le_of_ble_eq_true rfl) ?_
  intro p e s m args below meth c ls X hr hlk hH hl
  have hS : va_S (fun _ => False) s.heap s.heap [] := va_S.rf
  have hl : lv_has ls 1 [(0, .int a)] := hl
  refine lv_iload_n X.1 X.2.1 dX6_isCall_0 rfl (lv_at hl 0 rfl) ?_
  refine lv_if_lt (tgt := 14) X.1 X.2.1 dX6_isCall_1 (by decide) (fun c_1 => ?_) (fun c_1 => ?_)
  · refine lv_iconst (v := 0) X.1 X.2.1 dX6_isCall_14 (by decide) ?_
    exact ro_z X hr hlk rfl (by show (_ : Int32) = _; simp only [inI, Int32.lt_iff_toInt_lt, Int32.le_iff_toInt_le, ← Int32.toInt_inj, GE.ge, GT.gt, t_0, t_1, t_2, t_3, t_4, t_5, t_7, t_8, t_9, t_10, t_11, t_12, t_13, t_20, t_24, t_25, t_31, t_32, t_33, t_57, t_60, t_126, t_255, t_1048575, t_65535, t_65536, t_m1, t_m6] at *; split <;> first | rfl | (exfalso; omega)) dX6_isCall_15
  · refine lv_iload_n X.1 X.2.1 dX6_isCall_4 rfl (lv_at hl 0 rfl) ?_
    refine lv_bipush (v := 25) X.1 X.2.1 dX6_isCall_5 (by decide) ?_
    refine lv_icmp_gt (tgt := 14) X.1 X.2.1 dX6_isCall_7 (by decide) (fun c_7 => ?_) (fun c_7 => ?_)
    · refine lv_iconst (v := 0) X.1 X.2.1 dX6_isCall_14 (by decide) ?_
      exact ro_z X hr hlk rfl (by show (_ : Int32) = _; simp only [inI, Int32.lt_iff_toInt_lt, Int32.le_iff_toInt_le, ← Int32.toInt_inj, GE.ge, GT.gt, t_0, t_1, t_2, t_3, t_4, t_5, t_7, t_8, t_9, t_10, t_11, t_12, t_13, t_20, t_24, t_25, t_31, t_32, t_33, t_57, t_60, t_126, t_255, t_1048575, t_65535, t_65536, t_m1, t_m6] at *; split <;> first | rfl | (exfalso; omega)) dX6_isCall_15
    · refine lv_iconst (v := 1) X.1 X.2.1 dX6_isCall_10 (by decide) ?_
      refine lv_goto (tgt := 15) X.1 X.2.1 dX6_isCall_11 (by decide) ?_
      exact ro_z X hr hlk rfl (by show (_ : Int32) = _; simp only [inI, Int32.lt_iff_toInt_lt, Int32.le_iff_toInt_le, ← Int32.toInt_inj, GE.ge, GT.gt, t_0, t_1, t_2, t_3, t_4, t_5, t_7, t_8, t_9, t_10, t_11, t_12, t_13, t_20, t_24, t_25, t_31, t_32, t_33, t_57, t_60, t_126, t_255, t_1048575, t_65535, t_65536, t_m1, t_m6] at *; split <;> first | rfl | (exfalso; omega)) dX6_isCall_15

set_option maxHeartbeats 4000000 in
set_option maxRecDepth 100000 in
theorem c_X6_isPartner (l : Launch) (G : HG) (hp : HP) (a : Int32) : Met l yX6_isPartner [.code yX6_isPartner cX6_isPartner 1 (some .boolean)] { frames := 0, cells := 0, slots := 0, locals := 0 } (va_Pc [.int a] (RP G hp)) (vp_Si (fun r => r = inI a 0 1)) 0 0 (fun _ => False) := by
  refine ro_ofW (by decide) (Nat.le_of_ble_eq_true rfl) ?_
  intro p e s m args below meth c ls X hr hlk hH hl
  have hS : va_S (fun _ => False) s.heap s.heap [] := va_S.rf
  have hl : lv_has ls 1 [(0, .int a)] := hl
  refine lv_iload_n X.1 X.2.1 dX6_isPartner_0 rfl (lv_at hl 0 rfl) ?_
  refine lv_if_eq (tgt := 9) X.1 X.2.1 dX6_isPartner_1 (by decide) (fun c_1 => ?_) (fun c_1 => ?_)
  · refine lv_iconst (v := 1) X.1 X.2.1 dX6_isPartner_9 (by decide) ?_
    refine lv_goto (tgt := 14) X.1 X.2.1 dX6_isPartner_10 (by decide) ?_
    exact ro_z X hr hlk rfl (by show (_ : Int32) = _; simp only [inI, Int32.lt_iff_toInt_lt, Int32.le_iff_toInt_le, ← Int32.toInt_inj, GE.ge, GT.gt, t_0, t_1, t_2, t_3, t_4, t_5, t_7, t_8, t_9, t_10, t_11, t_12, t_13, t_20, t_24, t_25, t_31, t_32, t_33, t_57, t_60, t_126, t_255, t_1048575, t_65535, t_65536, t_m1, t_m6] at *; split <;> first | rfl | (exfalso; omega)) dX6_isPartner_14
  · refine lv_iload_n X.1 X.2.1 dX6_isPartner_4 rfl (lv_at hl 0 rfl) ?_
    refine lv_iconst (v := 1) X.1 X.2.1 dX6_isPartner_5 (by decide) ?_
    refine lv_icmp_ne (tgt := 13) X.1 X.2.1 dX6_isPartner_6 (by decide) (fun c_6 => ?_) (fun c_6 => ?_)
    · refine lv_iconst (v := 0) X.1 X.2.1 dX6_isPartner_13 (by decide) ?_
      exact ro_z X hr hlk rfl (by show (_ : Int32) = _; simp only [inI, Int32.lt_iff_toInt_lt, Int32.le_iff_toInt_le, ← Int32.toInt_inj, GE.ge, GT.gt, t_0, t_1, t_2, t_3, t_4, t_5, t_7, t_8, t_9, t_10, t_11, t_12, t_13, t_20, t_24, t_25, t_31, t_32, t_33, t_57, t_60, t_126, t_255, t_1048575, t_65535, t_65536, t_m1, t_m6] at *; split <;> first | rfl | (exfalso; omega)) dX6_isPartner_14
    · refine lv_iconst (v := 1) X.1 X.2.1 dX6_isPartner_9 (by decide) ?_
      refine lv_goto (tgt := 14) X.1 X.2.1 dX6_isPartner_10 (by decide) ?_
      exact ro_z X hr hlk rfl (by show (_ : Int32) = _; simp only [inI, Int32.lt_iff_toInt_lt, Int32.le_iff_toInt_le, ← Int32.toInt_inj, GE.ge, GT.gt, t_0, t_1, t_2, t_3, t_4, t_5, t_7, t_8, t_9, t_10, t_11, t_12, t_13, t_20, t_24, t_25, t_31, t_32, t_33, t_57, t_60, t_126, t_255, t_1048575, t_65535, t_65536, t_m1, t_m6] at *; split <;> first | rfl | (exfalso; omega)) dX6_isPartner_14

set_option maxHeartbeats 4000000 in
set_option maxRecDepth 100000 in
theorem c_X6_isFlag (l : Launch) (G : HG) (hp : HP) (a : Int32) : Met l yX6_isFlag [.code yX6_isFlag cX6_isFlag 1 (some .boolean)] { frames := 0, cells := 0, slots := 0, locals := 0 } (va_Pc [.int a] (RP G hp)) (vp_Si (fun r => r = inI a 0 1)) 0 0 (fun _ => False) := by
  refine ro_ofW (by decide) (Nat.le_of_ble_eq_true rfl) ?_
  intro p e s m args below meth c ls X hr hlk hH hl
  have hS : va_S (fun _ => False) s.heap s.heap [] := va_S.rf
  have hl : lv_has ls 1 [(0, .int a)] := hl
  refine lv_iload_n X.1 X.2.1 dX6_isFlag_0 rfl (lv_at hl 0 rfl) ?_
  refine lv_if_eq (tgt := 9) X.1 X.2.1 dX6_isFlag_1 (by decide) (fun c_1 => ?_) (fun c_1 => ?_)
  · refine lv_iconst (v := 1) X.1 X.2.1 dX6_isFlag_9 (by decide) ?_
    refine lv_goto (tgt := 14) X.1 X.2.1 dX6_isFlag_10 (by decide) ?_
    exact ro_z X hr hlk rfl (by show (_ : Int32) = _; simp only [inI, Int32.lt_iff_toInt_lt, Int32.le_iff_toInt_le, ← Int32.toInt_inj, GE.ge, GT.gt, t_0, t_1, t_2, t_3, t_4, t_5, t_7, t_8, t_9, t_10, t_11, t_12, t_13, t_20, t_24, t_25, t_31, t_32, t_33, t_57, t_60, t_126, t_255, t_1048575, t_65535, t_65536, t_m1, t_m6] at *; split <;> first | rfl | (exfalso; omega)) dX6_isFlag_14
  · refine lv_iload_n X.1 X.2.1 dX6_isFlag_4 rfl (lv_at hl 0 rfl) ?_
    refine lv_iconst (v := 1) X.1 X.2.1 dX6_isFlag_5 (by decide) ?_
    refine lv_icmp_ne (tgt := 13) X.1 X.2.1 dX6_isFlag_6 (by decide) (fun c_6 => ?_) (fun c_6 => ?_)
    · refine lv_iconst (v := 0) X.1 X.2.1 dX6_isFlag_13 (by decide) ?_
      exact ro_z X hr hlk rfl (by show (_ : Int32) = _; simp only [inI, Int32.lt_iff_toInt_lt, Int32.le_iff_toInt_le, ← Int32.toInt_inj, GE.ge, GT.gt, t_0, t_1, t_2, t_3, t_4, t_5, t_7, t_8, t_9, t_10, t_11, t_12, t_13, t_20, t_24, t_25, t_31, t_32, t_33, t_57, t_60, t_126, t_255, t_1048575, t_65535, t_65536, t_m1, t_m6] at *; split <;> first | rfl | (exfalso; omega)) dX6_isFlag_14
    · refine lv_iconst (v := 1) X.1 X.2.1 dX6_isFlag_9 (by decide) ?_
      refine lv_goto (tgt := 14) X.1 X.2.1 dX6_isFlag_10 (by decide) ?_
      exact ro_z X hr hlk rfl (by show (_ : Int32) = _; simp only [inI, Int32.lt_iff_toInt_lt, Int32.le_iff_toInt_le, ← Int32.toInt_inj, GE.ge, GT.gt, t_0, t_1, t_2, t_3, t_4, t_5, t_7, t_8, t_9, t_10, t_11, t_12, t_13, t_20, t_24, t_25, t_31, t_32, t_33, t_57, t_60, t_126, t_255, t_1048575, t_65535, t_65536, t_m1, t_m6] at *; split <;> first | rfl | (exfalso; omega)) dX6_isFlag_14

set_option maxHeartbeats 4000000 in
set_option maxRecDepth 100000 in
theorem c_X6_isStrain (l : Launch) (G : HG) (hp : HP) (a : Int32) : Met l yX6_isStrain [.code yX6_isStrain cX6_isStrain 1 (some .boolean)] { frames := 0, cells := 0, slots := 0, locals := 0 } (va_Pc [.int a] (RP G hp)) (vp_Si (fun r => r = inI a 0 4)) 0 0 (fun _ => False) := by
  refine ro_ofW (by decide) (Nat.le_of_ble_eq_true rfl) ?_
  intro p e s m args below meth c ls X hr hlk hH hl
  have hS : va_S (fun _ => False) s.heap s.heap [] := va_S.rf
  have hl : lv_has ls 1 [(0, .int a)] := hl
  refine lv_iload_n X.1 X.2.1 dX6_isStrain_0 rfl (lv_at hl 0 rfl) ?_
  refine lv_if_lt (tgt := 13) X.1 X.2.1 dX6_isStrain_1 (by decide) (fun c_1 => ?_) (fun c_1 => ?_)
  · refine lv_iconst (v := 0) X.1 X.2.1 dX6_isStrain_13 (by decide) ?_
    exact ro_z X hr hlk rfl (by show (_ : Int32) = _; simp only [inI, Int32.lt_iff_toInt_lt, Int32.le_iff_toInt_le, ← Int32.toInt_inj, GE.ge, GT.gt, t_0, t_1, t_2, t_3, t_4, t_5, t_7, t_8, t_9, t_10, t_11, t_12, t_13, t_20, t_24, t_25, t_31, t_32, t_33, t_57, t_60, t_126, t_255, t_1048575, t_65535, t_65536, t_m1, t_m6] at *; split <;> first | rfl | (exfalso; omega)) dX6_isStrain_14
  · refine lv_iload_n X.1 X.2.1 dX6_isStrain_4 rfl (lv_at hl 0 rfl) ?_
    refine lv_iconst (v := 4) X.1 X.2.1 dX6_isStrain_5 (by decide) ?_
    refine lv_icmp_gt (tgt := 13) X.1 X.2.1 dX6_isStrain_6 (by decide) (fun c_6 => ?_) (fun c_6 => ?_)
    · refine lv_iconst (v := 0) X.1 X.2.1 dX6_isStrain_13 (by decide) ?_
      exact ro_z X hr hlk rfl (by show (_ : Int32) = _; simp only [inI, Int32.lt_iff_toInt_lt, Int32.le_iff_toInt_le, ← Int32.toInt_inj, GE.ge, GT.gt, t_0, t_1, t_2, t_3, t_4, t_5, t_7, t_8, t_9, t_10, t_11, t_12, t_13, t_20, t_24, t_25, t_31, t_32, t_33, t_57, t_60, t_126, t_255, t_1048575, t_65535, t_65536, t_m1, t_m6] at *; split <;> first | rfl | (exfalso; omega)) dX6_isStrain_14
    · refine lv_iconst (v := 1) X.1 X.2.1 dX6_isStrain_9 (by decide) ?_
      refine lv_goto (tgt := 14) X.1 X.2.1 dX6_isStrain_10 (by decide) ?_
      exact ro_z X hr hlk rfl (by show (_ : Int32) = _; simp only [inI, Int32.lt_iff_toInt_lt, Int32.le_iff_toInt_le, ← Int32.toInt_inj, GE.ge, GT.gt, t_0, t_1, t_2, t_3, t_4, t_5, t_7, t_8, t_9, t_10, t_11, t_12, t_13, t_20, t_24, t_25, t_31, t_32, t_33, t_57, t_60, t_126, t_255, t_1048575, t_65535, t_65536, t_m1, t_m6] at *; split <;> first | rfl | (exfalso; omega)) dX6_isStrain_14

set_option maxHeartbeats 4000000 in
set_option maxRecDepth 100000 in
theorem c_X1_isSet (l : Launch) (G : HG) (hp : HP) (a : Int32) : Met l yX1_isSet [.code yX1_isSet cX1_isSet 1 (some .boolean)] { frames := 0, cells := 0, slots := 0, locals := 0 } (va_Pc [.int a] (RP G hp)) (vp_Si (fun r => r = inI a 0 1048575)) 0 0 (fun _ => False) := by
  refine ro_ofW (by decide) (Nat.le_of_ble_eq_true rfl) ?_
  intro p e s m args below meth c ls X hr hlk hH hl
  have hS : va_S (fun _ => False) s.heap s.heap [] := va_S.rf
  have hl : lv_has ls 1 [(0, .int a)] := hl
  refine lv_iload_n X.1 X.2.1 dX1_isSet_0 rfl (lv_at hl 0 rfl) ?_
  refine lv_if_lt (tgt := 14) X.1 X.2.1 dX1_isSet_1 (by decide) (fun c_1 => ?_) (fun c_1 => ?_)
  · refine lv_iconst (v := 0) X.1 X.2.1 dX1_isSet_14 (by decide) ?_
    exact ro_z X hr hlk rfl (by show (_ : Int32) = _; simp only [inI, Int32.lt_iff_toInt_lt, Int32.le_iff_toInt_le, ← Int32.toInt_inj, GE.ge, GT.gt, t_0, t_1, t_2, t_3, t_4, t_5, t_7, t_8, t_9, t_10, t_11, t_12, t_13, t_20, t_24, t_25, t_31, t_32, t_33, t_57, t_60, t_126, t_255, t_1048575, t_65535, t_65536, t_m1, t_m6] at *; split <;> first | rfl | (exfalso; omega)) dX1_isSet_15
  · refine lv_iload_n X.1 X.2.1 dX1_isSet_4 rfl (lv_at hl 0 rfl) ?_
    refine r_const X tw_285 dX1_isSet_5 ?_
    refine lv_icmp_gt (tgt := 14) X.1 X.2.1 dX1_isSet_7 (by decide) (fun c_7 => ?_) (fun c_7 => ?_)
    · refine lv_iconst (v := 0) X.1 X.2.1 dX1_isSet_14 (by decide) ?_
      exact ro_z X hr hlk rfl (by show (_ : Int32) = _; simp only [inI, Int32.lt_iff_toInt_lt, Int32.le_iff_toInt_le, ← Int32.toInt_inj, GE.ge, GT.gt, t_0, t_1, t_2, t_3, t_4, t_5, t_7, t_8, t_9, t_10, t_11, t_12, t_13, t_20, t_24, t_25, t_31, t_32, t_33, t_57, t_60, t_126, t_255, t_1048575, t_65535, t_65536, t_m1, t_m6] at *; split <;> first | rfl | (exfalso; omega)) dX1_isSet_15
    · refine lv_iconst (v := 1) X.1 X.2.1 dX1_isSet_10 (by decide) ?_
      refine lv_goto (tgt := 15) X.1 X.2.1 dX1_isSet_11 (by decide) ?_
      exact ro_z X hr hlk rfl (by show (_ : Int32) = _; simp only [inI, Int32.lt_iff_toInt_lt, Int32.le_iff_toInt_le, ← Int32.toInt_inj, GE.ge, GT.gt, t_0, t_1, t_2, t_3, t_4, t_5, t_7, t_8, t_9, t_10, t_11, t_12, t_13, t_20, t_24, t_25, t_31, t_32, t_33, t_57, t_60, t_126, t_255, t_1048575, t_65535, t_65536, t_m1, t_m6] at *; split <;> first | rfl | (exfalso; omega)) dX1_isSet_15

def bI (b : Bool) : Int32 := if b = true then 1 else 0
theorem bI_0 {b : Bool} (h : bI b = 0) : b = false := by cases b <;> first | rfl | (exact absurd h (by decide))
theorem bI_1 {b : Bool} (h : ¬ bI b = 0) : b = true := by cases b <;> first | rfl | (exact absurd rfl h)
theorem inI_0 {a : Int32} {lo hi : Int} (h : inI a lo hi = 0) : ¬ (lo ≤ a.toInt ∧ a.toInt ≤ hi) := by
  unfold inI at h
  split at h
  · exact absurd h (by decide)
  · assumption
theorem inI_1 {a : Int32} {lo hi : Int} (h : ¬ inI a lo hi = 0) : lo ≤ a.toInt ∧ a.toInt ≤ hi := by
  unfold inI at h
  split at h
  · assumption
  · exact absurd rfl h
theorem inI_nat {a : Int32} {hi : Nat} (h : ¬ inI a 0 hi = 0) (hh : hi < 2 ^ 31) : ∃ x : Nat, x ≤ hi ∧ a = nI x := by
  have h1 := inI_1 h
  obtain ⟨j, hj, rfl⟩ := n_of h1.1
  have := h1.2
  rw [nI_toInt hj] at this
  exact ⟨j, by omega, rfl⟩
/-- a set of five cards of the pack -/
def handB (v : Int32) : Bool := decide (0 ≤ v.toInt ∧ v.toInt ≤ 1048575 ∧ sizeH v.toInt.toNat = 5)
theorem handB_n {x : Nat} (h : x ≤ 1048575) : handB (nI x) = decide (sizeH x = 5) := by
  unfold handB
  rw [nI_toInt (by omega), Int.toNat_natCast]
  apply decide_eq_decide.mpr
  constructor
  · exact fun h => h.2.2
  · exact fun q => ⟨by omega, by omega, q⟩
theorem handB_of {v : Int32} (h : handB v = true) : ∃ x : Nat, x ≤ 1048575 ∧ v = nI x ∧ sizeH x = 5 := by
  have h1 := of_decide_eq_true h
  obtain ⟨j, hj, rfl⟩ := n_of h1.1
  have h2 := h1.2
  rw [nI_toInt hj, Int.toNat_natCast] at h2
  exact ⟨j, by omega, rfl, h2.2⟩
theorem handB_out {v : Int32} (h : ¬ (0 ≤ v.toInt ∧ v.toInt ≤ 1048575)) : handB v = false := by
  unfold handB
  exact decide_eq_false (fun q => h ⟨q.1, q.2.1⟩)
theorem low_i (h : Nat) (hh : h ≤ 1048575) : nI h &&& (- nI h) = nI (lowb h) := by
  rw [n_neg _ (by omega), n_and]
  rfl
theorem jn_i (h : Nat) (h1 : 1 ≤ h) : (nI h ^^^ (-1)) &&& (nI h - 1) = nI (jN h) := by
  rw [show ((-1 : Int32)) = nI 4294967295 from by decide, n_xor, show (nI h - 1 : Int32) = nI (h - 1) from pk_sub (a := h) (b := 1) h1, n_and]
  rfl
theorem s_u : ∀ n, n < 32 → (((nI n).toUInt32 &&& Int32.toUInt32 31).toBitVec % 32).toNat = n := by decide +kernel
theorem s_l : ∀ n, n < 32 → ((nI n &&& 31).toBitVec.smod 32).toNat = n := by decide +kernel
theorem and_bit : ∀ x, x < 32 → ∀ r, r < 5 → pc5 (x &&& 2 ^ r) = x / 2 ^ r % 2 := by decide +kernel
theorem su_and (h m s : Nat) : su (h &&& m) s = su h s &&& su m s := by
  unfold su
  rw [show (32 : Nat) ^ s = 2 ^ (5 * s) by rw [Nat.pow_mul], ← Nat.shiftRight_eq_div_pow, ← Nat.shiftRight_eq_div_pow, ← Nat.shiftRight_eq_div_pow, Nat.shiftRight_and_distrib, show (32 : Nat) = 2 ^ 5 from rfl, Nat.and_mod_two_pow]
theorem size_rank1 (h m r : Nat) (hr : r < 5) (e0 : su m 0 = 2 ^ r) (e1 : su m 1 = 2 ^ r) (e2 : su m 2 = 2 ^ r) (e3 : su m 3 = 2 ^ r) : sizeH (h &&& m) = su h 0 / 2 ^ r % 2 + su h 1 / 2 ^ r % 2 + su h 2 / 2 ^ r % 2 + su h 3 / 2 ^ r % 2 := by
  unfold sizeH lenH
  rw [su_and, su_and, su_and, su_and, e0, e1, e2, e3, and_bit _ (su_lt h 0) r hr, and_bit _ (su_lt h 1) r hr, and_bit _ (su_lt h 2) r hr, and_bit _ (su_lt h 3) r hr]
theorem lin16 (a02 a12 a22 a32 a04 a14 a24 a34 a08 a18 a28 a38 a016 a116 a216 a316 : Nat) : 1 * (a02 + a12 + a22 + a32) + 2 * (a04 + a14 + a24 + a34) + 3 * (a08 + a18 + a28 + a38) + 4 * (a016 + a116 + a216 + a316) = (a02 + 2 * a04 + 3 * a08 + 4 * a016) + (a12 + 2 * a14 + 3 * a18 + 4 * a116) + (a22 + 2 * a24 + 3 * a28 + 4 * a216) + (a32 + 2 * a34 + 3 * a38 + 4 * a316) := by omega
theorem str_bc (h : Nat) : 1 * sizeH (h &&& 67650) + 2 * sizeH (h &&& 135300) + 3 * sizeH (h &&& 270600) + 4 * sizeH (h &&& 541200) = strH h := by
  have k1 := size_rank1 h 67650 1 (by decide) (by decide +kernel) (by decide +kernel) (by decide +kernel) (by decide +kernel)
  have k2 := size_rank1 h 135300 2 (by decide) (by decide +kernel) (by decide +kernel) (by decide +kernel) (by decide +kernel)
  have k3 := size_rank1 h 270600 3 (by decide) (by decide +kernel) (by decide +kernel) (by decide +kernel) (by decide +kernel)
  have k4 := size_rank1 h 541200 4 (by decide) (by decide +kernel) (by decide +kernel) (by decide +kernel) (by decide +kernel)
  simp only [Nat.reducePow] at k1 k2 k3 k4
  rw [k1, k2, k3, k4]
  exact lin16 (su h 0 / 2 % 2) (su h 1 / 2 % 2) (su h 2 / 2 % 2) (su h 3 / 2 % 2) (su h 0 / 4 % 2) (su h 1 / 4 % 2) (su h 2 / 4 % 2) (su h 3 / 4 % 2) (su h 0 / 8 % 2) (su h 1 / 8 % 2) (su h 2 / 8 % 2) (su h 3 / 8 % 2) (su h 0 / 16 % 2) (su h 1 / 16 % 2) (su h 2 / 16 % 2) (su h 3 / 16 % 2)
theorem sizeH_le (h : Nat) : sizeH h ≤ 20 := by
  have := lenH_le h 0; have := lenH_le h 1; have := lenH_le h 2; have := lenH_le h 3
  unfold sizeH
  omega
set_option maxHeartbeats 4000000 in
set_option maxRecDepth 100000 in
theorem c_J6_bitCount_0f7a4 (l : Launch) (G : HG) (hp : HP) (x : Nat) (hx : x < 1048576) : Met l yJ6_bitCount_0f7a4 [.code yJ6_bitCount_0f7a4 cJ6_bitCount_0f7a4 1 (some .int)] { frames := 0, cells := 0, slots := 0, locals := 0 } (va_Pc [.int (nI x)] (RP G hp)) (vp_Si (fun r => r = nI (sizeH x))) 0 0 (fun _ => False) := by
  refine ro_ofW (by decide) (Nat.le_of_ble_eq_true rfl) ?_
  intro p e s m args below meth c ls X hr hlk hH hl
  have hS : va_S (fun _ => False) s.heap s.heap [] := va_S.rf
  have hl : lv_has ls 1 [(0, .int (nI x))] := hl
  refine lv_iload_n X.1 X.2.1 dJ6_bitCount_0f7a4_0 rfl (lv_at hl 0 rfl) ?_
  refine lv_iload_n X.1 X.2.1 dJ6_bitCount_0f7a4_1 rfl (lv_at hl 0 rfl) ?_
  refine lv_iconst (v := 1) X.1 X.2.1 dJ6_bitCount_0f7a4_2 (by decide) ?_
  refine lv_iushr X.1 X.2.1 dJ6_bitCount_0f7a4_3 rfl ?_
  refine r_eqi (show ((((nI x).toUInt32 >>> (Int32.toUInt32 1 &&& Int32.toUInt32 31)).toInt32) : Int32) = nI (x / 2) from pk_ushrN (n := x) (by omega) _ 1 (by decide)) ?_
  refine r_constW X tw_203 dJ6_bitCount_0f7a4_4 ?_
  refine lv_iand X.1 X.2.1 dJ6_bitCount_0f7a4_7 ?_
  refine r_eqi (show (((nI (x / 2)) &&& 1431655765) : Int32) = nI ((x / 2) &&& 1431655765) from n_and (x / 2) 1431655765) ?_
  refine lv_isub X.1 X.2.1 dJ6_bitCount_0f7a4_8 ?_
  refine r_eqi (show (((nI x) - (nI ((x / 2) &&& 1431655765))) : Int32) = nI (x - ((x / 2) &&& 1431655765)) from pk_sub (a := x) (b := ((x / 2) &&& 1431655765)) (Nat.le_trans Nat.and_le_left (by omega))) ?_
  obtain ⟨z_9, ez_9⟩ : ∃ z : Nat, z = (x - ((x / 2) &&& 1431655765)) := ⟨_, rfl⟩
  refine r_eqi (show nI (x - ((x / 2) &&& 1431655765)) = nI z_9 from by rw [ez_9]) ?_
  have b1 : z_9 ≤ x := by rw [ez_9]; exact Nat.sub_le _ _
  refine lv_istore_n (lv' := [(0, .int (nI z_9))]) X.1 X.2.1 dJ6_bitCount_0f7a4_9 rfl hl (by decide) rfl (fun ls hl => ?_)
  refine lv_iload_n X.1 X.2.1 dJ6_bitCount_0f7a4_10 rfl (lv_at hl 0 rfl) ?_
  refine r_constW X tw_204 dJ6_bitCount_0f7a4_11 ?_
  refine lv_iand X.1 X.2.1 dJ6_bitCount_0f7a4_14 ?_
  refine r_eqi (show (((nI z_9) &&& 858993459) : Int32) = nI (z_9 &&& 858993459) from n_and z_9 858993459) ?_
  refine lv_iload_n X.1 X.2.1 dJ6_bitCount_0f7a4_15 rfl (lv_at hl 0 rfl) ?_
  refine lv_iconst (v := 2) X.1 X.2.1 dJ6_bitCount_0f7a4_16 (by decide) ?_
  refine lv_iushr X.1 X.2.1 dJ6_bitCount_0f7a4_17 rfl ?_
  refine r_eqi (show ((((nI z_9).toUInt32 >>> (Int32.toUInt32 2 &&& Int32.toUInt32 31)).toInt32) : Int32) = nI (z_9 / 4) from pk_ushrN (n := z_9) (by omega) _ 2 (by decide)) ?_
  refine r_constW X tw_204 dJ6_bitCount_0f7a4_18 ?_
  refine lv_iand X.1 X.2.1 dJ6_bitCount_0f7a4_21 ?_
  refine r_eqi (show (((nI (z_9 / 4)) &&& 858993459) : Int32) = nI ((z_9 / 4) &&& 858993459) from n_and (z_9 / 4) 858993459) ?_
  refine lv_iadd X.1 X.2.1 dJ6_bitCount_0f7a4_22 ?_
  refine r_eqi (show (((nI (z_9 &&& 858993459)) + (nI ((z_9 / 4) &&& 858993459))) : Int32) = nI ((z_9 &&& 858993459) + ((z_9 / 4) &&& 858993459)) from nI_add (z_9 &&& 858993459) ((z_9 / 4) &&& 858993459)) ?_
  obtain ⟨z_23, ez_23⟩ : ∃ z : Nat, z = ((z_9 &&& 858993459) + ((z_9 / 4) &&& 858993459)) := ⟨_, rfl⟩
  refine r_eqi (show nI ((z_9 &&& 858993459) + ((z_9 / 4) &&& 858993459)) = nI z_23 from by rw [ez_23]) ?_
  have b2 : z_23 ≤ 2 * x := by rw [ez_23]; have := @Nat.and_le_left z_9 858993459; have := @Nat.and_le_left (z_9 / 4) 858993459; omega
  refine lv_istore_n (lv' := [(0, .int (nI z_23))]) X.1 X.2.1 dJ6_bitCount_0f7a4_23 rfl hl (by decide) rfl (fun ls hl => ?_)
  refine lv_iload_n X.1 X.2.1 dJ6_bitCount_0f7a4_24 rfl (lv_at hl 0 rfl) ?_
  refine lv_iload_n X.1 X.2.1 dJ6_bitCount_0f7a4_25 rfl (lv_at hl 0 rfl) ?_
  refine lv_iconst (v := 4) X.1 X.2.1 dJ6_bitCount_0f7a4_26 (by decide) ?_
  refine lv_iushr X.1 X.2.1 dJ6_bitCount_0f7a4_27 rfl ?_
  refine r_eqi (show ((((nI z_23).toUInt32 >>> (Int32.toUInt32 4 &&& Int32.toUInt32 31)).toInt32) : Int32) = nI (z_23 / 16) from pk_ushrN (n := z_23) (by omega) _ 4 (by decide)) ?_
  refine lv_iadd X.1 X.2.1 dJ6_bitCount_0f7a4_28 ?_
  refine r_eqi (show (((nI z_23) + (nI (z_23 / 16))) : Int32) = nI (z_23 + (z_23 / 16)) from nI_add z_23 (z_23 / 16)) ?_
  refine r_constW X tw_205 dJ6_bitCount_0f7a4_29 ?_
  refine lv_iand X.1 X.2.1 dJ6_bitCount_0f7a4_32 ?_
  refine r_eqi (show (((nI (z_23 + (z_23 / 16))) &&& 252645135) : Int32) = nI ((z_23 + (z_23 / 16)) &&& 252645135) from n_and (z_23 + (z_23 / 16)) 252645135) ?_
  obtain ⟨z_33, ez_33⟩ : ∃ z : Nat, z = ((z_23 + (z_23 / 16)) &&& 252645135) := ⟨_, rfl⟩
  refine r_eqi (show nI ((z_23 + (z_23 / 16)) &&& 252645135) = nI z_33 from by rw [ez_33]) ?_
  have b3 : z_33 ≤ 252645135 := by rw [ez_33]; exact Nat.and_le_right
  refine lv_istore_n (lv' := [(0, .int (nI z_33))]) X.1 X.2.1 dJ6_bitCount_0f7a4_33 rfl hl (by decide) rfl (fun ls hl => ?_)
  refine lv_iload_n X.1 X.2.1 dJ6_bitCount_0f7a4_34 rfl (lv_at hl 0 rfl) ?_
  refine lv_iload_n X.1 X.2.1 dJ6_bitCount_0f7a4_35 rfl (lv_at hl 0 rfl) ?_
  refine lv_bipush (v := 8) X.1 X.2.1 dJ6_bitCount_0f7a4_36 (by decide) ?_
  refine lv_iushr X.1 X.2.1 dJ6_bitCount_0f7a4_38 rfl ?_
  refine r_eqi (show ((((nI z_33).toUInt32 >>> (Int32.toUInt32 8 &&& Int32.toUInt32 31)).toInt32) : Int32) = nI (z_33 / 256) from pk_ushrN (n := z_33) (by omega) _ 8 (by decide)) ?_
  refine lv_iadd X.1 X.2.1 dJ6_bitCount_0f7a4_39 ?_
  refine r_eqi (show (((nI z_33) + (nI (z_33 / 256))) : Int32) = nI (z_33 + (z_33 / 256)) from nI_add z_33 (z_33 / 256)) ?_
  obtain ⟨z_40, ez_40⟩ : ∃ z : Nat, z = (z_33 + (z_33 / 256)) := ⟨_, rfl⟩
  refine r_eqi (show nI (z_33 + (z_33 / 256)) = nI z_40 from by rw [ez_40]) ?_
  have b4 : z_40 ≤ 300000000 := by rw [ez_40]; omega
  refine lv_istore_n (lv' := [(0, .int (nI z_40))]) X.1 X.2.1 dJ6_bitCount_0f7a4_40 rfl hl (by decide) rfl (fun ls hl => ?_)
  refine lv_iload_n X.1 X.2.1 dJ6_bitCount_0f7a4_41 rfl (lv_at hl 0 rfl) ?_
  refine lv_iload_n X.1 X.2.1 dJ6_bitCount_0f7a4_42 rfl (lv_at hl 0 rfl) ?_
  refine lv_bipush (v := 16) X.1 X.2.1 dJ6_bitCount_0f7a4_43 (by decide) ?_
  refine lv_iushr X.1 X.2.1 dJ6_bitCount_0f7a4_45 rfl ?_
  refine r_eqi (show ((((nI z_40).toUInt32 >>> (Int32.toUInt32 16 &&& Int32.toUInt32 31)).toInt32) : Int32) = nI (z_40 / 65536) from pk_ushrN (n := z_40) (by omega) _ 16 (by decide)) ?_
  refine lv_iadd X.1 X.2.1 dJ6_bitCount_0f7a4_46 ?_
  refine r_eqi (show (((nI z_40) + (nI (z_40 / 65536))) : Int32) = nI (z_40 + (z_40 / 65536)) from nI_add z_40 (z_40 / 65536)) ?_
  obtain ⟨z_47, ez_47⟩ : ∃ z : Nat, z = (z_40 + (z_40 / 65536)) := ⟨_, rfl⟩
  refine r_eqi (show nI (z_40 + (z_40 / 65536)) = nI z_47 from by rw [ez_47]) ?_
  have b5 : z_47 ≤ 400000000 := by rw [ez_47]; omega
  refine lv_istore_n (lv' := [(0, .int (nI z_47))]) X.1 X.2.1 dJ6_bitCount_0f7a4_47 rfl hl (by decide) rfl (fun ls hl => ?_)
  refine lv_iload_n X.1 X.2.1 dJ6_bitCount_0f7a4_48 rfl (lv_at hl 0 rfl) ?_
  refine lv_bipush (v := 63) X.1 X.2.1 dJ6_bitCount_0f7a4_49 (by decide) ?_
  refine lv_iand X.1 X.2.1 dJ6_bitCount_0f7a4_51 ?_
  refine r_eqi (show (((nI z_47) &&& 63) : Int32) = nI (z_47 % 64) from n_and63 z_47) ?_
  exact ro_i X hr hlk (by show nI _ = nI _; rw [← bc_size x hx]; subst_vars; exact congrArg nI (Nat.and_two_pow_sub_one_eq_mod _ 6).symm) dJ6_bitCount_0f7a4_52

set_option maxHeartbeats 4000000 in
set_option maxRecDepth 100000 in
theorem c_J6_numberOfTrailingZeros_0f7a4 (l : Launch) (G : HG) (hp : HP) (h : Nat) (h1 : 1 ≤ h) (h2 : h ≤ 1048575) : Met l yJ6_numberOfTrailingZeros_0f7a4 [.code yJ6_numberOfTrailingZeros_0f7a4 cJ6_numberOfTrailingZeros_0f7a4 2 (some .int)] { frames := 0, cells := 0, slots := 0, locals := 0 } (va_Pc [.int (nI h)] (RP G hp)) (vp_Si (fun r => r = nI (tzN (jN h)))) 0 0 (fun _ => False) := by
  refine ro_ofW (by decide) (Nat.le_of_ble_eq_true rfl) ?_
  intro p e s m args below meth c ls X hr hlk hH hl
  have hS : va_S (fun _ => False) s.heap s.heap [] := va_S.rf
  have hl : lv_has ls 2 [(0, .int (nI h))] := hl
  have hj := jN_le h
  refine lv_iload_n X.1 X.2.1 dJ6_numberOfTrailingZeros_0f7a4_0 rfl (lv_at hl 0 rfl) ?_
  refine lv_iconst (v := (-1)) X.1 X.2.1 dJ6_numberOfTrailingZeros_0f7a4_1 (by decide) ?_
  refine lv_ixor X.1 X.2.1 dJ6_numberOfTrailingZeros_0f7a4_2 ?_
  refine lv_iload_n X.1 X.2.1 dJ6_numberOfTrailingZeros_0f7a4_3 rfl (lv_at hl 0 rfl) ?_
  refine lv_iconst (v := 1) X.1 X.2.1 dJ6_numberOfTrailingZeros_0f7a4_4 (by decide) ?_
  refine lv_isub X.1 X.2.1 dJ6_numberOfTrailingZeros_0f7a4_5 ?_
  refine lv_iand X.1 X.2.1 dJ6_numberOfTrailingZeros_0f7a4_6 ?_
  refine r_eqi (show ((((nI h) ^^^ (-1)) &&& ((nI h) - 1)) : Int32) = nI (jN h) from jn_i h h1) ?_
  refine lv_istore_n (lv' := [(0, .int (nI (jN h)))]) X.1 X.2.1 dJ6_numberOfTrailingZeros_0f7a4_7 rfl hl (by decide) rfl (fun ls hl => ?_)
  refine lv_iload_n X.1 X.2.1 dJ6_numberOfTrailingZeros_0f7a4_8 rfl (lv_at hl 0 rfl) ?_
  refine lv_if_gt (tgt := 17) X.1 X.2.1 dJ6_numberOfTrailingZeros_0f7a4_9 (by decide) (fun c_9 => ?_) (fun c_9 => ?_)
  · have k_9 := k_lt (a := 0) (b := (jN h)) (by omega) (by omega) c_9
    refine lv_iconst (v := 1) X.1 X.2.1 dJ6_numberOfTrailingZeros_0f7a4_17 (by decide) ?_
    refine lv_istore_n (lv' := [(1, .int 1), (0, .int (nI (jN h)))]) X.1 X.2.1 dJ6_numberOfTrailingZeros_0f7a4_18 rfl hl (by decide) rfl (fun ls hl => ?_)
    refine lv_iload_n X.1 X.2.1 dJ6_numberOfTrailingZeros_0f7a4_19 rfl (lv_at hl 1 rfl) ?_
    refine r_constW X tw_461 dJ6_numberOfTrailingZeros_0f7a4_20 ?_
    refine lv_icmp_le (tgt := 34) X.1 X.2.1 dJ6_numberOfTrailingZeros_0f7a4_23 (by decide) (fun c_23 => ?_) (fun c_23 => ?_)
    · have k_23 := k_le (a := (jN h)) (b := 65536) (by omega) (by omega) c_23
      refine lv_iload_n X.1 X.2.1 dJ6_numberOfTrailingZeros_0f7a4_34 rfl (lv_at hl 1 rfl) ?_
      refine lv_sipush (v := 256) X.1 X.2.1 dJ6_numberOfTrailingZeros_0f7a4_35 (by decide) ?_
      refine lv_icmp_le (tgt := 49) X.1 X.2.1 dJ6_numberOfTrailingZeros_0f7a4_38 (by decide) (fun c_38 => ?_) (fun c_38 => ?_)
      · have k_38 := k_le (a := (jN h)) (b := 256) (by omega) (by omega) c_38
        refine lv_iload_n X.1 X.2.1 dJ6_numberOfTrailingZeros_0f7a4_49 rfl (lv_at hl 1 rfl) ?_
        refine lv_bipush (v := 16) X.1 X.2.1 dJ6_numberOfTrailingZeros_0f7a4_50 (by decide) ?_
        refine lv_icmp_le (tgt := 62) X.1 X.2.1 dJ6_numberOfTrailingZeros_0f7a4_52 (by decide) (fun c_52 => ?_) (fun c_52 => ?_)
        · have k_52 := k_le (a := (jN h)) (b := 16) (by omega) (by omega) c_52
          refine lv_iload_n X.1 X.2.1 dJ6_numberOfTrailingZeros_0f7a4_62 rfl (lv_at hl 1 rfl) ?_
          refine lv_iconst (v := 4) X.1 X.2.1 dJ6_numberOfTrailingZeros_0f7a4_63 (by decide) ?_
          refine lv_icmp_le (tgt := 74) X.1 X.2.1 dJ6_numberOfTrailingZeros_0f7a4_64 (by decide) (fun c_64 => ?_) (fun c_64 => ?_)
          · have k_64 := k_le (a := (jN h)) (b := 4) (by omega) (by omega) c_64
            refine lv_iload_n X.1 X.2.1 dJ6_numberOfTrailingZeros_0f7a4_74 rfl (lv_at hl 0 rfl) ?_
            refine lv_iload_n X.1 X.2.1 dJ6_numberOfTrailingZeros_0f7a4_75 rfl (lv_at hl 1 rfl) ?_
            refine lv_iconst (v := 1) X.1 X.2.1 dJ6_numberOfTrailingZeros_0f7a4_76 (by decide) ?_
            refine lv_iushr X.1 X.2.1 dJ6_numberOfTrailingZeros_0f7a4_77 rfl ?_
            refine r_eqi (show ((((nI (jN h)).toUInt32 >>> (Int32.toUInt32 1 &&& Int32.toUInt32 31)).toInt32) : Int32) = nI ((jN h) / 2) from pk_ushrN (n := (jN h)) (by omega) _ 1 (by decide)) ?_
            refine lv_iadd X.1 X.2.1 dJ6_numberOfTrailingZeros_0f7a4_78 ?_
            refine r_eqi (show (((1 : Int32) + (nI ((jN h) / 2))) : Int32) = nI (1 + ((jN h) / 2)) from nI_add 1 ((jN h) / 2)) ?_
            exact ro_i X hr hlk (by show nI _ = nI _; refine congrArg nI ?_; unfold tzN; rw [if_neg (show ¬ jN h = 0 by omega)]; dsimp only; rw [if_neg (show ¬ 65536 < jN h by omega)]; dsimp only; rw [if_neg (show ¬ 256 < jN h by omega)]; dsimp only; rw [if_neg (show ¬ 16 < jN h by omega)]; dsimp only; rw [if_neg (show ¬ 4 < jN h by omega)]) dJ6_numberOfTrailingZeros_0f7a4_79
          · have k_64 := k_nle (a := (jN h)) (b := 4) (by omega) (by omega) c_64
            refine lv_iinc (v := 3) (lv' := [(1, .int 3), (0, .int (nI (jN h)))]) X.1 X.2.1 dJ6_numberOfTrailingZeros_0f7a4_67 hl (k := 0) rfl (by decide) (by decide) rfl (fun ls hl => ?_)
            refine lv_iload_n X.1 X.2.1 dJ6_numberOfTrailingZeros_0f7a4_70 rfl (lv_at hl 1 rfl) ?_
            refine lv_iconst (v := 2) X.1 X.2.1 dJ6_numberOfTrailingZeros_0f7a4_71 (by decide) ?_
            refine lv_iushr X.1 X.2.1 dJ6_numberOfTrailingZeros_0f7a4_72 rfl ?_
            refine r_eqi (show ((((nI (jN h)).toUInt32 >>> (Int32.toUInt32 2 &&& Int32.toUInt32 31)).toInt32) : Int32) = nI ((jN h) / 4) from pk_ushrN (n := (jN h)) (by omega) _ 2 (by decide)) ?_
            refine lv_istore_n (lv' := [(0, .int (nI ((jN h) / 4))), (1, .int 3)]) X.1 X.2.1 dJ6_numberOfTrailingZeros_0f7a4_73 rfl hl (by decide) rfl (fun ls hl => ?_)
            refine lv_iload_n X.1 X.2.1 dJ6_numberOfTrailingZeros_0f7a4_74 rfl (lv_at hl 1 rfl) ?_
            refine lv_iload_n X.1 X.2.1 dJ6_numberOfTrailingZeros_0f7a4_75 rfl (lv_at hl 0 rfl) ?_
            refine lv_iconst (v := 1) X.1 X.2.1 dJ6_numberOfTrailingZeros_0f7a4_76 (by decide) ?_
            refine lv_iushr X.1 X.2.1 dJ6_numberOfTrailingZeros_0f7a4_77 rfl ?_
            refine r_eqi (show ((((nI ((jN h) / 4)).toUInt32 >>> (Int32.toUInt32 1 &&& Int32.toUInt32 31)).toInt32) : Int32) = nI (((jN h) / 4) / 2) from pk_ushrN (n := ((jN h) / 4)) (by omega) _ 1 (by decide)) ?_
            refine lv_iadd X.1 X.2.1 dJ6_numberOfTrailingZeros_0f7a4_78 ?_
            refine r_eqi (show (((3 : Int32) + (nI (((jN h) / 4) / 2))) : Int32) = nI (3 + (((jN h) / 4) / 2)) from nI_add 3 (((jN h) / 4) / 2)) ?_
            exact ro_i X hr hlk (by show nI _ = nI _; refine congrArg nI ?_; unfold tzN; rw [if_neg (show ¬ jN h = 0 by omega)]; dsimp only; rw [if_neg (show ¬ 65536 < jN h by omega)]; dsimp only; rw [if_neg (show ¬ 256 < jN h by omega)]; dsimp only; rw [if_neg (show ¬ 16 < jN h by omega)]; dsimp only; rw [if_pos (show 4 < jN h by omega)]) dJ6_numberOfTrailingZeros_0f7a4_79
        · have k_52 := k_nle (a := (jN h)) (b := 16) (by omega) (by omega) c_52
          refine lv_iinc (v := 5) (lv' := [(1, .int 5), (0, .int (nI (jN h)))]) X.1 X.2.1 dJ6_numberOfTrailingZeros_0f7a4_55 hl (k := 0) rfl (by decide) (by decide) rfl (fun ls hl => ?_)
          refine lv_iload_n X.1 X.2.1 dJ6_numberOfTrailingZeros_0f7a4_58 rfl (lv_at hl 1 rfl) ?_
          refine lv_iconst (v := 4) X.1 X.2.1 dJ6_numberOfTrailingZeros_0f7a4_59 (by decide) ?_
          refine lv_iushr X.1 X.2.1 dJ6_numberOfTrailingZeros_0f7a4_60 rfl ?_
          refine r_eqi (show ((((nI (jN h)).toUInt32 >>> (Int32.toUInt32 4 &&& Int32.toUInt32 31)).toInt32) : Int32) = nI ((jN h) / 16) from pk_ushrN (n := (jN h)) (by omega) _ 4 (by decide)) ?_
          refine lv_istore_n (lv' := [(0, .int (nI ((jN h) / 16))), (1, .int 5)]) X.1 X.2.1 dJ6_numberOfTrailingZeros_0f7a4_61 rfl hl (by decide) rfl (fun ls hl => ?_)
          refine lv_iload_n X.1 X.2.1 dJ6_numberOfTrailingZeros_0f7a4_62 rfl (lv_at hl 0 rfl) ?_
          refine lv_iconst (v := 4) X.1 X.2.1 dJ6_numberOfTrailingZeros_0f7a4_63 (by decide) ?_
          refine lv_icmp_le (tgt := 74) X.1 X.2.1 dJ6_numberOfTrailingZeros_0f7a4_64 (by decide) (fun c_64 => ?_) (fun c_64 => ?_)
          · have k_64 := k_le (a := ((jN h) / 16)) (b := 4) (by omega) (by omega) c_64
            refine lv_iload_n X.1 X.2.1 dJ6_numberOfTrailingZeros_0f7a4_74 rfl (lv_at hl 1 rfl) ?_
            refine lv_iload_n X.1 X.2.1 dJ6_numberOfTrailingZeros_0f7a4_75 rfl (lv_at hl 0 rfl) ?_
            refine lv_iconst (v := 1) X.1 X.2.1 dJ6_numberOfTrailingZeros_0f7a4_76 (by decide) ?_
            refine lv_iushr X.1 X.2.1 dJ6_numberOfTrailingZeros_0f7a4_77 rfl ?_
            refine r_eqi (show ((((nI ((jN h) / 16)).toUInt32 >>> (Int32.toUInt32 1 &&& Int32.toUInt32 31)).toInt32) : Int32) = nI (((jN h) / 16) / 2) from pk_ushrN (n := ((jN h) / 16)) (by omega) _ 1 (by decide)) ?_
            refine lv_iadd X.1 X.2.1 dJ6_numberOfTrailingZeros_0f7a4_78 ?_
            refine r_eqi (show (((5 : Int32) + (nI (((jN h) / 16) / 2))) : Int32) = nI (5 + (((jN h) / 16) / 2)) from nI_add 5 (((jN h) / 16) / 2)) ?_
            exact ro_i X hr hlk (by show nI _ = nI _; refine congrArg nI ?_; unfold tzN; rw [if_neg (show ¬ jN h = 0 by omega)]; dsimp only; rw [if_neg (show ¬ 65536 < jN h by omega)]; dsimp only; rw [if_neg (show ¬ 256 < jN h by omega)]; dsimp only; rw [if_pos (show 16 < jN h by omega)]; dsimp only; rw [if_neg (show ¬ 4 < jN h / 16 by omega)]) dJ6_numberOfTrailingZeros_0f7a4_79
          · have k_64 := k_nle (a := ((jN h) / 16)) (b := 4) (by omega) (by omega) c_64
            refine lv_iinc (v := 7) (lv' := [(1, .int 7), (0, .int (nI ((jN h) / 16)))]) X.1 X.2.1 dJ6_numberOfTrailingZeros_0f7a4_67 hl (k := 1) rfl (by decide) (by decide) rfl (fun ls hl => ?_)
            refine lv_iload_n X.1 X.2.1 dJ6_numberOfTrailingZeros_0f7a4_70 rfl (lv_at hl 1 rfl) ?_
            refine lv_iconst (v := 2) X.1 X.2.1 dJ6_numberOfTrailingZeros_0f7a4_71 (by decide) ?_
            refine lv_iushr X.1 X.2.1 dJ6_numberOfTrailingZeros_0f7a4_72 rfl ?_
            refine r_eqi (show ((((nI ((jN h) / 16)).toUInt32 >>> (Int32.toUInt32 2 &&& Int32.toUInt32 31)).toInt32) : Int32) = nI (((jN h) / 16) / 4) from pk_ushrN (n := ((jN h) / 16)) (by omega) _ 2 (by decide)) ?_
            refine lv_istore_n (lv' := [(0, .int (nI (((jN h) / 16) / 4))), (1, .int 7)]) X.1 X.2.1 dJ6_numberOfTrailingZeros_0f7a4_73 rfl hl (by decide) rfl (fun ls hl => ?_)
            refine lv_iload_n X.1 X.2.1 dJ6_numberOfTrailingZeros_0f7a4_74 rfl (lv_at hl 1 rfl) ?_
            refine lv_iload_n X.1 X.2.1 dJ6_numberOfTrailingZeros_0f7a4_75 rfl (lv_at hl 0 rfl) ?_
            refine lv_iconst (v := 1) X.1 X.2.1 dJ6_numberOfTrailingZeros_0f7a4_76 (by decide) ?_
            refine lv_iushr X.1 X.2.1 dJ6_numberOfTrailingZeros_0f7a4_77 rfl ?_
            refine r_eqi (show ((((nI (((jN h) / 16) / 4)).toUInt32 >>> (Int32.toUInt32 1 &&& Int32.toUInt32 31)).toInt32) : Int32) = nI ((((jN h) / 16) / 4) / 2) from pk_ushrN (n := (((jN h) / 16) / 4)) (by omega) _ 1 (by decide)) ?_
            refine lv_iadd X.1 X.2.1 dJ6_numberOfTrailingZeros_0f7a4_78 ?_
            refine r_eqi (show (((7 : Int32) + (nI ((((jN h) / 16) / 4) / 2))) : Int32) = nI (7 + ((((jN h) / 16) / 4) / 2)) from nI_add 7 ((((jN h) / 16) / 4) / 2)) ?_
            exact ro_i X hr hlk (by show nI _ = nI _; refine congrArg nI ?_; unfold tzN; rw [if_neg (show ¬ jN h = 0 by omega)]; dsimp only; rw [if_neg (show ¬ 65536 < jN h by omega)]; dsimp only; rw [if_neg (show ¬ 256 < jN h by omega)]; dsimp only; rw [if_pos (show 16 < jN h by omega)]; dsimp only; rw [if_pos (show 4 < jN h / 16 by omega)]) dJ6_numberOfTrailingZeros_0f7a4_79
      · have k_38 := k_nle (a := (jN h)) (b := 256) (by omega) (by omega) c_38
        refine lv_iinc (v := 9) (lv' := [(1, .int 9), (0, .int (nI (jN h)))]) X.1 X.2.1 dJ6_numberOfTrailingZeros_0f7a4_41 hl (k := 0) rfl (by decide) (by decide) rfl (fun ls hl => ?_)
        refine lv_iload_n X.1 X.2.1 dJ6_numberOfTrailingZeros_0f7a4_44 rfl (lv_at hl 1 rfl) ?_
        refine lv_bipush (v := 8) X.1 X.2.1 dJ6_numberOfTrailingZeros_0f7a4_45 (by decide) ?_
        refine lv_iushr X.1 X.2.1 dJ6_numberOfTrailingZeros_0f7a4_47 rfl ?_
        refine r_eqi (show ((((nI (jN h)).toUInt32 >>> (Int32.toUInt32 8 &&& Int32.toUInt32 31)).toInt32) : Int32) = nI ((jN h) / 256) from pk_ushrN (n := (jN h)) (by omega) _ 8 (by decide)) ?_
        refine lv_istore_n (lv' := [(0, .int (nI ((jN h) / 256))), (1, .int 9)]) X.1 X.2.1 dJ6_numberOfTrailingZeros_0f7a4_48 rfl hl (by decide) rfl (fun ls hl => ?_)
        refine lv_iload_n X.1 X.2.1 dJ6_numberOfTrailingZeros_0f7a4_49 rfl (lv_at hl 0 rfl) ?_
        refine lv_bipush (v := 16) X.1 X.2.1 dJ6_numberOfTrailingZeros_0f7a4_50 (by decide) ?_
        refine lv_icmp_le (tgt := 62) X.1 X.2.1 dJ6_numberOfTrailingZeros_0f7a4_52 (by decide) (fun c_52 => ?_) (fun c_52 => ?_)
        · have k_52 := k_le (a := ((jN h) / 256)) (b := 16) (by omega) (by omega) c_52
          refine lv_iload_n X.1 X.2.1 dJ6_numberOfTrailingZeros_0f7a4_62 rfl (lv_at hl 0 rfl) ?_
          refine lv_iconst (v := 4) X.1 X.2.1 dJ6_numberOfTrailingZeros_0f7a4_63 (by decide) ?_
          refine lv_icmp_le (tgt := 74) X.1 X.2.1 dJ6_numberOfTrailingZeros_0f7a4_64 (by decide) (fun c_64 => ?_) (fun c_64 => ?_)
          · have k_64 := k_le (a := ((jN h) / 256)) (b := 4) (by omega) (by omega) c_64
            refine lv_iload_n X.1 X.2.1 dJ6_numberOfTrailingZeros_0f7a4_74 rfl (lv_at hl 1 rfl) ?_
            refine lv_iload_n X.1 X.2.1 dJ6_numberOfTrailingZeros_0f7a4_75 rfl (lv_at hl 0 rfl) ?_
            refine lv_iconst (v := 1) X.1 X.2.1 dJ6_numberOfTrailingZeros_0f7a4_76 (by decide) ?_
            refine lv_iushr X.1 X.2.1 dJ6_numberOfTrailingZeros_0f7a4_77 rfl ?_
            refine r_eqi (show ((((nI ((jN h) / 256)).toUInt32 >>> (Int32.toUInt32 1 &&& Int32.toUInt32 31)).toInt32) : Int32) = nI (((jN h) / 256) / 2) from pk_ushrN (n := ((jN h) / 256)) (by omega) _ 1 (by decide)) ?_
            refine lv_iadd X.1 X.2.1 dJ6_numberOfTrailingZeros_0f7a4_78 ?_
            refine r_eqi (show (((9 : Int32) + (nI (((jN h) / 256) / 2))) : Int32) = nI (9 + (((jN h) / 256) / 2)) from nI_add 9 (((jN h) / 256) / 2)) ?_
            exact ro_i X hr hlk (by show nI _ = nI _; refine congrArg nI ?_; unfold tzN; rw [if_neg (show ¬ jN h = 0 by omega)]; dsimp only; rw [if_neg (show ¬ 65536 < jN h by omega)]; dsimp only; rw [if_pos (show 256 < jN h by omega)]; dsimp only; rw [if_neg (show ¬ 16 < jN h / 256 by omega)]; dsimp only; rw [if_neg (show ¬ 4 < jN h / 256 by omega)]) dJ6_numberOfTrailingZeros_0f7a4_79
          · have k_64 := k_nle (a := ((jN h) / 256)) (b := 4) (by omega) (by omega) c_64
            refine lv_iinc (v := 11) (lv' := [(1, .int 11), (0, .int (nI ((jN h) / 256)))]) X.1 X.2.1 dJ6_numberOfTrailingZeros_0f7a4_67 hl (k := 1) rfl (by decide) (by decide) rfl (fun ls hl => ?_)
            refine lv_iload_n X.1 X.2.1 dJ6_numberOfTrailingZeros_0f7a4_70 rfl (lv_at hl 1 rfl) ?_
            refine lv_iconst (v := 2) X.1 X.2.1 dJ6_numberOfTrailingZeros_0f7a4_71 (by decide) ?_
            refine lv_iushr X.1 X.2.1 dJ6_numberOfTrailingZeros_0f7a4_72 rfl ?_
            refine r_eqi (show ((((nI ((jN h) / 256)).toUInt32 >>> (Int32.toUInt32 2 &&& Int32.toUInt32 31)).toInt32) : Int32) = nI (((jN h) / 256) / 4) from pk_ushrN (n := ((jN h) / 256)) (by omega) _ 2 (by decide)) ?_
            refine lv_istore_n (lv' := [(0, .int (nI (((jN h) / 256) / 4))), (1, .int 11)]) X.1 X.2.1 dJ6_numberOfTrailingZeros_0f7a4_73 rfl hl (by decide) rfl (fun ls hl => ?_)
            refine lv_iload_n X.1 X.2.1 dJ6_numberOfTrailingZeros_0f7a4_74 rfl (lv_at hl 1 rfl) ?_
            refine lv_iload_n X.1 X.2.1 dJ6_numberOfTrailingZeros_0f7a4_75 rfl (lv_at hl 0 rfl) ?_
            refine lv_iconst (v := 1) X.1 X.2.1 dJ6_numberOfTrailingZeros_0f7a4_76 (by decide) ?_
            refine lv_iushr X.1 X.2.1 dJ6_numberOfTrailingZeros_0f7a4_77 rfl ?_
            refine r_eqi (show ((((nI (((jN h) / 256) / 4)).toUInt32 >>> (Int32.toUInt32 1 &&& Int32.toUInt32 31)).toInt32) : Int32) = nI ((((jN h) / 256) / 4) / 2) from pk_ushrN (n := (((jN h) / 256) / 4)) (by omega) _ 1 (by decide)) ?_
            refine lv_iadd X.1 X.2.1 dJ6_numberOfTrailingZeros_0f7a4_78 ?_
            refine r_eqi (show (((11 : Int32) + (nI ((((jN h) / 256) / 4) / 2))) : Int32) = nI (11 + ((((jN h) / 256) / 4) / 2)) from nI_add 11 ((((jN h) / 256) / 4) / 2)) ?_
            exact ro_i X hr hlk (by show nI _ = nI _; refine congrArg nI ?_; unfold tzN; rw [if_neg (show ¬ jN h = 0 by omega)]; dsimp only; rw [if_neg (show ¬ 65536 < jN h by omega)]; dsimp only; rw [if_pos (show 256 < jN h by omega)]; dsimp only; rw [if_neg (show ¬ 16 < jN h / 256 by omega)]; dsimp only; rw [if_pos (show 4 < jN h / 256 by omega)]) dJ6_numberOfTrailingZeros_0f7a4_79
        · have k_52 := k_nle (a := ((jN h) / 256)) (b := 16) (by omega) (by omega) c_52
          refine lv_iinc (v := 13) (lv' := [(1, .int 13), (0, .int (nI ((jN h) / 256)))]) X.1 X.2.1 dJ6_numberOfTrailingZeros_0f7a4_55 hl (k := 1) rfl (by decide) (by decide) rfl (fun ls hl => ?_)
          refine lv_iload_n X.1 X.2.1 dJ6_numberOfTrailingZeros_0f7a4_58 rfl (lv_at hl 1 rfl) ?_
          refine lv_iconst (v := 4) X.1 X.2.1 dJ6_numberOfTrailingZeros_0f7a4_59 (by decide) ?_
          refine lv_iushr X.1 X.2.1 dJ6_numberOfTrailingZeros_0f7a4_60 rfl ?_
          refine r_eqi (show ((((nI ((jN h) / 256)).toUInt32 >>> (Int32.toUInt32 4 &&& Int32.toUInt32 31)).toInt32) : Int32) = nI (((jN h) / 256) / 16) from pk_ushrN (n := ((jN h) / 256)) (by omega) _ 4 (by decide)) ?_
          refine lv_istore_n (lv' := [(0, .int (nI (((jN h) / 256) / 16))), (1, .int 13)]) X.1 X.2.1 dJ6_numberOfTrailingZeros_0f7a4_61 rfl hl (by decide) rfl (fun ls hl => ?_)
          refine lv_iload_n X.1 X.2.1 dJ6_numberOfTrailingZeros_0f7a4_62 rfl (lv_at hl 0 rfl) ?_
          refine lv_iconst (v := 4) X.1 X.2.1 dJ6_numberOfTrailingZeros_0f7a4_63 (by decide) ?_
          refine lv_icmp_le (tgt := 74) X.1 X.2.1 dJ6_numberOfTrailingZeros_0f7a4_64 (by decide) (fun c_64 => ?_) (fun c_64 => ?_)
          · have k_64 := k_le (a := (((jN h) / 256) / 16)) (b := 4) (by omega) (by omega) c_64
            refine lv_iload_n X.1 X.2.1 dJ6_numberOfTrailingZeros_0f7a4_74 rfl (lv_at hl 1 rfl) ?_
            refine lv_iload_n X.1 X.2.1 dJ6_numberOfTrailingZeros_0f7a4_75 rfl (lv_at hl 0 rfl) ?_
            refine lv_iconst (v := 1) X.1 X.2.1 dJ6_numberOfTrailingZeros_0f7a4_76 (by decide) ?_
            refine lv_iushr X.1 X.2.1 dJ6_numberOfTrailingZeros_0f7a4_77 rfl ?_
            refine r_eqi (show ((((nI (((jN h) / 256) / 16)).toUInt32 >>> (Int32.toUInt32 1 &&& Int32.toUInt32 31)).toInt32) : Int32) = nI ((((jN h) / 256) / 16) / 2) from pk_ushrN (n := (((jN h) / 256) / 16)) (by omega) _ 1 (by decide)) ?_
            refine lv_iadd X.1 X.2.1 dJ6_numberOfTrailingZeros_0f7a4_78 ?_
            refine r_eqi (show (((13 : Int32) + (nI ((((jN h) / 256) / 16) / 2))) : Int32) = nI (13 + ((((jN h) / 256) / 16) / 2)) from nI_add 13 ((((jN h) / 256) / 16) / 2)) ?_
            exact ro_i X hr hlk (by show nI _ = nI _; refine congrArg nI ?_; unfold tzN; rw [if_neg (show ¬ jN h = 0 by omega)]; dsimp only; rw [if_neg (show ¬ 65536 < jN h by omega)]; dsimp only; rw [if_pos (show 256 < jN h by omega)]; dsimp only; rw [if_pos (show 16 < jN h / 256 by omega)]; dsimp only; rw [if_neg (show ¬ 4 < jN h / 256 / 16 by omega)]) dJ6_numberOfTrailingZeros_0f7a4_79
          · have k_64 := k_nle (a := (((jN h) / 256) / 16)) (b := 4) (by omega) (by omega) c_64
            refine lv_iinc (v := 15) (lv' := [(1, .int 15), (0, .int (nI (((jN h) / 256) / 16)))]) X.1 X.2.1 dJ6_numberOfTrailingZeros_0f7a4_67 hl (k := 1) rfl (by decide) (by decide) rfl (fun ls hl => ?_)
            refine lv_iload_n X.1 X.2.1 dJ6_numberOfTrailingZeros_0f7a4_70 rfl (lv_at hl 1 rfl) ?_
            refine lv_iconst (v := 2) X.1 X.2.1 dJ6_numberOfTrailingZeros_0f7a4_71 (by decide) ?_
            refine lv_iushr X.1 X.2.1 dJ6_numberOfTrailingZeros_0f7a4_72 rfl ?_
            refine r_eqi (show ((((nI (((jN h) / 256) / 16)).toUInt32 >>> (Int32.toUInt32 2 &&& Int32.toUInt32 31)).toInt32) : Int32) = nI ((((jN h) / 256) / 16) / 4) from pk_ushrN (n := (((jN h) / 256) / 16)) (by omega) _ 2 (by decide)) ?_
            refine lv_istore_n (lv' := [(0, .int (nI ((((jN h) / 256) / 16) / 4))), (1, .int 15)]) X.1 X.2.1 dJ6_numberOfTrailingZeros_0f7a4_73 rfl hl (by decide) rfl (fun ls hl => ?_)
            refine lv_iload_n X.1 X.2.1 dJ6_numberOfTrailingZeros_0f7a4_74 rfl (lv_at hl 1 rfl) ?_
            refine lv_iload_n X.1 X.2.1 dJ6_numberOfTrailingZeros_0f7a4_75 rfl (lv_at hl 0 rfl) ?_
            refine lv_iconst (v := 1) X.1 X.2.1 dJ6_numberOfTrailingZeros_0f7a4_76 (by decide) ?_
            refine lv_iushr X.1 X.2.1 dJ6_numberOfTrailingZeros_0f7a4_77 rfl ?_
            refine r_eqi (show ((((nI ((((jN h) / 256) / 16) / 4)).toUInt32 >>> (Int32.toUInt32 1 &&& Int32.toUInt32 31)).toInt32) : Int32) = nI (((((jN h) / 256) / 16) / 4) / 2) from pk_ushrN (n := ((((jN h) / 256) / 16) / 4)) (by omega) _ 1 (by decide)) ?_
            refine lv_iadd X.1 X.2.1 dJ6_numberOfTrailingZeros_0f7a4_78 ?_
            refine r_eqi (show (((15 : Int32) + (nI (((((jN h) / 256) / 16) / 4) / 2))) : Int32) = nI (15 + (((((jN h) / 256) / 16) / 4) / 2)) from nI_add 15 (((((jN h) / 256) / 16) / 4) / 2)) ?_
            exact ro_i X hr hlk (by show nI _ = nI _; refine congrArg nI ?_; unfold tzN; rw [if_neg (show ¬ jN h = 0 by omega)]; dsimp only; rw [if_neg (show ¬ 65536 < jN h by omega)]; dsimp only; rw [if_pos (show 256 < jN h by omega)]; dsimp only; rw [if_pos (show 16 < jN h / 256 by omega)]; dsimp only; rw [if_pos (show 4 < jN h / 256 / 16 by omega)]) dJ6_numberOfTrailingZeros_0f7a4_79
    · have k_23 := k_nle (a := (jN h)) (b := 65536) (by omega) (by omega) c_23
      refine lv_iinc (v := 17) (lv' := [(1, .int 17), (0, .int (nI (jN h)))]) X.1 X.2.1 dJ6_numberOfTrailingZeros_0f7a4_26 hl (k := 0) rfl (by decide) (by decide) rfl (fun ls hl => ?_)
      refine lv_iload_n X.1 X.2.1 dJ6_numberOfTrailingZeros_0f7a4_29 rfl (lv_at hl 1 rfl) ?_
      refine lv_bipush (v := 16) X.1 X.2.1 dJ6_numberOfTrailingZeros_0f7a4_30 (by decide) ?_
      refine lv_iushr X.1 X.2.1 dJ6_numberOfTrailingZeros_0f7a4_32 rfl ?_
      refine r_eqi (show ((((nI (jN h)).toUInt32 >>> (Int32.toUInt32 16 &&& Int32.toUInt32 31)).toInt32) : Int32) = nI ((jN h) / 65536) from pk_ushrN (n := (jN h)) (by omega) _ 16 (by decide)) ?_
      refine lv_istore_n (lv' := [(0, .int (nI ((jN h) / 65536))), (1, .int 17)]) X.1 X.2.1 dJ6_numberOfTrailingZeros_0f7a4_33 rfl hl (by decide) rfl (fun ls hl => ?_)
      refine lv_iload_n X.1 X.2.1 dJ6_numberOfTrailingZeros_0f7a4_34 rfl (lv_at hl 0 rfl) ?_
      refine lv_sipush (v := 256) X.1 X.2.1 dJ6_numberOfTrailingZeros_0f7a4_35 (by decide) ?_
      refine lv_icmp_le (tgt := 49) X.1 X.2.1 dJ6_numberOfTrailingZeros_0f7a4_38 (by decide) (fun c_38 => ?_) (fun c_38 => ?_)
      · have k_38 := k_le (a := ((jN h) / 65536)) (b := 256) (by omega) (by omega) c_38
        refine lv_iload_n X.1 X.2.1 dJ6_numberOfTrailingZeros_0f7a4_49 rfl (lv_at hl 0 rfl) ?_
        refine lv_bipush (v := 16) X.1 X.2.1 dJ6_numberOfTrailingZeros_0f7a4_50 (by decide) ?_
        refine lv_icmp_le (tgt := 62) X.1 X.2.1 dJ6_numberOfTrailingZeros_0f7a4_52 (by decide) (fun c_52 => ?_) (fun c_52 => ?_)
        · have k_52 := k_le (a := ((jN h) / 65536)) (b := 16) (by omega) (by omega) c_52
          refine lv_iload_n X.1 X.2.1 dJ6_numberOfTrailingZeros_0f7a4_62 rfl (lv_at hl 0 rfl) ?_
          refine lv_iconst (v := 4) X.1 X.2.1 dJ6_numberOfTrailingZeros_0f7a4_63 (by decide) ?_
          refine lv_icmp_le (tgt := 74) X.1 X.2.1 dJ6_numberOfTrailingZeros_0f7a4_64 (by decide) (fun c_64 => ?_) (fun c_64 => ?_)
          · have k_64 := k_le (a := ((jN h) / 65536)) (b := 4) (by omega) (by omega) c_64
            refine lv_iload_n X.1 X.2.1 dJ6_numberOfTrailingZeros_0f7a4_74 rfl (lv_at hl 1 rfl) ?_
            refine lv_iload_n X.1 X.2.1 dJ6_numberOfTrailingZeros_0f7a4_75 rfl (lv_at hl 0 rfl) ?_
            refine lv_iconst (v := 1) X.1 X.2.1 dJ6_numberOfTrailingZeros_0f7a4_76 (by decide) ?_
            refine lv_iushr X.1 X.2.1 dJ6_numberOfTrailingZeros_0f7a4_77 rfl ?_
            refine r_eqi (show ((((nI ((jN h) / 65536)).toUInt32 >>> (Int32.toUInt32 1 &&& Int32.toUInt32 31)).toInt32) : Int32) = nI (((jN h) / 65536) / 2) from pk_ushrN (n := ((jN h) / 65536)) (by omega) _ 1 (by decide)) ?_
            refine lv_iadd X.1 X.2.1 dJ6_numberOfTrailingZeros_0f7a4_78 ?_
            refine r_eqi (show (((17 : Int32) + (nI (((jN h) / 65536) / 2))) : Int32) = nI (17 + (((jN h) / 65536) / 2)) from nI_add 17 (((jN h) / 65536) / 2)) ?_
            exact ro_i X hr hlk (by show nI _ = nI _; refine congrArg nI ?_; unfold tzN; rw [if_neg (show ¬ jN h = 0 by omega)]; dsimp only; rw [if_pos (show 65536 < jN h by omega)]; dsimp only; rw [if_neg (show ¬ 256 < jN h / 65536 by omega)]; dsimp only; rw [if_neg (show ¬ 16 < jN h / 65536 by omega)]; dsimp only; rw [if_neg (show ¬ 4 < jN h / 65536 by omega)]) dJ6_numberOfTrailingZeros_0f7a4_79
          · have k_64 := k_nle (a := ((jN h) / 65536)) (b := 4) (by omega) (by omega) c_64
            refine lv_iinc (v := 19) (lv' := [(1, .int 19), (0, .int (nI ((jN h) / 65536)))]) X.1 X.2.1 dJ6_numberOfTrailingZeros_0f7a4_67 hl (k := 1) rfl (by decide) (by decide) rfl (fun ls hl => ?_)
            refine lv_iload_n X.1 X.2.1 dJ6_numberOfTrailingZeros_0f7a4_70 rfl (lv_at hl 1 rfl) ?_
            refine lv_iconst (v := 2) X.1 X.2.1 dJ6_numberOfTrailingZeros_0f7a4_71 (by decide) ?_
            refine lv_iushr X.1 X.2.1 dJ6_numberOfTrailingZeros_0f7a4_72 rfl ?_
            refine r_eqi (show ((((nI ((jN h) / 65536)).toUInt32 >>> (Int32.toUInt32 2 &&& Int32.toUInt32 31)).toInt32) : Int32) = nI (((jN h) / 65536) / 4) from pk_ushrN (n := ((jN h) / 65536)) (by omega) _ 2 (by decide)) ?_
            refine lv_istore_n (lv' := [(0, .int (nI (((jN h) / 65536) / 4))), (1, .int 19)]) X.1 X.2.1 dJ6_numberOfTrailingZeros_0f7a4_73 rfl hl (by decide) rfl (fun ls hl => ?_)
            refine lv_iload_n X.1 X.2.1 dJ6_numberOfTrailingZeros_0f7a4_74 rfl (lv_at hl 1 rfl) ?_
            refine lv_iload_n X.1 X.2.1 dJ6_numberOfTrailingZeros_0f7a4_75 rfl (lv_at hl 0 rfl) ?_
            refine lv_iconst (v := 1) X.1 X.2.1 dJ6_numberOfTrailingZeros_0f7a4_76 (by decide) ?_
            refine lv_iushr X.1 X.2.1 dJ6_numberOfTrailingZeros_0f7a4_77 rfl ?_
            refine r_eqi (show ((((nI (((jN h) / 65536) / 4)).toUInt32 >>> (Int32.toUInt32 1 &&& Int32.toUInt32 31)).toInt32) : Int32) = nI ((((jN h) / 65536) / 4) / 2) from pk_ushrN (n := (((jN h) / 65536) / 4)) (by omega) _ 1 (by decide)) ?_
            refine lv_iadd X.1 X.2.1 dJ6_numberOfTrailingZeros_0f7a4_78 ?_
            refine r_eqi (show (((19 : Int32) + (nI ((((jN h) / 65536) / 4) / 2))) : Int32) = nI (19 + ((((jN h) / 65536) / 4) / 2)) from nI_add 19 ((((jN h) / 65536) / 4) / 2)) ?_
            exact ro_i X hr hlk (by show nI _ = nI _; refine congrArg nI ?_; unfold tzN; rw [if_neg (show ¬ jN h = 0 by omega)]; dsimp only; rw [if_pos (show 65536 < jN h by omega)]; dsimp only; rw [if_neg (show ¬ 256 < jN h / 65536 by omega)]; dsimp only; rw [if_neg (show ¬ 16 < jN h / 65536 by omega)]; dsimp only; rw [if_pos (show 4 < jN h / 65536 by omega)]) dJ6_numberOfTrailingZeros_0f7a4_79
        · have k_52 := k_nle (a := ((jN h) / 65536)) (b := 16) (by omega) (by omega) c_52
          refine lv_iinc (v := 21) (lv' := [(1, .int 21), (0, .int (nI ((jN h) / 65536)))]) X.1 X.2.1 dJ6_numberOfTrailingZeros_0f7a4_55 hl (k := 1) rfl (by decide) (by decide) rfl (fun ls hl => ?_)
          refine lv_iload_n X.1 X.2.1 dJ6_numberOfTrailingZeros_0f7a4_58 rfl (lv_at hl 1 rfl) ?_
          refine lv_iconst (v := 4) X.1 X.2.1 dJ6_numberOfTrailingZeros_0f7a4_59 (by decide) ?_
          refine lv_iushr X.1 X.2.1 dJ6_numberOfTrailingZeros_0f7a4_60 rfl ?_
          refine r_eqi (show ((((nI ((jN h) / 65536)).toUInt32 >>> (Int32.toUInt32 4 &&& Int32.toUInt32 31)).toInt32) : Int32) = nI (((jN h) / 65536) / 16) from pk_ushrN (n := ((jN h) / 65536)) (by omega) _ 4 (by decide)) ?_
          refine lv_istore_n (lv' := [(0, .int (nI (((jN h) / 65536) / 16))), (1, .int 21)]) X.1 X.2.1 dJ6_numberOfTrailingZeros_0f7a4_61 rfl hl (by decide) rfl (fun ls hl => ?_)
          refine lv_iload_n X.1 X.2.1 dJ6_numberOfTrailingZeros_0f7a4_62 rfl (lv_at hl 0 rfl) ?_
          refine lv_iconst (v := 4) X.1 X.2.1 dJ6_numberOfTrailingZeros_0f7a4_63 (by decide) ?_
          refine lv_icmp_le (tgt := 74) X.1 X.2.1 dJ6_numberOfTrailingZeros_0f7a4_64 (by decide) (fun c_64 => ?_) (fun c_64 => ?_)
          · have k_64 := k_le (a := (((jN h) / 65536) / 16)) (b := 4) (by omega) (by omega) c_64
            refine lv_iload_n X.1 X.2.1 dJ6_numberOfTrailingZeros_0f7a4_74 rfl (lv_at hl 1 rfl) ?_
            refine lv_iload_n X.1 X.2.1 dJ6_numberOfTrailingZeros_0f7a4_75 rfl (lv_at hl 0 rfl) ?_
            refine lv_iconst (v := 1) X.1 X.2.1 dJ6_numberOfTrailingZeros_0f7a4_76 (by decide) ?_
            refine lv_iushr X.1 X.2.1 dJ6_numberOfTrailingZeros_0f7a4_77 rfl ?_
            refine r_eqi (show ((((nI (((jN h) / 65536) / 16)).toUInt32 >>> (Int32.toUInt32 1 &&& Int32.toUInt32 31)).toInt32) : Int32) = nI ((((jN h) / 65536) / 16) / 2) from pk_ushrN (n := (((jN h) / 65536) / 16)) (by omega) _ 1 (by decide)) ?_
            refine lv_iadd X.1 X.2.1 dJ6_numberOfTrailingZeros_0f7a4_78 ?_
            refine r_eqi (show (((21 : Int32) + (nI ((((jN h) / 65536) / 16) / 2))) : Int32) = nI (21 + ((((jN h) / 65536) / 16) / 2)) from nI_add 21 ((((jN h) / 65536) / 16) / 2)) ?_
            exact ro_i X hr hlk (by show nI _ = nI _; refine congrArg nI ?_; unfold tzN; rw [if_neg (show ¬ jN h = 0 by omega)]; dsimp only; rw [if_pos (show 65536 < jN h by omega)]; dsimp only; rw [if_neg (show ¬ 256 < jN h / 65536 by omega)]; dsimp only; rw [if_pos (show 16 < jN h / 65536 by omega)]; dsimp only; rw [if_neg (show ¬ 4 < jN h / 65536 / 16 by omega)]) dJ6_numberOfTrailingZeros_0f7a4_79
          · have k_64 := k_nle (a := (((jN h) / 65536) / 16)) (b := 4) (by omega) (by omega) c_64
            refine lv_iinc (v := 23) (lv' := [(1, .int 23), (0, .int (nI (((jN h) / 65536) / 16)))]) X.1 X.2.1 dJ6_numberOfTrailingZeros_0f7a4_67 hl (k := 1) rfl (by decide) (by decide) rfl (fun ls hl => ?_)
            refine lv_iload_n X.1 X.2.1 dJ6_numberOfTrailingZeros_0f7a4_70 rfl (lv_at hl 1 rfl) ?_
            refine lv_iconst (v := 2) X.1 X.2.1 dJ6_numberOfTrailingZeros_0f7a4_71 (by decide) ?_
            refine lv_iushr X.1 X.2.1 dJ6_numberOfTrailingZeros_0f7a4_72 rfl ?_
            refine r_eqi (show ((((nI (((jN h) / 65536) / 16)).toUInt32 >>> (Int32.toUInt32 2 &&& Int32.toUInt32 31)).toInt32) : Int32) = nI ((((jN h) / 65536) / 16) / 4) from pk_ushrN (n := (((jN h) / 65536) / 16)) (by omega) _ 2 (by decide)) ?_
            refine lv_istore_n (lv' := [(0, .int (nI ((((jN h) / 65536) / 16) / 4))), (1, .int 23)]) X.1 X.2.1 dJ6_numberOfTrailingZeros_0f7a4_73 rfl hl (by decide) rfl (fun ls hl => ?_)
            refine lv_iload_n X.1 X.2.1 dJ6_numberOfTrailingZeros_0f7a4_74 rfl (lv_at hl 1 rfl) ?_
            refine lv_iload_n X.1 X.2.1 dJ6_numberOfTrailingZeros_0f7a4_75 rfl (lv_at hl 0 rfl) ?_
            refine lv_iconst (v := 1) X.1 X.2.1 dJ6_numberOfTrailingZeros_0f7a4_76 (by decide) ?_
            refine lv_iushr X.1 X.2.1 dJ6_numberOfTrailingZeros_0f7a4_77 rfl ?_
            refine r_eqi (show ((((nI ((((jN h) / 65536) / 16) / 4)).toUInt32 >>> (Int32.toUInt32 1 &&& Int32.toUInt32 31)).toInt32) : Int32) = nI (((((jN h) / 65536) / 16) / 4) / 2) from pk_ushrN (n := ((((jN h) / 65536) / 16) / 4)) (by omega) _ 1 (by decide)) ?_
            refine lv_iadd X.1 X.2.1 dJ6_numberOfTrailingZeros_0f7a4_78 ?_
            refine r_eqi (show (((23 : Int32) + (nI (((((jN h) / 65536) / 16) / 4) / 2))) : Int32) = nI (23 + (((((jN h) / 65536) / 16) / 4) / 2)) from nI_add 23 (((((jN h) / 65536) / 16) / 4) / 2)) ?_
            exact ro_i X hr hlk (by show nI _ = nI _; refine congrArg nI ?_; unfold tzN; rw [if_neg (show ¬ jN h = 0 by omega)]; dsimp only; rw [if_pos (show 65536 < jN h by omega)]; dsimp only; rw [if_neg (show ¬ 256 < jN h / 65536 by omega)]; dsimp only; rw [if_pos (show 16 < jN h / 65536 by omega)]; dsimp only; rw [if_pos (show 4 < jN h / 65536 / 16 by omega)]) dJ6_numberOfTrailingZeros_0f7a4_79
      · have k_38 := k_nle (a := ((jN h) / 65536)) (b := 256) (by omega) (by omega) c_38
        refine lv_iinc (v := 25) (lv' := [(1, .int 25), (0, .int (nI ((jN h) / 65536)))]) X.1 X.2.1 dJ6_numberOfTrailingZeros_0f7a4_41 hl (k := 1) rfl (by decide) (by decide) rfl (fun ls hl => ?_)
        refine lv_iload_n X.1 X.2.1 dJ6_numberOfTrailingZeros_0f7a4_44 rfl (lv_at hl 1 rfl) ?_
        refine lv_bipush (v := 8) X.1 X.2.1 dJ6_numberOfTrailingZeros_0f7a4_45 (by decide) ?_
        refine lv_iushr X.1 X.2.1 dJ6_numberOfTrailingZeros_0f7a4_47 rfl ?_
        refine r_eqi (show ((((nI ((jN h) / 65536)).toUInt32 >>> (Int32.toUInt32 8 &&& Int32.toUInt32 31)).toInt32) : Int32) = nI (((jN h) / 65536) / 256) from pk_ushrN (n := ((jN h) / 65536)) (by omega) _ 8 (by decide)) ?_
        refine lv_istore_n (lv' := [(0, .int (nI (((jN h) / 65536) / 256))), (1, .int 25)]) X.1 X.2.1 dJ6_numberOfTrailingZeros_0f7a4_48 rfl hl (by decide) rfl (fun ls hl => ?_)
        refine lv_iload_n X.1 X.2.1 dJ6_numberOfTrailingZeros_0f7a4_49 rfl (lv_at hl 0 rfl) ?_
        refine lv_bipush (v := 16) X.1 X.2.1 dJ6_numberOfTrailingZeros_0f7a4_50 (by decide) ?_
        refine lv_icmp_le (tgt := 62) X.1 X.2.1 dJ6_numberOfTrailingZeros_0f7a4_52 (by decide) (fun c_52 => ?_) (fun c_52 => ?_)
        · have k_52 := k_le (a := (((jN h) / 65536) / 256)) (b := 16) (by omega) (by omega) c_52
          refine lv_iload_n X.1 X.2.1 dJ6_numberOfTrailingZeros_0f7a4_62 rfl (lv_at hl 0 rfl) ?_
          refine lv_iconst (v := 4) X.1 X.2.1 dJ6_numberOfTrailingZeros_0f7a4_63 (by decide) ?_
          refine lv_icmp_le (tgt := 74) X.1 X.2.1 dJ6_numberOfTrailingZeros_0f7a4_64 (by decide) (fun c_64 => ?_) (fun c_64 => ?_)
          · have k_64 := k_le (a := (((jN h) / 65536) / 256)) (b := 4) (by omega) (by omega) c_64
            refine lv_iload_n X.1 X.2.1 dJ6_numberOfTrailingZeros_0f7a4_74 rfl (lv_at hl 1 rfl) ?_
            refine lv_iload_n X.1 X.2.1 dJ6_numberOfTrailingZeros_0f7a4_75 rfl (lv_at hl 0 rfl) ?_
            refine lv_iconst (v := 1) X.1 X.2.1 dJ6_numberOfTrailingZeros_0f7a4_76 (by decide) ?_
            refine lv_iushr X.1 X.2.1 dJ6_numberOfTrailingZeros_0f7a4_77 rfl ?_
            refine r_eqi (show ((((nI (((jN h) / 65536) / 256)).toUInt32 >>> (Int32.toUInt32 1 &&& Int32.toUInt32 31)).toInt32) : Int32) = nI ((((jN h) / 65536) / 256) / 2) from pk_ushrN (n := (((jN h) / 65536) / 256)) (by omega) _ 1 (by decide)) ?_
            refine lv_iadd X.1 X.2.1 dJ6_numberOfTrailingZeros_0f7a4_78 ?_
            refine r_eqi (show (((25 : Int32) + (nI ((((jN h) / 65536) / 256) / 2))) : Int32) = nI (25 + ((((jN h) / 65536) / 256) / 2)) from nI_add 25 ((((jN h) / 65536) / 256) / 2)) ?_
            exact ro_i X hr hlk (by show nI _ = nI _; refine congrArg nI ?_; unfold tzN; rw [if_neg (show ¬ jN h = 0 by omega)]; dsimp only; rw [if_pos (show 65536 < jN h by omega)]; dsimp only; rw [if_pos (show 256 < jN h / 65536 by omega)]; dsimp only; rw [if_neg (show ¬ 16 < jN h / 65536 / 256 by omega)]; dsimp only; rw [if_neg (show ¬ 4 < jN h / 65536 / 256 by omega)]) dJ6_numberOfTrailingZeros_0f7a4_79
          · have k_64 := k_nle (a := (((jN h) / 65536) / 256)) (b := 4) (by omega) (by omega) c_64
            refine lv_iinc (v := 27) (lv' := [(1, .int 27), (0, .int (nI (((jN h) / 65536) / 256)))]) X.1 X.2.1 dJ6_numberOfTrailingZeros_0f7a4_67 hl (k := 1) rfl (by decide) (by decide) rfl (fun ls hl => ?_)
            refine lv_iload_n X.1 X.2.1 dJ6_numberOfTrailingZeros_0f7a4_70 rfl (lv_at hl 1 rfl) ?_
            refine lv_iconst (v := 2) X.1 X.2.1 dJ6_numberOfTrailingZeros_0f7a4_71 (by decide) ?_
            refine lv_iushr X.1 X.2.1 dJ6_numberOfTrailingZeros_0f7a4_72 rfl ?_
            refine r_eqi (show ((((nI (((jN h) / 65536) / 256)).toUInt32 >>> (Int32.toUInt32 2 &&& Int32.toUInt32 31)).toInt32) : Int32) = nI ((((jN h) / 65536) / 256) / 4) from pk_ushrN (n := (((jN h) / 65536) / 256)) (by omega) _ 2 (by decide)) ?_
            refine lv_istore_n (lv' := [(0, .int (nI ((((jN h) / 65536) / 256) / 4))), (1, .int 27)]) X.1 X.2.1 dJ6_numberOfTrailingZeros_0f7a4_73 rfl hl (by decide) rfl (fun ls hl => ?_)
            refine lv_iload_n X.1 X.2.1 dJ6_numberOfTrailingZeros_0f7a4_74 rfl (lv_at hl 1 rfl) ?_
            refine lv_iload_n X.1 X.2.1 dJ6_numberOfTrailingZeros_0f7a4_75 rfl (lv_at hl 0 rfl) ?_
            refine lv_iconst (v := 1) X.1 X.2.1 dJ6_numberOfTrailingZeros_0f7a4_76 (by decide) ?_
            refine lv_iushr X.1 X.2.1 dJ6_numberOfTrailingZeros_0f7a4_77 rfl ?_
            refine r_eqi (show ((((nI ((((jN h) / 65536) / 256) / 4)).toUInt32 >>> (Int32.toUInt32 1 &&& Int32.toUInt32 31)).toInt32) : Int32) = nI (((((jN h) / 65536) / 256) / 4) / 2) from pk_ushrN (n := ((((jN h) / 65536) / 256) / 4)) (by omega) _ 1 (by decide)) ?_
            refine lv_iadd X.1 X.2.1 dJ6_numberOfTrailingZeros_0f7a4_78 ?_
            refine r_eqi (show (((27 : Int32) + (nI (((((jN h) / 65536) / 256) / 4) / 2))) : Int32) = nI (27 + (((((jN h) / 65536) / 256) / 4) / 2)) from nI_add 27 (((((jN h) / 65536) / 256) / 4) / 2)) ?_
            exact ro_i X hr hlk (by show nI _ = nI _; refine congrArg nI ?_; unfold tzN; rw [if_neg (show ¬ jN h = 0 by omega)]; dsimp only; rw [if_pos (show 65536 < jN h by omega)]; dsimp only; rw [if_pos (show 256 < jN h / 65536 by omega)]; dsimp only; rw [if_neg (show ¬ 16 < jN h / 65536 / 256 by omega)]; dsimp only; rw [if_pos (show 4 < jN h / 65536 / 256 by omega)]) dJ6_numberOfTrailingZeros_0f7a4_79
        · have k_52 := k_nle (a := (((jN h) / 65536) / 256)) (b := 16) (by omega) (by omega) c_52
          refine lv_iinc (v := 29) (lv' := [(1, .int 29), (0, .int (nI (((jN h) / 65536) / 256)))]) X.1 X.2.1 dJ6_numberOfTrailingZeros_0f7a4_55 hl (k := 1) rfl (by decide) (by decide) rfl (fun ls hl => ?_)
          refine lv_iload_n X.1 X.2.1 dJ6_numberOfTrailingZeros_0f7a4_58 rfl (lv_at hl 1 rfl) ?_
          refine lv_iconst (v := 4) X.1 X.2.1 dJ6_numberOfTrailingZeros_0f7a4_59 (by decide) ?_
          refine lv_iushr X.1 X.2.1 dJ6_numberOfTrailingZeros_0f7a4_60 rfl ?_
          refine r_eqi (show ((((nI (((jN h) / 65536) / 256)).toUInt32 >>> (Int32.toUInt32 4 &&& Int32.toUInt32 31)).toInt32) : Int32) = nI ((((jN h) / 65536) / 256) / 16) from pk_ushrN (n := (((jN h) / 65536) / 256)) (by omega) _ 4 (by decide)) ?_
          refine lv_istore_n (lv' := [(0, .int (nI ((((jN h) / 65536) / 256) / 16))), (1, .int 29)]) X.1 X.2.1 dJ6_numberOfTrailingZeros_0f7a4_61 rfl hl (by decide) rfl (fun ls hl => ?_)
          refine lv_iload_n X.1 X.2.1 dJ6_numberOfTrailingZeros_0f7a4_62 rfl (lv_at hl 0 rfl) ?_
          refine lv_iconst (v := 4) X.1 X.2.1 dJ6_numberOfTrailingZeros_0f7a4_63 (by decide) ?_
          refine lv_icmp_le (tgt := 74) X.1 X.2.1 dJ6_numberOfTrailingZeros_0f7a4_64 (by decide) (fun c_64 => ?_) (fun c_64 => ?_)
          · have k_64 := k_le (a := ((((jN h) / 65536) / 256) / 16)) (b := 4) (by omega) (by omega) c_64
            refine lv_iload_n X.1 X.2.1 dJ6_numberOfTrailingZeros_0f7a4_74 rfl (lv_at hl 1 rfl) ?_
            refine lv_iload_n X.1 X.2.1 dJ6_numberOfTrailingZeros_0f7a4_75 rfl (lv_at hl 0 rfl) ?_
            refine lv_iconst (v := 1) X.1 X.2.1 dJ6_numberOfTrailingZeros_0f7a4_76 (by decide) ?_
            refine lv_iushr X.1 X.2.1 dJ6_numberOfTrailingZeros_0f7a4_77 rfl ?_
            refine r_eqi (show ((((nI ((((jN h) / 65536) / 256) / 16)).toUInt32 >>> (Int32.toUInt32 1 &&& Int32.toUInt32 31)).toInt32) : Int32) = nI (((((jN h) / 65536) / 256) / 16) / 2) from pk_ushrN (n := ((((jN h) / 65536) / 256) / 16)) (by omega) _ 1 (by decide)) ?_
            refine lv_iadd X.1 X.2.1 dJ6_numberOfTrailingZeros_0f7a4_78 ?_
            refine r_eqi (show (((29 : Int32) + (nI (((((jN h) / 65536) / 256) / 16) / 2))) : Int32) = nI (29 + (((((jN h) / 65536) / 256) / 16) / 2)) from nI_add 29 (((((jN h) / 65536) / 256) / 16) / 2)) ?_
            exact ro_i X hr hlk (by show nI _ = nI _; refine congrArg nI ?_; unfold tzN; rw [if_neg (show ¬ jN h = 0 by omega)]; dsimp only; rw [if_pos (show 65536 < jN h by omega)]; dsimp only; rw [if_pos (show 256 < jN h / 65536 by omega)]; dsimp only; rw [if_pos (show 16 < jN h / 65536 / 256 by omega)]; dsimp only; rw [if_neg (show ¬ 4 < jN h / 65536 / 256 / 16 by omega)]) dJ6_numberOfTrailingZeros_0f7a4_79
          · have k_64 := k_nle (a := ((((jN h) / 65536) / 256) / 16)) (b := 4) (by omega) (by omega) c_64
            refine lv_iinc (v := 31) (lv' := [(1, .int 31), (0, .int (nI ((((jN h) / 65536) / 256) / 16)))]) X.1 X.2.1 dJ6_numberOfTrailingZeros_0f7a4_67 hl (k := 1) rfl (by decide) (by decide) rfl (fun ls hl => ?_)
            refine lv_iload_n X.1 X.2.1 dJ6_numberOfTrailingZeros_0f7a4_70 rfl (lv_at hl 1 rfl) ?_
            refine lv_iconst (v := 2) X.1 X.2.1 dJ6_numberOfTrailingZeros_0f7a4_71 (by decide) ?_
            refine lv_iushr X.1 X.2.1 dJ6_numberOfTrailingZeros_0f7a4_72 rfl ?_
            refine r_eqi (show ((((nI ((((jN h) / 65536) / 256) / 16)).toUInt32 >>> (Int32.toUInt32 2 &&& Int32.toUInt32 31)).toInt32) : Int32) = nI (((((jN h) / 65536) / 256) / 16) / 4) from pk_ushrN (n := ((((jN h) / 65536) / 256) / 16)) (by omega) _ 2 (by decide)) ?_
            refine lv_istore_n (lv' := [(0, .int (nI (((((jN h) / 65536) / 256) / 16) / 4))), (1, .int 31)]) X.1 X.2.1 dJ6_numberOfTrailingZeros_0f7a4_73 rfl hl (by decide) rfl (fun ls hl => ?_)
            refine lv_iload_n X.1 X.2.1 dJ6_numberOfTrailingZeros_0f7a4_74 rfl (lv_at hl 1 rfl) ?_
            refine lv_iload_n X.1 X.2.1 dJ6_numberOfTrailingZeros_0f7a4_75 rfl (lv_at hl 0 rfl) ?_
            refine lv_iconst (v := 1) X.1 X.2.1 dJ6_numberOfTrailingZeros_0f7a4_76 (by decide) ?_
            refine lv_iushr X.1 X.2.1 dJ6_numberOfTrailingZeros_0f7a4_77 rfl ?_
            refine r_eqi (show ((((nI (((((jN h) / 65536) / 256) / 16) / 4)).toUInt32 >>> (Int32.toUInt32 1 &&& Int32.toUInt32 31)).toInt32) : Int32) = nI ((((((jN h) / 65536) / 256) / 16) / 4) / 2) from pk_ushrN (n := (((((jN h) / 65536) / 256) / 16) / 4)) (by omega) _ 1 (by decide)) ?_
            refine lv_iadd X.1 X.2.1 dJ6_numberOfTrailingZeros_0f7a4_78 ?_
            refine r_eqi (show (((31 : Int32) + (nI ((((((jN h) / 65536) / 256) / 16) / 4) / 2))) : Int32) = nI (31 + ((((((jN h) / 65536) / 256) / 16) / 4) / 2)) from nI_add 31 ((((((jN h) / 65536) / 256) / 16) / 4) / 2)) ?_
            exact ro_i X hr hlk (by show nI _ = nI _; refine congrArg nI ?_; unfold tzN; rw [if_neg (show ¬ jN h = 0 by omega)]; dsimp only; rw [if_pos (show 65536 < jN h by omega)]; dsimp only; rw [if_pos (show 256 < jN h / 65536 by omega)]; dsimp only; rw [if_pos (show 16 < jN h / 65536 / 256 by omega)]; dsimp only; rw [if_pos (show 4 < jN h / 65536 / 256 / 16 by omega)]) dJ6_numberOfTrailingZeros_0f7a4_79
  · have k_9 := k_nlt (a := 0) (b := (jN h)) (by omega) (by omega) c_9
    refine lv_iload_n X.1 X.2.1 dJ6_numberOfTrailingZeros_0f7a4_12 rfl (lv_at hl 0 rfl) ?_
    refine lv_bipush (v := 32) X.1 X.2.1 dJ6_numberOfTrailingZeros_0f7a4_13 (by decide) ?_
    refine lv_iand X.1 X.2.1 dJ6_numberOfTrailingZeros_0f7a4_15 ?_
    refine r_eqi (show (((nI (jN h)) &&& 32) : Int32) = nI ((jN h) &&& 32) from n_and (jN h) 32) ?_
    exact ro_i X hr hlk (by show nI _ = nI _; rw [show jN h = 0 by omega]; rfl) dJ6_numberOfTrailingZeros_0f7a4_16

set_option maxHeartbeats 4000000 in
set_option maxRecDepth 100000 in
theorem c_X1_handAfter (l : Launch) (G : HG) (hp : HP) (h : Nat) (h1 : 1 ≤ h) (h2 : h ≤ 1048575) : Met l yX1_handAfter [.code yX1_handAfter cX1_handAfter 2 (some .int)] { frames := 1, cells := 0, slots := 0, locals := 21 } (va_Pc [.int (nI h)] (RP G hp)) (vp_Si (fun r => r = nI (nhA h))) 0 0 (fun _ => False) := by
  refine ro_ofW (by decide) (Nat.le_of_ble_eq_true rfl) ?_
  intro p e s m args below meth c ls X hr hlk hH hl
  have hS : va_S (fun _ => False) s.heap s.heap [] := va_S.rf
  have hl : lv_has ls 2 [(0, .int (nI h))] := hl
  refine lv_iload_n X.1 X.2.1 dX1_handAfter_0 rfl (lv_at hl 0 rfl) ?_
  refine lv_iload_n X.1 X.2.1 dX1_handAfter_1 rfl (lv_at hl 0 rfl) ?_
  refine lv_iload_n X.1 X.2.1 dX1_handAfter_2 rfl (lv_at hl 0 rfl) ?_
  refine lv_ineg X.1 X.2.1 dX1_handAfter_3 ?_
  refine lv_iand X.1 X.2.1 dX1_handAfter_4 ?_
  refine r_eqi (show (((nI h) &&& (-(nI h))) : Int32) = nI (lowb h) from low_i h h2) ?_
  refine lv_iadd X.1 X.2.1 dX1_handAfter_5 ?_
  refine r_eqi (show (((nI h) + (nI (lowb h))) : Int32) = nI (upN h) from nI_add h (lowb h)) ?_
  refine lv_istore_n (lv' := [(1, .int (nI (upN h))), (0, .int (nI h))]) X.1 X.2.1 dX1_handAfter_6 rfl hl (by decide) rfl (fun ls hl => ?_)
  refine lv_iload_n X.1 X.2.1 dX1_handAfter_7 rfl (lv_at hl 0 rfl) ?_
  refine lv_iload_n X.1 X.2.1 dX1_handAfter_8 rfl (lv_at hl 1 rfl) ?_
  refine lv_iload_n X.1 X.2.1 dX1_handAfter_9 rfl (lv_at hl 0 rfl) ?_
  refine lv_ixor X.1 X.2.1 dX1_handAfter_10 ?_
  refine r_eqi (show (((nI h) ^^^ (nI (upN h))) : Int32) = nI (h ^^^ (upN h)) from n_xor h (upN h)) ?_
  refine lv_iconst (v := 2) X.1 X.2.1 dX1_handAfter_11 (by decide) ?_
  refine lv_iload_n X.1 X.2.1 dX1_handAfter_12 rfl (lv_at hl 1 rfl) ?_
  refine on_Si (run_S (As := [.int (nI h)]) (rest := [.int 2, .int (nI (h ^^^ (upN h))), .int (nI (upN h))]) X (c_J6_numberOfTrailingZeros_0f7a4 l G hp h (by omega) (by omega)) (rp_blind _) (rp_at X hH hS) mf_J6_numberOfTrailingZeros_0f7a4 tw_458 tw_459 ⟨rfl, rfl, Nat.le_of_ble_eq_true rfl, Nat.le_of_ble_eq_true rfl⟩ hl.1 rfl rfl (Nat.le_of_ble_eq_true rfl) ⟨Nat.le_of_ble_eq_true rfl, Nat.le_of_ble_eq_true rfl⟩ dX1_handAfter_13) (fun r_13 q_13 => ?_)
  obtain rfl : r_13 = (nI (tzN (jN h))) := q_13
  refine lv_iadd X.1 X.2.1 dX1_handAfter_16 ?_
  refine r_eqi (show (((2 : Int32) + (nI (tzN (jN h)))) : Int32) = nI (2 + (tzN (jN h))) from nI_add 2 (tzN (jN h))) ?_
  refine lv_iushr X.1 X.2.1 dX1_handAfter_17 rfl ?_
  refine r_eqi (show ((((nI (h ^^^ (upN h))).toUInt32 >>> (Int32.toUInt32 (nI (2 + (tzN (jN h)))) &&& Int32.toUInt32 31)).toInt32) : Int32) = nI ((h ^^^ upN h) / 2 ^ (2 + tzN (jN h))) from pk_ushrN (n := h ^^^ upN h) (Nat.lt_trans (Nat.xor_lt_two_pow (n := 31) (by omega) (by have := upN_le h; omega)) (by decide)) _ (2 + tzN (jN h)) (s_u _ (by have := jN_le h; have := @tzN_le (jN h) (by omega); omega))) ?_
  refine lv_ior X.1 X.2.1 dX1_handAfter_18 ?_
  refine r_eqi (show (((nI (upN h)) ||| (nI ((h ^^^ upN h) / 2 ^ (2 + tzN (jN h))))) : Int32) = nI ((upN h) ||| ((h ^^^ upN h) / 2 ^ (2 + tzN (jN h)))) from n_or (upN h) ((h ^^^ upN h) / 2 ^ (2 + tzN (jN h)))) ?_
  exact ro_i X hr hlk rfl dX1_handAfter_19

set_option maxHeartbeats 4000000 in
set_option maxRecDepth 100000 in
theorem c_X1_isHand (l : Launch) (G : HG) (hp : HP) (v : Int32) : Met l yX1_isHand [.code yX1_isHand cX1_isHand 1 (some .boolean)] { frames := 1, cells := 0, slots := 0, locals := 20 } (va_Pc [.int v] (RP G hp)) (vp_Si (fun r => r = bI (handB v))) 0 0 (fun _ => False) := by
  refine ro_ofW (by decide) (Nat.le_of_ble_eq_true rfl) ?_
  intro p e s m args below meth c ls X hr hlk hH hl
  have hS : va_S (fun _ => False) s.heap s.heap [] := va_S.rf
  have hl : lv_has ls 1 [(0, .int v)] := hl
  refine lv_iload_n X.1 X.2.1 dX1_isHand_0 rfl (lv_at hl 0 rfl) ?_
  refine on_Si (run_S (As := [.int v]) (rest := []) X (c_X1_isSet l G hp v) (rp_blind _) (rp_at X hH hS) mf_X1_isSet tw_282 tw_283 ⟨rfl, rfl, Nat.le_of_ble_eq_true rfl, Nat.le_of_ble_eq_true rfl⟩ hl.1 rfl rfl (Nat.le_of_ble_eq_true rfl) ⟨Nat.le_of_ble_eq_true rfl, Nat.le_of_ble_eq_true rfl⟩ dX1_isHand_1) (fun r_1 q_1 => ?_)
  obtain rfl : r_1 = (inI v 0 1048575) := q_1
  refine lv_if_eq (tgt := 19) X.1 X.2.1 dX1_isHand_4 (by decide) (fun c_4 => ?_) (fun c_4 => ?_)
  · refine lv_iconst (v := 0) X.1 X.2.1 dX1_isHand_19 (by decide) ?_
    exact ro_z X hr hlk rfl (by show (_ : Int32) = _; rw [handB_out (inI_0 c_4)]; rfl) dX1_isHand_20
  · obtain ⟨x, hx, rfl⟩ := inI_nat (hi := 1048575) c_4 (by decide)
    refine lv_iload_n X.1 X.2.1 dX1_isHand_7 rfl (lv_at hl 0 rfl) ?_
    have hz := sizeH_le x
    refine on_Si (run_S (As := [.int (nI x)]) (rest := []) X (c_J6_bitCount_0f7a4 l G hp x (by omega)) (rp_blind _) (rp_at X hH hS) mf_J6_bitCount_0f7a4 tw_200 tw_201 ⟨rfl, rfl, Nat.le_of_ble_eq_true rfl, Nat.le_of_ble_eq_true rfl⟩ hl.1 rfl rfl (Nat.le_of_ble_eq_true rfl) ⟨Nat.le_of_ble_eq_true rfl, Nat.le_of_ble_eq_true rfl⟩ dX1_isHand_8) (fun r_8 q_8 => ?_)
    obtain rfl : r_8 = (nI (sizeH x)) := q_8
    refine lv_iconst (v := 5) X.1 X.2.1 dX1_isHand_11 (by decide) ?_
    refine lv_icmp_ne (tgt := 19) X.1 X.2.1 dX1_isHand_12 (by decide) (fun c_12 => ?_) (fun c_12 => ?_)
    · have k_12 := k_ne (a := (sizeH x)) (b := 5) (by omega) (by omega) c_12
      refine lv_iconst (v := 0) X.1 X.2.1 dX1_isHand_19 (by decide) ?_
      exact ro_z X hr hlk rfl (by show (_ : Int32) = _; rw [handB_n hx, decide_eq_false k_12]; rfl) dX1_isHand_20
    · have k_12 := k_eq (a := (sizeH x)) (b := 5) (by omega) (by omega) c_12
      refine lv_iconst (v := 1) X.1 X.2.1 dX1_isHand_15 (by decide) ?_
      refine lv_goto (tgt := 20) X.1 X.2.1 dX1_isHand_16 (by decide) ?_
      exact ro_z X hr hlk rfl (by show (_ : Int32) = _; rw [handB_n hx, decide_eq_true k_12]; rfl) dX1_isHand_20

theorem shr5 (c s : Nat) (hc : c < 2 ^ 31) (hs : s < 4) : nI c >>> (nI (5 * s) &&& 31) = nI (c / 32 ^ s) := by
  rw [pk_shrN hc _ (5 * s) (s_l _ (by omega)), Nat.pow_mul]
set_option maxHeartbeats 4000000 in
set_option maxRecDepth 100000 in
theorem c_X1_ofSuit (l : Launch) (G : HG) (hp : HP) (c9 s9 : Nat) (hc : c9 < 2 ^ 31) (hs : s9 < 4) : Met l yX1_ofSuit [.code yX1_ofSuit cX1_ofSuit 2 (some .int)] { frames := 0, cells := 0, slots := 0, locals := 0 } (va_Pc [.int (nI c9), .int (nI s9)] (RP G hp)) (vp_Si (fun r => r = nI (su c9 s9))) 0 0 (fun _ => False) := by
  refine ro_ofW (by decide) (Nat.le_of_ble_eq_true rfl) ?_
  intro p e s m args below meth c ls X hr hlk hH hl
  have hS : va_S (fun _ => False) s.heap s.heap [] := va_S.rf
  have hl : lv_has ls 2 [(0, .int (nI c9)), (1, .int (nI s9))] := hl
  refine lv_iload_n X.1 X.2.1 dX1_ofSuit_0 rfl (lv_at hl 0 rfl) ?_
  refine lv_iconst (v := 5) X.1 X.2.1 dX1_ofSuit_1 (by decide) ?_
  refine lv_iload_n X.1 X.2.1 dX1_ofSuit_2 rfl (lv_at hl 1 rfl) ?_
  refine lv_imul X.1 X.2.1 dX1_ofSuit_3 ?_
  refine r_eqi (show (((5 : Int32) * (nI s9)) : Int32) = nI (5 * s9) from pk_mul 5 s9) ?_
  refine lv_ishr X.1 X.2.1 dX1_ofSuit_4 ?_
  refine r_eqi (show (((nI c9) >>> ((nI (5 * s9)) &&& 31)) : Int32) = nI (c9 / 32 ^ s9) from shr5 c9 s9 hc hs) ?_
  refine lv_bipush (v := 31) X.1 X.2.1 dX1_ofSuit_5 (by decide) ?_
  refine lv_iand X.1 X.2.1 dX1_ofSuit_7 ?_
  refine r_eqi (show (((nI (c9 / 32 ^ s9)) &&& 31) : Int32) = nI ((c9 / 32 ^ s9) % 32) from n_and31 (c9 / 32 ^ s9)) ?_
  exact ro_i X hr hlk rfl dX1_ofSuit_8

set_option maxHeartbeats 4000000 in
set_option maxRecDepth 100000 in
theorem c_X1_greatestMeasure (l : Launch) (G : HG) (hp : HP) (w9 : Nat) (hw : w9 < 5) : Met l yX1_greatestMeasure [.code yX1_greatestMeasure cX1_greatestMeasure 1 (some .int)] { frames := 0, cells := 0, slots := 0, locals := 0 } (va_Pc [.int (nI w9)] (RP G hp)) (vp_Si (fun r => r = nI (if w9 = 4 then 20 else 5))) 0 0 (fun _ => False) := by
  refine ro_ofW (by decide) (Nat.le_of_ble_eq_true rfl) ?_
  intro p e s m args below meth c ls X hr hlk hH hl
  have hS : va_S (fun _ => False) s.heap s.heap [] := va_S.rf
  have hl : lv_has ls 1 [(0, .int (nI w9))] := hl
  refine lv_iload_n X.1 X.2.1 dX1_greatestMeasure_0 rfl (lv_at hl 0 rfl) ?_
  refine lv_iconst (v := 4) X.1 X.2.1 dX1_greatestMeasure_1 (by decide) ?_
  refine lv_icmp_ne (tgt := 10) X.1 X.2.1 dX1_greatestMeasure_2 (by decide) (fun c_2 => ?_) (fun c_2 => ?_)
  · have k_2 := k_ne (a := w9) (b := 4) (by omega) (by omega) c_2
    refine lv_iconst (v := 5) X.1 X.2.1 dX1_greatestMeasure_10 (by decide) ?_
    exact ro_i X hr hlk (by show (_ : Int32) = _; rw [if_neg k_2]; rfl) dX1_greatestMeasure_11
  · have k_2 := k_eq (a := w9) (b := 4) (by omega) (by omega) c_2
    refine lv_bipush (v := 20) X.1 X.2.1 dX1_greatestMeasure_5 (by decide) ?_
    refine lv_goto (tgt := 11) X.1 X.2.1 dX1_greatestMeasure_7 (by decide) ?_
    exact ro_i X hr hlk (by show (_ : Int32) = _; rw [if_pos k_2]; rfl) dX1_greatestMeasure_11

set_option maxHeartbeats 4000000 in
set_option maxRecDepth 100000 in
theorem c_X1_strength (l : Launch) (G : HG) (hp : HP) (h : Nat) (hh : h ≤ 1048575) : Met l yX1_strength [.code yX1_strength cX1_strength 3 (some .int)] { frames := 1, cells := 0, slots := 0, locals := 20 } (va_Pc [.int (nI h)] (RP G hp)) (vp_Si (fun r => r = nI (strH h))) 0 0 (fun _ => False) := by
  refine ro_ofW (by decide) (Nat.le_of_ble_eq_true rfl) ?_
  intro p e s m args below meth c ls X hr hlk hH hl
  have hS : va_S (fun _ => False) s.heap s.heap [] := va_S.rf
  have hl : lv_has ls 3 [(0, .int (nI h))] := hl
  refine lv_iconst (v := 0) X.1 X.2.1 dX1_strength_0 (by decide) ?_
  refine lv_istore_n (lv' := [(1, .int 0), (0, .int (nI h))]) X.1 X.2.1 dX1_strength_1 rfl hl (by decide) rfl (fun ls hl => ?_)
  refine lv_iconst (v := 1) X.1 X.2.1 dX1_strength_2 (by decide) ?_
  refine lv_istore_n (lv' := [(2, .int 1), (1, .int 0), (0, .int (nI h))]) X.1 X.2.1 dX1_strength_3 rfl hl (by decide) rfl (fun ls hl => ?_)
  refine lv_iload_n X.1 X.2.1 dX1_strength_4 rfl (lv_at hl 0 rfl) ?_
  refine lv_iconst (v := 5) X.1 X.2.1 dX1_strength_5 (by decide) ?_
  refine lv_icmp_ge (tgt := 29) X.1 X.2.1 dX1_strength_6 (by decide) (fun c_6 => absurd c_6 (by decide)) (fun c_6 => ?_)
  refine lv_iload_n X.1 X.2.1 dX1_strength_9 rfl (lv_at hl 1 rfl) ?_
  refine lv_iload_n X.1 X.2.1 dX1_strength_10 rfl (lv_at hl 0 rfl) ?_
  refine lv_iload_n X.1 X.2.1 dX1_strength_11 rfl (lv_at hl 2 rfl) ?_
  refine r_const X tw_199 dX1_strength_12 ?_
  refine lv_iload_n X.1 X.2.1 dX1_strength_14 rfl (lv_at hl 0 rfl) ?_
  refine lv_ishl X.1 X.2.1 dX1_strength_15 ?_
  refine r_eqi (show (((33825 : Int32) <<< (1 &&& 31)) : Int32) = 67650 from (by decide)) ?_
  refine lv_iand X.1 X.2.1 dX1_strength_16 ?_
  refine r_eqi (show (((nI h) &&& 67650) : Int32) = nI (h &&& 67650) from n_and h 67650) ?_
  refine on_Si (run_S (As := [.int (nI (h &&& 67650))]) (rest := [.int 1, .int 0]) X (c_J6_bitCount_0f7a4 l G hp (h &&& 67650) (Nat.lt_of_le_of_lt Nat.and_le_left (by omega))) (rp_blind _) (rp_at X hH hS) mf_J6_bitCount_0f7a4 tw_200 tw_201 ⟨rfl, rfl, Nat.le_of_ble_eq_true rfl, Nat.le_of_ble_eq_true rfl⟩ hl.1 rfl rfl (Nat.le_of_ble_eq_true rfl) ⟨Nat.le_of_ble_eq_true rfl, Nat.le_of_ble_eq_true rfl⟩ dX1_strength_17) (fun r_17 q_17 => ?_)
  obtain rfl : r_17 = (nI (sizeH (h &&& 67650))) := q_17
  refine lv_imul X.1 X.2.1 dX1_strength_20 ?_
  refine r_eqi (show (((1 : Int32) * (nI (sizeH (h &&& 67650)))) : Int32) = nI (1 * (sizeH (h &&& 67650))) from pk_mul 1 (sizeH (h &&& 67650))) ?_
  refine lv_iadd X.1 X.2.1 dX1_strength_21 ?_
  refine r_eqi (show (((0 : Int32) + (nI (1 * (sizeH (h &&& 67650))))) : Int32) = nI (0 + (1 * (sizeH (h &&& 67650)))) from nI_add 0 (1 * (sizeH (h &&& 67650)))) ?_
  refine lv_istore_n (lv' := [(1, .int (nI (0 + (1 * (sizeH (h &&& 67650)))))), (2, .int 1), (0, .int (nI h))]) X.1 X.2.1 dX1_strength_22 rfl hl (by decide) rfl (fun ls hl => ?_)
  refine lv_iinc (v := 2) (lv' := [(2, .int 2), (1, .int (nI (0 + (1 * (sizeH (h &&& 67650)))))), (0, .int (nI h))]) X.1 X.2.1 dX1_strength_23 hl (k := 1) rfl (by decide) (by decide) rfl (fun ls hl => ?_)
  refine lv_goto (tgt := 4) X.1 X.2.1 dX1_strength_26 (by decide) ?_
  refine lv_iload_n X.1 X.2.1 dX1_strength_4 rfl (lv_at hl 0 rfl) ?_
  refine lv_iconst (v := 5) X.1 X.2.1 dX1_strength_5 (by decide) ?_
  refine lv_icmp_ge (tgt := 29) X.1 X.2.1 dX1_strength_6 (by decide) (fun c_6 => absurd c_6 (by decide)) (fun c_6 => ?_)
  refine lv_iload_n X.1 X.2.1 dX1_strength_9 rfl (lv_at hl 1 rfl) ?_
  refine lv_iload_n X.1 X.2.1 dX1_strength_10 rfl (lv_at hl 0 rfl) ?_
  refine lv_iload_n X.1 X.2.1 dX1_strength_11 rfl (lv_at hl 2 rfl) ?_
  refine r_const X tw_199 dX1_strength_12 ?_
  refine lv_iload_n X.1 X.2.1 dX1_strength_14 rfl (lv_at hl 0 rfl) ?_
  refine lv_ishl X.1 X.2.1 dX1_strength_15 ?_
  refine r_eqi (show (((33825 : Int32) <<< (2 &&& 31)) : Int32) = 135300 from (by decide)) ?_
  refine lv_iand X.1 X.2.1 dX1_strength_16 ?_
  refine r_eqi (show (((nI h) &&& 135300) : Int32) = nI (h &&& 135300) from n_and h 135300) ?_
  refine on_Si (run_S (As := [.int (nI (h &&& 135300))]) (rest := [.int 2, .int (nI (0 + (1 * (sizeH (h &&& 67650)))))]) X (c_J6_bitCount_0f7a4 l G hp (h &&& 135300) (Nat.lt_of_le_of_lt Nat.and_le_left (by omega))) (rp_blind _) (rp_at X hH hS) mf_J6_bitCount_0f7a4 tw_200 tw_201 ⟨rfl, rfl, Nat.le_of_ble_eq_true rfl, Nat.le_of_ble_eq_true rfl⟩ hl.1 rfl rfl (Nat.le_of_ble_eq_true rfl) ⟨Nat.le_of_ble_eq_true rfl, Nat.le_of_ble_eq_true rfl⟩ dX1_strength_17) (fun r_17x q_17x => ?_)
  obtain rfl : r_17x = (nI (sizeH (h &&& 135300))) := q_17x
  refine lv_imul X.1 X.2.1 dX1_strength_20 ?_
  refine r_eqi (show (((2 : Int32) * (nI (sizeH (h &&& 135300)))) : Int32) = nI (2 * (sizeH (h &&& 135300))) from pk_mul 2 (sizeH (h &&& 135300))) ?_
  refine lv_iadd X.1 X.2.1 dX1_strength_21 ?_
  refine r_eqi (show (((nI (0 + (1 * (sizeH (h &&& 67650))))) + (nI (2 * (sizeH (h &&& 135300))))) : Int32) = nI ((0 + (1 * (sizeH (h &&& 67650)))) + (2 * (sizeH (h &&& 135300)))) from nI_add (0 + (1 * (sizeH (h &&& 67650)))) (2 * (sizeH (h &&& 135300)))) ?_
  refine lv_istore_n (lv' := [(1, .int (nI ((0 + (1 * (sizeH (h &&& 67650)))) + (2 * (sizeH (h &&& 135300)))))), (2, .int 2), (0, .int (nI h))]) X.1 X.2.1 dX1_strength_22 rfl hl (by decide) rfl (fun ls hl => ?_)
  refine lv_iinc (v := 3) (lv' := [(2, .int 3), (1, .int (nI ((0 + (1 * (sizeH (h &&& 67650)))) + (2 * (sizeH (h &&& 135300)))))), (0, .int (nI h))]) X.1 X.2.1 dX1_strength_23 hl (k := 1) rfl (by decide) (by decide) rfl (fun ls hl => ?_)
  refine lv_goto (tgt := 4) X.1 X.2.1 dX1_strength_26 (by decide) ?_
  refine lv_iload_n X.1 X.2.1 dX1_strength_4 rfl (lv_at hl 0 rfl) ?_
  refine lv_iconst (v := 5) X.1 X.2.1 dX1_strength_5 (by decide) ?_
  refine lv_icmp_ge (tgt := 29) X.1 X.2.1 dX1_strength_6 (by decide) (fun c_6 => absurd c_6 (by decide)) (fun c_6 => ?_)
  refine lv_iload_n X.1 X.2.1 dX1_strength_9 rfl (lv_at hl 1 rfl) ?_
  refine lv_iload_n X.1 X.2.1 dX1_strength_10 rfl (lv_at hl 0 rfl) ?_
  refine lv_iload_n X.1 X.2.1 dX1_strength_11 rfl (lv_at hl 2 rfl) ?_
  refine r_const X tw_199 dX1_strength_12 ?_
  refine lv_iload_n X.1 X.2.1 dX1_strength_14 rfl (lv_at hl 0 rfl) ?_
  refine lv_ishl X.1 X.2.1 dX1_strength_15 ?_
  refine r_eqi (show (((33825 : Int32) <<< (3 &&& 31)) : Int32) = 270600 from (by decide)) ?_
  refine lv_iand X.1 X.2.1 dX1_strength_16 ?_
  refine r_eqi (show (((nI h) &&& 270600) : Int32) = nI (h &&& 270600) from n_and h 270600) ?_
  refine on_Si (run_S (As := [.int (nI (h &&& 270600))]) (rest := [.int 3, .int (nI ((0 + (1 * (sizeH (h &&& 67650)))) + (2 * (sizeH (h &&& 135300)))))]) X (c_J6_bitCount_0f7a4 l G hp (h &&& 270600) (Nat.lt_of_le_of_lt Nat.and_le_left (by omega))) (rp_blind _) (rp_at X hH hS) mf_J6_bitCount_0f7a4 tw_200 tw_201 ⟨rfl, rfl, Nat.le_of_ble_eq_true rfl, Nat.le_of_ble_eq_true rfl⟩ hl.1 rfl rfl (Nat.le_of_ble_eq_true rfl) ⟨Nat.le_of_ble_eq_true rfl, Nat.le_of_ble_eq_true rfl⟩ dX1_strength_17) (fun r_17xx q_17xx => ?_)
  obtain rfl : r_17xx = (nI (sizeH (h &&& 270600))) := q_17xx
  refine lv_imul X.1 X.2.1 dX1_strength_20 ?_
  refine r_eqi (show (((3 : Int32) * (nI (sizeH (h &&& 270600)))) : Int32) = nI (3 * (sizeH (h &&& 270600))) from pk_mul 3 (sizeH (h &&& 270600))) ?_
  refine lv_iadd X.1 X.2.1 dX1_strength_21 ?_
  refine r_eqi (show (((nI ((0 + (1 * (sizeH (h &&& 67650)))) + (2 * (sizeH (h &&& 135300))))) + (nI (3 * (sizeH (h &&& 270600))))) : Int32) = nI (((0 + (1 * (sizeH (h &&& 67650)))) + (2 * (sizeH (h &&& 135300)))) + (3 * (sizeH (h &&& 270600)))) from nI_add ((0 + (1 * (sizeH (h &&& 67650)))) + (2 * (sizeH (h &&& 135300)))) (3 * (sizeH (h &&& 270600)))) ?_
  refine lv_istore_n (lv' := [(1, .int (nI (((0 + (1 * (sizeH (h &&& 67650)))) + (2 * (sizeH (h &&& 135300)))) + (3 * (sizeH (h &&& 270600)))))), (2, .int 3), (0, .int (nI h))]) X.1 X.2.1 dX1_strength_22 rfl hl (by decide) rfl (fun ls hl => ?_)
  refine lv_iinc (v := 4) (lv' := [(2, .int 4), (1, .int (nI (((0 + (1 * (sizeH (h &&& 67650)))) + (2 * (sizeH (h &&& 135300)))) + (3 * (sizeH (h &&& 270600)))))), (0, .int (nI h))]) X.1 X.2.1 dX1_strength_23 hl (k := 1) rfl (by decide) (by decide) rfl (fun ls hl => ?_)
  refine lv_goto (tgt := 4) X.1 X.2.1 dX1_strength_26 (by decide) ?_
  refine lv_iload_n X.1 X.2.1 dX1_strength_4 rfl (lv_at hl 0 rfl) ?_
  refine lv_iconst (v := 5) X.1 X.2.1 dX1_strength_5 (by decide) ?_
  refine lv_icmp_ge (tgt := 29) X.1 X.2.1 dX1_strength_6 (by decide) (fun c_6 => absurd c_6 (by decide)) (fun c_6 => ?_)
  refine lv_iload_n X.1 X.2.1 dX1_strength_9 rfl (lv_at hl 1 rfl) ?_
  refine lv_iload_n X.1 X.2.1 dX1_strength_10 rfl (lv_at hl 0 rfl) ?_
  refine lv_iload_n X.1 X.2.1 dX1_strength_11 rfl (lv_at hl 2 rfl) ?_
  refine r_const X tw_199 dX1_strength_12 ?_
  refine lv_iload_n X.1 X.2.1 dX1_strength_14 rfl (lv_at hl 0 rfl) ?_
  refine lv_ishl X.1 X.2.1 dX1_strength_15 ?_
  refine r_eqi (show (((33825 : Int32) <<< (4 &&& 31)) : Int32) = 541200 from (by decide)) ?_
  refine lv_iand X.1 X.2.1 dX1_strength_16 ?_
  refine r_eqi (show (((nI h) &&& 541200) : Int32) = nI (h &&& 541200) from n_and h 541200) ?_
  refine on_Si (run_S (As := [.int (nI (h &&& 541200))]) (rest := [.int 4, .int (nI (((0 + (1 * (sizeH (h &&& 67650)))) + (2 * (sizeH (h &&& 135300)))) + (3 * (sizeH (h &&& 270600)))))]) X (c_J6_bitCount_0f7a4 l G hp (h &&& 541200) (Nat.lt_of_le_of_lt Nat.and_le_left (by omega))) (rp_blind _) (rp_at X hH hS) mf_J6_bitCount_0f7a4 tw_200 tw_201 ⟨rfl, rfl, Nat.le_of_ble_eq_true rfl, Nat.le_of_ble_eq_true rfl⟩ hl.1 rfl rfl (Nat.le_of_ble_eq_true rfl) ⟨Nat.le_of_ble_eq_true rfl, Nat.le_of_ble_eq_true rfl⟩ dX1_strength_17) (fun r_17xxx q_17xxx => ?_)
  obtain rfl : r_17xxx = (nI (sizeH (h &&& 541200))) := q_17xxx
  refine lv_imul X.1 X.2.1 dX1_strength_20 ?_
  refine r_eqi (show (((4 : Int32) * (nI (sizeH (h &&& 541200)))) : Int32) = nI (4 * (sizeH (h &&& 541200))) from pk_mul 4 (sizeH (h &&& 541200))) ?_
  refine lv_iadd X.1 X.2.1 dX1_strength_21 ?_
  refine r_eqi (show (((nI (((0 + (1 * (sizeH (h &&& 67650)))) + (2 * (sizeH (h &&& 135300)))) + (3 * (sizeH (h &&& 270600))))) + (nI (4 * (sizeH (h &&& 541200))))) : Int32) = nI ((((0 + (1 * (sizeH (h &&& 67650)))) + (2 * (sizeH (h &&& 135300)))) + (3 * (sizeH (h &&& 270600)))) + (4 * (sizeH (h &&& 541200)))) from nI_add (((0 + (1 * (sizeH (h &&& 67650)))) + (2 * (sizeH (h &&& 135300)))) + (3 * (sizeH (h &&& 270600)))) (4 * (sizeH (h &&& 541200)))) ?_
  refine lv_istore_n (lv' := [(1, .int (nI ((((0 + (1 * (sizeH (h &&& 67650)))) + (2 * (sizeH (h &&& 135300)))) + (3 * (sizeH (h &&& 270600)))) + (4 * (sizeH (h &&& 541200)))))), (2, .int 4), (0, .int (nI h))]) X.1 X.2.1 dX1_strength_22 rfl hl (by decide) rfl (fun ls hl => ?_)
  refine lv_iinc (v := 5) (lv' := [(2, .int 5), (1, .int (nI ((((0 + (1 * (sizeH (h &&& 67650)))) + (2 * (sizeH (h &&& 135300)))) + (3 * (sizeH (h &&& 270600)))) + (4 * (sizeH (h &&& 541200)))))), (0, .int (nI h))]) X.1 X.2.1 dX1_strength_23 hl (k := 1) rfl (by decide) (by decide) rfl (fun ls hl => ?_)
  refine lv_goto (tgt := 4) X.1 X.2.1 dX1_strength_26 (by decide) ?_
  refine lv_iload_n X.1 X.2.1 dX1_strength_4 rfl (lv_at hl 0 rfl) ?_
  refine lv_iconst (v := 5) X.1 X.2.1 dX1_strength_5 (by decide) ?_
  refine lv_icmp_ge (tgt := 29) X.1 X.2.1 dX1_strength_6 (by decide) (fun c_6 => ?_) (fun c_6 => absurd (by decide) c_6)
  refine lv_iload_n X.1 X.2.1 dX1_strength_29 rfl (lv_at hl 1 rfl) ?_
  exact ro_i X hr hlk (by show nI _ = nI _; refine congrArg nI ?_; rw [← str_bc h, Nat.zero_add]) dX1_strength_30

/-- all measures of a hand in one number -/
def pfN (h : Nat) : Nat := strH h * 16777216 + lenH h 0 + lenH h 1 * 64 + lenH h 2 * 4096 + lenH h 3 * 262144
theorem or_sum (a b k : Nat) (h : b < 2 ^ k) : (a * 2 ^ k) ||| b = a * 2 ^ k + b := by
  rw [Nat.mul_comm, Nat.two_pow_add_eq_or_of_lt h]
theorem pf_or (t a b c d : Nat) (ha : a < 32) (hb : b < 32) (hc : c < 32) (hd : d < 32) : (((t * 16777216 ||| a) ||| (b * 64)) ||| (c * 4096)) ||| (d * 262144) = t * 16777216 + a + b * 64 + c * 4096 + d * 262144 := by
  have e1 : (t * 16777216 ||| a) = t * 16777216 + a := or_sum t a 24 (by omega)
  have e2 : ∀ x, x < 64 → ∀ T y, y < 64 → ((T * 4096 + x) ||| (y * 64)) = T * 4096 + y * 64 + x := by
    intro x hx T y hy
    have k1 : (T * 64 + y) * 2 ^ 6 ||| x = (T * 64 + y) * 2 ^ 6 + x := or_sum _ x 6 (by omega)
    have k2 : T * 2 ^ 12 ||| x = T * 2 ^ 12 + x := or_sum T x 12 (by omega)
    have k3 : T * 2 ^ 12 ||| (y * 64) = T * 2 ^ 12 + y * 64 := or_sum T (y * 64) 12 (by omega)
    rw [show T * 4096 + x = T * 2 ^ 12 ||| x by rw [k2], Nat.or_assoc, Nat.or_comm x, ← Nat.or_assoc, k3]
    rw [show T * 2 ^ 12 + y * 64 = (T * 64 + y) * 2 ^ 6 by omega, k1]
  have e3 : ∀ x, x < 4096 → ∀ T y, y < 64 → ((T * 262144 + x) ||| (y * 4096)) = T * 262144 + y * 4096 + x := by
    intro x hx T y hy
    have k1 : (T * 64 + y) * 2 ^ 12 ||| x = (T * 64 + y) * 2 ^ 12 + x := or_sum _ x 12 (by omega)
    have k2 : T * 2 ^ 18 ||| x = T * 2 ^ 18 + x := or_sum T x 18 (by omega)
    have k3 : T * 2 ^ 18 ||| (y * 4096) = T * 2 ^ 18 + y * 4096 := or_sum T (y * 4096) 18 (by omega)
    rw [show T * 262144 + x = T * 2 ^ 18 ||| x by rw [k2], Nat.or_assoc, Nat.or_comm x, ← Nat.or_assoc, k3]
    rw [show T * 2 ^ 18 + y * 4096 = (T * 64 + y) * 2 ^ 12 by omega, k1]
  have e4 : ∀ x, x < 262144 → ∀ T y, y < 64 → ((T * 16777216 + x) ||| (y * 262144)) = T * 16777216 + y * 262144 + x := by
    intro x hx T y hy
    have k1 : (T * 64 + y) * 2 ^ 18 ||| x = (T * 64 + y) * 2 ^ 18 + x := or_sum _ x 18 (by omega)
    have k2 : T * 2 ^ 24 ||| x = T * 2 ^ 24 + x := or_sum T x 24 (by omega)
    have k3 : T * 2 ^ 24 ||| (y * 262144) = T * 2 ^ 24 + y * 262144 := or_sum T (y * 262144) 24 (by omega)
    rw [show T * 16777216 + x = T * 2 ^ 24 ||| x by rw [k2], Nat.or_assoc, Nat.or_comm x, ← Nat.or_assoc, k3]
    rw [show T * 2 ^ 24 + y * 262144 = (T * 64 + y) * 2 ^ 18 by omega, k1]
  rw [e1, show t * 16777216 + a = (t * 4096) * 4096 + a by omega, e2 a (by omega) _ b (by omega), show t * 4096 * 4096 + b * 64 + a = (t * 64) * 262144 + (b * 64 + a) by omega, e3 _ (by omega) _ c (by omega), show t * 64 * 262144 + c * 4096 + (b * 64 + a) = t * 16777216 + (c * 4096 + b * 64 + a) by omega, e4 _ (by omega) _ d (by omega)]
  omega
theorem size_su (h s : Nat) : sizeH (su h s) = lenH h s := by
  have hs := su_lt h s
  have k : ∀ z, z < 32 → sizeH z = pc5 z := by decide +kernel
  exact k _ hs
set_option maxHeartbeats 4000000 in
set_option maxRecDepth 100000 in
theorem c_X1_profile (l : Launch) (G : HG) (hp : HP) (h : Nat) (hh : h ≤ 1048575) : Met l yX1_profile [.code yX1_profile cX1_profile 3 (some .int)] { frames := 2, cells := 0, slots := 0, locals := 42 } (va_Pc [.int (nI h)] (RP G hp)) (vp_Si (fun r => r = nI (pfN h))) 0 0 (fun _ => False) := by
  refine ro_ofW (by decide) (Nat.le_of_ble_eq_true rfl) ?_
  intro p e s m args below meth c ls X hr hlk hH hl
  have hS : va_S (fun _ => False) s.heap s.heap [] := va_S.rf
  have hl : lv_has ls 3 [(0, .int (nI h))] := hl
  have hs := strH_le h
  have hl0 := lenH_le h 0
  have hl1 := lenH_le h 1
  have hl2 := lenH_le h 2
  have hl3 := lenH_le h 3
  refine lv_iload_n X.1 X.2.1 dX1_profile_0 rfl (lv_at hl 0 rfl) ?_
  refine on_Si (run_S (As := [.int (nI h)]) (rest := []) X (c_X1_strength l G hp h (by omega)) (rp_blind _) (rp_at X hH hS) mf_X1_strength tw_196 tw_197 ⟨rfl, rfl, Nat.le_of_ble_eq_true rfl, Nat.le_of_ble_eq_true rfl⟩ hl.1 rfl rfl (Nat.le_of_ble_eq_true rfl) ⟨Nat.le_of_ble_eq_true rfl, Nat.le_of_ble_eq_true rfl⟩ dX1_profile_1) (fun r_1 q_1 => ?_)
  obtain rfl : r_1 = (nI (strH h)) := q_1
  refine lv_bipush (v := 24) X.1 X.2.1 dX1_profile_4 (by decide) ?_
  refine lv_ishl X.1 X.2.1 dX1_profile_6 ?_
  refine r_eqi (show (((nI (strH h)) <<< (24 &&& 31)) : Int32) = nI ((strH h) * 16777216) from pk_shlN (n := (strH h)) _ 24 (by decide) (by omega)) ?_
  refine lv_istore_n (lv' := [(1, .int (nI ((strH h) * 16777216))), (0, .int (nI h))]) X.1 X.2.1 dX1_profile_7 rfl hl (by decide) rfl (fun ls hl => ?_)
  refine lv_iconst (v := 0) X.1 X.2.1 dX1_profile_8 (by decide) ?_
  refine lv_istore_n (lv' := [(2, .int 0), (1, .int (nI ((strH h) * 16777216))), (0, .int (nI h))]) X.1 X.2.1 dX1_profile_9 rfl hl (by decide) rfl (fun ls hl => ?_)
  refine lv_iload_n X.1 X.2.1 dX1_profile_10 rfl (lv_at hl 0 rfl) ?_
  refine lv_iconst (v := 4) X.1 X.2.1 dX1_profile_11 (by decide) ?_
  refine lv_icmp_ge (tgt := 37) X.1 X.2.1 dX1_profile_12 (by decide) (fun c_12 => absurd c_12 (by decide)) (fun c_12 => ?_)
  refine lv_iload_n X.1 X.2.1 dX1_profile_15 rfl (lv_at hl 1 rfl) ?_
  refine lv_iload_n X.1 X.2.1 dX1_profile_16 rfl (lv_at hl 2 rfl) ?_
  refine lv_iload_n X.1 X.2.1 dX1_profile_17 rfl (lv_at hl 0 rfl) ?_
  refine on_Si (run_S (As := [.int (nI h), .int 0]) (rest := [.int (nI ((strH h) * 16777216))]) X (c_X1_ofSuit l G hp h 0 (by omega) (by omega)) (rp_blind _) (rp_at X hH hS) mf_X1_ofSuit tw_206 tw_207 ⟨rfl, rfl, Nat.le_of_ble_eq_true rfl, Nat.le_of_ble_eq_true rfl⟩ hl.1 rfl rfl (Nat.le_of_ble_eq_true rfl) ⟨Nat.le_of_ble_eq_true rfl, Nat.le_of_ble_eq_true rfl⟩ dX1_profile_18) (fun r_18 q_18 => ?_)
  obtain rfl : r_18 = (nI (su h 0)) := q_18
  refine on_Si (run_S (As := [.int (nI (su h 0))]) (rest := [.int (nI ((strH h) * 16777216))]) X (c_J6_bitCount_0f7a4 l G hp (su h 0) (Nat.lt_trans (su_lt _ _) (by decide))) (rp_blind _) (rp_at X hH hS) mf_J6_bitCount_0f7a4 tw_200 tw_201 ⟨rfl, rfl, Nat.le_of_ble_eq_true rfl, Nat.le_of_ble_eq_true rfl⟩ hl.1 rfl rfl (Nat.le_of_ble_eq_true rfl) ⟨Nat.le_of_ble_eq_true rfl, Nat.le_of_ble_eq_true rfl⟩ dX1_profile_21) (fun r_21 q_21 => ?_)
  obtain rfl : r_21 = (nI (sizeH (su h 0))) := q_21
  refine r_eqi (show nI (sizeH (su h 0)) = nI (lenH h 0) from by rw [size_su]) ?_
  refine lv_bipush (v := 6) X.1 X.2.1 dX1_profile_24 (by decide) ?_
  refine lv_iload_n X.1 X.2.1 dX1_profile_26 rfl (lv_at hl 0 rfl) ?_
  refine lv_imul X.1 X.2.1 dX1_profile_27 ?_
  refine r_eqi (show (((6 : Int32) * 0) : Int32) = 0 from (by decide)) ?_
  refine lv_ishl X.1 X.2.1 dX1_profile_28 ?_
  refine r_eqi (show (((nI (lenH h 0)) <<< (0 &&& 31)) : Int32) = nI ((lenH h 0) * 1) from pk_shlN (n := (lenH h 0)) _ 0 (by decide) (by omega)) ?_
  refine lv_ior X.1 X.2.1 dX1_profile_29 ?_
  refine r_eqi (show (((nI ((strH h) * 16777216)) ||| (nI ((lenH h 0) * 1))) : Int32) = nI (((strH h) * 16777216) ||| ((lenH h 0) * 1)) from n_or ((strH h) * 16777216) ((lenH h 0) * 1)) ?_
  refine lv_istore_n (lv' := [(1, .int (nI (((strH h) * 16777216) ||| ((lenH h 0) * 1)))), (2, .int 0), (0, .int (nI h))]) X.1 X.2.1 dX1_profile_30 rfl hl (by decide) rfl (fun ls hl => ?_)
  refine lv_iinc (v := 1) (lv' := [(2, .int 1), (1, .int (nI (((strH h) * 16777216) ||| ((lenH h 0) * 1)))), (0, .int (nI h))]) X.1 X.2.1 dX1_profile_31 hl (k := 1) rfl (by decide) (by decide) rfl (fun ls hl => ?_)
  refine lv_goto (tgt := 10) X.1 X.2.1 dX1_profile_34 (by decide) ?_
  refine lv_iload_n X.1 X.2.1 dX1_profile_10 rfl (lv_at hl 0 rfl) ?_
  refine lv_iconst (v := 4) X.1 X.2.1 dX1_profile_11 (by decide) ?_
  refine lv_icmp_ge (tgt := 37) X.1 X.2.1 dX1_profile_12 (by decide) (fun c_12 => absurd c_12 (by decide)) (fun c_12 => ?_)
  refine lv_iload_n X.1 X.2.1 dX1_profile_15 rfl (lv_at hl 1 rfl) ?_
  refine lv_iload_n X.1 X.2.1 dX1_profile_16 rfl (lv_at hl 2 rfl) ?_
  refine lv_iload_n X.1 X.2.1 dX1_profile_17 rfl (lv_at hl 0 rfl) ?_
  refine on_Si (run_S (As := [.int (nI h), .int 1]) (rest := [.int (nI (((strH h) * 16777216) ||| ((lenH h 0) * 1)))]) X (c_X1_ofSuit l G hp h 1 (by omega) (by omega)) (rp_blind _) (rp_at X hH hS) mf_X1_ofSuit tw_206 tw_207 ⟨rfl, rfl, Nat.le_of_ble_eq_true rfl, Nat.le_of_ble_eq_true rfl⟩ hl.1 rfl rfl (Nat.le_of_ble_eq_true rfl) ⟨Nat.le_of_ble_eq_true rfl, Nat.le_of_ble_eq_true rfl⟩ dX1_profile_18) (fun r_18x q_18x => ?_)
  obtain rfl : r_18x = (nI (su h 1)) := q_18x
  refine on_Si (run_S (As := [.int (nI (su h 1))]) (rest := [.int (nI (((strH h) * 16777216) ||| ((lenH h 0) * 1)))]) X (c_J6_bitCount_0f7a4 l G hp (su h 1) (Nat.lt_trans (su_lt _ _) (by decide))) (rp_blind _) (rp_at X hH hS) mf_J6_bitCount_0f7a4 tw_200 tw_201 ⟨rfl, rfl, Nat.le_of_ble_eq_true rfl, Nat.le_of_ble_eq_true rfl⟩ hl.1 rfl rfl (Nat.le_of_ble_eq_true rfl) ⟨Nat.le_of_ble_eq_true rfl, Nat.le_of_ble_eq_true rfl⟩ dX1_profile_21) (fun r_21x q_21x => ?_)
  obtain rfl : r_21x = (nI (sizeH (su h 1))) := q_21x
  refine r_eqi (show nI (sizeH (su h 1)) = nI (lenH h 1) from by rw [size_su]) ?_
  refine lv_bipush (v := 6) X.1 X.2.1 dX1_profile_24 (by decide) ?_
  refine lv_iload_n X.1 X.2.1 dX1_profile_26 rfl (lv_at hl 0 rfl) ?_
  refine lv_imul X.1 X.2.1 dX1_profile_27 ?_
  refine r_eqi (show (((6 : Int32) * 1) : Int32) = 6 from (by decide)) ?_
  refine lv_ishl X.1 X.2.1 dX1_profile_28 ?_
  refine r_eqi (show (((nI (lenH h 1)) <<< (6 &&& 31)) : Int32) = nI ((lenH h 1) * 64) from pk_shlN (n := (lenH h 1)) _ 6 (by decide) (by omega)) ?_
  refine lv_ior X.1 X.2.1 dX1_profile_29 ?_
  refine r_eqi (show (((nI (((strH h) * 16777216) ||| ((lenH h 0) * 1))) ||| (nI ((lenH h 1) * 64))) : Int32) = nI ((((strH h) * 16777216) ||| ((lenH h 0) * 1)) ||| ((lenH h 1) * 64)) from n_or (((strH h) * 16777216) ||| ((lenH h 0) * 1)) ((lenH h 1) * 64)) ?_
  refine lv_istore_n (lv' := [(1, .int (nI ((((strH h) * 16777216) ||| ((lenH h 0) * 1)) ||| ((lenH h 1) * 64)))), (2, .int 1), (0, .int (nI h))]) X.1 X.2.1 dX1_profile_30 rfl hl (by decide) rfl (fun ls hl => ?_)
  refine lv_iinc (v := 2) (lv' := [(2, .int 2), (1, .int (nI ((((strH h) * 16777216) ||| ((lenH h 0) * 1)) ||| ((lenH h 1) * 64)))), (0, .int (nI h))]) X.1 X.2.1 dX1_profile_31 hl (k := 1) rfl (by decide) (by decide) rfl (fun ls hl => ?_)
  refine lv_goto (tgt := 10) X.1 X.2.1 dX1_profile_34 (by decide) ?_
  refine lv_iload_n X.1 X.2.1 dX1_profile_10 rfl (lv_at hl 0 rfl) ?_
  refine lv_iconst (v := 4) X.1 X.2.1 dX1_profile_11 (by decide) ?_
  refine lv_icmp_ge (tgt := 37) X.1 X.2.1 dX1_profile_12 (by decide) (fun c_12 => absurd c_12 (by decide)) (fun c_12 => ?_)
  refine lv_iload_n X.1 X.2.1 dX1_profile_15 rfl (lv_at hl 1 rfl) ?_
  refine lv_iload_n X.1 X.2.1 dX1_profile_16 rfl (lv_at hl 2 rfl) ?_
  refine lv_iload_n X.1 X.2.1 dX1_profile_17 rfl (lv_at hl 0 rfl) ?_
  refine on_Si (run_S (As := [.int (nI h), .int 2]) (rest := [.int (nI ((((strH h) * 16777216) ||| ((lenH h 0) * 1)) ||| ((lenH h 1) * 64)))]) X (c_X1_ofSuit l G hp h 2 (by omega) (by omega)) (rp_blind _) (rp_at X hH hS) mf_X1_ofSuit tw_206 tw_207 ⟨rfl, rfl, Nat.le_of_ble_eq_true rfl, Nat.le_of_ble_eq_true rfl⟩ hl.1 rfl rfl (Nat.le_of_ble_eq_true rfl) ⟨Nat.le_of_ble_eq_true rfl, Nat.le_of_ble_eq_true rfl⟩ dX1_profile_18) (fun r_18xx q_18xx => ?_)
  obtain rfl : r_18xx = (nI (su h 2)) := q_18xx
  refine on_Si (run_S (As := [.int (nI (su h 2))]) (rest := [.int (nI ((((strH h) * 16777216) ||| ((lenH h 0) * 1)) ||| ((lenH h 1) * 64)))]) X (c_J6_bitCount_0f7a4 l G hp (su h 2) (Nat.lt_trans (su_lt _ _) (by decide))) (rp_blind _) (rp_at X hH hS) mf_J6_bitCount_0f7a4 tw_200 tw_201 ⟨rfl, rfl, Nat.le_of_ble_eq_true rfl, Nat.le_of_ble_eq_true rfl⟩ hl.1 rfl rfl (Nat.le_of_ble_eq_true rfl) ⟨Nat.le_of_ble_eq_true rfl, Nat.le_of_ble_eq_true rfl⟩ dX1_profile_21) (fun r_21xx q_21xx => ?_)
  obtain rfl : r_21xx = (nI (sizeH (su h 2))) := q_21xx
  refine r_eqi (show nI (sizeH (su h 2)) = nI (lenH h 2) from by rw [size_su]) ?_
  refine lv_bipush (v := 6) X.1 X.2.1 dX1_profile_24 (by decide) ?_
  refine lv_iload_n X.1 X.2.1 dX1_profile_26 rfl (lv_at hl 0 rfl) ?_
  refine lv_imul X.1 X.2.1 dX1_profile_27 ?_
  refine r_eqi (show (((6 : Int32) * 2) : Int32) = 12 from (by decide)) ?_
  refine lv_ishl X.1 X.2.1 dX1_profile_28 ?_
  refine r_eqi (show (((nI (lenH h 2)) <<< (12 &&& 31)) : Int32) = nI ((lenH h 2) * 4096) from pk_shlN (n := (lenH h 2)) _ 12 (by decide) (by omega)) ?_
  refine lv_ior X.1 X.2.1 dX1_profile_29 ?_
  refine r_eqi (show (((nI ((((strH h) * 16777216) ||| ((lenH h 0) * 1)) ||| ((lenH h 1) * 64))) ||| (nI ((lenH h 2) * 4096))) : Int32) = nI (((((strH h) * 16777216) ||| ((lenH h 0) * 1)) ||| ((lenH h 1) * 64)) ||| ((lenH h 2) * 4096)) from n_or ((((strH h) * 16777216) ||| ((lenH h 0) * 1)) ||| ((lenH h 1) * 64)) ((lenH h 2) * 4096)) ?_
  refine lv_istore_n (lv' := [(1, .int (nI (((((strH h) * 16777216) ||| ((lenH h 0) * 1)) ||| ((lenH h 1) * 64)) ||| ((lenH h 2) * 4096)))), (2, .int 2), (0, .int (nI h))]) X.1 X.2.1 dX1_profile_30 rfl hl (by decide) rfl (fun ls hl => ?_)
  refine lv_iinc (v := 3) (lv' := [(2, .int 3), (1, .int (nI (((((strH h) * 16777216) ||| ((lenH h 0) * 1)) ||| ((lenH h 1) * 64)) ||| ((lenH h 2) * 4096)))), (0, .int (nI h))]) X.1 X.2.1 dX1_profile_31 hl (k := 1) rfl (by decide) (by decide) rfl (fun ls hl => ?_)
  refine lv_goto (tgt := 10) X.1 X.2.1 dX1_profile_34 (by decide) ?_
  refine lv_iload_n X.1 X.2.1 dX1_profile_10 rfl (lv_at hl 0 rfl) ?_
  refine lv_iconst (v := 4) X.1 X.2.1 dX1_profile_11 (by decide) ?_
  refine lv_icmp_ge (tgt := 37) X.1 X.2.1 dX1_profile_12 (by decide) (fun c_12 => absurd c_12 (by decide)) (fun c_12 => ?_)
  refine lv_iload_n X.1 X.2.1 dX1_profile_15 rfl (lv_at hl 1 rfl) ?_
  refine lv_iload_n X.1 X.2.1 dX1_profile_16 rfl (lv_at hl 2 rfl) ?_
  refine lv_iload_n X.1 X.2.1 dX1_profile_17 rfl (lv_at hl 0 rfl) ?_
  refine on_Si (run_S (As := [.int (nI h), .int 3]) (rest := [.int (nI (((((strH h) * 16777216) ||| ((lenH h 0) * 1)) ||| ((lenH h 1) * 64)) ||| ((lenH h 2) * 4096)))]) X (c_X1_ofSuit l G hp h 3 (by omega) (by omega)) (rp_blind _) (rp_at X hH hS) mf_X1_ofSuit tw_206 tw_207 ⟨rfl, rfl, Nat.le_of_ble_eq_true rfl, Nat.le_of_ble_eq_true rfl⟩ hl.1 rfl rfl (Nat.le_of_ble_eq_true rfl) ⟨Nat.le_of_ble_eq_true rfl, Nat.le_of_ble_eq_true rfl⟩ dX1_profile_18) (fun r_18xxx q_18xxx => ?_)
  obtain rfl : r_18xxx = (nI (su h 3)) := q_18xxx
  refine on_Si (run_S (As := [.int (nI (su h 3))]) (rest := [.int (nI (((((strH h) * 16777216) ||| ((lenH h 0) * 1)) ||| ((lenH h 1) * 64)) ||| ((lenH h 2) * 4096)))]) X (c_J6_bitCount_0f7a4 l G hp (su h 3) (Nat.lt_trans (su_lt _ _) (by decide))) (rp_blind _) (rp_at X hH hS) mf_J6_bitCount_0f7a4 tw_200 tw_201 ⟨rfl, rfl, Nat.le_of_ble_eq_true rfl, Nat.le_of_ble_eq_true rfl⟩ hl.1 rfl rfl (Nat.le_of_ble_eq_true rfl) ⟨Nat.le_of_ble_eq_true rfl, Nat.le_of_ble_eq_true rfl⟩ dX1_profile_21) (fun r_21xxx q_21xxx => ?_)
  obtain rfl : r_21xxx = (nI (sizeH (su h 3))) := q_21xxx
  refine r_eqi (show nI (sizeH (su h 3)) = nI (lenH h 3) from by rw [size_su]) ?_
  refine lv_bipush (v := 6) X.1 X.2.1 dX1_profile_24 (by decide) ?_
  refine lv_iload_n X.1 X.2.1 dX1_profile_26 rfl (lv_at hl 0 rfl) ?_
  refine lv_imul X.1 X.2.1 dX1_profile_27 ?_
  refine r_eqi (show (((6 : Int32) * 3) : Int32) = 18 from (by decide)) ?_
  refine lv_ishl X.1 X.2.1 dX1_profile_28 ?_
  refine r_eqi (show (((nI (lenH h 3)) <<< (18 &&& 31)) : Int32) = nI ((lenH h 3) * 262144) from pk_shlN (n := (lenH h 3)) _ 18 (by decide) (by omega)) ?_
  refine lv_ior X.1 X.2.1 dX1_profile_29 ?_
  refine r_eqi (show (((nI (((((strH h) * 16777216) ||| ((lenH h 0) * 1)) ||| ((lenH h 1) * 64)) ||| ((lenH h 2) * 4096))) ||| (nI ((lenH h 3) * 262144))) : Int32) = nI ((((((strH h) * 16777216) ||| ((lenH h 0) * 1)) ||| ((lenH h 1) * 64)) ||| ((lenH h 2) * 4096)) ||| ((lenH h 3) * 262144)) from n_or (((((strH h) * 16777216) ||| ((lenH h 0) * 1)) ||| ((lenH h 1) * 64)) ||| ((lenH h 2) * 4096)) ((lenH h 3) * 262144)) ?_
  refine lv_istore_n (lv' := [(1, .int (nI ((((((strH h) * 16777216) ||| ((lenH h 0) * 1)) ||| ((lenH h 1) * 64)) ||| ((lenH h 2) * 4096)) ||| ((lenH h 3) * 262144)))), (2, .int 3), (0, .int (nI h))]) X.1 X.2.1 dX1_profile_30 rfl hl (by decide) rfl (fun ls hl => ?_)
  refine lv_iinc (v := 4) (lv' := [(2, .int 4), (1, .int (nI ((((((strH h) * 16777216) ||| ((lenH h 0) * 1)) ||| ((lenH h 1) * 64)) ||| ((lenH h 2) * 4096)) ||| ((lenH h 3) * 262144)))), (0, .int (nI h))]) X.1 X.2.1 dX1_profile_31 hl (k := 1) rfl (by decide) (by decide) rfl (fun ls hl => ?_)
  refine lv_goto (tgt := 10) X.1 X.2.1 dX1_profile_34 (by decide) ?_
  refine lv_iload_n X.1 X.2.1 dX1_profile_10 rfl (lv_at hl 0 rfl) ?_
  refine lv_iconst (v := 4) X.1 X.2.1 dX1_profile_11 (by decide) ?_
  refine lv_icmp_ge (tgt := 37) X.1 X.2.1 dX1_profile_12 (by decide) (fun c_12 => ?_) (fun c_12 => absurd (by decide) c_12)
  refine lv_iload_n X.1 X.2.1 dX1_profile_37 rfl (lv_at hl 1 rfl) ?_
  exact ro_i X hr hlk (by show nI _ = nI _; refine congrArg nI ?_; rw [Nat.mul_one]; exact pf_or (strH h) (lenH h 0) (lenH h 1) (lenH h 2) (lenH h 3) (by omega) (by omega) (by omega) (by omega)) dX1_profile_38
