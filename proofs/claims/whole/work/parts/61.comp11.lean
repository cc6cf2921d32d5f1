theorem tw_190 : (.superclass "java/lang/StringBuilder" "java/lang/AbstractStringBuilder" : Cond) ∈ tG := List.mem_filter.mpr ⟨List.mem_of_getElem? (i := 190) (by decide +kernel), by decide +kernel⟩
theorem tw_673 : (.sameMethod "java/lang/AbstractStringBuilder" "java/lang/AbstractStringBuilder" "isLatin1" "()Z" : Cond) ∈ tG := List.mem_filter.mpr ⟨List.mem_of_getElem? (i := 673) (by decide +kernel), by decide +kernel⟩
theorem tw_1145 : (.sameMethod "java/lang/AbstractStringBuilder" "java/lang/AbstractStringBuilder" "length" "()I" : Cond) ∈ tG := List.mem_filter.mpr ⟨List.mem_of_getElem? (i := 1145) (by decide +kernel), by decide +kernel⟩
theorem tw_1146 : (.sameMethod "java/lang/AbstractStringBuilder" "java/lang/AbstractStringBuilder" "append" "(C)Ljava/lang/AbstractStringBuilder;" : Cond) ∈ tG := List.mem_filter.mpr ⟨List.mem_of_getElem? (i := 1146) (by decide +kernel), by decide +kernel⟩
theorem tw_1147 : (.sameMethod "java/lang/AbstractStringBuilder" "java/lang/AbstractStringBuilder" "ensureCapacityInternal" "(I)V" : Cond) ∈ tG := List.mem_filter.mpr ⟨List.mem_of_getElem? (i := 1147) (by decide +kernel), by decide +kernel⟩
theorem tw_1148 : (.sameMethod "java/lang/AbstractStringBuilder" "java/lang/AbstractStringBuilder" "newCapacity" "(I)I" : Cond) ∈ tG := List.mem_filter.mpr ⟨List.mem_of_getElem? (i := 1148) (by decide +kernel), by decide +kernel⟩
theorem tw_1149 : (.sameMethod "java/lang/AbstractStringBuilder" "java/lang/AbstractStringBuilder" "inflate" "()V" : Cond) ∈ tG := List.mem_filter.mpr ⟨List.mem_of_getElem? (i := 1149) (by decide +kernel), by decide +kernel⟩
theorem tw_1150 : (.sameMethod "java/lang/AbstractStringBuilder" "java/lang/AbstractStringBuilder" "setLength" "(I)V" : Cond) ∈ tG := List.mem_filter.mpr ⟨List.mem_of_getElem? (i := 1150) (by decide +kernel), by decide +kernel⟩
theorem tw_1151 : (.sameMethod "java/lang/AbstractStringBuilder" "java/lang/AbstractStringBuilder" "charAt" "(I)C" : Cond) ∈ tG := List.mem_filter.mpr ⟨List.mem_of_getElem? (i := 1151) (by decide +kernel), by decide +kernel⟩
/-! the pad: a string builder of small codes -/
def SBp (G : HG) (hp : HP) (pa vb cv : Nat) (ml : Bool) (fb : Nat → Int32) (pn : Nat) (pt : Nat → Nat) : Prop := hp pa = some (.inr (0, [.ref vb, .int 0, .int (bI ml), .int (nI pn)])) ∧ hp vb = some (.inl (G.2.1 0, cv, .inl fb)) ∧ pn ≤ 60 ∧ pn ≤ cv ∧ 16 ≤ cv ∧ cv ≤ 130 ∧ (∀ i, fits .byte (.int (fb i)) = true) ∧ (∀ i, i < pn → fb i = nI (pt i)) ∧ (∀ i, i < pn → 33 ≤ pt i ∧ pt i ≤ 126)
theorem ch_ok : ∀ x, x < 128 → narrow .char (.int (nI x)) = .int (nI x) ∧ ((nI x).toUInt32 % 65536).toInt32 = nI x ∧ (nI x).toInt8.toInt32 = nI x ∧ fits .byte (.int (nI x)) = true ∧ vp_nar .byte (nI x) = nI x := by decide +kernel
set_option maxHeartbeats 4000000 in
set_option maxRecDepth 100000 in
theorem c_J5_length_8abf5 (l : Launch) (G : HG) (hp : HP) (pa vb cv : Nat) (ml : Bool) (fb : Nat → Int32) (pn : Nat) (pt : Nat → Nat) (hSB : SBp G hp pa vb cv ml fb pn pt) : Met l yJ5_length_8abf5 [.code yJ5_length_8abf5 cJ5_length_8abf5 1 (some .int)] { frames := 0, cells := 0, slots := 0, locals := 0 } (va_Pc [.ref pa] (RP G hp)) (vp_Si (fun r => r = nI pn)) 0 0 (fun _ => False) := by
  refine ro_ofW (by decide) (Nat.le_of_ble_eq_true rfl) ?_
  intro p e s m args below meth c ls X hr hlk hH hl
  have hS : va_S (fun _ => False) s.heap s.heap [] := va_S.rf
  have hl : lv_has ls 1 [(0, .ref pa)] := hl
  refine lv_aload_n X.1 X.2.1 dJ5_length_8abf5_0 rfl (lv_at hl 0 rfl) ?_
  refine r_get X hH hSB.1 (v := .int (nI pn)) (C := RJ4) (T := TJ4) (N := 4) rfl tin_J4 3 (by decide) tw_181 (fun _ h => h) rfl dJ5_length_8abf5_1 ?_
  exact ro_i X hr hlk rfl dJ5_length_8abf5_4

set_option maxHeartbeats 4000000 in
set_option maxRecDepth 100000 in
theorem c_J4_length_8abf5 (l : Launch) (G : HG) (hp : HP) (pa vb cv : Nat) (ml : Bool) (fb : Nat → Int32) (pn : Nat) (pt : Nat → Nat) (hSB : SBp G hp pa vb cv ml fb pn pt) : Met l yJ4_length_8abf5 [.code yJ4_length_8abf5 cJ4_length_8abf5 1 (some .int)] { frames := 1, cells := 0, slots := 0, locals := 20 } (va_Pc [.ref pa] (RP G hp)) (vp_Si (fun r => r = nI pn)) 0 0 (fun _ => False) := by
  refine ro_ofW (by decide) (Nat.le_of_ble_eq_true rfl) ?_
  intro p e s m args below meth c ls X hr hlk hH hl
  have hS : va_S (fun _ => False) s.heap s.heap [] := va_S.rf
  have hl : lv_has ls 1 [(0, .ref pa)] := hl
  refine lv_aload_n X.1 X.2.1 dJ4_length_8abf5_0 rfl (lv_at hl 0 rfl) ?_
  refine on_Si (run_SU (C := RJ4) (As := []) (rest := []) X (c_J5_length_8abf5 l G hp pa vb cv ml fb pn pt hSB) (rp_blind _) (rp_at X hH hS) (recv X hH hSB.1 (C := RJ4) (T := TJ4) (N := 4) rfl) (cl_at X (ci := 0) (q := (RJ4, TJ4, 4)) rfl) mf_J5_length_8abf5 tw_551 tw_1145 tw_190 tw_552 (by decide) ⟨rfl, rfl, Nat.le_of_ble_eq_true rfl, Nat.le_of_ble_eq_true rfl⟩ hl.1 rfl rfl (Nat.le_of_ble_eq_true rfl) ⟨Nat.le_of_ble_eq_true rfl, Nat.le_of_ble_eq_true rfl⟩ dJ4_length_8abf5_1) (fun r_1 q_1 => ?_)
  obtain rfl : r_1 = (nI pn) := q_1
  exact ro_i X hr hlk rfl dJ4_length_8abf5_4

set_option maxHeartbeats 4000000 in
set_option maxRecDepth 100000 in
theorem c_J5_isLatin1_aae02 (l : Launch) (G : HG) (hp : HP) (pa vb : Nat) (v3 v4 : Int32) (hpa : hp pa = some (.inr (0, [.ref vb, .int 0, .int v3, .int v4]))) : Met l yJ5_isLatin1_aae02 [.code yJ5_isLatin1_aae02 cJ5_isLatin1_aae02 1 (some .boolean)] { frames := 0, cells := 0, slots := 0, locals := 0 } (va_Pc [.ref pa] (RP G hp)) (vp_Si (fun r => r = 1)) 0 0 (fun _ => False) := by
  refine ro_ofW (by decide) (Nat.le_of_ble_eq_true rfl) ?_
  intro p e s m args below meth c ls X hr hlk hH hl
  have hS : va_S (fun _ => False) s.heap s.heap [] := va_S.rf
  have hl : lv_has ls 1 [(0, .ref pa)] := hl
  refine r_getCS X hS tw_169 dJ5_isLatin1_aae02_0 ?_
  refine lv_if_eq (tgt := 17) X.1 X.2.1 dJ5_isLatin1_aae02_3 (by decide) (fun c_3 => absurd c_3 (by decide)) (fun c_3 => ?_)
  refine lv_aload_n X.1 X.2.1 dJ5_isLatin1_aae02_6 rfl (lv_at hl 0 rfl) ?_
  refine r_get X hH hpa (v := .int 0) (C := RJ4) (T := TJ4) (N := 4) rfl tin_J4 1 (by decide) tw_179 (fun _ h => h) rfl dJ5_isLatin1_aae02_7 ?_
  refine lv_if_ne (tgt := 17) X.1 X.2.1 dJ5_isLatin1_aae02_10 (by decide) (fun c_10 => absurd (by decide) c_10) (fun c_10 => ?_)
  refine lv_iconst (v := 1) X.1 X.2.1 dJ5_isLatin1_aae02_13 (by decide) ?_
  refine lv_goto (tgt := 18) X.1 X.2.1 dJ5_isLatin1_aae02_14 (by decide) ?_
  exact ro_z X hr hlk rfl rfl dJ5_isLatin1_aae02_18

set_option maxHeartbeats 4000000 in
set_option maxRecDepth 100000 in
theorem c_J1_canEncode_fc78d (l : Launch) (G : HG) (hp : HP) (x9 : Nat) (hx9 : x9 < 128) : Met l yJ1_canEncode_fc78d [.code yJ1_canEncode_fc78d cJ1_canEncode_fc78d 1 (some .boolean)] { frames := 0, cells := 0, slots := 0, locals := 0 } (va_Pc [.int (nI x9)] (RP G hp)) (vp_Si (fun r => r = 1)) 0 0 (fun _ => False) := by
  refine ro_ofW (by decide) (Nat.le_of_ble_eq_true rfl) ?_
  intro p e s m args below meth c ls X hr hlk hH hl
  have hS : va_S (fun _ => False) s.heap s.heap [] := va_S.rf
  have hl : lv_has ls 1 [(0, .int (nI x9))] := hl
  refine lv_iload_n X.1 X.2.1 dJ1_canEncode_fc78d_0 rfl (lv_at hl 0 rfl) ?_
  refine lv_sipush (v := 255) X.1 X.2.1 dJ1_canEncode_fc78d_1 (by decide) ?_
  refine lv_icmp_gt (tgt := 11) X.1 X.2.1 dJ1_canEncode_fc78d_4 (by decide) (fun c_4 => absurd c_4 (nI_nlt (a := 255) (b := x9) (by omega) (by omega))) (fun c_4 => ?_)
  refine lv_iconst (v := 1) X.1 X.2.1 dJ1_canEncode_fc78d_7 (by decide) ?_
  refine lv_goto (tgt := 12) X.1 X.2.1 dJ1_canEncode_fc78d_8 (by decide) ?_
  exact ro_z X hr hlk rfl rfl dJ1_canEncode_fc78d_12

set_option maxHeartbeats 4000000 in
set_option maxRecDepth 100000 in
theorem c_J3_checkIndex_r (l : Launch) (G : HG) (hp : HP) (i9 n9 : Nat) (t9 : Nat) (hi9 : i9 < n9) (hn9 : n9 < 2 ^ 31) : Met l yJ3_checkIndex_8e157 [.code yJ3_checkIndex_8e157 cJ3_checkIndex_8e157 3 (some .int)] { frames := 0, cells := 0, slots := 0, locals := 0 } (va_Pc [.int (nI i9), .int (nI n9), .ref t9] (RP G hp)) (vp_Si (fun r => r = nI i9)) 0 0 (fun _ => False) := by
  refine ro_ofW (by decide) (Nat.le_of_ble_eq_true rfl) ?_
  intro p e s m args below meth c ls X hr hlk hH hl
  have hS : va_S (fun _ => False) s.heap s.heap [] := va_S.rf
  have hl : lv_has ls 3 [(0, .int (nI i9)), (1, .int (nI n9)), (2, .ref t9)] := hl
  refine lv_iload_n X.1 X.2.1 dJ3_checkIndex_8e157_0 rfl (lv_at hl 0 rfl) ?_
  refine lv_if_lt (tgt := 9) X.1 X.2.1 dJ3_checkIndex_8e157_1 (by decide) (fun c_1 => absurd c_1 (nI_nlt (a := i9) (b := 0) (by omega) (by omega))) (fun c_1 => ?_)
  refine lv_iload_n X.1 X.2.1 dJ3_checkIndex_8e157_4 rfl (lv_at hl 0 rfl) ?_
  refine lv_iload_n X.1 X.2.1 dJ3_checkIndex_8e157_5 rfl (lv_at hl 1 rfl) ?_
  refine lv_icmp_lt (tgt := 16) X.1 X.2.1 dJ3_checkIndex_8e157_6 (by decide) (fun c_6 => ?_) (fun c_6 => absurd (nI_lt (a := i9) (b := n9) (by omega) (by omega)) c_6)
  refine lv_iload_n X.1 X.2.1 dJ3_checkIndex_8e157_16 rfl (lv_at hl 0 rfl) ?_
  exact ro_i X hr hlk rfl dJ3_checkIndex_8e157_17

theorem c_J3_checkIndex_q (l : Launch) (G : HG) (hp : HP) (i9 n9 : Nat) (fq : Option Nat) (hi9 : i9 < n9) (hn9 : n9 < 2 ^ 31) : Met l yJ3_checkIndex_8e157 [.code yJ3_checkIndex_8e157 cJ3_checkIndex_8e157 3 (some .int)] { frames := 0, cells := 0, slots := 0, locals := 0 } (va_Pc [.int (nI i9), .int (nI n9), va_rf fq] (RP G hp)) (vp_Si (fun r => r = nI i9)) 0 0 (fun _ => False) := by
  cases fq with
  | none => exact c_J3_checkIndex_8e157 l G hp i9 n9 hi9 hn9
  | some t9 => exact c_J3_checkIndex_r l G hp i9 n9 t9 hi9 hn9
set_option maxHeartbeats 4000000 in
set_option maxRecDepth 100000 in
theorem c_J0_checkIndex_df160 (l : Launch) (G : HG) (hp : HP) (i9 n9 : Nat) (hi9 : i9 < n9) (hn9 : n9 < 2 ^ 31) : Met l yJ0_checkIndex_df160 [.code yJ0_checkIndex_df160 cJ0_checkIndex_df160 2 none] { frames := 1, cells := 0, slots := 0, locals := 22 } (va_Pc [.int (nI i9), .int (nI n9)] (RP G hp)) (vp_Sv' (True)) 0 0 (fun _ => False) := by
  refine ro_ofW (by decide) (Nat.le_of_ble_eq_true rfl) ?_
  intro p e s m args below meth c ls X hr hlk hH hl
  have hS : va_S (fun _ => False) s.heap s.heap [] := va_S.rf
  have hl : lv_has ls 2 [(0, .int (nI i9)), (1, .int (nI n9))] := hl
  refine lv_iload_n X.1 X.2.1 dJ0_checkIndex_df160_0 rfl (lv_at hl 0 rfl) ?_
  refine lv_iload_n X.1 X.2.1 dJ0_checkIndex_df160_1 rfl (lv_at hl 1 rfl) ?_
  refine r_getSI X hS tw_698 dJ0_checkIndex_df160_2 (fun fq => ?_)
  refine on_Si (run_S (As := [.int (nI i9), .int (nI n9), va_rf fq]) (rest := []) X (c_J3_checkIndex_q l G hp i9 n9 fq (by omega) (by omega)) (rp_blind _) (rp_at X hH hS) mf_J3_checkIndex_8e157 tw_721 tw_272 ⟨rfl, rfl, Nat.le_of_ble_eq_true rfl, Nat.le_of_ble_eq_true rfl⟩ hl.1 rfl rfl (Nat.le_of_ble_eq_true rfl) ⟨Nat.le_of_ble_eq_true rfl, Nat.le_of_ble_eq_true rfl⟩ dJ0_checkIndex_df160_5) (fun r_5 q_5 => ?_)
  obtain rfl : r_5 = (nI i9) := q_5
  refine lv_pop X.1 X.2.1 dJ0_checkIndex_df160_8 rfl ?_
  exact ro_v X hr hlk trivial dJ0_checkIndex_df160_9

set_option maxHeartbeats 4000000 in
set_option maxRecDepth 100000 in
theorem c_J5_charAt_5068e (l : Launch) (G : HG) (hp : HP) (pa vb cv : Nat) (ml : Bool) (fb : Nat → Int32) (pn : Nat) (pt : Nat → Nat) (hSB : SBp G hp pa vb cv ml fb pn pt) (i9 : Nat) (hi9 : i9 < pn) : Met l yJ5_charAt_5068e [.code yJ5_charAt_5068e cJ5_charAt_5068e 5 (some .char)] { frames := 2, cells := 0, slots := 0, locals := 43 } (va_Pc [.ref pa, .int (nI i9)] (RP G hp)) (vp_Si (fun r => r = nI (pt i9))) 0 0 (fun _ => False) := by
  refine ro_ofW (by decide) (Nat.le_of_ble_eq_true rfl) ?_
  intro p e s m args below meth c ls X hr hlk hH hl
  have hS : va_S (fun _ => False) s.heap s.heap [] := va_S.rf
  have hl : lv_has ls 5 [(0, .ref pa), (1, .int (nI i9))] := hl
  have hpn := hSB.2.2.1
  have hcv := hSB.2.2.2.1
  have hcv2 := hSB.2.2.2.2.2.1
  have hcv1 := hSB.2.2.2.2.1
  have hpt := hSB.2.2.2.2.2.2.2.2 i9 hi9
  refine lv_aload_n X.1 X.2.1 dJ5_charAt_5068e_0 rfl (lv_at hl 0 rfl) ?_
  refine r_get X hH hSB.1 (v := .int 0) (C := RJ4) (T := TJ4) (N := 4) rfl tin_J4 1 (by decide) tw_179 (fun _ h => h) rfl dJ5_charAt_5068e_1 ?_
  refine lv_istore_n (lv' := [(2, .int 0), (0, .ref pa), (1, .int (nI i9))]) X.1 X.2.1 dJ5_charAt_5068e_4 rfl hl (by decide) rfl (fun ls hl => ?_)
  refine lv_aload_n X.1 X.2.1 dJ5_charAt_5068e_5 rfl (lv_at hl 1 rfl) ?_
  refine r_get X hH hSB.1 (v := .ref vb) (C := RJ4) (T := TJ4) (N := 4) rfl tin_J4 0 (by decide) tw_178 (fun _ h => h) rfl dJ5_charAt_5068e_6 ?_
  refine lv_astore_n (lv' := [(3, .ref vb), (2, .int 0), (0, .ref pa), (1, .int (nI i9))]) X.1 X.2.1 dJ5_charAt_5068e_9 rfl hl (by decide) rfl (fun ls hl => ?_)
  refine lv_aload_n X.1 X.2.1 dJ5_charAt_5068e_10 rfl (lv_at hl 2 rfl) ?_
  refine r_get X hH hSB.1 (v := .int (nI pn)) (C := RJ4) (T := TJ4) (N := 4) rfl tin_J4 3 (by decide) tw_181 (fun _ h => h) rfl dJ5_charAt_5068e_11 ?_
  refine lv_aload_n X.1 X.2.1 dJ5_charAt_5068e_14 rfl (lv_at hl 0 rfl) ?_
  refine r_alen X hH hSB.2.1 0 rfl (v := nI cv) rfl dJ5_charAt_5068e_15 ?_
  refine lv_iload_n X.1 X.2.1 dJ5_charAt_5068e_16 rfl (lv_at hl 1 rfl) ?_
  refine lv_ishr X.1 X.2.1 dJ5_charAt_5068e_17 ?_
  refine r_eqi (show (((nI cv) >>> (0 &&& 31)) : Int32) = nI cv from sb_shr0 (nI cv)) ?_
  refine va_mmin X.1 X.2.1 (by rw [X.2.2.1]; exact hl.1.symm) X.2.2.2.1 (tb_all X.2.2.2.2.1 _ tw_797) (tb_all X.2.2.2.2.1 _ tw_327) (tb_all X.2.2.2.2.1 _ tw_70) (tb_all X.2.2.2.2.1 _ tw_math_min) (Nat.le_of_ble_eq_true rfl) (Nat.le_of_ble_eq_true rfl) (Nat.le_of_ble_eq_true rfl) (Nat.le_of_ble_eq_true rfl) dJ5_charAt_5068e_18 ?_
  refine r_eqi (n_min pn cv (by omega) (by omega)) ?_
  refine lv_istore (lv' := [(4, .int (nI (min pn cv))), (3, .ref vb), (2, .int 0), (0, .ref pa), (1, .int (nI i9))]) X.1 X.2.1 dJ5_charAt_5068e_21 hl (by decide) rfl (fun ls hl => ?_)
  refine lv_iload_n X.1 X.2.1 dJ5_charAt_5068e_23 rfl (lv_at hl 4 rfl) ?_
  refine lv_iload X.1 X.2.1 dJ5_charAt_5068e_24 (lv_at hl 0 rfl) ?_
  refine on_Sv (run_S (As := [.int (nI i9), .int (nI (min pn cv))]) (rest := []) X (c_J0_checkIndex_df160 l G hp i9 (min pn cv) (by omega) (by omega)) (rp_blind _) (rp_at X hH hS) mf_J0_checkIndex_df160 tw_798 tw_719 ⟨rfl, rfl, Nat.le_of_ble_eq_true rfl, Nat.le_of_ble_eq_true rfl⟩ hl.1 rfl rfl (Nat.le_of_ble_eq_true rfl) ⟨Nat.le_of_ble_eq_true rfl, Nat.le_of_ble_eq_true rfl⟩ dJ5_charAt_5068e_26) (fun q_26 => ?_)
  refine lv_iload_n X.1 X.2.1 dJ5_charAt_5068e_29 rfl (lv_at hl 2 rfl) ?_
  refine lv_if_ne (tgt := 42) X.1 X.2.1 dJ5_charAt_5068e_30 (by decide) (fun c_30 => absurd (by decide) c_30) (fun c_30 => ?_)
  refine lv_aload_n X.1 X.2.1 dJ5_charAt_5068e_33 rfl (lv_at hl 1 rfl) ?_
  refine lv_iload_n X.1 X.2.1 dJ5_charAt_5068e_34 rfl (lv_at hl 4 rfl) ?_
  refine r_bald X hH hSB.2.1 (show vp_in ((nI i9)) cv from vp_in_nI (n := i9) (by omega) (by omega)) dJ5_charAt_5068e_35 ?_
  refine r_eqi (show ((fb (nI i9).toNatClampNeg) : Int32) = nI (pt i9) from by rw [nI_clamp (by omega)]; exact hSB.2.2.2.2.2.2.2.1 i9 hi9) ?_
  refine lv_sipush (v := 255) X.1 X.2.1 dJ5_charAt_5068e_36 (by decide) ?_
  refine lv_iand X.1 X.2.1 dJ5_charAt_5068e_39 ?_
  refine r_eqi (show (((nI (pt i9)) &&& 255) : Int32) = nI (pt i9) from by rw [n_and255, Nat.mod_eq_of_lt (by omega)]) ?_
  refine lv_i2c X.1 X.2.1 dJ5_charAt_5068e_40 rfl ?_
  refine r_eqi (show (((nI (pt i9)).toUInt32 % 65536).toInt32 : Int32) = nI (pt i9) from (ch_ok (pt i9) (by omega)).2.1) ?_
  exact ro_z X hr hlk (ch_ok (pt i9) (by omega)).1 rfl dJ5_charAt_5068e_41

set_option maxHeartbeats 4000000 in
set_option maxRecDepth 100000 in
theorem c_J4_charAt_5068e (l : Launch) (G : HG) (hp : HP) (pa vb cv : Nat) (ml : Bool) (fb : Nat → Int32) (pn : Nat) (pt : Nat → Nat) (hSB : SBp G hp pa vb cv ml fb pn pt) (i9 : Nat) (hi9 : i9 < pn) : Met l yJ4_charAt_5068e [.code yJ4_charAt_5068e cJ4_charAt_5068e 2 (some .char)] { frames := 3, cells := 0, slots := 0, locals := 67 } (va_Pc [.ref pa, .int (nI i9)] (RP G hp)) (vp_Si (fun r => r = nI (pt i9))) 0 0 (fun _ => False) := by
  refine ro_ofW (by decide) (Nat.le_of_ble_eq_true rfl) ?_
  intro p e s m args below meth c ls X hr hlk hH hl
  have hS : va_S (fun _ => False) s.heap s.heap [] := va_S.rf
  have hl : lv_has ls 2 [(0, .ref pa), (1, .int (nI i9))] := hl
  have hpn := hSB.2.2.1
  have hcv := hSB.2.2.2.1
  have hcv2 := hSB.2.2.2.2.2.1
  have hcv1 := hSB.2.2.2.2.1
  have hpt := hSB.2.2.2.2.2.2.2.2 i9 hi9
  refine lv_aload_n X.1 X.2.1 dJ4_charAt_5068e_0 rfl (lv_at hl 0 rfl) ?_
  refine lv_iload_n X.1 X.2.1 dJ4_charAt_5068e_1 rfl (lv_at hl 1 rfl) ?_
  refine on_Si (run_SU (C := RJ4) (As := [.int (nI i9)]) (rest := []) X (c_J5_charAt_5068e l G hp pa vb cv ml fb pn pt hSB i9 (by omega)) (rp_blind _) (rp_at X hH hS) (recv X hH hSB.1 (C := RJ4) (T := TJ4) (N := 4) rfl) (cl_at X (ci := 0) (q := (RJ4, TJ4, 4)) rfl) mf_J5_charAt_5068e tw_794 tw_1151 tw_190 tw_795 (by decide) ⟨rfl, rfl, Nat.le_of_ble_eq_true rfl, Nat.le_of_ble_eq_true rfl⟩ hl.1 rfl rfl (Nat.le_of_ble_eq_true rfl) ⟨Nat.le_of_ble_eq_true rfl, Nat.le_of_ble_eq_true rfl⟩ dJ4_charAt_5068e_2) (fun r_2 q_2 => ?_)
  obtain rfl : r_2 = (nI (pt i9)) := q_2
  exact ro_z X hr hlk (ch_ok (pt i9) (by omega)).1 rfl dJ4_charAt_5068e_5

