theorem tw_146 : (.superclass "java/lang/StringBuilder" "java/lang/AbstractStringBuilder" : Cond) ∈ tG := List.mem_filter.mpr ⟨List.mem_of_getElem? (i := 146) (by decide +kernel), by decide +kernel⟩
theorem tw_576 : (.sameMethod "java/lang/AbstractStringBuilder" "java/lang/AbstractStringBuilder" "length" "()I" : Cond) ∈ tG := List.mem_filter.mpr ⟨List.mem_of_getElem? (i := 576) (by decide +kernel), by decide +kernel⟩
/-! the pad: a string builder of small codes -/
def SBp (G : HG) (hp : HP) (pa vb cv : Nat) (ml : Bool) (fb : Nat → Int32) (pn : Nat) (pt : Nat → Nat) : Prop := hp pa = some (.inr (0, [.ref vb, .int 0, .int (bI ml), .int (nI pn)])) ∧ hp vb = some (.inl (G.2.1 0, cv, .inl fb)) ∧ pn ≤ 60 ∧ pn ≤ cv ∧ 16 ≤ cv ∧ cv ≤ 130 ∧ (∀ i, fits .byte (.int (fb i)) = true) ∧ (∀ i, i < pn → fb i = nI (pt i)) ∧ (∀ i, i < pn → 33 ≤ pt i ∧ pt i ≤ 126)
set_option maxHeartbeats 4000000 in
set_option maxRecDepth 100000 in
theorem c_J5_length_8abf5 (l : Launch) (G : HG) (hp : HP) (pa vb cv : Nat) (ml : Bool) (fb : Nat → Int32) (pn : Nat) (pt : Nat → Nat) (hSB : SBp G hp pa vb cv ml fb pn pt) : Met l yJ5_length_8abf5 [.code yJ5_length_8abf5 cJ5_length_8abf5 1 (some .int)] { frames := 0, cells := 0, slots := 0, locals := 0 } (va_Pc [.ref pa] (RP G hp)) (vp_Si (fun r => r = nI pn)) 0 0 (fun _ => False) := by
  refine ro_ofW (by decide) (Nat.le_of_ble_eq_true rfl) ?_
  intro p e s m args below meth c ls X hr hlk hH hl
  have hS : va_S (fun _ => False) s.heap s.heap [] := va_S.rf
  have hl : lv_has ls 1 [(0, .ref pa)] := hl
  refine lv_aload_n X.1 X.2.1 dJ5_length_8abf5_0 rfl (lv_at hl 0 rfl) ?_
  refine r_get X hH hSB.1 (v := .int (nI pn)) (C := RJ4) (T := TJ4) (N := 4) rfl tin_J4 3 (by decide) tw_137 (fun _ h => h) rfl dJ5_length_8abf5_1 ?_
  exact ro_i X hr hlk rfl dJ5_length_8abf5_4

set_option maxHeartbeats 4000000 in
set_option maxRecDepth 100000 in
theorem c_J4_length_8abf5 (l : Launch) (G : HG) (hp : HP) (pa vb cv : Nat) (ml : Bool) (fb : Nat → Int32) (pn : Nat) (pt : Nat → Nat) (hSB : SBp G hp pa vb cv ml fb pn pt) : Met l yJ4_length_8abf5 [.code yJ4_length_8abf5 cJ4_length_8abf5 1 (some .int)] { frames := 1, cells := 0, slots := 0, locals := 20 } (va_Pc [.ref pa] (RP G hp)) (vp_Si (fun r => r = nI pn)) 0 0 (fun _ => False) := by
  refine ro_ofW (by decide) (Nat.le_of_ble_eq_true rfl) ?_
  intro p e s m args below meth c ls X hr hlk hH hl
  have hS : va_S (fun _ => False) s.heap s.heap [] := va_S.rf
  have hl : lv_has ls 1 [(0, .ref pa)] := hl
  refine lv_aload_n X.1 X.2.1 dJ4_length_8abf5_0 rfl (lv_at hl 0 rfl) ?_
  refine on_Si (run_SU (C := RJ4) (As := []) (rest := []) X (c_J5_length_8abf5 l G hp pa vb cv ml fb pn pt hSB) (rp_blind _) (rp_at X hH hS) (recv X hH hSB.1 (C := RJ4) (T := TJ4) (N := 4) rfl) (cl_at X (ci := 0) (q := (RJ4, TJ4, 4)) rfl) mf_J5_length_8abf5 tw_272 tw_576 tw_146 tw_273 (by decide) ⟨rfl, rfl, Nat.le_of_ble_eq_true rfl, Nat.le_of_ble_eq_true rfl⟩ hl.1 rfl rfl (Nat.le_of_ble_eq_true rfl) ⟨Nat.le_of_ble_eq_true rfl, Nat.le_of_ble_eq_true rfl⟩ dJ4_length_8abf5_1) (fun r_1 q_1 => ?_)
  obtain rfl : r_1 = (nI pn) := q_1
  exact ro_i X hr hlk rfl dJ4_length_8abf5_4
