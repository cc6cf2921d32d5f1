/-! the pad's writers -/
abbrev arB (G : HG) (cv : Nat) (f : Nat → Int32) : va_E := .inl (G.2.1 0, cv, .inl f)
def SFq (hp hp1 : HP) (pa vb : Nat) : Prop := ∀ q e, hp q = some e → q ≠ pa → q ≠ vb → hp1 q = some e
theorem SFq.rf {hp : HP} {pa vb : Nat} : SFq hp hp pa vb := fun _ _ h _ _ => h
theorem SFq.pa {hp h1 h2 : HP} {pa vb : Nat} {e : Option va_E} (h : SFq hp h1 pa vb) (eh : h2 = va_up h1 pa e) : SFq hp h2 pa vb := fun q e1 h0 ha hb => by rw [eh, va_up_ne _ _ ha]; exact h q e1 h0 ha hb
theorem SFq.vb {hp h1 h2 : HP} {pa vb : Nat} {e : Option va_E} (h : SFq hp h1 pa vb) (eh : h2 = va_up h1 vb e) : SFq hp h2 pa vb := fun q e1 h0 ha hb => by rw [eh, va_up_ne _ _ hb]; exact h q e1 h0 ha hb
theorem SFq.nw {hp h1 h2 : HP} {pa vb q9 : Nat} {e : Option va_E} (h : SFq hp h1 pa vb) (hn : hp q9 = none) (eh : h2 = va_up h1 q9 e) : SFq hp h2 pa vb := fun q e1 h0 ha hb => by rw [eh, va_up_ne _ _ (fun z => by rw [z, hn] at h0; cases h0)]; exact h q e1 h0 ha hb
theorem SFq.tr {hp h1 h2 : HP} {pa vb vb1 : Nat} (h : SFq hp h1 pa vb) (h' : SFq h1 h2 pa vb1) (he : vb1 = vb ∨ hp vb1 = none) : SFq hp h2 pa vb := fun q e h0 ha hb => h' q e (h q e h0 ha hb) ha (by
  rcases he with rfl | he
  · exact hb
  · exact fun z => by rw [z, he] at h0; cases h0)
theorem sub_le0 {a b : Nat} (ha : a < 2 ^ 30) (hb : b < 2 ^ 30) : nI a - nI b ≤ 0 ↔ a ≤ b := by
  have z : (0 : Int32).toInt = 0 := rfl
  rw [Int32.le_iff_toInt_le, z]
  by_cases c : b ≤ a
  · rw [pk_sub_toInt ha hb]
    omega
  · rw [pk_sub_toInt ha hb]
    omega
theorem byf0 : fits .byte (.int 0) = true := by decide +kernel
theorem cpy_fit {f : Nat → Int32} {k : Nat} (h : ∀ i, fits .byte (.int (f i)) = true) : ∀ i, fits .byte (.int (va_cpy f (fun _ => 0) 0 0 k i)) = true := fun i => by
  unfold va_cpy
  split
  · exact h _
  · exact byf0
theorem cpy_ltB {f g : Nat → Int32} {k j : Nat} (h : j < k) : va_cpy f g 0 0 k j = f j := by
  unfold va_cpy
  rw [if_pos (by omega)]
  exact congrArg f (by omega)
section VP
variable {p : Program} {l : Launch} {e : Env} {R : Room} {s : State} {m : MethodId} {args : Array Value} {below : List Frame} {meth : Method} {c : Code} {H : Heap} {locs : List Loc} {cells slots : Nat} {Q : State → Prop} {cc : ByteArray} {pc nL : Nat} {ls : Array Slot} {rest st0 : List Value} {G : HG} {A : Nat → Prop} {hp : HP} {own : String}
variable {y : MethodName} {bytes : ByteArray} {maxL n index mc ms : Nat} {ret : Option FieldType} {rm : Room} {P : State → Prop} {Qc : Array Value → State → Outcome → State → Prop} {free : Addr → Prop} {As : List Value}
theorem sel_priv {args : Array Value} {s : State} {y : MethodName} {C : String} {cell : Cell} (hf : s.vm.findClass C = some cell.cls) (hsm : (Cond.sameMethod y.cls y.cls y.name y.desc).before args s = true) (hpr : (Cond.privateMethod y).before args s = true) (hin : (Cond.instanceMethod y).before args s = true) : (Cond.selects C y y).before args s = true := by
  obtain ⟨cn, ck, r, h1, h2, h3, h4, h5⟩ := Cond.sameMethod_found hsm
  have h5' : s.methodNamed? y = some r := h5
  obtain ⟨r', methM, hnamed, hmethM, hstM, habM⟩ := Cond.instanceMethod_spec hin
  cases h5'.symm.trans hnamed
  have hp : methM.isPrivate = true := by simpa [Cond.before, Cond.holds, Cond.value, hnamed, hmethM] using hpr
  have hs : selectMethod {} s.vm cell.cls r = .method r := by simp [selectMethod, hmethM, hp]
  have hc := findClass_of_methodNamed hnamed
  cases h1.symm.trans hc
  simp [Cond.before, Cond.holds, Cond.value, hf, h4, hnamed, hs, h2, h3]
theorem run_P {b : Nat} {C : String} (X : CX p c cc nL s m own G A) (hM : Met l y [.code y bytes maxL ret] rm (va_Pc (.ref b :: As) P) Qc mc ms free) (hbl : FrameBlind (va_Pc (.ref b :: As) P)) (hP : ∀ U : State, U.heap = H → s.WarmedH U.vm → P U) (hr : ∃ cell : Cell, H[b]? = some cell ∧ cell.vm.isStatics = false ∧ s.vm.findClass C = some cell.cls) (mf : MF y bytes maxL ret n) (hl : Cond.methodLink own index y ∈ tG) (hsm : Cond.sameMethod y.cls y.cls y.name y.desc ∈ tG) (hi : Cond.instanceMethod y ∈ tG) (hpr : y ∈ pvL) (hR : RM rm R maxL mc ms) (hsz : ls.size = nL) (hn : As.length = n) (hstack : st0 = As.reverse ++ .ref b :: rest) (hW : (rest.map fun v => v.category).sum ≤ 8) (hf : cells + mc ≤ R.cells ∧ slots + ms ≤ R.slots) (hdg : decode cc pc = .ok (.invokevirtual index, 3)) :
    va_Run p l e R s m args below meth c H locs cells slots mc ms (F0 m pc ls st0) rest (Qc (.ref b :: As).toArray) free := by
  obtain ⟨cell, h1, h2, h3⟩ := hr
  exact va_runU (Ts := tG) (C := C) (owner := y.cls) (x := y) ⟨X.1, X.2.1, X.2.2.1, X.2.2.2.1, tb_all X.2.2.2.2.1⟩ hM ⟨⟨hR.1, hR.2.1, hR.2.2.1, hR.2.2.2, code_w X.2.2.2.2.1 mf.1, List.mem_singleton.mpr rfl⟩, tb_all X.2.2.2.2.1 _ mf.1, tb_all X.2.2.2.2.1 _ mf.2.1, ⟨mf.2.2.1, mf.2.2.2.1⟩, mf.len, tb_all X.2.2.2.2.1 _ hl, tb_all X.2.2.2.2.1 _ hsm, va_Decl.of (tb_all X.2.2.2.2.1 (args := args) _ hi) (tb_all X.2.2.2.2.1 (args := args) _ mf.1), sel_priv h3 (tb_all X.2.2.2.2.1 _ hsm) (pv_all X.2.2.2.2.1 hpr) (tb_all X.2.2.2.2.1 _ hi), tb_all X.2.2.2.2.1 _ hi⟩ ⟨hbl, ⟨cell, h1, h2, h3⟩, fun U hU hW => ⟨rfl, hP U hU hW⟩⟩ rfl hn hsz hstack (lv_room hW) hdg hf
end VP
set_option maxHeartbeats 4000000 in
set_option maxRecDepth 100000 in
theorem c_J7_copyOf_9075b (l : Launch) (G : HG) (A : Nat → Prop) (hp : HP) (sz : Nat) (hA : ∀ q, sz ≤ q → A q) (hO : Ow A hp) (vb cv : Nat) (fb : Nat → Int32) (hvb : hp vb = some (arB G cv fb)) (hcv : cv ≤ 130) (hfit : ∀ i, fits .byte (.int (fb i)) = true) (N9 : Nat) (hN : cv < N9) (hN2 : N9 ≤ 130) : Met l yJ7_copyOf_9075b [.code yJ7_copyOf_9075b cJ7_copyOf_9075b 3 (some (.array .byte))] { frames := 1, cells := 1, slots := 130, locals := 40 } (va_Pc [.ref vb, .int (nI N9)] (WP G A sz hp)) (va_Qq (fun r hp1 => ∃ q, r = some q ∧ hp q = none ∧ hp1 = va_up hp q (some (arB G N9 (va_cpy fb (fun _ => 0) 0 0 cv)))) (WB G A) A) 1 130 A := by
  refine wr_ofW (by decide) (Nat.le_of_ble_eq_true rfl) hO ?_
  intro p e s m args below meth c ls X hr hlk hnm hsz hW hl
  have hA : ∀ q, s.heap.size ≤ q → A q := fun q h => hA q (by omega)
  have hl : lv_has ls 3 [(0, .ref vb), (1, .int (nI N9))] := hl
  refine lv_iload_n X.1 X.2.1 dJ7_copyOf_9075b_0 rfl (lv_at hl 1 rfl) ?_
  refine lv_aload_n X.1 X.2.1 dJ7_copyOf_9075b_1 rfl (lv_at hl 0 rfl) ?_
  refine r_alen X hW.1 hvb 0 rfl (v := nI cv) rfl dJ7_copyOf_9075b_2 ?_
  refine lv_icmp_ne (tgt := 14) X.1 X.2.1 dJ7_copyOf_9075b_3 (by decide) (fun c_3 => ?_) (fun c_3 => absurd c_3 (fun q => absurd ((nI_eq (by omega) (by omega)).mp q) (by omega)))
  refine lv_iload_n X.1 X.2.1 dJ7_copyOf_9075b_14 rfl (lv_at hl 1 rfl) ?_
  refine r_newB (k := 1) (n := 130) X hA hW (N := N9) (Int32.not_lt.mpr (nI_pos' (by omega))) (nI_clamp (by omega)) (by omega) (by omega) (by omega) (Nat.le_of_ble_eq_true rfl) (Nat.le_of_ble_eq_true rfl) tw_191 dJ7_copyOf_9075b_15 (fun q_15 hp_1 H hW eh_2 hn_3 => ?_)
  have ne_4 : vb ≠ q_15 := ne_none hvb hn_3
  have f_5 : hp_1 q_15 = some (.inl (G.2.1 0, N9, .inl (fun _ => 0))) := by rw [eh_2]; exact va_up_self _ _ _
  refine lv_astore_n (lv' := [(2, .ref q_15), (0, .ref vb), (1, .int (nI N9))]) X.1 X.2.1 dJ7_copyOf_9075b_17 rfl hl (by decide) rfl (fun ls hl => ?_)
  refine lv_aload_n X.1 X.2.1 dJ7_copyOf_9075b_18 rfl (lv_at hl 1 rfl) ?_
  refine lv_iconst (v := 0) X.1 X.2.1 dJ7_copyOf_9075b_19 (by decide) ?_
  refine lv_aload_n X.1 X.2.1 dJ7_copyOf_9075b_20 rfl (lv_at hl 0 rfl) ?_
  refine lv_iconst (v := 0) X.1 X.2.1 dJ7_copyOf_9075b_21 (by decide) ?_
  refine lv_aload_n X.1 X.2.1 dJ7_copyOf_9075b_22 rfl (lv_at hl 1 rfl) ?_
  have f_6 : hp_1 vb = some (.inl (G.2.1 0, cv, .inl fb)) := by rw [eh_2, va_up_ne _ _ ne_4]; exact hvb
  refine r_alen X hW.1 f_6 0 rfl (v := nI cv) rfl dJ7_copyOf_9075b_23 ?_
  refine lv_iload_n X.1 X.2.1 dJ7_copyOf_9075b_24 rfl (lv_at hl 2 rfl) ?_
  refine va_mmin X.1 X.2.1 (by rw [X.2.2.1]; exact hl.1.symm) X.2.2.2.1 (tb_all X.2.2.2.2.1 _ tw_326) (tb_all X.2.2.2.2.1 _ tw_327) (tb_all X.2.2.2.2.1 _ tw_70) (tb_all X.2.2.2.2.1 _ tw_math_min) (Nat.le_of_ble_eq_true rfl) (Nat.le_of_ble_eq_true rfl) (Nat.le_of_ble_eq_true rfl) (Nat.le_of_ble_eq_true rfl) dJ7_copyOf_9075b_25 ?_
  refine r_eqi (n_min cv N9 (by omega) (by omega)) ?_
  refine r_eqi (show nI (min cv N9) = nI cv from by rw [Nat.min_eq_left (by omega)]) ?_
  refine r_copyB X hW f_6 f_5 0 0 cv (by omega) (by omega) (by omega) (by omega) (fun i _ => hfit _) tw_329 tw_330 tw_331 tw_72 hl.1 (Nat.le_of_ble_eq_true rfl) (Nat.le_of_ble_eq_true rfl) dJ7_copyOf_9075b_28 (fun hp_7 H locs hW eh_8 => ?_)
  have f_9 : hp_7 q_15 = some (.inl (G.2.1 0, N9, .inl (va_cpy fb (fun _ => 0) 0 0 cv))) := by rw [eh_8]; exact va_up_self _ _ _
  refine lv_aload_n X.1 X.2.1 dJ7_copyOf_9075b_31 rfl (lv_at hl 0 rfl) ?_
  exact wr_q (r := some q_15) X hr (Or.inr ⟨_, rfl⟩) hlk hW ⟨q_15, rfl, hn_3, by rw [eh_8, eh_2, va_uu]⟩ (Nat.le_of_ble_eq_true rfl) (Nat.le_of_ble_eq_true rfl) dJ7_copyOf_9075b_32

set_option maxHeartbeats 4000000 in
set_option maxRecDepth 100000 in
theorem c_J5_newCapacity_0f7a4 (l : Launch) (G : HG) (hp : HP) (pa vb cv : Nat) (ml : Bool) (fb : Nat → Int32) (pn : Nat) (pt : Nat → Nat) (hSB : SBp G hp pa vb cv ml fb pn pt) (m9 : Nat) (hm : m9 ≤ 60) (hcm : cv < m9) : Met l yJ5_newCapacity_0f7a4 [.code yJ5_newCapacity_0f7a4 cJ5_newCapacity_0f7a4 6 (some .int)] { frames := 2, cells := 0, slots := 0, locals := 37 } (va_Pc [.ref pa, .int (nI m9)] (RP G hp)) (vp_Si (fun r => r = nI (cv + max (m9 - cv) (cv + 2)))) 0 0 (fun _ => False) := by
  refine ro_ofW (by decide) (Nat.le_of_ble_eq_true rfl) ?_
  intro p e s m args below meth c ls X hr hlk hH hl
  have hS : va_S (fun _ => False) s.heap s.heap [] := va_S.rf
  have hl : lv_has ls 6 [(0, .ref pa), (1, .int (nI m9))] := hl
  have hpn := hSB.2.2.1
  have hcv := hSB.2.2.2.1
  have hcv2 := hSB.2.2.2.2.2.1
  have hcv1 := hSB.2.2.2.2.1
  refine lv_aload_n X.1 X.2.1 dJ5_newCapacity_0f7a4_0 rfl (lv_at hl 0 rfl) ?_
  refine r_get X hH hSB.1 (v := .ref vb) (C := RJ4) (T := TJ4) (N := 4) rfl tin_J4 0 (by decide) tw_178 (fun _ h => h) rfl dJ5_newCapacity_0f7a4_1 ?_
  refine r_alen X hH hSB.2.1 0 rfl (v := nI cv) rfl dJ5_newCapacity_0f7a4_4 ?_
  refine lv_istore_n (lv' := [(2, .int (nI cv)), (0, .ref pa), (1, .int (nI m9))]) X.1 X.2.1 dJ5_newCapacity_0f7a4_5 rfl hl (by decide) rfl (fun ls hl => ?_)
  refine lv_iload_n X.1 X.2.1 dJ5_newCapacity_0f7a4_6 rfl (lv_at hl 2 rfl) ?_
  refine lv_aload_n X.1 X.2.1 dJ5_newCapacity_0f7a4_7 rfl (lv_at hl 1 rfl) ?_
  refine r_get X hH hSB.1 (v := .int 0) (C := RJ4) (T := TJ4) (N := 4) rfl tin_J4 1 (by decide) tw_179 (fun _ h => h) rfl dJ5_newCapacity_0f7a4_8 ?_
  refine lv_ishl X.1 X.2.1 dJ5_newCapacity_0f7a4_11 ?_
  refine r_eqi (show (((nI m9) <<< (0 &&& 31)) : Int32) = nI (m9 * 1) from pk_shlN (n := m9) _ 0 (by decide) (by omega)) ?_
  refine lv_istore_n (lv' := [(3, .int (nI (m9 * 1))), (2, .int (nI cv)), (0, .ref pa), (1, .int (nI m9))]) X.1 X.2.1 dJ5_newCapacity_0f7a4_12 rfl hl (by decide) rfl (fun ls hl => ?_)
  refine lv_iload_n X.1 X.2.1 dJ5_newCapacity_0f7a4_13 rfl (lv_at hl 0 rfl) ?_
  refine lv_iload_n X.1 X.2.1 dJ5_newCapacity_0f7a4_14 rfl (lv_at hl 1 rfl) ?_
  refine lv_isub X.1 X.2.1 dJ5_newCapacity_0f7a4_15 ?_
  refine r_eqi (show (((nI (m9 * 1)) - (nI cv)) : Int32) = nI ((m9 * 1) - cv) from pk_sub (a := (m9 * 1)) (b := cv) (by omega)) ?_
  refine lv_istore (lv' := [(4, .int (nI ((m9 * 1) - cv))), (3, .int (nI (m9 * 1))), (2, .int (nI cv)), (0, .ref pa), (1, .int (nI m9))]) X.1 X.2.1 dJ5_newCapacity_0f7a4_16 hl (by decide) rfl (fun ls hl => ?_)
  refine lv_iload_n X.1 X.2.1 dJ5_newCapacity_0f7a4_18 rfl (lv_at hl 2 rfl) ?_
  refine lv_iload X.1 X.2.1 dJ5_newCapacity_0f7a4_19 (lv_at hl 0 rfl) ?_
  refine lv_iload_n X.1 X.2.1 dJ5_newCapacity_0f7a4_21 rfl (lv_at hl 2 rfl) ?_
  refine lv_iconst (v := 2) X.1 X.2.1 dJ5_newCapacity_0f7a4_22 (by decide) ?_
  refine lv_aload_n X.1 X.2.1 dJ5_newCapacity_0f7a4_23 rfl (lv_at hl 3 rfl) ?_
  refine r_get X hH hSB.1 (v := .int 0) (C := RJ4) (T := TJ4) (N := 4) rfl tin_J4 1 (by decide) tw_179 (fun _ h => h) rfl dJ5_newCapacity_0f7a4_24 ?_
  refine lv_ishl X.1 X.2.1 dJ5_newCapacity_0f7a4_27 ?_
  refine r_eqi (show (((2 : Int32) <<< (0 &&& 31)) : Int32) = 2 from (by decide)) ?_
  refine lv_iadd X.1 X.2.1 dJ5_newCapacity_0f7a4_28 ?_
  refine r_eqi (show (((nI cv) + 2) : Int32) = nI (cv + 2) from nI_add cv 2) ?_
  refine on_Si (run_S (As := [.int (nI cv), .int (nI ((m9 * 1) - cv)), .int (nI (cv + 2))]) (rest := []) X (c_J8_newLength_cabcc l G hp cv ((m9 * 1) - cv) (cv + 2) (by omega) (by omega) (by omega) (by omega)) (rp_blind _) (rp_at X hH hS) mf_J8_newLength_cabcc tw_659 tw_295 ⟨rfl, rfl, Nat.le_of_ble_eq_true rfl, Nat.le_of_ble_eq_true rfl⟩ hl.1 rfl rfl (Nat.le_of_ble_eq_true rfl) ⟨Nat.le_of_ble_eq_true rfl, Nat.le_of_ble_eq_true rfl⟩ dJ5_newCapacity_0f7a4_29) (fun r_29 q_29 => ?_)
  obtain rfl : r_29 = (nI (cv + max ((m9 * 1) - cv) (cv + 2))) := q_29
  refine lv_istore (lv' := [(5, .int (nI (cv + max ((m9 * 1) - cv) (cv + 2)))), (4, .int (nI ((m9 * 1) - cv))), (3, .int (nI (m9 * 1))), (2, .int (nI cv)), (0, .ref pa), (1, .int (nI m9))]) X.1 X.2.1 dJ5_newCapacity_0f7a4_32 hl (by decide) rfl (fun ls hl => ?_)
  refine lv_iload X.1 X.2.1 dJ5_newCapacity_0f7a4_34 (lv_at hl 0 rfl) ?_
  refine r_const X tw_660 dJ5_newCapacity_0f7a4_36 ?_
  refine lv_icmp_ne (tgt := 51) X.1 X.2.1 dJ5_newCapacity_0f7a4_38 (by decide) (fun c_38 => ?_) (fun c_38 => absurd c_38 (fun q => absurd ((nI_eq (b := 2147483647) (by omega) (by decide)).mp q) (by omega)))
  refine lv_iload X.1 X.2.1 dJ5_newCapacity_0f7a4_51 (lv_at hl 0 rfl) ?_
  refine lv_aload_n X.1 X.2.1 dJ5_newCapacity_0f7a4_53 rfl (lv_at hl 4 rfl) ?_
  refine r_get X hH hSB.1 (v := .int 0) (C := RJ4) (T := TJ4) (N := 4) rfl tin_J4 1 (by decide) tw_179 (fun _ h => h) rfl dJ5_newCapacity_0f7a4_54 ?_
  refine lv_ishr X.1 X.2.1 dJ5_newCapacity_0f7a4_57 ?_
  refine r_eqi (show (((nI (cv + max ((m9 * 1) - cv) (cv + 2))) >>> (0 &&& 31)) : Int32) = nI (cv + max ((m9 * 1) - cv) (cv + 2)) from sb_shr0 (nI (cv + max ((m9 * 1) - cv) (cv + 2)))) ?_
  exact ro_i X hr hlk (by show nI _ = nI _; rw [Nat.mul_one]) dJ5_newCapacity_0f7a4_58

set_option maxHeartbeats 4000000 in
set_option maxRecDepth 100000 in
theorem c_J5_ensureCapacityInternal_d00df (l : Launch) (G : HG) (A : Nat → Prop) (hp : HP) (sz : Nat) (hA : ∀ q, sz ≤ q → A q) (hO : Ow A hp) (pa vb cv : Nat) (ml : Bool) (fb : Nat → Int32) (pn : Nat) (pt : Nat → Nat) (hSB : SBp G hp pa vb cv ml fb pn pt) (m9 : Nat) (hm : m9 ≤ 60) : Met l yJ5_ensureCapacityInternal_d00df [.code yJ5_ensureCapacityInternal_d00df cJ5_ensureCapacityInternal_d00df 3 none] { frames := 3, cells := 1, slots := 130, locals := 62 } (va_Pc [.ref pa, .int (nI m9)] (WP G A sz hp)) (va_Qv (fun hp1 => ∃ vb1 cv1 fb1, SBp G hp1 pa vb1 cv1 ml fb1 pn pt ∧ m9 ≤ cv1 ∧ SFq hp hp1 pa vb ∧ (vb1 = vb ∨ hp vb1 = none)) (WB G A) A) 1 130 A := by
  refine wr_ofW (by decide) (Nat.le_of_ble_eq_true rfl) hO ?_
  intro p e s m args below meth c ls X hr hlk hnm hsz hW hl
  have hA : ∀ q, s.heap.size ≤ q → A q := fun q h => hA q (by omega)
  have hl : lv_has ls 3 [(0, .ref pa), (1, .int (nI m9))] := hl
  have hpn := hSB.2.2.1
  have hcv := hSB.2.2.2.1
  have hcv2 := hSB.2.2.2.2.2.1
  have hcv1 := hSB.2.2.2.2.1
  refine lv_aload_n X.1 X.2.1 dJ5_ensureCapacityInternal_d00df_0 rfl (lv_at hl 0 rfl) ?_
  refine r_get X hW.1 hSB.1 (v := .ref vb) (C := RJ4) (T := TJ4) (N := 4) rfl tin_J4 0 (by decide) tw_178 (fun _ h => h) rfl dJ5_ensureCapacityInternal_d00df_1 ?_
  refine r_alen X hW.1 hSB.2.1 0 rfl (v := nI cv) rfl dJ5_ensureCapacityInternal_d00df_4 ?_
  refine lv_aload_n X.1 X.2.1 dJ5_ensureCapacityInternal_d00df_5 rfl (lv_at hl 0 rfl) ?_
  refine r_get X hW.1 hSB.1 (v := .int 0) (C := RJ4) (T := TJ4) (N := 4) rfl tin_J4 1 (by decide) tw_179 (fun _ h => h) rfl dJ5_ensureCapacityInternal_d00df_6 ?_
  refine lv_ishr X.1 X.2.1 dJ5_ensureCapacityInternal_d00df_9 ?_
  refine r_eqi (show (((nI cv) >>> (0 &&& 31)) : Int32) = nI cv from sb_shr0 (nI cv)) ?_
  refine lv_istore_n (lv' := [(2, .int (nI cv)), (0, .ref pa), (1, .int (nI m9))]) X.1 X.2.1 dJ5_ensureCapacityInternal_d00df_10 rfl hl (by decide) rfl (fun ls hl => ?_)
  refine lv_iload_n X.1 X.2.1 dJ5_ensureCapacityInternal_d00df_11 rfl (lv_at hl 2 rfl) ?_
  refine lv_iload_n X.1 X.2.1 dJ5_ensureCapacityInternal_d00df_12 rfl (lv_at hl 0 rfl) ?_
  refine lv_isub X.1 X.2.1 dJ5_ensureCapacityInternal_d00df_13 ?_
  refine lv_if_le (tgt := 38) X.1 X.2.1 dJ5_ensureCapacityInternal_d00df_14 (by decide) (fun c_14 => ?_) (fun c_14 => ?_)
  · have hle : m9 ≤ cv := (sub_le0 (by omega) (by omega)).mp c_14
    exact wr_v X hr hlk hW ⟨vb, cv, fb, hSB, hle, SFq.rf, Or.inl rfl⟩ (Nat.le_of_ble_eq_true rfl) (Nat.le_of_ble_eq_true rfl) dJ5_ensureCapacityInternal_d00df_38
  · have hle : cv < m9 := Nat.not_le.mp (fun z => c_14 ((sub_le0 (by omega) (by omega)).mpr z))
    refine lv_aload_n X.1 X.2.1 dJ5_ensureCapacityInternal_d00df_17 rfl (lv_at hl 1 rfl) ?_
    refine lv_aload_n X.1 X.2.1 dJ5_ensureCapacityInternal_d00df_18 rfl (lv_at hl 1 rfl) ?_
    refine r_get X hW.1 hSB.1 (v := .ref vb) (C := RJ4) (T := TJ4) (N := 4) rfl tin_J4 0 (by decide) tw_178 (fun _ h => h) rfl dJ5_ensureCapacityInternal_d00df_19 ?_
    refine lv_aload_n X.1 X.2.1 dJ5_ensureCapacityInternal_d00df_22 rfl (lv_at hl 1 rfl) ?_
    refine lv_iload_n X.1 X.2.1 dJ5_ensureCapacityInternal_d00df_23 rfl (lv_at hl 2 rfl) ?_
    refine on_Si (run_P (C := RJ4) (As := [.int (nI m9)]) (rest := [.ref vb, .ref pa]) X (c_J5_newCapacity_0f7a4 l G hp pa vb cv ml fb pn pt hSB m9 (by omega) (by omega)) (rp_blind _) (rp_at X hW.1 hW.2.2) (recv X hW.1 hSB.1 (C := RJ4) (T := TJ4) (N := 4) rfl) mf_J5_newCapacity_0f7a4 tw_655 tw_1148 tw_657 (List.mem_cons_of_mem _ List.mem_cons_self) ⟨rfl, rfl, Nat.le_of_ble_eq_true rfl, Nat.le_of_ble_eq_true rfl⟩ hl.1 rfl rfl (Nat.le_of_ble_eq_true rfl) ⟨Nat.le_of_ble_eq_true rfl, Nat.le_of_ble_eq_true rfl⟩ dJ5_ensureCapacityInternal_d00df_24) (fun r_24 q_24 => ?_)
    obtain rfl : r_24 = (nI (cv + max (m9 - cv) (cv + 2))) := q_24
    refine lv_aload_n X.1 X.2.1 dJ5_ensureCapacityInternal_d00df_27 rfl (lv_at hl 1 rfl) ?_
    refine r_get X hW.1 hSB.1 (v := .int 0) (C := RJ4) (T := TJ4) (N := 4) rfl tin_J4 1 (by decide) tw_179 (fun _ h => h) rfl dJ5_ensureCapacityInternal_d00df_28 ?_
    refine lv_ishl X.1 X.2.1 dJ5_ensureCapacityInternal_d00df_31 ?_
    refine r_eqi (show (((nI (cv + max (m9 - cv) (cv + 2))) <<< (0 &&& 31)) : Int32) = nI ((cv + max (m9 - cv) (cv + 2)) * 1) from pk_shlN (n := (cv + max (m9 - cv) (cv + 2))) _ 0 (by decide) (by omega)) ?_
    refine on_Wq (k' := 1) (n' := 130) (run_S (As := [.ref vb, .int (nI ((cv + max (m9 - cv) (cv + 2)) * 1))]) (rest := [.ref pa]) X (c_J7_copyOf_9075b l G A hp _ (fun q h => hA q (Nat.le_trans hW.2.2.1 h)) hW.2.1 vb cv fb hSB.2.1 (by omega) hSB.2.2.2.2.2.2.1 ((cv + max (m9 - cv) (cv + 2)) * 1) (by omega) (by omega)) (wp_blind _) (wp_at X hW.1 hW.2.2) mf_J7_copyOf_9075b tw_661 tw_662 ⟨rfl, rfl, Nat.le_of_ble_eq_true rfl, Nat.le_of_ble_eq_true rfl⟩ hl.1 rfl rfl (Nat.le_of_ble_eq_true rfl) ⟨Nat.le_of_ble_eq_true rfl, Nat.le_of_ble_eq_true rfl⟩ dJ5_ensureCapacityInternal_d00df_32) hW (by omega) (by omega) (fun r_32 hp_1 H locs q_32 hW => ?_)
    obtain ⟨qn, rfl, hqn, ehq⟩ := q_32
    refine W.eq (g2 := F0 m 35 ls [.ref qn, .ref pa]) rfl ?_
    have ne_2 : pa ≠ qn := ne_none hSB.1 hqn
    have ne_3 : vb ≠ qn := ne_none hSB.2.1 hqn
    have f_4 : hp_1 qn = some (.inl (G.2.1 0, ((cv + max (m9 - cv) (cv + 2)) * 1), .inl (va_cpy fb (fun _ => 0) 0 0 cv))) := by rw [ehq]; exact va_up_self _ _ _
    have f_5 : hp_1 pa = some (.inr (0, [.ref vb, .int 0, .int (bI ml), .int (nI pn)])) := by rw [ehq, va_up_ne _ _ ne_2]; exact hSB.1
    refine r_put X hW f_5 (v := .ref qn) (C := RJ4) (T := TJ4) (N := 4) rfl tin_J4 tyJ4_ok nmJ4 0 (Nat.le_of_ble_eq_true rfl) tw_178 (fun _ h => h) rfl rfl rfl (Nat.le_of_ble_eq_true rfl) dJ5_ensureCapacityInternal_d00df_35 (fun hp_6 H locs hW eh_7 => ?_)
    have f_8 : hp_6 pa = some (.inr (0, [.ref qn, .int 0, .int (bI ml), .int (nI pn)])) := by rw [eh_7]; exact va_up_self _ _ _
    exact wr_v X hr hlk hW ⟨qn, _, _, ⟨f_8, (show (_ : Option va_E) = some (.inl (G.2.1 0, ((cv + max (m9 - cv) (cv + 2)) * 1), .inl (va_cpy fb (fun _ => 0) 0 0 cv))) by rw [eh_7, va_up_ne _ _ (Ne.symm ne_2)]; exact f_4), hSB.2.2.1, by omega, by omega, by omega, cpy_fit hSB.2.2.2.2.2.2.1, fun i hi => (cpy_ltB (by omega)).trans (hSB.2.2.2.2.2.2.2.1 i hi), hSB.2.2.2.2.2.2.2.2⟩, by omega, SFq.pa (SFq.nw SFq.rf hqn ehq) eh_7, Or.inr hqn⟩ (Nat.le_of_ble_eq_true rfl) (Nat.le_of_ble_eq_true rfl) dJ5_ensureCapacityInternal_d00df_38

theorem sb_put {G : HG} {hp1 : HP} {pa vb cv : Nat} {ml : Bool} {fb fb2 : Nat → Int32} {pn x : Nat} {pt : Nat → Nat} {hp0 : HP} (hp : SBp G hp0 pa vb cv ml fb pn pt) (h1 : hp1 pa = some (.inr (0, [.ref vb, .int 0, .int (bI ml), .int (nI (pn + 1))]))) (h2 : hp1 vb = some (arB G cv fb2)) (hf : fb2 = upd fb (nI pn).toNatClampNeg (vp_nar .byte (nI x))) (hc : pn + 1 ≤ cv) (hn : pn < 60) (hx : 33 ≤ x ∧ x ≤ 126) : SBp G hp1 pa vb cv ml fb2 (pn + 1) (fun i => if i = pn then x else pt i) := by
  have ex := (ch_ok x (by omega)).2.2.2.2
  rw [nI_clamp (by omega), ex] at hf
  refine ⟨h1, h2, by omega, hc, hp.2.2.2.2.1, hp.2.2.2.2.2.1, fun i => ?_, fun i hi => ?_, fun i hi => ?_⟩
  · rw [hf]
    by_cases c : i = pn
    · simp only [upd, if_pos c]; exact (ch_ok x (by omega)).2.2.2.1
    · simp only [upd, if_neg c]; exact hp.2.2.2.2.2.2.1 i
  · rw [hf]
    by_cases c : i = pn
    · simp only [upd, if_pos c]
    · simp only [upd, if_neg c]; exact hp.2.2.2.2.2.2.2.1 i (by omega)
  · show 33 ≤ (if i = pn then x else pt i) ∧ (if i = pn then x else pt i) ≤ 126
    by_cases c : i = pn
    · rw [if_pos c]; exact hx
    · rw [if_neg c]; exact hp.2.2.2.2.2.2.2.2 i (by omega)
set_option maxHeartbeats 4000000 in
set_option maxRecDepth 100000 in
theorem c_J5_append_3fe6f (l : Launch) (G : HG) (A : Nat → Prop) (hp : HP) (sz : Nat) (hA : ∀ q, sz ≤ q → A q) (hO : Ow A hp) (pa vb cv : Nat) (ml : Bool) (fb : Nat → Int32) (pn : Nat) (pt : Nat → Nat) (hSB : SBp G hp pa vb cv ml fb pn pt) (x9 : Nat) (hx : 33 ≤ x9 ∧ x9 ≤ 126) (hp60 : pn < 60) : Met l yJ5_append_3fe6f [.code yJ5_append_3fe6f cJ5_append_3fe6f 2 (some (.object "java/lang/AbstractStringBuilder"))] { frames := 4, cells := 1, slots := 130, locals := 84 } (va_Pc [.ref pa, .int (nI x9)] (WP G A sz hp)) (va_Qq (fun r hp1 => r = some pa ∧ ∃ vb1 cv1 fb1, SBp G hp1 pa vb1 cv1 ml fb1 (pn + 1) (fun i => if i = pn then x9 else pt i) ∧ SFq hp hp1 pa vb ∧ (vb1 = vb ∨ hp vb1 = none)) (WB G A) A) 1 130 A := by
  refine wr_ofW (by decide) (Nat.le_of_ble_eq_true rfl) hO ?_
  intro p e s m args below meth c ls X hr hlk hnm hsz hW hl
  have hA : ∀ q, s.heap.size ≤ q → A q := fun q h => hA q (by omega)
  have hl : lv_has ls 2 [(0, .ref pa), (1, .int (nI x9))] := hl
  have hpn := hSB.2.2.1
  have hcv := hSB.2.2.2.1
  have hcv2 := hSB.2.2.2.2.2.1
  have hcv1 := hSB.2.2.2.2.1
  refine lv_aload_n X.1 X.2.1 dJ5_append_3fe6f_0 rfl (lv_at hl 0 rfl) ?_
  refine lv_aload_n X.1 X.2.1 dJ5_append_3fe6f_1 rfl (lv_at hl 0 rfl) ?_
  refine r_get X hW.1 hSB.1 (v := .int (nI pn)) (C := RJ4) (T := TJ4) (N := 4) rfl tin_J4 3 (by decide) tw_181 (fun _ h => h) rfl dJ5_append_3fe6f_2 ?_
  refine lv_iconst (v := 1) X.1 X.2.1 dJ5_append_3fe6f_5 (by decide) ?_
  refine lv_iadd X.1 X.2.1 dJ5_append_3fe6f_6 ?_
  refine r_eqi (show (((nI pn) + 1) : Int32) = nI (pn + 1) from nI_add pn 1) ?_
  refine on_Wv (k' := 1) (n' := 130) (run_P (C := RJ4) (As := [.int (nI (pn + 1))]) (rest := []) X (c_J5_ensureCapacityInternal_d00df l G A hp _ (fun q h => hA q (Nat.le_trans hW.2.2.1 h)) hW.2.1 pa vb cv ml fb pn pt hSB (pn + 1) (by omega)) (wp_blind _) (wp_at X hW.1 hW.2.2) (recv X hW.1 hSB.1 (C := RJ4) (T := TJ4) (N := 4) rfl) mf_J5_ensureCapacityInternal_d00df tw_651 tw_1147 tw_653 List.mem_cons_self ⟨rfl, rfl, Nat.le_of_ble_eq_true rfl, Nat.le_of_ble_eq_true rfl⟩ hl.1 rfl rfl (Nat.le_of_ble_eq_true rfl) ⟨Nat.le_of_ble_eq_true rfl, Nat.le_of_ble_eq_true rfl⟩ dJ5_append_3fe6f_7) hW (by omega) (by omega) (fun hp_1 H locs q_7 hW => ?_)
  obtain ⟨vb1, cv1, fb1, hS1, hle1, hF1, hv1⟩ := q_7
  have hcvb := hS1.2.2.2.2.2.1
  have hcva := hS1.2.2.2.2.1
  have hpn1 := hS1.2.2.2.1
  have g_2 : hp_1 pa = some (.inr (0, [.ref vb1, .int 0, .int (bI ml), .int (nI pn)])) := hS1.1
  have g_3 : hp_1 vb1 = some (.inl (G.2.1 0, cv1, .inl fb1)) := hS1.2.1
  refine lv_aload_n X.1 X.2.1 dJ5_append_3fe6f_10 rfl (lv_at hl 0 rfl) ?_
  refine on_Si (run_U (C := RJ4) (As := []) (rest := []) X (c_J5_isLatin1_aae02 l G hp_1 pa vb1 (bI ml) (nI pn) g_2) (rp_blind _) (rp_at X hW.1 hW.2.2) (recv X hW.1 g_2 (C := RJ4) (T := TJ4) (N := 4) rfl) mf_J5_isLatin1_aae02 tw_671 tw_673 tw_672 tw_674 ⟨rfl, rfl, Nat.le_of_ble_eq_true rfl, Nat.le_of_ble_eq_true rfl⟩ hl.1 rfl rfl (Nat.le_of_ble_eq_true rfl) ⟨Nat.le_of_ble_eq_true rfl, Nat.le_of_ble_eq_true rfl⟩ dJ5_append_3fe6f_11) (fun r_11 q_11 => ?_)
  obtain rfl : r_11 = 1 := q_11
  refine lv_if_eq (tgt := 45) X.1 X.2.1 dJ5_append_3fe6f_14 (by decide) (fun c_14 => absurd c_14 (by decide)) (fun c_14 => ?_)
  refine lv_iload_n X.1 X.2.1 dJ5_append_3fe6f_17 rfl (lv_at hl 1 rfl) ?_
  refine on_Si (run_S (As := [.int (nI x9)]) (rest := []) X (c_J1_canEncode_fc78d l G hp_1 x9 (by omega)) (rp_blind _) (rp_at X hW.1 hW.2.2) mf_J1_canEncode_fc78d tw_676 tw_677 ⟨rfl, rfl, Nat.le_of_ble_eq_true rfl, Nat.le_of_ble_eq_true rfl⟩ hl.1 rfl rfl (Nat.le_of_ble_eq_true rfl) ⟨Nat.le_of_ble_eq_true rfl, Nat.le_of_ble_eq_true rfl⟩ dJ5_append_3fe6f_18) (fun r_18 q_18 => ?_)
  obtain rfl : r_18 = 1 := q_18
  refine lv_if_eq (tgt := 45) X.1 X.2.1 dJ5_append_3fe6f_21 (by decide) (fun c_21 => absurd c_21 (by decide)) (fun c_21 => ?_)
  refine lv_aload_n X.1 X.2.1 dJ5_append_3fe6f_24 rfl (lv_at hl 0 rfl) ?_
  refine r_get X hW.1 g_2 (v := .ref vb1) (C := RJ4) (T := TJ4) (N := 4) rfl tin_J4 0 (by decide) tw_178 (fun _ h => h) rfl dJ5_append_3fe6f_25 ?_
  refine lv_aload_n X.1 X.2.1 dJ5_append_3fe6f_28 rfl (lv_at hl 0 rfl) ?_
  refine lv_dup X.1 X.2.1 dJ5_append_3fe6f_29 rfl ?_
  refine r_get X hW.1 g_2 (v := .int (nI pn)) (C := RJ4) (T := TJ4) (N := 4) rfl tin_J4 3 (by decide) tw_181 (fun _ h => h) rfl dJ5_append_3fe6f_30 ?_
  refine lv_dup_x1 X.1 X.2.1 dJ5_append_3fe6f_33 rfl rfl ?_
  refine lv_iconst (v := 1) X.1 X.2.1 dJ5_append_3fe6f_34 (by decide) ?_
  refine lv_iadd X.1 X.2.1 dJ5_append_3fe6f_35 ?_
  refine r_eqi (show (((nI pn) + 1) : Int32) = nI (pn + 1) from nI_add pn 1) ?_
  refine r_put X hW g_2 (v := .int (nI (pn + 1))) (C := RJ4) (T := TJ4) (N := 4) rfl tin_J4 tyJ4_ok nmJ4 3 (Nat.le_of_ble_eq_true rfl) tw_181 (fun _ h => h) rfl rfl rfl (Nat.le_of_ble_eq_true rfl) dJ5_append_3fe6f_36 (fun hp_4 H locs hW eh_5 => ?_)
  have f_6 : hp_4 pa = some (.inr (0, [.ref vb1, .int 0, .int (bI ml), .int (nI (pn + 1))])) := by rw [eh_5]; exact va_up_self _ _ _
  refine lv_iload_n X.1 X.2.1 dJ5_append_3fe6f_39 rfl (lv_at hl 1 rfl) ?_
  refine lv_i2b X.1 X.2.1 dJ5_append_3fe6f_40 rfl ?_
  refine r_eqi (show (((nI x9).toInt8.toInt32) : Int32) = nI x9 from (ch_ok x9 (by omega)).2.2.1) ?_
  have f_7 : hp_4 vb1 = some (.inl (G.2.1 0, cv1, .inl fb1)) := by rw [eh_5, va_up_ne _ _ (ne_look g_3 g_2 (by simp))]; exact g_3
  refine r_bast X hW f_7 (show vp_in ((nI pn)) cv1 from vp_in_nI (n := pn) (by omega) (by omega)) dJ5_append_3fe6f_41 (fun hp_8 H locs hW eh_9 => ?_)
  have f_10 : hp_8 vb1 = some (.inl (G.2.1 0, cv1, .inl (upd fb1 (nI pn).toNatClampNeg (vp_nar .byte (nI x9))))) := by rw [eh_9]; exact va_up_self _ _ _
  refine lv_goto (tgt := 75) X.1 X.2.1 dJ5_append_3fe6f_42 (by decide) ?_
  refine lv_aload_n X.1 X.2.1 dJ5_append_3fe6f_75 rfl (lv_at hl 0 rfl) ?_
  exact wr_q (r := some pa) X hr (Or.inl ⟨_, rfl⟩) hlk hW ⟨rfl, vb1, cv1, _, sb_put hS1 (show (_ : Option va_E) = some (.inr (0, [.ref vb1, .int 0, .int (bI ml), .int (nI (pn + 1))])) by rw [eh_9, va_up_ne _ _ (ne_look f_6 f_7 (by simp))]; exact f_6) f_10 rfl (by omega) (by omega) hx, SFq.tr hF1 (SFq.vb (SFq.pa SFq.rf eh_5) eh_9) hv1, hv1⟩ (Nat.le_of_ble_eq_true rfl) (Nat.le_of_ble_eq_true rfl) dJ5_append_3fe6f_76

set_option maxHeartbeats 4000000 in
set_option maxRecDepth 100000 in
theorem c_J4_append_cf468 (l : Launch) (G : HG) (A : Nat → Prop) (hp : HP) (sz : Nat) (hA : ∀ q, sz ≤ q → A q) (hO : Ow A hp) (pa vb cv : Nat) (ml : Bool) (fb : Nat → Int32) (pn : Nat) (pt : Nat → Nat) (hSB : SBp G hp pa vb cv ml fb pn pt) (x9 : Nat) (hx : 33 ≤ x9 ∧ x9 ≤ 126) (hp60 : pn < 60) : Met l yJ4_append_cf468 [.code yJ4_append_cf468 cJ4_append_cf468 2 (some (.object "java/lang/StringBuilder"))] { frames := 5, cells := 1, slots := 130, locals := 105 } (va_Pc [.ref pa, .int (nI x9)] (WP G A sz hp)) (va_Qq (fun r hp1 => r = some pa ∧ ∃ vb1 cv1 fb1, SBp G hp1 pa vb1 cv1 ml fb1 (pn + 1) (fun i => if i = pn then x9 else pt i) ∧ SFq hp hp1 pa vb ∧ (vb1 = vb ∨ hp vb1 = none)) (WB G A) A) 1 130 A := by
  refine wr_ofW (by decide) (Nat.le_of_ble_eq_true rfl) hO ?_
  intro p e s m args below meth c ls X hr hlk hnm hsz hW hl
  have hA : ∀ q, s.heap.size ≤ q → A q := fun q h => hA q (by omega)
  have hl : lv_has ls 2 [(0, .ref pa), (1, .int (nI x9))] := hl
  refine lv_aload_n X.1 X.2.1 dJ4_append_cf468_0 rfl (lv_at hl 0 rfl) ?_
  refine lv_iload_n X.1 X.2.1 dJ4_append_cf468_1 rfl (lv_at hl 1 rfl) ?_
  refine on_Wq (k' := 1) (n' := 130) (run_SU (C := RJ4) (As := [.int (nI x9)]) (rest := []) X (c_J5_append_3fe6f l G A hp _ (fun q h => hA q (Nat.le_trans hW.2.2.1 h)) hW.2.1 pa vb cv ml fb pn pt hSB x9 hx hp60) (wp_blind _) (wp_at X hW.1 hW.2.2) (recv X hW.1 hSB.1 (C := RJ4) (T := TJ4) (N := 4) rfl) (cl_at X (ci := 0) (q := (RJ4, TJ4, 4)) rfl) mf_J5_append_3fe6f tw_648 tw_1146 tw_190 tw_649 (by decide) ⟨rfl, rfl, Nat.le_of_ble_eq_true rfl, Nat.le_of_ble_eq_true rfl⟩ hl.1 rfl rfl (Nat.le_of_ble_eq_true rfl) ⟨Nat.le_of_ble_eq_true rfl, Nat.le_of_ble_eq_true rfl⟩ dJ4_append_cf468_2) hW (by omega) (by omega) (fun r_2 hp_1 H locs q_2 hW => ?_)
  obtain ⟨rfl, hpost⟩ := q_2
  refine W.eq (g2 := F0 m 5 ls [.ref pa]) rfl ?_
  refine lv_pop X.1 X.2.1 dJ4_append_cf468_5 rfl ?_
  refine lv_aload_n X.1 X.2.1 dJ4_append_cf468_6 rfl (lv_at hl 0 rfl) ?_
  exact wr_q (r := some pa) X hr (Or.inl ⟨_, rfl⟩) hlk hW ⟨rfl, hpost⟩ (Nat.le_of_ble_eq_true rfl) (Nat.le_of_ble_eq_true rfl) dJ4_append_cf468_7

set_option maxHeartbeats 4000000 in
set_option maxRecDepth 100000 in
theorem c_J5_setLength_d00df (l : Launch) (G : HG) (A : Nat → Prop) (hp : HP) (sz : Nat) (hA : ∀ q, sz ≤ q → A q) (hO : Ow A hp) (pa vb cv : Nat) (ml : Bool) (fb : Nat → Int32) (pn : Nat) (pt : Nat → Nat) (hSB : SBp G hp pa vb cv ml fb pn pt) : Met l yJ5_setLength_d00df [.code yJ5_setLength_d00df cJ5_setLength_d00df 2 none] { frames := 4, cells := 1, slots := 130, locals := 84 } (va_Pc [.ref pa, .int 0] (WP G A sz hp)) (va_Qv (fun hp1 => ∃ vb1 cv1 ml1 fb1, SBp G hp1 pa vb1 cv1 ml1 fb1 0 pt ∧ SFq hp hp1 pa vb ∧ (vb1 = vb ∨ hp vb1 = none)) (WB G A) A) 1 130 A := by
  refine wr_ofW (by decide) (Nat.le_of_ble_eq_true rfl) hO ?_
  intro p e s m args below meth c ls X hr hlk hnm hsz hW hl
  have hA : ∀ q, s.heap.size ≤ q → A q := fun q h => hA q (by omega)
  have hl : lv_has ls 2 [(0, .ref pa), (1, .int 0)] := hl
  have hpn := hSB.2.2.1
  have hcv := hSB.2.2.2.1
  have hcv2 := hSB.2.2.2.2.2.1
  have hcv1 := hSB.2.2.2.2.1
  refine lv_iload_n X.1 X.2.1 dJ5_setLength_d00df_0 rfl (lv_at hl 1 rfl) ?_
  refine lv_if_ge (tgt := 13) X.1 X.2.1 dJ5_setLength_d00df_1 (by decide) (fun c_1 => ?_) (fun c_1 => absurd (by decide) c_1)
  refine lv_aload_n X.1 X.2.1 dJ5_setLength_d00df_13 rfl (lv_at hl 0 rfl) ?_
  refine lv_iload_n X.1 X.2.1 dJ5_setLength_d00df_14 rfl (lv_at hl 1 rfl) ?_
  refine on_Wv (k' := 1) (n' := 130) (run_P (C := RJ4) (As := [.int 0]) (rest := []) X (c_J5_ensureCapacityInternal_d00df l G A hp _ (fun q h => hA q (Nat.le_trans hW.2.2.1 h)) hW.2.1 pa vb cv ml fb pn pt hSB 0 (by omega)) (wp_blind _) (wp_at X hW.1 hW.2.2) (recv X hW.1 hSB.1 (C := RJ4) (T := TJ4) (N := 4) rfl) mf_J5_ensureCapacityInternal_d00df tw_651 tw_1147 tw_653 List.mem_cons_self ⟨rfl, rfl, Nat.le_of_ble_eq_true rfl, Nat.le_of_ble_eq_true rfl⟩ hl.1 rfl rfl (Nat.le_of_ble_eq_true rfl) ⟨Nat.le_of_ble_eq_true rfl, Nat.le_of_ble_eq_true rfl⟩ dJ5_setLength_d00df_15) hW (by omega) (by omega) (fun hp_1 H locs q_15 hW => ?_)
  obtain ⟨vb1, cv1, fb1, hS1, hle1, hF1, hv1⟩ := q_15
  have hcvb := hS1.2.2.2.2.2.1
  have hcva := hS1.2.2.2.2.1
  have hpn1 := hS1.2.2.2.1
  have g_2 : hp_1 pa = some (.inr (0, [.ref vb1, .int 0, .int (bI ml), .int (nI pn)])) := hS1.1
  have g_3 : hp_1 vb1 = some (.inl (G.2.1 0, cv1, .inl fb1)) := hS1.2.1
  refine lv_aload_n X.1 X.2.1 dJ5_setLength_d00df_18 rfl (lv_at hl 0 rfl) ?_
  refine r_get X hW.1 g_2 (v := .int (nI pn)) (C := RJ4) (T := TJ4) (N := 4) rfl tin_J4 3 (by decide) tw_181 (fun _ h => h) rfl dJ5_setLength_d00df_19 ?_
  refine lv_iload_n X.1 X.2.1 dJ5_setLength_d00df_22 rfl (lv_at hl 1 rfl) ?_
  refine lv_icmp_ge (tgt := 63) X.1 X.2.1 dJ5_setLength_d00df_23 (by decide) (fun c_23 => ?_) (fun c_23 => absurd (nI_pos' (by omega)) c_23)
  refine lv_aload_n X.1 X.2.1 dJ5_setLength_d00df_63 rfl (lv_at hl 0 rfl) ?_
  refine r_get X hW.1 g_2 (v := .int (nI pn)) (C := RJ4) (T := TJ4) (N := 4) rfl tin_J4 3 (by decide) tw_181 (fun _ h => h) rfl dJ5_setLength_d00df_64 ?_
  refine lv_iload_n X.1 X.2.1 dJ5_setLength_d00df_67 rfl (lv_at hl 1 rfl) ?_
  refine lv_icmp_le (tgt := 76) X.1 X.2.1 dJ5_setLength_d00df_68 (by decide) (fun c_68 => ?_) (fun c_68 => ?_)
  · have k_68 := k_le (a := pn) (b := 0) (by omega) (by omega) c_68
    refine lv_aload_n X.1 X.2.1 dJ5_setLength_d00df_76 rfl (lv_at hl 0 rfl) ?_
    refine lv_iload_n X.1 X.2.1 dJ5_setLength_d00df_77 rfl (lv_at hl 1 rfl) ?_
    refine r_put X hW g_2 (v := .int 0) (C := RJ4) (T := TJ4) (N := 4) rfl tin_J4 tyJ4_ok nmJ4 3 (Nat.le_of_ble_eq_true rfl) tw_181 (fun _ h => h) rfl rfl rfl (Nat.le_of_ble_eq_true rfl) dJ5_setLength_d00df_78 (fun hp_4 H locs hW eh_5 => ?_)
    have f_6 : hp_4 pa = some (.inr (0, [.ref vb1, .int 0, .int (bI ml), .int 0])) := by rw [eh_5]; exact va_up_self _ _ _
    exact wr_v X hr hlk hW ⟨vb1, cv1, ml, fb1, ⟨f_6, (show (_ : Option va_E) = some (.inl (G.2.1 0, cv1, .inl fb1)) by rw [eh_5, va_up_ne _ _ (ne_look g_3 g_2 (by simp))]; exact g_3), by omega, by omega, by omega, by omega, hS1.2.2.2.2.2.2.1, fun i hi => absurd hi (Nat.not_lt_zero i), fun i hi => absurd hi (Nat.not_lt_zero i)⟩, SFq.tr hF1 (SFq.pa SFq.rf eh_5) hv1, hv1⟩ (Nat.le_of_ble_eq_true rfl) (Nat.le_of_ble_eq_true rfl) dJ5_setLength_d00df_81
  · have k_68 := k_nle (a := pn) (b := 0) (by omega) (by omega) c_68
    refine lv_aload_n X.1 X.2.1 dJ5_setLength_d00df_71 rfl (lv_at hl 0 rfl) ?_
    refine lv_iconst (v := 1) X.1 X.2.1 dJ5_setLength_d00df_72 (by decide) ?_
    refine r_put X hW g_2 (v := .int 1) (C := RJ4) (T := TJ4) (N := 4) rfl tin_J4 tyJ4_ok nmJ4 2 (Nat.le_of_ble_eq_true rfl) tw_180 (fun _ h => h) rfl (by decide) rfl (Nat.le_of_ble_eq_true rfl) dJ5_setLength_d00df_73 (fun hp_7 H locs hW eh_8 => ?_)
    have f_9 : hp_7 pa = some (.inr (0, [.ref vb1, .int 0, .int 1, .int (nI pn)])) := by rw [eh_8]; exact va_up_self _ _ _
    refine lv_aload_n X.1 X.2.1 dJ5_setLength_d00df_76 rfl (lv_at hl 0 rfl) ?_
    refine lv_iload_n X.1 X.2.1 dJ5_setLength_d00df_77 rfl (lv_at hl 1 rfl) ?_
    refine r_put X hW f_9 (v := .int 0) (C := RJ4) (T := TJ4) (N := 4) rfl tin_J4 tyJ4_ok nmJ4 3 (Nat.le_of_ble_eq_true rfl) tw_181 (fun _ h => h) rfl rfl rfl (Nat.le_of_ble_eq_true rfl) dJ5_setLength_d00df_78 (fun hp_10 H locs hW eh_11 => ?_)
    have f_12 : hp_10 pa = some (.inr (0, [.ref vb1, .int 0, .int 1, .int 0])) := by rw [eh_11]; exact va_up_self _ _ _
    exact wr_v X hr hlk hW ⟨vb1, cv1, true, fb1, ⟨f_12, (show (_ : Option va_E) = some (.inl (G.2.1 0, cv1, .inl fb1)) by rw [eh_11, va_up_ne _ _ (ne_look (show (_ : Option va_E) = some (.inl (G.2.1 0, cv1, .inl fb1)) by rw [eh_8, va_up_ne _ _ (ne_look g_3 g_2 (by simp))]; exact g_3) f_9 (by simp)), eh_8, va_up_ne _ _ (ne_look g_3 g_2 (by simp))]; exact g_3), by omega, by omega, by omega, by omega, hS1.2.2.2.2.2.2.1, fun i hi => absurd hi (Nat.not_lt_zero i), fun i hi => absurd hi (Nat.not_lt_zero i)⟩, SFq.tr hF1 (SFq.pa (SFq.pa SFq.rf eh_8) eh_11) hv1, hv1⟩ (Nat.le_of_ble_eq_true rfl) (Nat.le_of_ble_eq_true rfl) dJ5_setLength_d00df_81

set_option maxHeartbeats 4000000 in
set_option maxRecDepth 100000 in
theorem c_J4_setLength_d00df (l : Launch) (G : HG) (A : Nat → Prop) (hp : HP) (sz : Nat) (hA : ∀ q, sz ≤ q → A q) (hO : Ow A hp) (pa vb cv : Nat) (ml : Bool) (fb : Nat → Int32) (pn : Nat) (pt : Nat → Nat) (hSB : SBp G hp pa vb cv ml fb pn pt) : Met l yJ4_setLength_d00df [.code yJ4_setLength_d00df cJ4_setLength_d00df 2 none] { frames := 5, cells := 1, slots := 130, locals := 105 } (va_Pc [.ref pa, .int 0] (WP G A sz hp)) (va_Qv (fun hp1 => ∃ vb1 cv1 ml1 fb1, SBp G hp1 pa vb1 cv1 ml1 fb1 0 pt ∧ SFq hp hp1 pa vb ∧ (vb1 = vb ∨ hp vb1 = none)) (WB G A) A) 1 130 A := by
  refine wr_ofW (by decide) (Nat.le_of_ble_eq_true rfl) hO ?_
  intro p e s m args below meth c ls X hr hlk hnm hsz hW hl
  have hA : ∀ q, s.heap.size ≤ q → A q := fun q h => hA q (by omega)
  have hl : lv_has ls 2 [(0, .ref pa), (1, .int 0)] := hl
  refine lv_aload_n X.1 X.2.1 dJ4_setLength_d00df_0 rfl (lv_at hl 0 rfl) ?_
  refine lv_iload_n X.1 X.2.1 dJ4_setLength_d00df_1 rfl (lv_at hl 1 rfl) ?_
  refine on_Wv (k' := 1) (n' := 130) (run_SU (C := RJ4) (As := [.int 0]) (rest := []) X (c_J5_setLength_d00df l G A hp _ (fun q h => hA q (Nat.le_trans hW.2.2.1 h)) hW.2.1 pa vb cv ml fb pn pt hSB) (wp_blind _) (wp_at X hW.1 hW.2.2) (recv X hW.1 hSB.1 (C := RJ4) (T := TJ4) (N := 4) rfl) (cl_at X (ci := 0) (q := (RJ4, TJ4, 4)) rfl) mf_J5_setLength_d00df tw_730 tw_1150 tw_190 tw_731 (by decide) ⟨rfl, rfl, Nat.le_of_ble_eq_true rfl, Nat.le_of_ble_eq_true rfl⟩ hl.1 rfl rfl (Nat.le_of_ble_eq_true rfl) ⟨Nat.le_of_ble_eq_true rfl, Nat.le_of_ble_eq_true rfl⟩ dJ4_setLength_d00df_2) hW (by omega) (by omega) (fun hp_1 H locs q_2 hW => ?_)
  exact wr_v X hr hlk hW q_2 (Nat.le_of_ble_eq_true rfl) (Nat.le_of_ble_eq_true rfl) dJ4_setLength_d00df_5

