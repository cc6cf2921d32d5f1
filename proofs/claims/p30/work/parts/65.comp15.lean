/-! lists that grow -/
set_option maxHeartbeats 4000000 in
set_option maxRecDepth 100000 in
theorem c_Jx4a65c_grow_92f84 (l : Launch) (G : HG) (A : Nat → Prop) (hp : HP) (sz : Nat) (hA : ∀ q, sz ≤ q → A q) (hO : Ow A hp) (b9 ea n9 cap : Nat) (mc : Int32) (f9 : Nat → Option Nat) (hL : LSq G hp b9 ea n9 cap mc f9) (hfull : n9 = cap) (h23 : n9 ≤ 23) (hel : isEls hp f9 0 n9) : Met l yJx4a65c_grow_92f84 [.code yJx4a65c_grow_92f84 cJx4a65c_grow_92f84 4 (some (.array (.object "java/lang/Object")))] { frames := 3, cells := 1, slots := 34, locals := 84 } (va_Pc [.ref b9, .int (nI (n9 + 1))] (WP G A sz hp)) (va_Qq (fun r hp1 => ∃ ea1 cap1 g, r = some ea1 ∧ LSq G hp1 b9 ea1 n9 cap1 mc g ∧ n9 < cap1 ∧ (∀ j, j < n9 → g j = f9 j) ∧ LFq hp hp1 b9 ea cap ∧ hp ea1 = none) (WB G A) A) 1 34 A := by
  refine wr_ofW (by decide) (Nat.le_of_ble_eq_true rfl) hO ?_
  intro p e s m args below meth c ls X hr hlk hnm hsz hW hl
  have hA : ∀ q, s.heap.size ≤ q → A q := fun q h => hA q (by omega)
  have hl : lv_has ls 4 [(0, .ref b9), (1, .int (nI (n9 + 1)))] := hl
  have hcap := hL.2.2.1
  have hcap2 := hL.2.2.2
  have hne : 0 < cap → ea ≠ b9 := fun q => ne_look (hL.2.1.1 q) hL.1 (by simp [arQ, alE])
  by_cases hc0 : cap = 0
  · have hE := hL.2.1.2 hc0
    subst hE
    refine lv_aload_n X.1 X.2.1 dJx4a65c_grow_92f84_0 rfl (lv_at hl 0 rfl) ?_
    refine r_get X hW.1 hL.1 (v := .ref (G.2.2 0)) (C := RJx4a65c) (T := TJx4a65c) (N := 3) rfl tin_Jx4a65c 1 (by decide) tw_57 (fun _ h => h) rfl dJx4a65c_grow_92f84_1 ?_
    refine r_tlen X hW.2.2 dJx4a65c_grow_92f84_4 ?_
    refine lv_istore_n (lv' := [(2, .int 0), (0, .ref b9), (1, .int (nI (n9 + 1)))]) X.1 X.2.1 dJx4a65c_grow_92f84_5 rfl hl (by decide) rfl (fun ls hl => ?_)
    refine lv_iload_n X.1 X.2.1 dJx4a65c_grow_92f84_6 rfl (lv_at hl 0 rfl) ?_
    refine lv_if_gt (tgt := 20) X.1 X.2.1 dJx4a65c_grow_92f84_7 (by decide) (fun c_7 => absurd c_7 (by decide)) (fun c_7 => ?_)
    refine lv_aload_n X.1 X.2.1 dJx4a65c_grow_92f84_10 rfl (lv_at hl 1 rfl) ?_
    refine r_get X hW.1 hL.1 (v := .ref (G.2.2 0)) (C := RJx4a65c) (T := TJx4a65c) (N := 3) rfl tin_Jx4a65c 1 (by decide) tw_57 (fun _ h => h) rfl dJx4a65c_grow_92f84_11 ?_
    refine r_getD X hW.2.2 tw_55 dJx4a65c_grow_92f84_14 ?_
    refine lv_acmp_eq (rx := some (G.2.2 0)) (ry := some (G.2.2 0)) (tgt := 45) X.1 X.2.1 dJx4a65c_grow_92f84_17 (by decide) (fun _ => ?_) (fun q => absurd rfl q)
    refine lv_aload_n X.1 X.2.1 dJx4a65c_grow_92f84_45 rfl (lv_at hl 1 rfl) ?_
    refine lv_bipush (v := 10) X.1 X.2.1 dJx4a65c_grow_92f84_46 (by decide) ?_
    refine lv_iload_n X.1 X.2.1 dJx4a65c_grow_92f84_48 rfl (lv_at hl 2 rfl) ?_
    refine va_mmax X.1 X.2.1 (by rw [X.2.2.1]; exact hl.1.symm) X.2.2.2.1 (tb_all X.2.2.2.2.1 _ tw_434) (tb_all X.2.2.2.2.1 _ tw_323) (tb_all X.2.2.2.2.1 _ tw_29) (tb_all X.2.2.2.2.1 _ tw_math_max) (Nat.le_of_ble_eq_true rfl) (Nat.le_of_ble_eq_true rfl) (Nat.le_of_ble_eq_true rfl) (Nat.le_of_ble_eq_true rfl) dJx4a65c_grow_92f84_49 ?_
    refine r_eqi (n_max 10 (n9 + 1) (by omega) (by omega)) ?_
    refine r_eqi (show ((nI (max 10 (n9 + 1))) : Int32) = 10 from by rw [show n9 = 0 by omega]; rfl) ?_
    refine r_newQ (k := 1) (n := 10) X hA hW (N := 10) (by decide) (by decide) (by decide) (by omega) (by omega) (Nat.le_of_ble_eq_true rfl) (Nat.le_of_ble_eq_true rfl) tw_435 dJx4a65c_grow_92f84_52 (fun q_52 hp_1 H hW eh_2 hn_3 => ?_)
    have ne_4 : b9 ≠ q_52 := ne_none hL.1 hn_3
    have f_5 : hp_1 q_52 = some (.inl (G.2.1 3, 10, .inr (.inr (.inr (.inr (fun _ => none)))))) := by rw [eh_2]; exact va_up_self _ _ _
    refine lv_dup_x1 X.1 X.2.1 dJx4a65c_grow_92f84_55 rfl rfl ?_
    have f_6 : hp_1 b9 = some (.inr (1, [.int mc, .ref (G.2.2 0), .int (nI n9)])) := by rw [eh_2, va_up_ne _ _ ne_4]; exact hL.1
    refine r_put X hW f_6 (v := .ref q_52) (C := RJx4a65c) (T := TJx4a65c) (N := 3) rfl tin_Jx4a65c tyJx4a65c_ok nmJx4a65c 1 (Nat.le_of_ble_eq_true rfl) tw_57 (fun _ h => h) rfl rfl rfl (Nat.le_of_ble_eq_true rfl) dJx4a65c_grow_92f84_56 (fun hp_7 H locs hW eh_8 => ?_)
    have f_9 : hp_7 b9 = some (.inr (1, [.int mc, .ref q_52, .int (nI n9)])) := by rw [eh_8]; exact va_up_self _ _ _
    exact wr_q (r := some q_52) X hr (Or.inr ⟨_, rfl⟩) hlk hW ⟨q_52, 10, _, rfl, ⟨f_9, ⟨fun _ => (show (_ : Option va_E) = some (.inl (G.2.1 3, 10, .inr (.inr (.inr (.inr (fun _ => none)))))) by rw [eh_8, va_up_ne _ _ (Ne.symm ne_4)]; exact f_5), fun q => absurd q (by decide)⟩, by omega, by decide⟩, by omega, fun j hj => absurd hj (by omega), LFq.b (LFq.nw LFq.rf hn_3 eh_2) eh_8, hn_3⟩ (Nat.le_of_ble_eq_true rfl) (Nat.le_of_ble_eq_true rfl) dJx4a65c_grow_92f84_59
  · have hcp : 0 < cap := Nat.pos_of_ne_zero hc0
    refine lv_aload_n X.1 X.2.1 dJx4a65c_grow_92f84_0 rfl (lv_at hl 0 rfl) ?_
    refine r_get X hW.1 hL.1 (v := .ref ea) (C := RJx4a65c) (T := TJx4a65c) (N := 3) rfl tin_Jx4a65c 1 (by decide) tw_57 (fun _ h => h) rfl dJx4a65c_grow_92f84_1 ?_
    refine r_alen X hW.1 (hL.2.1.1 (by omega)) 3 rfl (v := nI cap) rfl dJx4a65c_grow_92f84_4 ?_
    refine lv_istore_n (lv' := [(2, .int (nI cap)), (0, .ref b9), (1, .int (nI (n9 + 1)))]) X.1 X.2.1 dJx4a65c_grow_92f84_5 rfl hl (by decide) rfl (fun ls hl => ?_)
    refine lv_iload_n X.1 X.2.1 dJx4a65c_grow_92f84_6 rfl (lv_at hl 0 rfl) ?_
    refine lv_if_gt (tgt := 20) X.1 X.2.1 dJx4a65c_grow_92f84_7 (by decide) (fun c_7 => ?_) (fun c_7 => absurd (nI_lt (a := 0) (b := cap) (by omega) (by omega)) c_7)
    refine lv_iload_n X.1 X.2.1 dJx4a65c_grow_92f84_20 rfl (lv_at hl 0 rfl) ?_
    refine lv_iload_n X.1 X.2.1 dJx4a65c_grow_92f84_21 rfl (lv_at hl 2 rfl) ?_
    refine lv_iload_n X.1 X.2.1 dJx4a65c_grow_92f84_22 rfl (lv_at hl 0 rfl) ?_
    refine lv_isub X.1 X.2.1 dJx4a65c_grow_92f84_23 ?_
    refine r_eqi (show (((nI (n9 + 1)) - (nI cap)) : Int32) = nI ((n9 + 1) - cap) from pk_sub (a := (n9 + 1)) (b := cap) (by omega)) ?_
    refine lv_iload_n X.1 X.2.1 dJx4a65c_grow_92f84_24 rfl (lv_at hl 0 rfl) ?_
    refine lv_iconst (v := 1) X.1 X.2.1 dJx4a65c_grow_92f84_25 (by decide) ?_
    refine lv_ishr X.1 X.2.1 dJx4a65c_grow_92f84_26 ?_
    refine r_eqi (show (((nI cap) >>> (1 &&& 31)) : Int32) = nI (cap / 2) from pk_shrN (n := cap) (by omega) _ 1 (by decide)) ?_
    refine on_Si (run_S (As := [.int (nI cap), .int (nI ((n9 + 1) - cap)), .int (nI (cap / 2))]) (rest := []) X (c_J8_newLength_cabcc l G hp cap ((n9 + 1) - cap) (cap / 2) (by omega) (by omega) (by omega) (by omega)) (rp_blind _) (rp_at X hW.1 hW.2.2) mf_J8_newLength_cabcc tw_404 tw_405 ⟨rfl, rfl, Nat.le_of_ble_eq_true rfl, Nat.le_of_ble_eq_true rfl⟩ hl.1 rfl rfl (Nat.le_of_ble_eq_true rfl) ⟨Nat.le_of_ble_eq_true rfl, Nat.le_of_ble_eq_true rfl⟩ dJx4a65c_grow_92f84_27) (fun r_27 q_27 => ?_)
    obtain rfl : r_27 = (nI (cap + max ((n9 + 1) - cap) (cap / 2))) := q_27
    refine lv_istore_n (lv' := [(3, .int (nI (cap + max ((n9 + 1) - cap) (cap / 2)))), (2, .int (nI cap)), (0, .ref b9), (1, .int (nI (n9 + 1)))]) X.1 X.2.1 dJx4a65c_grow_92f84_30 rfl hl (by decide) rfl (fun ls hl => ?_)
    refine lv_aload_n X.1 X.2.1 dJx4a65c_grow_92f84_31 rfl (lv_at hl 2 rfl) ?_
    refine lv_aload_n X.1 X.2.1 dJx4a65c_grow_92f84_32 rfl (lv_at hl 2 rfl) ?_
    refine r_get X hW.1 hL.1 (v := .ref ea) (C := RJx4a65c) (T := TJx4a65c) (N := 3) rfl tin_Jx4a65c 1 (by decide) tw_57 (fun _ h => h) rfl dJx4a65c_grow_92f84_33 ?_
    refine lv_iload_n X.1 X.2.1 dJx4a65c_grow_92f84_36 rfl (lv_at hl 0 rfl) ?_
    refine on_Wq (k' := 1) (n' := 34) (run_S (As := [.ref ea, .int (nI (cap + max ((n9 + 1) - cap) (cap / 2)))]) (rest := [.ref b9]) X (c_J7_copyOf_1904c l G A hp _ (fun q h => hA q (Nat.le_trans hW.2.2.1 h)) hW.2.1 ea cap f9 (hL.2.1.1 (by omega)) (by omega) (cap + max ((n9 + 1) - cap) (cap / 2)) (by omega) (by omega) (hfull ▸ hel)) (wp_blind _) (wp_at X hW.1 hW.2.2) mf_J7_copyOf_1904c tw_412 tw_413 ⟨rfl, rfl, Nat.le_of_ble_eq_true rfl, Nat.le_of_ble_eq_true rfl⟩ hl.1 rfl rfl (Nat.le_of_ble_eq_true rfl) ⟨Nat.le_of_ble_eq_true rfl, Nat.le_of_ble_eq_true rfl⟩ dJx4a65c_grow_92f84_37) hW (by omega) (by omega) (fun r_37 hp_10 H locs q_37 hW => ?_)
    obtain ⟨qn, rfl, hqn, ehq⟩ := q_37
    refine W.eq (g2 := F0 m 40 ls [.ref qn, .ref b9]) rfl ?_
    have ne_11 : b9 ≠ qn := ne_none hL.1 hqn
    have ne_12 : ea ≠ qn := ne_none (hL.2.1.1 (by omega)) hqn
    have f_13 : hp_10 qn = some (.inl (G.2.1 3, (cap + max ((n9 + 1) - cap) (cap / 2)), .inr (.inr (.inr (.inr (va_cpy f9 (fun _ => none) 0 0 cap)))))) := by rw [ehq]; exact va_up_self _ _ _
    refine lv_dup_x1 X.1 X.2.1 dJx4a65c_grow_92f84_40 rfl rfl ?_
    have f_14 : hp_10 b9 = some (.inr (1, [.int mc, .ref ea, .int (nI n9)])) := by rw [ehq, va_up_ne _ _ ne_11]; exact hL.1
    refine r_put X hW f_14 (v := .ref qn) (C := RJx4a65c) (T := TJx4a65c) (N := 3) rfl tin_Jx4a65c tyJx4a65c_ok nmJx4a65c 1 (Nat.le_of_ble_eq_true rfl) tw_57 (fun _ h => h) rfl rfl rfl (Nat.le_of_ble_eq_true rfl) dJx4a65c_grow_92f84_41 (fun hp_15 H locs hW eh_16 => ?_)
    have f_17 : hp_15 b9 = some (.inr (1, [.int mc, .ref qn, .int (nI n9)])) := by rw [eh_16]; exact va_up_self _ _ _
    exact wr_q (r := some qn) X hr (Or.inr ⟨_, rfl⟩) hlk hW ⟨qn, cap + max (n9 + 1 - cap) (cap / 2), _, rfl, ⟨f_17, ⟨fun _ => (show (_ : Option va_E) = some (.inl (G.2.1 3, (cap + max ((n9 + 1) - cap) (cap / 2)), .inr (.inr (.inr (.inr (va_cpy f9 (fun _ => none) 0 0 cap)))))) by rw [eh_16, va_up_ne _ _ (Ne.symm ne_11)]; exact f_13), fun q => absurd q (by omega)⟩, by omega, by omega⟩, by omega, fun j hj => cpy_lt (by omega), LFq.b (LFq.nw LFq.rf hqn ehq) eh_16, hqn⟩ (Nat.le_of_ble_eq_true rfl) (Nat.le_of_ble_eq_true rfl) dJx4a65c_grow_92f84_44

set_option maxHeartbeats 4000000 in
set_option maxRecDepth 100000 in
theorem c_Jx4a65c_grow_d5877 (l : Launch) (G : HG) (A : Nat → Prop) (hp : HP) (sz : Nat) (hA : ∀ q, sz ≤ q → A q) (hO : Ow A hp) (b9 ea n9 cap : Nat) (mc : Int32) (f9 : Nat → Option Nat) (hL : LSq G hp b9 ea n9 cap mc f9) (hfull : n9 = cap) (h23 : n9 ≤ 23) (hel : isEls hp f9 0 n9) : Met l yJx4a65c_grow_d5877 [.code yJx4a65c_grow_d5877 cJx4a65c_grow_d5877 1 (some (.array (.object "java/lang/Object")))] { frames := 4, cells := 1, slots := 34, locals := 107 } (va_Pc [.ref b9] (WP G A sz hp)) (va_Qq (fun r hp1 => ∃ ea1 cap1 g, r = some ea1 ∧ LSq G hp1 b9 ea1 n9 cap1 mc g ∧ n9 < cap1 ∧ (∀ j, j < n9 → g j = f9 j) ∧ LFq hp hp1 b9 ea cap ∧ hp ea1 = none) (WB G A) A) 1 34 A := by
  refine wr_ofW (by decide) (Nat.le_of_ble_eq_true rfl) hO ?_
  intro p e s m args below meth c ls X hr hlk hnm hsz hW hl
  have hA : ∀ q, s.heap.size ≤ q → A q := fun q h => hA q (by omega)
  have hl : lv_has ls 1 [(0, .ref b9)] := hl
  refine lv_aload_n X.1 X.2.1 dJx4a65c_grow_d5877_0 rfl (lv_at hl 0 rfl) ?_
  refine lv_aload_n X.1 X.2.1 dJx4a65c_grow_d5877_1 rfl (lv_at hl 0 rfl) ?_
  refine r_get X hW.1 hL.1 (v := .int (nI n9)) (C := RJx4a65c) (T := TJx4a65c) (N := 3) rfl tin_Jx4a65c 2 (by decide) tw_58 (fun _ h => h) rfl dJx4a65c_grow_d5877_2 ?_
  refine lv_iconst (v := 1) X.1 X.2.1 dJx4a65c_grow_d5877_5 (by decide) ?_
  refine lv_iadd X.1 X.2.1 dJx4a65c_grow_d5877_6 ?_
  refine r_eqi (show (((nI n9) + 1) : Int32) = nI (n9 + 1) from nI_add n9 1) ?_
  refine on_Wq (k' := 1) (n' := 34) (run_V (C := RJx4a65c) (As := [.int (nI (n9 + 1))]) (rest := []) X (c_Jx4a65c_grow_92f84 l G A hp _ (fun q h => hA q (Nat.le_trans hW.2.2.1 h)) hW.2.1 b9 ea n9 cap mc f9 hL hfull h23 hel) (wp_blind _) (wp_at X hW.1 hW.2.2) (recv X hW.1 hL.1 (C := RJx4a65c) (T := TJx4a65c) (N := 3) rfl) mf_Jx4a65c_grow_92f84 tw_400 tw_402 tw_8 ⟨rfl, rfl, Nat.le_of_ble_eq_true rfl, Nat.le_of_ble_eq_true rfl⟩ hl.1 rfl rfl (Nat.le_of_ble_eq_true rfl) ⟨Nat.le_of_ble_eq_true rfl, Nat.le_of_ble_eq_true rfl⟩ dJx4a65c_grow_d5877_7) hW (by omega) (by omega) (fun r_7 hp_1 H locs q_7 hW => ?_)
  exact wr_q (r := r_7) X hr (Or.inr ⟨_, rfl⟩) hlk hW q_7 (Nat.le_of_ble_eq_true rfl) (Nat.le_of_ble_eq_true rfl) dJx4a65c_grow_d5877_10

theorem up_lt {g : Nat → Option Nat} {n j : Nat} {v : Option Nat} (hn : n < 2 ^ 31) (h : ¬ j = n) : va_up g (nI n).toNatClampNeg v j = g j := by
  rw [nI_clamp hn, va_up_ne _ _ h]
theorem up_at {g : Nat → Option Nat} {n : Nat} {v : Option Nat} (hn : n < 2 ^ 31) : va_up g (nI n).toNatClampNeg v n = v := by
  rw [nI_clamp hn, va_up_self]
theorem none_b {hp h1 : HP} {b9 q : Nat} {e : va_E} (eh : h1 = va_up hp b9 (some e)) (h : h1 q = none) : hp q = none := by
  by_cases c : q = b9
  · rw [eh, c, va_up_self] at h
    cases h
  · rw [eh, va_up_ne _ _ c] at h
    exact h
set_option maxHeartbeats 4000000 in
set_option maxRecDepth 100000 in
theorem c_Jx4a65c_add_72be8 (l : Launch) (G : HG) (A : Nat → Prop) (hp : HP) (sz : Nat) (hA : ∀ q, sz ≤ q → A q) (hO : Ow A hp) (b9 ea n9 cap : Nat) (mc : Int32) (f9 : Nat → Option Nat) (hL : LSq G hp b9 ea n9 cap mc f9) (h23 : n9 ≤ 23) (hel : isEls hp f9 0 n9) (v9 : Nat) (hv : isEl hp v9) : Met l yJx4a65c_add_72be8 [.code yJx4a65c_add_72be8 cJx4a65c_add_72be8 4 none] { frames := 5, cells := 1, slots := 34, locals := 127 } (va_Pc [.ref b9, .ref v9, .ref ea, .int (nI n9)] (WP G A sz hp)) (va_Qv (fun hp1 => ∃ ea1 cap1 g, LSq G hp1 b9 ea1 (n9 + 1) cap1 mc g ∧ (∀ j, j < n9 → g j = f9 j) ∧ g n9 = some v9 ∧ LFq hp hp1 b9 ea cap ∧ ((ea1 = ea ∧ cap1 = cap) ∨ hp ea1 = none)) (WB G A) A) 1 34 A := by
  refine wr_ofW (by decide) (Nat.le_of_ble_eq_true rfl) hO ?_
  intro p e s m args below meth c ls X hr hlk hnm hsz hW hl
  have hA : ∀ q, s.heap.size ≤ q → A q := fun q h => hA q (by omega)
  have hl : lv_has ls 4 [(0, .ref b9), (1, .ref v9), (2, .ref ea), (3, .int (nI n9))] := hl
  have hcap := hL.2.2.1
  have hcap2 := hL.2.2.2
  have hne : 0 < cap → ea ≠ b9 := fun q => ne_look (hL.2.1.1 q) hL.1 (by simp [arQ, alE])
  by_cases hc0 : cap = 0
  · have hE := hL.2.1.2 hc0
    subst hE
    refine lv_iload_n X.1 X.2.1 dJx4a65c_add_72be8_0 rfl (lv_at hl 3 rfl) ?_
    refine lv_aload_n X.1 X.2.1 dJx4a65c_add_72be8_1 rfl (lv_at hl 2 rfl) ?_
    refine r_tlen X hW.2.2 dJx4a65c_add_72be8_2 ?_
    refine lv_icmp_ne (tgt := 11) X.1 X.2.1 dJx4a65c_add_72be8_3 (by decide) (fun c_3 => absurd (by rw [show n9 = 0 by omega]; rfl) c_3) (fun c_3 => ?_)
    refine lv_aload_n X.1 X.2.1 dJx4a65c_add_72be8_6 rfl (lv_at hl 0 rfl) ?_
    refine on_Wq (k' := 1) (n' := 34) (run_V (C := RJx4a65c) (As := []) (rest := []) X (c_Jx4a65c_grow_d5877 l G A hp _ (fun q h => hA q (Nat.le_trans hW.2.2.1 h)) hW.2.1 b9 (G.2.2 0) n9 cap mc f9 hL (by omega) h23 hel) (wp_blind _) (wp_at X hW.1 hW.2.2) (recv X hW.1 hL.1 (C := RJx4a65c) (T := TJx4a65c) (N := 3) rfl) mf_Jx4a65c_grow_d5877 tw_396 tw_398 tw_7 ⟨rfl, rfl, Nat.le_of_ble_eq_true rfl, Nat.le_of_ble_eq_true rfl⟩ hl.1 rfl rfl (Nat.le_of_ble_eq_true rfl) ⟨Nat.le_of_ble_eq_true rfl, Nat.le_of_ble_eq_true rfl⟩ dJx4a65c_add_72be8_7) hW (by omega) (by omega) (fun r_7 hp_1 H locs q_7 hW => ?_)
    obtain ⟨ea1, cap1, g1, rfl, hL1, hlt1, hg1, hF1, hn1⟩ := q_7
    refine W.eq (g2 := F0 m 10 ls [.ref ea1]) rfl ?_
    have g_2 : hp_1 b9 = some (.inr (1, [.int mc, .ref ea1, .int (nI n9)])) := hL1.1
    have g_3 : hp_1 ea1 = some (.inl (G.2.1 3, cap1, .inr (.inr (.inr (.inr g1))))) := hL1.2.1.1 (by omega)
    have hcap1 := hL1.2.2.2
    refine lv_astore_n (lv' := [(2, .ref ea1), (0, .ref b9), (1, .ref v9), (3, .int (nI n9))]) X.1 X.2.1 dJx4a65c_add_72be8_10 rfl hl (by decide) rfl (fun ls hl => ?_)
    refine lv_aload_n X.1 X.2.1 dJx4a65c_add_72be8_11 rfl (lv_at hl 0 rfl) ?_
    refine lv_iload_n X.1 X.2.1 dJx4a65c_add_72be8_12 rfl (lv_at hl 3 rfl) ?_
    refine lv_aload_n X.1 X.2.1 dJx4a65c_add_72be8_13 rfl (lv_at hl 2 rfl) ?_
    refine r_aast X hW g_3 (isEl.lf hv hL hF1) (show vp_in ((nI n9)) cap1 from vp_in_nI (n := n9) (by omega) (by omega)) dJx4a65c_add_72be8_14 (fun hp_4 H locs hW eh_5 => ?_)
    have f_6 : hp_4 ea1 = some (.inl (G.2.1 3, cap1, .inr (.inr (.inr (.inr (va_up g1 (nI n9).toNatClampNeg (some v9))))))) := by rw [eh_5]; exact va_up_self _ _ _
    refine lv_aload_n X.1 X.2.1 dJx4a65c_add_72be8_15 rfl (lv_at hl 1 rfl) ?_
    refine lv_iload_n X.1 X.2.1 dJx4a65c_add_72be8_16 rfl (lv_at hl 3 rfl) ?_
    refine lv_iconst (v := 1) X.1 X.2.1 dJx4a65c_add_72be8_17 (by decide) ?_
    refine lv_iadd X.1 X.2.1 dJx4a65c_add_72be8_18 ?_
    refine r_eqi (show (((nI n9) + 1) : Int32) = nI (n9 + 1) from nI_add n9 1) ?_
    have f_7 : hp_4 b9 = some (.inr (1, [.int mc, .ref ea1, .int (nI n9)])) := by rw [eh_5, va_up_ne _ _ (ne_look g_2 g_3 (by simp))]; exact g_2
    refine r_put X hW f_7 (v := .int (nI (n9 + 1))) (C := RJx4a65c) (T := TJx4a65c) (N := 3) rfl tin_Jx4a65c tyJx4a65c_ok nmJx4a65c 2 (Nat.le_of_ble_eq_true rfl) tw_58 (fun _ h => h) rfl rfl rfl (Nat.le_of_ble_eq_true rfl) dJx4a65c_add_72be8_19 (fun hp_8 H locs hW eh_9 => ?_)
    have f_10 : hp_8 b9 = some (.inr (1, [.int mc, .ref ea1, .int (nI (n9 + 1))])) := by rw [eh_9]; exact va_up_self _ _ _
    exact wr_v X hr hlk hW ⟨ea1, cap1, _, ⟨f_10, ⟨fun _ => (show (_ : Option va_E) = some (.inl (G.2.1 3, cap1, .inr (.inr (.inr (.inr (va_up g1 (nI n9).toNatClampNeg (some v9))))))) by rw [eh_9, va_up_ne _ _ (ne_look f_6 f_7 (by simp))]; exact f_6), fun q => absurd q (by omega)⟩, by omega, by omega⟩, fun j hj => (up_lt (by omega) (by omega)).trans (hg1 j hj), up_at (by omega), LFq.tr hF1 (LFq.b (LFq.ea (cap := cap1) LFq.rf (by omega) eh_5) eh_9) (Or.inr hn1), Or.inr hn1⟩ (Nat.le_of_ble_eq_true rfl) (Nat.le_of_ble_eq_true rfl) dJx4a65c_add_72be8_22
  · have hcp : 0 < cap := Nat.pos_of_ne_zero hc0
    refine lv_iload_n X.1 X.2.1 dJx4a65c_add_72be8_0 rfl (lv_at hl 3 rfl) ?_
    refine lv_aload_n X.1 X.2.1 dJx4a65c_add_72be8_1 rfl (lv_at hl 2 rfl) ?_
    refine r_alen X hW.1 (hL.2.1.1 (by omega)) 3 rfl (v := nI cap) rfl dJx4a65c_add_72be8_2 ?_
    refine lv_icmp_ne (tgt := 11) X.1 X.2.1 dJx4a65c_add_72be8_3 (by decide) (fun c_3 => ?_) (fun c_3 => ?_)
    · have k_3 := k_ne (a := n9) (b := cap) (by omega) (by omega) c_3
      refine lv_aload_n X.1 X.2.1 dJx4a65c_add_72be8_11 rfl (lv_at hl 2 rfl) ?_
      refine lv_iload_n X.1 X.2.1 dJx4a65c_add_72be8_12 rfl (lv_at hl 3 rfl) ?_
      refine lv_aload_n X.1 X.2.1 dJx4a65c_add_72be8_13 rfl (lv_at hl 1 rfl) ?_
      refine r_aast X hW (hL.2.1.1 (by omega)) hv (show vp_in ((nI n9)) cap from vp_in_nI (n := n9) (by omega) (by omega)) dJx4a65c_add_72be8_14 (fun hp_11 H locs hW eh_12 => ?_)
      have f_13 : hp_11 ea = some (.inl (G.2.1 3, cap, .inr (.inr (.inr (.inr (va_up f9 (nI n9).toNatClampNeg (some v9))))))) := by rw [eh_12]; exact va_up_self _ _ _
      refine lv_aload_n X.1 X.2.1 dJx4a65c_add_72be8_15 rfl (lv_at hl 0 rfl) ?_
      refine lv_iload_n X.1 X.2.1 dJx4a65c_add_72be8_16 rfl (lv_at hl 3 rfl) ?_
      refine lv_iconst (v := 1) X.1 X.2.1 dJx4a65c_add_72be8_17 (by decide) ?_
      refine lv_iadd X.1 X.2.1 dJx4a65c_add_72be8_18 ?_
      refine r_eqi (show (((nI n9) + 1) : Int32) = nI (n9 + 1) from nI_add n9 1) ?_
      have f_14 : hp_11 b9 = some (.inr (1, [.int mc, .ref ea, .int (nI n9)])) := by rw [eh_12, va_up_ne _ _ (Ne.symm (hne (by omega)))]; exact hL.1
      refine r_put X hW f_14 (v := .int (nI (n9 + 1))) (C := RJx4a65c) (T := TJx4a65c) (N := 3) rfl tin_Jx4a65c tyJx4a65c_ok nmJx4a65c 2 (Nat.le_of_ble_eq_true rfl) tw_58 (fun _ h => h) rfl rfl rfl (Nat.le_of_ble_eq_true rfl) dJx4a65c_add_72be8_19 (fun hp_15 H locs hW eh_16 => ?_)
      have f_17 : hp_15 b9 = some (.inr (1, [.int mc, .ref ea, .int (nI (n9 + 1))])) := by rw [eh_16]; exact va_up_self _ _ _
      exact wr_v X hr hlk hW ⟨ea, cap, _, ⟨f_17, ⟨fun _ => (show (_ : Option va_E) = some (.inl (G.2.1 3, cap, .inr (.inr (.inr (.inr (va_up f9 (nI n9).toNatClampNeg (some v9))))))) by rw [eh_16, va_up_ne _ _ (hne (by omega))]; exact f_13), fun q => absurd q (by omega)⟩, by omega, by omega⟩, fun j hj => up_lt (by omega) (by omega), up_at (by omega), LFq.b (LFq.ea LFq.rf (by omega) eh_12) eh_16, Or.inl ⟨rfl, rfl⟩⟩ (Nat.le_of_ble_eq_true rfl) (Nat.le_of_ble_eq_true rfl) dJx4a65c_add_72be8_22
    · have k_3 := k_eq (a := n9) (b := cap) (by omega) (by omega) c_3
      refine lv_aload_n X.1 X.2.1 dJx4a65c_add_72be8_6 rfl (lv_at hl 0 rfl) ?_
      refine on_Wq (k' := 1) (n' := 34) (run_V (C := RJx4a65c) (As := []) (rest := []) X (c_Jx4a65c_grow_d5877 l G A hp _ (fun q h => hA q (Nat.le_trans hW.2.2.1 h)) hW.2.1 b9 ea n9 cap mc f9 hL (by omega) h23 hel) (wp_blind _) (wp_at X hW.1 hW.2.2) (recv X hW.1 hL.1 (C := RJx4a65c) (T := TJx4a65c) (N := 3) rfl) mf_Jx4a65c_grow_d5877 tw_396 tw_398 tw_7 ⟨rfl, rfl, Nat.le_of_ble_eq_true rfl, Nat.le_of_ble_eq_true rfl⟩ hl.1 rfl rfl (Nat.le_of_ble_eq_true rfl) ⟨Nat.le_of_ble_eq_true rfl, Nat.le_of_ble_eq_true rfl⟩ dJx4a65c_add_72be8_7) hW (by omega) (by omega) (fun r_7 hp_18 H locs q_7 hW => ?_)
      obtain ⟨ea1, cap1, g1, rfl, hL1, hlt1, hg1, hF1, hn1⟩ := q_7
      refine W.eq (g2 := F0 m 10 ls [.ref ea1]) rfl ?_
      have g_19 : hp_18 b9 = some (.inr (1, [.int mc, .ref ea1, .int (nI n9)])) := hL1.1
      have g_20 : hp_18 ea1 = some (.inl (G.2.1 3, cap1, .inr (.inr (.inr (.inr g1))))) := hL1.2.1.1 (by omega)
      have hcap1 := hL1.2.2.2
      refine lv_astore_n (lv' := [(2, .ref ea1), (0, .ref b9), (1, .ref v9), (3, .int (nI n9))]) X.1 X.2.1 dJx4a65c_add_72be8_10 rfl hl (by decide) rfl (fun ls hl => ?_)
      refine lv_aload_n X.1 X.2.1 dJx4a65c_add_72be8_11 rfl (lv_at hl 0 rfl) ?_
      refine lv_iload_n X.1 X.2.1 dJx4a65c_add_72be8_12 rfl (lv_at hl 3 rfl) ?_
      refine lv_aload_n X.1 X.2.1 dJx4a65c_add_72be8_13 rfl (lv_at hl 2 rfl) ?_
      refine r_aast X hW g_20 (isEl.lf hv hL hF1) (show vp_in ((nI n9)) cap1 from vp_in_nI (n := n9) (by omega) (by omega)) dJx4a65c_add_72be8_14 (fun hp_21 H locs hW eh_22 => ?_)
      have f_23 : hp_21 ea1 = some (.inl (G.2.1 3, cap1, .inr (.inr (.inr (.inr (va_up g1 (nI n9).toNatClampNeg (some v9))))))) := by rw [eh_22]; exact va_up_self _ _ _
      refine lv_aload_n X.1 X.2.1 dJx4a65c_add_72be8_15 rfl (lv_at hl 1 rfl) ?_
      refine lv_iload_n X.1 X.2.1 dJx4a65c_add_72be8_16 rfl (lv_at hl 3 rfl) ?_
      refine lv_iconst (v := 1) X.1 X.2.1 dJx4a65c_add_72be8_17 (by decide) ?_
      refine lv_iadd X.1 X.2.1 dJx4a65c_add_72be8_18 ?_
      refine r_eqi (show (((nI n9) + 1) : Int32) = nI (n9 + 1) from nI_add n9 1) ?_
      have f_24 : hp_21 b9 = some (.inr (1, [.int mc, .ref ea1, .int (nI n9)])) := by rw [eh_22, va_up_ne _ _ (ne_look g_19 g_20 (by simp))]; exact g_19
      refine r_put X hW f_24 (v := .int (nI (n9 + 1))) (C := RJx4a65c) (T := TJx4a65c) (N := 3) rfl tin_Jx4a65c tyJx4a65c_ok nmJx4a65c 2 (Nat.le_of_ble_eq_true rfl) tw_58 (fun _ h => h) rfl rfl rfl (Nat.le_of_ble_eq_true rfl) dJx4a65c_add_72be8_19 (fun hp_25 H locs hW eh_26 => ?_)
      have f_27 : hp_25 b9 = some (.inr (1, [.int mc, .ref ea1, .int (nI (n9 + 1))])) := by rw [eh_26]; exact va_up_self _ _ _
      exact wr_v X hr hlk hW ⟨ea1, cap1, _, ⟨f_27, ⟨fun _ => (show (_ : Option va_E) = some (.inl (G.2.1 3, cap1, .inr (.inr (.inr (.inr (va_up g1 (nI n9).toNatClampNeg (some v9))))))) by rw [eh_26, va_up_ne _ _ (ne_look f_23 f_24 (by simp))]; exact f_23), fun q => absurd q (by omega)⟩, by omega, by omega⟩, fun j hj => (up_lt (by omega) (by omega)).trans (hg1 j hj), up_at (by omega), LFq.tr hF1 (LFq.b (LFq.ea (cap := cap1) LFq.rf (by omega) eh_22) eh_26) (Or.inr hn1), Or.inr hn1⟩ (Nat.le_of_ble_eq_true rfl) (Nat.le_of_ble_eq_true rfl) dJx4a65c_add_72be8_22

set_option maxHeartbeats 4000000 in
set_option maxRecDepth 100000 in
theorem c_Jx4a65c_add_9ea2d (l : Launch) (G : HG) (A : Nat → Prop) (hp : HP) (sz : Nat) (hA : ∀ q, sz ≤ q → A q) (hO : Ow A hp) (b9 ea n9 cap : Nat) (mc : Int32) (f9 : Nat → Option Nat) (hL : LSq G hp b9 ea n9 cap mc f9) (h23 : n9 ≤ 23) (hel : isEls hp f9 0 n9) (v9 : Nat) (hv : isEl hp v9) : Met l yJx4a65c_add_9ea2d [.code yJx4a65c_add_9ea2d cJx4a65c_add_9ea2d 2 (some .boolean)] { frames := 6, cells := 1, slots := 34, locals := 150 } (va_Pc [.ref b9, .ref v9] (WP G A sz hp)) (va_Qi (fun r hp1 => r = 1 ∧ ∃ mc1 ea1 cap1 g, LSq G hp1 b9 ea1 (n9 + 1) cap1 mc1 g ∧ (∀ j, j < n9 → g j = f9 j) ∧ g n9 = some v9 ∧ LFq hp hp1 b9 ea cap ∧ ((ea1 = ea ∧ cap1 = cap) ∨ hp ea1 = none)) (WB G A) A) 1 34 A := by
  refine wr_ofW (by decide) (Nat.le_of_ble_eq_true rfl) hO ?_
  intro p e s m args below meth c ls X hr hlk hnm hsz hW hl
  have hA : ∀ q, s.heap.size ≤ q → A q := fun q h => hA q (by omega)
  have hl : lv_has ls 2 [(0, .ref b9), (1, .ref v9)] := hl
  have hcap := hL.2.2.1
  have hcap2 := hL.2.2.2
  have hne : 0 < cap → ea ≠ b9 := fun q => ne_look (hL.2.1.1 q) hL.1 (by simp [arQ, alE])
  refine lv_aload_n X.1 X.2.1 dJx4a65c_add_9ea2d_0 rfl (lv_at hl 0 rfl) ?_
  refine lv_dup X.1 X.2.1 dJx4a65c_add_9ea2d_1 rfl ?_
  refine r_get X hW.1 hL.1 (v := .int mc) (C := RJx4a65c) (T := TJx4a65c) (N := 3) rfl tin_Jx4a65c 0 (by decide) tw_60 (u_same (tb_all (args := #[]) X.2.2.2.2.1 _ tw_61)) rfl dJx4a65c_add_9ea2d_2 ?_
  refine lv_iconst (v := 1) X.1 X.2.1 dJx4a65c_add_9ea2d_5 (by decide) ?_
  refine lv_iadd X.1 X.2.1 dJx4a65c_add_9ea2d_6 ?_
  refine r_put X hW hL.1 (v := .int (mc + 1)) (C := RJx4a65c) (T := TJx4a65c) (N := 3) rfl tin_Jx4a65c tyJx4a65c_ok nmJx4a65c 0 (Nat.le_of_ble_eq_true rfl) tw_60 (u_same (tb_all (args := #[]) X.2.2.2.2.1 _ tw_61)) rfl rfl rfl (Nat.le_of_ble_eq_true rfl) dJx4a65c_add_9ea2d_7 (fun hp_1 H locs hW eh_2 => ?_)
  have f_3 : hp_1 b9 = some (.inr (1, [.int (mc + 1), .ref ea, .int (nI n9)])) := by rw [eh_2]; exact va_up_self _ _ _
  refine lv_aload_n X.1 X.2.1 dJx4a65c_add_9ea2d_10 rfl (lv_at hl 0 rfl) ?_
  refine lv_aload_n X.1 X.2.1 dJx4a65c_add_9ea2d_11 rfl (lv_at hl 1 rfl) ?_
  refine lv_aload_n X.1 X.2.1 dJx4a65c_add_9ea2d_12 rfl (lv_at hl 0 rfl) ?_
  refine r_get X hW.1 f_3 (v := .ref ea) (C := RJx4a65c) (T := TJx4a65c) (N := 3) rfl tin_Jx4a65c 1 (by decide) tw_57 (fun _ h => h) rfl dJx4a65c_add_9ea2d_13 ?_
  refine lv_aload_n X.1 X.2.1 dJx4a65c_add_9ea2d_16 rfl (lv_at hl 0 rfl) ?_
  refine r_get X hW.1 f_3 (v := .int (nI n9)) (C := RJx4a65c) (T := TJx4a65c) (N := 3) rfl tin_Jx4a65c 2 (by decide) tw_58 (fun _ h => h) rfl dJx4a65c_add_9ea2d_17 ?_
  have hL1 : LSq G hp_1 b9 ea n9 cap (mc + 1) f9 := ⟨f_3, ⟨fun q => by rw [eh_2, va_up_ne _ _ (hne q)]; exact hL.2.1.1 q, hL.2.1.2⟩, hL.2.2⟩
  have hF1 : LFq hp hp_1 b9 ea cap := LFq.b LFq.rf eh_2
  refine on_Wv (k' := 1) (n' := 34) (run_V (C := RJx4a65c) (As := [.ref v9, .ref ea, .int (nI n9)]) (rest := []) X (c_Jx4a65c_add_72be8 l G A hp_1 _ (fun q h => hA q (Nat.le_trans hW.2.2.1 h)) hW.2.1 b9 ea n9 cap (mc + 1) f9 hL1 h23 (isEls.lf hel hL hF1) v9 (isEl.lf hv hL hF1)) (wp_blind _) (wp_at X hW.1 hW.2.2) (recv X hW.1 f_3 (C := RJx4a65c) (T := TJx4a65c) (N := 3) rfl) mf_Jx4a65c_add_72be8 tw_392 tw_394 tw_6 ⟨rfl, rfl, Nat.le_of_ble_eq_true rfl, Nat.le_of_ble_eq_true rfl⟩ hl.1 rfl rfl (Nat.le_of_ble_eq_true rfl) ⟨Nat.le_of_ble_eq_true rfl, Nat.le_of_ble_eq_true rfl⟩ dJx4a65c_add_9ea2d_20) hW (by omega) (by omega) (fun hp_4 H locs q_20 hW => ?_)
  obtain ⟨ea1, cap1, g1, hL2, hg1, hg2, hF2, hea⟩ := q_20
  replace hea : (ea1 = ea ∧ cap1 = cap) ∨ hp ea1 = none := hea.imp id (none_b eh_2)
  refine lv_iconst (v := 1) X.1 X.2.1 dJx4a65c_add_9ea2d_23 (by decide) ?_
  exact wr_z X hr hlk rfl hW ⟨rfl, _, ea1, cap1, g1, hL2, hg1, hg2, LFq.tr hF1 hF2 (Or.inl ⟨rfl, rfl⟩), hea⟩ (Nat.le_of_ble_eq_true rfl) (Nat.le_of_ble_eq_true rfl) dJx4a65c_add_9ea2d_24

theorem cpy_rm {f : Nat → Option Nat} {i n j : Nat} (hj : j < n - 1) (hi : i < n) : va_cpy f f (i + 1) i (n - 1 - i) j = f (if j < i then j else j + 1) := by
  unfold va_cpy
  by_cases c : j < i
  · rw [if_neg (by omega), if_pos c]
  · rw [if_pos (by omega), if_neg c]
    exact congrArg f (by omega)
set_option maxHeartbeats 4000000 in
set_option maxRecDepth 100000 in
theorem c_Jx4a65c_fastRemove_b59b0 (l : Launch) (G : HG) (A : Nat → Prop) (hp : HP) (sz : Nat) (hA : ∀ q, sz ≤ q → A q) (hO : Ow A hp) (b9 ea n9 cap : Nat) (mc : Int32) (f9 : Nat → Option Nat) (hL : LSq G hp b9 ea n9 cap mc f9) (hel : isEls hp f9 0 n9) (i9 : Nat) (hi9 : i9 < n9) : Met l yJx4a65c_fastRemove_b59b0 [.code yJx4a65c_fastRemove_b59b0 cJx4a65c_fastRemove_b59b0 4 none] { frames := 1, cells := 0, slots := 0, locals := 40 } (va_Pc [.ref b9, .ref ea, .int (nI i9)] (WP G A sz hp)) (va_Qv (fun hp1 => ∃ mc1 g, LSq G hp1 b9 ea (n9 - 1) cap mc1 g ∧ (∀ j, j < n9 - 1 → g j = f9 (if j < i9 then j else j + 1)) ∧ LFq hp hp1 b9 ea cap) (WB G A) A) 0 0 A := by
  refine wr_ofW (by decide) (Nat.le_of_ble_eq_true rfl) hO ?_
  intro p e s m args below meth c ls X hr hlk hnm hsz hW hl
  have hA : ∀ q, s.heap.size ≤ q → A q := fun q h => hA q (by omega)
  have hl : lv_has ls 4 [(0, .ref b9), (1, .ref ea), (2, .int (nI i9))] := hl
  have hcap := hL.2.2.1
  have hcap2 := hL.2.2.2
  have hne : 0 < cap → ea ≠ b9 := fun q => ne_look (hL.2.1.1 q) hL.1 (by simp [arQ, alE])
  have hcp : 0 < cap := by omega
  refine lv_aload_n X.1 X.2.1 dJx4a65c_fastRemove_b59b0_0 rfl (lv_at hl 0 rfl) ?_
  refine lv_dup X.1 X.2.1 dJx4a65c_fastRemove_b59b0_1 rfl ?_
  refine r_get X hW.1 hL.1 (v := .int mc) (C := RJx4a65c) (T := TJx4a65c) (N := 3) rfl tin_Jx4a65c 0 (by decide) tw_60 (u_same (tb_all (args := #[]) X.2.2.2.2.1 _ tw_61)) rfl dJx4a65c_fastRemove_b59b0_2 ?_
  refine lv_iconst (v := 1) X.1 X.2.1 dJx4a65c_fastRemove_b59b0_5 (by decide) ?_
  refine lv_iadd X.1 X.2.1 dJx4a65c_fastRemove_b59b0_6 ?_
  refine r_put X hW hL.1 (v := .int (mc + 1)) (C := RJx4a65c) (T := TJx4a65c) (N := 3) rfl tin_Jx4a65c tyJx4a65c_ok nmJx4a65c 0 (Nat.le_of_ble_eq_true rfl) tw_60 (u_same (tb_all (args := #[]) X.2.2.2.2.1 _ tw_61)) rfl rfl rfl (Nat.le_of_ble_eq_true rfl) dJx4a65c_fastRemove_b59b0_7 (fun hp_1 H locs hW eh_2 => ?_)
  have f_3 : hp_1 b9 = some (.inr (1, [.int (mc + 1), .ref ea, .int (nI n9)])) := by rw [eh_2]; exact va_up_self _ _ _
  have hF1 : LFq hp hp_1 b9 ea cap := LFq.b LFq.rf eh_2
  refine lv_aload_n X.1 X.2.1 dJx4a65c_fastRemove_b59b0_10 rfl (lv_at hl 0 rfl) ?_
  refine r_get X hW.1 f_3 (v := .int (nI n9)) (C := RJx4a65c) (T := TJx4a65c) (N := 3) rfl tin_Jx4a65c 2 (by decide) tw_58 (fun _ h => h) rfl dJx4a65c_fastRemove_b59b0_11 ?_
  refine lv_iconst (v := 1) X.1 X.2.1 dJx4a65c_fastRemove_b59b0_14 (by decide) ?_
  refine lv_isub X.1 X.2.1 dJx4a65c_fastRemove_b59b0_15 ?_
  refine r_eqi (show (((nI n9) - 1) : Int32) = nI (n9 - 1) from pk_sub (a := n9) (b := 1) (by omega)) ?_
  refine lv_dup X.1 X.2.1 dJx4a65c_fastRemove_b59b0_16 rfl ?_
  refine lv_istore_n (lv' := [(3, .int (nI (n9 - 1))), (0, .ref b9), (1, .ref ea), (2, .int (nI i9))]) X.1 X.2.1 dJx4a65c_fastRemove_b59b0_17 rfl hl (by decide) rfl (fun ls hl => ?_)
  refine lv_iload_n X.1 X.2.1 dJx4a65c_fastRemove_b59b0_18 rfl (lv_at hl 3 rfl) ?_
  refine lv_icmp_le (tgt := 34) X.1 X.2.1 dJx4a65c_fastRemove_b59b0_19 (by decide) (fun c_19 => ?_) (fun c_19 => ?_)
  · have k_19 := k_le (a := (n9 - 1)) (b := i9) (by omega) (by omega) c_19
    refine lv_aload_n X.1 X.2.1 dJx4a65c_fastRemove_b59b0_34 rfl (lv_at hl 2 rfl) ?_
    refine lv_aload_n X.1 X.2.1 dJx4a65c_fastRemove_b59b0_35 rfl (lv_at hl 1 rfl) ?_
    refine lv_iload_n X.1 X.2.1 dJx4a65c_fastRemove_b59b0_36 rfl (lv_at hl 0 rfl) ?_
    refine lv_dup_x1 X.1 X.2.1 dJx4a65c_fastRemove_b59b0_37 rfl rfl ?_
    refine r_put X hW f_3 (v := .int (nI (n9 - 1))) (C := RJx4a65c) (T := TJx4a65c) (N := 3) rfl tin_Jx4a65c tyJx4a65c_ok nmJx4a65c 2 (Nat.le_of_ble_eq_true rfl) tw_58 (fun _ h => h) rfl rfl rfl (Nat.le_of_ble_eq_true rfl) dJx4a65c_fastRemove_b59b0_38 (fun hp_4 H locs hW eh_5 => ?_)
    have f_6 : hp_4 b9 = some (.inr (1, [.int (mc + 1), .ref ea, .int (nI (n9 - 1))])) := by rw [eh_5]; exact va_up_self _ _ _
    refine lv_null X.1 X.2.1 dJx4a65c_fastRemove_b59b0_41 ?_
    have f_7 : hp_4 ea = some (.inl (G.2.1 3, cap, .inr (.inr (.inr (.inr f9))))) := by rw [eh_5, va_up_ne _ _ (hne (by omega)), eh_2, va_up_ne _ _ (hne (by omega))]; exact (hL.2.1.1 (by omega))
    refine r_aastN X hW f_7 (show vp_in ((nI (n9 - 1))) cap from vp_in_nI (n := (n9 - 1)) (by omega) (by omega)) dJx4a65c_fastRemove_b59b0_42 (fun hp_8 H locs hW eh_9 => ?_)
    have f_10 : hp_8 ea = some (.inl (G.2.1 3, cap, .inr (.inr (.inr (.inr (va_up f9 (nI (n9 - 1)).toNatClampNeg none)))))) := by rw [eh_9]; exact va_up_self _ _ _
    exact wr_v X hr hlk hW ⟨_, _, ⟨(show (_ : Option va_E) = some (.inr (1, [.int (mc + 1), .ref ea, .int (nI (n9 - 1))])) by rw [eh_9, va_up_ne _ _ (Ne.symm (hne (by omega)))]; exact f_6), ⟨fun _ => f_10, fun q => absurd q (by omega)⟩, by omega, hL.2.2.2⟩, (fun j hj => (up_lt (by omega) (by omega)).trans (by rw [if_pos (by omega)])), (LFq.ea (LFq.b (LFq.b LFq.rf eh_2) eh_5) hcp eh_9)⟩ (Nat.le_of_ble_eq_true rfl) (Nat.le_of_ble_eq_true rfl) dJx4a65c_fastRemove_b59b0_43
  · have k_19 := k_nle (a := (n9 - 1)) (b := i9) (by omega) (by omega) c_19
    refine lv_aload_n X.1 X.2.1 dJx4a65c_fastRemove_b59b0_22 rfl (lv_at hl 2 rfl) ?_
    refine lv_iload_n X.1 X.2.1 dJx4a65c_fastRemove_b59b0_23 rfl (lv_at hl 3 rfl) ?_
    refine lv_iconst (v := 1) X.1 X.2.1 dJx4a65c_fastRemove_b59b0_24 (by decide) ?_
    refine lv_iadd X.1 X.2.1 dJx4a65c_fastRemove_b59b0_25 ?_
    refine r_eqi (show (((nI i9) + 1) : Int32) = nI (i9 + 1) from nI_add i9 1) ?_
    refine lv_aload_n X.1 X.2.1 dJx4a65c_fastRemove_b59b0_26 rfl (lv_at hl 2 rfl) ?_
    refine lv_iload_n X.1 X.2.1 dJx4a65c_fastRemove_b59b0_27 rfl (lv_at hl 3 rfl) ?_
    refine lv_iload_n X.1 X.2.1 dJx4a65c_fastRemove_b59b0_28 rfl (lv_at hl 0 rfl) ?_
    refine lv_iload_n X.1 X.2.1 dJx4a65c_fastRemove_b59b0_29 rfl (lv_at hl 3 rfl) ?_
    refine lv_isub X.1 X.2.1 dJx4a65c_fastRemove_b59b0_30 ?_
    refine r_eqi (show (((nI (n9 - 1)) - (nI i9)) : Int32) = nI ((n9 - 1) - i9) from pk_sub (a := (n9 - 1)) (b := i9) (by omega)) ?_
    have f_13 : hp_1 ea = some (.inl (G.2.1 3, cap, .inr (.inr (.inr (.inr f9))))) := by rw [eh_2, va_up_ne _ _ (hne (by omega))]; exact (hL.2.1.1 (by omega))
    refine r_copyQ X hW f_13 f_13 (i9 + 1) i9 (n9 - 1 - i9) (by omega) (by omega) (by omega) (by omega) (isEls.sub (isEls.lf hel hL hF1) (Nat.zero_le _) (by omega)) tw_244 tw_245 tw_246 tw_31 hl.1 (Nat.le_of_ble_eq_true rfl) (Nat.le_of_ble_eq_true rfl) dJx4a65c_fastRemove_b59b0_31 (fun hp_11 H locs hW eh_12 => ?_)
    have f_14 : hp_11 ea = some (.inl (G.2.1 3, cap, .inr (.inr (.inr (.inr (va_cpy f9 f9 (i9 + 1) i9 (n9 - 1 - i9))))))) := by rw [eh_12]; exact va_up_self _ _ _
    refine lv_aload_n X.1 X.2.1 dJx4a65c_fastRemove_b59b0_34 rfl (lv_at hl 2 rfl) ?_
    refine lv_aload_n X.1 X.2.1 dJx4a65c_fastRemove_b59b0_35 rfl (lv_at hl 1 rfl) ?_
    refine lv_iload_n X.1 X.2.1 dJx4a65c_fastRemove_b59b0_36 rfl (lv_at hl 0 rfl) ?_
    refine lv_dup_x1 X.1 X.2.1 dJx4a65c_fastRemove_b59b0_37 rfl rfl ?_
    have f_15 : hp_11 b9 = some (.inr (1, [.int (mc + 1), .ref ea, .int (nI n9)])) := by rw [eh_12, va_up_ne _ _ (Ne.symm (hne (by omega)))]; exact f_3
    refine r_put X hW f_15 (v := .int (nI (n9 - 1))) (C := RJx4a65c) (T := TJx4a65c) (N := 3) rfl tin_Jx4a65c tyJx4a65c_ok nmJx4a65c 2 (Nat.le_of_ble_eq_true rfl) tw_58 (fun _ h => h) rfl rfl rfl (Nat.le_of_ble_eq_true rfl) dJx4a65c_fastRemove_b59b0_38 (fun hp_16 H locs hW eh_17 => ?_)
    have f_18 : hp_16 b9 = some (.inr (1, [.int (mc + 1), .ref ea, .int (nI (n9 - 1))])) := by rw [eh_17]; exact va_up_self _ _ _
    refine lv_null X.1 X.2.1 dJx4a65c_fastRemove_b59b0_41 ?_
    have f_19 : hp_16 ea = some (.inl (G.2.1 3, cap, .inr (.inr (.inr (.inr (va_cpy f9 f9 (i9 + 1) i9 (n9 - 1 - i9))))))) := by rw [eh_17, va_up_ne _ _ (hne (by omega))]; exact f_14
    refine r_aastN X hW f_19 (show vp_in ((nI (n9 - 1))) cap from vp_in_nI (n := (n9 - 1)) (by omega) (by omega)) dJx4a65c_fastRemove_b59b0_42 (fun hp_20 H locs hW eh_21 => ?_)
    have f_22 : hp_20 ea = some (.inl (G.2.1 3, cap, .inr (.inr (.inr (.inr (va_up (va_cpy f9 f9 (i9 + 1) i9 (n9 - 1 - i9)) (nI (n9 - 1)).toNatClampNeg none)))))) := by rw [eh_21]; exact va_up_self _ _ _
    exact wr_v X hr hlk hW ⟨_, _, ⟨(show (_ : Option va_E) = some (.inr (1, [.int (mc + 1), .ref ea, .int (nI (n9 - 1))])) by rw [eh_21, va_up_ne _ _ (Ne.symm (hne (by omega)))]; exact f_18), ⟨fun _ => f_22, fun q => absurd q (by omega)⟩, by omega, hL.2.2.2⟩, (fun j hj => (up_lt (by omega) (by omega)).trans (cpy_rm hj hi9)), (LFq.ea (LFq.b (LFq.ea (LFq.b LFq.rf eh_2) hcp eh_12) eh_17) hcp eh_21)⟩ (Nat.le_of_ble_eq_true rfl) (Nat.le_of_ble_eq_true rfl) dJx4a65c_fastRemove_b59b0_43

set_option maxHeartbeats 4000000 in
set_option maxRecDepth 100000 in
theorem c_Jx4a65c_remove_915e3 (l : Launch) (G : HG) (A : Nat → Prop) (hp : HP) (sz : Nat) (hA : ∀ q, sz ≤ q → A q) (hO : Ow A hp) (b9 ea n9 cap : Nat) (mc : Int32) (f9 : Nat → Option Nat) (hL : LSq G hp b9 ea n9 cap mc f9) (hel : isEls hp f9 0 n9) (i9 : Nat) (hi9 : i9 < n9) (y9 : Nat) (hy : f9 i9 = some y9) : Met l yJx4a65c_remove_915e3 [.code yJx4a65c_remove_915e3 cJx4a65c_remove_915e3 4 (some (.object "java/lang/Object"))] { frames := 2, cells := 0, slots := 0, locals := 63 } (va_Pc [.ref b9, .int (nI i9)] (WP G A sz hp)) (va_Qq (fun r hp1 => r = some y9 ∧ ∃ mc1 g, LSq G hp1 b9 ea (n9 - 1) cap mc1 g ∧ (∀ j, j < n9 - 1 → g j = f9 (if j < i9 then j else j + 1)) ∧ LFq hp hp1 b9 ea cap) (WB G A) A) 0 0 A := by
  refine wr_ofW (by decide) (Nat.le_of_ble_eq_true rfl) hO ?_
  intro p e s m args below meth c ls X hr hlk hnm hsz hW hl
  have hA : ∀ q, s.heap.size ≤ q → A q := fun q h => hA q (by omega)
  have hl : lv_has ls 4 [(0, .ref b9), (1, .int (nI i9))] := hl
  have hcap := hL.2.2.1
  have hcap2 := hL.2.2.2
  have hne : 0 < cap → ea ≠ b9 := fun q => ne_look (hL.2.1.1 q) hL.1 (by simp [arQ, alE])
  have hcp : 0 < cap := by omega
  refine lv_iload_n X.1 X.2.1 dJx4a65c_remove_915e3_0 rfl (lv_at hl 1 rfl) ?_
  refine lv_aload_n X.1 X.2.1 dJx4a65c_remove_915e3_1 rfl (lv_at hl 0 rfl) ?_
  refine r_get X hW.1 hL.1 (v := .int (nI n9)) (C := RJx4a65c) (T := TJx4a65c) (N := 3) rfl tin_Jx4a65c 2 (by decide) tw_58 (fun _ h => h) rfl dJx4a65c_remove_915e3_2 ?_
  refine on_Si (run_S (As := [.int (nI i9), .int (nI n9)]) (rest := []) X (c_J15_checkIndex_7cf53 l G hp i9 n9 (by omega) (by omega)) (rp_blind _) (rp_at X hW.1 hW.2.2) mf_J15_checkIndex_7cf53 tw_225 tw_226 ⟨rfl, rfl, Nat.le_of_ble_eq_true rfl, Nat.le_of_ble_eq_true rfl⟩ hl.1 rfl rfl (Nat.le_of_ble_eq_true rfl) ⟨Nat.le_of_ble_eq_true rfl, Nat.le_of_ble_eq_true rfl⟩ dJx4a65c_remove_915e3_5) (fun r_5 q_5 => ?_)
  obtain rfl : r_5 = (nI i9) := q_5
  refine lv_pop X.1 X.2.1 dJx4a65c_remove_915e3_8 rfl ?_
  refine lv_aload_n X.1 X.2.1 dJx4a65c_remove_915e3_9 rfl (lv_at hl 0 rfl) ?_
  refine r_get X hW.1 hL.1 (v := .ref ea) (C := RJx4a65c) (T := TJx4a65c) (N := 3) rfl tin_Jx4a65c 1 (by decide) tw_57 (fun _ h => h) rfl dJx4a65c_remove_915e3_10 ?_
  refine lv_astore_n (lv' := [(2, .ref ea), (0, .ref b9), (1, .int (nI i9))]) X.1 X.2.1 dJx4a65c_remove_915e3_13 rfl hl (by decide) rfl (fun ls hl => ?_)
  refine lv_aload_n X.1 X.2.1 dJx4a65c_remove_915e3_14 rfl (lv_at hl 0 rfl) ?_
  refine lv_iload_n X.1 X.2.1 dJx4a65c_remove_915e3_15 rfl (lv_at hl 2 rfl) ?_
  refine r_aald X hW.1 (hL.2.1.1 (by omega)) (show vp_in ((nI i9)) cap from vp_in_nI (n := i9) (by omega) (by omega)) (v := .ref y9) (by rw [nI_clamp (by omega), hy]; rfl) dJx4a65c_remove_915e3_16 ?_
  refine lv_astore_n (lv' := [(3, .ref y9), (2, .ref ea), (0, .ref b9), (1, .int (nI i9))]) X.1 X.2.1 dJx4a65c_remove_915e3_17 rfl hl (by decide) rfl (fun ls hl => ?_)
  refine lv_aload_n X.1 X.2.1 dJx4a65c_remove_915e3_18 rfl (lv_at hl 2 rfl) ?_
  refine lv_aload_n X.1 X.2.1 dJx4a65c_remove_915e3_19 rfl (lv_at hl 1 rfl) ?_
  refine lv_iload_n X.1 X.2.1 dJx4a65c_remove_915e3_20 rfl (lv_at hl 3 rfl) ?_
  refine on_Wv (k' := 0) (n' := 0) (run_V (C := RJx4a65c) (As := [.ref ea, .int (nI i9)]) (rest := []) X (c_Jx4a65c_fastRemove_b59b0 l G A hp _ (fun q h => hA q (Nat.le_trans hW.2.2.1 h)) hW.2.1 b9 ea n9 cap mc f9 hL hel i9 hi9) (wp_blind _) (wp_at X hW.1 hW.2.2) (recv X hW.1 hL.1 (C := RJx4a65c) (T := TJx4a65c) (N := 3) rfl) mf_Jx4a65c_fastRemove_b59b0 tw_240 tw_242 tw_1 ⟨rfl, rfl, Nat.le_of_ble_eq_true rfl, Nat.le_of_ble_eq_true rfl⟩ hl.1 rfl rfl (Nat.le_of_ble_eq_true rfl) ⟨Nat.le_of_ble_eq_true rfl, Nat.le_of_ble_eq_true rfl⟩ dJx4a65c_remove_915e3_21) hW (by omega) (by omega) (fun hp_1 H locs q_21 hW => ?_)
  refine lv_aload_n X.1 X.2.1 dJx4a65c_remove_915e3_24 rfl (lv_at hl 0 rfl) ?_
  exact wr_q (r := some y9) X hr (Or.inl ⟨_, rfl⟩) hlk hW ⟨rfl, q_21⟩ (Nat.le_of_ble_eq_true rfl) (Nat.le_of_ble_eq_true rfl) dJx4a65c_remove_915e3_25

set_option maxHeartbeats 4000000 in
set_option maxRecDepth 100000 in
theorem c_Jxa1e45_init_da8c8 (l : Launch) (G : HG) (A : Nat → Prop) (hp : HP) (sz : Nat) (hA : ∀ q, sz ≤ q → A q) (hO : Ow A hp) (b9 : Nat) : Met l yJxa1e45_init_da8c8 [.code yJxa1e45_init_da8c8 cJxa1e45_init_da8c8 1 none] { frames := 1, cells := 0, slots := 0, locals := 12 } (va_Pc [.ref b9] (WP G A sz hp)) (va_Qv (fun hp1 => hp1 = hp) (WB G A) A) 0 0 A := by
  refine wr_ofW (by decide) (Nat.le_of_ble_eq_true rfl) hO ?_
  intro p e s m args below meth c ls X hr hlk hnm hsz hW hl
  have hA : ∀ q, s.heap.size ≤ q → A q := fun q h => hA q (by omega)
  have hl : lv_has ls 1 [(0, .ref b9)] := hl
  refine lv_aload_n X.1 X.2.1 dJxa1e45_init_da8c8_0 rfl (lv_at hl 0 rfl) ?_
  refine W.objInit X.1 X.2.1 X.2.2.2.1 (tb_all X.2.2.2.2.1 _ tw_54) (tb_all X.2.2.2.2.1 _ tw_41) (tb_all X.2.2.2.2.1 _ tw_objinit) rfl (by rw [X.2.2.1]; exact hl.1) rfl dJxa1e45_init_da8c8_1 (Nat.le_of_ble_eq_true rfl) (Nat.le_of_ble_eq_true rfl) ?_
  refine W.eq (g2 := F0 m 4 ls []) rfl ?_
  exact wr_v X hr hlk hW rfl (Nat.le_of_ble_eq_true rfl) (Nat.le_of_ble_eq_true rfl) dJxa1e45_init_da8c8_4

set_option maxHeartbeats 4000000 in
set_option maxRecDepth 100000 in
theorem c_Jxc12de_init_da8c8 (l : Launch) (G : HG) (A : Nat → Prop) (hp : HP) (sz : Nat) (hA : ∀ q, sz ≤ q → A q) (hO : Ow A hp) (b9 : Nat) (hb9 : hp b9 = some (.inr (1, [.int 0, .null, .int 0]))) : Met l yJxc12de_init_da8c8 [.code yJxc12de_init_da8c8 cJxc12de_init_da8c8 1 none] { frames := 2, cells := 0, slots := 0, locals := 32 } (va_Pc [.ref b9] (WP G A sz hp)) (va_Qv (fun hp1 => hp1 = va_up hp b9 (some (.inr (1, [.int 0, .null, .int 0])))) (WB G A) A) 0 0 A := by
  refine wr_ofW (by decide) (Nat.le_of_ble_eq_true rfl) hO ?_
  intro p e s m args below meth c ls X hr hlk hnm hsz hW hl
  have hA : ∀ q, s.heap.size ≤ q → A q := fun q h => hA q (by omega)
  have hl : lv_has ls 1 [(0, .ref b9)] := hl
  refine lv_aload_n X.1 X.2.1 dJxc12de_init_da8c8_0 rfl (lv_at hl 0 rfl) ?_
  refine on_Wv (k' := 0) (n' := 0) (run_I (As := []) (rest := []) X (c_Jxa1e45_init_da8c8 l G A hp _ (fun q h => hA q (Nat.le_trans hW.2.2.1 h)) hW.2.1 b9) (wp_blind _) (wp_at X hW.1 hW.2.2) mf_Jxa1e45_init_da8c8 tw_51 tw_52 rfl ⟨rfl, rfl, Nat.le_of_ble_eq_true rfl, Nat.le_of_ble_eq_true rfl⟩ hl.1 rfl rfl (Nat.le_of_ble_eq_true rfl) ⟨Nat.le_of_ble_eq_true rfl, Nat.le_of_ble_eq_true rfl⟩ dJxc12de_init_da8c8_1) hW (by omega) (by omega) (fun hp_1 H locs q_1 hW => ?_)
  have f_2 : hp_1 b9 = some (.inr (1, [.int 0, .null, .int 0])) := by rw [q_1]; exact hb9
  refine lv_aload_n X.1 X.2.1 dJxc12de_init_da8c8_4 rfl (lv_at hl 0 rfl) ?_
  refine lv_iconst (v := 0) X.1 X.2.1 dJxc12de_init_da8c8_5 (by decide) ?_
  refine r_put X hW f_2 (v := .int 0) (C := RJx4a65c) (T := TJx4a65c) (N := 3) rfl tin_Jx4a65c tyJx4a65c_ok nmJx4a65c 0 (Nat.le_of_ble_eq_true rfl) tw_59 (fun _ h => h) rfl rfl rfl (Nat.le_of_ble_eq_true rfl) dJxc12de_init_da8c8_6 (fun hp_3 H locs hW eh_4 => ?_)
  have f_5 : hp_3 b9 = some (.inr (1, [.int 0, .null, .int 0])) := by rw [eh_4]; exact va_up_self _ _ _
  exact wr_v X hr hlk hW (by rw [eh_4, q_1]; rfl) (Nat.le_of_ble_eq_true rfl) (Nat.le_of_ble_eq_true rfl) dJxc12de_init_da8c8_9

set_option maxHeartbeats 4000000 in
set_option maxRecDepth 100000 in
theorem c_Jx4a65c_init_da8c8 (l : Launch) (G : HG) (A : Nat → Prop) (hp : HP) (sz : Nat) (hA : ∀ q, sz ≤ q → A q) (hO : Ow A hp) (b9 : Nat) (hb9 : hp b9 = some (.inr (1, [.int 0, .null, .int 0]))) : Met l yJx4a65c_init_da8c8 [.code yJx4a65c_init_da8c8 cJx4a65c_init_da8c8 1 none] { frames := 3, cells := 0, slots := 0, locals := 52 } (va_Pc [.ref b9] (WP G A sz hp)) (va_Qv (fun hp1 => hp1 = va_up hp b9 (some (alE 0 (G.2.2 0) 0))) (WB G A) A) 0 0 A := by
  refine wr_ofW (by decide) (Nat.le_of_ble_eq_true rfl) hO ?_
  intro p e s m args below meth c ls X hr hlk hnm hsz hW hl
  have hA : ∀ q, s.heap.size ≤ q → A q := fun q h => hA q (by omega)
  have hl : lv_has ls 1 [(0, .ref b9)] := hl
  refine lv_aload_n X.1 X.2.1 dJx4a65c_init_da8c8_0 rfl (lv_at hl 0 rfl) ?_
  refine on_Wv (k' := 0) (n' := 0) (run_I (As := []) (rest := []) X (c_Jxc12de_init_da8c8 l G A hp _ (fun q h => hA q (Nat.le_trans hW.2.2.1 h)) hW.2.1 b9 hb9) (wp_blind _) (wp_at X hW.1 hW.2.2) mf_Jxc12de_init_da8c8 tw_48 tw_49 rfl ⟨rfl, rfl, Nat.le_of_ble_eq_true rfl, Nat.le_of_ble_eq_true rfl⟩ hl.1 rfl rfl (Nat.le_of_ble_eq_true rfl) ⟨Nat.le_of_ble_eq_true rfl, Nat.le_of_ble_eq_true rfl⟩ dJx4a65c_init_da8c8_1) hW (by omega) (by omega) (fun hp_1 H locs q_1 hW => ?_)
  have f_2 : hp_1 b9 = some (.inr (1, [.int 0, .null, .int 0])) := by rw [q_1]; exact va_up_self _ _ _
  refine lv_aload_n X.1 X.2.1 dJx4a65c_init_da8c8_4 rfl (lv_at hl 0 rfl) ?_
  refine r_getD X hW.2.2 tw_55 dJx4a65c_init_da8c8_5 ?_
  refine r_put X hW f_2 (v := .ref (G.2.2 0)) (C := RJx4a65c) (T := TJx4a65c) (N := 3) rfl tin_Jx4a65c tyJx4a65c_ok nmJx4a65c 1 (Nat.le_of_ble_eq_true rfl) tw_57 (fun _ h => h) rfl rfl rfl (Nat.le_of_ble_eq_true rfl) dJx4a65c_init_da8c8_8 (fun hp_3 H locs hW eh_4 => ?_)
  have f_5 : hp_3 b9 = some (.inr (1, [.int 0, .ref (G.2.2 0), .int 0])) := by rw [eh_4]; exact va_up_self _ _ _
  exact wr_v X hr hlk hW (by rw [eh_4, q_1, va_uu] <;> rfl) (Nat.le_of_ble_eq_true rfl) (Nat.le_of_ble_eq_true rfl) dJx4a65c_init_da8c8_11
