set_option maxHeartbeats 4000000 in
set_option maxRecDepth 100000 in
theorem c_L_lay (l : Launch) (G : HG) (A : Nat → Prop) (hp : HP) (sz : Nat) (hA : ∀ q, sz ≤ q → A q) (hO : Ow A hp) (b6 b9 ra L : Nat) (xs : Nat → Int32) (hL : L < 2 ^ 31) (hXA : ¬ A b9) (hd : Nat → Nat) (pn : Nat) (pt : Nat → Nat) (g0 : Nat → Int32) (hC : CP G hp [ra] b6 (0, fun _ _ => 0, hd, 0, cs0, false, pn, pt)) (hra : hp ra = some (.inl (G.2.1 1, 48, .inl g0))) : Met l yL_lay [.code yL_lay cL_lay 17 (some .int)] { frames := 9, cells := 16, slots := 320, locals := 218 } (va_Pc [.ref b6, .ref b9, .ref ra] (WX G A sz hp b9 L xs)) (va_Qi (fun r hp1 => ∃ (n : Nat) (R : Nat → Nat → Nat) (g : Nat → Int32), r = nI n ∧ CP G hp1 [ra] b6 (n, R, hd, 0, cs0, false, pn, pt) ∧ hp1 ra = some (.inl (G.2.1 1, 48, .inl g)) ∧ RG n R g) (WB G A) A) 16 320 A := by
  refine wx_ofW (by decide) (Nat.le_of_ble_eq_true rfl) hO ?_
  intro p e s m args below meth c ls X hr hlk hnm hsz hW hX hXl hl
  have hA : ∀ q, s.heap.size ≤ q → A q := fun q h => hA q (by omega)
  have hl : lv_has ls 17 [(0, .ref b6), (1, .ref b9), (2, .ref ra)] := hl
  refine lv_iconst (v := 0) X.1 X.2.1 dL_lay_0 (by decide) ?_
  refine lv_istore_n (lv' := [(3, .int 0), (0, .ref b6), (1, .ref b9), (2, .ref ra)]) X.1 X.2.1 dL_lay_1 rfl hl (by decide) rfl (fun ls hl => ?_)
  refine lv_iconst (v := 1) X.1 X.2.1 dL_lay_2 (by decide) ?_
  refine lv_aload_n X.1 X.2.1 dL_lay_3 rfl (lv_at hl 2 rfl) ?_
  refine lv_iconst (v := 0) X.1 X.2.1 dL_lay_4 (by decide) ?_
  refine lv_bipush (v := 8) X.1 X.2.1 dL_lay_5 (by decide) ?_
  refine on_Si (run_S (As := [.ref b9, .int 0, .int 8]) (rest := [.int 1]) X (c_L_cell l G hp b9 L xs hL 0 8 (by decide) (by decide) (by decide)) (rx_blind _) (rx_at X hW.1 hW.2.2 hX hXl hXA) mf_L_cell tw_331 tw_332 ⟨rfl, rfl, Nat.le_of_ble_eq_true rfl, Nat.le_of_ble_eq_true rfl⟩ hl.1 rfl rfl (Nat.le_of_ble_eq_true rfl) ⟨Nat.le_of_ble_eq_true rfl, Nat.le_of_ble_eq_true rfl⟩ dL_lay_7) (fun r_7 q_7 => ?_)
  obtain rfl : r_7 = (nI (ceF L xs 0 8)) := q_7
  refine lv_iadd X.1 X.2.1 dL_lay_10 ?_
  refine r_eqi (show (((1 : Int32) + (nI (ceF L xs 0 8))) : Int32) = nI (1 + (ceF L xs 0 8)) from nI_add 1 (ceF L xs 0 8)) ?_
  obtain ⟨z_11, ez_11⟩ : ∃ z : Nat, z = (1 + (ceF L xs 0 8)) := ⟨_, rfl⟩
  refine r_eqi (show nI (1 + (ceF L xs 0 8)) = nI z_11 from by rw [ez_11]) ?_
  have hz_11 : z_11 ≤ 8 := by have := ceF_lt L xs 0 (n := 8) (by decide); omega
  refine lv_istore (lv' := [(4, .int (nI z_11)), (3, .int 0), (0, .ref b6), (1, .ref b9), (2, .ref ra)]) X.1 X.2.1 dL_lay_11 hl (by decide) rfl (fun ls hl => ?_)
  refine lv_iconst (v := 0) X.1 X.2.1 dL_lay_13 (by decide) ?_
  refine lv_istore (lv' := [(5, .int 0), (4, .int (nI z_11)), (3, .int 0), (0, .ref b6), (1, .ref b9), (2, .ref ra)]) X.1 X.2.1 dL_lay_14 hl (by decide) rfl (fun ls hl => ?_)
  have L16 : ∀ (f : Nat) (n : Nat) (k : Nat) (R : Nat → Nat → Nat) (g : Nat → Int32) (hpL : HP) (H : Heap) (locs : List Loc), WS s G A hpL H locs → CP G hpL [ra] b6 (n, R, hd, 0, cs0, false, pn, pt) → hpL ra = some (.inl (G.2.1 1, 48, .inl g)) → (k + f = z_11) → (n ≤ k) → (RG n R g) → ∀ ls, lv_has ls 17 [(0, .ref b6), (1, .ref b9), (2, .ref ra), (3, .int (nI n)), (4, .int (nI z_11)), (5, .int (nI k))] → W p l e ({ frames := 9, cells := 16, slots := 320, locals := 218 } : Room) s m args below meth c H locs (16 - 2 * f) (320 - 40 * f) (MQ below (va_Qi (fun r hp1 => ∃ (n : Nat) (R : Nat → Nat → Nat) (g : Nat → Int32), r = nI n ∧ CP G hp1 [ra] b6 (n, R, hd, 0, cs0, false, pn, pt) ∧ hp1 ra = some (.inl (G.2.1 1, 48, .inl g)) ∧ RG n R g) (WB G A) A) args s 16 320 A) (F0 m 16 ls []) := by
    intro f
    induction f with
    | zero =>
      intro n k R g hpL H locs hW hC w_ra h0 h1 h2 ls hl
      refine lv_iload X.1 X.2.1 dL_lay_16 (lv_at hl 5 rfl) ?_
      refine lv_iload X.1 X.2.1 dL_lay_18 (lv_at hl 4 rfl) ?_
      refine lv_icmp_ge (tgt := 463) X.1 X.2.1 dL_lay_20 (by decide) (fun c_20 => ?_) (fun c_20 => absurd (nI_le (a := z_11) (b := k) (by omega) (by omega)) c_20)
      refine lv_iload_n X.1 X.2.1 dL_lay_463 rfl (lv_at hl 3 rfl) ?_
      exact wr_i X hr hlk hW ⟨n, R, g, rfl, hC, w_ra, h2⟩ (by omega) (by omega) dL_lay_464
    | succ f ih =>
      intro n k R g hpL H locs hW hC w_ra h0 h1 h2 ls hl
      have hg := h2
      have hk8 : k < 8 := by omega
      have hn8 : n < 8 := by omega
      refine lv_iload X.1 X.2.1 dL_lay_16 (lv_at hl 5 rfl) ?_
      refine lv_iload X.1 X.2.1 dL_lay_18 (lv_at hl 4 rfl) ?_
      refine lv_icmp_ge (tgt := 463) X.1 X.2.1 dL_lay_20 (by decide) (fun c_20 => absurd c_20 (nI_ge (a := k) (b := z_11) (by omega) (by omega))) (fun c_20 => ?_)
      refine lv_bipush (v := 12) X.1 X.2.1 dL_lay_23 (by decide) ?_
      refine lv_iload X.1 X.2.1 dL_lay_25 (lv_at hl 5 rfl) ?_
      refine lv_imul X.1 X.2.1 dL_lay_27 ?_
      refine r_eqi (show (((12 : Int32) * (nI k)) : Int32) = nI (12 * k) from pk_mul 12 k) ?_
      refine lv_iconst (v := 1) X.1 X.2.1 dL_lay_28 (by decide) ?_
      refine lv_iadd X.1 X.2.1 dL_lay_29 ?_
      refine r_eqi (show (((nI (12 * k)) + 1) : Int32) = nI ((12 * k) + 1) from nI_add (12 * k) 1) ?_
      refine lv_istore (lv' := [(6, .int (nI ((12 * k) + 1))), (0, .ref b6), (1, .ref b9), (2, .ref ra), (3, .int (nI n)), (4, .int (nI z_11)), (5, .int (nI k))]) X.1 X.2.1 dL_lay_30 hl (by decide) rfl (fun ls hl => ?_)
      refine lv_aload_n X.1 X.2.1 dL_lay_32 rfl (lv_at hl 2 rfl) ?_
      refine lv_iload X.1 X.2.1 dL_lay_33 (lv_at hl 0 rfl) ?_
      refine lv_iconst (v := 3) X.1 X.2.1 dL_lay_35 (by decide) ?_
      refine on_Si (run_S (As := [.ref b9, .int (nI ((12 * k) + 1)), .int 3]) (rest := []) X (c_L_cell l G hpL b9 L xs hL ((12 * k) + 1) 3 (by omega) (by decide) (by decide)) (rx_blind _) (rx_at X hW.1 hW.2.2 hX hXl hXA) mf_L_cell tw_331 tw_332 ⟨rfl, rfl, Nat.le_of_ble_eq_true rfl, Nat.le_of_ble_eq_true rfl⟩ hl.1 rfl rfl (Nat.le_of_ble_eq_true rfl) ⟨(by show _ ≤ 16; omega), (by show _ ≤ 320; omega)⟩ dL_lay_36) (fun r_36 q_36 => ?_)
      obtain rfl : r_36 = (nI (ceF L xs ((12 * k) + 1) 3)) := q_36
      obtain ⟨z_39, ez_39⟩ : ∃ z : Nat, z = (ceF L xs ((12 * k) + 1) 3) := ⟨_, rfl⟩
      refine r_eqi (show nI (ceF L xs ((12 * k) + 1) 3) = nI z_39 from by rw [ez_39]) ?_
      have lz_39 : z_39 < 3 := by rw [ez_39]; exact ceF_lt _ _ _ (by decide)
      refine lv_istore (lv' := [(7, .int (nI z_39)), (6, .int (nI ((12 * k) + 1))), (0, .ref b6), (1, .ref b9), (2, .ref ra), (3, .int (nI n)), (4, .int (nI z_11)), (5, .int (nI k))]) X.1 X.2.1 dL_lay_39 hl (by decide) rfl (fun ls hl => ?_)
      have J68c : ∀ (c9 : Nat) (ls : Array Slot), (c9 ≤ 25) → lv_has ls 17 [(0, .ref b6), (1, .ref b9), (2, .ref ra), (3, .int (nI n)), (4, .int (nI z_11)), (5, .int (nI k)), (6, .int (nI ((12 * k) + 1))), (7, .int (nI z_39))] → W p l e ({ frames := 9, cells := 16, slots := 320, locals := 218 } : Room) s m args below meth c H locs (16 - 2 * (f + 1)) (320 - 40 * (f + 1)) (MQ below (va_Qi (fun r hp1 => ∃ (n : Nat) (R : Nat → Nat → Nat) (g : Nat → Int32), r = nI n ∧ CP G hp1 [ra] b6 (n, R, hd, 0, cs0, false, pn, pt) ∧ hp1 ra = some (.inl (G.2.1 1, 48, .inl g)) ∧ RG n R g) (WB G A) A) args s 16 320 A) (F0 m 68 ls [.int (nI c9)]) := by
        intro c9 ls jc0 hl
        refine lv_istore (lv' := [(8, .int (nI c9)), (0, .ref b6), (1, .ref b9), (2, .ref ra), (3, .int (nI n)), (4, .int (nI z_11)), (5, .int (nI k)), (6, .int (nI ((12 * k) + 1))), (7, .int (nI z_39))]) X.1 X.2.1 dL_lay_68 hl (by decide) rfl (fun ls hl => ?_)
        refine lv_aload_n X.1 X.2.1 dL_lay_70 rfl (lv_at hl 2 rfl) ?_
        refine lv_iload X.1 X.2.1 dL_lay_71 (lv_at hl 7 rfl) ?_
        refine lv_iconst (v := 3) X.1 X.2.1 dL_lay_73 (by decide) ?_
        refine lv_iadd X.1 X.2.1 dL_lay_74 ?_
        refine r_eqi (show (((nI ((12 * k) + 1)) + 3) : Int32) = nI (((12 * k) + 1) + 3) from nI_add ((12 * k) + 1) 3) ?_
        refine lv_iconst (v := 3) X.1 X.2.1 dL_lay_75 (by decide) ?_
        refine on_Si (run_S (As := [.ref b9, .int (nI (((12 * k) + 1) + 3)), .int 3]) (rest := []) X (c_L_cell l G hpL b9 L xs hL (((12 * k) + 1) + 3) 3 (by omega) (by decide) (by decide)) (rx_blind _) (rx_at X hW.1 hW.2.2 hX hXl hXA) mf_L_cell tw_331 tw_332 ⟨rfl, rfl, Nat.le_of_ble_eq_true rfl, Nat.le_of_ble_eq_true rfl⟩ hl.1 rfl rfl (Nat.le_of_ble_eq_true rfl) ⟨(by show _ ≤ 16; omega), (by show _ ≤ 320; omega)⟩ dL_lay_76) (fun r_76 q_76 => ?_)
        obtain rfl : r_76 = (nI (ceF L xs (((12 * k) + 1) + 3) 3)) := q_76
        obtain ⟨z_79, ez_79⟩ : ∃ z : Nat, z = (ceF L xs (((12 * k) + 1) + 3) 3) := ⟨_, rfl⟩
        refine r_eqi (show nI (ceF L xs (((12 * k) + 1) + 3) 3) = nI z_79 from by rw [ez_79]) ?_
        have lz_79 : z_79 < 3 := by rw [ez_79]; exact ceF_lt _ _ _ (by decide)
        refine lv_istore (lv' := [(9, .int (nI z_79)), (8, .int (nI c9)), (0, .ref b6), (1, .ref b9), (2, .ref ra), (3, .int (nI n)), (4, .int (nI z_11)), (5, .int (nI k)), (6, .int (nI ((12 * k) + 1))), (7, .int (nI z_39))]) X.1 X.2.1 dL_lay_79 hl (by decide) rfl (fun ls hl => ?_)
        have J98f : ∀ (f9 : Nat) (ls : Array Slot), (f9 ≤ 1) → lv_has ls 17 [(0, .ref b6), (1, .ref b9), (2, .ref ra), (3, .int (nI n)), (4, .int (nI z_11)), (5, .int (nI k)), (6, .int (nI ((12 * k) + 1))), (7, .int (nI z_39)), (8, .int (nI c9)), (9, .int (nI z_79))] → W p l e ({ frames := 9, cells := 16, slots := 320, locals := 218 } : Room) s m args below meth c H locs (16 - 2 * (f + 1)) (320 - 40 * (f + 1)) (MQ below (va_Qi (fun r hp1 => ∃ (n : Nat) (R : Nat → Nat → Nat) (g : Nat → Int32), r = nI n ∧ CP G hp1 [ra] b6 (n, R, hd, 0, cs0, false, pn, pt) ∧ hp1 ra = some (.inl (G.2.1 1, 48, .inl g)) ∧ RG n R g) (WB G A) A) args s 16 320 A) (F0 m 98 ls [.int (nI f9)]) := by
          intro f9 ls jf0 hl
          refine lv_istore (lv' := [(10, .int (nI f9)), (0, .ref b6), (1, .ref b9), (2, .ref ra), (3, .int (nI n)), (4, .int (nI z_11)), (5, .int (nI k)), (6, .int (nI ((12 * k) + 1))), (7, .int (nI z_39)), (8, .int (nI c9)), (9, .int (nI z_79))]) X.1 X.2.1 dL_lay_98 hl (by decide) rfl (fun ls hl => ?_)
          refine lv_iconst (v := 0) X.1 X.2.1 dL_lay_100 (by decide) ?_
          refine lv_istore (lv' := [(11, .int 0), (10, .int (nI f9)), (0, .ref b6), (1, .ref b9), (2, .ref ra), (3, .int (nI n)), (4, .int (nI z_11)), (5, .int (nI k)), (6, .int (nI ((12 * k) + 1))), (7, .int (nI z_39)), (8, .int (nI c9)), (9, .int (nI z_79))]) X.1 X.2.1 dL_lay_101 hl (by decide) rfl (fun ls hl => ?_)
          refine lv_iconst (v := 0) X.1 X.2.1 dL_lay_103 (by decide) ?_
          refine lv_istore (lv' := [(12, .int 0), (11, .int 0), (10, .int (nI f9)), (0, .ref b6), (1, .ref b9), (2, .ref ra), (3, .int (nI n)), (4, .int (nI z_11)), (5, .int (nI k)), (6, .int (nI ((12 * k) + 1))), (7, .int (nI z_39)), (8, .int (nI c9)), (9, .int (nI z_79))]) X.1 X.2.1 dL_lay_104 hl (by decide) rfl (fun ls hl => ?_)
          have L106j : ∀ (fj : Nat) (j : Nat), j + fj = n → ∀ ls, lv_has ls 17 [(0, .ref b6), (1, .ref b9), (2, .ref ra), (3, .int (nI n)), (4, .int (nI z_11)), (5, .int (nI k)), (6, .int (nI ((12 * k) + 1))), (7, .int (nI z_39)), (8, .int (nI c9)), (9, .int (nI z_79)), (10, .int (nI f9)), (11, .int (bI (anF (thB R (nI z_39) (nI c9)) j 0))), (12, .int (nI j))] → W p l e ({ frames := 9, cells := 16, slots := 320, locals := 218 } : Room) s m args below meth c H locs (16 - 2 * (f + 1)) (320 - 40 * (f + 1)) (MQ below (va_Qi (fun r hp1 => ∃ (n : Nat) (R : Nat → Nat → Nat) (g : Nat → Int32), r = nI n ∧ CP G hp1 [ra] b6 (n, R, hd, 0, cs0, false, pn, pt) ∧ hp1 ra = some (.inl (G.2.1 1, 48, .inl g)) ∧ RG n R g) (WB G A) A) args s 16 320 A) (F0 m 106 ls []) := by
            intro fj
            induction fj with
            | zero =>
              intro j hj0 ls hl
              have hjn : j = n := by omega
              refine lv_iload X.1 X.2.1 dL_lay_106 (lv_at hl 12 rfl) ?_
              refine lv_iload_n X.1 X.2.1 dL_lay_108 rfl (lv_at hl 3 rfl) ?_
              refine lv_icmp_ge (tgt := 149) X.1 X.2.1 dL_lay_109 (by decide) (fun c_109 => ?_) (fun c_109 => absurd (nI_le (a := n) (b := j) (by omega) (by omega)) c_109)
              rcases Bool.eq_false_or_eq_true (anF (thB R (nI z_39) (nI c9)) n 0) with et | et
              · rw [show bI (anF (thB R (nI z_39) (nI c9)) j 0) = 1 from by rw [hjn, et]; rfl] at hl
                refine lv_aload_n X.1 X.2.1 dL_lay_149 rfl (lv_at hl 0 rfl) ?_
                refine lv_iload X.1 X.2.1 dL_lay_150 (lv_at hl 7 rfl) ?_
                refine lv_iload X.1 X.2.1 dL_lay_152 (lv_at hl 8 rfl) ?_
                refine lv_iload X.1 X.2.1 dL_lay_154 (lv_at hl 9 rfl) ?_
                refine lv_iload X.1 X.2.1 dL_lay_156 (lv_at hl 10 rfl) ?_
                refine lc_wi (z := (n, R, hd, 0, cs0, false, pn, pt)) (As := [.int (nI z_39), .int (nI c9), .int (nI z_79), .int (nI f9)]) (rest := []) X hA hW hC (fun r hp1 h => h) (fun A9 hp9 hA9 hO9 hz9 => c_X6_rule l G A9 hp9 _ hA9 hO9 b6 n R hd 0 cs0 false pn pt hz9 (nI z_39) (nI c9) (nI z_79) (nI f9)) mf_X6_rule tw_341 tw_342 tw_343 ⟨rfl, rfl, Nat.le_of_ble_eq_true rfl, Nat.le_of_ble_eq_true rfl⟩ hl.1 rfl rfl (Nat.le_of_ble_eq_true rfl) ⟨(by show _ ≤ 16; omega), (by show _ ≤ 320; omega)⟩ dL_lay_158 (fun hp_1 H locs hW hC hK => ?_)
                refine w_wid (k' := (16 - 2 * f)) (n' := (320 - 40 * f)) (by omega) (by omega) ?_
                have f_2 : hp_1 ra = some (.inl (G.2.1 1, 48, .inl g)) := (hK ra (by simp)).trans w_ra
                obtain ⟨hf9, hg9⟩ := fr_no (n := n) (R := R) (hd := hd) (pn := pn) (pt := pt) (st := z_39) (ca := c9) (nx := z_79) (fo := f9) (by omega) (by omega) (by omega) (by omega) (by omega) et
                rw [hg9] at hC
                refine r_eqi (show ((fRule (n, R, hd, 0, cs0, false, pn, pt) (nI z_39) (nI c9) (nI z_79) (nI f9)) : Int32) = (-5) from hf9) ?_
                refine lv_iload X.1 X.2.1 dL_lay_161 (lv_at hl 11 rfl) ?_
                refine lv_if_eq (tgt := 171) X.1 X.2.1 dL_lay_163 (by decide) (fun c_163 => absurd c_163 (by decide)) (fun c_163 => ?_)
                refine lv_bipush (v := (-5)) X.1 X.2.1 dL_lay_166 (by decide) ?_
                refine lv_goto (tgt := 172) X.1 X.2.1 dL_lay_168 (by decide) ?_
                refine lv_icmp_eq (tgt := 177) X.1 X.2.1 dL_lay_172 (by decide) (fun c_172 => ?_) (fun c_172 => absurd (by decide) c_172)
                refine lv_iload X.1 X.2.1 dL_lay_177 (lv_at hl 11 rfl) ?_
                refine lv_if_ne (tgt := 457) X.1 X.2.1 dL_lay_179 (by decide) (fun c_179 => ?_) (fun c_179 => absurd c_179 (by decide))
                refine lv_iinc (v := (nI (k + 1))) (lv' := [(5, .int (nI (k + 1))), (0, .ref b6), (1, .ref b9), (2, .ref ra), (3, .int (nI n)), (4, .int (nI z_11)), (6, .int (nI ((12 * k) + 1))), (7, .int (nI z_39)), (8, .int (nI c9)), (9, .int (nI z_79)), (10, .int (nI f9)), (11, .int 1), (12, .int (nI j))]) X.1 X.2.1 dL_lay_457 hl (k := 5) rfl (nI_add k 1) (by decide) rfl (fun ls hl => ?_)
                refine lv_goto (tgt := 16) X.1 X.2.1 dL_lay_460 (by decide) ?_
                exact ih n (k + 1) R g _ _ _ hW hC f_2 (by omega) (by omega) h2 ls (lv_sub hl [1, 2, 3, 4, 5, 0] rfl)
              · rw [show bI (anF (thB R (nI z_39) (nI c9)) j 0) = 0 from by rw [hjn, et]; rfl] at hl
                refine lv_aload_n X.1 X.2.1 dL_lay_149 rfl (lv_at hl 0 rfl) ?_
                refine lv_iload X.1 X.2.1 dL_lay_150 (lv_at hl 7 rfl) ?_
                refine lv_iload X.1 X.2.1 dL_lay_152 (lv_at hl 8 rfl) ?_
                refine lv_iload X.1 X.2.1 dL_lay_154 (lv_at hl 9 rfl) ?_
                refine lv_iload X.1 X.2.1 dL_lay_156 (lv_at hl 10 rfl) ?_
                refine lc_wi (z := (n, R, hd, 0, cs0, false, pn, pt)) (As := [.int (nI z_39), .int (nI c9), .int (nI z_79), .int (nI f9)]) (rest := []) X hA hW hC (fun r hp1 h => h) (fun A9 hp9 hA9 hO9 hz9 => c_X6_rule l G A9 hp9 _ hA9 hO9 b6 n R hd 0 cs0 false pn pt hz9 (nI z_39) (nI c9) (nI z_79) (nI f9)) mf_X6_rule tw_341 tw_342 tw_343 ⟨rfl, rfl, Nat.le_of_ble_eq_true rfl, Nat.le_of_ble_eq_true rfl⟩ hl.1 rfl rfl (Nat.le_of_ble_eq_true rfl) ⟨(by show _ ≤ 16; omega), (by show _ ≤ 320; omega)⟩ dL_lay_158 (fun hp_3 H locs hW hC hK => ?_)
                refine w_wid (k' := (16 - 2 * f)) (n' := (320 - 40 * f)) (by omega) (by omega) ?_
                have f_4 : hp_3 ra = some (.inl (G.2.1 1, 48, .inl g)) := (hK ra (by simp)).trans w_ra
                obtain ⟨hf9, hg9⟩ := fr_ye (n := n) (R := R) (hd := hd) (pn := pn) (pt := pt) (st := z_39) (ca := c9) (nx := z_79) (fo := f9) (by omega) (by omega) (by omega) (by omega) (by omega) et
                rw [hg9] at hC
                refine r_eqi (show ((fRule (n, R, hd, 0, cs0, false, pn, pt) (nI z_39) (nI c9) (nI z_79) (nI f9)) : Int32) = nI n from hf9) ?_
                refine lv_iload X.1 X.2.1 dL_lay_161 (lv_at hl 11 rfl) ?_
                refine lv_if_eq (tgt := 171) X.1 X.2.1 dL_lay_163 (by decide) (fun c_163 => ?_) (fun c_163 => absurd (by decide) c_163)
                refine lv_iload_n X.1 X.2.1 dL_lay_171 rfl (lv_at hl 3 rfl) ?_
                refine lv_icmp_eq (tgt := 177) X.1 X.2.1 dL_lay_172 (by decide) (fun c_172 => ?_) (fun c_172 => absurd rfl c_172)
                refine lv_iload X.1 X.2.1 dL_lay_177 (lv_at hl 11 rfl) ?_
                refine lv_if_ne (tgt := 457) X.1 X.2.1 dL_lay_179 (by decide) (fun c_179 => absurd (by decide) c_179) (fun c_179 => ?_)
                refine lv_aload_n X.1 X.2.1 dL_lay_182 rfl (lv_at hl 2 rfl) ?_
                refine lv_iload_n X.1 X.2.1 dL_lay_183 rfl (lv_at hl 3 rfl) ?_
                refine lv_iload X.1 X.2.1 dL_lay_184 (lv_at hl 7 rfl) ?_
                refine r_iast X hW f_4 (show vp_in ((nI n)) 48 from vp_in_nI (n := n) (by omega) (by decide)) dL_lay_186 (fun hp_5 H locs hW eh_6 => ?_)
                have f_7 : hp_5 ra = some (.inl (G.2.1 1, 48, .inl (upd g (nI n).toNatClampNeg (nI z_39)))) := by rw [eh_6]; exact va_up_self _ _ _
                have hC := cp_up hC eh_6 (by simp)
                refine lv_aload_n X.1 X.2.1 dL_lay_187 rfl (lv_at hl 2 rfl) ?_
                refine lv_bipush (v := 8) X.1 X.2.1 dL_lay_188 (by decide) ?_
                refine lv_iload_n X.1 X.2.1 dL_lay_190 rfl (lv_at hl 3 rfl) ?_
                refine lv_iadd X.1 X.2.1 dL_lay_191 ?_
                refine r_eqi (show (((8 : Int32) + (nI n)) : Int32) = nI (8 + n) from nI_add 8 n) ?_
                refine lv_iload X.1 X.2.1 dL_lay_192 (lv_at hl 8 rfl) ?_
                refine r_iast X hW f_7 (show vp_in ((nI (8 + n))) 48 from vp_in_nI (n := (8 + n)) (by omega) (by decide)) dL_lay_194 (fun hp_8 H locs hW eh_9 => ?_)
                have f_10 : hp_8 ra = some (.inl (G.2.1 1, 48, .inl (upd (upd g (nI n).toNatClampNeg (nI z_39)) (nI (8 + n)).toNatClampNeg (nI c9)))) := by rw [eh_9]; exact va_up_self _ _ _
                have hC := cp_up hC eh_9 (by simp)
                refine lv_aload_n X.1 X.2.1 dL_lay_195 rfl (lv_at hl 2 rfl) ?_
                refine lv_bipush (v := 32) X.1 X.2.1 dL_lay_196 (by decide) ?_
                refine lv_iload_n X.1 X.2.1 dL_lay_198 rfl (lv_at hl 3 rfl) ?_
                refine lv_iadd X.1 X.2.1 dL_lay_199 ?_
                refine r_eqi (show (((32 : Int32) + (nI n)) : Int32) = nI (32 + n) from nI_add 32 n) ?_
                refine lv_iload X.1 X.2.1 dL_lay_200 (lv_at hl 9 rfl) ?_
                refine r_iast X hW f_10 (show vp_in ((nI (32 + n))) 48 from vp_in_nI (n := (32 + n)) (by omega) (by decide)) dL_lay_202 (fun hp_11 H locs hW eh_12 => ?_)
                have f_13 : hp_11 ra = some (.inl (G.2.1 1, 48, .inl (upd (upd (upd g (nI n).toNatClampNeg (nI z_39)) (nI (8 + n)).toNatClampNeg (nI c9)) (nI (32 + n)).toNatClampNeg (nI z_79)))) := by rw [eh_12]; exact va_up_self _ _ _
                have hC := cp_up hC eh_12 (by simp)
                refine lv_aload_n X.1 X.2.1 dL_lay_203 rfl (lv_at hl 2 rfl) ?_
                refine lv_bipush (v := 40) X.1 X.2.1 dL_lay_204 (by decide) ?_
                refine lv_iload_n X.1 X.2.1 dL_lay_206 rfl (lv_at hl 3 rfl) ?_
                refine lv_iadd X.1 X.2.1 dL_lay_207 ?_
                refine r_eqi (show (((40 : Int32) + (nI n)) : Int32) = nI (40 + n) from nI_add 40 n) ?_
                refine lv_iload X.1 X.2.1 dL_lay_208 (lv_at hl 10 rfl) ?_
                refine r_iast X hW f_13 (show vp_in ((nI (40 + n))) 48 from vp_in_nI (n := (40 + n)) (by omega) (by decide)) dL_lay_210 (fun hp_14 H locs hW eh_15 => ?_)
                have f_16 : hp_14 ra = some (.inl (G.2.1 1, 48, .inl (upd (upd (upd (upd g (nI n).toNatClampNeg (nI z_39)) (nI (8 + n)).toNatClampNeg (nI c9)) (nI (32 + n)).toNatClampNeg (nI z_79)) (nI (40 + n)).toNatClampNeg (nI f9)))) := by rw [eh_15]; exact va_up_self _ _ _
                have hC := cp_up hC eh_15 (by simp)
                obtain ⟨g1, eg1⟩ : ∃ g1 : Nat → Int32, g1 = (upd (upd (upd (upd g (nI n).toNatClampNeg (nI z_39)) (nI (8 + n)).toNatClampNeg (nI c9)) (nI (32 + n)).toNatClampNeg (nI z_79)) (nI (40 + n)).toNatClampNeg (nI f9)) := ⟨_, rfl⟩
                have fg1 : hp_14 ra = some (.inl (G.2.1 1, 48, .inl g1)) := by rw [eg1]; exact f_16
                refine lv_iconst (v := 0) X.1 X.2.1 dL_lay_211 (by decide) ?_
                refine lv_istore (lv' := [(12, .int 0), (0, .ref b6), (1, .ref b9), (2, .ref ra), (3, .int (nI n)), (4, .int (nI z_11)), (5, .int (nI k)), (6, .int (nI ((12 * k) + 1))), (7, .int (nI z_39)), (8, .int (nI c9)), (9, .int (nI z_79)), (10, .int (nI f9)), (11, .int 0)]) X.1 X.2.1 dL_lay_212 hl (by decide) rfl (fun ls hl => ?_)
                refine lv_iconst (v := 0) X.1 X.2.1 dL_lay_214 (by decide) ?_
                refine lv_istore (lv' := [(13, .int 0), (12, .int 0), (0, .ref b6), (1, .ref b9), (2, .ref ra), (3, .int (nI n)), (4, .int (nI z_11)), (5, .int (nI k)), (6, .int (nI ((12 * k) + 1))), (7, .int (nI z_39)), (8, .int (nI c9)), (9, .int (nI z_79)), (10, .int (nI f9)), (11, .int 0)]) X.1 X.2.1 dL_lay_215 hl (by decide) rfl (fun ls hl => ?_)
                have L217s : ∀ (fs : Nat) (su : Nat) (R1 : Nat → Nat → Nat) (lg : Nat) (hpL : HP) (H : Heap) (locs : List Loc), WS s G A hpL H locs → CP G hpL [ra] b6 ((n + 1), R1, hd, 0, cs0, false, pn, pt) → hpL ra = some (.inl (G.2.1 1, 48, .inl g1)) → (su + fs = 4) → (QI R n (rwN z_39 c9 z_79 f9) su lg R1) → ∀ ls, lv_has ls 17 [(0, .ref b6), (1, .ref b9), (2, .ref ra), (3, .int (nI n)), (4, .int (nI z_11)), (5, .int (nI k)), (6, .int (nI ((12 * k) + 1))), (12, .int (nI lg)), (13, .int (nI su))] → W p l e ({ frames := 9, cells := 16, slots := 320, locals := 218 } : Room) s m args below meth c H locs (16 - 2 * f) (320 - 40 * f) (MQ below (va_Qi (fun r hp1 => ∃ (n : Nat) (R : Nat → Nat → Nat) (g : Nat → Int32), r = nI n ∧ CP G hp1 [ra] b6 (n, R, hd, 0, cs0, false, pn, pt) ∧ hp1 ra = some (.inl (G.2.1 1, 48, .inl g)) ∧ RG n R g) (WB G A) A) args s 16 320 A) (F0 m 217 ls []) := by
                  intro fs
                  induction fs with
                  | zero =>
                    intro su R1 lg hpL H locs hW hC ws_ra hs0 hs1 ls hl
                    have hsu : su = 4 := by omega
                    rw [hsu] at hs1
                    have hlg := qi_lt hs1 (by omega)
                    simp only [Nat.reducePow] at hlg
                    refine lv_iload X.1 X.2.1 dL_lay_217 (lv_at hl 8 rfl) ?_
                    refine lv_iconst (v := 4) X.1 X.2.1 dL_lay_219 (by decide) ?_
                    refine lv_icmp_ge (tgt := 343) X.1 X.2.1 dL_lay_220 (by decide) (fun c_220 => ?_) (fun c_220 => absurd (nI_le (a := 4) (b := su) (by omega) (by omega)) c_220)
                    refine lv_aload_n X.1 X.2.1 dL_lay_343 rfl (lv_at hl 1 rfl) ?_
                    refine lv_iload X.1 X.2.1 dL_lay_344 (lv_at hl 6 rfl) ?_
                    refine lv_bipush (v := 10) X.1 X.2.1 dL_lay_346 (by decide) ?_
                    refine lv_iadd X.1 X.2.1 dL_lay_348 ?_
                    refine r_eqi (show (((nI ((12 * k) + 1)) + 10) : Int32) = nI (((12 * k) + 1) + 10) from nI_add ((12 * k) + 1) 10) ?_
                    refine lv_iconst (v := 2) X.1 X.2.1 dL_lay_349 (by decide) ?_
                    refine on_Si (run_S (As := [.ref b9, .int (nI (((12 * k) + 1) + 10)), .int 2]) (rest := []) X (c_L_cell l G hpL b9 L xs hL (((12 * k) + 1) + 10) 2 (by omega) (by omega) (by omega)) (rx_blind _) (rx_at X hW.1 hW.2.2 hX hXl hXA) mf_L_cell tw_331 tw_332 ⟨rfl, rfl, Nat.le_of_ble_eq_true rfl, Nat.le_of_ble_eq_true rfl⟩ hl.1 rfl rfl (Nat.le_of_ble_eq_true rfl) ⟨(by show _ ≤ 16; omega), (by show _ ≤ 320; omega)⟩ dL_lay_350) (fun r_350 q_350 => ?_)
                    obtain rfl : r_350 = (nI (ceF L xs (((12 * k) + 1) + 10) 2)) := q_350
                    refine lv_if_ne (tgt := 360) X.1 X.2.1 dL_lay_353 (by decide) (fun c_353 => ?_) (fun c_353 => ?_)
                    · refine lv_iconst (v := 0) X.1 X.2.1 dL_lay_360 (by decide) ?_
                      refine lv_istore (lv' := [(13, .int 0), (0, .ref b6), (1, .ref b9), (2, .ref ra), (3, .int (nI n)), (4, .int (nI z_11)), (5, .int (nI k)), (6, .int (nI ((12 * k) + 1))), (12, .int (nI lg))]) X.1 X.2.1 dL_lay_361 hl (by decide) rfl (fun ls hl => ?_)
                      refine lv_iload X.1 X.2.1 dL_lay_363 (lv_at hl 0 rfl) ?_
                      refine lv_if_eq (tgt := 384) X.1 X.2.1 dL_lay_365 (by decide) (fun c_365 => ?_) (fun c_365 => absurd (by decide) c_365)
                      refine lv_iconst (v := 0) X.1 X.2.1 dL_lay_384 (by decide) ?_
                      refine lv_istore (lv' := [(14, .int 0), (13, .int 0), (0, .ref b6), (1, .ref b9), (2, .ref ra), (3, .int (nI n)), (4, .int (nI z_11)), (5, .int (nI k)), (6, .int (nI ((12 * k) + 1))), (12, .int (nI lg))]) X.1 X.2.1 dL_lay_385 hl (by decide) rfl (fun ls hl => ?_)
                      refine lv_iload X.1 X.2.1 dL_lay_387 (lv_at hl 1 rfl) ?_
                      refine lv_if_eq (tgt := 409) X.1 X.2.1 dL_lay_389 (by decide) (fun c_389 => ?_) (fun c_389 => absurd (by decide) c_389)
                      refine lv_bipush (v := 20) X.1 X.2.1 dL_lay_409 (by decide) ?_
                      refine lv_istore (lv' := [(15, .int 20), (14, .int 0), (13, .int 0), (0, .ref b6), (1, .ref b9), (2, .ref ra), (3, .int (nI n)), (4, .int (nI z_11)), (5, .int (nI k)), (6, .int (nI ((12 * k) + 1))), (12, .int (nI lg))]) X.1 X.2.1 dL_lay_411 hl (by decide) rfl (fun ls hl => ?_)
                      refine lv_iload X.1 X.2.1 dL_lay_413 (lv_at hl 2 rfl) ?_
                      refine lv_if_eq (tgt := 433) X.1 X.2.1 dL_lay_415 (by decide) (fun c_415 => ?_) (fun c_415 => absurd (by decide) c_415)
                      refine lv_aload_n X.1 X.2.1 dL_lay_433 rfl (lv_at hl 5 rfl) ?_
                      refine lv_bipush (v := 16) X.1 X.2.1 dL_lay_434 (by decide) ?_
                      refine lv_iload_n X.1 X.2.1 dL_lay_436 rfl (lv_at hl 6 rfl) ?_
                      refine lv_iadd X.1 X.2.1 dL_lay_437 ?_
                      refine r_eqi (show (((16 : Int32) + (nI n)) : Int32) = nI (16 + n) from nI_add 16 n) ?_
                      refine lv_iload X.1 X.2.1 dL_lay_438 (lv_at hl 10 rfl) ?_
                      refine r_iast X hW ws_ra (show vp_in ((nI (16 + n))) 48 from vp_in_nI (n := (16 + n)) (by omega) (by decide)) dL_lay_440 (fun hp_17 H locs hW eh_18 => ?_)
                      have f_19 : hp_17 ra = some (.inl (G.2.1 1, 48, .inl (upd g1 (nI (16 + n)).toNatClampNeg (nI lg)))) := by rw [eh_18]; exact va_up_self _ _ _
                      have hC := cp_up hC eh_18 (by simp)
                      refine lv_aload_n X.1 X.2.1 dL_lay_441 rfl (lv_at hl 5 rfl) ?_
                      refine lv_bipush (v := 24) X.1 X.2.1 dL_lay_442 (by decide) ?_
                      refine lv_iload_n X.1 X.2.1 dL_lay_444 rfl (lv_at hl 6 rfl) ?_
                      refine lv_iadd X.1 X.2.1 dL_lay_445 ?_
                      refine r_eqi (show (((24 : Int32) + (nI n)) : Int32) = nI (24 + n) from nI_add 24 n) ?_
                      refine lv_iload X.1 X.2.1 dL_lay_446 (lv_at hl 1 rfl) ?_
                      refine lv_iload X.1 X.2.1 dL_lay_448 (lv_at hl 0 rfl) ?_
                      refine lv_iconst (v := 5) X.1 X.2.1 dL_lay_450 (by decide) ?_
                      refine lv_ishl X.1 X.2.1 dL_lay_451 ?_
                      refine r_eqi (show (((20 : Int32) <<< (5 &&& 31)) : Int32) = 640 from (by decide)) ?_
                      refine lv_ior X.1 X.2.1 dL_lay_452 ?_
                      refine r_eqi (show (((0 : Int32) ||| 640) : Int32) = 640 from (by decide)) ?_
                      refine r_iast X hW f_19 (show vp_in ((nI (24 + n))) 48 from vp_in_nI (n := (24 + n)) (by omega) (by decide)) dL_lay_453 (fun hp_20 H locs hW eh_21 => ?_)
                      have f_22 : hp_20 ra = some (.inl (G.2.1 1, 48, .inl (upd (upd g1 (nI (16 + n)).toNatClampNeg (nI lg)) (nI (24 + n)).toNatClampNeg 640))) := by rw [eh_21]; exact va_up_self _ _ _
                      have hC := cp_up hC eh_21 (by simp)
                      refine lv_iinc (v := (nI (n + 1))) (lv' := [(3, .int (nI (n + 1))), (15, .int 20), (14, .int 0), (13, .int 0), (0, .ref b6), (1, .ref b9), (2, .ref ra), (4, .int (nI z_11)), (5, .int (nI k)), (6, .int (nI ((12 * k) + 1))), (12, .int (nI lg))]) X.1 X.2.1 dL_lay_454 hl (k := 6) rfl (nI_add n 1) (by decide) rfl (fun ls hl => ?_)
                      refine lv_iinc (v := (nI (k + 1))) (lv' := [(5, .int (nI (k + 1))), (3, .int (nI (n + 1))), (15, .int 20), (14, .int 0), (13, .int 0), (0, .ref b6), (1, .ref b9), (2, .ref ra), (4, .int (nI z_11)), (6, .int (nI ((12 * k) + 1))), (12, .int (nI lg))]) X.1 X.2.1 dL_lay_457 hl (k := 8) rfl (nI_add k 1) (by decide) rfl (fun ls hl => ?_)
                      refine lv_goto (tgt := 16) X.1 X.2.1 dL_lay_460 (by decide) ?_
                      exact ih (n + 1) (k + 1) R1 (upd (upd g1 (nI (16 + n)).toNatClampNeg (nI lg)) (nI (24 + n)).toNatClampNeg 640) _ _ _ hW hC f_22 (by omega) (by omega) (rg_nol h2 (by omega) hs1 (by omega) (by omega) (by omega) (by omega) eg1) ls (lv_sub hl [5, 6, 7, 1, 8, 0] rfl)
                    · refine lv_iconst (v := 1) X.1 X.2.1 dL_lay_356 (by decide) ?_
                      refine lv_goto (tgt := 361) X.1 X.2.1 dL_lay_357 (by decide) ?_
                      refine lv_istore (lv' := [(13, .int 1), (0, .ref b6), (1, .ref b9), (2, .ref ra), (3, .int (nI n)), (4, .int (nI z_11)), (5, .int (nI k)), (6, .int (nI ((12 * k) + 1))), (12, .int (nI lg))]) X.1 X.2.1 dL_lay_361 hl (by decide) rfl (fun ls hl => ?_)
                      refine lv_iload X.1 X.2.1 dL_lay_363 (lv_at hl 0 rfl) ?_
                      refine lv_if_eq (tgt := 384) X.1 X.2.1 dL_lay_365 (by decide) (fun c_365 => absurd c_365 (by decide)) (fun c_365 => ?_)
                      refine lv_iconst (v := 3) X.1 X.2.1 dL_lay_368 (by decide) ?_
                      refine lv_aload_n X.1 X.2.1 dL_lay_369 rfl (lv_at hl 2 rfl) ?_
                      refine lv_iload X.1 X.2.1 dL_lay_370 (lv_at hl 7 rfl) ?_
                      refine lv_bipush (v := 11) X.1 X.2.1 dL_lay_372 (by decide) ?_
                      refine lv_iadd X.1 X.2.1 dL_lay_374 ?_
                      refine r_eqi (show (((nI ((12 * k) + 1)) + 11) : Int32) = nI (((12 * k) + 1) + 11) from nI_add ((12 * k) + 1) 11) ?_
                      refine lv_bipush (v := 8) X.1 X.2.1 dL_lay_375 (by decide) ?_
                      refine on_Si (run_S (As := [.ref b9, .int (nI (((12 * k) + 1) + 11)), .int 8]) (rest := [.int 3]) X (c_L_cell l G hpL b9 L xs hL (((12 * k) + 1) + 11) 8 (by omega) (by decide) (by decide)) (rx_blind _) (rx_at X hW.1 hW.2.2 hX hXl hXA) mf_L_cell tw_331 tw_332 ⟨rfl, rfl, Nat.le_of_ble_eq_true rfl, Nat.le_of_ble_eq_true rfl⟩ hl.1 rfl rfl (Nat.le_of_ble_eq_true rfl) ⟨(by show _ ≤ 16; omega), (by show _ ≤ 320; omega)⟩ dL_lay_377) (fun r_377 q_377 => ?_)
                      obtain rfl : r_377 = (nI (ceF L xs (((12 * k) + 1) + 11) 8)) := q_377
                      refine lv_iadd X.1 X.2.1 dL_lay_380 ?_
                      refine r_eqi (show (((3 : Int32) + (nI (ceF L xs (((12 * k) + 1) + 11) 8))) : Int32) = nI (3 + (ceF L xs (((12 * k) + 1) + 11) 8)) from nI_add 3 (ceF L xs (((12 * k) + 1) + 11) 8)) ?_
                      refine lv_goto (tgt := 385) X.1 X.2.1 dL_lay_381 (by decide) ?_
                      obtain ⟨z_385, ez_385⟩ : ∃ z : Nat, z = (3 + (ceF L xs (((12 * k) + 1) + 11) 8)) := ⟨_, rfl⟩
                      refine r_eqi (show nI (3 + (ceF L xs (((12 * k) + 1) + 11) 8)) = nI z_385 from by rw [ez_385]) ?_
                      have lz_385 : 3 ≤ z_385 ∧ z_385 ≤ 10 := by have := ceF_lt L xs (((12 * k) + 1) + 11) (n := 8) (by decide); omega
                      refine lv_istore (lv' := [(14, .int (nI z_385)), (13, .int 1), (0, .ref b6), (1, .ref b9), (2, .ref ra), (3, .int (nI n)), (4, .int (nI z_11)), (5, .int (nI k)), (6, .int (nI ((12 * k) + 1))), (12, .int (nI lg))]) X.1 X.2.1 dL_lay_385 hl (by decide) rfl (fun ls hl => ?_)
                      refine lv_iload X.1 X.2.1 dL_lay_387 (lv_at hl 1 rfl) ?_
                      refine lv_if_eq (tgt := 409) X.1 X.2.1 dL_lay_389 (by decide) (fun c_389 => absurd c_389 (by decide)) (fun c_389 => ?_)
                      refine lv_iload X.1 X.2.1 dL_lay_392 (lv_at hl 0 rfl) ?_
                      refine lv_aload_n X.1 X.2.1 dL_lay_394 rfl (lv_at hl 3 rfl) ?_
                      refine lv_iload X.1 X.2.1 dL_lay_395 (lv_at hl 8 rfl) ?_
                      refine lv_bipush (v := 12) X.1 X.2.1 dL_lay_397 (by decide) ?_
                      refine lv_iadd X.1 X.2.1 dL_lay_399 ?_
                      refine r_eqi (show (((nI ((12 * k) + 1)) + 12) : Int32) = nI (((12 * k) + 1) + 12) from nI_add ((12 * k) + 1) 12) ?_
                      refine lv_bipush (v := 9) X.1 X.2.1 dL_lay_400 (by decide) ?_
                      refine on_Si (run_S (As := [.ref b9, .int (nI (((12 * k) + 1) + 12)), .int 9]) (rest := [.int (nI z_385)]) X (c_L_cell l G hpL b9 L xs hL (((12 * k) + 1) + 12) 9 (by omega) (by decide) (by decide)) (rx_blind _) (rx_at X hW.1 hW.2.2 hX hXl hXA) mf_L_cell tw_331 tw_332 ⟨rfl, rfl, Nat.le_of_ble_eq_true rfl, Nat.le_of_ble_eq_true rfl⟩ hl.1 rfl rfl (Nat.le_of_ble_eq_true rfl) ⟨(by show _ ≤ 16; omega), (by show _ ≤ 320; omega)⟩ dL_lay_402) (fun r_402 q_402 => ?_)
                      obtain rfl : r_402 = (nI (ceF L xs (((12 * k) + 1) + 12) 9)) := q_402
                      refine lv_iadd X.1 X.2.1 dL_lay_405 ?_
                      refine r_eqi (show (((nI z_385) + (nI (ceF L xs (((12 * k) + 1) + 12) 9))) : Int32) = nI (z_385 + (ceF L xs (((12 * k) + 1) + 12) 9)) from nI_add z_385 (ceF L xs (((12 * k) + 1) + 12) 9)) ?_
                      refine lv_goto (tgt := 411) X.1 X.2.1 dL_lay_406 (by decide) ?_
                      obtain ⟨z_411, ez_411⟩ : ∃ z : Nat, z = (z_385 + (ceF L xs (((12 * k) + 1) + 12) 9)) := ⟨_, rfl⟩
                      refine r_eqi (show nI (z_385 + (ceF L xs (((12 * k) + 1) + 12) 9)) = nI z_411 from by rw [ez_411]) ?_
                      have lz_411 : z_385 ≤ z_411 ∧ z_411 ≤ 18 := by have := ceF_lt L xs (((12 * k) + 1) + 12) (n := 9) (by decide); omega
                      refine lv_istore (lv' := [(15, .int (nI z_411)), (14, .int (nI z_385)), (13, .int 1), (0, .ref b6), (1, .ref b9), (2, .ref ra), (3, .int (nI n)), (4, .int (nI z_11)), (5, .int (nI k)), (6, .int (nI ((12 * k) + 1))), (12, .int (nI lg))]) X.1 X.2.1 dL_lay_411 hl (by decide) rfl (fun ls hl => ?_)
                      refine lv_iload X.1 X.2.1 dL_lay_413 (lv_at hl 2 rfl) ?_
                      refine lv_if_eq (tgt := 433) X.1 X.2.1 dL_lay_415 (by decide) (fun c_415 => absurd c_415 (by decide)) (fun c_415 => ?_)
                      refine lv_aload_n X.1 X.2.1 dL_lay_418 rfl (lv_at hl 3 rfl) ?_
                      refine lv_iload_n X.1 X.2.1 dL_lay_419 rfl (lv_at hl 6 rfl) ?_
                      refine lv_iconst (v := 4) X.1 X.2.1 dL_lay_420 (by decide) ?_
                      refine lv_iload X.1 X.2.1 dL_lay_421 (lv_at hl 1 rfl) ?_
                      refine lv_iload X.1 X.2.1 dL_lay_423 (lv_at hl 0 rfl) ?_
                      refine lc_wi (z := ((n + 1), R1, hd, 0, cs0, false, pn, pt)) (As := [.int (nI n), .int 4, .int (nI z_385), .int (nI z_411)]) (rest := []) X hA hW hC (fun r hp1 h => h) (fun A9 hp9 hA9 hO9 hz9 => c_X6_limit l G A9 hp9 _ hA9 hO9 b6 (n + 1) R1 hd 0 cs0 false pn pt hz9 (nI n) (4 : Int32) (nI z_385) (nI z_411)) mf_X6_limit tw_436 tw_437 tw_438 ⟨rfl, rfl, Nat.le_of_ble_eq_true rfl, Nat.le_of_ble_eq_true rfl⟩ hl.1 rfl rfl (Nat.le_of_ble_eq_true rfl) ⟨(by show _ ≤ 16; omega), (by show _ ≤ 320; omega)⟩ dL_lay_425 (fun hp_23 H locs hW hC hK => ?_)
                      refine w_wid (k' := (16 - 2 * f)) (n' := (320 - 40 * f)) (by omega) (by omega) ?_
                      have f_24 : hp_23 ra = some (.inl (G.2.1 1, 48, .inl g1)) := (hK ra (by simp)).trans ws_ra
                      obtain ⟨hf8, hg8⟩ := fl_v (n := n + 1) (R := R1) (hd := hd) (pn := pn) (pt := pt) (r := n) (w := 4) (lo := z_385) (hi := z_411) (by omega) (by omega) (by omega) (by show _ ≤ (20 : Int); omega) (by omega) (by omega)
                      replace hC : CP G hp_23 [ra] b6 (gLimit ((n + 1), R1, hd, 0, cs0, false, pn, pt) (nI n) (nI 4) (nI z_385) (nI z_411)) := hC
                      rw [hg8] at hC
                      refine lv_if_ge (tgt := 433) X.1 X.2.1 dL_lay_428 (by decide) (fun c_428 => ?_) (fun c_428 => absurd hf8 c_428)
                      refine lv_aload_n X.1 X.2.1 dL_lay_433 rfl (lv_at hl 5 rfl) ?_
                      refine lv_bipush (v := 16) X.1 X.2.1 dL_lay_434 (by decide) ?_
                      refine lv_iload_n X.1 X.2.1 dL_lay_436 rfl (lv_at hl 6 rfl) ?_
                      refine lv_iadd X.1 X.2.1 dL_lay_437 ?_
                      refine r_eqi (show (((16 : Int32) + (nI n)) : Int32) = nI (16 + n) from nI_add 16 n) ?_
                      refine lv_iload X.1 X.2.1 dL_lay_438 (lv_at hl 10 rfl) ?_
                      refine r_iast X hW f_24 (show vp_in ((nI (16 + n))) 48 from vp_in_nI (n := (16 + n)) (by omega) (by decide)) dL_lay_440 (fun hp_25 H locs hW eh_26 => ?_)
                      have f_27 : hp_25 ra = some (.inl (G.2.1 1, 48, .inl (upd g1 (nI (16 + n)).toNatClampNeg (nI lg)))) := by rw [eh_26]; exact va_up_self _ _ _
                      have hC := cp_up hC eh_26 (by simp)
                      refine lv_aload_n X.1 X.2.1 dL_lay_441 rfl (lv_at hl 5 rfl) ?_
                      refine lv_bipush (v := 24) X.1 X.2.1 dL_lay_442 (by decide) ?_
                      refine lv_iload_n X.1 X.2.1 dL_lay_444 rfl (lv_at hl 6 rfl) ?_
                      refine lv_iadd X.1 X.2.1 dL_lay_445 ?_
                      refine r_eqi (show (((24 : Int32) + (nI n)) : Int32) = nI (24 + n) from nI_add 24 n) ?_
                      refine lv_iload X.1 X.2.1 dL_lay_446 (lv_at hl 1 rfl) ?_
                      refine lv_iload X.1 X.2.1 dL_lay_448 (lv_at hl 0 rfl) ?_
                      refine lv_iconst (v := 5) X.1 X.2.1 dL_lay_450 (by decide) ?_
                      refine lv_ishl X.1 X.2.1 dL_lay_451 ?_
                      refine r_eqi (show (((nI z_411) <<< (5 &&& 31)) : Int32) = nI (z_411 * 32) from pk_shlN (n := z_411) _ 5 (by decide) (by omega)) ?_
                      refine lv_ior X.1 X.2.1 dL_lay_452 ?_
                      refine r_eqi (show (((nI z_385) ||| (nI (z_411 * 32))) : Int32) = nI (z_385 + 32 * z_411) from or_n 5 (by omega) rfl) ?_
                      refine r_iast X hW f_27 (show vp_in ((nI (24 + n))) 48 from vp_in_nI (n := (24 + n)) (by omega) (by decide)) dL_lay_453 (fun hp_28 H locs hW eh_29 => ?_)
                      have f_30 : hp_28 ra = some (.inl (G.2.1 1, 48, .inl (upd (upd g1 (nI (16 + n)).toNatClampNeg (nI lg)) (nI (24 + n)).toNatClampNeg (nI (z_385 + 32 * z_411))))) := by rw [eh_29]; exact va_up_self _ _ _
                      have hC := cp_up hC eh_29 (by simp)
                      refine lv_iinc (v := (nI (n + 1))) (lv' := [(3, .int (nI (n + 1))), (15, .int (nI z_411)), (14, .int (nI z_385)), (13, .int 1), (0, .ref b6), (1, .ref b9), (2, .ref ra), (4, .int (nI z_11)), (5, .int (nI k)), (6, .int (nI ((12 * k) + 1))), (12, .int (nI lg))]) X.1 X.2.1 dL_lay_454 hl (k := 6) rfl (nI_add n 1) (by decide) rfl (fun ls hl => ?_)
                      refine lv_iinc (v := (nI (k + 1))) (lv' := [(5, .int (nI (k + 1))), (3, .int (nI (n + 1))), (15, .int (nI z_411)), (14, .int (nI z_385)), (13, .int 1), (0, .ref b6), (1, .ref b9), (2, .ref ra), (4, .int (nI z_11)), (6, .int (nI ((12 * k) + 1))), (12, .int (nI lg))]) X.1 X.2.1 dL_lay_457 hl (k := 8) rfl (nI_add k 1) (by decide) rfl (fun ls hl => ?_)
                      refine lv_goto (tgt := 16) X.1 X.2.1 dL_lay_460 (by decide) ?_
                      exact ih (n + 1) (k + 1) (lmR R1 n 4 z_385 z_411) (upd (upd g1 (nI (16 + n)).toNatClampNeg (nI lg)) (nI (24 + n)).toNatClampNeg (nI (z_385 + 32 * z_411))) _ _ _ hW hC f_30 (by omega) (by omega) (rg_lim h2 (by omega) hs1 (by omega) (by omega) (by omega) (by omega) (by omega) (by omega) eg1) ls (lv_sub hl [5, 6, 7, 1, 8, 0] rfl)
                  | succ fs ihs =>
                    intro su R1 lg hpL H locs hW hC ws_ra hs0 hs1 ls hl
                    have hsu : su < 4 := by omega
                    have hlg := qi_lt hs1 (by omega)
                    refine lv_iload X.1 X.2.1 dL_lay_217 (lv_at hl 8 rfl) ?_
                    refine lv_iconst (v := 4) X.1 X.2.1 dL_lay_219 (by decide) ?_
                    refine lv_icmp_ge (tgt := 343) X.1 X.2.1 dL_lay_220 (by decide) (fun c_220 => absurd c_220 (nI_ge (a := su) (b := 4) (by omega) (by decide))) (fun c_220 => ?_)
                    refine lv_aload_n X.1 X.2.1 dL_lay_223 rfl (lv_at hl 1 rfl) ?_
                    refine lv_iload X.1 X.2.1 dL_lay_224 (lv_at hl 6 rfl) ?_
                    refine lv_iconst (v := 5) X.1 X.2.1 dL_lay_226 (by decide) ?_
                    refine lv_iadd X.1 X.2.1 dL_lay_227 ?_
                    refine r_eqi (show (((nI ((12 * k) + 1)) + 5) : Int32) = nI (((12 * k) + 1) + 5) from nI_add ((12 * k) + 1) 5) ?_
                    refine lv_iload X.1 X.2.1 dL_lay_228 (lv_at hl 8 rfl) ?_
                    refine lv_iadd X.1 X.2.1 dL_lay_230 ?_
                    refine r_eqi (show (((nI (((12 * k) + 1) + 5)) + (nI su)) : Int32) = nI ((((12 * k) + 1) + 5) + su) from nI_add (((12 * k) + 1) + 5) su) ?_
                    refine lv_iconst (v := 3) X.1 X.2.1 dL_lay_231 (by decide) ?_
                    refine on_Si (run_S (As := [.ref b9, .int (nI ((((12 * k) + 1) + 5) + su)), .int 3]) (rest := []) X (c_L_cell l G hpL b9 L xs hL ((((12 * k) + 1) + 5) + su) 3 (by omega) (by decide) (by decide)) (rx_blind _) (rx_at X hW.1 hW.2.2 hX hXl hXA) mf_L_cell tw_331 tw_332 ⟨rfl, rfl, Nat.le_of_ble_eq_true rfl, Nat.le_of_ble_eq_true rfl⟩ hl.1 rfl rfl (Nat.le_of_ble_eq_true rfl) ⟨(by show _ ≤ 16; omega), (by show _ ≤ 320; omega)⟩ dL_lay_232) (fun r_232 q_232 => ?_)
                    obtain rfl : r_232 = (nI (ceF L xs ((((12 * k) + 1) + 5) + su) 3)) := q_232
                    refine lv_if_ne (tgt := 242) X.1 X.2.1 dL_lay_235 (by decide) (fun c_235 => ?_) (fun c_235 => ?_)
                    · refine lv_iconst (v := 0) X.1 X.2.1 dL_lay_242 (by decide) ?_
                      refine lv_istore (lv' := [(14, .int 0), (0, .ref b6), (1, .ref b9), (2, .ref ra), (3, .int (nI n)), (4, .int (nI z_11)), (5, .int (nI k)), (6, .int (nI ((12 * k) + 1))), (12, .int (nI lg)), (13, .int (nI su))]) X.1 X.2.1 dL_lay_243 hl (by decide) rfl (fun ls hl => ?_)
                      refine lv_iload X.1 X.2.1 dL_lay_245 (lv_at hl 0 rfl) ?_
                      refine lv_if_eq (tgt := 266) X.1 X.2.1 dL_lay_247 (by decide) (fun c_247 => ?_) (fun c_247 => absurd (by decide) c_247)
                      refine lv_iconst (v := 0) X.1 X.2.1 dL_lay_266 (by decide) ?_
                      refine lv_istore (lv' := [(15, .int 0), (14, .int 0), (0, .ref b6), (1, .ref b9), (2, .ref ra), (3, .int (nI n)), (4, .int (nI z_11)), (5, .int (nI k)), (6, .int (nI ((12 * k) + 1))), (12, .int (nI lg)), (13, .int (nI su))]) X.1 X.2.1 dL_lay_267 hl (by decide) rfl (fun ls hl => ?_)
                      refine lv_iload X.1 X.2.1 dL_lay_269 (lv_at hl 1 rfl) ?_
                      refine lv_if_eq (tgt := 295) X.1 X.2.1 dL_lay_271 (by decide) (fun c_271 => ?_) (fun c_271 => absurd (by decide) c_271)
                      refine lv_iconst (v := 5) X.1 X.2.1 dL_lay_295 (by decide) ?_
                      refine lv_istore (lv' := [(16, .int 5), (15, .int 0), (14, .int 0), (0, .ref b6), (1, .ref b9), (2, .ref ra), (3, .int (nI n)), (4, .int (nI z_11)), (5, .int (nI k)), (6, .int (nI ((12 * k) + 1))), (12, .int (nI lg)), (13, .int (nI su))]) X.1 X.2.1 dL_lay_296 hl (by decide) rfl (fun ls hl => ?_)
                      refine lv_iload X.1 X.2.1 dL_lay_298 (lv_at hl 10 rfl) ?_
                      refine lv_iload X.1 X.2.1 dL_lay_300 (lv_at hl 1 rfl) ?_
                      refine lv_iload X.1 X.2.1 dL_lay_302 (lv_at hl 0 rfl) ?_
                      refine lv_iconst (v := 3) X.1 X.2.1 dL_lay_304 (by decide) ?_
                      refine lv_ishl X.1 X.2.1 dL_lay_305 ?_
                      refine r_eqi (show (((5 : Int32) <<< (3 &&& 31)) : Int32) = 40 from (by decide)) ?_
                      refine lv_ior X.1 X.2.1 dL_lay_306 ?_
                      refine r_eqi (show (((0 : Int32) ||| 40) : Int32) = 40 from (by decide)) ?_
                      refine lv_bipush (v := 6) X.1 X.2.1 dL_lay_307 (by decide) ?_
                      refine lv_iload X.1 X.2.1 dL_lay_309 (lv_at hl 11 rfl) ?_
                      refine lv_imul X.1 X.2.1 dL_lay_311 ?_
                      refine r_eqi (show (((6 : Int32) * (nI su)) : Int32) = nI (6 * su) from pk_mul 6 su) ?_
                      refine lv_ishl X.1 X.2.1 dL_lay_312 ?_
                      refine r_eqi (show ((40 <<< ((nI (6 * su)) &&& 31)) : Int32) = nI (40 * 64 ^ su) from sh_su (v := 40) (by omega) hsu) ?_
                      refine lv_ior X.1 X.2.1 dL_lay_313 ?_
                      refine r_eqi (show (((nI lg) ||| (nI (40 * 64 ^ su))) : Int32) = nI (lg + 40 * 64 ^ su) from or_su (v := 40) hlg) ?_
                      refine lv_istore (lv' := [(12, .int (nI (lg + 40 * 64 ^ su))), (16, .int 5), (15, .int 0), (14, .int 0), (0, .ref b6), (1, .ref b9), (2, .ref ra), (3, .int (nI n)), (4, .int (nI z_11)), (5, .int (nI k)), (6, .int (nI ((12 * k) + 1))), (13, .int (nI su))]) X.1 X.2.1 dL_lay_314 hl (by decide) rfl (fun ls hl => ?_)
                      refine lv_iload X.1 X.2.1 dL_lay_316 (lv_at hl 3 rfl) ?_
                      refine lv_if_eq (tgt := 337) X.1 X.2.1 dL_lay_318 (by decide) (fun c_318 => ?_) (fun c_318 => absurd (by decide) c_318)
                      refine lv_iinc (v := (nI (su + 1))) (lv' := [(13, .int (nI (su + 1))), (12, .int (nI (lg + 40 * 64 ^ su))), (16, .int 5), (15, .int 0), (14, .int 0), (0, .ref b6), (1, .ref b9), (2, .ref ra), (3, .int (nI n)), (4, .int (nI z_11)), (5, .int (nI k)), (6, .int (nI ((12 * k) + 1)))]) X.1 X.2.1 dL_lay_337 hl (k := 11) rfl (nI_add su 1) (by decide) rfl (fun ls hl => ?_)
                      refine lv_goto (tgt := 217) X.1 X.2.1 dL_lay_340 (by decide) ?_
                      exact ihs (su + 1) R1 (lg + 40 * 64 ^ su) _ _ _ hW hC ws_ra (by omega) (qi_same hs1 (by omega)) ls (lv_sub hl [5, 6, 7, 8, 9, 10, 11, 1, 0] rfl)
                    · refine lv_iconst (v := 1) X.1 X.2.1 dL_lay_238 (by decide) ?_
                      refine lv_goto (tgt := 243) X.1 X.2.1 dL_lay_239 (by decide) ?_
                      refine lv_istore (lv' := [(14, .int 1), (0, .ref b6), (1, .ref b9), (2, .ref ra), (3, .int (nI n)), (4, .int (nI z_11)), (5, .int (nI k)), (6, .int (nI ((12 * k) + 1))), (12, .int (nI lg)), (13, .int (nI su))]) X.1 X.2.1 dL_lay_243 hl (by decide) rfl (fun ls hl => ?_)
                      refine lv_iload X.1 X.2.1 dL_lay_245 (lv_at hl 0 rfl) ?_
                      refine lv_if_eq (tgt := 266) X.1 X.2.1 dL_lay_247 (by decide) (fun c_247 => absurd c_247 (by decide)) (fun c_247 => ?_)
                      refine lv_aload_n X.1 X.2.1 dL_lay_250 rfl (lv_at hl 2 rfl) ?_
                      refine lv_iload X.1 X.2.1 dL_lay_251 (lv_at hl 7 rfl) ?_
                      refine lv_bipush (v := 6) X.1 X.2.1 dL_lay_253 (by decide) ?_
                      refine lv_iadd X.1 X.2.1 dL_lay_255 ?_
                      refine r_eqi (show (((nI ((12 * k) + 1)) + 6) : Int32) = nI (((12 * k) + 1) + 6) from nI_add ((12 * k) + 1) 6) ?_
                      refine lv_iload X.1 X.2.1 dL_lay_256 (lv_at hl 9 rfl) ?_
                      refine lv_iadd X.1 X.2.1 dL_lay_258 ?_
                      refine r_eqi (show (((nI (((12 * k) + 1) + 6)) + (nI su)) : Int32) = nI ((((12 * k) + 1) + 6) + su) from nI_add (((12 * k) + 1) + 6) su) ?_
                      refine lv_iconst (v := 3) X.1 X.2.1 dL_lay_259 (by decide) ?_
                      refine on_Si (run_S (As := [.ref b9, .int (nI ((((12 * k) + 1) + 6) + su)), .int 3]) (rest := []) X (c_L_cell l G hpL b9 L xs hL ((((12 * k) + 1) + 6) + su) 3 (by omega) (by decide) (by decide)) (rx_blind _) (rx_at X hW.1 hW.2.2 hX hXl hXA) mf_L_cell tw_331 tw_332 ⟨rfl, rfl, Nat.le_of_ble_eq_true rfl, Nat.le_of_ble_eq_true rfl⟩ hl.1 rfl rfl (Nat.le_of_ble_eq_true rfl) ⟨(by show _ ≤ 16; omega), (by show _ ≤ 320; omega)⟩ dL_lay_260) (fun r_260 q_260 => ?_)
                      obtain rfl : r_260 = (nI (ceF L xs ((((12 * k) + 1) + 6) + su) 3)) := q_260
                      refine lv_goto (tgt := 267) X.1 X.2.1 dL_lay_263 (by decide) ?_
                      obtain ⟨z_267, ez_267⟩ : ∃ z : Nat, z = (ceF L xs ((((12 * k) + 1) + 6) + su) 3) := ⟨_, rfl⟩
                      refine r_eqi (show nI (ceF L xs ((((12 * k) + 1) + 6) + su) 3) = nI z_267 from by rw [ez_267]) ?_
                      have lz_267 : z_267 < 3 := by rw [ez_267]; exact ceF_lt _ _ _ (by decide)
                      refine lv_istore (lv' := [(15, .int (nI z_267)), (14, .int 1), (0, .ref b6), (1, .ref b9), (2, .ref ra), (3, .int (nI n)), (4, .int (nI z_11)), (5, .int (nI k)), (6, .int (nI ((12 * k) + 1))), (12, .int (nI lg)), (13, .int (nI su))]) X.1 X.2.1 dL_lay_267 hl (by decide) rfl (fun ls hl => ?_)
                      refine lv_iload X.1 X.2.1 dL_lay_269 (lv_at hl 1 rfl) ?_
                      refine lv_if_eq (tgt := 295) X.1 X.2.1 dL_lay_271 (by decide) (fun c_271 => absurd c_271 (by decide)) (fun c_271 => ?_)
                      refine lv_iload X.1 X.2.1 dL_lay_274 (lv_at hl 0 rfl) ?_
                      refine lv_iconst (v := 1) X.1 X.2.1 dL_lay_276 (by decide) ?_
                      refine lv_iadd X.1 X.2.1 dL_lay_277 ?_
                      refine r_eqi (show (((nI z_267) + 1) : Int32) = nI (z_267 + 1) from nI_add z_267 1) ?_
                      refine lv_aload_n X.1 X.2.1 dL_lay_278 rfl (lv_at hl 3 rfl) ?_
                      refine lv_iload X.1 X.2.1 dL_lay_279 (lv_at hl 8 rfl) ?_
                      refine lv_bipush (v := 7) X.1 X.2.1 dL_lay_281 (by decide) ?_
                      refine lv_iadd X.1 X.2.1 dL_lay_283 ?_
                      refine r_eqi (show (((nI ((12 * k) + 1)) + 7) : Int32) = nI (((12 * k) + 1) + 7) from nI_add ((12 * k) + 1) 7) ?_
                      refine lv_iload X.1 X.2.1 dL_lay_284 (lv_at hl 10 rfl) ?_
                      refine lv_iadd X.1 X.2.1 dL_lay_286 ?_
                      refine r_eqi (show (((nI (((12 * k) + 1) + 7)) + (nI su)) : Int32) = nI ((((12 * k) + 1) + 7) + su) from nI_add (((12 * k) + 1) + 7) su) ?_
                      refine lv_iconst (v := 3) X.1 X.2.1 dL_lay_287 (by decide) ?_
                      refine on_Si (run_S (As := [.ref b9, .int (nI ((((12 * k) + 1) + 7) + su)), .int 3]) (rest := [.int (nI (z_267 + 1))]) X (c_L_cell l G hpL b9 L xs hL ((((12 * k) + 1) + 7) + su) 3 (by omega) (by decide) (by decide)) (rx_blind _) (rx_at X hW.1 hW.2.2 hX hXl hXA) mf_L_cell tw_331 tw_332 ⟨rfl, rfl, Nat.le_of_ble_eq_true rfl, Nat.le_of_ble_eq_true rfl⟩ hl.1 rfl rfl (Nat.le_of_ble_eq_true rfl) ⟨(by show _ ≤ 16; omega), (by show _ ≤ 320; omega)⟩ dL_lay_288) (fun r_288 q_288 => ?_)
                      obtain rfl : r_288 = (nI (ceF L xs ((((12 * k) + 1) + 7) + su) 3)) := q_288
                      refine lv_iadd X.1 X.2.1 dL_lay_291 ?_
                      refine r_eqi (show (((nI (z_267 + 1)) + (nI (ceF L xs ((((12 * k) + 1) + 7) + su) 3))) : Int32) = nI ((z_267 + 1) + (ceF L xs ((((12 * k) + 1) + 7) + su) 3)) from nI_add (z_267 + 1) (ceF L xs ((((12 * k) + 1) + 7) + su) 3)) ?_
                      refine lv_goto (tgt := 296) X.1 X.2.1 dL_lay_292 (by decide) ?_
                      obtain ⟨z_296, ez_296⟩ : ∃ z : Nat, z = ((z_267 + 1) + (ceF L xs ((((12 * k) + 1) + 7) + su) 3)) := ⟨_, rfl⟩
                      refine r_eqi (show nI ((z_267 + 1) + (ceF L xs ((((12 * k) + 1) + 7) + su) 3)) = nI z_296 from by rw [ez_296]) ?_
                      have lz_296 : z_267 < z_296 ∧ z_296 ≤ 5 := by have := ceF_lt L xs ((((12 * k) + 1) + 7) + su) (n := 3) (by decide); omega
                      refine lv_istore (lv' := [(16, .int (nI z_296)), (15, .int (nI z_267)), (14, .int 1), (0, .ref b6), (1, .ref b9), (2, .ref ra), (3, .int (nI n)), (4, .int (nI z_11)), (5, .int (nI k)), (6, .int (nI ((12 * k) + 1))), (12, .int (nI lg)), (13, .int (nI su))]) X.1 X.2.1 dL_lay_296 hl (by decide) rfl (fun ls hl => ?_)
                      refine lv_iload X.1 X.2.1 dL_lay_298 (lv_at hl 10 rfl) ?_
                      refine lv_iload X.1 X.2.1 dL_lay_300 (lv_at hl 1 rfl) ?_
                      refine lv_iload X.1 X.2.1 dL_lay_302 (lv_at hl 0 rfl) ?_
                      refine lv_iconst (v := 3) X.1 X.2.1 dL_lay_304 (by decide) ?_
                      refine lv_ishl X.1 X.2.1 dL_lay_305 ?_
                      refine r_eqi (show (((nI z_296) <<< (3 &&& 31)) : Int32) = nI (z_296 * 8) from pk_shlN (n := z_296) _ 3 (by decide) (by omega)) ?_
                      refine lv_ior X.1 X.2.1 dL_lay_306 ?_
                      refine r_eqi (show (((nI z_267) ||| (nI (z_296 * 8))) : Int32) = nI (z_267 + 8 * z_296) from or_n 3 (by omega) rfl) ?_
                      refine lv_bipush (v := 6) X.1 X.2.1 dL_lay_307 (by decide) ?_
                      refine lv_iload X.1 X.2.1 dL_lay_309 (lv_at hl 11 rfl) ?_
                      refine lv_imul X.1 X.2.1 dL_lay_311 ?_
                      refine r_eqi (show (((6 : Int32) * (nI su)) : Int32) = nI (6 * su) from pk_mul 6 su) ?_
                      refine lv_ishl X.1 X.2.1 dL_lay_312 ?_
                      refine r_eqi (show (((nI (z_267 + 8 * z_296)) <<< ((nI (6 * su)) &&& 31)) : Int32) = nI ((z_267 + 8 * z_296) * 64 ^ su) from sh_su (v := (z_267 + 8 * z_296)) (by omega) hsu) ?_
                      refine lv_ior X.1 X.2.1 dL_lay_313 ?_
                      refine r_eqi (show (((nI lg) ||| (nI ((z_267 + 8 * z_296) * 64 ^ su))) : Int32) = nI (lg + (z_267 + 8 * z_296) * 64 ^ su) from or_su (v := (z_267 + 8 * z_296)) hlg) ?_
                      refine lv_istore (lv' := [(12, .int (nI (lg + (z_267 + 8 * z_296) * 64 ^ su))), (16, .int (nI z_296)), (15, .int (nI z_267)), (14, .int 1), (0, .ref b6), (1, .ref b9), (2, .ref ra), (3, .int (nI n)), (4, .int (nI z_11)), (5, .int (nI k)), (6, .int (nI ((12 * k) + 1))), (13, .int (nI su))]) X.1 X.2.1 dL_lay_314 hl (by decide) rfl (fun ls hl => ?_)
                      refine lv_iload X.1 X.2.1 dL_lay_316 (lv_at hl 3 rfl) ?_
                      refine lv_if_eq (tgt := 337) X.1 X.2.1 dL_lay_318 (by decide) (fun c_318 => absurd c_318 (by decide)) (fun c_318 => ?_)
                      refine lv_aload_n X.1 X.2.1 dL_lay_321 rfl (lv_at hl 4 rfl) ?_
                      refine lv_iload_n X.1 X.2.1 dL_lay_322 rfl (lv_at hl 7 rfl) ?_
                      refine lv_iload X.1 X.2.1 dL_lay_323 (lv_at hl 11 rfl) ?_
                      refine lv_iload X.1 X.2.1 dL_lay_325 (lv_at hl 2 rfl) ?_
                      refine lv_iload X.1 X.2.1 dL_lay_327 (lv_at hl 1 rfl) ?_
                      refine lc_wi (z := ((n + 1), R1, hd, 0, cs0, false, pn, pt)) (As := [.int (nI n), .int (nI su), .int (nI z_267), .int (nI z_296)]) (rest := []) X hA hW hC (fun r hp1 h => h) (fun A9 hp9 hA9 hO9 hz9 => c_X6_limit l G A9 hp9 _ hA9 hO9 b6 (n + 1) R1 hd 0 cs0 false pn pt hz9 (nI n) (nI su) (nI z_267) (nI z_296)) mf_X6_limit tw_436 tw_437 tw_438 ⟨rfl, rfl, Nat.le_of_ble_eq_true rfl, Nat.le_of_ble_eq_true rfl⟩ hl.1 rfl rfl (Nat.le_of_ble_eq_true rfl) ⟨(by show _ ≤ 16; omega), (by show _ ≤ 320; omega)⟩ dL_lay_329 (fun hp_31 H locs hW hC hK => ?_)
                      refine w_wid (k' := (16 - 2 * f)) (n' := (320 - 40 * f)) (by omega) (by omega) ?_
                      have f_32 : hp_31 ra = some (.inl (G.2.1 1, 48, .inl g1)) := (hK ra (by simp)).trans ws_ra
                      obtain ⟨hf8, hg8⟩ := fl_v (n := n + 1) (R := R1) (hd := hd) (pn := pn) (pt := pt) (r := n) (w := su) (lo := z_267) (hi := z_296) (by omega) (by omega) (by omega) (by unfold mxI; rw [if_neg (by omega)]; omega) (by omega) (by omega)
                      replace hC : CP G hp_31 [ra] b6 (gLimit ((n + 1), R1, hd, 0, cs0, false, pn, pt) (nI n) (nI su) (nI z_267) (nI z_296)) := hC
                      rw [hg8] at hC
                      refine lv_if_ge (tgt := 337) X.1 X.2.1 dL_lay_332 (by decide) (fun c_332 => ?_) (fun c_332 => absurd hf8 c_332)
                      refine lv_iinc (v := (nI (su + 1))) (lv' := [(13, .int (nI (su + 1))), (12, .int (nI (lg + (z_267 + 8 * z_296) * 64 ^ su))), (16, .int (nI z_296)), (15, .int (nI z_267)), (14, .int 1), (0, .ref b6), (1, .ref b9), (2, .ref ra), (3, .int (nI n)), (4, .int (nI z_11)), (5, .int (nI k)), (6, .int (nI ((12 * k) + 1)))]) X.1 X.2.1 dL_lay_337 hl (k := 11) rfl (nI_add su 1) (by decide) rfl (fun ls hl => ?_)
                      refine lv_goto (tgt := 217) X.1 X.2.1 dL_lay_340 (by decide) ?_
                      exact ihs (su + 1) (lmR R1 n su z_267 z_296) (lg + (z_267 + 8 * z_296) * 64 ^ su) _ _ _ hW hC f_32 (by omega) (qi_lim hs1 (by omega) (by omega) (by omega)) ls (lv_sub hl [5, 6, 7, 8, 9, 10, 11, 1, 0] rfl)
                exact L217s 4 0 (addR R n (rwN z_39 c9 z_79 f9)) 0 _ _ _ hW hC fg1 rfl qi_0 ls (lv_sub hl [2, 3, 4, 5, 6, 7, 8, 1, 0] rfl)
            | succ fj ihj =>
              intro j hj0 ls hl
              have hjn : j < n := by omega
              have hbj := (h2.2 j hjn).1.2.2.2
              have hbk := hbj.2.1
              refine lv_iload X.1 X.2.1 dL_lay_106 (lv_at hl 12 rfl) ?_
              refine lv_iload_n X.1 X.2.1 dL_lay_108 rfl (lv_at hl 3 rfl) ?_
              refine lv_icmp_ge (tgt := 149) X.1 X.2.1 dL_lay_109 (by decide) (fun c_109 => absurd c_109 (nI_ge (a := j) (b := n) (by omega) (by omega))) (fun c_109 => ?_)
              refine lv_iload X.1 X.2.1 dL_lay_112 (lv_at hl 11 rfl) ?_
              refine lv_aload_n X.1 X.2.1 dL_lay_114 rfl (lv_at hl 2 rfl) ?_
              refine lv_iload X.1 X.2.1 dL_lay_115 (lv_at hl 12 rfl) ?_
              refine r_iald X hW.1 w_ra (show vp_in ((nI j)) 48 from vp_in_nI (n := j) (by omega) (by decide)) dL_lay_117 ?_
              refine r_eqi (show ((g (nI j).toNatClampNeg) : Int32) = nI (R j 0) from by rw [nI_clamp (by omega)]; exact (hg.2 j hjn).2.1) ?_
              refine lv_iload X.1 X.2.1 dL_lay_118 (lv_at hl 7 rfl) ?_
              refine lv_icmp_ne (tgt := 139) X.1 X.2.1 dL_lay_120 (by decide) (fun c_120 => ?_) (fun c_120 => ?_)
              · have k_120 := k_ne (a := (R j 0)) (b := z_39) (by omega) (by omega) c_120
                refine lv_iconst (v := 0) X.1 X.2.1 dL_lay_139 (by decide) ?_
                refine lv_ior X.1 X.2.1 dL_lay_140 ?_
                refine r_eqi (show (((bI (anF (thB R (nI z_39) (nI c9)) j 0)) ||| 0) : Int32) = bI (anF (thB R (nI z_39) (nI c9)) (j + 1) 0) from th_0 (fun q => k_120 (k_eq (by omega) (by omega) q.1))) ?_
                refine lv_istore (lv' := [(11, .int (bI (anF (thB R (nI z_39) (nI c9)) (j + 1) 0))), (0, .ref b6), (1, .ref b9), (2, .ref ra), (3, .int (nI n)), (4, .int (nI z_11)), (5, .int (nI k)), (6, .int (nI ((12 * k) + 1))), (7, .int (nI z_39)), (8, .int (nI c9)), (9, .int (nI z_79)), (10, .int (nI f9)), (12, .int (nI j))]) X.1 X.2.1 dL_lay_141 hl (by decide) rfl (fun ls hl => ?_)
                refine lv_iinc (v := (nI (j + 1))) (lv' := [(12, .int (nI (j + 1))), (11, .int (bI (anF (thB R (nI z_39) (nI c9)) (j + 1) 0))), (0, .ref b6), (1, .ref b9), (2, .ref ra), (3, .int (nI n)), (4, .int (nI z_11)), (5, .int (nI k)), (6, .int (nI ((12 * k) + 1))), (7, .int (nI z_39)), (8, .int (nI c9)), (9, .int (nI z_79)), (10, .int (nI f9))]) X.1 X.2.1 dL_lay_143 hl (k := 12) rfl (nI_add j 1) (by decide) rfl (fun ls hl => ?_)
                refine lv_goto (tgt := 106) X.1 X.2.1 dL_lay_146 (by decide) ?_
                exact ihj (j + 1) (by omega) ls (lv_sub hl [2, 3, 4, 5, 6, 7, 8, 9, 10, 11, 12, 1, 0] rfl)
              · have k_120 := k_eq (a := (R j 0)) (b := z_39) (by omega) (by omega) c_120
                refine lv_aload_n X.1 X.2.1 dL_lay_123 rfl (lv_at hl 2 rfl) ?_
                refine lv_bipush (v := 8) X.1 X.2.1 dL_lay_124 (by decide) ?_
                refine lv_iload X.1 X.2.1 dL_lay_126 (lv_at hl 12 rfl) ?_
                refine lv_iadd X.1 X.2.1 dL_lay_128 ?_
                refine r_eqi (show (((8 : Int32) + (nI j)) : Int32) = nI (8 + j) from nI_add 8 j) ?_
                refine r_iald X hW.1 w_ra (show vp_in ((nI (8 + j))) 48 from vp_in_nI (n := (8 + j)) (by omega) (by decide)) dL_lay_129 ?_
                refine r_eqi (show ((g (nI (8 + j)).toNatClampNeg) : Int32) = nI (R j 1) from by rw [nI_clamp (by omega)]; exact (hg.2 j hjn).2.2.1) ?_
                refine lv_iload X.1 X.2.1 dL_lay_130 (lv_at hl 8 rfl) ?_
                refine lv_icmp_ne (tgt := 139) X.1 X.2.1 dL_lay_132 (by decide) (fun c_132 => ?_) (fun c_132 => ?_)
                · have k_132 := k_ne (a := (R j 1)) (b := c9) (by omega) (by omega) c_132
                  refine lv_iconst (v := 0) X.1 X.2.1 dL_lay_139 (by decide) ?_
                  refine lv_ior X.1 X.2.1 dL_lay_140 ?_
                  refine r_eqi (show (((bI (anF (thB R (nI z_39) (nI c9)) j 0)) ||| 0) : Int32) = bI (anF (thB R (nI z_39) (nI c9)) (j + 1) 0) from th_0 (fun q => k_132 (k_eq (by omega) (by omega) q.2))) ?_
                  refine lv_istore (lv' := [(11, .int (bI (anF (thB R (nI z_39) (nI c9)) (j + 1) 0))), (0, .ref b6), (1, .ref b9), (2, .ref ra), (3, .int (nI n)), (4, .int (nI z_11)), (5, .int (nI k)), (6, .int (nI ((12 * k) + 1))), (7, .int (nI z_39)), (8, .int (nI c9)), (9, .int (nI z_79)), (10, .int (nI f9)), (12, .int (nI j))]) X.1 X.2.1 dL_lay_141 hl (by decide) rfl (fun ls hl => ?_)
                  refine lv_iinc (v := (nI (j + 1))) (lv' := [(12, .int (nI (j + 1))), (11, .int (bI (anF (thB R (nI z_39) (nI c9)) (j + 1) 0))), (0, .ref b6), (1, .ref b9), (2, .ref ra), (3, .int (nI n)), (4, .int (nI z_11)), (5, .int (nI k)), (6, .int (nI ((12 * k) + 1))), (7, .int (nI z_39)), (8, .int (nI c9)), (9, .int (nI z_79)), (10, .int (nI f9))]) X.1 X.2.1 dL_lay_143 hl (k := 12) rfl (nI_add j 1) (by decide) rfl (fun ls hl => ?_)
                  refine lv_goto (tgt := 106) X.1 X.2.1 dL_lay_146 (by decide) ?_
                  exact ihj (j + 1) (by omega) ls (lv_sub hl [2, 3, 4, 5, 6, 7, 8, 9, 10, 11, 12, 1, 0] rfl)
                · have k_132 := k_eq (a := (R j 1)) (b := c9) (by omega) (by omega) c_132
                  refine lv_iconst (v := 1) X.1 X.2.1 dL_lay_135 (by decide) ?_
                  refine lv_goto (tgt := 140) X.1 X.2.1 dL_lay_136 (by decide) ?_
                  refine lv_ior X.1 X.2.1 dL_lay_140 ?_
                  refine r_eqi (show (((bI (anF (thB R (nI z_39) (nI c9)) j 0)) ||| 1) : Int32) = bI (anF (thB R (nI z_39) (nI c9)) (j + 1) 0) from th_1 (by rw [k_120]) (by rw [k_132])) ?_
                  refine lv_istore (lv' := [(11, .int (bI (anF (thB R (nI z_39) (nI c9)) (j + 1) 0))), (0, .ref b6), (1, .ref b9), (2, .ref ra), (3, .int (nI n)), (4, .int (nI z_11)), (5, .int (nI k)), (6, .int (nI ((12 * k) + 1))), (7, .int (nI z_39)), (8, .int (nI c9)), (9, .int (nI z_79)), (10, .int (nI f9)), (12, .int (nI j))]) X.1 X.2.1 dL_lay_141 hl (by decide) rfl (fun ls hl => ?_)
                  refine lv_iinc (v := (nI (j + 1))) (lv' := [(12, .int (nI (j + 1))), (11, .int (bI (anF (thB R (nI z_39) (nI c9)) (j + 1) 0))), (0, .ref b6), (1, .ref b9), (2, .ref ra), (3, .int (nI n)), (4, .int (nI z_11)), (5, .int (nI k)), (6, .int (nI ((12 * k) + 1))), (7, .int (nI z_39)), (8, .int (nI c9)), (9, .int (nI z_79)), (10, .int (nI f9))]) X.1 X.2.1 dL_lay_143 hl (k := 12) rfl (nI_add j 1) (by decide) rfl (fun ls hl => ?_)
                  refine lv_goto (tgt := 106) X.1 X.2.1 dL_lay_146 (by decide) ?_
                  exact ihj (j + 1) (by omega) ls (lv_sub hl [2, 3, 4, 5, 6, 7, 8, 9, 10, 11, 12, 1, 0] rfl)
          exact L106j n 0 (by omega) ls (lv_sub hl [3, 4, 5, 6, 7, 8, 9, 10, 11, 12, 2, 1, 0] rfl)
        refine lv_aload_n X.1 X.2.1 dL_lay_81 rfl (lv_at hl 3 rfl) ?_
        refine lv_iload X.1 X.2.1 dL_lay_82 (lv_at hl 8 rfl) ?_
        refine lv_iconst (v := 4) X.1 X.2.1 dL_lay_84 (by decide) ?_
        refine lv_iadd X.1 X.2.1 dL_lay_85 ?_
        refine r_eqi (show (((nI ((12 * k) + 1)) + 4) : Int32) = nI (((12 * k) + 1) + 4) from nI_add ((12 * k) + 1) 4) ?_
        refine lv_iconst (v := 3) X.1 X.2.1 dL_lay_86 (by decide) ?_
        refine on_Si (run_S (As := [.ref b9, .int (nI (((12 * k) + 1) + 4)), .int 3]) (rest := []) X (c_L_cell l G hpL b9 L xs hL (((12 * k) + 1) + 4) 3 (by omega) (by decide) (by decide)) (rx_blind _) (rx_at X hW.1 hW.2.2 hX hXl hXA) mf_L_cell tw_331 tw_332 ⟨rfl, rfl, Nat.le_of_ble_eq_true rfl, Nat.le_of_ble_eq_true rfl⟩ hl.1 rfl rfl (Nat.le_of_ble_eq_true rfl) ⟨(by show _ ≤ 16; omega), (by show _ ≤ 320; omega)⟩ dL_lay_87) (fun r_87 q_87 => ?_)
        obtain rfl : r_87 = (nI (ceF L xs (((12 * k) + 1) + 4) 3)) := q_87
        refine lv_if_ne (tgt := 97) X.1 X.2.1 dL_lay_90 (by decide) (fun c_90 => ?_) (fun c_90 => ?_)
        · refine lv_iconst (v := 0) X.1 X.2.1 dL_lay_97 (by decide) ?_
          exact J98f 0 ls (by decide) (lv_sub hl [2, 3, 4, 5, 6, 7, 8, 9, 1, 0] rfl)
        · refine lv_iconst (v := 1) X.1 X.2.1 dL_lay_93 (by decide) ?_
          refine lv_goto (tgt := 98) X.1 X.2.1 dL_lay_94 (by decide) ?_
          exact J98f 1 ls (by decide) (lv_sub hl [2, 3, 4, 5, 6, 7, 8, 9, 1, 0] rfl)
      refine lv_aload_n X.1 X.2.1 dL_lay_41 rfl (lv_at hl 3 rfl) ?_
      refine lv_iload X.1 X.2.1 dL_lay_42 (lv_at hl 1 rfl) ?_
      refine lv_iconst (v := 1) X.1 X.2.1 dL_lay_44 (by decide) ?_
      refine lv_iadd X.1 X.2.1 dL_lay_45 ?_
      refine r_eqi (show (((nI ((12 * k) + 1)) + 1) : Int32) = nI (((12 * k) + 1) + 1) from nI_add ((12 * k) + 1) 1) ?_
      refine lv_iconst (v := 5) X.1 X.2.1 dL_lay_46 (by decide) ?_
      refine on_Si (run_S (As := [.ref b9, .int (nI (((12 * k) + 1) + 1)), .int 5]) (rest := []) X (c_L_cell l G hpL b9 L xs hL (((12 * k) + 1) + 1) 5 (by omega) (by decide) (by decide)) (rx_blind _) (rx_at X hW.1 hW.2.2 hX hXl hXA) mf_L_cell tw_331 tw_332 ⟨rfl, rfl, Nat.le_of_ble_eq_true rfl, Nat.le_of_ble_eq_true rfl⟩ hl.1 rfl rfl (Nat.le_of_ble_eq_true rfl) ⟨(by show _ ≤ 16; omega), (by show _ ≤ 320; omega)⟩ dL_lay_47) (fun r_47 q_47 => ?_)
      obtain rfl : r_47 = (nI (ceF L xs (((12 * k) + 1) + 1) 5)) := q_47
      refine lv_if_ne (tgt := 58) X.1 X.2.1 dL_lay_50 (by decide) (fun c_50 => ?_) (fun c_50 => ?_)
      · refine lv_aload_n X.1 X.2.1 dL_lay_58 rfl (lv_at hl 3 rfl) ?_
        refine lv_iload X.1 X.2.1 dL_lay_59 (lv_at hl 1 rfl) ?_
        refine lv_iconst (v := 2) X.1 X.2.1 dL_lay_61 (by decide) ?_
        refine lv_iadd X.1 X.2.1 dL_lay_62 ?_
        refine r_eqi (show (((nI ((12 * k) + 1)) + 2) : Int32) = nI (((12 * k) + 1) + 2) from nI_add ((12 * k) + 1) 2) ?_
        refine lv_bipush (v := 25) X.1 X.2.1 dL_lay_63 (by decide) ?_
        refine on_Si (run_S (As := [.ref b9, .int (nI (((12 * k) + 1) + 2)), .int 25]) (rest := []) X (c_L_cell l G hpL b9 L xs hL (((12 * k) + 1) + 2) 25 (by omega) (by decide) (by decide)) (rx_blind _) (rx_at X hW.1 hW.2.2 hX hXl hXA) mf_L_cell tw_331 tw_332 ⟨rfl, rfl, Nat.le_of_ble_eq_true rfl, Nat.le_of_ble_eq_true rfl⟩ hl.1 rfl rfl (Nat.le_of_ble_eq_true rfl) ⟨(by show _ ≤ 16; omega), (by show _ ≤ 320; omega)⟩ dL_lay_65) (fun r_65 q_65 => ?_)
        obtain rfl : r_65 = (nI (ceF L xs (((12 * k) + 1) + 2) 25)) := q_65
        exact J68c (ceF L xs (((12 * k) + 1) + 2) 25) ls (by have := ceF_lt L xs (((12 * k) + 1) + 2) (n := 25) (by decide); omega) (lv_sub hl [2, 3, 4, 5, 6, 7, 1, 0] rfl)
      · refine lv_bipush (v := 25) X.1 X.2.1 dL_lay_53 (by decide) ?_
        refine lv_goto (tgt := 68) X.1 X.2.1 dL_lay_55 (by decide) ?_
        exact J68c 25 ls (by decide) (lv_sub hl [2, 3, 4, 5, 6, 7, 1, 0] rfl)
  exact w_wid (by omega) (by omega) (L16 z_11 0 0 (fun _ _ => 0) g0 _ _ _ hW hC hra (by omega) (by omega) rg_0 ls (lv_sub hl [3, 4, 5, 2, 1, 0] rfl))

