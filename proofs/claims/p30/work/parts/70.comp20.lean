/-! draw -/
set_option maxHeartbeats 4000000 in
set_option maxRecDepth 100000 in
theorem c_X6_draw (l : Launch) (G : HG) (A : Nat → Prop) (hp : HP) (sz : Nat) (hA : ∀ q, sz ≤ q → A q) (hO : Ow A hp) (b6 : Nat) (n : Nat) (R : Nat → Nat → Nat) (hd : Nat → Nat) (k : Nat) (cs : Nat → Nat → Int32) (sk : Bool) (pn : Nat) (pt : Nat → Nat) (hz : CZ G hp b6 (n, R, hd, k, cs, sk, pn, pt)) (a : Int32) : Met l yX6_draw [.code yX6_draw cX6_draw 6 (some .int)] { frames := 2, cells := 0, slots := 0, locals := 43 } (va_Pc [.ref b6, .int a] (WP G A sz hp)) (va_Qi (fun r hp1 => r = fDraw a ∧ CZ G hp1 b6 (gDraw (n, R, hd, k, cs, sk, pn, pt) a)) (WB G A) A) 0 0 A := by
  refine wr_ofW (by decide) (Nat.le_of_ble_eq_true rfl) hO ?_
  intro p e s m args below meth c ls X hr hlk hnm hsz hW hl
  have hA : ∀ q, s.heap.size ≤ q → A q := fun q h => hA q (by omega)
  have hl : lv_has ls 6 [(0, .ref b6), (1, .int a)] := hl
  obtain ⟨rl, au, pa, e0, e1, eR, cR, mR, gR, RA, al, p0, pw, eA, cA, mA, gA, CA, QA, vb, cv, ml, fb, hb6, hU6, hU9, hSB, hHD, hDJ, huq⟩ := hz
  have hCC : CC G hp b6 rl au pa e0 e1 eR cR mR gR RA al p0 pw eA cA mA gA CA QA vb cv ml fb (n, R, hd, k, cs, sk, pn, pt) := ⟨hb6, hU6, hU9, hSB, hHD, hDJ, huq⟩
  replace hb6 : hp b6 = some (obE rl au pa e0 e1) := hb6
  replace hU6 : RU G hp rl eR cR mR gR RA n R := hU6
  replace hU9 : AU G hp au al p0 pw eA cA mA gA CA QA k cs sk := hU9
  replace hSB : SBp G hp pa vb cv ml fb pn pt := hSB
  have hn : n ≤ 24 := hU6.2.2.1
  have hk : k ≤ 12 := hU9.2.2.2.1
  have hpn := hSB.2.2.1
  have hd0 : hd 0 = e0 := hHD.1.1
  have hd1 : hd 1 = e1 := hHD.1.2
  have hhd : ∀ i, i < 2 → hd i ≤ 1048575 ∧ strH (hd i) ≤ 20 := hHD.2
  have g_1 : hp b6 = some (.inr (7, [.ref rl, .ref au, .ref pa, .int (nI e0), .int (nI e1)])) := hb6
  have g_2 : hp rl = some (.inr (1, [.int mR, .ref eR, .int (nI n)])) := hU6.1
  have g_3 : hp au = some (.inr (2, [.ref al, .ref p0, .ref pw, .int (bI sk)])) := hU9.1
  have g_4 : hp al = some (.inr (1, [.int mA, .ref eA, .int (nI k)])) := hU9.2.1
  have g_5 : hp pw = some (.inr (4, [.int (cs k 2), .int (cs k 4), .int (cs k 3)])) := hU9.2.2.2.2.2.2.2.1
  have g_6 : hp pa = some (.inr (0, [.ref vb, .int 0, .int (bI ml), .int (nI pn)])) := hSB.1
  have g_7 : hp vb = some (.inl (G.2.1 0, cv, .inl fb)) := hSB.2.1
  have hau0 := g_3
  refine lv_iload_n X.1 X.2.1 dX6_draw_0 rfl (lv_at hl 1 rfl) ?_
  refine lv_if_lt (tgt := 10) X.1 X.2.1 dX6_draw_1 (by decide) (fun c_1 => ?_) (fun c_1 => ?_)
  · refine lv_bipush (v := (-2)) X.1 X.2.1 dX6_draw_10 (by decide) ?_
    exact wr_i X hr hlk hW ⟨(if_pos (show inI a 0 65535 = 0 from inJ_z (hi := 65535) (by decide) (Or.inl c_1))).symm, by rw [show gDraw (n, R, hd, k, cs, sk, pn, pt) a = (n, R, hd, k, cs, sk, pn, pt) from if_pos (show inI a 0 65535 = 0 from inJ_z (hi := 65535) (by decide) (Or.inl c_1))]; exact ⟨rl, au, pa, e0, e1, eR, cR, mR, gR, RA, al, p0, pw, eA, cA, mA, gA, CA, QA, vb, cv, ml, fb, hCC⟩⟩ (Nat.le_of_ble_eq_true rfl) (Nat.le_of_ble_eq_true rfl) dX6_draw_12
  · refine lv_iload_n X.1 X.2.1 dX6_draw_4 rfl (lv_at hl 1 rfl) ?_
    refine r_const X tw_168 dX6_draw_5 ?_
    refine lv_icmp_le (tgt := 13) X.1 X.2.1 dX6_draw_7 (by decide) (fun c_7 => ?_) (fun c_7 => ?_)
    · have ha9 : ¬ inI a 0 65535 = 0 := inJ_o (hi := 65535) (by decide) c_1 (Int32.not_lt.mpr c_7)
      obtain ⟨xa, hxa, rfl⟩ := inI_nat (hi := 65535) ha9 (by decide)
      refine lv_iload_n X.1 X.2.1 dX6_draw_13 rfl (lv_at hl 1 rfl) ?_
      refine lv_istore_n (lv' := [(2, .int (nI xa)), (0, .ref b6), (1, .int (nI xa))]) X.1 X.2.1 dX6_draw_14 rfl hl (by decide) rfl (fun ls hl => ?_)
      refine r_const X tw_169 dX6_draw_15 ?_
      refine lv_istore_n (lv' := [(3, .int 1048575), (2, .int (nI xa)), (0, .ref b6), (1, .int (nI xa))]) X.1 X.2.1 dX6_draw_17 rfl hl (by decide) rfl (fun ls hl => ?_)
      refine lv_iconst (v := 0) X.1 X.2.1 dX6_draw_18 (by decide) ?_
      refine lv_istore (lv' := [(4, .int 0), (3, .int 1048575), (2, .int (nI xa)), (0, .ref b6), (1, .int (nI xa))]) X.1 X.2.1 dX6_draw_19 hl (by decide) rfl (fun ls hl => ?_)
      refine lv_iconst (v := 0) X.1 X.2.1 dX6_draw_21 (by decide) ?_
      refine lv_istore (lv' := [(5, .int 0), (4, .int 0), (3, .int 1048575), (2, .int (nI xa)), (0, .ref b6), (1, .int (nI xa))]) X.1 X.2.1 dX6_draw_22 hl (by decide) rfl (fun ls hl => ?_)
      have L24 : ∀ (f : Nat) (i : Nat), i + f = 10 → ∀ ls, lv_has ls 6 [(0, .ref b6), (1, .int (nI xa)), (2, .int (nI ((drF xa i).1))), (3, .int (nI (1048575 - (drF xa i).2.1))), (4, .int (nI ((drF xa i).2.2))), (5, .int (nI i))] → W p l e ({ frames := 2, cells := 0, slots := 0, locals := 43 } : Room) s m args below meth c s.heap [] 0 0 (MQ below (va_Qi (fun r hp1 => r = fDraw (nI xa) ∧ CZ G hp1 b6 (gDraw (n, R, hd, k, cs, sk, pn, pt) (nI xa))) (WB G A) A) args s 0 0 A) (F0 m 24 ls []) := by
        intro f
        induction f with
        | zero =>
          intro i h0 ls hl
          have h10 : i = 10 := by omega
          refine lv_iload X.1 X.2.1 dX6_draw_24 (lv_at hl 5 rfl) ?_
          refine lv_bipush (v := 10) X.1 X.2.1 dX6_draw_26 (by decide) ?_
          refine lv_icmp_ge (tgt := 76) X.1 X.2.1 dX6_draw_28 (by decide) (fun c_28 => ?_) (fun c_28 => absurd (nI_le (a := 10) (b := i) (by omega) (by omega)) c_28)
          obtain rfl : i = 10 := by omega
          have hdr := drF_ok xa (by omega) 10 (by decide)
          have hdh := dr_hands (s := xa) (by omega)
          refine lv_aload_n X.1 X.2.1 dX6_draw_76 rfl (lv_at hl 0 rfl) ?_
          refine lv_iload X.1 X.2.1 dX6_draw_77 (lv_at hl 4 rfl) ?_
          refine r_put X hW g_1 (v := .int (nI ((drF xa 10).2.2))) (C := RX6) (T := TX6) (N := 5) rfl tin_X6 tyX6_ok nmX6 3 (Nat.le_of_ble_eq_true rfl) tw_151 (fun _ h => h) rfl rfl rfl (Nat.le_of_ble_eq_true rfl) dX6_draw_79 (fun hp_8 H locs hW eh_9 => ?_)
          have f_10 : hp_8 b6 = some (.inr (7, [.ref rl, .ref au, .ref pa, .int (nI ((drF xa 10).2.2)), .int (nI e1)])) := by rw [eh_9]; exact va_up_self _ _ _
          refine lv_aload_n X.1 X.2.1 dX6_draw_82 rfl (lv_at hl 0 rfl) ?_
          refine r_const X tw_169 dX6_draw_83 ?_
          refine lv_iload_n X.1 X.2.1 dX6_draw_85 rfl (lv_at hl 3 rfl) ?_
          refine lv_isub X.1 X.2.1 dX6_draw_86 ?_
          refine r_eqi (show ((1048575 - (nI (1048575 - (drF xa 10).2.1))) : Int32) = nI (drF xa 10).2.1 from (pk_sub (a := 1048575) (b := 1048575 - (drF xa 10).2.1) (by omega)).trans (congrArg nI (by omega))) ?_
          refine lv_iload X.1 X.2.1 dX6_draw_87 (lv_at hl 4 rfl) ?_
          refine lv_isub X.1 X.2.1 dX6_draw_89 ?_
          refine r_eqi (show (((nI (drF xa 10).2.1) - (nI ((drF xa 10).2.2))) : Int32) = nI (drH xa 1) from (pk_sub (a := (drF xa 10).2.1) (b := (drF xa 10).2.2) (by omega)).trans (congrArg nI (by omega))) ?_
          refine r_put X hW f_10 (v := .int (nI (drH xa 1))) (C := RX6) (T := TX6) (N := 5) rfl tin_X6 tyX6_ok nmX6 4 (Nat.le_of_ble_eq_true rfl) tw_152 (fun _ h => h) rfl rfl rfl (Nat.le_of_ble_eq_true rfl) dX6_draw_90 (fun hp_11 H locs hW eh_12 => ?_)
          have f_13 : hp_11 b6 = some (.inr (7, [.ref rl, .ref au, .ref pa, .int (nI ((drF xa 10).2.2)), .int (nI (drH xa 1))])) := by rw [eh_12]; exact va_up_self _ _ _
          refine lv_aload_n X.1 X.2.1 dX6_draw_93 rfl (lv_at hl 0 rfl) ?_
          have hC1 := cz_ob (hp1 := hp_11) (hd1 := drH xa) (e2 := (drF xa 10).2.2) (e3 := drH xa 1) hCC (by rw [eh_12, eh_9, va_uu]; rfl) ⟨⟨rfl, rfl⟩, hdh.2⟩
          refine r_get X hW.1 f_13 (v := .ref au) (C := RX6) (T := TX6) (N := 5) rfl tin_X6 1 (by decide) tw_149 (fun _ h => h) rfl dX6_draw_94 ?_
          have f_14 : hp_11 au = some (.inr (2, [.ref al, .ref p0, .ref pw, .int (bI sk)])) := by rw [eh_12, va_up_ne _ _ (ne_look (show (_ : Option va_E) = some (.inr (2, [.ref al, .ref p0, .ref pw, .int (bI sk)])) by rw [eh_9, va_up_ne _ _ (ne_look g_3 g_1 (by simp))]; exact g_3) f_10 (by simp)), eh_9, va_up_ne _ _ (ne_look g_3 g_1 (by simp))]; exact g_3
          refine on_Wv (k' := 0) (n' := 0) (run_V (C := RX0) (As := []) (rest := []) X (c_X0_restart l G A hp_11 _ (fun q h => hA q (Nat.le_trans hW.2.2.1 h)) hW.2.1 au al p0 pw eA cA mA gA CA QA k cs sk hC1.2.2.1) (wp_blind _) (wp_at X hW.1 hW.2.2) (recv X hW.1 f_14 (C := RX0) (T := TX0) (N := 4) rfl) mf_X0_restart tw_174 tw_175 tw_176 ⟨rfl, rfl, Nat.le_of_ble_eq_true rfl, Nat.le_of_ble_eq_true rfl⟩ hl.1 rfl rfl (Nat.le_of_ble_eq_true rfl) ⟨Nat.le_of_ble_eq_true rfl, Nat.le_of_ble_eq_true rfl⟩ dX6_draw_97) hW (by omega) (by omega) (fun hp_15 H locs q_97 hW => ?_)
          obtain ⟨mA1, g1, hA1, hK1⟩ := q_97
          refine lv_iload X.1 X.2.1 dX6_draw_100 (lv_at hl 4 rfl) ?_
          exact wr_i X hr hlk hW ⟨(by rw [show fDraw (nI xa) = nI (drF (tn (nI xa)) 10).2.2 from if_neg ha9, tn_n (by omega)]), by rw [show gDraw (n, R, hd, k, cs, sk, pn, pt) (nI xa) = gAnew (n, R, drH (tn (nI xa)), k, cs, sk, pn, pt) from if_neg ha9, tn_n (by omega)]; exact cz_au hC1 hA1 hK1 (Or.inl ⟨rfl, rfl⟩)⟩ (Nat.le_of_ble_eq_true rfl) (Nat.le_of_ble_eq_true rfl) dX6_draw_102
        | succ f ih =>
          intro i h0 ls hl
          have h10 : i < 10 := by omega
          have hdr := drF_ok xa (by omega) i (by omega)
          have hml : (((drF xa i).1 * 1103 + 12345) % 65536) % (20 - i) < 20 - i := Nat.mod_lt _ (by omega)
          have hcl := clF_ok (drF xa i).2.1 20 ((((drF xa i).1 * 1103 + 12345) % 65536) % (20 - i)) 0 (by omega)
          have hz9 : ((drF xa i).1 * 1103 + 12345) % 65536 < 65536 := Nat.mod_lt _ (by decide)
          have hcd : lowb (itC ((((drF xa i).1 * 1103 + 12345) % 65536) % (20 - i)) (1048575 - (drF xa i).2.1)) = 2 ^ clF (drF xa i).2.1 20 ((((drF xa i).1 * 1103 + 12345) % 65536) % (20 - i)) 0 := by rw [← frS_20 hdr.2.1]; exact itC_cl _ 20 _ 0 (by decide) (by omega)
          have hto : (drF xa i).2.1 ||| 2 ^ clF (drF xa i).2.1 20 ((((drF xa i).1 * 1103 + 12345) % 65536) % (20 - i)) 0 = (drF xa i).2.1 + 2 ^ clF (drF xa i).2.1 20 ((((drF xa i).1 * 1103 + 12345) % 65536) % (20 - i)) 0 := or_bit hcl.2.2 hdr.2.1
          have hdr1 := (drF_ok xa (by omega) (i + 1) (by omega)).2.1
          have htk : (drF xa i).2.1 ||| 2 ^ clF (drF xa i).2.1 20 ((((drF xa i).1 * 1103 + 12345) % 65536) % (20 - i)) 0 < 2 ^ 20 := hdr1
          refine lv_iload X.1 X.2.1 dX6_draw_24 (lv_at hl 5 rfl) ?_
          refine lv_bipush (v := 10) X.1 X.2.1 dX6_draw_26 (by decide) ?_
          refine lv_icmp_ge (tgt := 76) X.1 X.2.1 dX6_draw_28 (by decide) (fun c_28 => absurd c_28 (nI_ge (a := i) (b := 10) (by omega) (by decide))) (fun c_28 => ?_)
          refine lv_iload_n X.1 X.2.1 dX6_draw_31 rfl (lv_at hl 2 rfl) ?_
          refine lv_sipush (v := 1103) X.1 X.2.1 dX6_draw_32 (by decide) ?_
          refine lv_imul X.1 X.2.1 dX6_draw_35 ?_
          refine r_eqi (show (((nI ((drF xa i).1)) * 1103) : Int32) = nI (((drF xa i).1) * 1103) from pk_mul ((drF xa i).1) 1103) ?_
          refine lv_sipush (v := 12345) X.1 X.2.1 dX6_draw_36 (by decide) ?_
          refine lv_iadd X.1 X.2.1 dX6_draw_39 ?_
          refine r_eqi (show (((nI (((drF xa i).1) * 1103)) + 12345) : Int32) = nI ((((drF xa i).1) * 1103) + 12345) from nI_add (((drF xa i).1) * 1103) 12345) ?_
          refine r_const X tw_170 dX6_draw_40 ?_
          refine lv_irem X.1 X.2.1 dX6_draw_42 (by decide) ?_
          refine r_eqi (show (((nI ((((drF xa i).1) * 1103) + 12345)) - (nI ((((drF xa i).1) * 1103) + 12345)) / 65536 * 65536) : Int32) = nI (((((drF xa i).1) * 1103) + 12345) % 65536) from pk_rem (a := ((((drF xa i).1) * 1103) + 12345)) (d := 65536) (by omega) (by omega) (by omega)) ?_
          refine lv_istore_n (lv' := [(2, .int (nI (((((drF xa i).1) * 1103) + 12345) % 65536))), (0, .ref b6), (1, .int (nI xa)), (3, .int (nI (1048575 - (drF xa i).2.1))), (4, .int (nI ((drF xa i).2.2))), (5, .int (nI i))]) X.1 X.2.1 dX6_draw_43 rfl hl (by decide) rfl (fun ls hl => ?_)
          refine lv_iload_n X.1 X.2.1 dX6_draw_44 rfl (lv_at hl 3 rfl) ?_
          refine lv_iload_n X.1 X.2.1 dX6_draw_45 rfl (lv_at hl 3 rfl) ?_
          refine lv_iload_n X.1 X.2.1 dX6_draw_46 rfl (lv_at hl 0 rfl) ?_
          refine lv_bipush (v := 20) X.1 X.2.1 dX6_draw_47 (by decide) ?_
          refine lv_iload X.1 X.2.1 dX6_draw_49 (lv_at hl 5 rfl) ?_
          refine lv_isub X.1 X.2.1 dX6_draw_51 ?_
          refine r_eqi (show (((20 : Int32) - (nI i)) : Int32) = nI (20 - i) from pk_sub (a := 20) (b := i) (by omega)) ?_
          refine lv_irem X.1 X.2.1 dX6_draw_52 (nI_ne0 (by omega) (by omega)) ?_
          refine r_eqi (show (((nI (((((drF xa i).1) * 1103) + 12345) % 65536)) - (nI (((((drF xa i).1) * 1103) + 12345) % 65536)) / (nI (20 - i)) * (nI (20 - i))) : Int32) = nI ((((((drF xa i).1) * 1103) + 12345) % 65536) % (20 - i)) from pk_rem (a := (((((drF xa i).1) * 1103) + 12345) % 65536)) (d := (20 - i)) (by omega) (by omega) (by omega)) ?_
          refine on_Si (run_S (As := [.int (nI (1048575 - (drF xa i).2.1)), .int (nI ((((((drF xa i).1) * 1103) + 12345) % 65536) % (20 - i)))]) (rest := [.int (nI (1048575 - (drF xa i).2.1))]) X (c_X1_cardAt l G hp (1048575 - (drF xa i).2.1) ((((((drF xa i).1) * 1103) + 12345) % 65536) % (20 - i)) (by omega) (by omega)) (rp_blind _) (rp_at X hW.1 hW.2.2) mf_X1_cardAt tw_171 tw_172 ⟨rfl, rfl, Nat.le_of_ble_eq_true rfl, Nat.le_of_ble_eq_true rfl⟩ hl.1 rfl rfl (Nat.le_of_ble_eq_true rfl) ⟨Nat.le_of_ble_eq_true rfl, Nat.le_of_ble_eq_true rfl⟩ dX6_draw_53) (fun r_53 q_53 => ?_)
          obtain rfl : r_53 = (nI (lowb (itC ((((((drF xa i).1) * 1103) + 12345) % 65536) % (20 - i)) (1048575 - (drF xa i).2.1)))) := q_53
          refine r_eqi (show ((nI (lowb (itC ((((((drF xa i).1) * 1103) + 12345) % 65536) % (20 - i)) (1048575 - (drF xa i).2.1)))) : Int32) = nI (2 ^ clF (drF xa i).2.1 20 ((((drF xa i).1 * 1103 + 12345) % 65536) % (20 - i)) 0) from congrArg nI hcd) ?_
          refine lv_isub X.1 X.2.1 dX6_draw_56 ?_
          refine r_eqi (show (((nI (1048575 - (drF xa i).2.1)) - (nI (2 ^ clF (drF xa i).2.1 20 ((((drF xa i).1 * 1103 + 12345) % 65536) % (20 - i)) 0))) : Int32) = nI (1048575 - ((drF xa i).2.1 ||| 2 ^ clF (drF xa i).2.1 20 ((((drF xa i).1 * 1103 + 12345) % 65536) % (20 - i)) 0)) from (pk_sub (a := 1048575 - (drF xa i).2.1) (b := 2 ^ clF (drF xa i).2.1 20 ((((drF xa i).1 * 1103 + 12345) % 65536) % (20 - i)) 0) (by omega)).trans (congrArg nI (by omega))) ?_
          refine lv_istore_n (lv' := [(3, .int (nI (1048575 - ((drF xa i).2.1 ||| 2 ^ clF (drF xa i).2.1 20 ((((drF xa i).1 * 1103 + 12345) % 65536) % (20 - i)) 0)))), (2, .int (nI (((((drF xa i).1) * 1103) + 12345) % 65536))), (0, .ref b6), (1, .int (nI xa)), (4, .int (nI ((drF xa i).2.2))), (5, .int (nI i))]) X.1 X.2.1 dX6_draw_57 rfl hl (by decide) rfl (fun ls hl => ?_)
          refine lv_iload X.1 X.2.1 dX6_draw_58 (lv_at hl 5 rfl) ?_
          refine lv_iconst (v := 4) X.1 X.2.1 dX6_draw_60 (by decide) ?_
          refine lv_icmp_ne (tgt := 70) X.1 X.2.1 dX6_draw_61 (by decide) (fun c_61 => ?_) (fun c_61 => ?_)
          · have k_61 := k_ne (a := i) (b := 4) (by omega) (by omega) c_61
            refine lv_iinc (v := (nI (i + 1))) (lv' := [(5, .int (nI (i + 1))), (3, .int (nI (1048575 - ((drF xa i).2.1 ||| 2 ^ clF (drF xa i).2.1 20 ((((drF xa i).1 * 1103 + 12345) % 65536) % (20 - i)) 0)))), (2, .int (nI (((((drF xa i).1) * 1103) + 12345) % 65536))), (0, .ref b6), (1, .int (nI xa)), (4, .int (nI ((drF xa i).2.2)))]) X.1 X.2.1 dX6_draw_70 hl (k := 5) rfl (nI_add i 1) (by decide) rfl (fun ls hl => ?_)
            refine lv_goto (tgt := 24) X.1 X.2.1 dX6_draw_73 (by decide) ?_
            exact ih (i + 1) (by omega) ls (by rw [show drF xa (i + 1) = (((drF xa i).1 * 1103 + 12345) % 65536, (drF xa i).2.1 ||| 2 ^ clF (drF xa i).2.1 20 ((((drF xa i).1 * 1103 + 12345) % 65536) % (20 - i)) 0, (drF xa i).2.2) from congrArg (fun z => (((drF xa i).1 * 1103 + 12345) % 65536, (drF xa i).2.1 ||| 2 ^ clF (drF xa i).2.1 20 ((((drF xa i).1 * 1103 + 12345) % 65536) % (20 - i)) 0, z)) (if_neg k_61)]; exact (lv_sub hl [3, 4, 2, 1, 5, 0] rfl))
          · have k_61 := k_eq (a := i) (b := 4) (by omega) (by omega) c_61
            refine r_const X tw_169 dX6_draw_64 ?_
            refine lv_iload_n X.1 X.2.1 dX6_draw_66 rfl (lv_at hl 0 rfl) ?_
            refine lv_isub X.1 X.2.1 dX6_draw_67 ?_
            refine r_eqi (show ((1048575 - (nI (1048575 - ((drF xa i).2.1 ||| 2 ^ clF (drF xa i).2.1 20 ((((drF xa i).1 * 1103 + 12345) % 65536) % (20 - i)) 0)))) : Int32) = nI ((drF xa i).2.1 ||| 2 ^ clF (drF xa i).2.1 20 ((((drF xa i).1 * 1103 + 12345) % 65536) % (20 - i)) 0) from (pk_sub (a := 1048575) (b := 1048575 - ((drF xa i).2.1 ||| 2 ^ clF (drF xa i).2.1 20 ((((drF xa i).1 * 1103 + 12345) % 65536) % (20 - i)) 0)) (by omega)).trans (congrArg nI (by omega))) ?_
            refine lv_istore (lv' := [(4, .int (nI ((drF xa i).2.1 ||| 2 ^ clF (drF xa i).2.1 20 ((((drF xa i).1 * 1103 + 12345) % 65536) % (20 - i)) 0))), (3, .int (nI (1048575 - ((drF xa i).2.1 ||| 2 ^ clF (drF xa i).2.1 20 ((((drF xa i).1 * 1103 + 12345) % 65536) % (20 - i)) 0)))), (2, .int (nI (((((drF xa i).1) * 1103) + 12345) % 65536))), (0, .ref b6), (1, .int (nI xa)), (5, .int (nI i))]) X.1 X.2.1 dX6_draw_68 hl (by decide) rfl (fun ls hl => ?_)
            refine lv_iinc (v := (nI (i + 1))) (lv' := [(5, .int (nI (i + 1))), (4, .int (nI ((drF xa i).2.1 ||| 2 ^ clF (drF xa i).2.1 20 ((((drF xa i).1 * 1103 + 12345) % 65536) % (20 - i)) 0))), (3, .int (nI (1048575 - ((drF xa i).2.1 ||| 2 ^ clF (drF xa i).2.1 20 ((((drF xa i).1 * 1103 + 12345) % 65536) % (20 - i)) 0)))), (2, .int (nI (((((drF xa i).1) * 1103) + 12345) % 65536))), (0, .ref b6), (1, .int (nI xa))]) X.1 X.2.1 dX6_draw_70 hl (k := 5) rfl (nI_add i 1) (by decide) rfl (fun ls hl => ?_)
            refine lv_goto (tgt := 24) X.1 X.2.1 dX6_draw_73 (by decide) ?_
            exact ih (i + 1) (by omega) ls (by rw [show drF xa (i + 1) = (((drF xa i).1 * 1103 + 12345) % 65536, (drF xa i).2.1 ||| 2 ^ clF (drF xa i).2.1 20 ((((drF xa i).1 * 1103 + 12345) % 65536) % (20 - i)) 0, (drF xa i).2.1 ||| 2 ^ clF (drF xa i).2.1 20 ((((drF xa i).1 * 1103 + 12345) % 65536) % (20 - i)) 0) from congrArg (fun z => (((drF xa i).1 * 1103 + 12345) % 65536, (drF xa i).2.1 ||| 2 ^ clF (drF xa i).2.1 20 ((((drF xa i).1 * 1103 + 12345) % 65536) % (20 - i)) 0, z)) (if_pos k_61)]; exact (lv_sub hl [4, 5, 3, 2, 1, 0] rfl))
      exact L24 10 0 rfl ls (lv_sub hl [4, 5, 3, 2, 1, 0] rfl)
    · refine lv_bipush (v := (-2)) X.1 X.2.1 dX6_draw_10 (by decide) ?_
      exact wr_i X hr hlk hW ⟨(if_pos (show inI a 0 65535 = 0 from inJ_z (hi := 65535) (by decide) (Or.inr (Int32.not_le.mp c_7)))).symm, by rw [show gDraw (n, R, hd, k, cs, sk, pn, pt) a = (n, R, hd, k, cs, sk, pn, pt) from if_pos (show inI a 0 65535 = 0 from inJ_z (hi := 65535) (by decide) (Or.inr (Int32.not_le.mp c_7)))]; exact ⟨rl, au, pa, e0, e1, eR, cR, mR, gR, RA, al, p0, pw, eA, cA, mA, gA, CA, QA, vb, cv, ml, fb, hCC⟩⟩ (Nat.le_of_ble_eq_true rfl) (Nat.le_of_ble_eq_true rfl) dX6_draw_12
