theorem st5_le4 : ∀ x, x < 32 → st5 x ≤ 4 * pc5 x := by decide +kernel
theorem str_size (h : Nat) : strH h ≤ 4 * sizeH h := by
  have a0 := st5_le4 _ (su_lt h 0)
  have a1 := st5_le4 _ (su_lt h 1)
  have a2 := st5_le4 _ (su_lt h 2)
  have a3 := st5_le4 _ (su_lt h 3)
  unfold strH sizeH lenH
  omega
set_option maxHeartbeats 4000000 in
set_option maxRecDepth 100000 in
theorem c_X6_fitsAuction (l : Launch) (G : HG) (hp : HP) (b6 rl au pa e0 e1 : Nat) (hb6 : hp b6 = some (obE rl au pa e0 e1)) (eR cR : Nat) (mR : Int32) (gR : Nat → Option Nat) (RA : Nat → Nat) (n : Nat) (R : Nat → Nat → Nat) (hU6 : RU G hp rl eR cR mR gR RA n R) (al p0 pn eA cA : Nat) (mA : Int32) (gA : Nat → Option Nat) (CA QA : Nat → Nat) (k : Nat) (cs : Nat → Nat → Int32) (sk : Bool) (hU9 : AU G hp au al p0 pn eA cA mA gA CA QA k cs sk) (p9 h : Nat) (hp9 : p9 < 2) (hh : h ≤ 1048575) (hs : strH h ≤ 20) : Met l yX6_fitsAuction [.code yX6_fitsAuction cX6_fitsAuction 6 (some .boolean)] { frames := 4, cells := 0, slots := 0, locals := 88 } (va_Pc [.ref b6, .int (nI p9), .int (nI h)] (RP G hp)) (vp_Si (fun r => r = bI (faB n R k cs sk p9 h))) 0 0 (fun _ => False) := by
  refine ro_ofW (by decide) (Nat.le_of_ble_eq_true rfl) ?_
  intro p e s m args below meth c ls X hr hlk hH hl
  have hS : va_S (fun _ => False) s.heap s.heap [] := va_S.rf
  have hl : lv_has ls 6 [(0, .ref b6), (1, .int (nI p9)), (2, .int (nI h))] := hl
  have hn := hU6.2.2.1
  have hk := hU9.2.2.2.1
  refine lv_iload_n X.1 X.2.1 dX6_fitsAuction_0 rfl (lv_at hl 2 rfl) ?_
  refine on_Si (run_S (As := [.int (nI h)]) (rest := []) X (c_X1_profile l G hp h (by omega)) (rp_blind _) (rp_at X hH hS) mf_X1_profile tw_290 tw_291 ⟨rfl, rfl, Nat.le_of_ble_eq_true rfl, Nat.le_of_ble_eq_true rfl⟩ hl.1 rfl rfl (Nat.le_of_ble_eq_true rfl) ⟨Nat.le_of_ble_eq_true rfl, Nat.le_of_ble_eq_true rfl⟩ dX6_fitsAuction_1) (fun r_1 q_1 => ?_)
  obtain rfl : r_1 = (nI (pfN h)) := q_1
  refine lv_istore_n (lv' := [(3, .int (nI (pfN h))), (0, .ref b6), (1, .int (nI p9)), (2, .int (nI h))]) X.1 X.2.1 dX6_fitsAuction_4 rfl hl (by decide) rfl (fun ls hl => ?_)
  refine lv_iload_n X.1 X.2.1 dX6_fitsAuction_5 rfl (lv_at hl 2 rfl) ?_
  refine lv_istore (lv' := [(4, .int (nI p9)), (3, .int (nI (pfN h))), (0, .ref b6), (1, .int (nI p9)), (2, .int (nI h))]) X.1 X.2.1 dX6_fitsAuction_6 hl (by decide) rfl (fun ls hl => ?_)
  have L8 : ∀ (f : Nat) (i : Nat), (i + 2 * f = k ∨ i + 2 * f = k + 1) → alF (caB n R cs h) ((k + 1 - p9) / 2) p9 = alF (caB n R cs h) f i → ∀ ls, lv_has ls 6 [(0, .ref b6), (1, .int (nI p9)), (2, .int (nI h)), (3, .int (nI (pfN h))), (4, .int (nI i))] → W p l e ({ frames := 4, cells := 0, slots := 0, locals := 88 } : Room) s m args below meth c s.heap [] 0 0 (MQ below (vp_Si (fun r => r = bI (faB n R k cs sk p9 h))) args s 0 0 (fun _ => False)) (F0 m 8 ls []) := by
    intro f
    induction f with
    | zero =>
      intro i h0 h1 ls hl
      have ga : alF (caB n R cs h) ((k + 1 - p9) / 2) p9 = true := h1
      refine lv_iload X.1 X.2.1 dX6_fitsAuction_8 (lv_at hl 4 rfl) ?_
      refine lv_aload_n X.1 X.2.1 dX6_fitsAuction_10 rfl (lv_at hl 0 rfl) ?_
      refine r_get X hH hb6 (v := .ref au) (C := RX6) (T := TX6) (N := 5) rfl tin_X6 1 (by decide) tw_149 (fun _ h => h) rfl dX6_fitsAuction_11 ?_
      refine r_getN X hH hU9.1 (v := .ref al) (C := RX0) (T := TX0) (N := 4) rfl tin_X0 0 (by decide) tw_102 (fun _ h => h) rfl dX6_fitsAuction_14 ?_
      refine on_Si (run_V (C := RJx4a65c) (As := []) (rest := [.int (nI i)]) X (c_Jx4a65c_size_8abf5 l G hp al eA k mA hU9.2.1) (rp_blind _) (rp_at X hH hS) (recv X hH hU9.2.1 (C := RJx4a65c) (T := TJx4a65c) (N := 3) rfl) mf_Jx4a65c_size_8abf5 tw_247 tw_218 tw_219 ⟨rfl, rfl, Nat.le_of_ble_eq_true rfl, Nat.le_of_ble_eq_true rfl⟩ hl.1 rfl rfl (Nat.le_of_ble_eq_true rfl) ⟨Nat.le_of_ble_eq_true rfl, Nat.le_of_ble_eq_true rfl⟩ dX6_fitsAuction_17) (fun r_17 q_17 => ?_)
      obtain rfl : r_17 = (nI k) := q_17
      refine lv_icmp_ge (tgt := 66) X.1 X.2.1 dX6_fitsAuction_20 (by decide) (fun c_20 => ?_) (fun c_20 => absurd (nI_le (by omega) (by omega)) c_20)
      refine lv_aload_n X.1 X.2.1 dX6_fitsAuction_66 rfl (lv_at hl 0 rfl) ?_
      refine r_get X hH hb6 (v := .ref au) (C := RX6) (T := TX6) (N := 5) rfl tin_X6 1 (by decide) tw_149 (fun _ h => h) rfl dX6_fitsAuction_67 ?_
      refine r_getN X hH hU9.1 (v := .int (bI sk)) (C := RX0) (T := TX0) (N := 4) rfl tin_X0 3 (by decide) tw_107 (fun _ h => h) rfl dX6_fitsAuction_70 ?_
      refine lv_if_eq (tgt := 110) X.1 X.2.1 dX6_fitsAuction_73 (by decide) (fun c_73 => ?_) (fun c_73 => ?_)
      · refine lv_iconst (v := 1) X.1 X.2.1 dX6_fitsAuction_110 (by decide) ?_
        exact ro_z X hr hlk rfl (by show (_ : Int32) = bI _; unfold faB; rw [ga]; rw [bI_0 c_73]; rfl) dX6_fitsAuction_111
      · refine lv_aload_n X.1 X.2.1 dX6_fitsAuction_76 rfl (lv_at hl 0 rfl) ?_
        refine r_get X hH hb6 (v := .ref au) (C := RX6) (T := TX6) (N := 5) rfl tin_X6 1 (by decide) tw_149 (fun _ h => h) rfl dX6_fitsAuction_77 ?_
        refine on_Si (run_V (C := RX0) (As := []) (rest := []) X (c_X0_turn l G hp au al p0 pn eA cA mA gA CA QA k cs sk hU9) (rp_blind _) (rp_at X hH hS) (recv X hH hU9.1 (C := RX0) (T := TX0) (N := 4) rfl) mf_X0_turn tw_252 tw_253 tw_254 ⟨rfl, rfl, Nat.le_of_ble_eq_true rfl, Nat.le_of_ble_eq_true rfl⟩ hl.1 rfl rfl (Nat.le_of_ble_eq_true rfl) ⟨Nat.le_of_ble_eq_true rfl, Nat.le_of_ble_eq_true rfl⟩ dX6_fitsAuction_80) (fun r_80 q_80 => ?_)
        obtain rfl : r_80 = (nI (k % 2)) := q_80
        refine lv_iload_n X.1 X.2.1 dX6_fitsAuction_83 rfl (lv_at hl 1 rfl) ?_
        refine lv_icmp_ne (tgt := 110) X.1 X.2.1 dX6_fitsAuction_84 (by decide) (fun c_84 => ?_) (fun c_84 => ?_)
        · have k_84 := k_ne (a := (k % 2)) (b := p9) (by omega) (by omega) c_84
          refine lv_iconst (v := 1) X.1 X.2.1 dX6_fitsAuction_110 (by decide) ?_
          exact ro_z X hr hlk rfl (by show (_ : Int32) = bI _; unfold faB; rw [ga]; rw [bI_1 c_73]; rw [decide_eq_false k_84]; rfl) dX6_fitsAuction_111
        · have k_84 := k_eq (a := (k % 2)) (b := p9) (by omega) (by omega) c_84
          refine lv_aload_n X.1 X.2.1 dX6_fitsAuction_87 rfl (lv_at hl 0 rfl) ?_
          refine lv_aload_n X.1 X.2.1 dX6_fitsAuction_88 rfl (lv_at hl 0 rfl) ?_
          refine r_get X hH hb6 (v := .ref au) (C := RX6) (T := TX6) (N := 5) rfl tin_X6 1 (by decide) tw_149 (fun _ h => h) rfl dX6_fitsAuction_89 ?_
          refine r_getN X hH hU9.1 (v := .ref pn) (C := RX0) (T := TX0) (N := 4) rfl tin_X0 2 (by decide) tw_105 (fun _ h => h) rfl dX6_fitsAuction_92 ?_
          refine lv_iload_n X.1 X.2.1 dX6_fitsAuction_95 rfl (lv_at hl 3 rfl) ?_
          refine on_Si (run_V (C := RX6) (As := [.ref pn, .int (nI (pfN h))]) (rest := []) X (c_X6_firstRule l G hp b6 rl au pa e0 e1 hb6 eR cR mR gR RA n R hU6 pn (cs k 2) (cs k 4) (cs k 3) hU9.2.2.2.2.2.2.2.1 h hs) (rp_blind _) (rp_at X hH hS) (recv X hH hb6 (C := RX6) (T := TX6) (N := 5) rfl) mf_X6_firstRule tw_295 tw_297 tw_4 ⟨rfl, rfl, Nat.le_of_ble_eq_true rfl, Nat.le_of_ble_eq_true rfl⟩ hl.1 rfl rfl (Nat.le_of_ble_eq_true rfl) ⟨Nat.le_of_ble_eq_true rfl, Nat.le_of_ble_eq_true rfl⟩ dX6_fitsAuction_96) (fun r_96 q_96 => ?_)
          obtain rfl : r_96 = (rlF n R h (cs k 2) (cs k 4) (cs k 3)) := q_96
          refine lv_bipush (v := (-6)) X.1 X.2.1 dX6_fitsAuction_99 (by decide) ?_
          refine lv_icmp_ne (tgt := 108) X.1 X.2.1 dX6_fitsAuction_101 (by decide) (fun c_101 => ?_) (fun c_101 => ?_)
          · refine lv_iconst (v := 0) X.1 X.2.1 dX6_fitsAuction_108 (by decide) ?_
            exact ro_z X hr hlk rfl (by show (_ : Int32) = bI _; unfold faB; rw [ga]; rw [bI_1 c_73]; rw [decide_eq_true k_84]; rw [decide_eq_false c_101]; rfl) dX6_fitsAuction_109
          · refine lv_iconst (v := 1) X.1 X.2.1 dX6_fitsAuction_104 (by decide) ?_
            refine lv_goto (tgt := 109) X.1 X.2.1 dX6_fitsAuction_105 (by decide) ?_
            exact ro_z X hr hlk rfl (by show (_ : Int32) = bI _; unfold faB; rw [ga]; rw [bI_1 c_73]; rw [decide_eq_true k_84]; rw [decide_eq_true c_101]; rfl) dX6_fitsAuction_109
    | succ f ih =>
      intro i h0 h1 ls hl
      have hik : i < k := by omega
      refine lv_iload X.1 X.2.1 dX6_fitsAuction_8 (lv_at hl 4 rfl) ?_
      refine lv_aload_n X.1 X.2.1 dX6_fitsAuction_10 rfl (lv_at hl 0 rfl) ?_
      refine r_get X hH hb6 (v := .ref au) (C := RX6) (T := TX6) (N := 5) rfl tin_X6 1 (by decide) tw_149 (fun _ h => h) rfl dX6_fitsAuction_11 ?_
      refine r_getN X hH hU9.1 (v := .ref al) (C := RX0) (T := TX0) (N := 4) rfl tin_X0 0 (by decide) tw_102 (fun _ h => h) rfl dX6_fitsAuction_14 ?_
      refine on_Si (run_V (C := RJx4a65c) (As := []) (rest := [.int (nI i)]) X (c_Jx4a65c_size_8abf5 l G hp al eA k mA hU9.2.1) (rp_blind _) (rp_at X hH hS) (recv X hH hU9.2.1 (C := RJx4a65c) (T := TJx4a65c) (N := 3) rfl) mf_Jx4a65c_size_8abf5 tw_247 tw_218 tw_219 ⟨rfl, rfl, Nat.le_of_ble_eq_true rfl, Nat.le_of_ble_eq_true rfl⟩ hl.1 rfl rfl (Nat.le_of_ble_eq_true rfl) ⟨Nat.le_of_ble_eq_true rfl, Nat.le_of_ble_eq_true rfl⟩ dX6_fitsAuction_17) (fun r_17 q_17 => ?_)
      obtain rfl : r_17 = (nI k) := q_17
      refine lv_icmp_ge (tgt := 66) X.1 X.2.1 dX6_fitsAuction_20 (by decide) (fun c_20 => absurd c_20 (nI_ge (by omega) (by omega))) (fun c_20 => ?_)
      refine lv_aload_n X.1 X.2.1 dX6_fitsAuction_23 rfl (lv_at hl 0 rfl) ?_
      refine r_get X hH hb6 (v := .ref au) (C := RX6) (T := TX6) (N := 5) rfl tin_X6 1 (by decide) tw_149 (fun _ h => h) rfl dX6_fitsAuction_24 ?_
      refine r_getN X hH hU9.1 (v := .ref al) (C := RX0) (T := TX0) (N := 4) rfl tin_X0 0 (by decide) tw_102 (fun _ h => h) rfl dX6_fitsAuction_27 ?_
      refine lv_iload X.1 X.2.1 dX6_fitsAuction_30 (lv_at hl 4 rfl) ?_
      refine on_Sq (run_V (C := RJx4a65c) (As := [.int (nI i)]) (rest := []) X (c_Jx4a65c_get_915e3 l G hp al eA k mA hU9.2.1 cA gA (hU9.2.2.1.1 (by have := hU9.2.2.2.2.1; omega)) hU9.2.2.2.2.1 (Nat.lt_of_le_of_lt hU9.2.2.2.2.2.1 (by decide)) i (by omega)) (rp_blind _) (rp_at X hH hS) (recv X hH hU9.2.1 (C := RJx4a65c) (T := TJx4a65c) (N := 3) rfl) mf_Jx4a65c_get_915e3 tw_293 tw_222 tw_223 ⟨rfl, rfl, Nat.le_of_ble_eq_true rfl, Nat.le_of_ble_eq_true rfl⟩ hl.1 rfl rfl (Nat.le_of_ble_eq_true rfl) ⟨Nat.le_of_ble_eq_true rfl, Nat.le_of_ble_eq_true rfl⟩ dX6_fitsAuction_32) (fun r_32 q_32 => ?_)
      obtain rfl : r_32 = some (CA i) := q_32.trans (hU9.2.2.2.2.2.2.1 i (by omega)).1
      refine W.eq (g2 := F0 m 35 ls [.ref (CA i)]) rfl ?_
      refine r_cast X hH (hU9.2.2.2.2.2.2.1 i (by omega)).2.1 (C := RX2) (T := TX2) (N := 3) rfl tw_294 dX6_fitsAuction_35 ?_
      refine lv_astore (lv' := [(5, .ref (CA i)), (0, .ref b6), (1, .int (nI p9)), (2, .int (nI h)), (3, .int (nI (pfN h))), (4, .int (nI i))]) X.1 X.2.1 dX6_fitsAuction_38 hl (by decide) rfl (fun ls hl => ?_)
      refine lv_aload_n X.1 X.2.1 dX6_fitsAuction_40 rfl (lv_at hl 1 rfl) ?_
      refine lv_aload X.1 X.2.1 dX6_fitsAuction_41 (lv_at hl 0 rfl) ?_
      refine r_getN X hH (hU9.2.2.2.2.2.2.1 i (by omega)).2.1 (v := .ref (QA i)) (C := RX2) (T := TX2) (N := 3) rfl tin_X2 2 (by decide) tw_502 (fun _ h => h) rfl dX6_fitsAuction_43 ?_
      refine lv_iload_n X.1 X.2.1 dX6_fitsAuction_46 rfl (lv_at hl 4 rfl) ?_
      refine on_Si (run_V (C := RX6) (As := [.ref (QA i), .int (nI (pfN h))]) (rest := []) X (c_X6_firstRule l G hp b6 rl au pa e0 e1 hb6 eR cR mR gR RA n R hU6 (QA i) (cs i 2) (cs i 4) (cs i 3) (hU9.2.2.2.2.2.2.1 i (by omega)).2.2 h hs) (rp_blind _) (rp_at X hH hS) (recv X hH hb6 (C := RX6) (T := TX6) (N := 5) rfl) mf_X6_firstRule tw_295 tw_297 tw_4 ⟨rfl, rfl, Nat.le_of_ble_eq_true rfl, Nat.le_of_ble_eq_true rfl⟩ hl.1 rfl rfl (Nat.le_of_ble_eq_true rfl) ⟨Nat.le_of_ble_eq_true rfl, Nat.le_of_ble_eq_true rfl⟩ dX6_fitsAuction_47) (fun r_47 q_47 => ?_)
      obtain rfl : r_47 = (rlF n R h (cs i 2) (cs i 4) (cs i 3)) := q_47
      refine lv_aload X.1 X.2.1 dX6_fitsAuction_50 (lv_at hl 0 rfl) ?_
      refine r_getN X hH (hU9.2.2.2.2.2.2.1 i (by omega)).2.1 (v := .int (cs i 1)) (C := RX2) (T := TX2) (N := 3) rfl tin_X2 1 (by decide) tw_499 (fun _ h => h) rfl dX6_fitsAuction_52 ?_
      refine lv_icmp_eq (tgt := 60) X.1 X.2.1 dX6_fitsAuction_55 (by decide) (fun c_55 => ?_) (fun c_55 => ?_)
      · refine lv_iinc (v := (nI (i + 2))) (lv' := [(4, .int (nI (i + 2))), (5, .ref (CA i)), (0, .ref b6), (1, .int (nI p9)), (2, .int (nI h)), (3, .int (nI (pfN h)))]) X.1 X.2.1 dX6_fitsAuction_60 hl (k := 5) rfl (nI_add i 2) (by decide) rfl (fun ls hl => ?_)
        refine lv_goto (tgt := 8) X.1 X.2.1 dX6_fitsAuction_63 (by decide) ?_
        exact ih (i + 2) (by omega) (by rw [h1]; show (decide _ && _) = _; rw [decide_eq_true c_55]; rfl) ls (lv_sub hl [2, 3, 4, 5, 0] rfl)
      · refine lv_iconst (v := 0) X.1 X.2.1 dX6_fitsAuction_58 (by decide) ?_
        exact ro_z X hr hlk rfl (by show (_ : Int32) = bI _; unfold faB; rw [h1]; show _ = bI ((decide _ && _) && _); rw [decide_eq_false c_55]; rfl) dX6_fitsAuction_59
  exact L8 ((k + 1 - p9) / 2) p9 (by omega) rfl ls (lv_sub hl [2, 3, 4, 1, 0] rfl)

set_option maxHeartbeats 4000000 in
set_option maxRecDepth 100000 in
theorem c_X6_isHidden (l : Launch) (G : HG) (hp : HP) (b6 rl au pa e0 e1 : Nat) (hb6 : hp b6 = some (obE rl au pa e0 e1)) (eR cR : Nat) (mR : Int32) (gR : Nat → Option Nat) (RA : Nat → Nat) (n : Nat) (R : Nat → Nat → Nat) (hU6 : RU G hp rl eR cR mR gR RA n R) (al p0 pn eA cA : Nat) (mA : Int32) (gA : Nat → Option Nat) (CA QA : Nat → Nat) (k : Nat) (cs : Nat → Nat → Int32) (sk : Bool) (hU9 : AU G hp au al p0 pn eA cA mA gA CA QA k cs sk) (p9 kn h : Nat) (hp9 : p9 < 2) (hh : h ≤ 1048575) (hs : strH h ≤ 20) : Met l yX6_isHidden [.code yX6_isHidden cX6_isHidden 4 (some .boolean)] { frames := 5, cells := 0, slots := 0, locals := 113 } (va_Pc [.ref b6, .int (nI p9), .int (nI kn), .int (nI h)] (RP G hp)) (vp_Si (fun r => r = bI (hidB n R k cs sk p9 kn h))) 0 0 (fun _ => False) := by
  refine ro_ofW (by decide) (Nat.le_of_ble_eq_true rfl) ?_
  intro p e s m args below meth c ls X hr hlk hH hl
  have hS : va_S (fun _ => False) s.heap s.heap [] := va_S.rf
  have hl : lv_has ls 4 [(0, .ref b6), (1, .int (nI p9)), (2, .int (nI kn)), (3, .int (nI h))] := hl
  have hn := hU6.2.2.1
  have hk := hU9.2.2.2.1
  refine lv_iload_n X.1 X.2.1 dX6_isHidden_0 rfl (lv_at hl 3 rfl) ?_
  refine lv_iload_n X.1 X.2.1 dX6_isHidden_1 rfl (lv_at hl 2 rfl) ?_
  refine lv_iand X.1 X.2.1 dX6_isHidden_2 ?_
  refine r_eqi (show (((nI h) &&& (nI kn)) : Int32) = nI (h &&& kn) from n_and h kn) ?_
  have hab : h &&& kn ≤ h := Nat.and_le_left
  refine lv_if_ne (tgt := 19) X.1 X.2.1 dX6_isHidden_3 (by decide) (fun c_3 => ?_) (fun c_3 => ?_)
  · have k_3 := k_ne (a := (h &&& kn)) (b := 0) (by omega) (by omega) c_3
    refine lv_iconst (v := 0) X.1 X.2.1 dX6_isHidden_19 (by decide) ?_
    exact ro_z X hr hlk rfl (by show (_ : Int32) = bI _; unfold hidB; rw [decide_eq_false k_3]; rfl) dX6_isHidden_20
  · have k_3 := k_eq (a := (h &&& kn)) (b := 0) (by omega) (by omega) c_3
    refine lv_aload_n X.1 X.2.1 dX6_isHidden_6 rfl (lv_at hl 0 rfl) ?_
    refine lv_iload_n X.1 X.2.1 dX6_isHidden_7 rfl (lv_at hl 1 rfl) ?_
    refine lv_iload_n X.1 X.2.1 dX6_isHidden_8 rfl (lv_at hl 3 rfl) ?_
    refine on_Si (run_V (C := RX6) (As := [.int (nI p9), .int (nI h)]) (rest := []) X (c_X6_fitsAuction l G hp b6 rl au pa e0 e1 hb6 eR cR mR gR RA n R hU6 al p0 pn eA cA mA gA CA QA k cs sk hU9 p9 h (by omega) (by omega) hs) (rp_blind _) (rp_at X hH hS) (recv X hH hb6 (C := RX6) (T := TX6) (N := 5) rfl) mf_X6_fitsAuction tw_286 tw_288 tw_3 ⟨rfl, rfl, Nat.le_of_ble_eq_true rfl, Nat.le_of_ble_eq_true rfl⟩ hl.1 rfl rfl (Nat.le_of_ble_eq_true rfl) ⟨Nat.le_of_ble_eq_true rfl, Nat.le_of_ble_eq_true rfl⟩ dX6_isHidden_9) (fun r_9 q_9 => ?_)
    obtain rfl : r_9 = (bI (faB n R k cs sk p9 h)) := q_9
    refine lv_if_eq (tgt := 19) X.1 X.2.1 dX6_isHidden_12 (by decide) (fun c_12 => ?_) (fun c_12 => ?_)
    · refine lv_iconst (v := 0) X.1 X.2.1 dX6_isHidden_19 (by decide) ?_
      exact ro_z X hr hlk rfl (by show (_ : Int32) = bI _; unfold hidB; rw [decide_eq_true k_3, bI_0 c_12]; rfl) dX6_isHidden_20
    · refine lv_iconst (v := 1) X.1 X.2.1 dX6_isHidden_15 (by decide) ?_
      refine lv_goto (tgt := 20) X.1 X.2.1 dX6_isHidden_16 (by decide) ?_
      exact ro_z X hr hlk rfl (by show (_ : Int32) = bI _; unfold hidB; rw [decide_eq_true k_3, bI_1 c_12]; rfl) dX6_isHidden_20

set_option maxHeartbeats 4000000 in
set_option maxRecDepth 100000 in
theorem c_X6_countHidden (l : Launch) (G : HG) (hp : HP) (b6 rl au pa e0 e1 : Nat) (hb6 : hp b6 = some (obE rl au pa e0 e1)) (eR cR : Nat) (mR : Int32) (gR : Nat → Option Nat) (RA : Nat → Nat) (n : Nat) (R : Nat → Nat → Nat) (hU6 : RU G hp rl eR cR mR gR RA n R) (al p0 pn eA cA : Nat) (mA : Int32) (gA : Nat → Option Nat) (CA QA : Nat → Nat) (k : Nat) (cs : Nat → Nat → Int32) (sk : Bool) (hU9 : AU G hp au al p0 pn eA cA mA gA CA QA k cs sk) (p9 kn : Nat) (hp9 : p9 < 2) : Met l yX6_countHidden [.code yX6_countHidden cX6_countHidden 6 (some .int)] { frames := 6, cells := 0, slots := 0, locals := 136 } (va_Pc [.ref b6, .int (nI p9), .int (nI kn)] (RP G hp)) (vp_Si (fun r => r = nI (cntF (hidB n R k cs sk p9 kn) 15504))) 0 0 (fun _ => False) := by
  refine ro_ofW (by decide) (Nat.le_of_ble_eq_true rfl) ?_
  intro p e s m args below meth c ls X hr hlk hH hl
  have hS : va_S (fun _ => False) s.heap s.heap [] := va_S.rf
  have hl : lv_has ls 6 [(0, .ref b6), (1, .int (nI p9)), (2, .int (nI kn))] := hl
  have hn := hU6.2.2.1
  have hk := hU9.2.2.2.1
  refine lv_iconst (v := 0) X.1 X.2.1 dX6_countHidden_0 (by decide) ?_
  refine lv_istore_n (lv' := [(3, .int 0), (0, .ref b6), (1, .int (nI p9)), (2, .int (nI kn))]) X.1 X.2.1 dX6_countHidden_1 rfl hl (by decide) rfl (fun ls hl => ?_)
  refine lv_iconst (v := 0) X.1 X.2.1 dX6_countHidden_2 (by decide) ?_
  refine lv_istore (lv' := [(4, .int 0), (3, .int 0), (0, .ref b6), (1, .int (nI p9)), (2, .int (nI kn))]) X.1 X.2.1 dX6_countHidden_3 hl (by decide) rfl (fun ls hl => ?_)
  refine lv_bipush (v := 31) X.1 X.2.1 dX6_countHidden_5 (by decide) ?_
  refine lv_istore (lv' := [(5, .int 31), (4, .int 0), (3, .int 0), (0, .ref b6), (1, .int (nI p9)), (2, .int (nI kn))]) X.1 X.2.1 dX6_countHidden_7 hl (by decide) rfl (fun ls hl => ?_)
  have L9 : ∀ (f : Nat) (i : Nat), i + f = 15504 → ∀ ls, lv_has ls 6 [(0, .ref b6), (1, .int (nI p9)), (2, .int (nI kn)), (3, .int (nI (cntF (hidB n R k cs sk p9 kn) i))), (4, .int (nI i)), (5, .int (nI (HL i)))] → W p l e ({ frames := 6, cells := 0, slots := 0, locals := 136 } : Room) s m args below meth c s.heap [] 0 0 (MQ below (vp_Si (fun r => r = nI (cntF (hidB n R k cs sk p9 kn) 15504))) args s 0 0 (fun _ => False)) (F0 m 9 ls []) := by
    intro f
    induction f with
    | zero =>
      intro i h0 ls hl
      have hi9 : i = 15504 := by omega
      refine lv_iload X.1 X.2.1 dX6_countHidden_9 (lv_at hl 4 rfl) ?_
      refine lv_sipush (v := 15504) X.1 X.2.1 dX6_countHidden_11 (by decide) ?_
      refine lv_icmp_ge (tgt := 44) X.1 X.2.1 dX6_countHidden_14 (by decide) (fun c_14 => ?_) (fun c_14 => absurd (nI_le (a := 15504) (b := i) (by omega) (by omega)) c_14)
      refine lv_iload_n X.1 X.2.1 dX6_countHidden_44 rfl (lv_at hl 3 rfl) ?_
      exact ro_i X hr hlk (by show nI _ = nI _; rw [hi9]) dX6_countHidden_45
    | succ f ih =>
      intro i h0 ls hl
      have hlt : i < 15504 := by omega
      obtain ⟨hk1, hk2, hk3, hk4, hk5, hk6, hk7⟩ := HL_ok hlt
      have hcl := cntF_le (hidB n R k cs sk p9 kn) i
      refine lv_iload X.1 X.2.1 dX6_countHidden_9 (lv_at hl 4 rfl) ?_
      refine lv_sipush (v := 15504) X.1 X.2.1 dX6_countHidden_11 (by decide) ?_
      refine lv_icmp_ge (tgt := 44) X.1 X.2.1 dX6_countHidden_14 (by decide) (fun c_14 => absurd c_14 (nI_ge (a := i) (b := 15504) (by omega) (by decide))) (fun c_14 => ?_)
      refine lv_aload_n X.1 X.2.1 dX6_countHidden_17 rfl (lv_at hl 0 rfl) ?_
      refine lv_iload_n X.1 X.2.1 dX6_countHidden_18 rfl (lv_at hl 1 rfl) ?_
      refine lv_iload_n X.1 X.2.1 dX6_countHidden_19 rfl (lv_at hl 2 rfl) ?_
      refine lv_iload X.1 X.2.1 dX6_countHidden_20 (lv_at hl 5 rfl) ?_
      refine on_Si (run_V (C := RX6) (As := [.int (nI p9), .int (nI kn), .int (nI (HL i))]) (rest := []) X (c_X6_isHidden l G hp b6 rl au pa e0 e1 hb6 eR cR mR gR RA n R hU6 al p0 pn eA cA mA gA CA QA k cs sk hU9 p9 kn (HL i) (by omega) (by omega) (by omega)) (rp_blind _) (rp_at X hH hS) (recv X hH hb6 (C := RX6) (T := TX6) (N := 5) rfl) mf_X6_isHidden tw_545 tw_547 tw_12 ⟨rfl, rfl, Nat.le_of_ble_eq_true rfl, Nat.le_of_ble_eq_true rfl⟩ hl.1 rfl rfl (Nat.le_of_ble_eq_true rfl) ⟨Nat.le_of_ble_eq_true rfl, Nat.le_of_ble_eq_true rfl⟩ dX6_countHidden_22) (fun r_22 q_22 => ?_)
      obtain rfl : r_22 = (bI (hidB n R k cs sk p9 kn (HL i))) := q_22
      refine lv_if_eq (tgt := 31) X.1 X.2.1 dX6_countHidden_25 (by decide) (fun c_25 => ?_) (fun c_25 => ?_)
      · have hy : ¬ (hidB n R k cs sk p9 kn) (HL i) = true := fun q => Bool.false_ne_true ((bI_0 c_25).symm.trans q)
        rw [show ((nI (cntF (hidB n R k cs sk p9 kn) i)) : Int32) = nI (cntF (hidB n R k cs sk p9 kn) (i + 1)) from by show _ = nI (cntF (hidB n R k cs sk p9 kn) i + (if (hidB n R k cs sk p9 kn) (HL i) = true then 1 else 0)); rw [if_neg hy]; rfl] at hl
        refine lv_iinc (v := (nI (i + 1))) (lv' := [(4, .int (nI (i + 1))), (0, .ref b6), (1, .int (nI p9)), (2, .int (nI kn)), (3, .int (nI (cntF (hidB n R k cs sk p9 kn) (i + 1)))), (5, .int (nI (HL i)))]) X.1 X.2.1 dX6_countHidden_31 hl (k := 4) rfl (nI_add i 1) (by decide) rfl (fun ls hl => ?_)
        refine lv_iload X.1 X.2.1 dX6_countHidden_34 (lv_at hl 5 rfl) ?_
        refine on_Si (run_S (As := [.int (nI (HL i))]) (rest := []) X (c_X1_handAfter l G hp (HL i) (by omega) (by omega)) (rp_blind _) (rp_at X hH hS) mf_X1_handAfter tw_455 tw_456 ⟨rfl, rfl, Nat.le_of_ble_eq_true rfl, Nat.le_of_ble_eq_true rfl⟩ hl.1 rfl rfl (Nat.le_of_ble_eq_true rfl) ⟨Nat.le_of_ble_eq_true rfl, Nat.le_of_ble_eq_true rfl⟩ dX6_countHidden_36) (fun r_36 q_36 => ?_)
        obtain rfl : r_36 = (nI (nhA (HL i))) := q_36
        refine r_eqi (show nI (nhA (HL i)) = nI (HL (i + 1)) from by rw [hk5]) ?_
        refine lv_istore (lv' := [(5, .int (nI (HL (i + 1)))), (4, .int (nI (i + 1))), (0, .ref b6), (1, .int (nI p9)), (2, .int (nI kn)), (3, .int (nI (cntF (hidB n R k cs sk p9 kn) (i + 1))))]) X.1 X.2.1 dX6_countHidden_39 hl (by decide) rfl (fun ls hl => ?_)
        refine lv_goto (tgt := 9) X.1 X.2.1 dX6_countHidden_41 (by decide) ?_
        exact ih (i + 1) (by omega) ls (lv_sub hl [2, 3, 4, 5, 1, 0] rfl)
      · have hy : (hidB n R k cs sk p9 kn) (HL i) = true := bI_1 c_25
        refine lv_iinc (v := (nI ((cntF (hidB n R k cs sk p9 kn) i) + 1))) (lv' := [(3, .int (nI ((cntF (hidB n R k cs sk p9 kn) i) + 1))), (0, .ref b6), (1, .int (nI p9)), (2, .int (nI kn)), (4, .int (nI i)), (5, .int (nI (HL i)))]) X.1 X.2.1 dX6_countHidden_28 hl (k := 3) rfl (nI_add (cntF (hidB n R k cs sk p9 kn) i) 1) (by decide) rfl (fun ls hl => ?_)
        rw [show ((nI ((cntF (hidB n R k cs sk p9 kn) i) + 1)) : Int32) = nI (cntF (hidB n R k cs sk p9 kn) (i + 1)) from by show _ = nI (cntF (hidB n R k cs sk p9 kn) i + (if (hidB n R k cs sk p9 kn) (HL i) = true then 1 else 0)); rw [if_pos hy]] at hl
        refine lv_iinc (v := (nI (i + 1))) (lv' := [(4, .int (nI (i + 1))), (3, .int (nI (cntF (hidB n R k cs sk p9 kn) (i + 1)))), (0, .ref b6), (1, .int (nI p9)), (2, .int (nI kn)), (5, .int (nI (HL i)))]) X.1 X.2.1 dX6_countHidden_31 hl (k := 4) rfl (nI_add i 1) (by decide) rfl (fun ls hl => ?_)
        refine lv_iload X.1 X.2.1 dX6_countHidden_34 (lv_at hl 5 rfl) ?_
        refine on_Si (run_S (As := [.int (nI (HL i))]) (rest := []) X (c_X1_handAfter l G hp (HL i) (by omega) (by omega)) (rp_blind _) (rp_at X hH hS) mf_X1_handAfter tw_455 tw_456 ⟨rfl, rfl, Nat.le_of_ble_eq_true rfl, Nat.le_of_ble_eq_true rfl⟩ hl.1 rfl rfl (Nat.le_of_ble_eq_true rfl) ⟨Nat.le_of_ble_eq_true rfl, Nat.le_of_ble_eq_true rfl⟩ dX6_countHidden_36) (fun r_36 q_36 => ?_)
        obtain rfl : r_36 = (nI (nhA (HL i))) := q_36
        refine r_eqi (show nI (nhA (HL i)) = nI (HL (i + 1)) from by rw [hk5]) ?_
        refine lv_istore (lv' := [(5, .int (nI (HL (i + 1)))), (4, .int (nI (i + 1))), (3, .int (nI (cntF (hidB n R k cs sk p9 kn) (i + 1)))), (0, .ref b6), (1, .int (nI p9)), (2, .int (nI kn))]) X.1 X.2.1 dX6_countHidden_39 hl (by decide) rfl (fun ls hl => ?_)
        refine lv_goto (tgt := 9) X.1 X.2.1 dX6_countHidden_41 (by decide) ?_
        exact ih (i + 1) (by omega) ls (lv_sub hl [3, 4, 5, 2, 1, 0] rfl)
  exact L9 15504 0 rfl ls (lv_sub hl [3, 4, 5, 2, 1, 0] rfl)

set_option maxHeartbeats 4000000 in
set_option maxRecDepth 100000 in
theorem c_X6_sumOfTricks (l : Launch) (G : HG) (hp : HP) (b6 rl au pa e0 e1 : Nat) (hb6 : hp b6 = some (obE rl au pa e0 e1)) (eR cR : Nat) (mR : Int32) (gR : Nat → Option Nat) (RA : Nat → Nat) (n : Nat) (R : Nat → Nat → Nat) (hU6 : RU G hp rl eR cR mR gR RA n R) (al p0 pn eA cA : Nat) (mA : Int32) (gA : Nat → Option Nat) (CA QA : Nat → Nat) (k : Nat) (cs : Nat → Nat → Int32) (sk : Bool) (hU9 : AU G hp au al p0 pn eA cA mA gA CA QA k cs sk) (p9 t9 ow : Nat) (hp9 : p9 < 2) (ht : t9 < 5) (how : ow = (if p9 = 0 then e0 else e1)) (how2 : ow ≤ 1048575) : Met l yX6_sumOfTricks [.code yX6_sumOfTricks cX6_sumOfTricks 8 (some .long)] { frames := 6, cells := 0, slots := 0, locals := 136 } (va_Pc [.ref b6, .int (nI p9), .int (nI t9)] (RP G hp)) (vp_Sl (fun r => r = lN (sumF (hidB n R k cs sk (1 - p9) ow) (trN t9 ow) 15504))) 0 0 (fun _ => False) := by
  refine ro_ofW (by decide) (Nat.le_of_ble_eq_true rfl) ?_
  intro p e s m args below meth c ls X hr hlk hH hl
  have hS : va_S (fun _ => False) s.heap s.heap [] := va_S.rf
  have hl : lv_has ls 8 [(0, .ref b6), (1, .int (nI p9)), (2, .int (nI t9))] := hl
  have hn := hU6.2.2.1
  have hk := hU9.2.2.2.1
  refine lv_aload_n X.1 X.2.1 dX6_sumOfTricks_0 rfl (lv_at hl 0 rfl) ?_
  refine lv_iload_n X.1 X.2.1 dX6_sumOfTricks_1 rfl (lv_at hl 1 rfl) ?_
  refine on_Si (run_V (C := RX6) (As := [.int (nI p9)]) (rest := []) X (c_X6_handOf l G hp b6 rl au pa e0 e1 hb6 p9 (by omega)) (rp_blind _) (rp_at X hH hS) (recv X hH hb6 (C := RX6) (T := TX6) (N := 5) rfl) mf_X6_handOf tw_189 tw_191 tw_0 ⟨rfl, rfl, Nat.le_of_ble_eq_true rfl, Nat.le_of_ble_eq_true rfl⟩ hl.1 rfl rfl (Nat.le_of_ble_eq_true rfl) ⟨Nat.le_of_ble_eq_true rfl, Nat.le_of_ble_eq_true rfl⟩ dX6_sumOfTricks_2) (fun r_2 q_2 => ?_)
  obtain rfl : r_2 = (nI (if p9 = 0 then e0 else e1)) := q_2
  refine r_eqi (show nI (if p9 = 0 then e0 else e1) = nI ow from by rw [how]) ?_
  refine lv_istore_n (lv' := [(3, .int (nI ow)), (0, .ref b6), (1, .int (nI p9)), (2, .int (nI t9))]) X.1 X.2.1 dX6_sumOfTricks_5 rfl hl (by decide) rfl (fun ls hl => ?_)
  refine lv_lconst (v := 0) X.1 X.2.1 dX6_sumOfTricks_6 (by decide) ?_
  refine lv_lstore (lv' := [(4, .long 0), (3, .int (nI ow)), (0, .ref b6), (1, .int (nI p9)), (2, .int (nI t9))]) X.1 X.2.1 dX6_sumOfTricks_7 hl (by decide) rfl (fun ls hl => ?_)
  refine lv_iconst (v := 0) X.1 X.2.1 dX6_sumOfTricks_9 (by decide) ?_
  refine lv_istore (lv' := [(6, .int 0), (4, .long 0), (3, .int (nI ow)), (0, .ref b6), (1, .int (nI p9)), (2, .int (nI t9))]) X.1 X.2.1 dX6_sumOfTricks_10 hl (by decide) rfl (fun ls hl => ?_)
  refine lv_bipush (v := 31) X.1 X.2.1 dX6_sumOfTricks_12 (by decide) ?_
  refine lv_istore (lv' := [(7, .int 31), (6, .int 0), (4, .long 0), (3, .int (nI ow)), (0, .ref b6), (1, .int (nI p9)), (2, .int (nI t9))]) X.1 X.2.1 dX6_sumOfTricks_14 hl (by decide) rfl (fun ls hl => ?_)
  rw [show (0 : Int64) = lN (sumF (hidB n R k cs sk (1 - p9) ow) (trN t9 ow) 0) from rfl] at hl
  have L16 : ∀ (f : Nat) (i : Nat), i + f = 15504 → ∀ ls, lv_has ls 8 [(0, .ref b6), (1, .int (nI p9)), (2, .int (nI t9)), (3, .int (nI ow)), (4, .long (lN (sumF (hidB n R k cs sk (1 - p9) ow) (trN t9 ow) i))), (6, .int (nI i)), (7, .int (nI (HL i)))] → W p l e ({ frames := 6, cells := 0, slots := 0, locals := 136 } : Room) s m args below meth c s.heap [] 0 0 (MQ below (vp_Sl (fun r => r = lN (sumF (hidB n R k cs sk (1 - p9) ow) (trN t9 ow) 15504))) args s 0 0 (fun _ => False)) (F0 m 16 ls []) := by
    intro f
    induction f with
    | zero =>
      intro i h0 ls hl
      have hi9 : i = 15504 := by omega
      refine lv_iload X.1 X.2.1 dX6_sumOfTricks_16 (lv_at hl 5 rfl) ?_
      refine lv_sipush (v := 15504) X.1 X.2.1 dX6_sumOfTricks_18 (by decide) ?_
      refine lv_icmp_ge (tgt := 63) X.1 X.2.1 dX6_sumOfTricks_21 (by decide) (fun c_21 => ?_) (fun c_21 => absurd (nI_le (a := 15504) (b := i) (by omega) (by omega)) c_21)
      refine lv_lload X.1 X.2.1 dX6_sumOfTricks_63 (lv_at hl 4 rfl) ?_
      exact ro_l X hr hlk (by show lN _ = lN _; rw [hi9]) dX6_sumOfTricks_65
    | succ f ih =>
      intro i h0 ls hl
      have hlt : i < 15504 := by omega
      obtain ⟨hk1, hk2, hk3, hk4, hk5, hk6, hk7⟩ := HL_ok hlt
      have hsl := sumF_le (hidB n R k cs sk (1 - p9) ow) (trN t9 ow) (trN_le t9 ow) i
      have hcl := cntF_le (hidB n R k cs sk (1 - p9) ow) i
      have htr := trN_le t9 ow (HL i)
      refine lv_iload X.1 X.2.1 dX6_sumOfTricks_16 (lv_at hl 5 rfl) ?_
      refine lv_sipush (v := 15504) X.1 X.2.1 dX6_sumOfTricks_18 (by decide) ?_
      refine lv_icmp_ge (tgt := 63) X.1 X.2.1 dX6_sumOfTricks_21 (by decide) (fun c_21 => absurd c_21 (nI_ge (a := i) (b := 15504) (by omega) (by decide))) (fun c_21 => ?_)
      refine lv_aload_n X.1 X.2.1 dX6_sumOfTricks_24 rfl (lv_at hl 0 rfl) ?_
      refine lv_iconst (v := 1) X.1 X.2.1 dX6_sumOfTricks_25 (by decide) ?_
      refine lv_iload_n X.1 X.2.1 dX6_sumOfTricks_26 rfl (lv_at hl 1 rfl) ?_
      refine lv_isub X.1 X.2.1 dX6_sumOfTricks_27 ?_
      refine r_eqi (show (((1 : Int32) - (nI p9)) : Int32) = nI (1 - p9) from pk_sub (a := 1) (b := p9) (by omega)) ?_
      refine lv_iload_n X.1 X.2.1 dX6_sumOfTricks_28 rfl (lv_at hl 3 rfl) ?_
      refine lv_iload X.1 X.2.1 dX6_sumOfTricks_29 (lv_at hl 6 rfl) ?_
      refine on_Si (run_V (C := RX6) (As := [.int (nI (1 - p9)), .int (nI ow), .int (nI (HL i))]) (rest := []) X (c_X6_isHidden l G hp b6 rl au pa e0 e1 hb6 eR cR mR gR RA n R hU6 al p0 pn eA cA mA gA CA QA k cs sk hU9 (1 - p9) ow (HL i) (by omega) (by omega) (by omega)) (rp_blind _) (rp_at X hH hS) (recv X hH hb6 (C := RX6) (T := TX6) (N := 5) rfl) mf_X6_isHidden tw_545 tw_547 tw_12 ⟨rfl, rfl, Nat.le_of_ble_eq_true rfl, Nat.le_of_ble_eq_true rfl⟩ hl.1 rfl rfl (Nat.le_of_ble_eq_true rfl) ⟨Nat.le_of_ble_eq_true rfl, Nat.le_of_ble_eq_true rfl⟩ dX6_sumOfTricks_31) (fun r_31 q_31 => ?_)
      obtain rfl : r_31 = (bI (hidB n R k cs sk (1 - p9) ow (HL i))) := q_31
      refine lv_if_eq (tgt := 50) X.1 X.2.1 dX6_sumOfTricks_34 (by decide) (fun c_34 => ?_) (fun c_34 => ?_)
      · have hy : ¬ (hidB n R k cs sk (1 - p9) ow) (HL i) = true := fun q => Bool.false_ne_true ((bI_0 c_34).symm.trans q)
        rw [show ((lN (sumF (hidB n R k cs sk (1 - p9) ow) (trN t9 ow) i)) : Int64) = lN (sumF (hidB n R k cs sk (1 - p9) ow) (trN t9 ow) (i + 1)) from by exact congrArg lN (sumF_no (trN t9 ow) hy).symm] at hl
        refine lv_iinc (v := (nI (i + 1))) (lv' := [(6, .int (nI (i + 1))), (0, .ref b6), (1, .int (nI p9)), (2, .int (nI t9)), (3, .int (nI ow)), (4, .long (lN (sumF (hidB n R k cs sk (1 - p9) ow) (trN t9 ow) (i + 1)))), (7, .int (nI (HL i)))]) X.1 X.2.1 dX6_sumOfTricks_50 hl (k := 5) rfl (nI_add i 1) (by decide) rfl (fun ls hl => ?_)
        refine lv_iload X.1 X.2.1 dX6_sumOfTricks_53 (lv_at hl 6 rfl) ?_
        refine on_Si (run_S (As := [.int (nI (HL i))]) (rest := []) X (c_X1_handAfter l G hp (HL i) (by omega) (by omega)) (rp_blind _) (rp_at X hH hS) mf_X1_handAfter tw_455 tw_456 ⟨rfl, rfl, Nat.le_of_ble_eq_true rfl, Nat.le_of_ble_eq_true rfl⟩ hl.1 rfl rfl (Nat.le_of_ble_eq_true rfl) ⟨Nat.le_of_ble_eq_true rfl, Nat.le_of_ble_eq_true rfl⟩ dX6_sumOfTricks_55) (fun r_55 q_55 => ?_)
        obtain rfl : r_55 = (nI (nhA (HL i))) := q_55
        refine r_eqi (show nI (nhA (HL i)) = nI (HL (i + 1)) from by rw [hk5]) ?_
        refine lv_istore (lv' := [(7, .int (nI (HL (i + 1)))), (6, .int (nI (i + 1))), (0, .ref b6), (1, .int (nI p9)), (2, .int (nI t9)), (3, .int (nI ow)), (4, .long (lN (sumF (hidB n R k cs sk (1 - p9) ow) (trN t9 ow) (i + 1))))]) X.1 X.2.1 dX6_sumOfTricks_58 hl (by decide) rfl (fun ls hl => ?_)
        refine lv_goto (tgt := 16) X.1 X.2.1 dX6_sumOfTricks_60 (by decide) ?_
        exact ih (i + 1) (by omega) ls (lv_sub hl [2, 3, 4, 5, 6, 1, 0] rfl)
      · have hy : (hidB n R k cs sk (1 - p9) ow) (HL i) = true := bI_1 c_34
        refine lv_lload X.1 X.2.1 dX6_sumOfTricks_37 (lv_at hl 4 rfl) ?_
        refine lv_iload_n X.1 X.2.1 dX6_sumOfTricks_39 rfl (lv_at hl 2 rfl) ?_
        refine lv_iload_n X.1 X.2.1 dX6_sumOfTricks_40 rfl (lv_at hl 3 rfl) ?_
        refine lv_iload X.1 X.2.1 dX6_sumOfTricks_41 (lv_at hl 6 rfl) ?_
        refine on_Si (run_S (As := [.int (nI t9), .int (nI ow), .int (nI (HL i))]) (rest := [.long (lN (sumF (hidB n R k cs sk (1 - p9) ow) (trN t9 ow) i))]) X (c_X1_tricksOf l G hp t9 ow (HL i) (by omega) (by omega) (by omega)) (rp_blind _) (rp_at X hH hS) mf_X1_tricksOf tw_316 tw_317 ⟨rfl, rfl, Nat.le_of_ble_eq_true rfl, Nat.le_of_ble_eq_true rfl⟩ hl.1 rfl rfl (Nat.le_of_ble_eq_true rfl) ⟨Nat.le_of_ble_eq_true rfl, Nat.le_of_ble_eq_true rfl⟩ dX6_sumOfTricks_43) (fun r_43 q_43 => ?_)
        obtain rfl : r_43 = (nI (trN t9 ow (HL i))) := q_43
        refine lv_i2l X.1 X.2.1 dX6_sumOfTricks_46 rfl ?_
        refine r_eql (show (((nI (trN t9 ow (HL i))).toInt64) : Int64) = lN ((trN t9 ow (HL i))) from nI_l (by omega)) ?_
        refine lv_ladd X.1 X.2.1 dX6_sumOfTricks_47 ?_
        refine r_eql (show (((lN (sumF (hidB n R k cs sk (1 - p9) ow) (trN t9 ow) i)) + (lN ((trN t9 ow (HL i))))) : Int64) = lN (sumF (hidB n R k cs sk (1 - p9) ow) (trN t9 ow) i + trN t9 ow (HL i)) from lN_add _ _) ?_
        refine lv_lstore (lv' := [(4, .long (lN (sumF (hidB n R k cs sk (1 - p9) ow) (trN t9 ow) i + trN t9 ow (HL i)))), (0, .ref b6), (1, .int (nI p9)), (2, .int (nI t9)), (3, .int (nI ow)), (6, .int (nI i)), (7, .int (nI (HL i)))]) X.1 X.2.1 dX6_sumOfTricks_48 hl (by decide) rfl (fun ls hl => ?_)
        rw [show ((lN (sumF (hidB n R k cs sk (1 - p9) ow) (trN t9 ow) i + trN t9 ow (HL i))) : Int64) = lN (sumF (hidB n R k cs sk (1 - p9) ow) (trN t9 ow) (i + 1)) from by exact congrArg lN (congrArg (sumF (hidB n R k cs sk (1 - p9) ow) (trN t9 ow) i + ·) (if_pos hy)).symm] at hl
        refine lv_iinc (v := (nI (i + 1))) (lv' := [(6, .int (nI (i + 1))), (4, .long (lN (sumF (hidB n R k cs sk (1 - p9) ow) (trN t9 ow) (i + 1)))), (0, .ref b6), (1, .int (nI p9)), (2, .int (nI t9)), (3, .int (nI ow)), (7, .int (nI (HL i)))]) X.1 X.2.1 dX6_sumOfTricks_50 hl (k := 5) rfl (nI_add i 1) (by decide) rfl (fun ls hl => ?_)
        refine lv_iload X.1 X.2.1 dX6_sumOfTricks_53 (lv_at hl 6 rfl) ?_
        refine on_Si (run_S (As := [.int (nI (HL i))]) (rest := []) X (c_X1_handAfter l G hp (HL i) (by omega) (by omega)) (rp_blind _) (rp_at X hH hS) mf_X1_handAfter tw_455 tw_456 ⟨rfl, rfl, Nat.le_of_ble_eq_true rfl, Nat.le_of_ble_eq_true rfl⟩ hl.1 rfl rfl (Nat.le_of_ble_eq_true rfl) ⟨Nat.le_of_ble_eq_true rfl, Nat.le_of_ble_eq_true rfl⟩ dX6_sumOfTricks_55) (fun r_55 q_55 => ?_)
        obtain rfl : r_55 = (nI (nhA (HL i))) := q_55
        refine r_eqi (show nI (nhA (HL i)) = nI (HL (i + 1)) from by rw [hk5]) ?_
        refine lv_istore (lv' := [(7, .int (nI (HL (i + 1)))), (6, .int (nI (i + 1))), (4, .long (lN (sumF (hidB n R k cs sk (1 - p9) ow) (trN t9 ow) (i + 1)))), (0, .ref b6), (1, .int (nI p9)), (2, .int (nI t9)), (3, .int (nI ow))]) X.1 X.2.1 dX6_sumOfTricks_58 hl (by decide) rfl (fun ls hl => ?_)
        refine lv_goto (tgt := 16) X.1 X.2.1 dX6_sumOfTricks_60 (by decide) ?_
        exact ih (i + 1) (by omega) ls (lv_sub hl [3, 4, 5, 6, 2, 1, 0] rfl)
  exact L16 15504 0 rfl ls (lv_sub hl [4, 5, 6, 3, 2, 1, 0] rfl)
