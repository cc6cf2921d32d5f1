set_option maxHeartbeats 4000000 in
set_option maxRecDepth 100000 in
theorem c_L_isTold (l : Launch) (G : HG) (A : Nat → Prop) (hp : HP) (sz : Nat) (hA : ∀ q, sz ≤ q → A q) (hO : Ow A hp) (b6 ra ca : Nat) (n : Nat) (R : Nat → Nat → Nat) (hd : Nat → Nat) (k : Nat) (cs : Nat → Nat → Int32) (sk : Bool) (pn : Nat) (pt : Nat → Nat) (g gc : Nat → Int32) (hC : CP G hp [ra, ca] b6 (n, R, hd, k, cs, sk, pn, pt)) (hra : hp ra = some (.inl (G.2.1 1, 48, .inl g))) (hca : hp ca = some (.inl (G.2.1 1, 52, .inl gc))) (hg : RG n R g) (hcg : CG k cs sk gc) (hh : ∀ i, i < 2 → hd i ≤ 1048575 ∧ sizeH (hd i) = 5) (p9 : Nat) (hp9 : p9 < 2) (kn : Nat) (hkn : kn ≤ 1048575) : Met l yL_isTold [.code yL_isTold cL_isTold 21 (some .boolean)] { frames := 8, cells := 3, slots := 15, locals := 191 } (va_Pc [.ref b6, .ref ra, .int (nI n), .ref ca, .int (nI k), .int (bI sk), .int (nI p9), .int (nI kn)] (WP G A sz hp)) (va_Qi (fun r hp1 => r = 1 ∧ ∀ q e, hp q = some e → hp1 q = some e) (WB G A) A) 3 15 A := by
  refine wr_ofW (by decide) (Nat.le_of_ble_eq_true rfl) hO ?_
  intro p e s m args below meth c ls X hr hlk hnm hsz hW hl
  have hA : ∀ q, s.heap.size ≤ q → A q := fun q h => hA q (by omega)
  have hl : lv_has ls 21 [(0, .ref b6), (1, .ref ra), (2, .int (nI n)), (3, .ref ca), (4, .int (nI k)), (5, .int (bI sk)), (6, .int (nI p9)), (7, .int (nI kn))] := hl
  have hn8 := hg.1
  have hk12 := hcg.1
  have hown := hh (1 - p9) (by omega)
  have hkp : ∀ q e, hp q = some e → hp q = some e := fun _ _ h => h
  obtain ⟨P, eP⟩ : ∃ P : Nat → Bool, P = hidB n R k cs sk p9 kn := ⟨_, rfl⟩
  refine lv_iconst (v := 0) X.1 X.2.1 dL_isTold_0 (by decide) ?_
  refine lv_istore (lv' := [(8, .int 0), (0, .ref b6), (1, .ref ra), (2, .int (nI n)), (3, .ref ca), (4, .int (nI k)), (5, .int (bI sk)), (6, .int (nI p9)), (7, .int (nI kn))]) X.1 X.2.1 dL_isTold_1 hl (by decide) rfl (fun ls hl => ?_)
  refine r_const X tw_528 dL_isTold_3 ?_
  refine lv_istore (lv' := [(9, .int 1048575), (8, .int 0), (0, .ref b6), (1, .ref ra), (2, .int (nI n)), (3, .ref ca), (4, .int (nI k)), (5, .int (bI sk)), (6, .int (nI p9)), (7, .int (nI kn))]) X.1 X.2.1 dL_isTold_5 hl (by decide) rfl (fun ls hl => ?_)
  refine lv_iconst (v := 0) X.1 X.2.1 dL_isTold_7 (by decide) ?_
  refine lv_istore (lv' := [(10, .int 0), (9, .int 1048575), (8, .int 0), (0, .ref b6), (1, .ref ra), (2, .int (nI n)), (3, .ref ca), (4, .int (nI k)), (5, .int (bI sk)), (6, .int (nI p9)), (7, .int (nI kn))]) X.1 X.2.1 dL_isTold_8 hl (by decide) rfl (fun ls hl => ?_)
  refine lv_iconst (v := 5) X.1 X.2.1 dL_isTold_10 (by decide) ?_
  refine r_newI (k := 1) (n := 5) X hA hW (N := 5) (by decide) (by decide) (by decide) (by omega) (by omega) (Nat.le_of_ble_eq_true rfl) (Nat.le_of_ble_eq_true rfl) tw_574 dL_isTold_11 (fun la hp_1 H hW eh_2 hn_3 => ?_)
  have f_4 : hp_1 la = some (.inl (G.2.1 1, 5, .inl (fun _ => 0))) := by rw [eh_2]; exact va_up_self _ _ _
  have hC := cp_new hC eh_2 hn_3
  have hk0_la := kp_none hkp hn_3
  have hkp := kp_up hkp eh_2 hk0_la
  have ne_ra_la : ra ≠ la := ne_none hra hn_3
  have ne_ca_la : ca ≠ la := ne_none hca hn_3
  refine lv_astore (lv' := [(11, .ref la), (10, .int 0), (9, .int 1048575), (8, .int 0), (0, .ref b6), (1, .ref ra), (2, .int (nI n)), (3, .ref ca), (4, .int (nI k)), (5, .int (bI sk)), (6, .int (nI p9)), (7, .int (nI kn))]) X.1 X.2.1 dL_isTold_13 hl (by decide) rfl (fun ls hl => ?_)
  refine lv_iconst (v := 5) X.1 X.2.1 dL_isTold_15 (by decide) ?_
  refine r_newI (k := 2) (n := 10) X hA hW (N := 5) (by decide) (by decide) (by decide) (by omega) (by omega) (Nat.le_of_ble_eq_true rfl) (Nat.le_of_ble_eq_true rfl) tw_574 dL_isTold_16 (fun ma hp_5 H hW eh_6 hn_7 => ?_)
  have f_8 : hp_5 ma = some (.inl (G.2.1 1, 5, .inl (fun _ => 0))) := by rw [eh_6]; exact va_up_self _ _ _
  have hC := cp_new hC eh_6 hn_7
  have hk0_ma := kp_none hkp hn_7
  have hkp := kp_up hkp eh_6 hk0_ma
  have ne_ra_ma : ra ≠ ma := ne_none (show (_ : Option va_E) = some (.inl (G.2.1 1, 48, .inl g)) by rw [eh_2, va_up_ne _ _ (ne_none hra hn_3)]; exact hra) hn_7
  have ne_ca_ma : ca ≠ ma := ne_none (show (_ : Option va_E) = some (.inl (G.2.1 1, 52, .inl gc)) by rw [eh_2, va_up_ne _ _ (ne_none hca hn_3)]; exact hca) hn_7
  have ne_la_ma : la ≠ ma := ne_none f_4 hn_7
  refine lv_astore (lv' := [(12, .ref ma), (11, .ref la), (10, .int 0), (9, .int 1048575), (8, .int 0), (0, .ref b6), (1, .ref ra), (2, .int (nI n)), (3, .ref ca), (4, .int (nI k)), (5, .int (bI sk)), (6, .int (nI p9)), (7, .int (nI kn))]) X.1 X.2.1 dL_isTold_18 hl (by decide) rfl (fun ls hl => ?_)
  refine lv_iconst (v := 5) X.1 X.2.1 dL_isTold_20 (by decide) ?_
  refine r_newI (k := 3) (n := 15) X hA hW (N := 5) (by decide) (by decide) (by decide) (by omega) (by omega) (Nat.le_of_ble_eq_true rfl) (Nat.le_of_ble_eq_true rfl) tw_574 dL_isTold_21 (fun sa hp_9 H hW eh_10 hn_11 => ?_)
  have f_12 : hp_9 sa = some (.inl (G.2.1 1, 5, .inl (fun _ => 0))) := by rw [eh_10]; exact va_up_self _ _ _
  have hC := cp_new hC eh_10 hn_11
  have hk0_sa := kp_none hkp hn_11
  have hkp := kp_up hkp eh_10 hk0_sa
  have ne_ra_sa : ra ≠ sa := ne_none (show (_ : Option va_E) = some (.inl (G.2.1 1, 48, .inl g)) by rw [eh_6, va_up_ne _ _ (ne_none (show (_ : Option va_E) = some (.inl (G.2.1 1, 48, .inl g)) by rw [eh_2, va_up_ne _ _ (ne_none hra hn_3)]; exact hra) hn_7), eh_2, va_up_ne _ _ (ne_none hra hn_3)]; exact hra) hn_11
  have ne_ca_sa : ca ≠ sa := ne_none (show (_ : Option va_E) = some (.inl (G.2.1 1, 52, .inl gc)) by rw [eh_6, va_up_ne _ _ (ne_none (show (_ : Option va_E) = some (.inl (G.2.1 1, 52, .inl gc)) by rw [eh_2, va_up_ne _ _ (ne_none hca hn_3)]; exact hca) hn_7), eh_2, va_up_ne _ _ (ne_none hca hn_3)]; exact hca) hn_11
  have ne_la_sa : la ≠ sa := ne_none (show (_ : Option va_E) = some (.inl (G.2.1 1, 5, .inl (fun _ => 0))) by rw [eh_6, va_up_ne _ _ (ne_none f_4 hn_7)]; exact f_4) hn_11
  have ne_ma_sa : ma ≠ sa := ne_none f_8 hn_11
  refine lv_astore (lv' := [(13, .ref sa), (12, .ref ma), (11, .ref la), (10, .int 0), (9, .int 1048575), (8, .int 0), (0, .ref b6), (1, .ref ra), (2, .int (nI n)), (3, .ref ca), (4, .int (nI k)), (5, .int (bI sk)), (6, .int (nI p9)), (7, .int (nI kn))]) X.1 X.2.1 dL_isTold_23 hl (by decide) rfl (fun ls hl => ?_)
  refine lv_aload_n X.1 X.2.1 dL_isTold_25 rfl (lv_at hl 6 rfl) ?_
  refine lv_iconst (v := 1) X.1 X.2.1 dL_isTold_26 (by decide) ?_
  refine lv_iload X.1 X.2.1 dL_isTold_27 (lv_at hl 12 rfl) ?_
  refine lv_isub X.1 X.2.1 dL_isTold_29 ?_
  refine r_eqi (show (((1 : Int32) - (nI p9)) : Int32) = nI (1 - p9) from pk_sub (a := 1) (b := p9) (by omega)) ?_
  refine lv_iconst (v := 0) X.1 X.2.1 dL_isTold_30 (by decide) ?_
  refine lc_ri (z := (n, R, hd, k, cs, sk, pn, pt)) (As := [.int (nI (1 - p9)), .int 0]) (rest := []) X hW.1 hW.2.2 hC (fun hp9 hz9 => c_X6_hand l G hp9 b6 n R hd k cs sk pn pt hz9 (nI (1 - p9)) (0 : Int32)) mf_X6_hand tw_182 tw_183 tw_184 ⟨rfl, rfl, Nat.le_of_ble_eq_true rfl, Nat.le_of_ble_eq_true rfl⟩ hl.1 rfl rfl (Nat.le_of_ble_eq_true rfl) ⟨Nat.le_of_ble_eq_true rfl, Nat.le_of_ble_eq_true rfl⟩ dL_isTold_31 ?_
  refine r_eqi (show ((fHand hd (nI (1 - p9)) (0 : Int32)) : Int32) = nI (hd (1 - p9)) from fh_0 (x := (1 - p9)) (by omega)) ?_
  refine lv_istore (lv' := [(14, .int (nI (hd (1 - p9)))), (13, .ref sa), (12, .ref ma), (11, .ref la), (10, .int 0), (9, .int 1048575), (8, .int 0), (0, .ref b6), (1, .ref ra), (2, .int (nI n)), (3, .ref ca), (4, .int (nI k)), (5, .int (bI sk)), (6, .int (nI p9)), (7, .int (nI kn))]) X.1 X.2.1 dL_isTold_34 hl (by decide) rfl (fun ls hl => ?_)
  have J48 : ∀ (ow : Bool) (ls : Array Slot), (ow = decide (kn = hd (1 - p9))) → lv_has ls 21 [(14, .int (nI (hd (1 - p9)))), (13, .ref sa), (12, .ref ma), (11, .ref la), (10, .int 0), (9, .int 1048575), (8, .int 0), (0, .ref b6), (1, .ref ra), (2, .int (nI n)), (3, .ref ca), (4, .int (nI k)), (5, .int (bI sk)), (6, .int (nI p9)), (7, .int (nI kn))] → W p l e ({ frames := 8, cells := 3, slots := 15, locals := 191 } : Room) s m args below meth c H [] 3 15 (MQ below (va_Qi (fun r hp1 => r = 1 ∧ ∀ q e, hp q = some e → hp1 q = some e) (WB G A) A) args s 3 15 A) (F0 m 48 ls [.int (bI ow)]) := by
    intro ow ls j0 hl
    refine lv_istore (lv' := [(15, .int (bI ow)), (14, .int (nI (hd (1 - p9)))), (13, .ref sa), (12, .ref ma), (11, .ref la), (10, .int 0), (9, .int 1048575), (8, .int 0), (0, .ref b6), (1, .ref ra), (2, .int (nI n)), (3, .ref ca), (4, .int (nI k)), (5, .int (bI sk)), (6, .int (nI p9)), (7, .int (nI kn))]) X.1 X.2.1 dL_isTold_48 hl (by decide) rfl (fun ls hl => ?_)
    refine lv_bipush (v := 31) X.1 X.2.1 dL_isTold_50 (by decide) ?_
    refine lv_istore (lv' := [(16, .int 31), (15, .int (bI ow)), (14, .int (nI (hd (1 - p9)))), (13, .ref sa), (12, .ref ma), (11, .ref la), (10, .int 0), (9, .int 1048575), (8, .int 0), (0, .ref b6), (1, .ref ra), (2, .int (nI n)), (3, .ref ca), (4, .int (nI k)), (5, .int (bI sk)), (6, .int (nI p9)), (7, .int (nI kn))]) X.1 X.2.1 dL_isTold_52 hl (by decide) rfl (fun ls hl => ?_)
    have L54 : ∀ (f : Nat) (i : Nat) (gl : Nat → Int32) (gm : Nat → Int32) (gs : Nat → Int32) (hpL : HP) (H : Heap) (locs : List Loc), WS s G A hpL H locs → CP G hpL [sa, ma, la, ra, ca] b6 (n, R, hd, k, cs, sk, pn, pt) → hpL ra = some (.inl (G.2.1 1, 48, .inl g)) → hpL ca = some (.inl (G.2.1 1, 52, .inl gc)) → hpL la = some (.inl (G.2.1 1, 5, .inl gl)) → hpL ma = some (.inl (G.2.1 1, 5, .inl gm)) → hpL sa = some (.inl (G.2.1 1, 5, .inl gs)) → (i + f = 15504) → (∀ q e, hp q = some e → hpL q = some e) → (TX P ow (hd (1 - p9)) (fun _ => i) gl gm gs) → ∀ ls, lv_has ls 21 [(0, .ref b6), (1, .ref ra), (2, .int (nI n)), (3, .ref ca), (4, .int (nI k)), (5, .int (bI sk)), (6, .int (nI p9)), (7, .int (nI kn)), (8, .int (nI (cntF P i))), (9, .int (nI (alN P i))), (10, .int (nI ((shF P 11 i).2))), (11, .ref la), (12, .ref ma), (13, .ref sa), (14, .int (nI (hd (1 - p9)))), (15, .int (bI ow)), (16, .int (nI (HL i)))] → W p l e ({ frames := 8, cells := 3, slots := 15, locals := 191 } : Room) s m args below meth c H locs 3 15 (MQ below (va_Qi (fun r hp1 => r = 1 ∧ ∀ q e, hp q = some e → hp1 q = some e) (WB G A) A) args s 3 15 A) (F0 m 54 ls []) := by
      intro f
      induction f with
      | zero =>
        intro i gl gm gs hpL H locs hW hC w_ra w_ca w_la w_ma w_sa h0 h1 h2 ls hl
        have hkp := h1
        have hi9 : i = 15504 := by omega
        have hcl := cntF_le P i
        refine lv_iload X.1 X.2.1 dL_isTold_54 (lv_at hl 16 rfl) ?_
        refine r_const X tw_529 dL_isTold_56 ?_
        refine lv_icmp_ge (tgt := 270) X.1 X.2.1 dL_isTold_58 (by decide) (fun c_58 => ?_) (fun c_58 => absurd (he_out (by omega)) c_58)
        refine lv_aload_n X.1 X.2.1 dL_isTold_270 rfl (lv_at hl 0 rfl) ?_
        refine lv_iload X.1 X.2.1 dL_isTold_271 (lv_at hl 6 rfl) ?_
        refine lv_iload X.1 X.2.1 dL_isTold_273 (lv_at hl 7 rfl) ?_
        refine lc_ri (z := (n, R, hd, k, cs, sk, pn, pt)) (As := [.int (nI p9), .int (nI kn)]) (rest := []) X hW.1 hW.2.2 hC (fun hp9 hz9 => c_X6_hands l G hp9 b6 n R hd k cs sk pn pt hz9 (nI p9) (nI kn)) mf_X6_hands tw_536 tw_537 tw_538 ⟨rfl, rfl, Nat.le_of_ble_eq_true rfl, Nat.le_of_ble_eq_true rfl⟩ hl.1 rfl rfl (Nat.le_of_ble_eq_true rfl) ⟨Nat.le_of_ble_eq_true rfl, Nat.le_of_ble_eq_true rfl⟩ dL_isTold_275 ?_
        refine r_eqi (show ((fHands n R k cs sk (nI p9) (nI kn)) : Int32) = nI (cntF P i) from fn_i eP hi9 hp9 hkn) ?_
        refine lv_iload X.1 X.2.1 dL_isTold_278 (lv_at hl 8 rfl) ?_
        refine lv_icmp_ne (tgt := 333) X.1 X.2.1 dL_isTold_280 (by decide) (fun c_280 => absurd rfl c_280) (fun c_280 => ?_)
        by_cases hf : cntF P i = 0
        · refine lv_aload_n X.1 X.2.1 dL_isTold_283 rfl (lv_at hl 0 rfl) ?_
          refine lv_iload X.1 X.2.1 dL_isTold_284 (lv_at hl 6 rfl) ?_
          refine lv_iload X.1 X.2.1 dL_isTold_286 (lv_at hl 7 rfl) ?_
          refine lv_bipush (v := 10) X.1 X.2.1 dL_isTold_288 (by decide) ?_
          refine lc_ri (z := (n, R, hd, k, cs, sk, pn, pt)) (As := [.int (nI p9), .int (nI kn), .int 10]) (rest := []) X hW.1 hW.2.2 hC (fun hp9 hz9 => c_X6_shown l G hp9 b6 n R hd k cs sk pn pt hz9 (nI p9) (nI kn) (10 : Int32)) mf_X6_shown tw_549 tw_550 tw_551 ⟨rfl, rfl, Nat.le_of_ble_eq_true rfl, Nat.le_of_ble_eq_true rfl⟩ hl.1 rfl rfl (Nat.le_of_ble_eq_true rfl) ⟨Nat.le_of_ble_eq_true rfl, Nat.le_of_ble_eq_true rfl⟩ dL_isTold_290 ?_
          refine r_eqi (show ((fShown n R k cs sk (nI p9) (nI kn) (10 : Int32)) : Int32) = (-6) from (fw_i (w := 10) eP hi9 hp9 hkn (by omega)).trans (if_pos hf)) ?_
          refine lv_iload X.1 X.2.1 dL_isTold_293 (lv_at hl 8 rfl) ?_
          refine lv_if_ne (tgt := 303) X.1 X.2.1 dL_isTold_295 (by decide) (fun c_295 => absurd (show nI (cntF P i) = 0 from by rw [hf]; rfl) c_295) (fun c_295 => ?_)
          refine lv_bipush (v := (-6)) X.1 X.2.1 dL_isTold_298 (by decide) ?_
          refine lv_goto (tgt := 305) X.1 X.2.1 dL_isTold_300 (by decide) ?_
          refine lv_icmp_ne (tgt := 333) X.1 X.2.1 dL_isTold_305 (by decide) (fun c_305 => absurd (by decide) c_305) (fun c_305 => ?_)
          refine lv_aload_n X.1 X.2.1 dL_isTold_308 rfl (lv_at hl 0 rfl) ?_
          refine lv_iload X.1 X.2.1 dL_isTold_309 (lv_at hl 6 rfl) ?_
          refine lv_iload X.1 X.2.1 dL_isTold_311 (lv_at hl 7 rfl) ?_
          refine lv_bipush (v := 11) X.1 X.2.1 dL_isTold_313 (by decide) ?_
          refine lc_ri (z := (n, R, hd, k, cs, sk, pn, pt)) (As := [.int (nI p9), .int (nI kn), .int 11]) (rest := []) X hW.1 hW.2.2 hC (fun hp9 hz9 => c_X6_shown l G hp9 b6 n R hd k cs sk pn pt hz9 (nI p9) (nI kn) (11 : Int32)) mf_X6_shown tw_549 tw_550 tw_551 ⟨rfl, rfl, Nat.le_of_ble_eq_true rfl, Nat.le_of_ble_eq_true rfl⟩ hl.1 rfl rfl (Nat.le_of_ble_eq_true rfl) ⟨Nat.le_of_ble_eq_true rfl, Nat.le_of_ble_eq_true rfl⟩ dL_isTold_315 ?_
          refine r_eqi (show ((fShown n R k cs sk (nI p9) (nI kn) (11 : Int32)) : Int32) = (-6) from (fw_i (w := 11) eP hi9 hp9 hkn (by omega)).trans (if_pos hf)) ?_
          refine lv_iload X.1 X.2.1 dL_isTold_318 (lv_at hl 8 rfl) ?_
          refine lv_if_ne (tgt := 328) X.1 X.2.1 dL_isTold_320 (by decide) (fun c_320 => absurd (show nI (cntF P i) = 0 from by rw [hf]; rfl) c_320) (fun c_320 => ?_)
          refine lv_bipush (v := (-6)) X.1 X.2.1 dL_isTold_323 (by decide) ?_
          refine lv_goto (tgt := 330) X.1 X.2.1 dL_isTold_325 (by decide) ?_
          refine lv_icmp_eq (tgt := 335) X.1 X.2.1 dL_isTold_330 (by decide) (fun c_330 => ?_) (fun c_330 => absurd (by decide) c_330)
          refine lv_iconst (v := 0) X.1 X.2.1 dL_isTold_335 (by decide) ?_
          refine lv_istore (lv' := [(16, .int 0), (0, .ref b6), (1, .ref ra), (2, .int (nI n)), (3, .ref ca), (4, .int (nI k)), (5, .int (bI sk)), (6, .int (nI p9)), (7, .int (nI kn)), (8, .int (nI (cntF P i))), (9, .int (nI (alN P i))), (10, .int (nI ((shF P 11 i).2))), (11, .ref la), (12, .ref ma), (13, .ref sa), (14, .int (nI (hd (1 - p9)))), (15, .int (bI ow))]) X.1 X.2.1 dL_isTold_336 hl (by decide) rfl (fun ls hl => ?_)
          have L338x : ∀ (fx : Nat) (x9 : Nat), x9 + fx = 5 → ∀ ls, lv_has ls 21 [(0, .ref b6), (1, .ref ra), (2, .int (nI n)), (3, .ref ca), (4, .int (nI k)), (5, .int (bI sk)), (6, .int (nI p9)), (7, .int (nI kn)), (8, .int (nI (cntF P i))), (9, .int (nI (alN P i))), (10, .int (nI ((shF P 11 i).2))), (11, .ref la), (12, .ref ma), (13, .ref sa), (14, .int (nI (hd (1 - p9)))), (15, .int (bI ow)), (16, .int (nI x9))] → W p l e ({ frames := 8, cells := 3, slots := 15, locals := 191 } : Room) s m args below meth c H locs 3 15 (MQ below (va_Qi (fun r hp1 => r = 1 ∧ ∀ q e, hp q = some e → hp1 q = some e) (WB G A) A) args s 3 15 A) (F0 m 338 ls []) := by
            intro fx
            induction fx with
            | zero =>
              intro x9 hx0 ls hl
              refine lv_iload X.1 X.2.1 dL_isTold_338 (lv_at hl 16 rfl) ?_
              refine lv_iconst (v := 5) X.1 X.2.1 dL_isTold_340 (by decide) ?_
              refine lv_icmp_ge (tgt := 439) X.1 X.2.1 dL_isTold_341 (by decide) (fun c_341 => ?_) (fun c_341 => absurd (nI_le (a := 5) (b := x9) (by omega) (by omega)) c_341)
              obtain ⟨SS, eSS⟩ : ∃ SS : Nat → Nat, SS = fun j => suO ow P (trN j (hd (1 - p9))) i := ⟨_, rfl⟩
              have hSS : ∀ j, SS j ≤ 77520 := fun j => by rw [eSS]; exact su_le (trN_le j (hd (1 - p9))) (by omega)
              have hgs : ∀ j, j < 5 → gs j = nI (SS j) := fun j hj => by rw [eSS]; exact (h2 j hj).2.2
              refine lv_iconst (v := 0) X.1 X.2.1 dL_isTold_439 (by decide) ?_
              refine lv_istore (lv' := [(16, .int 0), (0, .ref b6), (1, .ref ra), (2, .int (nI n)), (3, .ref ca), (4, .int (nI k)), (5, .int (bI sk)), (6, .int (nI p9)), (7, .int (nI kn)), (8, .int (nI (cntF P i))), (9, .int (nI (alN P i))), (10, .int (nI ((shF P 11 i).2))), (11, .ref la), (12, .ref ma), (13, .ref sa), (14, .int (nI (hd (1 - p9)))), (15, .int (bI ow))]) X.1 X.2.1 dL_isTold_440 hl (by decide) rfl (fun ls hl => ?_)
              refine lv_iconst (v := 1) X.1 X.2.1 dL_isTold_442 (by decide) ?_
              refine lv_istore (lv' := [(17, .int 1), (16, .int 0), (0, .ref b6), (1, .ref ra), (2, .int (nI n)), (3, .ref ca), (4, .int (nI k)), (5, .int (bI sk)), (6, .int (nI p9)), (7, .int (nI kn)), (8, .int (nI (cntF P i))), (9, .int (nI (alN P i))), (10, .int (nI ((shF P 11 i).2))), (11, .ref la), (12, .ref ma), (13, .ref sa), (14, .int (nI (hd (1 - p9)))), (15, .int (bI ow))]) X.1 X.2.1 dL_isTold_443 hl (by decide) rfl (fun ls hl => ?_)
              have L445y : ∀ (fy : Nat) (y9 : Nat), y9 + fy = 4 → ∀ ls, lv_has ls 21 [(0, .ref b6), (1, .ref ra), (2, .int (nI n)), (3, .ref ca), (4, .int (nI k)), (5, .int (bI sk)), (6, .int (nI p9)), (7, .int (nI kn)), (8, .int (nI (cntF P i))), (9, .int (nI (alN P i))), (10, .int (nI ((shF P 11 i).2))), (11, .ref la), (12, .ref ma), (13, .ref sa), (14, .int (nI (hd (1 - p9)))), (15, .int (bI ow)), (16, .int (nI (bsF SS y9))), (17, .int (nI (y9 + 1)))] → W p l e ({ frames := 8, cells := 3, slots := 15, locals := 191 } : Room) s m args below meth c H locs 3 15 (MQ below (va_Qi (fun r hp1 => r = 1 ∧ ∀ q e, hp q = some e → hp1 q = some e) (WB G A) A) args s 3 15 A) (F0 m 445 ls []) := by
                intro fy
                induction fy with
                | zero =>
                  intro y9 hy0 ls hl
                  have hy4 : y9 = 4 := by omega
                  have hb9 := bsF_le SS y9
                  have hb8 := hSS (bsF SS y9)
                  have hq9 := Nat.div_le_self (SS (bsF SS y9)) (cntF P i)
                  refine lv_iload X.1 X.2.1 dL_isTold_445 (lv_at hl 17 rfl) ?_
                  refine lv_iconst (v := 5) X.1 X.2.1 dL_isTold_447 (by decide) ?_
                  refine lv_icmp_ge (tgt := 479) X.1 X.2.1 dL_isTold_448 (by decide) (fun c_448 => ?_) (fun c_448 => absurd (nI_le (a := 5) (b := y9 + 1) (by omega) (by omega)) c_448)
                  refine lv_iload X.1 X.2.1 dL_isTold_479 (lv_at hl 8 rfl) ?_
                  refine lv_if_eq (tgt := 495) X.1 X.2.1 dL_isTold_481 (by decide) (fun c_481 => ?_) (fun c_481 => absurd (show nI (cntF P i) = 0 from by rw [hf]; rfl) c_481)
                  refine lv_bipush (v := (-6)) X.1 X.2.1 dL_isTold_495 (by decide) ?_
                  refine lv_goto (tgt := 515) X.1 X.2.1 dL_isTold_497 (by decide) ?_
                  refine lv_istore (lv' := [(17, .int (-6)), (0, .ref b6), (1, .ref ra), (2, .int (nI n)), (3, .ref ca), (4, .int (nI k)), (5, .int (bI sk)), (6, .int (nI p9)), (7, .int (nI kn)), (8, .int (nI (cntF P i))), (9, .int (nI (alN P i))), (10, .int (nI ((shF P 11 i).2))), (11, .ref la), (12, .ref ma), (13, .ref sa), (14, .int (nI (hd (1 - p9)))), (15, .int (bI ow)), (16, .int (nI (bsF SS y9)))]) X.1 X.2.1 dL_isTold_515 hl (by decide) rfl (fun ls hl => ?_)
                  refine lv_iload X.1 X.2.1 dL_isTold_517 (lv_at hl 16 rfl) ?_
                  refine lv_if_eq (tgt := 535) X.1 X.2.1 dL_isTold_519 (by decide) (fun c_519 => ?_) (fun c_519 => ?_)
                  · refine lv_iconst (v := 1) X.1 X.2.1 dL_isTold_535 (by decide) ?_
                    refine lv_goto (tgt := 540) X.1 X.2.1 dL_isTold_536 (by decide) ?_
                    exact wr_z X hr hlk rfl hW ⟨rfl, hkp⟩ (Nat.le_of_ble_eq_true rfl) (Nat.le_of_ble_eq_true rfl) dL_isTold_540
                  · have ho : ow = true := bI_1 c_519
                    have hkne : kn = hd (1 - p9) := of_decide_eq_true (j0.symm.trans ho)
                    refine lv_aload_n X.1 X.2.1 dL_isTold_522 rfl (lv_at hl 1 rfl) ?_
                    refine lv_iconst (v := 1) X.1 X.2.1 dL_isTold_523 (by decide) ?_
                    refine lv_iload X.1 X.2.1 dL_isTold_524 (lv_at hl 7 rfl) ?_
                    refine lv_isub X.1 X.2.1 dL_isTold_526 ?_
                    refine r_eqi (show (((1 : Int32) - (nI p9)) : Int32) = nI (1 - p9) from pk_sub (a := 1) (b := p9) (by omega)) ?_
                    refine lc_ri (z := (n, R, hd, k, cs, sk, pn, pt)) (As := [.int (nI (1 - p9))]) (rest := []) X hW.1 hW.2.2 hC (fun hp9 hz9 => c_X6_contract l G hp9 b6 n R hd k cs sk pn pt hz9 (nI (1 - p9))) mf_X6_contract tw_570 tw_571 tw_572 ⟨rfl, rfl, Nat.le_of_ble_eq_true rfl, Nat.le_of_ble_eq_true rfl⟩ hl.1 rfl rfl (Nat.le_of_ble_eq_true rfl) ⟨Nat.le_of_ble_eq_true rfl, Nat.le_of_ble_eq_true rfl⟩ dL_isTold_527 ?_
                    refine r_eqi (show ((fCon (n, R, hd, k, cs, sk, pn, pt) (nI (1 - p9))) : Int32) = (-6) from (show _ = coN SS (cntF P i) from by rw [eSS]; exact fc_i eP hi9 hp9 ho hkne).trans (con_0 hf).symm) ?_
                    refine lv_iload X.1 X.2.1 dL_isTold_530 (lv_at hl 0 rfl) ?_
                    refine lv_icmp_ne (tgt := 539) X.1 X.2.1 dL_isTold_532 (by decide) (fun c_532 => absurd (by decide) c_532) (fun c_532 => ?_)
                    refine lv_iconst (v := 1) X.1 X.2.1 dL_isTold_535 (by decide) ?_
                    refine lv_goto (tgt := 540) X.1 X.2.1 dL_isTold_536 (by decide) ?_
                    exact wr_z X hr hlk rfl hW ⟨rfl, hkp⟩ (Nat.le_of_ble_eq_true rfl) (Nat.le_of_ble_eq_true rfl) dL_isTold_540
                | succ fy ihy =>
                  intro y9 hy0 ls hl
                  have hy5 : y9 < 4 := by omega
                  have hb9 := bsF_le SS y9
                  have hb7 := hSS (y9 + 1)
                  have hb8 := hSS (bsF SS y9)
                  refine lv_iload X.1 X.2.1 dL_isTold_445 (lv_at hl 17 rfl) ?_
                  refine lv_iconst (v := 5) X.1 X.2.1 dL_isTold_447 (by decide) ?_
                  refine lv_icmp_ge (tgt := 479) X.1 X.2.1 dL_isTold_448 (by decide) (fun c_448 => absurd c_448 (nI_ge (a := y9 + 1) (b := 5) (by omega) (by decide))) (fun c_448 => ?_)
                  refine lv_aload X.1 X.2.1 dL_isTold_451 (lv_at hl 13 rfl) ?_
                  refine lv_iload X.1 X.2.1 dL_isTold_453 (lv_at hl 17 rfl) ?_
                  refine r_iald X hW.1 w_sa (show vp_in ((nI (y9 + 1))) 5 from vp_in_nI (n := (y9 + 1)) (by omega) (by decide)) dL_isTold_455 ?_
                  refine r_eqi (show ((gs (nI (y9 + 1)).toNatClampNeg) : Int32) = nI (SS (y9 + 1)) from by rw [nI_clamp (by omega)]; exact hgs _ (by omega)) ?_
                  refine lv_aload X.1 X.2.1 dL_isTold_456 (lv_at hl 13 rfl) ?_
                  refine lv_iload X.1 X.2.1 dL_isTold_458 (lv_at hl 16 rfl) ?_
                  refine r_iald X hW.1 w_sa (show vp_in ((nI (bsF SS y9))) 5 from vp_in_nI (n := (bsF SS y9)) (by omega) (by decide)) dL_isTold_460 ?_
                  refine r_eqi (show ((gs (nI (bsF SS y9)).toNatClampNeg) : Int32) = nI (SS (bsF SS y9)) from by rw [nI_clamp (by omega)]; exact hgs _ (by omega)) ?_
                  refine lv_icmp_lt (tgt := 469) X.1 X.2.1 dL_isTold_461 (by decide) (fun c_461 => ?_) (fun c_461 => ?_)
                  · have k_461 := k_lt (a := (SS (y9 + 1))) (b := (SS (bsF SS y9))) (by omega) (by omega) c_461
                    refine lv_iload X.1 X.2.1 dL_isTold_469 (lv_at hl 16 rfl) ?_
                    refine lv_istore (lv' := [(16, .int (nI (bsF SS y9))), (0, .ref b6), (1, .ref ra), (2, .int (nI n)), (3, .ref ca), (4, .int (nI k)), (5, .int (bI sk)), (6, .int (nI p9)), (7, .int (nI kn)), (8, .int (nI (cntF P i))), (9, .int (nI (alN P i))), (10, .int (nI ((shF P 11 i).2))), (11, .ref la), (12, .ref ma), (13, .ref sa), (14, .int (nI (hd (1 - p9)))), (15, .int (bI ow)), (17, .int (nI (y9 + 1)))]) X.1 X.2.1 dL_isTold_471 hl (by decide) rfl (fun ls hl => ?_)
                    refine lv_iinc (v := (nI ((y9 + 1) + 1))) (lv' := [(17, .int (nI ((y9 + 1) + 1))), (16, .int (nI (bsF SS y9))), (0, .ref b6), (1, .ref ra), (2, .int (nI n)), (3, .ref ca), (4, .int (nI k)), (5, .int (bI sk)), (6, .int (nI p9)), (7, .int (nI kn)), (8, .int (nI (cntF P i))), (9, .int (nI (alN P i))), (10, .int (nI ((shF P 11 i).2))), (11, .ref la), (12, .ref ma), (13, .ref sa), (14, .int (nI (hd (1 - p9)))), (15, .int (bI ow))]) X.1 X.2.1 dL_isTold_473 hl (k := 17) rfl (nI_add (y9 + 1) 1) (by decide) rfl (fun ls hl => ?_)
                    refine lv_goto (tgt := 445) X.1 X.2.1 dL_isTold_476 (by decide) ?_
                    exact ihy (y9 + 1) (by omega) ls (by rw [show nI (bsF SS (y9 + 1)) = nI (bsF SS y9) from congrArg nI (bsF_no (Nat.not_le.mpr k_461))]; exact (lv_sub hl [2, 3, 4, 5, 6, 7, 8, 9, 10, 11, 12, 13, 14, 15, 16, 17, 1, 0] rfl))
                  · have k_461 := k_nlt (a := (SS (y9 + 1))) (b := (SS (bsF SS y9))) (by omega) (by omega) c_461
                    refine lv_iload X.1 X.2.1 dL_isTold_464 (lv_at hl 17 rfl) ?_
                    refine lv_goto (tgt := 471) X.1 X.2.1 dL_isTold_466 (by decide) ?_
                    refine lv_istore (lv' := [(16, .int (nI (y9 + 1))), (0, .ref b6), (1, .ref ra), (2, .int (nI n)), (3, .ref ca), (4, .int (nI k)), (5, .int (bI sk)), (6, .int (nI p9)), (7, .int (nI kn)), (8, .int (nI (cntF P i))), (9, .int (nI (alN P i))), (10, .int (nI ((shF P 11 i).2))), (11, .ref la), (12, .ref ma), (13, .ref sa), (14, .int (nI (hd (1 - p9)))), (15, .int (bI ow)), (17, .int (nI (y9 + 1)))]) X.1 X.2.1 dL_isTold_471 hl (by decide) rfl (fun ls hl => ?_)
                    refine lv_iinc (v := (nI ((y9 + 1) + 1))) (lv' := [(17, .int (nI ((y9 + 1) + 1))), (16, .int (nI (y9 + 1))), (0, .ref b6), (1, .ref ra), (2, .int (nI n)), (3, .ref ca), (4, .int (nI k)), (5, .int (bI sk)), (6, .int (nI p9)), (7, .int (nI kn)), (8, .int (nI (cntF P i))), (9, .int (nI (alN P i))), (10, .int (nI ((shF P 11 i).2))), (11, .ref la), (12, .ref ma), (13, .ref sa), (14, .int (nI (hd (1 - p9)))), (15, .int (bI ow))]) X.1 X.2.1 dL_isTold_473 hl (k := 17) rfl (nI_add (y9 + 1) 1) (by decide) rfl (fun ls hl => ?_)
                    refine lv_goto (tgt := 445) X.1 X.2.1 dL_isTold_476 (by decide) ?_
                    exact ihy (y9 + 1) (by omega) ls (by rw [show nI (bsF SS (y9 + 1)) = nI (y9 + 1) from congrArg nI (bsF_yes k_461)]; exact (lv_sub hl [2, 3, 4, 5, 6, 7, 8, 9, 10, 11, 12, 13, 14, 15, 16, 17, 1, 0] rfl))
              exact L445y 4 0 rfl ls (lv_sub hl [2, 3, 4, 5, 6, 7, 8, 9, 10, 11, 12, 13, 14, 15, 16, 17, 1, 0] rfl)
            | succ fx ihx =>
              intro x9 hx0 ls hl
              have hx5 : x9 < 5 := by omega
              have htx := h2 x9 hx5
              have hs7 := su_le (ow := ow) (P := P) (trN_le x9 (hd (1 - p9))) (i := i) (by omega)
              refine lv_iload X.1 X.2.1 dL_isTold_338 (lv_at hl 16 rfl) ?_
              refine lv_iconst (v := 5) X.1 X.2.1 dL_isTold_340 (by decide) ?_
              refine lv_icmp_ge (tgt := 439) X.1 X.2.1 dL_isTold_341 (by decide) (fun c_341 => absurd c_341 (nI_ge (a := x9) (b := 5) (by omega) (by decide))) (fun c_341 => ?_)
              refine lv_aload_n X.1 X.2.1 dL_isTold_344 rfl (lv_at hl 0 rfl) ?_
              refine lv_iload X.1 X.2.1 dL_isTold_345 (lv_at hl 6 rfl) ?_
              refine lv_iload X.1 X.2.1 dL_isTold_347 (lv_at hl 7 rfl) ?_
              refine lv_iconst (v := 2) X.1 X.2.1 dL_isTold_349 (by decide) ?_
              refine lv_iload X.1 X.2.1 dL_isTold_350 (lv_at hl 16 rfl) ?_
              refine lv_imul X.1 X.2.1 dL_isTold_352 ?_
              refine r_eqi (show (((2 : Int32) * (nI x9)) : Int32) = nI (2 * x9) from pk_mul 2 x9) ?_
              refine lc_ri (z := (n, R, hd, k, cs, sk, pn, pt)) (As := [.int (nI p9), .int (nI kn), .int (nI (2 * x9))]) (rest := []) X hW.1 hW.2.2 hC (fun hp9 hz9 => c_X6_shown l G hp9 b6 n R hd k cs sk pn pt hz9 (nI p9) (nI kn) (nI (2 * x9))) mf_X6_shown tw_549 tw_550 tw_551 ⟨rfl, rfl, Nat.le_of_ble_eq_true rfl, Nat.le_of_ble_eq_true rfl⟩ hl.1 rfl rfl (Nat.le_of_ble_eq_true rfl) ⟨Nat.le_of_ble_eq_true rfl, Nat.le_of_ble_eq_true rfl⟩ dL_isTold_353 ?_
              refine r_eqi (show ((fShown n R k cs sk (nI p9) (nI kn) (nI (2 * x9))) : Int32) = (-6) from (fw_i (w := (2 * x9)) eP hi9 hp9 hkn (by omega)).trans (if_pos hf)) ?_
              refine lv_iload X.1 X.2.1 dL_isTold_356 (lv_at hl 8 rfl) ?_
              refine lv_if_ne (tgt := 366) X.1 X.2.1 dL_isTold_358 (by decide) (fun c_358 => absurd (show nI (cntF P i) = 0 from by rw [hf]; rfl) c_358) (fun c_358 => ?_)
              refine lv_bipush (v := (-6)) X.1 X.2.1 dL_isTold_361 (by decide) ?_
              refine lv_goto (tgt := 371) X.1 X.2.1 dL_isTold_363 (by decide) ?_
              refine lv_icmp_ne (tgt := 431) X.1 X.2.1 dL_isTold_371 (by decide) (fun c_371 => absurd (by decide) c_371) (fun c_371 => ?_)
              refine lv_aload_n X.1 X.2.1 dL_isTold_374 rfl (lv_at hl 0 rfl) ?_
              refine lv_iload X.1 X.2.1 dL_isTold_375 (lv_at hl 6 rfl) ?_
              refine lv_iload X.1 X.2.1 dL_isTold_377 (lv_at hl 7 rfl) ?_
              refine lv_iconst (v := 2) X.1 X.2.1 dL_isTold_379 (by decide) ?_
              refine lv_iload X.1 X.2.1 dL_isTold_380 (lv_at hl 16 rfl) ?_
              refine lv_imul X.1 X.2.1 dL_isTold_382 ?_
              refine r_eqi (show (((2 : Int32) * (nI x9)) : Int32) = nI (2 * x9) from pk_mul 2 x9) ?_
              refine lv_iconst (v := 1) X.1 X.2.1 dL_isTold_383 (by decide) ?_
              refine lv_iadd X.1 X.2.1 dL_isTold_384 ?_
              refine r_eqi (show (((nI (2 * x9)) + 1) : Int32) = nI ((2 * x9) + 1) from nI_add (2 * x9) 1) ?_
              refine lc_ri (z := (n, R, hd, k, cs, sk, pn, pt)) (As := [.int (nI p9), .int (nI kn), .int (nI ((2 * x9) + 1))]) (rest := []) X hW.1 hW.2.2 hC (fun hp9 hz9 => c_X6_shown l G hp9 b6 n R hd k cs sk pn pt hz9 (nI p9) (nI kn) (nI ((2 * x9) + 1))) mf_X6_shown tw_549 tw_550 tw_551 ⟨rfl, rfl, Nat.le_of_ble_eq_true rfl, Nat.le_of_ble_eq_true rfl⟩ hl.1 rfl rfl (Nat.le_of_ble_eq_true rfl) ⟨Nat.le_of_ble_eq_true rfl, Nat.le_of_ble_eq_true rfl⟩ dL_isTold_385 ?_
              refine r_eqi (show ((fShown n R k cs sk (nI p9) (nI kn) (nI ((2 * x9) + 1))) : Int32) = (-6) from (fw_i (w := ((2 * x9) + 1)) eP hi9 hp9 hkn (by omega)).trans (if_pos hf)) ?_
              refine lv_iload X.1 X.2.1 dL_isTold_388 (lv_at hl 8 rfl) ?_
              refine lv_if_ne (tgt := 398) X.1 X.2.1 dL_isTold_390 (by decide) (fun c_390 => absurd (show nI (cntF P i) = 0 from by rw [hf]; rfl) c_390) (fun c_390 => ?_)
              refine lv_bipush (v := (-6)) X.1 X.2.1 dL_isTold_393 (by decide) ?_
              refine lv_goto (tgt := 403) X.1 X.2.1 dL_isTold_395 (by decide) ?_
              refine lv_icmp_ne (tgt := 431) X.1 X.2.1 dL_isTold_403 (by decide) (fun c_403 => absurd (by decide) c_403) (fun c_403 => ?_)
              refine lv_iload X.1 X.2.1 dL_isTold_406 (lv_at hl 15 rfl) ?_
              refine lv_if_eq (tgt := 433) X.1 X.2.1 dL_isTold_408 (by decide) (fun c_408 => ?_) (fun c_408 => ?_)
              · refine lv_iinc (v := (nI (x9 + 1))) (lv' := [(16, .int (nI (x9 + 1))), (0, .ref b6), (1, .ref ra), (2, .int (nI n)), (3, .ref ca), (4, .int (nI k)), (5, .int (bI sk)), (6, .int (nI p9)), (7, .int (nI kn)), (8, .int (nI (cntF P i))), (9, .int (nI (alN P i))), (10, .int (nI ((shF P 11 i).2))), (11, .ref la), (12, .ref ma), (13, .ref sa), (14, .int (nI (hd (1 - p9)))), (15, .int (bI ow))]) X.1 X.2.1 dL_isTold_433 hl (k := 16) rfl (nI_add x9 1) (by decide) rfl (fun ls hl => ?_)
                refine lv_goto (tgt := 338) X.1 X.2.1 dL_isTold_436 (by decide) ?_
                exact ihx (x9 + 1) (by omega) ls (lv_sub hl [1, 2, 3, 4, 5, 6, 7, 8, 9, 10, 11, 12, 13, 14, 15, 16, 0] rfl)
              · have ho : ow = true := bI_1 c_408
                have hkne : kn = hd (1 - p9) := of_decide_eq_true (j0.symm.trans ho)
                refine lv_aload_n X.1 X.2.1 dL_isTold_411 rfl (lv_at hl 0 rfl) ?_
                refine lv_iconst (v := 1) X.1 X.2.1 dL_isTold_412 (by decide) ?_
                refine lv_iload X.1 X.2.1 dL_isTold_413 (lv_at hl 6 rfl) ?_
                refine lv_isub X.1 X.2.1 dL_isTold_415 ?_
                refine r_eqi (show (((1 : Int32) - (nI p9)) : Int32) = nI (1 - p9) from pk_sub (a := 1) (b := p9) (by omega)) ?_
                refine lv_iload X.1 X.2.1 dL_isTold_416 (lv_at hl 16 rfl) ?_
                refine lc_rl (z := (n, R, hd, k, cs, sk, pn, pt)) (As := [.int (nI (1 - p9)), .int (nI x9)]) (rest := []) X hW.1 hW.2.2 hC (fun hp9 hz9 => c_X6_expected l G hp9 b6 n R hd k cs sk pn pt hz9 (nI (1 - p9)) (nI x9)) mf_X6_expected tw_560 tw_561 tw_562 ⟨rfl, rfl, Nat.le_of_ble_eq_true rfl, Nat.le_of_ble_eq_true rfl⟩ hl.1 rfl rfl (Nat.le_of_ble_eq_true rfl) ⟨Nat.le_of_ble_eq_true rfl, Nat.le_of_ble_eq_true rfl⟩ dL_isTold_418 ?_
                refine r_eql (show ((fExp (n, R, hd, k, cs, sk, pn, pt) (nI (1 - p9)) (nI x9)) : Int64) = lN (suO ow P (trN x9 (hd (1 - p9))) i) from fe_i eP hi9 hp9 (by omega) ho hkne) ?_
                refine lv_aload X.1 X.2.1 dL_isTold_421 (lv_at hl 13 rfl) ?_
                refine lv_iload X.1 X.2.1 dL_isTold_423 (lv_at hl 16 rfl) ?_
                refine r_iald X hW.1 w_sa (show vp_in ((nI x9)) 5 from vp_in_nI (n := x9) (by omega) (by decide)) dL_isTold_425 ?_
                refine r_eqi (show ((gs (nI x9).toNatClampNeg) : Int32) = nI (suO ow P (trN x9 (hd (1 - p9))) i) from by rw [nI_clamp (by omega)]; exact htx.2.2) ?_
                refine lv_i2l X.1 X.2.1 dL_isTold_426 rfl ?_
                refine r_eql (show (((nI (suO ow P (trN x9 (hd (1 - p9))) i)).toInt64) : Int64) = lN (suO ow P (trN x9 (hd (1 - p9))) i) from nI_l (by omega)) ?_
                refine r_lcmp X.1 X.2.1 dL_isTold_427 ?_
                refine r_eqi (show ((lcI (lN (suO ow P (trN x9 (hd (1 - p9))) i)) (lN (suO ow P (trN x9 (hd (1 - p9))) i))) : Int32) = 0 from lcI_self _) ?_
                refine lv_if_eq (tgt := 433) X.1 X.2.1 dL_isTold_428 (by decide) (fun c_428 => ?_) (fun c_428 => absurd (by decide) c_428)
                refine lv_iinc (v := (nI (x9 + 1))) (lv' := [(16, .int (nI (x9 + 1))), (0, .ref b6), (1, .ref ra), (2, .int (nI n)), (3, .ref ca), (4, .int (nI k)), (5, .int (bI sk)), (6, .int (nI p9)), (7, .int (nI kn)), (8, .int (nI (cntF P i))), (9, .int (nI (alN P i))), (10, .int (nI ((shF P 11 i).2))), (11, .ref la), (12, .ref ma), (13, .ref sa), (14, .int (nI (hd (1 - p9)))), (15, .int (bI ow))]) X.1 X.2.1 dL_isTold_433 hl (k := 16) rfl (nI_add x9 1) (by decide) rfl (fun ls hl => ?_)
                refine lv_goto (tgt := 338) X.1 X.2.1 dL_isTold_436 (by decide) ?_
                exact ihx (x9 + 1) (by omega) ls (lv_sub hl [1, 2, 3, 4, 5, 6, 7, 8, 9, 10, 11, 12, 13, 14, 15, 16, 0] rfl)
          exact L338x 5 0 rfl ls (lv_sub hl [1, 2, 3, 4, 5, 6, 7, 8, 9, 10, 11, 12, 13, 14, 15, 16, 0] rfl)
        · refine lv_aload_n X.1 X.2.1 dL_isTold_283 rfl (lv_at hl 0 rfl) ?_
          refine lv_iload X.1 X.2.1 dL_isTold_284 (lv_at hl 6 rfl) ?_
          refine lv_iload X.1 X.2.1 dL_isTold_286 (lv_at hl 7 rfl) ?_
          refine lv_bipush (v := 10) X.1 X.2.1 dL_isTold_288 (by decide) ?_
          refine lc_ri (z := (n, R, hd, k, cs, sk, pn, pt)) (As := [.int (nI p9), .int (nI kn), .int 10]) (rest := []) X hW.1 hW.2.2 hC (fun hp9 hz9 => c_X6_shown l G hp9 b6 n R hd k cs sk pn pt hz9 (nI p9) (nI kn) (10 : Int32)) mf_X6_shown tw_549 tw_550 tw_551 ⟨rfl, rfl, Nat.le_of_ble_eq_true rfl, Nat.le_of_ble_eq_true rfl⟩ hl.1 rfl rfl (Nat.le_of_ble_eq_true rfl) ⟨Nat.le_of_ble_eq_true rfl, Nat.le_of_ble_eq_true rfl⟩ dL_isTold_290 ?_
          refine r_eqi (show ((fShown n R k cs sk (nI p9) (nI kn) (10 : Int32)) : Int32) = nI ((shF P 10 i).2) from (fw_i (w := 10) eP hi9 hp9 hkn (by omega)).trans (if_neg hf)) ?_
          refine lv_iload X.1 X.2.1 dL_isTold_293 (lv_at hl 8 rfl) ?_
          refine lv_if_ne (tgt := 303) X.1 X.2.1 dL_isTold_295 (by decide) (fun c_295 => ?_) (fun c_295 => absurd c_295 (show ¬ nI (cntF P i) = 0 from fun q => hf (k_eq (a := cntF P i) (b := 0) (by omega) (by decide) q)))
          refine lv_iload X.1 X.2.1 dL_isTold_303 (lv_at hl 9 rfl) ?_
          refine r_eqi (show ((nI (alN P i)) : Int32) = nI ((shF P 10 i).2) from congrArg nI (if_neg hf)) ?_
          refine lv_icmp_ne (tgt := 333) X.1 X.2.1 dL_isTold_305 (by decide) (fun c_305 => absurd rfl c_305) (fun c_305 => ?_)
          refine lv_aload_n X.1 X.2.1 dL_isTold_308 rfl (lv_at hl 0 rfl) ?_
          refine lv_iload X.1 X.2.1 dL_isTold_309 (lv_at hl 6 rfl) ?_
          refine lv_iload X.1 X.2.1 dL_isTold_311 (lv_at hl 7 rfl) ?_
          refine lv_bipush (v := 11) X.1 X.2.1 dL_isTold_313 (by decide) ?_
          refine lc_ri (z := (n, R, hd, k, cs, sk, pn, pt)) (As := [.int (nI p9), .int (nI kn), .int 11]) (rest := []) X hW.1 hW.2.2 hC (fun hp9 hz9 => c_X6_shown l G hp9 b6 n R hd k cs sk pn pt hz9 (nI p9) (nI kn) (11 : Int32)) mf_X6_shown tw_549 tw_550 tw_551 ⟨rfl, rfl, Nat.le_of_ble_eq_true rfl, Nat.le_of_ble_eq_true rfl⟩ hl.1 rfl rfl (Nat.le_of_ble_eq_true rfl) ⟨Nat.le_of_ble_eq_true rfl, Nat.le_of_ble_eq_true rfl⟩ dL_isTold_315 ?_
          refine r_eqi (show ((fShown n R k cs sk (nI p9) (nI kn) (11 : Int32)) : Int32) = nI ((shF P 11 i).2) from (fw_i (w := 11) eP hi9 hp9 hkn (by omega)).trans (if_neg hf)) ?_
          refine lv_iload X.1 X.2.1 dL_isTold_318 (lv_at hl 8 rfl) ?_
          refine lv_if_ne (tgt := 328) X.1 X.2.1 dL_isTold_320 (by decide) (fun c_320 => ?_) (fun c_320 => absurd c_320 (show ¬ nI (cntF P i) = 0 from fun q => hf (k_eq (a := cntF P i) (b := 0) (by omega) (by decide) q)))
          refine lv_iload X.1 X.2.1 dL_isTold_328 (lv_at hl 10 rfl) ?_
          refine lv_icmp_eq (tgt := 335) X.1 X.2.1 dL_isTold_330 (by decide) (fun c_330 => ?_) (fun c_330 => absurd rfl c_330)
          refine lv_iconst (v := 0) X.1 X.2.1 dL_isTold_335 (by decide) ?_
          refine lv_istore (lv' := [(16, .int 0), (0, .ref b6), (1, .ref ra), (2, .int (nI n)), (3, .ref ca), (4, .int (nI k)), (5, .int (bI sk)), (6, .int (nI p9)), (7, .int (nI kn)), (8, .int (nI (cntF P i))), (9, .int (nI (alN P i))), (10, .int (nI ((shF P 11 i).2))), (11, .ref la), (12, .ref ma), (13, .ref sa), (14, .int (nI (hd (1 - p9)))), (15, .int (bI ow))]) X.1 X.2.1 dL_isTold_336 hl (by decide) rfl (fun ls hl => ?_)
          have L338x : ∀ (fx : Nat) (x9 : Nat), x9 + fx = 5 → ∀ ls, lv_has ls 21 [(0, .ref b6), (1, .ref ra), (2, .int (nI n)), (3, .ref ca), (4, .int (nI k)), (5, .int (bI sk)), (6, .int (nI p9)), (7, .int (nI kn)), (8, .int (nI (cntF P i))), (9, .int (nI (alN P i))), (10, .int (nI ((shF P 11 i).2))), (11, .ref la), (12, .ref ma), (13, .ref sa), (14, .int (nI (hd (1 - p9)))), (15, .int (bI ow)), (16, .int (nI x9))] → W p l e ({ frames := 8, cells := 3, slots := 15, locals := 191 } : Room) s m args below meth c H locs 3 15 (MQ below (va_Qi (fun r hp1 => r = 1 ∧ ∀ q e, hp q = some e → hp1 q = some e) (WB G A) A) args s 3 15 A) (F0 m 338 ls []) := by
            intro fx
            induction fx with
            | zero =>
              intro x9 hx0 ls hl
              refine lv_iload X.1 X.2.1 dL_isTold_338 (lv_at hl 16 rfl) ?_
              refine lv_iconst (v := 5) X.1 X.2.1 dL_isTold_340 (by decide) ?_
              refine lv_icmp_ge (tgt := 439) X.1 X.2.1 dL_isTold_341 (by decide) (fun c_341 => ?_) (fun c_341 => absurd (nI_le (a := 5) (b := x9) (by omega) (by omega)) c_341)
              obtain ⟨SS, eSS⟩ : ∃ SS : Nat → Nat, SS = fun j => suO ow P (trN j (hd (1 - p9))) i := ⟨_, rfl⟩
              have hSS : ∀ j, SS j ≤ 77520 := fun j => by rw [eSS]; exact su_le (trN_le j (hd (1 - p9))) (by omega)
              have hgs : ∀ j, j < 5 → gs j = nI (SS j) := fun j hj => by rw [eSS]; exact (h2 j hj).2.2
              refine lv_iconst (v := 0) X.1 X.2.1 dL_isTold_439 (by decide) ?_
              refine lv_istore (lv' := [(16, .int 0), (0, .ref b6), (1, .ref ra), (2, .int (nI n)), (3, .ref ca), (4, .int (nI k)), (5, .int (bI sk)), (6, .int (nI p9)), (7, .int (nI kn)), (8, .int (nI (cntF P i))), (9, .int (nI (alN P i))), (10, .int (nI ((shF P 11 i).2))), (11, .ref la), (12, .ref ma), (13, .ref sa), (14, .int (nI (hd (1 - p9)))), (15, .int (bI ow))]) X.1 X.2.1 dL_isTold_440 hl (by decide) rfl (fun ls hl => ?_)
              refine lv_iconst (v := 1) X.1 X.2.1 dL_isTold_442 (by decide) ?_
              refine lv_istore (lv' := [(17, .int 1), (16, .int 0), (0, .ref b6), (1, .ref ra), (2, .int (nI n)), (3, .ref ca), (4, .int (nI k)), (5, .int (bI sk)), (6, .int (nI p9)), (7, .int (nI kn)), (8, .int (nI (cntF P i))), (9, .int (nI (alN P i))), (10, .int (nI ((shF P 11 i).2))), (11, .ref la), (12, .ref ma), (13, .ref sa), (14, .int (nI (hd (1 - p9)))), (15, .int (bI ow))]) X.1 X.2.1 dL_isTold_443 hl (by decide) rfl (fun ls hl => ?_)
              have L445y : ∀ (fy : Nat) (y9 : Nat), y9 + fy = 4 → ∀ ls, lv_has ls 21 [(0, .ref b6), (1, .ref ra), (2, .int (nI n)), (3, .ref ca), (4, .int (nI k)), (5, .int (bI sk)), (6, .int (nI p9)), (7, .int (nI kn)), (8, .int (nI (cntF P i))), (9, .int (nI (alN P i))), (10, .int (nI ((shF P 11 i).2))), (11, .ref la), (12, .ref ma), (13, .ref sa), (14, .int (nI (hd (1 - p9)))), (15, .int (bI ow)), (16, .int (nI (bsF SS y9))), (17, .int (nI (y9 + 1)))] → W p l e ({ frames := 8, cells := 3, slots := 15, locals := 191 } : Room) s m args below meth c H locs 3 15 (MQ below (va_Qi (fun r hp1 => r = 1 ∧ ∀ q e, hp q = some e → hp1 q = some e) (WB G A) A) args s 3 15 A) (F0 m 445 ls []) := by
                intro fy
                induction fy with
                | zero =>
                  intro y9 hy0 ls hl
                  have hy4 : y9 = 4 := by omega
                  have hb9 := bsF_le SS y9
                  have hb8 := hSS (bsF SS y9)
                  have hq9 := Nat.div_le_self (SS (bsF SS y9)) (cntF P i)
                  refine lv_iload X.1 X.2.1 dL_isTold_445 (lv_at hl 17 rfl) ?_
                  refine lv_iconst (v := 5) X.1 X.2.1 dL_isTold_447 (by decide) ?_
                  refine lv_icmp_ge (tgt := 479) X.1 X.2.1 dL_isTold_448 (by decide) (fun c_448 => ?_) (fun c_448 => absurd (nI_le (a := 5) (b := y9 + 1) (by omega) (by omega)) c_448)
                  refine lv_iload X.1 X.2.1 dL_isTold_479 (lv_at hl 8 rfl) ?_
                  refine lv_if_eq (tgt := 495) X.1 X.2.1 dL_isTold_481 (by decide) (fun c_481 => absurd c_481 (show ¬ nI (cntF P i) = 0 from fun q => hf (k_eq (a := cntF P i) (b := 0) (by omega) (by decide) q))) (fun c_481 => ?_)
                  refine lv_aload X.1 X.2.1 dL_isTold_484 (lv_at hl 13 rfl) ?_
                  refine lv_iload X.1 X.2.1 dL_isTold_486 (lv_at hl 16 rfl) ?_
                  refine r_iald X hW.1 w_sa (show vp_in ((nI (bsF SS y9))) 5 from vp_in_nI (n := (bsF SS y9)) (by omega) (by decide)) dL_isTold_488 ?_
                  refine r_eqi (show ((gs (nI (bsF SS y9)).toNatClampNeg) : Int32) = nI (SS (bsF SS y9)) from by rw [nI_clamp (by omega)]; exact hgs _ (by omega)) ?_
                  refine lv_iload X.1 X.2.1 dL_isTold_489 (lv_at hl 8 rfl) ?_
                  refine lv_idiv X.1 X.2.1 dL_isTold_491 (fun q => hf (k_eq (a := cntF P i) (b := 0) (by omega) (by decide) q)) ?_
                  refine r_eqi (show (((nI (SS (bsF SS y9))) / (nI (cntF P i))) : Int32) = nI ((SS (bsF SS y9)) / (cntF P i)) from pk_div (a := (SS (bsF SS y9))) (d := (cntF P i)) (by omega) (by omega) (by omega)) ?_
                  refine lv_if_ne (tgt := 500) X.1 X.2.1 dL_isTold_492 (by decide) (fun c_492 => ?_) (fun c_492 => ?_)
                  · have k_492 := k_ne (a := ((SS (bsF SS y9)) / (cntF P i))) (b := 0) (by omega) (by omega) c_492
                    refine lv_iconst (v := 5) X.1 X.2.1 dL_isTold_500 (by decide) ?_
                    refine lv_aload X.1 X.2.1 dL_isTold_501 (lv_at hl 13 rfl) ?_
                    refine lv_iload X.1 X.2.1 dL_isTold_503 (lv_at hl 16 rfl) ?_
                    refine r_iald X hW.1 w_sa (show vp_in ((nI (bsF SS y9))) 5 from vp_in_nI (n := (bsF SS y9)) (by omega) (by decide)) dL_isTold_505 ?_
                    refine r_eqi (show ((gs (nI (bsF SS y9)).toNatClampNeg) : Int32) = nI (SS (bsF SS y9)) from by rw [nI_clamp (by omega)]; exact hgs _ (by omega)) ?_
                    refine lv_iload X.1 X.2.1 dL_isTold_506 (lv_at hl 8 rfl) ?_
                    refine lv_idiv X.1 X.2.1 dL_isTold_508 (fun q => hf (k_eq (a := cntF P i) (b := 0) (by omega) (by decide) q)) ?_
                    refine r_eqi (show (((nI (SS (bsF SS y9))) / (nI (cntF P i))) : Int32) = nI ((SS (bsF SS y9)) / (cntF P i)) from pk_div (a := (SS (bsF SS y9))) (d := (cntF P i)) (by omega) (by omega) (by omega)) ?_
                    refine lv_iconst (v := 1) X.1 X.2.1 dL_isTold_509 (by decide) ?_
                    refine lv_isub X.1 X.2.1 dL_isTold_510 ?_
                    refine r_eqi (show (((nI ((SS (bsF SS y9)) / (cntF P i))) - 1) : Int32) = nI (((SS (bsF SS y9)) / (cntF P i)) - 1) from pk_sub (a := ((SS (bsF SS y9)) / (cntF P i))) (b := 1) (Nat.one_le_iff_ne_zero.mpr k_492)) ?_
                    refine lv_imul X.1 X.2.1 dL_isTold_511 ?_
                    refine r_eqi (show (((5 : Int32) * (nI (((SS (bsF SS y9)) / (cntF P i)) - 1))) : Int32) = nI (5 * (((SS (bsF SS y9)) / (cntF P i)) - 1)) from pk_mul 5 (((SS (bsF SS y9)) / (cntF P i)) - 1)) ?_
                    refine lv_iload X.1 X.2.1 dL_isTold_512 (lv_at hl 16 rfl) ?_
                    refine lv_iadd X.1 X.2.1 dL_isTold_514 ?_
                    refine r_eqi (show (((nI (5 * (((SS (bsF SS y9)) / (cntF P i)) - 1))) + (nI (bsF SS y9))) : Int32) = nI ((5 * (((SS (bsF SS y9)) / (cntF P i)) - 1)) + (bsF SS y9)) from nI_add (5 * (((SS (bsF SS y9)) / (cntF P i)) - 1)) (bsF SS y9)) ?_
                    refine lv_istore (lv' := [(17, .int (nI ((5 * (((SS (bsF SS y9)) / (cntF P i)) - 1)) + (bsF SS y9)))), (0, .ref b6), (1, .ref ra), (2, .int (nI n)), (3, .ref ca), (4, .int (nI k)), (5, .int (bI sk)), (6, .int (nI p9)), (7, .int (nI kn)), (8, .int (nI (cntF P i))), (9, .int (nI (alN P i))), (10, .int (nI ((shF P 11 i).2))), (11, .ref la), (12, .ref ma), (13, .ref sa), (14, .int (nI (hd (1 - p9)))), (15, .int (bI ow)), (16, .int (nI (bsF SS y9)))]) X.1 X.2.1 dL_isTold_515 hl (by decide) rfl (fun ls hl => ?_)
                    refine lv_iload X.1 X.2.1 dL_isTold_517 (lv_at hl 16 rfl) ?_
                    refine lv_if_eq (tgt := 535) X.1 X.2.1 dL_isTold_519 (by decide) (fun c_519 => ?_) (fun c_519 => ?_)
                    · refine lv_iconst (v := 1) X.1 X.2.1 dL_isTold_535 (by decide) ?_
                      refine lv_goto (tgt := 540) X.1 X.2.1 dL_isTold_536 (by decide) ?_
                      exact wr_z X hr hlk rfl hW ⟨rfl, hkp⟩ (Nat.le_of_ble_eq_true rfl) (Nat.le_of_ble_eq_true rfl) dL_isTold_540
                    · have ho : ow = true := bI_1 c_519
                      have hkne : kn = hd (1 - p9) := of_decide_eq_true (j0.symm.trans ho)
                      refine lv_aload_n X.1 X.2.1 dL_isTold_522 rfl (lv_at hl 1 rfl) ?_
                      refine lv_iconst (v := 1) X.1 X.2.1 dL_isTold_523 (by decide) ?_
                      refine lv_iload X.1 X.2.1 dL_isTold_524 (lv_at hl 7 rfl) ?_
                      refine lv_isub X.1 X.2.1 dL_isTold_526 ?_
                      refine r_eqi (show (((1 : Int32) - (nI p9)) : Int32) = nI (1 - p9) from pk_sub (a := 1) (b := p9) (by omega)) ?_
                      refine lc_ri (z := (n, R, hd, k, cs, sk, pn, pt)) (As := [.int (nI (1 - p9))]) (rest := []) X hW.1 hW.2.2 hC (fun hp9 hz9 => c_X6_contract l G hp9 b6 n R hd k cs sk pn pt hz9 (nI (1 - p9))) mf_X6_contract tw_570 tw_571 tw_572 ⟨rfl, rfl, Nat.le_of_ble_eq_true rfl, Nat.le_of_ble_eq_true rfl⟩ hl.1 rfl rfl (Nat.le_of_ble_eq_true rfl) ⟨Nat.le_of_ble_eq_true rfl, Nat.le_of_ble_eq_true rfl⟩ dL_isTold_527 ?_
                      refine r_eqi (show ((fCon (n, R, hd, k, cs, sk, pn, pt) (nI (1 - p9))) : Int32) = nI (5 * (SS (bsF SS y9) / cntF P i - 1) + bsF SS y9) from (show _ = coN SS (cntF P i) from by rw [eSS]; exact fc_i eP hi9 hp9 ho hkne).trans (by rw [hy4]; exact (con_2 hf (by rw [← hy4]; exact k_492)).symm)) ?_
                      refine lv_iload X.1 X.2.1 dL_isTold_530 (lv_at hl 0 rfl) ?_
                      refine lv_icmp_ne (tgt := 539) X.1 X.2.1 dL_isTold_532 (by decide) (fun c_532 => absurd rfl c_532) (fun c_532 => ?_)
                      refine lv_iconst (v := 1) X.1 X.2.1 dL_isTold_535 (by decide) ?_
                      refine lv_goto (tgt := 540) X.1 X.2.1 dL_isTold_536 (by decide) ?_
                      exact wr_z X hr hlk rfl hW ⟨rfl, hkp⟩ (Nat.le_of_ble_eq_true rfl) (Nat.le_of_ble_eq_true rfl) dL_isTold_540
                  · have k_492 := k_eq (a := ((SS (bsF SS y9)) / (cntF P i))) (b := 0) (by omega) (by omega) c_492
                    refine lv_bipush (v := (-6)) X.1 X.2.1 dL_isTold_495 (by decide) ?_
                    refine lv_goto (tgt := 515) X.1 X.2.1 dL_isTold_497 (by decide) ?_
                    refine lv_istore (lv' := [(17, .int (-6)), (0, .ref b6), (1, .ref ra), (2, .int (nI n)), (3, .ref ca), (4, .int (nI k)), (5, .int (bI sk)), (6, .int (nI p9)), (7, .int (nI kn)), (8, .int (nI (cntF P i))), (9, .int (nI (alN P i))), (10, .int (nI ((shF P 11 i).2))), (11, .ref la), (12, .ref ma), (13, .ref sa), (14, .int (nI (hd (1 - p9)))), (15, .int (bI ow)), (16, .int (nI (bsF SS y9)))]) X.1 X.2.1 dL_isTold_515 hl (by decide) rfl (fun ls hl => ?_)
                    refine lv_iload X.1 X.2.1 dL_isTold_517 (lv_at hl 16 rfl) ?_
                    refine lv_if_eq (tgt := 535) X.1 X.2.1 dL_isTold_519 (by decide) (fun c_519 => ?_) (fun c_519 => ?_)
                    · refine lv_iconst (v := 1) X.1 X.2.1 dL_isTold_535 (by decide) ?_
                      refine lv_goto (tgt := 540) X.1 X.2.1 dL_isTold_536 (by decide) ?_
                      exact wr_z X hr hlk rfl hW ⟨rfl, hkp⟩ (Nat.le_of_ble_eq_true rfl) (Nat.le_of_ble_eq_true rfl) dL_isTold_540
                    · have ho : ow = true := bI_1 c_519
                      have hkne : kn = hd (1 - p9) := of_decide_eq_true (j0.symm.trans ho)
                      refine lv_aload_n X.1 X.2.1 dL_isTold_522 rfl (lv_at hl 1 rfl) ?_
                      refine lv_iconst (v := 1) X.1 X.2.1 dL_isTold_523 (by decide) ?_
                      refine lv_iload X.1 X.2.1 dL_isTold_524 (lv_at hl 7 rfl) ?_
                      refine lv_isub X.1 X.2.1 dL_isTold_526 ?_
                      refine r_eqi (show (((1 : Int32) - (nI p9)) : Int32) = nI (1 - p9) from pk_sub (a := 1) (b := p9) (by omega)) ?_
                      refine lc_ri (z := (n, R, hd, k, cs, sk, pn, pt)) (As := [.int (nI (1 - p9))]) (rest := []) X hW.1 hW.2.2 hC (fun hp9 hz9 => c_X6_contract l G hp9 b6 n R hd k cs sk pn pt hz9 (nI (1 - p9))) mf_X6_contract tw_570 tw_571 tw_572 ⟨rfl, rfl, Nat.le_of_ble_eq_true rfl, Nat.le_of_ble_eq_true rfl⟩ hl.1 rfl rfl (Nat.le_of_ble_eq_true rfl) ⟨Nat.le_of_ble_eq_true rfl, Nat.le_of_ble_eq_true rfl⟩ dL_isTold_527 ?_
                      refine r_eqi (show ((fCon (n, R, hd, k, cs, sk, pn, pt) (nI (1 - p9))) : Int32) = (-6) from (show _ = coN SS (cntF P i) from by rw [eSS]; exact fc_i eP hi9 hp9 ho hkne).trans (con_1 hf (by rw [← hy4]; exact k_492)).symm) ?_
                      refine lv_iload X.1 X.2.1 dL_isTold_530 (lv_at hl 0 rfl) ?_
                      refine lv_icmp_ne (tgt := 539) X.1 X.2.1 dL_isTold_532 (by decide) (fun c_532 => absurd (by decide) c_532) (fun c_532 => ?_)
                      refine lv_iconst (v := 1) X.1 X.2.1 dL_isTold_535 (by decide) ?_
                      refine lv_goto (tgt := 540) X.1 X.2.1 dL_isTold_536 (by decide) ?_
                      exact wr_z X hr hlk rfl hW ⟨rfl, hkp⟩ (Nat.le_of_ble_eq_true rfl) (Nat.le_of_ble_eq_true rfl) dL_isTold_540
                | succ fy ihy =>
                  intro y9 hy0 ls hl
                  have hy5 : y9 < 4 := by omega
                  have hb9 := bsF_le SS y9
                  have hb7 := hSS (y9 + 1)
                  have hb8 := hSS (bsF SS y9)
                  refine lv_iload X.1 X.2.1 dL_isTold_445 (lv_at hl 17 rfl) ?_
                  refine lv_iconst (v := 5) X.1 X.2.1 dL_isTold_447 (by decide) ?_
                  refine lv_icmp_ge (tgt := 479) X.1 X.2.1 dL_isTold_448 (by decide) (fun c_448 => absurd c_448 (nI_ge (a := y9 + 1) (b := 5) (by omega) (by decide))) (fun c_448 => ?_)
                  refine lv_aload X.1 X.2.1 dL_isTold_451 (lv_at hl 13 rfl) ?_
                  refine lv_iload X.1 X.2.1 dL_isTold_453 (lv_at hl 17 rfl) ?_
                  refine r_iald X hW.1 w_sa (show vp_in ((nI (y9 + 1))) 5 from vp_in_nI (n := (y9 + 1)) (by omega) (by decide)) dL_isTold_455 ?_
                  refine r_eqi (show ((gs (nI (y9 + 1)).toNatClampNeg) : Int32) = nI (SS (y9 + 1)) from by rw [nI_clamp (by omega)]; exact hgs _ (by omega)) ?_
                  refine lv_aload X.1 X.2.1 dL_isTold_456 (lv_at hl 13 rfl) ?_
                  refine lv_iload X.1 X.2.1 dL_isTold_458 (lv_at hl 16 rfl) ?_
                  refine r_iald X hW.1 w_sa (show vp_in ((nI (bsF SS y9))) 5 from vp_in_nI (n := (bsF SS y9)) (by omega) (by decide)) dL_isTold_460 ?_
                  refine r_eqi (show ((gs (nI (bsF SS y9)).toNatClampNeg) : Int32) = nI (SS (bsF SS y9)) from by rw [nI_clamp (by omega)]; exact hgs _ (by omega)) ?_
                  refine lv_icmp_lt (tgt := 469) X.1 X.2.1 dL_isTold_461 (by decide) (fun c_461 => ?_) (fun c_461 => ?_)
                  · have k_461 := k_lt (a := (SS (y9 + 1))) (b := (SS (bsF SS y9))) (by omega) (by omega) c_461
                    refine lv_iload X.1 X.2.1 dL_isTold_469 (lv_at hl 16 rfl) ?_
                    refine lv_istore (lv' := [(16, .int (nI (bsF SS y9))), (0, .ref b6), (1, .ref ra), (2, .int (nI n)), (3, .ref ca), (4, .int (nI k)), (5, .int (bI sk)), (6, .int (nI p9)), (7, .int (nI kn)), (8, .int (nI (cntF P i))), (9, .int (nI (alN P i))), (10, .int (nI ((shF P 11 i).2))), (11, .ref la), (12, .ref ma), (13, .ref sa), (14, .int (nI (hd (1 - p9)))), (15, .int (bI ow)), (17, .int (nI (y9 + 1)))]) X.1 X.2.1 dL_isTold_471 hl (by decide) rfl (fun ls hl => ?_)
                    refine lv_iinc (v := (nI ((y9 + 1) + 1))) (lv' := [(17, .int (nI ((y9 + 1) + 1))), (16, .int (nI (bsF SS y9))), (0, .ref b6), (1, .ref ra), (2, .int (nI n)), (3, .ref ca), (4, .int (nI k)), (5, .int (bI sk)), (6, .int (nI p9)), (7, .int (nI kn)), (8, .int (nI (cntF P i))), (9, .int (nI (alN P i))), (10, .int (nI ((shF P 11 i).2))), (11, .ref la), (12, .ref ma), (13, .ref sa), (14, .int (nI (hd (1 - p9)))), (15, .int (bI ow))]) X.1 X.2.1 dL_isTold_473 hl (k := 17) rfl (nI_add (y9 + 1) 1) (by decide) rfl (fun ls hl => ?_)
                    refine lv_goto (tgt := 445) X.1 X.2.1 dL_isTold_476 (by decide) ?_
                    exact ihy (y9 + 1) (by omega) ls (by rw [show nI (bsF SS (y9 + 1)) = nI (bsF SS y9) from congrArg nI (bsF_no (Nat.not_le.mpr k_461))]; exact (lv_sub hl [2, 3, 4, 5, 6, 7, 8, 9, 10, 11, 12, 13, 14, 15, 16, 17, 1, 0] rfl))
                  · have k_461 := k_nlt (a := (SS (y9 + 1))) (b := (SS (bsF SS y9))) (by omega) (by omega) c_461
                    refine lv_iload X.1 X.2.1 dL_isTold_464 (lv_at hl 17 rfl) ?_
                    refine lv_goto (tgt := 471) X.1 X.2.1 dL_isTold_466 (by decide) ?_
                    refine lv_istore (lv' := [(16, .int (nI (y9 + 1))), (0, .ref b6), (1, .ref ra), (2, .int (nI n)), (3, .ref ca), (4, .int (nI k)), (5, .int (bI sk)), (6, .int (nI p9)), (7, .int (nI kn)), (8, .int (nI (cntF P i))), (9, .int (nI (alN P i))), (10, .int (nI ((shF P 11 i).2))), (11, .ref la), (12, .ref ma), (13, .ref sa), (14, .int (nI (hd (1 - p9)))), (15, .int (bI ow)), (17, .int (nI (y9 + 1)))]) X.1 X.2.1 dL_isTold_471 hl (by decide) rfl (fun ls hl => ?_)
                    refine lv_iinc (v := (nI ((y9 + 1) + 1))) (lv' := [(17, .int (nI ((y9 + 1) + 1))), (16, .int (nI (y9 + 1))), (0, .ref b6), (1, .ref ra), (2, .int (nI n)), (3, .ref ca), (4, .int (nI k)), (5, .int (bI sk)), (6, .int (nI p9)), (7, .int (nI kn)), (8, .int (nI (cntF P i))), (9, .int (nI (alN P i))), (10, .int (nI ((shF P 11 i).2))), (11, .ref la), (12, .ref ma), (13, .ref sa), (14, .int (nI (hd (1 - p9)))), (15, .int (bI ow))]) X.1 X.2.1 dL_isTold_473 hl (k := 17) rfl (nI_add (y9 + 1) 1) (by decide) rfl (fun ls hl => ?_)
                    refine lv_goto (tgt := 445) X.1 X.2.1 dL_isTold_476 (by decide) ?_
                    exact ihy (y9 + 1) (by omega) ls (by rw [show nI (bsF SS (y9 + 1)) = nI (y9 + 1) from congrArg nI (bsF_yes k_461)]; exact (lv_sub hl [2, 3, 4, 5, 6, 7, 8, 9, 10, 11, 12, 13, 14, 15, 16, 17, 1, 0] rfl))
              exact L445y 4 0 rfl ls (lv_sub hl [2, 3, 4, 5, 6, 7, 8, 9, 10, 11, 12, 13, 14, 15, 16, 17, 1, 0] rfl)
            | succ fx ihx =>
              intro x9 hx0 ls hl
              have hx5 : x9 < 5 := by omega
              have htx := h2 x9 hx5
              have hs7 := su_le (ow := ow) (P := P) (trN_le x9 (hd (1 - p9))) (i := i) (by omega)
              refine lv_iload X.1 X.2.1 dL_isTold_338 (lv_at hl 16 rfl) ?_
              refine lv_iconst (v := 5) X.1 X.2.1 dL_isTold_340 (by decide) ?_
              refine lv_icmp_ge (tgt := 439) X.1 X.2.1 dL_isTold_341 (by decide) (fun c_341 => absurd c_341 (nI_ge (a := x9) (b := 5) (by omega) (by decide))) (fun c_341 => ?_)
              refine lv_aload_n X.1 X.2.1 dL_isTold_344 rfl (lv_at hl 0 rfl) ?_
              refine lv_iload X.1 X.2.1 dL_isTold_345 (lv_at hl 6 rfl) ?_
              refine lv_iload X.1 X.2.1 dL_isTold_347 (lv_at hl 7 rfl) ?_
              refine lv_iconst (v := 2) X.1 X.2.1 dL_isTold_349 (by decide) ?_
              refine lv_iload X.1 X.2.1 dL_isTold_350 (lv_at hl 16 rfl) ?_
              refine lv_imul X.1 X.2.1 dL_isTold_352 ?_
              refine r_eqi (show (((2 : Int32) * (nI x9)) : Int32) = nI (2 * x9) from pk_mul 2 x9) ?_
              refine lc_ri (z := (n, R, hd, k, cs, sk, pn, pt)) (As := [.int (nI p9), .int (nI kn), .int (nI (2 * x9))]) (rest := []) X hW.1 hW.2.2 hC (fun hp9 hz9 => c_X6_shown l G hp9 b6 n R hd k cs sk pn pt hz9 (nI p9) (nI kn) (nI (2 * x9))) mf_X6_shown tw_549 tw_550 tw_551 ⟨rfl, rfl, Nat.le_of_ble_eq_true rfl, Nat.le_of_ble_eq_true rfl⟩ hl.1 rfl rfl (Nat.le_of_ble_eq_true rfl) ⟨Nat.le_of_ble_eq_true rfl, Nat.le_of_ble_eq_true rfl⟩ dL_isTold_353 ?_
              refine r_eqi (show ((fShown n R k cs sk (nI p9) (nI kn) (nI (2 * x9))) : Int32) = nI ((shF P (2 * x9) i).2) from (fw_i (w := (2 * x9)) eP hi9 hp9 hkn (by omega)).trans (if_neg hf)) ?_
              refine lv_iload X.1 X.2.1 dL_isTold_356 (lv_at hl 8 rfl) ?_
              refine lv_if_ne (tgt := 366) X.1 X.2.1 dL_isTold_358 (by decide) (fun c_358 => ?_) (fun c_358 => absurd c_358 (show ¬ nI (cntF P i) = 0 from fun q => hf (k_eq (a := cntF P i) (b := 0) (by omega) (by decide) q)))
              refine lv_aload X.1 X.2.1 dL_isTold_366 (lv_at hl 11 rfl) ?_
              refine lv_iload X.1 X.2.1 dL_isTold_368 (lv_at hl 16 rfl) ?_
              refine r_iald X hW.1 w_la (show vp_in ((nI x9)) 5 from vp_in_nI (n := x9) (by omega) (by decide)) dL_isTold_370 ?_
              refine r_eqi (show ((gl (nI x9).toNatClampNeg) : Int32) = nI ((shF P (2 * x9) i).2) from by rw [nI_clamp (by omega)]; exact htx.1) ?_
              refine lv_icmp_ne (tgt := 431) X.1 X.2.1 dL_isTold_371 (by decide) (fun c_371 => absurd rfl c_371) (fun c_371 => ?_)
              refine lv_aload_n X.1 X.2.1 dL_isTold_374 rfl (lv_at hl 0 rfl) ?_
              refine lv_iload X.1 X.2.1 dL_isTold_375 (lv_at hl 6 rfl) ?_
              refine lv_iload X.1 X.2.1 dL_isTold_377 (lv_at hl 7 rfl) ?_
              refine lv_iconst (v := 2) X.1 X.2.1 dL_isTold_379 (by decide) ?_
              refine lv_iload X.1 X.2.1 dL_isTold_380 (lv_at hl 16 rfl) ?_
              refine lv_imul X.1 X.2.1 dL_isTold_382 ?_
              refine r_eqi (show (((2 : Int32) * (nI x9)) : Int32) = nI (2 * x9) from pk_mul 2 x9) ?_
              refine lv_iconst (v := 1) X.1 X.2.1 dL_isTold_383 (by decide) ?_
              refine lv_iadd X.1 X.2.1 dL_isTold_384 ?_
              refine r_eqi (show (((nI (2 * x9)) + 1) : Int32) = nI ((2 * x9) + 1) from nI_add (2 * x9) 1) ?_
              refine lc_ri (z := (n, R, hd, k, cs, sk, pn, pt)) (As := [.int (nI p9), .int (nI kn), .int (nI ((2 * x9) + 1))]) (rest := []) X hW.1 hW.2.2 hC (fun hp9 hz9 => c_X6_shown l G hp9 b6 n R hd k cs sk pn pt hz9 (nI p9) (nI kn) (nI ((2 * x9) + 1))) mf_X6_shown tw_549 tw_550 tw_551 ⟨rfl, rfl, Nat.le_of_ble_eq_true rfl, Nat.le_of_ble_eq_true rfl⟩ hl.1 rfl rfl (Nat.le_of_ble_eq_true rfl) ⟨Nat.le_of_ble_eq_true rfl, Nat.le_of_ble_eq_true rfl⟩ dL_isTold_385 ?_
              refine r_eqi (show ((fShown n R k cs sk (nI p9) (nI kn) (nI ((2 * x9) + 1))) : Int32) = nI ((shF P ((2 * x9) + 1) i).2) from (fw_i (w := ((2 * x9) + 1)) eP hi9 hp9 hkn (by omega)).trans (if_neg hf)) ?_
              refine lv_iload X.1 X.2.1 dL_isTold_388 (lv_at hl 8 rfl) ?_
              refine lv_if_ne (tgt := 398) X.1 X.2.1 dL_isTold_390 (by decide) (fun c_390 => ?_) (fun c_390 => absurd c_390 (show ¬ nI (cntF P i) = 0 from fun q => hf (k_eq (a := cntF P i) (b := 0) (by omega) (by decide) q)))
              refine lv_aload X.1 X.2.1 dL_isTold_398 (lv_at hl 12 rfl) ?_
              refine lv_iload X.1 X.2.1 dL_isTold_400 (lv_at hl 16 rfl) ?_
              refine r_iald X hW.1 w_ma (show vp_in ((nI x9)) 5 from vp_in_nI (n := x9) (by omega) (by decide)) dL_isTold_402 ?_
              refine r_eqi (show ((gm (nI x9).toNatClampNeg) : Int32) = nI ((shF P (2 * x9 + 1) i).2) from by rw [nI_clamp (by omega)]; exact htx.2.1) ?_
              refine lv_icmp_ne (tgt := 431) X.1 X.2.1 dL_isTold_403 (by decide) (fun c_403 => absurd rfl c_403) (fun c_403 => ?_)
              refine lv_iload X.1 X.2.1 dL_isTold_406 (lv_at hl 15 rfl) ?_
              refine lv_if_eq (tgt := 433) X.1 X.2.1 dL_isTold_408 (by decide) (fun c_408 => ?_) (fun c_408 => ?_)
              · refine lv_iinc (v := (nI (x9 + 1))) (lv' := [(16, .int (nI (x9 + 1))), (0, .ref b6), (1, .ref ra), (2, .int (nI n)), (3, .ref ca), (4, .int (nI k)), (5, .int (bI sk)), (6, .int (nI p9)), (7, .int (nI kn)), (8, .int (nI (cntF P i))), (9, .int (nI (alN P i))), (10, .int (nI ((shF P 11 i).2))), (11, .ref la), (12, .ref ma), (13, .ref sa), (14, .int (nI (hd (1 - p9)))), (15, .int (bI ow))]) X.1 X.2.1 dL_isTold_433 hl (k := 16) rfl (nI_add x9 1) (by decide) rfl (fun ls hl => ?_)
                refine lv_goto (tgt := 338) X.1 X.2.1 dL_isTold_436 (by decide) ?_
                exact ihx (x9 + 1) (by omega) ls (lv_sub hl [1, 2, 3, 4, 5, 6, 7, 8, 9, 10, 11, 12, 13, 14, 15, 16, 0] rfl)
              · have ho : ow = true := bI_1 c_408
                have hkne : kn = hd (1 - p9) := of_decide_eq_true (j0.symm.trans ho)
                refine lv_aload_n X.1 X.2.1 dL_isTold_411 rfl (lv_at hl 0 rfl) ?_
                refine lv_iconst (v := 1) X.1 X.2.1 dL_isTold_412 (by decide) ?_
                refine lv_iload X.1 X.2.1 dL_isTold_413 (lv_at hl 6 rfl) ?_
                refine lv_isub X.1 X.2.1 dL_isTold_415 ?_
                refine r_eqi (show (((1 : Int32) - (nI p9)) : Int32) = nI (1 - p9) from pk_sub (a := 1) (b := p9) (by omega)) ?_
                refine lv_iload X.1 X.2.1 dL_isTold_416 (lv_at hl 16 rfl) ?_
                refine lc_rl (z := (n, R, hd, k, cs, sk, pn, pt)) (As := [.int (nI (1 - p9)), .int (nI x9)]) (rest := []) X hW.1 hW.2.2 hC (fun hp9 hz9 => c_X6_expected l G hp9 b6 n R hd k cs sk pn pt hz9 (nI (1 - p9)) (nI x9)) mf_X6_expected tw_560 tw_561 tw_562 ⟨rfl, rfl, Nat.le_of_ble_eq_true rfl, Nat.le_of_ble_eq_true rfl⟩ hl.1 rfl rfl (Nat.le_of_ble_eq_true rfl) ⟨Nat.le_of_ble_eq_true rfl, Nat.le_of_ble_eq_true rfl⟩ dL_isTold_418 ?_
                refine r_eql (show ((fExp (n, R, hd, k, cs, sk, pn, pt) (nI (1 - p9)) (nI x9)) : Int64) = lN (suO ow P (trN x9 (hd (1 - p9))) i) from fe_i eP hi9 hp9 (by omega) ho hkne) ?_
                refine lv_aload X.1 X.2.1 dL_isTold_421 (lv_at hl 13 rfl) ?_
                refine lv_iload X.1 X.2.1 dL_isTold_423 (lv_at hl 16 rfl) ?_
                refine r_iald X hW.1 w_sa (show vp_in ((nI x9)) 5 from vp_in_nI (n := x9) (by omega) (by decide)) dL_isTold_425 ?_
                refine r_eqi (show ((gs (nI x9).toNatClampNeg) : Int32) = nI (suO ow P (trN x9 (hd (1 - p9))) i) from by rw [nI_clamp (by omega)]; exact htx.2.2) ?_
                refine lv_i2l X.1 X.2.1 dL_isTold_426 rfl ?_
                refine r_eql (show (((nI (suO ow P (trN x9 (hd (1 - p9))) i)).toInt64) : Int64) = lN (suO ow P (trN x9 (hd (1 - p9))) i) from nI_l (by omega)) ?_
                refine r_lcmp X.1 X.2.1 dL_isTold_427 ?_
                refine r_eqi (show ((lcI (lN (suO ow P (trN x9 (hd (1 - p9))) i)) (lN (suO ow P (trN x9 (hd (1 - p9))) i))) : Int32) = 0 from lcI_self _) ?_
                refine lv_if_eq (tgt := 433) X.1 X.2.1 dL_isTold_428 (by decide) (fun c_428 => ?_) (fun c_428 => absurd (by decide) c_428)
                refine lv_iinc (v := (nI (x9 + 1))) (lv' := [(16, .int (nI (x9 + 1))), (0, .ref b6), (1, .ref ra), (2, .int (nI n)), (3, .ref ca), (4, .int (nI k)), (5, .int (bI sk)), (6, .int (nI p9)), (7, .int (nI kn)), (8, .int (nI (cntF P i))), (9, .int (nI (alN P i))), (10, .int (nI ((shF P 11 i).2))), (11, .ref la), (12, .ref ma), (13, .ref sa), (14, .int (nI (hd (1 - p9)))), (15, .int (bI ow))]) X.1 X.2.1 dL_isTold_433 hl (k := 16) rfl (nI_add x9 1) (by decide) rfl (fun ls hl => ?_)
                refine lv_goto (tgt := 338) X.1 X.2.1 dL_isTold_436 (by decide) ?_
                exact ihx (x9 + 1) (by omega) ls (lv_sub hl [1, 2, 3, 4, 5, 6, 7, 8, 9, 10, 11, 12, 13, 14, 15, 16, 0] rfl)
          exact L338x 5 0 rfl ls (lv_sub hl [1, 2, 3, 4, 5, 6, 7, 8, 9, 10, 11, 12, 13, 14, 15, 16, 0] rfl)
      | succ f ih =>
        intro i gl gm gs hpL H locs hW hC w_ra w_ca w_la w_ma w_sa h0 h1 h2 ls hl
        have hkp := h1
        have hlt : i < 15504 := by omega
        obtain ⟨hk1, hk2, hk3, hk4, hk5, hk6, hk7⟩ := HL_ok hlt
        have hcl := cntF_le P i
        refine lv_iload X.1 X.2.1 dL_isTold_54 (lv_at hl 16 rfl) ?_
        refine r_const X tw_529 dL_isTold_56 ?_
        refine lv_icmp_ge (tgt := 270) X.1 X.2.1 dL_isTold_58 (by decide) (fun c_58 => absurd c_58 (he_in (by omega))) (fun c_58 => ?_)
        refine lv_iload X.1 X.2.1 dL_isTold_61 (lv_at hl 16 rfl) ?_
        refine on_Si (run_S (As := [.int (nI (HL i))]) (rest := []) X (c_L_shape l G hpL (HL i) hk2) (rp_blind _) (rp_at X hW.1 hW.2.2) mf_L_shape tw_465 tw_466 ⟨rfl, rfl, Nat.le_of_ble_eq_true rfl, Nat.le_of_ble_eq_true rfl⟩ hl.1 rfl rfl (Nat.le_of_ble_eq_true rfl) ⟨Nat.le_of_ble_eq_true rfl, Nat.le_of_ble_eq_true rfl⟩ dL_isTold_63) (fun r_63 q_63 => ?_)
        obtain rfl : r_63 = (nI (spN (HL i))) := q_63
        refine lv_istore (lv' := [(17, .int (nI (spN (HL i)))), (0, .ref b6), (1, .ref ra), (2, .int (nI n)), (3, .ref ca), (4, .int (nI k)), (5, .int (bI sk)), (6, .int (nI p9)), (7, .int (nI kn)), (8, .int (nI (cntF P i))), (9, .int (nI (alN P i))), (10, .int (nI ((shF P 11 i).2))), (11, .ref la), (12, .ref ma), (13, .ref sa), (14, .int (nI (hd (1 - p9)))), (15, .int (bI ow)), (16, .int (nI (HL i)))]) X.1 X.2.1 dL_isTold_66 hl (by decide) rfl (fun ls hl => ?_)
        refine lv_iload X.1 X.2.1 dL_isTold_68 (lv_at hl 0 rfl) ?_
        refine lv_aload_n X.1 X.2.1 dL_isTold_70 rfl (lv_at hl 2 rfl) ?_
        refine lv_iload_n X.1 X.2.1 dL_isTold_71 rfl (lv_at hl 3 rfl) ?_
        refine lv_aload_n X.1 X.2.1 dL_isTold_72 rfl (lv_at hl 4 rfl) ?_
        refine lv_iload X.1 X.2.1 dL_isTold_73 (lv_at hl 5 rfl) ?_
        refine lv_iload X.1 X.2.1 dL_isTold_75 (lv_at hl 6 rfl) ?_
        refine lv_iload X.1 X.2.1 dL_isTold_77 (lv_at hl 7 rfl) ?_
        refine on_Si (run_S (As := [.int (nI (spN (HL i))), .ref ra, .int (nI n), .ref ca, .int (nI k), .int (bI sk), .int (nI p9)]) (rest := []) X (c_L_agrees l G hpL ra ca (HL i) n R g gc w_ra w_ca hg k cs sk hcg p9 hp9) (rp_blind _) (rp_at X hW.1 hW.2.2) mf_L_agrees tw_530 tw_531 ⟨rfl, rfl, Nat.le_of_ble_eq_true rfl, Nat.le_of_ble_eq_true rfl⟩ hl.1 rfl rfl (Nat.le_of_ble_eq_true rfl) ⟨Nat.le_of_ble_eq_true rfl, Nat.le_of_ble_eq_true rfl⟩ dL_isTold_79) (fun r_79 q_79 => ?_)
        obtain rfl : r_79 = (bI (faB n R k cs sk p9 (HL i))) := q_79
        rcases Bool.eq_false_or_eq_true (faB n R k cs sk p9 (HL i)) with ea | ea
        · refine r_eqi (show bI (faB n R k cs sk p9 (HL i)) = 1 from by rw [ea]; rfl) ?_
          refine lv_istore (lv' := [(18, .int 1), (17, .int (nI (spN (HL i)))), (0, .ref b6), (1, .ref ra), (2, .int (nI n)), (3, .ref ca), (4, .int (nI k)), (5, .int (bI sk)), (6, .int (nI p9)), (7, .int (nI kn)), (8, .int (nI (cntF P i))), (9, .int (nI (alN P i))), (10, .int (nI ((shF P 11 i).2))), (11, .ref la), (12, .ref ma), (13, .ref sa), (14, .int (nI (hd (1 - p9)))), (15, .int (bI ow)), (16, .int (nI (HL i)))]) X.1 X.2.1 dL_isTold_82 hl (by decide) rfl (fun ls hl => ?_)
          refine lv_iload X.1 X.2.1 dL_isTold_84 (lv_at hl 0 rfl) ?_
          refine lv_aload_n X.1 X.2.1 dL_isTold_86 rfl (lv_at hl 2 rfl) ?_
          refine lv_iload X.1 X.2.1 dL_isTold_87 (lv_at hl 8 rfl) ?_
          refine lv_iload X.1 X.2.1 dL_isTold_89 (lv_at hl 18 rfl) ?_
          refine lc_ri (z := (n, R, hd, k, cs, sk, pn, pt)) (As := [.int (nI p9), .int (nI (HL i))]) (rest := [.int 1]) X hW.1 hW.2.2 hC (fun hp9 hz9 => c_X6_fits l G hp9 b6 n R hd k cs sk pn pt hz9 (nI p9) (nI (HL i))) mf_X6_fits tw_275 tw_276 tw_277 ⟨rfl, rfl, Nat.le_of_ble_eq_true rfl, Nat.le_of_ble_eq_true rfl⟩ hl.1 rfl rfl (Nat.le_of_ble_eq_true rfl) ⟨Nat.le_of_ble_eq_true rfl, Nat.le_of_ble_eq_true rfl⟩ dL_isTold_91 ?_
          refine r_eqi (show ((fFits n R k cs sk (nI p9) (nI (HL i))) : Int32) = 1 from (ff_v hp9 hk2 hk3).trans (by rw [ea]; rfl)) ?_
          refine lv_iconst (v := 1) X.1 X.2.1 dL_isTold_94 (by decide) ?_
          refine lv_icmp_ne (tgt := 102) X.1 X.2.1 dL_isTold_95 (by decide) (fun c_95 => absurd (by decide) c_95) (fun c_95 => ?_)
          refine lv_iconst (v := 1) X.1 X.2.1 dL_isTold_98 (by decide) ?_
          refine lv_goto (tgt := 103) X.1 X.2.1 dL_isTold_99 (by decide) ?_
          refine lv_icmp_eq (tgt := 108) X.1 X.2.1 dL_isTold_103 (by decide) (fun c_103 => ?_) (fun c_103 => absurd (by decide) c_103)
          refine lv_iload X.1 X.2.1 dL_isTold_108 (lv_at hl 0 rfl) ?_
          refine lv_if_eq (tgt := 260) X.1 X.2.1 dL_isTold_110 (by decide) (fun c_110 => absurd c_110 (by decide)) (fun c_110 => ?_)
          refine lv_iload X.1 X.2.1 dL_isTold_113 (lv_at hl 18 rfl) ?_
          refine lv_iload X.1 X.2.1 dL_isTold_115 (lv_at hl 9 rfl) ?_
          refine lv_iand X.1 X.2.1 dL_isTold_117 ?_
          refine r_eqi (show (((nI (HL i)) &&& (nI kn)) : Int32) = nI ((HL i) &&& kn) from n_and (HL i) kn) ?_
          refine lv_if_ne (tgt := 260) X.1 X.2.1 dL_isTold_118 (by decide) (fun c_118 => ?_) (fun c_118 => ?_)
          · have k_118 := k_ne (a := ((HL i) &&& kn)) (b := 0) (by first | exact Nat.lt_of_le_of_lt Nat.and_le_left (by omega) | decide) (by first | exact Nat.lt_of_le_of_lt Nat.and_le_left (by omega) | decide) c_118
            have hP : ¬ P (HL i) = true := hid_no2 eP k_118
            refine lv_iload X.1 X.2.1 dL_isTold_260 (lv_at hl 18 rfl) ?_
            refine on_Si (run_S (As := [.int (nI (HL i))]) (rest := []) X (c_L_next l G hpL (HL i) hk2 hk7) (rp_blind _) (rp_at X hW.1 hW.2.2) mf_L_next tw_533 tw_534 ⟨rfl, rfl, Nat.le_of_ble_eq_true rfl, Nat.le_of_ble_eq_true rfl⟩ hl.1 rfl rfl (Nat.le_of_ble_eq_true rfl) ⟨Nat.le_of_ble_eq_true rfl, Nat.le_of_ble_eq_true rfl⟩ dL_isTold_262) (fun r_262 q_262 => ?_)
            obtain rfl : r_262 = (nI (nhN (HL i))) := q_262
            refine r_eqi (show ((nI (nhN (HL i))) : Int32) = nI (HL (i + 1)) from rfl) ?_
            refine lv_istore (lv' := [(16, .int (nI (HL (i + 1)))), (18, .int 1), (17, .int (nI (spN (HL i)))), (0, .ref b6), (1, .ref ra), (2, .int (nI n)), (3, .ref ca), (4, .int (nI k)), (5, .int (bI sk)), (6, .int (nI p9)), (7, .int (nI kn)), (8, .int (nI (cntF P i))), (9, .int (nI (alN P i))), (10, .int (nI ((shF P 11 i).2))), (11, .ref la), (12, .ref ma), (13, .ref sa), (14, .int (nI (hd (1 - p9)))), (15, .int (bI ow))]) X.1 X.2.1 dL_isTold_265 hl (by decide) rfl (fun ls hl => ?_)
            refine lv_goto (tgt := 54) X.1 X.2.1 dL_isTold_267 (by decide) ?_
            exact ih (i + 1) gl gm gs _ _ _ hW hC w_ra w_ca w_la w_ma w_sa (by omega) hkp (tx_no h2 hP) ls (by rw [cn_no hP, al_no hP, sh_no (w := 11) hP]; exact (lv_sub hl [3, 4, 5, 6, 7, 8, 9, 10, 11, 12, 13, 14, 15, 16, 17, 18, 0] rfl))
          · have k_118 := k_eq (a := ((HL i) &&& kn)) (b := 0) (by first | exact Nat.lt_of_le_of_lt Nat.and_le_left (by omega) | decide) (by first | exact Nat.lt_of_le_of_lt Nat.and_le_left (by omega) | decide) c_118
            have hP : P (HL i) = true := hid_yes eP ea k_118
            refine lv_iconst (v := 0) X.1 X.2.1 dL_isTold_121 (by decide) ?_
            refine lv_istore (lv' := [(19, .int 0), (18, .int 1), (17, .int (nI (spN (HL i)))), (0, .ref b6), (1, .ref ra), (2, .int (nI n)), (3, .ref ca), (4, .int (nI k)), (5, .int (bI sk)), (6, .int (nI p9)), (7, .int (nI kn)), (8, .int (nI (cntF P i))), (9, .int (nI (alN P i))), (10, .int (nI ((shF P 11 i).2))), (11, .ref la), (12, .ref ma), (13, .ref sa), (14, .int (nI (hd (1 - p9)))), (15, .int (bI ow)), (16, .int (nI (HL i)))]) X.1 X.2.1 dL_isTold_122 hl (by decide) rfl (fun ls hl => ?_)
            have L124w : ∀ (fw : Nat) (w9 : Nat) (gl2 : Nat → Int32) (gm2 : Nat → Int32) (gs2 : Nat → Int32) (hpL : HP) (H : Heap) (locs : List Loc), WS s G A hpL H locs → CP G hpL [sa, ma, la, ra, ca] b6 (n, R, hd, k, cs, sk, pn, pt) → hpL ra = some (.inl (G.2.1 1, 48, .inl g)) → hpL ca = some (.inl (G.2.1 1, 52, .inl gc)) → hpL la = some (.inl (G.2.1 1, 5, .inl gl2)) → hpL ma = some (.inl (G.2.1 1, 5, .inl gm2)) → hpL sa = some (.inl (G.2.1 1, 5, .inl gs2)) → (w9 + fw = 5) → (∀ q e, hp q = some e → hpL q = some e) → (TX P ow (hd (1 - p9)) (IW w9 i) gl2 gm2 gs2) → ∀ ls, lv_has ls 21 [(0, .ref b6), (1, .ref ra), (2, .int (nI n)), (3, .ref ca), (4, .int (nI k)), (5, .int (bI sk)), (6, .int (nI p9)), (7, .int (nI kn)), (8, .int (nI (cntF P i))), (9, .int (nI (alN P i))), (10, .int (nI ((shF P 11 i).2))), (11, .ref la), (12, .ref ma), (13, .ref sa), (14, .int (nI (hd (1 - p9)))), (15, .int (bI ow)), (16, .int (nI (HL i))), (17, .int (nI (spN (HL i)))), (18, .int 1), (19, .int (nI w9))] → W p l e ({ frames := 8, cells := 3, slots := 15, locals := 191 } : Room) s m args below meth c H locs 3 15 (MQ below (va_Qi (fun r hp1 => r = 1 ∧ ∀ q e, hp q = some e → hp1 q = some e) (WB G A) A) args s 3 15 A) (F0 m 124 ls []) := by
              intro fw
              induction fw with
              | zero =>
                intro w9 gl2 gm2 gs2 hpL H locs hW hC ww_ra ww_ca ww_la ww_ma ww_sa hw0 hw1 hw2 ls hl
                have hkp := hw1
                refine lv_iload X.1 X.2.1 dL_isTold_124 (lv_at hl 19 rfl) ?_
                refine lv_iconst (v := 5) X.1 X.2.1 dL_isTold_126 (by decide) ?_
                refine lv_icmp_ge (tgt := 243) X.1 X.2.1 dL_isTold_127 (by decide) (fun c_127 => ?_) (fun c_127 => absurd (nI_le (a := 5) (b := w9) (by omega) (by omega)) c_127)
                refine lv_iload X.1 X.2.1 dL_isTold_243 (lv_at hl 9 rfl) ?_
                refine lv_iload X.1 X.2.1 dL_isTold_245 (lv_at hl 16 rfl) ?_
                refine lv_iand X.1 X.2.1 dL_isTold_247 ?_
                refine r_eqi (show (((nI (alN P i)) &&& (nI (HL i))) : Int32) = nI ((alN P i) &&& (HL i)) from n_and (alN P i) (HL i)) ?_
                refine r_eqi (show ((nI ((alN P i) &&& (HL i))) : Int32) = nI (alN P (i + 1)) from congrArg nI (al_ye hk2 hP)) ?_
                refine lv_istore (lv' := [(9, .int (nI (alN P (i + 1)))), (0, .ref b6), (1, .ref ra), (2, .int (nI n)), (3, .ref ca), (4, .int (nI k)), (5, .int (bI sk)), (6, .int (nI p9)), (7, .int (nI kn)), (8, .int (nI (cntF P i))), (10, .int (nI ((shF P 11 i).2))), (11, .ref la), (12, .ref ma), (13, .ref sa), (14, .int (nI (hd (1 - p9)))), (15, .int (bI ow)), (16, .int (nI (HL i))), (17, .int (nI (spN (HL i)))), (18, .int 1), (19, .int (nI w9))]) X.1 X.2.1 dL_isTold_248 hl (by decide) rfl (fun ls hl => ?_)
                refine lv_iload X.1 X.2.1 dL_isTold_250 (lv_at hl 10 rfl) ?_
                refine lv_iload X.1 X.2.1 dL_isTold_252 (lv_at hl 16 rfl) ?_
                refine lv_ior X.1 X.2.1 dL_isTold_254 ?_
                refine r_eqi (show (((nI ((shF P 11 i).2)) ||| (nI (HL i))) : Int32) = nI (((shF P 11 i).2) ||| (HL i)) from n_or ((shF P 11 i).2) (HL i)) ?_
                refine r_eqi (show ((nI (((shF P 11 i).2) ||| (HL i))) : Int32) = nI ((shF P 11 (i + 1)).2) from congrArg nI (so_ye hP)) ?_
                refine lv_istore (lv' := [(10, .int (nI ((shF P 11 (i + 1)).2))), (9, .int (nI (alN P (i + 1)))), (0, .ref b6), (1, .ref ra), (2, .int (nI n)), (3, .ref ca), (4, .int (nI k)), (5, .int (bI sk)), (6, .int (nI p9)), (7, .int (nI kn)), (8, .int (nI (cntF P i))), (11, .ref la), (12, .ref ma), (13, .ref sa), (14, .int (nI (hd (1 - p9)))), (15, .int (bI ow)), (16, .int (nI (HL i))), (17, .int (nI (spN (HL i)))), (18, .int 1), (19, .int (nI w9))]) X.1 X.2.1 dL_isTold_255 hl (by decide) rfl (fun ls hl => ?_)
                refine lv_iinc (v := (nI ((cntF P i) + 1))) (lv' := [(8, .int (nI ((cntF P i) + 1))), (10, .int (nI ((shF P 11 (i + 1)).2))), (9, .int (nI (alN P (i + 1)))), (0, .ref b6), (1, .ref ra), (2, .int (nI n)), (3, .ref ca), (4, .int (nI k)), (5, .int (bI sk)), (6, .int (nI p9)), (7, .int (nI kn)), (11, .ref la), (12, .ref ma), (13, .ref sa), (14, .int (nI (hd (1 - p9)))), (15, .int (bI ow)), (16, .int (nI (HL i))), (17, .int (nI (spN (HL i)))), (18, .int 1), (19, .int (nI w9))]) X.1 X.2.1 dL_isTold_257 hl (k := 10) rfl (nI_add (cntF P i) 1) (by decide) rfl (fun ls hl => ?_)
                refine lv_iload X.1 X.2.1 dL_isTold_260 (lv_at hl 16 rfl) ?_
                refine on_Si (run_S (As := [.int (nI (HL i))]) (rest := []) X (c_L_next l G hpL (HL i) hk2 hk7) (rp_blind _) (rp_at X hW.1 hW.2.2) mf_L_next tw_533 tw_534 ⟨rfl, rfl, Nat.le_of_ble_eq_true rfl, Nat.le_of_ble_eq_true rfl⟩ hl.1 rfl rfl (Nat.le_of_ble_eq_true rfl) ⟨Nat.le_of_ble_eq_true rfl, Nat.le_of_ble_eq_true rfl⟩ dL_isTold_262) (fun r_262 q_262 => ?_)
                obtain rfl : r_262 = (nI (nhN (HL i))) := q_262
                refine r_eqi (show ((nI (nhN (HL i))) : Int32) = nI (HL (i + 1)) from rfl) ?_
                refine lv_istore (lv' := [(16, .int (nI (HL (i + 1)))), (8, .int (nI ((cntF P i) + 1))), (10, .int (nI ((shF P 11 (i + 1)).2))), (9, .int (nI (alN P (i + 1)))), (0, .ref b6), (1, .ref ra), (2, .int (nI n)), (3, .ref ca), (4, .int (nI k)), (5, .int (bI sk)), (6, .int (nI p9)), (7, .int (nI kn)), (11, .ref la), (12, .ref ma), (13, .ref sa), (14, .int (nI (hd (1 - p9)))), (15, .int (bI ow)), (17, .int (nI (spN (HL i)))), (18, .int 1), (19, .int (nI w9))]) X.1 X.2.1 dL_isTold_265 hl (by decide) rfl (fun ls hl => ?_)
                refine lv_goto (tgt := 54) X.1 X.2.1 dL_isTold_267 (by decide) ?_
                exact ih (i + 1) gl2 gm2 gs2 _ _ _ hW hC ww_ra ww_ca ww_la ww_ma ww_sa (by omega) hkp (tx_w5 hw2 (by omega)) ls (by rw [cn_yes hP]; exact (lv_sub hl [4, 5, 6, 7, 8, 9, 10, 11, 1, 3, 2, 12, 13, 14, 15, 16, 0] rfl))
              | succ fw ihw =>
                intro w9 gl2 gm2 gs2 hpL H locs hW hC ww_ra ww_ca ww_la ww_ma ww_sa hw0 hw1 hw2 ls hl
                have hkp := hw1
                have hw5 : w9 < 5 := by omega
                have htx := tx_at hw2 hw5
                have hm9 := @measN_le (HL i) w9
                have hs9 := shF_le P (2 * w9) i (by omega)
                have hs8 := shF_le P (2 * w9 + 1) i (by omega)
                have hs7 := su_le (ow := ow) (P := P) (trN_le w9 (hd (1 - p9))) (i := i) (by omega)
                have hs6 := shF_le P (2 * w9) (i + 1) (by omega)
                refine lv_iload X.1 X.2.1 dL_isTold_124 (lv_at hl 19 rfl) ?_
                refine lv_iconst (v := 5) X.1 X.2.1 dL_isTold_126 (by decide) ?_
                refine lv_icmp_ge (tgt := 243) X.1 X.2.1 dL_isTold_127 (by decide) (fun c_127 => absurd c_127 (nI_ge (a := w9) (b := 5) (by omega) (by decide))) (fun c_127 => ?_)
                have J154v : ∀ (ls : Array Slot), lv_has ls 21 [(0, .ref b6), (1, .ref ra), (2, .int (nI n)), (3, .ref ca), (4, .int (nI k)), (5, .int (bI sk)), (6, .int (nI p9)), (7, .int (nI kn)), (8, .int (nI (cntF P i))), (9, .int (nI (alN P i))), (10, .int (nI ((shF P 11 i).2))), (11, .ref la), (12, .ref ma), (13, .ref sa), (14, .int (nI (hd (1 - p9)))), (15, .int (bI ow)), (16, .int (nI (HL i))), (17, .int (nI (spN (HL i)))), (18, .int 1), (19, .int (nI w9))] → W p l e ({ frames := 8, cells := 3, slots := 15, locals := 191 } : Room) s m args below meth c H locs 3 15 (MQ below (va_Qi (fun r hp1 => r = 1 ∧ ∀ q e, hp q = some e → hp1 q = some e) (WB G A) A) args s 3 15 A) (F0 m 154 ls [.int (nI (measN (HL i) w9))]) := by
                  intro  ls  hl
                  refine lv_istore (lv' := [(20, .int (nI (measN (HL i) w9))), (0, .ref b6), (1, .ref ra), (2, .int (nI n)), (3, .ref ca), (4, .int (nI k)), (5, .int (bI sk)), (6, .int (nI p9)), (7, .int (nI kn)), (8, .int (nI (cntF P i))), (9, .int (nI (alN P i))), (10, .int (nI ((shF P 11 i).2))), (11, .ref la), (12, .ref ma), (13, .ref sa), (14, .int (nI (hd (1 - p9)))), (15, .int (bI ow)), (16, .int (nI (HL i))), (17, .int (nI (spN (HL i)))), (18, .int 1), (19, .int (nI w9))]) X.1 X.2.1 dL_isTold_154 hl (by decide) rfl (fun ls hl => ?_)
                  have J185l : ∀ (ls : Array Slot), lv_has ls 21 [(20, .int (nI (measN (HL i) w9))), (0, .ref b6), (1, .ref ra), (2, .int (nI n)), (3, .ref ca), (4, .int (nI k)), (5, .int (bI sk)), (6, .int (nI p9)), (7, .int (nI kn)), (8, .int (nI (cntF P i))), (9, .int (nI (alN P i))), (10, .int (nI ((shF P 11 i).2))), (11, .ref la), (12, .ref ma), (13, .ref sa), (14, .int (nI (hd (1 - p9)))), (15, .int (bI ow)), (16, .int (nI (HL i))), (17, .int (nI (spN (HL i)))), (18, .int 1), (19, .int (nI w9))] → W p l e ({ frames := 8, cells := 3, slots := 15, locals := 191 } : Room) s m args below meth c H locs 3 15 (MQ below (va_Qi (fun r hp1 => r = 1 ∧ ∀ q e, hp q = some e → hp1 q = some e) (WB G A) A) args s 3 15 A) (F0 m 185 ls [.int (nI ((shF P (2 * w9) (i + 1)).2)), .int (nI w9), .ref la]) := by
                    intro  ls  hl
                    refine r_iast X hW ww_la (show vp_in ((nI w9)) 5 from vp_in_nI (n := w9) (by omega) (by decide)) dL_isTold_185 (fun hp_13 H locs hW eh_14 => ?_)
                    have f_15 : hp_13 la = some (.inl (G.2.1 1, 5, .inl (upd gl2 (nI w9).toNatClampNeg (nI ((shF P (2 * w9) (i + 1)).2))))) := by rw [eh_14]; exact va_up_self _ _ _
                    have hC := cp_up hC eh_14 (by simp)
                    have hkp := kp_up hkp eh_14 hk0_la
                    have J210h : ∀ (ls : Array Slot), lv_has ls 21 [(20, .int (nI (measN (HL i) w9))), (0, .ref b6), (1, .ref ra), (2, .int (nI n)), (3, .ref ca), (4, .int (nI k)), (5, .int (bI sk)), (6, .int (nI p9)), (7, .int (nI kn)), (8, .int (nI (cntF P i))), (9, .int (nI (alN P i))), (10, .int (nI ((shF P 11 i).2))), (11, .ref la), (12, .ref ma), (13, .ref sa), (14, .int (nI (hd (1 - p9)))), (15, .int (bI ow)), (16, .int (nI (HL i))), (17, .int (nI (spN (HL i)))), (18, .int 1), (19, .int (nI w9))] → W p l e ({ frames := 8, cells := 3, slots := 15, locals := 191 } : Room) s m args below meth c H locs 3 15 (MQ below (va_Qi (fun r hp1 => r = 1 ∧ ∀ q e, hp q = some e → hp1 q = some e) (WB G A) A) args s 3 15 A) (F0 m 210 ls [.int (nI ((shF P (2 * w9 + 1) (i + 1)).2)), .int (nI w9), .ref ma]) := by
                      intro  ls  hl
                      have f_16 : hp_13 ma = some (.inl (G.2.1 1, 5, .inl gm2)) := by rw [eh_14, va_up_ne _ _ (Ne.symm ne_la_ma)]; exact ww_ma
                      refine r_iast X hW f_16 (show vp_in ((nI w9)) 5 from vp_in_nI (n := w9) (by omega) (by decide)) dL_isTold_210 (fun hp_17 H locs hW eh_18 => ?_)
                      have f_19 : hp_17 ma = some (.inl (G.2.1 1, 5, .inl (upd gm2 (nI w9).toNatClampNeg (nI ((shF P (2 * w9 + 1) (i + 1)).2))))) := by rw [eh_18]; exact va_up_self _ _ _
                      have hC := cp_up hC eh_18 (by simp)
                      have hkp := kp_up hkp eh_18 hk0_ma
                      refine lv_aload X.1 X.2.1 dL_isTold_211 (lv_at hl 14 rfl) ?_
                      refine lv_iload X.1 X.2.1 dL_isTold_213 (lv_at hl 20 rfl) ?_
                      refine lv_dup2_11 X.1 X.2.1 dL_isTold_215 rfl rfl ?_
                      have f_20 : hp_17 sa = some (.inl (G.2.1 1, 5, .inl gs2)) := by rw [eh_18, va_up_ne _ _ (Ne.symm ne_ma_sa), eh_14, va_up_ne _ _ (Ne.symm ne_la_sa)]; exact ww_sa
                      refine r_iald X hW.1 f_20 (show vp_in ((nI w9)) 5 from vp_in_nI (n := w9) (by omega) (by decide)) dL_isTold_216 ?_
                      refine r_eqi (show ((gs2 (nI w9).toNatClampNeg) : Int32) = nI (suO ow P (trN w9 (hd (1 - p9))) i) from by rw [nI_clamp (by omega)]; exact htx.2.2) ?_
                      refine lv_iload X.1 X.2.1 dL_isTold_217 (lv_at hl 16 rfl) ?_
                      refine lv_if_eq (tgt := 234) X.1 X.2.1 dL_isTold_219 (by decide) (fun c_219 => ?_) (fun c_219 => ?_)
                      · refine lv_iconst (v := 0) X.1 X.2.1 dL_isTold_234 (by decide) ?_
                        refine lv_iadd X.1 X.2.1 dL_isTold_235 ?_
                        refine r_eqi (show (((nI (suO ow P (trN w9 (hd (1 - p9))) i)) + 0) : Int32) = nI (suO ow P (trN w9 (hd (1 - p9))) i) from nI_add (suO ow P (trN w9 (hd (1 - p9))) i) 0) ?_
                        refine r_eqi (show ((nI (suO ow P (trN w9 (hd (1 - p9))) i)) : Int32) = nI (suO ow P (trN w9 (hd (1 - p9))) (i + 1)) from congrArg nI (su_nn (bI_0 c_219))) ?_
                        refine r_iast X hW f_20 (show vp_in ((nI w9)) 5 from vp_in_nI (n := w9) (by omega) (by decide)) dL_isTold_236 (fun hp_21 H locs hW eh_22 => ?_)
                        have f_23 : hp_21 sa = some (.inl (G.2.1 1, 5, .inl (upd gs2 (nI w9).toNatClampNeg (nI (suO ow P (trN w9 (hd (1 - p9))) (i + 1)))))) := by rw [eh_22]; exact va_up_self _ _ _
                        have hC := cp_up hC eh_22 (by simp)
                        have hkp := kp_up hkp eh_22 hk0_sa
                        refine lv_iinc (v := (nI (w9 + 1))) (lv' := [(19, .int (nI (w9 + 1))), (20, .int (nI (measN (HL i) w9))), (0, .ref b6), (1, .ref ra), (2, .int (nI n)), (3, .ref ca), (4, .int (nI k)), (5, .int (bI sk)), (6, .int (nI p9)), (7, .int (nI kn)), (8, .int (nI (cntF P i))), (9, .int (nI (alN P i))), (10, .int (nI ((shF P 11 i).2))), (11, .ref la), (12, .ref ma), (13, .ref sa), (14, .int (nI (hd (1 - p9)))), (15, .int (bI ow)), (16, .int (nI (HL i))), (17, .int (nI (spN (HL i)))), (18, .int 1)]) X.1 X.2.1 dL_isTold_237 hl (k := 20) rfl (nI_add w9 1) (by decide) rfl (fun ls hl => ?_)
                        refine lv_goto (tgt := 124) X.1 X.2.1 dL_isTold_240 (by decide) ?_
                        have f_24 : hp_21 ra = some (.inl (G.2.1 1, 48, .inl g)) := by rw [eh_22, va_up_ne _ _ ne_ra_sa, eh_18, va_up_ne _ _ ne_ra_ma, eh_14, va_up_ne _ _ ne_ra_la]; exact ww_ra
                        have f_25 : hp_21 ca = some (.inl (G.2.1 1, 52, .inl gc)) := by rw [eh_22, va_up_ne _ _ ne_ca_sa, eh_18, va_up_ne _ _ ne_ca_ma, eh_14, va_up_ne _ _ ne_ca_la]; exact ww_ca
                        have f_26 : hp_21 la = some (.inl (G.2.1 1, 5, .inl (upd gl2 (nI w9).toNatClampNeg (nI ((shF P (2 * w9) (i + 1)).2))))) := by rw [eh_22, va_up_ne _ _ ne_la_sa, eh_18, va_up_ne _ _ ne_la_ma]; exact f_15
                        have f_27 : hp_21 ma = some (.inl (G.2.1 1, 5, .inl (upd gm2 (nI w9).toNatClampNeg (nI ((shF P (2 * w9 + 1) (i + 1)).2))))) := by rw [eh_22, va_up_ne _ _ ne_ma_sa]; exact f_19
                        exact ihw (w9 + 1) (upd gl2 (nI w9).toNatClampNeg (nI ((shF P (2 * w9) (i + 1)).2))) (upd gm2 (nI w9).toNatClampNeg (nI ((shF P (2 * w9 + 1) (i + 1)).2))) (upd gs2 (nI w9).toNatClampNeg (nI (suO ow P (trN w9 (hd (1 - p9))) (i + 1)))) _ _ _ hW hC f_24 f_25 f_26 f_27 f_23 (by omega) hkp (tx_step hw2 hw5) ls (lv_sub hl [2, 3, 4, 5, 6, 7, 8, 9, 10, 11, 12, 13, 14, 15, 16, 17, 18, 19, 20, 0] rfl)
                      · refine lv_iload X.1 X.2.1 dL_isTold_222 (lv_at hl 20 rfl) ?_
                        refine lv_iload X.1 X.2.1 dL_isTold_224 (lv_at hl 15 rfl) ?_
                        refine lv_iload X.1 X.2.1 dL_isTold_226 (lv_at hl 17 rfl) ?_
                        refine on_Si (run_S (As := [.int (nI w9), .int (nI (hd (1 - p9))), .int (nI (HL i))]) (rest := [.int (nI (suO ow P (trN w9 (hd (1 - p9))) i)), .int (nI w9), .ref sa]) X (c_L_tricks l G hp_17 w9 (hd (1 - p9)) (HL i) hw5 hown.1 hk2) (rp_blind _) (rp_at X hW.1 hW.2.2) mf_L_tricks tw_519 tw_520 ⟨rfl, rfl, Nat.le_of_ble_eq_true rfl, Nat.le_of_ble_eq_true rfl⟩ hl.1 rfl rfl (Nat.le_of_ble_eq_true rfl) ⟨Nat.le_of_ble_eq_true rfl, Nat.le_of_ble_eq_true rfl⟩ dL_isTold_228) (fun r_228 q_228 => ?_)
                        obtain rfl : r_228 = (nI (trN w9 (hd (1 - p9)) (HL i))) := q_228
                        refine lv_goto (tgt := 235) X.1 X.2.1 dL_isTold_231 (by decide) ?_
                        refine lv_iadd X.1 X.2.1 dL_isTold_235 ?_
                        refine r_eqi (show (((nI (suO ow P (trN w9 (hd (1 - p9))) i)) + (nI (trN w9 (hd (1 - p9)) (HL i)))) : Int32) = nI ((suO ow P (trN w9 (hd (1 - p9))) i) + (trN w9 (hd (1 - p9)) (HL i))) from nI_add (suO ow P (trN w9 (hd (1 - p9))) i) (trN w9 (hd (1 - p9)) (HL i))) ?_
                        refine r_eqi (show ((nI ((suO ow P (trN w9 (hd (1 - p9))) i) + (trN w9 (hd (1 - p9)) (HL i)))) : Int32) = nI (suO ow P (trN w9 (hd (1 - p9))) (i + 1)) from congrArg nI (su_ye (f := trN w9 (hd (1 - p9))) (bI_1 c_219) hP)) ?_
                        refine r_iast X hW f_20 (show vp_in ((nI w9)) 5 from vp_in_nI (n := w9) (by omega) (by decide)) dL_isTold_236 (fun hp_28 H locs hW eh_29 => ?_)
                        have f_30 : hp_28 sa = some (.inl (G.2.1 1, 5, .inl (upd gs2 (nI w9).toNatClampNeg (nI (suO ow P (trN w9 (hd (1 - p9))) (i + 1)))))) := by rw [eh_29]; exact va_up_self _ _ _
                        have hC := cp_up hC eh_29 (by simp)
                        have hkp := kp_up hkp eh_29 hk0_sa
                        refine lv_iinc (v := (nI (w9 + 1))) (lv' := [(19, .int (nI (w9 + 1))), (20, .int (nI (measN (HL i) w9))), (0, .ref b6), (1, .ref ra), (2, .int (nI n)), (3, .ref ca), (4, .int (nI k)), (5, .int (bI sk)), (6, .int (nI p9)), (7, .int (nI kn)), (8, .int (nI (cntF P i))), (9, .int (nI (alN P i))), (10, .int (nI ((shF P 11 i).2))), (11, .ref la), (12, .ref ma), (13, .ref sa), (14, .int (nI (hd (1 - p9)))), (15, .int (bI ow)), (16, .int (nI (HL i))), (17, .int (nI (spN (HL i)))), (18, .int 1)]) X.1 X.2.1 dL_isTold_237 hl (k := 20) rfl (nI_add w9 1) (by decide) rfl (fun ls hl => ?_)
                        refine lv_goto (tgt := 124) X.1 X.2.1 dL_isTold_240 (by decide) ?_
                        have f_31 : hp_28 ra = some (.inl (G.2.1 1, 48, .inl g)) := by rw [eh_29, va_up_ne _ _ ne_ra_sa, eh_18, va_up_ne _ _ ne_ra_ma, eh_14, va_up_ne _ _ ne_ra_la]; exact ww_ra
                        have f_32 : hp_28 ca = some (.inl (G.2.1 1, 52, .inl gc)) := by rw [eh_29, va_up_ne _ _ ne_ca_sa, eh_18, va_up_ne _ _ ne_ca_ma, eh_14, va_up_ne _ _ ne_ca_la]; exact ww_ca
                        have f_33 : hp_28 la = some (.inl (G.2.1 1, 5, .inl (upd gl2 (nI w9).toNatClampNeg (nI ((shF P (2 * w9) (i + 1)).2))))) := by rw [eh_29, va_up_ne _ _ ne_la_sa, eh_18, va_up_ne _ _ ne_la_ma]; exact f_15
                        have f_34 : hp_28 ma = some (.inl (G.2.1 1, 5, .inl (upd gm2 (nI w9).toNatClampNeg (nI ((shF P (2 * w9 + 1) (i + 1)).2))))) := by rw [eh_29, va_up_ne _ _ ne_ma_sa]; exact f_19
                        exact ihw (w9 + 1) (upd gl2 (nI w9).toNatClampNeg (nI ((shF P (2 * w9) (i + 1)).2))) (upd gm2 (nI w9).toNatClampNeg (nI ((shF P (2 * w9 + 1) (i + 1)).2))) (upd gs2 (nI w9).toNatClampNeg (nI (suO ow P (trN w9 (hd (1 - p9))) (i + 1)))) _ _ _ hW hC f_31 f_32 f_33 f_34 f_30 (by omega) hkp (tx_step hw2 hw5) ls (lv_sub hl [2, 3, 4, 5, 6, 7, 8, 9, 10, 11, 12, 13, 14, 15, 16, 17, 18, 19, 20, 0] rfl)
                    refine lv_aload X.1 X.2.1 dL_isTold_186 (lv_at hl 13 rfl) ?_
                    refine lv_iload X.1 X.2.1 dL_isTold_188 (lv_at hl 20 rfl) ?_
                    refine lv_iload X.1 X.2.1 dL_isTold_190 (lv_at hl 0 rfl) ?_
                    refine lv_aload X.1 X.2.1 dL_isTold_192 (lv_at hl 13 rfl) ?_
                    refine lv_iload X.1 X.2.1 dL_isTold_194 (lv_at hl 20 rfl) ?_
                    have f_35 : hp_13 ma = some (.inl (G.2.1 1, 5, .inl gm2)) := by rw [eh_14, va_up_ne _ _ (Ne.symm ne_la_ma)]; exact ww_ma
                    refine r_iald X hW.1 f_35 (show vp_in ((nI w9)) 5 from vp_in_nI (n := w9) (by omega) (by decide)) dL_isTold_196 ?_
                    refine r_eqi (show ((gm2 (nI w9).toNatClampNeg) : Int32) = nI ((shF P (2 * w9 + 1) i).2) from by rw [nI_clamp (by omega)]; exact htx.2.1) ?_
                    refine lv_icmp_le (tgt := 205) X.1 X.2.1 dL_isTold_197 (by decide) (fun c_197 => ?_) (fun c_197 => ?_)
                    · have k_197 := k_le (a := (measN (HL i) w9)) (b := ((shF P (2 * w9 + 1) i).2)) (by omega) (by omega) c_197
                      refine lv_aload X.1 X.2.1 dL_isTold_205 (lv_at hl 13 rfl) ?_
                      refine lv_iload X.1 X.2.1 dL_isTold_207 (lv_at hl 20 rfl) ?_
                      refine r_iald X hW.1 f_35 (show vp_in ((nI w9)) 5 from vp_in_nI (n := w9) (by omega) (by decide)) dL_isTold_209 ?_
                      refine r_eqi (show ((gm2 (nI w9).toNatClampNeg) : Int32) = nI ((shF P (2 * w9 + 1) i).2) from by rw [nI_clamp (by omega)]; exact htx.2.1) ?_
                      refine r_eqi (show ((nI ((shF P (2 * w9 + 1) i).2)) : Int32) = nI ((shF P (2 * w9 + 1) (i + 1)).2) from congrArg nI (hi_2 hw5 hP k_197)) ?_
                      exact J210h  ls  (lv_sub hl [0, 1, 2, 3, 4, 5, 6, 7, 8, 9, 10, 11, 12, 13, 14, 15, 16, 17, 18, 19, 20] rfl)
                    · have k_197 := k_nle (a := (measN (HL i) w9)) (b := ((shF P (2 * w9 + 1) i).2)) (by omega) (by omega) c_197
                      refine lv_iload X.1 X.2.1 dL_isTold_200 (lv_at hl 0 rfl) ?_
                      refine lv_goto (tgt := 210) X.1 X.2.1 dL_isTold_202 (by decide) ?_
                      refine r_eqi (show ((nI (measN (HL i) w9)) : Int32) = nI ((shF P (2 * w9 + 1) (i + 1)).2) from congrArg nI (hi_1 hw5 hP k_197)) ?_
                      exact J210h  ls  (lv_sub hl [0, 1, 2, 3, 4, 5, 6, 7, 8, 9, 10, 11, 12, 13, 14, 15, 16, 17, 18, 19, 20] rfl)
                  refine lv_aload X.1 X.2.1 dL_isTold_156 (lv_at hl 12 rfl) ?_
                  refine lv_iload X.1 X.2.1 dL_isTold_158 (lv_at hl 20 rfl) ?_
                  refine lv_iload X.1 X.2.1 dL_isTold_160 (lv_at hl 9 rfl) ?_
                  refine lv_if_eq (tgt := 175) X.1 X.2.1 dL_isTold_162 (by decide) (fun c_162 => ?_) (fun c_162 => ?_)
                  · have k_162 := k_eq (a := (cntF P i)) (b := 0) (by omega) (by omega) c_162
                    refine lv_iload X.1 X.2.1 dL_isTold_175 (lv_at hl 0 rfl) ?_
                    refine lv_goto (tgt := 185) X.1 X.2.1 dL_isTold_177 (by decide) ?_
                    refine r_eqi (show ((nI (measN (HL i) w9)) : Int32) = nI ((shF P (2 * w9) (i + 1)).2) from congrArg nI (lo_0 hw5 hP k_162)) ?_
                    exact J185l  ls  (lv_sub hl [0, 1, 2, 3, 4, 5, 6, 7, 8, 9, 10, 11, 12, 13, 14, 15, 16, 17, 18, 19, 20] rfl)
                  · have k_162 := k_ne (a := (cntF P i)) (b := 0) (by omega) (by omega) c_162
                    refine lv_iload X.1 X.2.1 dL_isTold_165 (lv_at hl 0 rfl) ?_
                    refine lv_aload X.1 X.2.1 dL_isTold_167 (lv_at hl 12 rfl) ?_
                    refine lv_iload X.1 X.2.1 dL_isTold_169 (lv_at hl 20 rfl) ?_
                    refine r_iald X hW.1 ww_la (show vp_in ((nI w9)) 5 from vp_in_nI (n := w9) (by omega) (by decide)) dL_isTold_171 ?_
                    refine r_eqi (show ((gl2 (nI w9).toNatClampNeg) : Int32) = nI ((shF P (2 * w9) i).2) from by rw [nI_clamp (by omega)]; exact htx.1) ?_
                    refine lv_icmp_ge (tgt := 180) X.1 X.2.1 dL_isTold_172 (by decide) (fun c_172 => ?_) (fun c_172 => ?_)
                    · have k_172 := k_le (a := ((shF P (2 * w9) i).2)) (b := (measN (HL i) w9)) (by omega) (by omega) c_172
                      refine lv_aload X.1 X.2.1 dL_isTold_180 (lv_at hl 12 rfl) ?_
                      refine lv_iload X.1 X.2.1 dL_isTold_182 (lv_at hl 20 rfl) ?_
                      refine r_iald X hW.1 ww_la (show vp_in ((nI w9)) 5 from vp_in_nI (n := w9) (by omega) (by decide)) dL_isTold_184 ?_
                      refine r_eqi (show ((gl2 (nI w9).toNatClampNeg) : Int32) = nI ((shF P (2 * w9) i).2) from by rw [nI_clamp (by omega)]; exact htx.1) ?_
                      refine r_eqi (show ((nI ((shF P (2 * w9) i).2)) : Int32) = nI ((shF P (2 * w9) (i + 1)).2) from congrArg nI (lo_2 hw5 hP k_162 k_172)) ?_
                      exact J185l  ls  (lv_sub hl [0, 1, 2, 3, 4, 5, 6, 7, 8, 9, 10, 11, 12, 13, 14, 15, 16, 17, 18, 19, 20] rfl)
                    · have k_172 := k_nle (a := ((shF P (2 * w9) i).2)) (b := (measN (HL i) w9)) (by omega) (by omega) c_172
                      refine lv_iload X.1 X.2.1 dL_isTold_175 (lv_at hl 0 rfl) ?_
                      refine lv_goto (tgt := 185) X.1 X.2.1 dL_isTold_177 (by decide) ?_
                      refine r_eqi (show ((nI (measN (HL i) w9)) : Int32) = nI ((shF P (2 * w9) (i + 1)).2) from congrArg nI (lo_1 hw5 hP k_162 k_172)) ?_
                      exact J185l  ls  (lv_sub hl [0, 1, 2, 3, 4, 5, 6, 7, 8, 9, 10, 11, 12, 13, 14, 15, 16, 17, 18, 19, 20] rfl)
                refine lv_iload X.1 X.2.1 dL_isTold_130 (lv_at hl 19 rfl) ?_
                refine lv_iconst (v := 4) X.1 X.2.1 dL_isTold_132 (by decide) ?_
                refine lv_icmp_ne (tgt := 144) X.1 X.2.1 dL_isTold_133 (by decide) (fun c_133 => ?_) (fun c_133 => ?_)
                · have k_133 := k_ne (a := w9) (b := 4) (by omega) (by omega) c_133
                  refine lv_iload X.1 X.2.1 dL_isTold_144 (lv_at hl 17 rfl) ?_
                  refine lv_iconst (v := 3) X.1 X.2.1 dL_isTold_146 (by decide) ?_
                  refine lv_iload X.1 X.2.1 dL_isTold_147 (lv_at hl 19 rfl) ?_
                  refine lv_imul X.1 X.2.1 dL_isTold_149 ?_
                  refine r_eqi (show (((3 : Int32) * (nI w9)) : Int32) = nI (3 * w9) from pk_mul 3 w9) ?_
                  refine lv_ishr X.1 X.2.1 dL_isTold_150 ?_
                  refine lv_bipush (v := 7) X.1 X.2.1 dL_isTold_151 (by decide) ?_
                  refine lv_iand X.1 X.2.1 dL_isTold_153 ?_
                  refine r_eqi (show ((((nI (spN (HL i))) >>> ((nI (3 * w9)) &&& 31)) &&& 7) : Int32) = nI (measN (HL i) w9) from by rw [shr7 (x := spN (HL i)) (i := 3 * w9) (by have := sp_lt (HL i); omega) (by omega), sp_len (HL i) w9 (by omega)]; exact congrArg nI (if_neg k_133).symm) ?_
                  exact J154v  ls  (lv_sub hl [0, 1, 2, 3, 4, 5, 6, 7, 8, 9, 10, 11, 12, 13, 14, 15, 16, 17, 18, 19] rfl)
                · have k_133 := k_eq (a := w9) (b := 4) (by omega) (by omega) c_133
                  refine lv_iload X.1 X.2.1 dL_isTold_136 (lv_at hl 17 rfl) ?_
                  refine lv_bipush (v := 12) X.1 X.2.1 dL_isTold_138 (by decide) ?_
                  refine lv_ishr X.1 X.2.1 dL_isTold_140 ?_
                  refine r_eqi (show (((nI (spN (HL i))) >>> (12 &&& 31)) : Int32) = nI ((spN (HL i)) / 4096) from pk_shrN (n := (spN (HL i))) (by have := sp_lt (HL i); omega) _ 12 (by decide)) ?_
                  refine r_eqi (show ((nI ((spN (HL i)) / 4096)) : Int32) = nI (measN (HL i) w9) from by rw [sp_str, k_133]; rfl) ?_
                  refine lv_goto (tgt := 154) X.1 X.2.1 dL_isTold_141 (by decide) ?_
                  exact J154v  ls  (lv_sub hl [0, 1, 2, 3, 4, 5, 6, 7, 8, 9, 10, 11, 12, 13, 14, 15, 16, 17, 18, 19] rfl)
            exact L124w 5 0 gl gm gs _ _ _ hW hC w_ra w_ca w_la w_ma w_sa rfl hkp (tx_w0 h2) ls (lv_sub hl [3, 4, 5, 6, 7, 8, 9, 10, 11, 12, 13, 14, 15, 16, 17, 18, 19, 2, 1, 0] rfl)
        · refine r_eqi (show bI (faB n R k cs sk p9 (HL i)) = 0 from by rw [ea]; rfl) ?_
          have hP : ¬ P (HL i) = true := hid_no1 eP ea
          refine lv_istore (lv' := [(18, .int 0), (17, .int (nI (spN (HL i)))), (0, .ref b6), (1, .ref ra), (2, .int (nI n)), (3, .ref ca), (4, .int (nI k)), (5, .int (bI sk)), (6, .int (nI p9)), (7, .int (nI kn)), (8, .int (nI (cntF P i))), (9, .int (nI (alN P i))), (10, .int (nI ((shF P 11 i).2))), (11, .ref la), (12, .ref ma), (13, .ref sa), (14, .int (nI (hd (1 - p9)))), (15, .int (bI ow)), (16, .int (nI (HL i)))]) X.1 X.2.1 dL_isTold_82 hl (by decide) rfl (fun ls hl => ?_)
          refine lv_iload X.1 X.2.1 dL_isTold_84 (lv_at hl 0 rfl) ?_
          refine lv_aload_n X.1 X.2.1 dL_isTold_86 rfl (lv_at hl 2 rfl) ?_
          refine lv_iload X.1 X.2.1 dL_isTold_87 (lv_at hl 8 rfl) ?_
          refine lv_iload X.1 X.2.1 dL_isTold_89 (lv_at hl 18 rfl) ?_
          refine lc_ri (z := (n, R, hd, k, cs, sk, pn, pt)) (As := [.int (nI p9), .int (nI (HL i))]) (rest := [.int 0]) X hW.1 hW.2.2 hC (fun hp9 hz9 => c_X6_fits l G hp9 b6 n R hd k cs sk pn pt hz9 (nI p9) (nI (HL i))) mf_X6_fits tw_275 tw_276 tw_277 ⟨rfl, rfl, Nat.le_of_ble_eq_true rfl, Nat.le_of_ble_eq_true rfl⟩ hl.1 rfl rfl (Nat.le_of_ble_eq_true rfl) ⟨Nat.le_of_ble_eq_true rfl, Nat.le_of_ble_eq_true rfl⟩ dL_isTold_91 ?_
          refine r_eqi (show ((fFits n R k cs sk (nI p9) (nI (HL i))) : Int32) = 0 from (ff_v hp9 hk2 hk3).trans (by rw [ea]; rfl)) ?_
          refine lv_iconst (v := 1) X.1 X.2.1 dL_isTold_94 (by decide) ?_
          refine lv_icmp_ne (tgt := 102) X.1 X.2.1 dL_isTold_95 (by decide) (fun c_95 => ?_) (fun c_95 => absurd c_95 (by decide))
          refine lv_iconst (v := 0) X.1 X.2.1 dL_isTold_102 (by decide) ?_
          refine lv_icmp_eq (tgt := 108) X.1 X.2.1 dL_isTold_103 (by decide) (fun c_103 => ?_) (fun c_103 => absurd (by decide) c_103)
          refine lv_iload X.1 X.2.1 dL_isTold_108 (lv_at hl 0 rfl) ?_
          refine lv_if_eq (tgt := 260) X.1 X.2.1 dL_isTold_110 (by decide) (fun c_110 => ?_) (fun c_110 => absurd (by decide) c_110)
          refine lv_iload X.1 X.2.1 dL_isTold_260 (lv_at hl 18 rfl) ?_
          refine on_Si (run_S (As := [.int (nI (HL i))]) (rest := []) X (c_L_next l G hpL (HL i) hk2 hk7) (rp_blind _) (rp_at X hW.1 hW.2.2) mf_L_next tw_533 tw_534 ⟨rfl, rfl, Nat.le_of_ble_eq_true rfl, Nat.le_of_ble_eq_true rfl⟩ hl.1 rfl rfl (Nat.le_of_ble_eq_true rfl) ⟨Nat.le_of_ble_eq_true rfl, Nat.le_of_ble_eq_true rfl⟩ dL_isTold_262) (fun r_262 q_262 => ?_)
          obtain rfl : r_262 = (nI (nhN (HL i))) := q_262
          refine r_eqi (show ((nI (nhN (HL i))) : Int32) = nI (HL (i + 1)) from rfl) ?_
          refine lv_istore (lv' := [(16, .int (nI (HL (i + 1)))), (18, .int 0), (17, .int (nI (spN (HL i)))), (0, .ref b6), (1, .ref ra), (2, .int (nI n)), (3, .ref ca), (4, .int (nI k)), (5, .int (bI sk)), (6, .int (nI p9)), (7, .int (nI kn)), (8, .int (nI (cntF P i))), (9, .int (nI (alN P i))), (10, .int (nI ((shF P 11 i).2))), (11, .ref la), (12, .ref ma), (13, .ref sa), (14, .int (nI (hd (1 - p9)))), (15, .int (bI ow))]) X.1 X.2.1 dL_isTold_265 hl (by decide) rfl (fun ls hl => ?_)
          refine lv_goto (tgt := 54) X.1 X.2.1 dL_isTold_267 (by decide) ?_
          exact ih (i + 1) gl gm gs _ _ _ hW hC w_ra w_ca w_la w_ma w_sa (by omega) hkp (tx_no h2 hP) ls (by rw [cn_no hP, al_no hP, sh_no (w := 11) hP]; exact (lv_sub hl [3, 4, 5, 6, 7, 8, 9, 10, 11, 12, 13, 14, 15, 16, 17, 18, 0] rfl))
    have f_36 : hp_9 ra = some (.inl (G.2.1 1, 48, .inl g)) := by rw [eh_10, va_up_ne _ _ (ne_none (show (_ : Option va_E) = some (.inl (G.2.1 1, 48, .inl g)) by rw [eh_6, va_up_ne _ _ (ne_none (show (_ : Option va_E) = some (.inl (G.2.1 1, 48, .inl g)) by rw [eh_2, va_up_ne _ _ (ne_none hra hn_3)]; exact hra) hn_7), eh_2, va_up_ne _ _ (ne_none hra hn_3)]; exact hra) hn_11), eh_6, va_up_ne _ _ (ne_none (show (_ : Option va_E) = some (.inl (G.2.1 1, 48, .inl g)) by rw [eh_2, va_up_ne _ _ (ne_none hra hn_3)]; exact hra) hn_7), eh_2, va_up_ne _ _ (ne_none hra hn_3)]; exact hra
    have f_37 : hp_9 ca = some (.inl (G.2.1 1, 52, .inl gc)) := by rw [eh_10, va_up_ne _ _ (ne_none (show (_ : Option va_E) = some (.inl (G.2.1 1, 52, .inl gc)) by rw [eh_6, va_up_ne _ _ (ne_none (show (_ : Option va_E) = some (.inl (G.2.1 1, 52, .inl gc)) by rw [eh_2, va_up_ne _ _ (ne_none hca hn_3)]; exact hca) hn_7), eh_2, va_up_ne _ _ (ne_none hca hn_3)]; exact hca) hn_11), eh_6, va_up_ne _ _ (ne_none (show (_ : Option va_E) = some (.inl (G.2.1 1, 52, .inl gc)) by rw [eh_2, va_up_ne _ _ (ne_none hca hn_3)]; exact hca) hn_7), eh_2, va_up_ne _ _ (ne_none hca hn_3)]; exact hca
    have f_38 : hp_9 la = some (.inl (G.2.1 1, 5, .inl (fun _ => 0))) := by rw [eh_10, va_up_ne _ _ (ne_none (show (_ : Option va_E) = some (.inl (G.2.1 1, 5, .inl (fun _ => 0))) by rw [eh_6, va_up_ne _ _ (ne_none f_4 hn_7)]; exact f_4) hn_11), eh_6, va_up_ne _ _ (ne_none f_4 hn_7)]; exact f_4
    have f_39 : hp_9 ma = some (.inl (G.2.1 1, 5, .inl (fun _ => 0))) := by rw [eh_10, va_up_ne _ _ (ne_none f_8 hn_11)]; exact f_8
    exact L54 15504 0 (fun _ => 0) (fun _ => 0) (fun _ => 0) _ _ _ hW hC f_36 f_37 f_38 f_39 f_12 rfl hkp tx_0 ls (lv_sub hl [9, 10, 11, 12, 13, 14, 15, 16, 8, 7, 6, 5, 4, 3, 2, 1, 0] rfl)
  refine lv_iload X.1 X.2.1 dL_isTold_36 (lv_at hl 14 rfl) ?_
  refine lv_iload X.1 X.2.1 dL_isTold_38 (lv_at hl 0 rfl) ?_
  refine lv_icmp_ne (tgt := 47) X.1 X.2.1 dL_isTold_40 (by decide) (fun c_40 => ?_) (fun c_40 => ?_)
  · have k_40 := k_ne (a := kn) (b := (hd (1 - p9))) (by omega) (by omega) c_40
    refine lv_iconst (v := 0) X.1 X.2.1 dL_isTold_47 (by decide) ?_
    exact J48 false ls (decide_eq_false k_40).symm (lv_sub hl [0, 1, 2, 3, 4, 5, 6, 7, 8, 9, 10, 11, 12, 13, 14] rfl)
  · have k_40 := k_eq (a := kn) (b := (hd (1 - p9))) (by omega) (by omega) c_40
    refine lv_iconst (v := 1) X.1 X.2.1 dL_isTold_43 (by decide) ?_
    refine lv_goto (tgt := 48) X.1 X.2.1 dL_isTold_44 (by decide) ?_
    exact J48 true ls (decide_eq_true k_40).symm (lv_sub hl [0, 1, 2, 3, 4, 5, 6, 7, 8, 9, 10, 11, 12, 13, 14] rfl)

