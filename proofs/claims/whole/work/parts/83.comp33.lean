/-! fault, load, the constructors -/
set_option maxHeartbeats 4000000 in
set_option maxRecDepth 100000 in
theorem c_X5_init (l : Launch) (G : HG) (A : Nat → Prop) (hp : HP) (sz : Nat) (hA : ∀ q, sz ≤ q → A q) (hO : Ow A hp) (rd pa : Nat) (hrd : hp rd = some (.inr (6, [.null, .null, .int 0, .int 0]))) : Met l yX5_init [.code yX5_init cX5_init 2 none] { frames := 2, cells := 1, slots := 6, locals := 36 } (va_Pc [.ref rd, .ref pa] (WP G A sz hp)) (va_Qv (fun hp1 => ∃ rr, hp rr = none ∧ hp1 rd = some (rdE pa rr 0 0) ∧ hp1 rr = some (.inr (5, [.int 0, .int 0, .int 0, .int 0, .int 0, .int 336875845])) ∧ IFq hp hp1 rd) (WB G A) A) 1 6 A := by
  refine wr_ofW (by decide) (Nat.le_of_ble_eq_true rfl) hO ?_
  intro p e s m args below meth c ls X hr hlk hnm hsz hW hl
  have hA : ∀ q, s.heap.size ≤ q → A q := fun q h => hA q (by omega)
  have hl : lv_has ls 2 [(0, .ref rd), (1, .ref pa)] := hl
  refine lv_aload_n X.1 X.2.1 dX5_init_0 rfl (lv_at hl 0 rfl) ?_
  refine W.objInit X.1 X.2.1 X.2.2.2.1 (tb_all X.2.2.2.2.1 _ tw_755) (tb_all X.2.2.2.2.1 _ tw_84) (tb_all X.2.2.2.2.1 _ tw_objinit) rfl (by rw [X.2.2.1]; exact hl.1) rfl dX5_init_1 (Nat.le_of_ble_eq_true rfl) (Nat.le_of_ble_eq_true rfl) ?_
  refine W.eq (g2 := F0 m 4 ls []) rfl ?_
  refine lv_aload_n X.1 X.2.1 dX5_init_4 rfl (lv_at hl 0 rfl) ?_
  refine r_new (k := 1) (n := 6) (fs := [.int 0, .int 0, .int 0, .int 0, .int 0, .int 0]) X hA hW (C := RX4) (T := TX4) (N := 6) (ci := 5) rfl tin_X4 tyX4_ok tw_756 tw_222 tw_66 (fun j hj => by rcases (show j = 0 ∨ j = 1 ∨ j = 2 ∨ j = 3 ∨ j = 4 ∨ j = 5 by omega) with rfl | rfl | rfl | rfl | rfl | rfl <;> rfl) (by omega) (by omega) (Nat.le_of_ble_eq_true rfl) (Nat.le_of_ble_eq_true rfl) dX5_init_5 (fun q_5 hp_1 H hW eh_2 hn_3 => ?_)
  have ne_4 : rd ≠ q_5 := ne_none hrd hn_3
  have f_5 : hp_1 q_5 = some (.inr (5, [.int 0, .int 0, .int 0, .int 0, .int 0, .int 0])) := by rw [eh_2]; exact va_up_self _ _ _
  refine lv_dup X.1 X.2.1 dX5_init_8 rfl ?_
  refine lv_iconst (v := 0) X.1 X.2.1 dX5_init_9 (by decide) ?_
  refine lv_iconst (v := 0) X.1 X.2.1 dX5_init_10 (by decide) ?_
  refine lv_iconst (v := 0) X.1 X.2.1 dX5_init_11 (by decide) ?_
  refine lv_iconst (v := 0) X.1 X.2.1 dX5_init_12 (by decide) ?_
  refine on_Wv (k' := 1) (n' := 6) (run_I (As := [.int 0, .int 0, .int 0, .int 0]) (rest := [.ref q_5, .ref rd]) X (c_X4_init l G A hp_1 _ (fun q h => hA q (Nat.le_trans hW.2.2.1 h)) hW.2.1 q_5 0 0 0 0 f_5) (wp_blind _) (wp_at X hW.1 hW.2.2) mf_X4_init tw_757 tw_224 rfl ⟨rfl, rfl, Nat.le_of_ble_eq_true rfl, Nat.le_of_ble_eq_true rfl⟩ hl.1 rfl rfl (Nat.le_of_ble_eq_true rfl) ⟨Nat.le_of_ble_eq_true rfl, Nat.le_of_ble_eq_true rfl⟩ dX5_init_13) hW (by omega) (by omega) (fun hp_6 H locs q_13 hW => ?_)
  have f_7 : hp_6 q_5 = some (.inr (5, [.int 0, .int 0, .int 0, .int 0, .int 0, .int 336875845])) := by rw [q_13]; exact va_up_self _ _ _
  have f_8 : hp_6 rd = some (.inr (6, [.null, .null, .int 0, .int 0])) := by rw [q_13, va_up_ne _ _ ne_4, eh_2, va_up_ne _ _ ne_4]; exact hrd
  refine r_putF X hW f_8 (v := .ref q_5) (C := RX5) (T := TX5) (N := 4) rfl tin_X5 tyX5_ok nmX5 1 (Nat.le_of_ble_eq_true rfl) tw_759 (fun _ h => h) rfl hnm rfl rfl rfl (Nat.le_of_ble_eq_true rfl) dX5_init_16 (fun hp_9 H locs hW eh_10 => ?_)
  have f_11 : hp_9 rd = some (.inr (6, [.null, .ref q_5, .int 0, .int 0])) := by rw [eh_10]; exact va_up_self _ _ _
  refine lv_aload_n X.1 X.2.1 dX5_init_19 rfl (lv_at hl 0 rfl) ?_
  refine lv_iconst (v := 0) X.1 X.2.1 dX5_init_20 (by decide) ?_
  refine r_put X hW f_11 (v := .int 0) (C := RX5) (T := TX5) (N := 4) rfl tin_X5 tyX5_ok nmX5 2 (Nat.le_of_ble_eq_true rfl) tw_761 (fun _ h => h) rfl rfl rfl (Nat.le_of_ble_eq_true rfl) dX5_init_21 (fun hp_12 H locs hW eh_13 => ?_)
  have f_14 : hp_12 rd = some (.inr (6, [.null, .ref q_5, .int 0, .int 0])) := by rw [eh_13]; exact va_up_self _ _ _
  refine lv_aload_n X.1 X.2.1 dX5_init_24 rfl (lv_at hl 0 rfl) ?_
  refine lv_iconst (v := 0) X.1 X.2.1 dX5_init_25 (by decide) ?_
  refine r_put X hW f_14 (v := .int 0) (C := RX5) (T := TX5) (N := 4) rfl tin_X5 tyX5_ok nmX5 3 (Nat.le_of_ble_eq_true rfl) tw_763 (fun _ h => h) rfl rfl rfl (Nat.le_of_ble_eq_true rfl) dX5_init_26 (fun hp_15 H locs hW eh_16 => ?_)
  have f_17 : hp_15 rd = some (.inr (6, [.null, .ref q_5, .int 0, .int 0])) := by rw [eh_16]; exact va_up_self _ _ _
  refine lv_aload_n X.1 X.2.1 dX5_init_29 rfl (lv_at hl 0 rfl) ?_
  refine lv_aload_n X.1 X.2.1 dX5_init_30 rfl (lv_at hl 1 rfl) ?_
  refine r_putF X hW f_17 (v := .ref pa) (C := RX5) (T := TX5) (N := 4) rfl tin_X5 tyX5_ok nmX5 0 (Nat.le_of_ble_eq_true rfl) tw_758 (fun _ h => h) rfl hnm rfl rfl rfl (Nat.le_of_ble_eq_true rfl) dX5_init_31 (fun hp_18 H locs hW eh_19 => ?_)
  have f_20 : hp_18 rd = some (.inr (6, [.ref pa, .ref q_5, .int 0, .int 0])) := by rw [eh_19]; exact va_up_self _ _ _
  exact wr_v X hr hlk hW ⟨q_5, hn_3, f_20, (show (_ : Option va_E) = some (.inr (5, [.int 0, .int 0, .int 0, .int 0, .int 0, .int 336875845])) by rw [eh_19, va_up_ne _ _ (Ne.symm ne_4), eh_16, va_up_ne _ _ (Ne.symm ne_4), eh_13, va_up_ne _ _ (Ne.symm ne_4), eh_10, va_up_ne _ _ (Ne.symm ne_4)]; exact f_7), (IF.au (IF.au (IF.au (IF.au (IF.tw IF.rf (le_two hn_3 eh_2 q_13)) eh_10) eh_13) eh_16) eh_19)⟩ (Nat.le_of_ble_eq_true rfl) (Nat.le_of_ble_eq_true rfl) dX5_init_34

theorem fb_t {z : ST} (h : bdB z.2.2.2.2.2.2.1 (rdF (txN z.2.2.2.2.2.2.1 z.2.2.2.2.2.2.2)) = true) : fFault z = nI (rdF (txN z.2.2.2.2.2.2.1 z.2.2.2.2.2.2.2)).2.1 := by
  unfold bdB at h
  rw [Bool.or_eq_true] at h
  exact if_pos (h.imp id of_decide_eq_true)
theorem fb_f {z : ST} (h : bdB z.2.2.2.2.2.2.1 (rdF (txN z.2.2.2.2.2.2.1 z.2.2.2.2.2.2.2)) = false) : fFault z = -6 := by
  unfold bdB at h
  rw [Bool.or_eq_false_iff] at h
  exact if_neg (fun q => Or.elim q (fun q => Bool.false_ne_true (h.1.symm.trans q)) (of_decide_eq_false h.2))
theorem fb_ne {z : ST} (hp : (rdF (txN z.2.2.2.2.2.2.1 z.2.2.2.2.2.2.2)).2.1 < 2 ^ 31) (h : bdB z.2.2.2.2.2.2.1 (rdF (txN z.2.2.2.2.2.2.1 z.2.2.2.2.2.2.2)) = true) : ¬ fFault z = -6 := fun q => by
  rw [fb_t h] at q
  have := congrArg Int32.toInt q
  rw [nI_toInt hp] at this
  have z9 : (-6 : Int32).toInt = -6 := rfl
  omega
set_option maxHeartbeats 4000000 in
set_option maxRecDepth 100000 in
theorem c_X6_fault (l : Launch) (G : HG) (A : Nat → Prop) (hp : HP) (sz : Nat) (hA : ∀ q, sz ≤ q → A q) (hO : Ow A hp) (b6 : Nat) (n : Nat) (R : Nat → Nat → Nat) (hd : Nat → Nat) (k : Nat) (cs : Nat → Nat → Int32) (sk : Bool) (pn : Nat) (pt : Nat → Nat) (hz : CZ G hp b6 (n, R, hd, k, cs, sk, pn, pt)) : Met l yX6_fault [.code yX6_fault cX6_fault 2 (some .int)] { frames := 9, cells := 2, slots := 10, locals := 200 } (va_Pc [.ref b6] (WP G A sz hp)) (va_Qi (fun r hp1 => r = fFault (n, R, hd, k, cs, sk, pn, pt) ∧ CZ G hp1 b6 (n, R, hd, k, cs, sk, pn, pt)) (WB G A) A) 2 10 A := by
  refine wr_ofW (by decide) (Nat.le_of_ble_eq_true rfl) hO ?_
  intro p e s m args below meth c ls X hr hlk hnm hsz hW hl
  have hA : ∀ q, s.heap.size ≤ q → A q := fun q h => hA q (by omega)
  have hl : lv_has ls 2 [(0, .ref b6)] := hl
  obtain ⟨rl, au, pa, e0, e1, eR, cR, mR, gR, RA, al, p0, pw, eA, cA, mA, gA, CA, QA, vb, cv, ml, fb, hb6, hU6, hU9, hSB, hHD, hDJ, huq⟩ := hz
  have hCC : CC G hp b6 rl au pa e0 e1 eR cR mR gR RA al p0 pw eA cA mA gA CA QA vb cv ml fb (n, R, hd, k, cs, sk, pn, pt) := ⟨hb6, hU6, hU9, hSB, hHD, hDJ, huq⟩
  replace hb6 : hp b6 = some (obE rl au pa e0 e1) := hb6
  replace hU6 : RU G hp rl eR cR mR gR RA n R := hU6
  replace hU9 : AU G hp au al p0 pw eA cA mA gA CA QA k cs sk := hU9
  replace hSB : SBp G hp pa vb cv ml fb pn pt := hSB
  have hn : n ≤ 24 := hU6.2.2.1
  have hk : k ≤ 12 := hU9.2.2.2.1
  have hpn := hSB.2.2.1
  have hd0 : hd 0 = e0 := hHD.1.1
  have hd1 : hd 1 = e1 := hHD.1.2
  have hhd : ∀ i, i < 2 → hd i ≤ 1048575 ∧ strH (hd i) ≤ 20 := hHD.2
  have g_1 : hp b6 = some (.inr (7, [.ref rl, .ref au, .ref pa, .int (nI e0), .int (nI e1)])) := hb6
  have g_2 : hp rl = some (.inr (1, [.int mR, .ref eR, .int (nI n)])) := hU6.1
  have g_3 : hp au = some (.inr (2, [.ref al, .ref p0, .ref pw, .int (bI sk)])) := hU9.1
  have g_4 : hp al = some (.inr (1, [.int mA, .ref eA, .int (nI k)])) := hU9.2.1
  have g_5 : hp pw = some (.inr (4, [.int (cs k 2), .int (cs k 4), .int (cs k 3)])) := hU9.2.2.2.2.2.2.2.1
  have g_6 : hp pa = some (.inr (0, [.ref vb, .int 0, .int (bI ml), .int (nI pn)])) := hSB.1
  have g_7 : hp vb = some (.inl (G.2.1 0, cv, .inl fb)) := hSB.2.1
  have hau0 := g_3
  refine r_new (k := 1) (n := 4) (fs := [.null, .null, .int 0, .int 0]) X hA hW (C := RX5) (T := TX5) (N := 4) (ci := 6) rfl tin_X5 tyX5_ok tw_750 tw_751 tw_77 (fun j hj => by rcases (show j = 0 ∨ j = 1 ∨ j = 2 ∨ j = 3 by omega) with rfl | rfl | rfl | rfl <;> rfl) (by omega) (by omega) (Nat.le_of_ble_eq_true rfl) (Nat.le_of_ble_eq_true rfl) dX6_fault_0 (fun q_0 hp_8 H hW eh_9 hn_10 => ?_)
  have ne_11 : b6 ≠ q_0 := ne_none g_1 hn_10
  have ne_12 : rl ≠ q_0 := ne_none g_2 hn_10
  have ne_13 : au ≠ q_0 := ne_none g_3 hn_10
  have ne_14 : al ≠ q_0 := ne_none g_4 hn_10
  have ne_15 : pw ≠ q_0 := ne_none g_5 hn_10
  have ne_16 : pa ≠ q_0 := ne_none g_6 hn_10
  have ne_17 : vb ≠ q_0 := ne_none g_7 hn_10
  have f_18 : hp_8 q_0 = some (.inr (6, [.null, .null, .int 0, .int 0])) := by rw [eh_9]; exact va_up_self _ _ _
  refine lv_dup X.1 X.2.1 dX6_fault_3 rfl ?_
  refine lv_aload_n X.1 X.2.1 dX6_fault_4 rfl (lv_at hl 0 rfl) ?_
  have f_19 : hp_8 b6 = some (.inr (7, [.ref rl, .ref au, .ref pa, .int (nI e0), .int (nI e1)])) := by rw [eh_9, va_up_ne _ _ ne_11]; exact g_1
  refine r_get X hW.1 f_19 (v := .ref pa) (C := RX6) (T := TX6) (N := 5) rfl tin_X6 2 (by decide) tw_194 (fun _ h => h) rfl dX6_fault_5 ?_
  refine on_Wv (k' := 2) (n' := 10) (run_I (As := [.ref pa]) (rest := [.ref q_0]) X (c_X5_init l G A hp_8 _ (fun q h => hA q (Nat.le_trans hW.2.2.1 h)) hW.2.1 q_0 pa f_18) (wp_blind _) (wp_at X hW.1 hW.2.2) mf_X5_init tw_752 tw_753 rfl ⟨rfl, rfl, Nat.le_of_ble_eq_true rfl, Nat.le_of_ble_eq_true rfl⟩ hl.1 rfl rfl (Nat.le_of_ble_eq_true rfl) ⟨Nat.le_of_ble_eq_true rfl, Nat.le_of_ble_eq_true rfl⟩ dX6_fault_8) hW (by omega) (by omega) (fun hp_20 H locs q_8 hW => ?_)
  obtain ⟨rr, hnr, hrd1, hrr1, hI1⟩ := q_8
  have hnr0 : hp rr = none := none_le (le_new hn_10 eh_9) hnr
  have hle1 : ∀ q e, hp q = some e → hp_20 q = some e := fun q e h0 => hI1 q e (le_new hn_10 eh_9 q e h0) (ne_none h0 hn_10)
  have hC1 := hCC.le hle1
  have g_21 : hp_20 q_0 = some (.inr (6, [.ref pa, .ref rr, .int (nI 0), .int (nI 0)])) := hrd1
  refine lv_astore_n (lv' := [(1, .ref q_0), (0, .ref b6)]) X.1 X.2.1 dX6_fault_11 rfl hl (by decide) rfl (fun ls hl => ?_)
  refine lv_aload_n X.1 X.2.1 dX6_fault_12 rfl (lv_at hl 0 rfl) ?_
  refine on_Wi (k' := 2) (n' := 10) (run_V (C := RX5) (As := []) (rest := []) X (c_X5_readsWhole l G A hp_20 _ (fun q h => hA q (Nat.le_trans hW.2.2.1 h)) hW.2.1 pa vb cv ml fb pn pt hC1.2.2.2.1 q_0 rr hrd1 hrr1) (wp_blind _) (wp_at X hW.1 hW.2.2) (recv X hW.1 g_21 (C := RX5) (T := TX5) (N := 4) rfl) mf_X5_readsWhole tw_773 tw_774 tw_775 ⟨rfl, rfl, Nat.le_of_ble_eq_true rfl, Nat.le_of_ble_eq_true rfl⟩ hl.1 rfl rfl (Nat.le_of_ble_eq_true rfl) ⟨Nat.le_of_ble_eq_true rfl, Nat.le_of_ble_eq_true rfl⟩ dX6_fault_13) hW (by omega) (by omega) (fun r_13 hp_22 H locs q_13 hW => ?_)
  obtain ⟨rfl, hrdx, hbad, hgood, hx2⟩ := q_13
  have hle2 : ∀ q e, hp q = some e → hp_22 q = some e := fun q e h0 => by rw [hx2 q (ne_none h0 hn_10) (ne_none h0 hnr0)]; exact hle1 q e h0
  have hC2 := hCC.le hle2
  have g_23 : hp_22 b6 = some (.inr (7, [.ref rl, .ref au, .ref pa, .int (nI e0), .int (nI e1)])) := hC2.1
  refine lv_if_eq (tgt := 24) X.1 X.2.1 dX6_fault_16 (by decide) (fun c_16 => ?_) (fun c_16 => ?_)
  · have hb9 : bdB pn (rdF (txN pn pt)) = true := not_t (bI_0 c_16)
    obtain ⟨lim9, hrd2⟩ := hbad hb9
    have g_24 : hp_22 q_0 = some (.inr (6, [.ref pa, .ref rr, .int (nI (rdF (txN pn pt)).2.1), .int (nI lim9)])) := hrd2
    refine lv_aload_n X.1 X.2.1 dX6_fault_24 rfl (lv_at hl 0 rfl) ?_
    refine r_getN X hW.1 g_24 (v := .int (nI (rdF (txN pn pt)).2.1)) (C := RX5) (T := TX5) (N := 4) rfl tin_X5 2 (by decide) tw_762 (fun _ h => h) rfl dX6_fault_25 ?_
    exact wr_i X hr hlk hW ⟨(fb_t (z := (n, R, hd, k, cs, sk, pn, pt)) hb9).symm, ⟨rl, au, pa, e0, e1, eR, cR, mR, gR, RA, al, p0, pw, eA, cA, mA, gA, CA, QA, vb, cv, ml, fb, hC2⟩⟩ (Nat.le_of_ble_eq_true rfl) (Nat.le_of_ble_eq_true rfl) dX6_fault_28
  · have hb9 : bdB pn (rdF (txN pn pt)) = false := not_f (bI_1 c_16)
    refine lv_bipush (v := (-6)) X.1 X.2.1 dX6_fault_19 (by decide) ?_
    refine lv_goto (tgt := 28) X.1 X.2.1 dX6_fault_21 (by decide) ?_
    exact wr_i X hr hlk hW ⟨(fb_f (z := (n, R, hd, k, cs, sk, pn, pt)) hb9).symm, ⟨rl, au, pa, e0, e1, eR, cR, mR, gR, RA, al, p0, pw, eA, cA, mA, gA, CA, QA, vb, cv, ml, fb, hC2⟩⟩ (Nat.le_of_ble_eq_true rfl) (Nat.le_of_ble_eq_true rfl) dX6_fault_28

theorem lp_bd (tx : Nat → Nat) : ∀ f w s h q, (lpF tx f w s h q).2.1 ≤ s + 7 * f
  | 0, w, s, h, q => Nat.le_refl _
  | f + 1, w, s, h, q => by
    unfold lpF
    split
    · have ih := lp_bd tx f (cdW tx h (s + 1)) (cdS tx h (s + 1)) (cdB tx h (s + 1)) (cdQ tx (s + 1) q)
      have := cdS_le tx h (s + 1)
      omega
    · show s ≤ _
      omega
theorem rd_bd (tx : Nat → Nat) : (rdF tx).2.1 < 2 ^ 31 := by
  have k := lp_bd tx 61 (h5W tx) (h5S tx + hFo tx) 0 (hQ tx)
  have a1 : h1S tx ≤ 1 := tkS_le tx false 48 55 0
  have a2 : h2S tx ≤ h1S tx + 1 := tkS_le tx _ 58 58 _
  have a3 : h3S tx ≤ h2S tx + 2 := caS_le tx _ _
  have a4 : h4S tx ≤ h3S tx + 1 := tkS_le tx _ 62 62 _
  have a5 : h5S tx ≤ h4S tx + 1 := tkS_le tx _ 48 55 _
  have f : hFo tx ≤ 1 := by unfold hFo; split <;> omega
  unfold rdF
  omega
set_option maxHeartbeats 4000000 in
set_option maxRecDepth 100000 in
theorem c_X6_load (l : Launch) (G : HG) (A : Nat → Prop) (hp : HP) (sz : Nat) (hA : ∀ q, sz ≤ q → A q) (hO : Ow A hp) (b6 : Nat) (n : Nat) (R : Nat → Nat → Nat) (hd : Nat → Nat) (k : Nat) (cs : Nat → Nat → Int32) (sk : Bool) (pn : Nat) (pt : Nat → Nat) (hz : CZ G hp b6 (n, R, hd, k, cs, sk, pn, pt)) : Met l yX6_load [.code yX6_load cX6_load 3 (some .int)] { frames := 9, cells := 4, slots := 174, locals := 200 } (va_Pc [.ref b6] (WP G A sz hp)) (va_Qi (fun r hp1 => r = fLoad (n, R, hd, k, cs, sk, pn, pt) ∧ CZ G hp1 b6 (gLoad (n, R, hd, k, cs, sk, pn, pt))) (WB G A) A) 4 174 A := by
  refine wr_ofW (by decide) (Nat.le_of_ble_eq_true rfl) hO ?_
  intro p e s m args below meth c ls X hr hlk hnm hsz hW hl
  have hA : ∀ q, s.heap.size ≤ q → A q := fun q h => hA q (by omega)
  have hl : lv_has ls 3 [(0, .ref b6)] := hl
  obtain ⟨rl, au, pa, e0, e1, eR, cR, mR, gR, RA, al, p0, pw, eA, cA, mA, gA, CA, QA, vb, cv, ml, fb, hb6, hU6, hU9, hSB, hHD, hDJ, huq⟩ := hz
  have hCC : CC G hp b6 rl au pa e0 e1 eR cR mR gR RA al p0 pw eA cA mA gA CA QA vb cv ml fb (n, R, hd, k, cs, sk, pn, pt) := ⟨hb6, hU6, hU9, hSB, hHD, hDJ, huq⟩
  replace hb6 : hp b6 = some (obE rl au pa e0 e1) := hb6
  replace hU6 : RU G hp rl eR cR mR gR RA n R := hU6
  replace hU9 : AU G hp au al p0 pw eA cA mA gA CA QA k cs sk := hU9
  replace hSB : SBp G hp pa vb cv ml fb pn pt := hSB
  have hn : n ≤ 24 := hU6.2.2.1
  have hk : k ≤ 12 := hU9.2.2.2.1
  have hpn := hSB.2.2.1
  have hd0 : hd 0 = e0 := hHD.1.1
  have hd1 : hd 1 = e1 := hHD.1.2
  have hhd : ∀ i, i < 2 → hd i ≤ 1048575 ∧ strH (hd i) ≤ 20 := hHD.2
  have g_1 : hp b6 = some (.inr (7, [.ref rl, .ref au, .ref pa, .int (nI e0), .int (nI e1)])) := hb6
  have g_2 : hp rl = some (.inr (1, [.int mR, .ref eR, .int (nI n)])) := hU6.1
  have g_3 : hp au = some (.inr (2, [.ref al, .ref p0, .ref pw, .int (bI sk)])) := hU9.1
  have g_4 : hp al = some (.inr (1, [.int mA, .ref eA, .int (nI k)])) := hU9.2.1
  have g_5 : hp pw = some (.inr (4, [.int (cs k 2), .int (cs k 4), .int (cs k 3)])) := hU9.2.2.2.2.2.2.2.1
  have g_6 : hp pa = some (.inr (0, [.ref vb, .int 0, .int (bI ml), .int (nI pn)])) := hSB.1
  have g_7 : hp vb = some (.inl (G.2.1 0, cv, .inl fb)) := hSB.2.1
  have hau0 := g_3
  refine r_new (k := 1) (n := 4) (fs := [.null, .null, .int 0, .int 0]) X hA hW (C := RX5) (T := TX5) (N := 4) (ci := 6) rfl tin_X5 tyX5_ok tw_750 tw_751 tw_77 (fun j hj => by rcases (show j = 0 ∨ j = 1 ∨ j = 2 ∨ j = 3 by omega) with rfl | rfl | rfl | rfl <;> rfl) (by omega) (by omega) (Nat.le_of_ble_eq_true rfl) (Nat.le_of_ble_eq_true rfl) dX6_load_0 (fun q_0 hp_8 H hW eh_9 hn_10 => ?_)
  have ne_11 : b6 ≠ q_0 := ne_none g_1 hn_10
  have ne_12 : rl ≠ q_0 := ne_none g_2 hn_10
  have ne_13 : au ≠ q_0 := ne_none g_3 hn_10
  have ne_14 : al ≠ q_0 := ne_none g_4 hn_10
  have ne_15 : pw ≠ q_0 := ne_none g_5 hn_10
  have ne_16 : pa ≠ q_0 := ne_none g_6 hn_10
  have ne_17 : vb ≠ q_0 := ne_none g_7 hn_10
  have f_18 : hp_8 q_0 = some (.inr (6, [.null, .null, .int 0, .int 0])) := by rw [eh_9]; exact va_up_self _ _ _
  refine lv_dup X.1 X.2.1 dX6_load_3 rfl ?_
  refine lv_aload_n X.1 X.2.1 dX6_load_4 rfl (lv_at hl 0 rfl) ?_
  have f_19 : hp_8 b6 = some (.inr (7, [.ref rl, .ref au, .ref pa, .int (nI e0), .int (nI e1)])) := by rw [eh_9, va_up_ne _ _ ne_11]; exact g_1
  refine r_get X hW.1 f_19 (v := .ref pa) (C := RX6) (T := TX6) (N := 5) rfl tin_X6 2 (by decide) tw_194 (fun _ h => h) rfl dX6_load_5 ?_
  refine on_Wv (k' := 2) (n' := 10) (run_I (As := [.ref pa]) (rest := [.ref q_0]) X (c_X5_init l G A hp_8 _ (fun q h => hA q (Nat.le_trans hW.2.2.1 h)) hW.2.1 q_0 pa f_18) (wp_blind _) (wp_at X hW.1 hW.2.2) mf_X5_init tw_752 tw_753 rfl ⟨rfl, rfl, Nat.le_of_ble_eq_true rfl, Nat.le_of_ble_eq_true rfl⟩ hl.1 rfl rfl (Nat.le_of_ble_eq_true rfl) ⟨Nat.le_of_ble_eq_true rfl, Nat.le_of_ble_eq_true rfl⟩ dX6_load_8) hW (by omega) (by omega) (fun hp_20 H locs q_8 hW => ?_)
  obtain ⟨rr, hnr, hrd1, hrr1, hI1⟩ := q_8
  have hnr0 : hp rr = none := none_le (le_new hn_10 eh_9) hnr
  have hle1 : ∀ q e, hp q = some e → hp_20 q = some e := fun q e h0 => hI1 q e (le_new hn_10 eh_9 q e h0) (ne_none h0 hn_10)
  have hC1 := hCC.le hle1
  have g_21 : hp_20 q_0 = some (.inr (6, [.ref pa, .ref rr, .int (nI 0), .int (nI 0)])) := hrd1
  refine lv_astore_n (lv' := [(1, .ref q_0), (0, .ref b6)]) X.1 X.2.1 dX6_load_11 rfl hl (by decide) rfl (fun ls hl => ?_)
  refine lv_aload_n X.1 X.2.1 dX6_load_12 rfl (lv_at hl 0 rfl) ?_
  refine on_Wi (k' := 2) (n' := 10) (run_V (C := RX5) (As := []) (rest := []) X (c_X5_readsWhole l G A hp_20 _ (fun q h => hA q (Nat.le_trans hW.2.2.1 h)) hW.2.1 pa vb cv ml fb pn pt hC1.2.2.2.1 q_0 rr hrd1 hrr1) (wp_blind _) (wp_at X hW.1 hW.2.2) (recv X hW.1 g_21 (C := RX5) (T := TX5) (N := 4) rfl) mf_X5_readsWhole tw_773 tw_774 tw_775 ⟨rfl, rfl, Nat.le_of_ble_eq_true rfl, Nat.le_of_ble_eq_true rfl⟩ hl.1 rfl rfl (Nat.le_of_ble_eq_true rfl) ⟨Nat.le_of_ble_eq_true rfl, Nat.le_of_ble_eq_true rfl⟩ dX6_load_13) hW (by omega) (by omega) (fun r_13 hp_22 H locs q_13 hW => ?_)
  obtain ⟨rfl, hrdx, hbad, hgood, hx2⟩ := q_13
  have hle2 : ∀ q e, hp q = some e → hp_22 q = some e := fun q e h0 => by rw [hx2 q (ne_none h0 hn_10) (ne_none h0 hnr0)]; exact hle1 q e h0
  have hC2 := hCC.le hle2
  have g_23 : hp_22 b6 = some (.inr (7, [.ref rl, .ref au, .ref pa, .int (nI e0), .int (nI e1)])) := hC2.1
  refine lv_if_ne (tgt := 22) X.1 X.2.1 dX6_load_16 (by decide) (fun c_16 => ?_) (fun c_16 => ?_)
  · have hb9 : bdB pn (rdF (txN pn pt)) = false := not_f (bI_1 c_16)
    obtain ⟨hrq, hqb⟩ := hgood hb9
    obtain ⟨sp9, lim9, hrd2⟩ := hrdx
    have hf6 := fb_f (z := (n, R, hd, k, cs, sk, pn, pt)) hb9
    have g_24 : hp_22 q_0 = some (.inr (6, [.ref pa, .ref rr, .int (nI sp9), .int (nI lim9)])) := hrd2
    refine lv_aload_n X.1 X.2.1 dX6_load_22 rfl (lv_at hl 1 rfl) ?_
    refine lv_aload_n X.1 X.2.1 dX6_load_23 rfl (lv_at hl 0 rfl) ?_
    refine r_getN X hW.1 g_24 (v := .ref rr) (C := RX5) (T := TX5) (N := 4) rfl tin_X5 1 (by decide) tw_760 (fun _ h => h) rfl dX6_load_24 ?_
    refine on_Wi (k' := 3) (n' := 44) (run_V (C := RX6) (As := [.ref rr]) (rest := []) X (c_X6_addRule l G A hp_22 _ (fun q h => hA q (Nat.le_trans hW.2.2.1 h)) hW.2.1 b6 rl au pa e0 e1 eR cR mR gR RA al p0 pw eA cA mA gA CA QA vb cv ml fb n R hd k cs sk pn pt hC2 rr (rdF (txN pn pt)).2.2 hrq hqb (fun i hi => ne_none (hU6.2.2.2.2.2.1 i hi).2 hnr0)) (wp_blind _) (wp_at X hW.1 hW.2.2) (recv X hW.1 g_23 (C := RX6) (T := TX6) (N := 5) rfl) mf_X6_addRule tw_256 tw_258 tw_0 ⟨rfl, rfl, Nat.le_of_ble_eq_true rfl, Nat.le_of_ble_eq_true rfl⟩ hl.1 rfl rfl (Nat.le_of_ble_eq_true rfl) ⟨Nat.le_of_ble_eq_true rfl, Nat.le_of_ble_eq_true rfl⟩ dX6_load_27) hW (by omega) (by omega) (fun r_27 hp_25 H locs q_27 hW => ?_)
    obtain ⟨rfl, hCZ⟩ := q_27
    have hCZ0 := hCZ
    generalize hzg : gAdd (n, R, hd, k, cs, sk, pn, pt) (rdF (txN pn pt)).2.2 = z9 at hCZ
    obtain ⟨n2, R2, hd2, k2, cs2, sk2, pn2, pt2⟩ := z9
    obtain ⟨rl2, au2, pa2, e02, e12, eR2, cR2, mR2, gR2, RA2, al2, p02, pw2, eA2, cA2, mA2, gA2, CA2, QA2, vb2, cv2, ml2, fb2, hC3⟩ := hCZ
    have g_26 : hp_25 b6 = some (.inr (7, [.ref rl2, .ref au2, .ref pa2, .int (nI e02), .int (nI e12)])) := hC3.1
    have g_27 : hp_25 pa2 = some (.inr (0, [.ref vb2, .int 0, .int (bI ml2), .int (nI pn2)])) := hC3.2.2.2.1.1
    refine lv_istore_n (lv' := [(2, .int (fAdd (n, R, hd, k, cs, sk, pn, pt) (rdF (txN pn pt)).2.2)), (1, .ref q_0), (0, .ref b6)]) X.1 X.2.1 dX6_load_30 rfl hl (by decide) rfl (fun ls hl => ?_)
    refine lv_iload_n X.1 X.2.1 dX6_load_31 rfl (lv_at hl 0 rfl) ?_
    refine lv_if_lt (tgt := 43) X.1 X.2.1 dX6_load_32 (by decide) (fun c_32 => ?_) (fun c_32 => ?_)
    · refine lv_iload_n X.1 X.2.1 dX6_load_43 rfl (lv_at hl 0 rfl) ?_
      exact wr_i X hr hlk hW ⟨(show fLoad (n, R, hd, k, cs, sk, pn, pt) = fAdd (n, R, hd, k, cs, sk, pn, pt) (rdF (txN pn pt)).2.2 from if_pos hf6).symm, by rw [show gLoad (n, R, hd, k, cs, sk, pn, pt) = gAdd (n, R, hd, k, cs, sk, pn, pt) (rdF (txN pn pt)).2.2 from (if_pos hf6).trans (if_pos c_32)]; exact hCZ0⟩ (Nat.le_of_ble_eq_true rfl) (Nat.le_of_ble_eq_true rfl) dX6_load_44
    · refine lv_aload_n X.1 X.2.1 dX6_load_35 rfl (lv_at hl 2 rfl) ?_
      refine r_get X hW.1 g_26 (v := .ref pa2) (C := RX6) (T := TX6) (N := 5) rfl tin_X6 2 (by decide) tw_194 (fun _ h => h) rfl dX6_load_36 ?_
      refine lv_iconst (v := 0) X.1 X.2.1 dX6_load_39 (by decide) ?_
      refine on_Wv (k' := 4) (n' := 174) (run_V (C := RJ4) (As := [.int 0]) (rest := []) X (c_J4_setLength_d00df l G A hp_25 _ (fun q h => hA q (Nat.le_trans hW.2.2.1 h)) hW.2.1 pa2 vb2 cv2 ml2 fb2 pn2 pt2 hC3.2.2.2.1) (wp_blind _) (wp_at X hW.1 hW.2.2) (recv X hW.1 g_27 (C := RJ4) (T := TJ4) (N := 4) rfl) mf_J4_setLength_d00df tw_726 tw_727 tw_728 ⟨rfl, rfl, Nat.le_of_ble_eq_true rfl, Nat.le_of_ble_eq_true rfl⟩ hl.1 rfl rfl (Nat.le_of_ble_eq_true rfl) ⟨Nat.le_of_ble_eq_true rfl, Nat.le_of_ble_eq_true rfl⟩ dX6_load_40) hW (by omega) (by omega) (fun hp_28 H locs q_40 hW => ?_)
      obtain ⟨vb3, cv3, ml3, fb3, hS3, hF3, hv3⟩ := q_40
      refine lv_iload_n X.1 X.2.1 dX6_load_43 rfl (lv_at hl 0 rfl) ?_
      exact wr_i X hr hlk hW ⟨(show fLoad (n, R, hd, k, cs, sk, pn, pt) = fAdd (n, R, hd, k, cs, sk, pn, pt) (rdF (txN pn pt)).2.2 from if_pos hf6).symm, by rw [show gLoad (n, R, hd, k, cs, sk, pn, pt) = gPad (gAdd (n, R, hd, k, cs, sk, pn, pt) (rdF (txN pn pt)).2.2) 0 pt from (if_pos hf6).trans (if_neg c_32), hzg]; exact ⟨rl2, au2, pa2, e02, e12, eR2, cR2, mR2, gR2, RA2, al2, p02, pw2, eA2, cA2, mA2, gA2, CA2, QA2, vb3, cv3, ml3, fb3, cz_sb hC3 (hS3.cg (fun i hi => absurd hi (Nat.not_lt_zero i))) hF3⟩⟩ (Nat.le_of_ble_eq_true rfl) (Nat.le_of_ble_eq_true rfl) dX6_load_44
  · have hb9 : bdB pn (rdF (txN pn pt)) = true := not_t (bI_0 c_16)
    refine lv_bipush (v := (-3)) X.1 X.2.1 dX6_load_19 (by decide) ?_
    have hf6 := fb_ne (z := (n, R, hd, k, cs, sk, pn, pt)) (rd_bd _) hb9
    exact wr_i X hr hlk hW ⟨(if_neg hf6).symm, by rw [show gLoad (n, R, hd, k, cs, sk, pn, pt) = (n, R, hd, k, cs, sk, pn, pt) from if_neg hf6]; exact ⟨rl, au, pa, e0, e1, eR, cR, mR, gR, RA, al, p0, pw, eA, cA, mA, gA, CA, QA, vb, cv, ml, fb, hC2⟩⟩ (Nat.le_of_ble_eq_true rfl) (Nat.le_of_ble_eq_true rfl) dX6_load_21

