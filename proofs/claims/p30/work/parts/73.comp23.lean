/-! adding a rule -/
section ARS
variable {G : HG} {hp hp1 : HP} {rl eR cR n : Nat} {mR : Int32} {gR : Nat → Option Nat} {RA : Nat → Nat} {R : Nat → Nat → Nat} {q : Nat → Nat} {r9 i : Nat} {g1 : Nat → Option Nat}
theorem ar_row (h : RU G hp rl eR cR mR gR RA n R) (hL : LSq G hp rl eR n cR mR gR) (hF : LFq hp hp1 rl eR cR) (hg1 : ∀ j, j < n → g1 j = gR j) (hg2 : g1 n = some r9) (hr9 : hp r9 = some (rcE q)) (hi : i < n + 1) : g1 i = some (if i = n then r9 else RA i) ∧ hp1 (if i = n then r9 else RA i) = some (rcE (addR R n q i)) := by
  unfold addR
  by_cases c : i = n
  · rw [if_pos c, if_pos c, c]
    exact ⟨hg2, LFq.rc hL hF hr9⟩
  · rw [if_neg c, if_neg c, hg1 i (by omega)]
    have z := h.2.2.2.2.2.1 i (by omega)
    exact ⟨z.1, LFq.rc hL hF z.2⟩
theorem ar_bd {j : Nat} (h : RU G hp rl eR cR mR gR RA n R) (hq : ∀ j, j < 14 → q j ≤ 25) (hi : i < n + 1) (hj : j < 14) : addR R n q i j ≤ 25 := by
  unfold addR
  by_cases c : i = n
  · rw [if_pos c]; exact hq j hj
  · rw [if_neg c]; exact h.2.2.2.2.2.2 i j (by omega) hj
theorem ar_in {j : Nat} (h : ∀ i j, i < n → j < n → RA i = RA j → i = j) (hr : ∀ i, i < n → RA i ≠ r9) (hi : i < n + 1) (hj : j < n + 1) (e : (if i = n then r9 else RA i) = (if j = n then r9 else RA j)) : i = j := by
  by_cases c : i = n
  · by_cases d : j = n
    · omega
    · rw [if_pos c, if_neg d] at e
      exact absurd e.symm (hr j (by omega))
  · by_cases d : j = n
    · rw [if_neg c, if_pos d] at e
      exact absurd e (hr i (by omega))
    · rw [if_neg c, if_neg d] at e
      exact h i j (by omega) (by omega) e
end ARS
set_option maxHeartbeats 4000000 in
set_option maxRecDepth 100000 in
theorem c_X6_addRule (l : Launch) (G : HG) (A : Nat → Prop) (hp : HP) (sz : Nat) (hA : ∀ q, sz ≤ q → A q) (hO : Ow A hp) (b6 rl au pa e0 e1 eR cR : Nat) (mR : Int32) (gR : Nat → Option Nat) (RA : Nat → Nat) (al p0 pw eA cA : Nat) (mA : Int32) (gA : Nat → Option Nat) (CA QA : Nat → Nat) (vb cv : Nat) (ml : Bool) (fb : Nat → Int32) (n : Nat) (R : Nat → Nat → Nat) (hd : Nat → Nat) (k : Nat) (cs : Nat → Nat → Int32) (sk : Bool) (pn : Nat) (pt : Nat → Nat) (hCC : CC G hp b6 rl au pa e0 e1 eR cR mR gR RA al p0 pw eA cA mA gA CA QA vb cv ml fb (n, R, hd, k, cs, sk, pn, pt)) (r9 : Nat) (q : Nat → Nat) (hr9 : hp r9 = some (rcE q)) (hq : ∀ j, j < 14 → q j ≤ 25) (hrn : ∀ i, i < n → RA i ≠ r9) : Met l yX6_addRule [.code yX6_addRule cX6_addRule 4 (some .int)] { frames := 7, cells := 1, slots := 34, locals := 171 } (va_Pc [.ref b6, .ref r9] (WP G A sz hp)) (va_Qi (fun r hp1 => r = fAdd (n, R, hd, k, cs, sk, pn, pt) q ∧ CZ G hp1 b6 (gAdd (n, R, hd, k, cs, sk, pn, pt) q)) (WB G A) A) 1 34 A := by
  refine wr_ofW (by decide) (Nat.le_of_ble_eq_true rfl) hO ?_
  intro p e s m args below meth c ls X hr hlk hnm hsz hW hl
  have hA : ∀ q, s.heap.size ≤ q → A q := fun q h => hA q (by omega)
  have hl : lv_has ls 4 [(0, .ref b6), (1, .ref r9)] := hl
  obtain ⟨hb6, hU6, hU9, hSB, hHD, hDJ, huq⟩ := id hCC
  replace hb6 : hp b6 = some (obE rl au pa e0 e1) := hb6
  replace hU6 : RU G hp rl eR cR mR gR RA n R := hU6
  replace hU9 : AU G hp au al p0 pw eA cA mA gA CA QA k cs sk := hU9
  replace hSB : SBp G hp pa vb cv ml fb pn pt := hSB
  have hn : n ≤ 24 := hU6.2.2.1
  have hk : k ≤ 12 := hU9.2.2.2.1
  have hpn := hSB.2.2.1
  have hd0 : hd 0 = e0 := hHD.1.1
  have hd1 : hd 1 = e1 := hHD.1.2
  have hhd : ∀ i, i < 2 → hd i ≤ 1048575 ∧ strH (hd i) ≤ 20 := hHD.2
  have g_1 : hp b6 = some (.inr (7, [.ref rl, .ref au, .ref pa, .int (nI e0), .int (nI e1)])) := hb6
  have g_2 : hp rl = some (.inr (1, [.int mR, .ref eR, .int (nI n)])) := hU6.1
  have g_3 : hp au = some (.inr (2, [.ref al, .ref p0, .ref pw, .int (bI sk)])) := hU9.1
  have g_4 : hp al = some (.inr (1, [.int mA, .ref eA, .int (nI k)])) := hU9.2.1
  have g_5 : hp pw = some (.inr (4, [.int (cs k 2), .int (cs k 4), .int (cs k 3)])) := hU9.2.2.2.2.2.2.2.1
  have g_6 : hp pa = some (.inr (0, [.ref vb, .int 0, .int (bI ml), .int (nI pn)])) := hSB.1
  have g_7 : hp vb = some (.inl (G.2.1 0, cv, .inl fb)) := hSB.2.1
  have g_8 : hp r9 = some (.inr (5, [.int (nI (q 0)), .int (nI (q 1)), .int (nI (q 2)), .int (nI (q 3)), .int (nI (loP q)), .int (nI (hiP q))])) := hr9
  have hau0 := g_3
  refine lv_aload_n X.1 X.2.1 dX6_addRule_0 rfl (lv_at hl 0 rfl) ?_
  refine r_get X hW.1 g_1 (v := .ref rl) (C := RX6) (T := TX6) (N := 5) rfl tin_X6 0 (by decide) tw_148 (fun _ h => h) rfl dX6_addRule_1 ?_
  refine on_Si (run_V (C := RJx4a65c) (As := []) (rest := []) X (c_Jx4a65c_size_8abf5 l G hp rl eR n mR g_2) (rp_blind _) (rp_at X hW.1 hW.2.2) (recv X hW.1 g_2 (C := RJx4a65c) (T := TJx4a65c) (N := 3) rfl) mf_Jx4a65c_size_8abf5 tw_247 tw_218 tw_219 ⟨rfl, rfl, Nat.le_of_ble_eq_true rfl, Nat.le_of_ble_eq_true rfl⟩ hl.1 rfl rfl (Nat.le_of_ble_eq_true rfl) ⟨Nat.le_of_ble_eq_true rfl, Nat.le_of_ble_eq_true rfl⟩ dX6_addRule_4) (fun r_4 q_4 => ?_)
  obtain rfl : r_4 = (nI n) := q_4
  refine lv_bipush (v := 24) X.1 X.2.1 dX6_addRule_7 (by decide) ?_
  refine lv_icmp_lt (tgt := 15) X.1 X.2.1 dX6_addRule_9 (by decide) (fun c_9 => ?_) (fun c_9 => ?_)
  · have k_9 := k_lt (a := n) (b := 24) (by omega) (by omega) c_9
    have hn24 : ¬ n = 24 := by omega
    refine lv_iconst (v := 0) X.1 X.2.1 dX6_addRule_15 (by decide) ?_
    refine lv_istore_n (lv' := [(2, .int 0), (0, .ref b6), (1, .ref r9)]) X.1 X.2.1 dX6_addRule_16 rfl hl (by decide) rfl (fun ls hl => ?_)
    have L17 : ∀ (f : Nat) (i : Nat), i + f = n → anF (thB R (nI (q 0)) (nI (q 1))) f i = anF (thB R (nI (q 0)) (nI (q 1))) n 0 → ∀ ls, lv_has ls 4 [(0, .ref b6), (1, .ref r9), (2, .int (nI i))] → W p l e ({ frames := 7, cells := 1, slots := 34, locals := 171 } : Room) s m args below meth c s.heap [] 0 0 (MQ below (va_Qi (fun r hp1 => r = fAdd (n, R, hd, k, cs, sk, pn, pt) q ∧ CZ G hp1 b6 (gAdd (n, R, hd, k, cs, sk, pn, pt) q)) (WB G A) A) args s 1 34 A) (F0 m 17 ls []) := by
      intro f
      induction f with
      | zero =>
        intro i h0 h1 ls hl
        have hno : anF (thB R (nI (q 0)) (nI (q 1))) n 0 = false := h1.symm
        refine lv_iload_n X.1 X.2.1 dX6_addRule_17 rfl (lv_at hl 2 rfl) ?_
        refine lv_aload_n X.1 X.2.1 dX6_addRule_18 rfl (lv_at hl 0 rfl) ?_
        refine r_get X hW.1 g_1 (v := .ref rl) (C := RX6) (T := TX6) (N := 5) rfl tin_X6 0 (by decide) tw_148 (fun _ h => h) rfl dX6_addRule_19 ?_
        refine on_Si (run_V (C := RJx4a65c) (As := []) (rest := [.int (nI i)]) X (c_Jx4a65c_size_8abf5 l G hp rl eR n mR g_2) (rp_blind _) (rp_at X hW.1 hW.2.2) (recv X hW.1 g_2 (C := RJx4a65c) (T := TJx4a65c) (N := 3) rfl) mf_Jx4a65c_size_8abf5 tw_247 tw_218 tw_219 ⟨rfl, rfl, Nat.le_of_ble_eq_true rfl, Nat.le_of_ble_eq_true rfl⟩ hl.1 rfl rfl (Nat.le_of_ble_eq_true rfl) ⟨Nat.le_of_ble_eq_true rfl, Nat.le_of_ble_eq_true rfl⟩ dX6_addRule_22) (fun r_22 q_22 => ?_)
        obtain rfl : r_22 = (nI n) := q_22
        refine lv_icmp_ge (tgt := 71) X.1 X.2.1 dX6_addRule_25 (by decide) (fun c_25 => ?_) (fun c_25 => absurd (nI_le (by omega) (by omega)) c_25)
        refine lv_aload_n X.1 X.2.1 dX6_addRule_71 rfl (lv_at hl 0 rfl) ?_
        refine r_get X hW.1 g_1 (v := .ref rl) (C := RX6) (T := TX6) (N := 5) rfl tin_X6 0 (by decide) tw_148 (fun _ h => h) rfl dX6_addRule_72 ?_
        refine lv_aload_n X.1 X.2.1 dX6_addRule_75 rfl (lv_at hl 1 rfl) ?_
        have hLr := hU6.ls
        refine on_Wi (k' := 1) (n' := 34) (run_V (C := RJx4a65c) (As := [.ref r9]) (rest := []) X (c_Jx4a65c_add_9ea2d l G A hp _ (fun q h => hA q (Nat.le_trans hW.2.2.1 h)) hW.2.1 rl eR n cR mR gR hLr (by omega) hU6.els r9 ⟨5, _, hr9, Or.inr rfl⟩) (wp_blind _) (wp_at X hW.1 hW.2.2) (recv X hW.1 g_2 (C := RJx4a65c) (T := TJx4a65c) (N := 3) rfl) mf_Jx4a65c_add_9ea2d tw_388 tw_389 tw_390 ⟨rfl, rfl, Nat.le_of_ble_eq_true rfl, Nat.le_of_ble_eq_true rfl⟩ hl.1 rfl rfl (Nat.le_of_ble_eq_true rfl) ⟨Nat.le_of_ble_eq_true rfl, Nat.le_of_ble_eq_true rfl⟩ dX6_addRule_76) hW (by omega) (by omega) (fun r_76 hp_9 H locs q_76 hW => ?_)
        obtain ⟨rfl, mR1, eR1, cR1, gR1, hL1, hg1, hg2, hF1, hE1⟩ := q_76
        have hC1 : CC G hp_9 b6 rl au pa e0 e1 eR1 cR1 mR1 gR1 (fun i => if i = n then r9 else RA i) al p0 pw eA cA mA gA CA QA vb cv ml fb (n + 1, addR R n q, hd, k, cs, sk, pn, pt) := cz_rl hCC hF1 hL1 (by omega) (fun i hi => ar_row hU6 hLr hF1 hg1 hg2 hr9 hi) (fun i j hi hj => ar_bd hU6 hq hi hj) hE1 (fun i j hi hj e9 => ar_in hDJ.2.2 hrn hi hj e9) (uq_add huq (fun i j hi hj => hU6.2.2.2.2.2.2 i j hi hj) hq hno)
        have g_10 : hp_9 b6 = some (.inr (7, [.ref rl, .ref au, .ref pa, .int (nI e0), .int (nI e1)])) := hC1.1
        have g_11 : hp_9 au = some (.inr (2, [.ref al, .ref p0, .ref pw, .int (bI sk)])) := hC1.2.2.1.1
        refine lv_pop X.1 X.2.1 dX6_addRule_79 rfl ?_
        refine lv_aload_n X.1 X.2.1 dX6_addRule_80 rfl (lv_at hl 0 rfl) ?_
        refine r_get X hW.1 g_10 (v := .ref au) (C := RX6) (T := TX6) (N := 5) rfl tin_X6 1 (by decide) tw_149 (fun _ h => h) rfl dX6_addRule_81 ?_
        refine on_Wv (k' := 1) (n' := 34) (run_V (C := RX0) (As := []) (rest := []) X (c_X0_restart l G A hp_9 _ (fun q h => hA q (Nat.le_trans hW.2.2.1 h)) hW.2.1 au al p0 pw eA cA mA gA CA QA k cs sk hC1.2.2.1) (wp_blind _) (wp_at X hW.1 hW.2.2) (recv X hW.1 g_11 (C := RX0) (T := TX0) (N := 4) rfl) mf_X0_restart tw_174 tw_175 tw_176 ⟨rfl, rfl, Nat.le_of_ble_eq_true rfl, Nat.le_of_ble_eq_true rfl⟩ hl.1 rfl rfl (Nat.le_of_ble_eq_true rfl) ⟨Nat.le_of_ble_eq_true rfl, Nat.le_of_ble_eq_true rfl⟩ dX6_addRule_84) hW (by omega) (by omega) (fun hp_12 H locs q_84 hW => ?_)
        obtain ⟨mA1, g1, hA1, hK1⟩ := q_84
        have g_13 : hp_12 b6 = some (.inr (7, [.ref rl, .ref au, .ref pa, .int (nI e0), .int (nI e1)])) := ob_af hC1.1 hC1.2.2.1 hK1
        have hU1 := hC1.2.1.af hC1.2.2.1 hK1 hC1.2.2.2.2.2.1.1 hC1.2.2.2.2.2.1.2.1
        have g_14 : hp_12 rl = some (.inr (1, [.int mR1, .ref eR1, .int (nI (n + 1))])) := hU1.1
        refine lv_aload_n X.1 X.2.1 dX6_addRule_87 rfl (lv_at hl 0 rfl) ?_
        refine r_get X hW.1 g_13 (v := .ref rl) (C := RX6) (T := TX6) (N := 5) rfl tin_X6 0 (by decide) tw_148 (fun _ h => h) rfl dX6_addRule_88 ?_
        refine on_Si (run_V (C := RJx4a65c) (As := []) (rest := []) X (c_Jx4a65c_size_8abf5 l G hp_12 rl eR1 (n + 1) mR1 g_14) (rp_blind _) (rp_at X hW.1 hW.2.2) (recv X hW.1 g_14 (C := RJx4a65c) (T := TJx4a65c) (N := 3) rfl) mf_Jx4a65c_size_8abf5 tw_247 tw_218 tw_219 ⟨rfl, rfl, Nat.le_of_ble_eq_true rfl, Nat.le_of_ble_eq_true rfl⟩ hl.1 rfl rfl (Nat.le_of_ble_eq_true rfl) ⟨Nat.le_of_ble_eq_true rfl, Nat.le_of_ble_eq_true rfl⟩ dX6_addRule_91) (fun r_91 q_91 => ?_)
        obtain rfl : r_91 = (nI (n + 1)) := q_91
        refine lv_iconst (v := 1) X.1 X.2.1 dX6_addRule_94 (by decide) ?_
        refine lv_isub X.1 X.2.1 dX6_addRule_95 ?_
        refine r_eqi (show (((nI (n + 1)) - 1) : Int32) = nI n from (pk_sub (a := n + 1) (b := 1) (by omega)).trans (by rw [Nat.add_sub_cancel])) ?_
        exact wr_i X hr hlk hW ⟨((if_neg hn24).trans (if_neg (fun z9 => Bool.false_ne_true (hno.symm.trans z9)))).symm, by rw [show gAdd (n, R, hd, k, cs, sk, pn, pt) q = gAnew (n + 1, addR R n q, hd, k, cs, sk, pn, pt) from (if_neg hn24).trans (if_neg (fun z9 => Bool.false_ne_true (hno.symm.trans z9)))]; exact cz_au hC1 hA1 hK1 (Or.inl ⟨rfl, rfl⟩)⟩ (Nat.le_of_ble_eq_true rfl) (Nat.le_of_ble_eq_true rfl) dX6_addRule_96
      | succ f ih =>
        intro i h0 h1 ls hl
        have hin : i < n := by omega
        refine lv_iload_n X.1 X.2.1 dX6_addRule_17 rfl (lv_at hl 2 rfl) ?_
        refine lv_aload_n X.1 X.2.1 dX6_addRule_18 rfl (lv_at hl 0 rfl) ?_
        refine r_get X hW.1 g_1 (v := .ref rl) (C := RX6) (T := TX6) (N := 5) rfl tin_X6 0 (by decide) tw_148 (fun _ h => h) rfl dX6_addRule_19 ?_
        refine on_Si (run_V (C := RJx4a65c) (As := []) (rest := [.int (nI i)]) X (c_Jx4a65c_size_8abf5 l G hp rl eR n mR g_2) (rp_blind _) (rp_at X hW.1 hW.2.2) (recv X hW.1 g_2 (C := RJx4a65c) (T := TJx4a65c) (N := 3) rfl) mf_Jx4a65c_size_8abf5 tw_247 tw_218 tw_219 ⟨rfl, rfl, Nat.le_of_ble_eq_true rfl, Nat.le_of_ble_eq_true rfl⟩ hl.1 rfl rfl (Nat.le_of_ble_eq_true rfl) ⟨Nat.le_of_ble_eq_true rfl, Nat.le_of_ble_eq_true rfl⟩ dX6_addRule_22) (fun r_22 q_22 => ?_)
        obtain rfl : r_22 = (nI n) := q_22
        refine lv_icmp_ge (tgt := 71) X.1 X.2.1 dX6_addRule_25 (by decide) (fun c_25 => absurd c_25 (nI_ge (by omega) (by omega))) (fun c_25 => ?_)
        refine lv_aload_n X.1 X.2.1 dX6_addRule_28 rfl (lv_at hl 0 rfl) ?_
        refine r_get X hW.1 g_1 (v := .ref rl) (C := RX6) (T := TX6) (N := 5) rfl tin_X6 0 (by decide) tw_148 (fun _ h => h) rfl dX6_addRule_29 ?_
        refine lv_iload_n X.1 X.2.1 dX6_addRule_32 rfl (lv_at hl 2 rfl) ?_
        refine on_Sq (run_V (C := RJx4a65c) (As := [.int (nI i)]) (rest := []) X (c_Jx4a65c_get_915e3 l G hp rl eR n mR hU6.1 cR gR (hU6.2.1.1 (by have := hU6.2.2.2.1; omega)) hU6.2.2.2.1 (Nat.lt_of_le_of_lt hU6.2.2.2.2.1 (by decide)) i (by omega)) (rp_blind _) (rp_at X hW.1 hW.2.2) (recv X hW.1 g_2 (C := RJx4a65c) (T := TJx4a65c) (N := 3) rfl) mf_Jx4a65c_get_915e3 tw_293 tw_222 tw_223 ⟨rfl, rfl, Nat.le_of_ble_eq_true rfl, Nat.le_of_ble_eq_true rfl⟩ hl.1 rfl rfl (Nat.le_of_ble_eq_true rfl) ⟨Nat.le_of_ble_eq_true rfl, Nat.le_of_ble_eq_true rfl⟩ dX6_addRule_33) (fun r_33 q_33 => ?_)
        obtain rfl : r_33 = some (RA i) := q_33.trans (hU6.2.2.2.2.2.1 i (by omega)).1
        refine W.eq (g2 := F0 m 36 ls [.ref (RA i)]) rfl ?_
        refine r_cast X hW.1 (hU6.2.2.2.2.2.1 i (by omega)).2 (C := RX4) (T := TX4) (N := 6) rfl tw_299 dX6_addRule_36 ?_
        refine lv_astore_n (lv' := [(3, .ref (RA i)), (0, .ref b6), (1, .ref r9), (2, .int (nI i))]) X.1 X.2.1 dX6_addRule_39 rfl hl (by decide) rfl (fun ls hl => ?_)
        refine lv_aload_n X.1 X.2.1 dX6_addRule_40 rfl (lv_at hl 0 rfl) ?_
        refine r_getN X hW.1 (hU6.2.2.2.2.2.1 i (by omega)).2 (v := .int (nI (R i 0))) (C := RX4) (T := TX4) (N := 6) rfl tin_X4 0 (by decide) tw_361 (fun _ h => h) rfl dX6_addRule_41 ?_
        refine lv_aload_n X.1 X.2.1 dX6_addRule_44 rfl (lv_at hl 2 rfl) ?_
        refine r_getN X hW.1 g_8 (v := .int (nI (q 0))) (C := RX4) (T := TX4) (N := 6) rfl tin_X4 0 (by decide) tw_361 (fun _ h => h) rfl dX6_addRule_45 ?_
        refine lv_icmp_ne (tgt := 65) X.1 X.2.1 dX6_addRule_48 (by decide) (fun c_48 => ?_) (fun c_48 => ?_)
        · refine lv_iinc (v := (nI (i + 1))) (lv' := [(2, .int (nI (i + 1))), (3, .ref (RA i)), (0, .ref b6), (1, .ref r9)]) X.1 X.2.1 dX6_addRule_65 hl (k := 3) rfl (nI_add i 1) (by decide) rfl (fun ls hl => ?_)
          refine lv_goto (tgt := 17) X.1 X.2.1 dX6_addRule_68 (by decide) ?_
          exact ih (i + 1) (by omega) (by rw [← h1]; show _ = ((thB R (nI (q 0)) (nI (q 1))) i || _); rw [show (thB R (nI (q 0)) (nI (q 1))) i = false by show (decide (nI (R i 0) = nI (q 0)) && decide (nI (R i 1) = nI (q 1))) = false; rw [decide_eq_false c_48, Bool.false_and], Bool.false_or]) ls (lv_sub hl [2, 3, 0] rfl)
        · refine lv_aload_n X.1 X.2.1 dX6_addRule_51 rfl (lv_at hl 0 rfl) ?_
          refine r_getN X hW.1 (hU6.2.2.2.2.2.1 i (by omega)).2 (v := .int (nI (R i 1))) (C := RX4) (T := TX4) (N := 6) rfl tin_X4 1 (by decide) tw_364 (fun _ h => h) rfl dX6_addRule_52 ?_
          refine lv_aload_n X.1 X.2.1 dX6_addRule_55 rfl (lv_at hl 2 rfl) ?_
          refine r_getN X hW.1 g_8 (v := .int (nI (q 1))) (C := RX4) (T := TX4) (N := 6) rfl tin_X4 1 (by decide) tw_364 (fun _ h => h) rfl dX6_addRule_56 ?_
          refine lv_icmp_ne (tgt := 65) X.1 X.2.1 dX6_addRule_59 (by decide) (fun c_59 => ?_) (fun c_59 => ?_)
          · refine lv_iinc (v := (nI (i + 1))) (lv' := [(2, .int (nI (i + 1))), (3, .ref (RA i)), (0, .ref b6), (1, .ref r9)]) X.1 X.2.1 dX6_addRule_65 hl (k := 3) rfl (nI_add i 1) (by decide) rfl (fun ls hl => ?_)
            refine lv_goto (tgt := 17) X.1 X.2.1 dX6_addRule_68 (by decide) ?_
            exact ih (i + 1) (by omega) (by rw [← h1]; show _ = ((thB R (nI (q 0)) (nI (q 1))) i || _); rw [show (thB R (nI (q 0)) (nI (q 1))) i = false by show (decide (nI (R i 0) = nI (q 0)) && decide (nI (R i 1) = nI (q 1))) = false; rw [decide_eq_false c_59, Bool.and_false], Bool.false_or]) ls (lv_sub hl [2, 3, 0] rfl)
          · refine lv_bipush (v := (-5)) X.1 X.2.1 dX6_addRule_62 (by decide) ?_
            exact wr_i X hr hlk hW ⟨((if_neg hn24).trans (if_pos (h1.symm.trans (by show ((thB R (nI (q 0)) (nI (q 1))) i || _) = true; rw [show (thB R (nI (q 0)) (nI (q 1))) i = true by show (decide (nI (R i 0) = nI (q 0)) && decide (nI (R i 1) = nI (q 1))) = true; rw [decide_eq_true c_48, decide_eq_true c_59]; rfl, Bool.true_or])))).symm, by rw [show gAdd (n, R, hd, k, cs, sk, pn, pt) q = (n, R, hd, k, cs, sk, pn, pt) from (if_neg hn24).trans (if_pos (h1.symm.trans (by show ((thB R (nI (q 0)) (nI (q 1))) i || _) = true; rw [show (thB R (nI (q 0)) (nI (q 1))) i = true by show (decide (nI (R i 0) = nI (q 0)) && decide (nI (R i 1) = nI (q 1))) = true; rw [decide_eq_true c_48, decide_eq_true c_59]; rfl, Bool.true_or])))]; exact ⟨rl, au, pa, e0, e1, eR, cR, mR, gR, RA, al, p0, pw, eA, cA, mA, gA, CA, QA, vb, cv, ml, fb, hCC⟩⟩ (Nat.le_of_ble_eq_true rfl) (Nat.le_of_ble_eq_true rfl) dX6_addRule_64
    exact L17 n 0 (by omega) rfl ls (lv_sub hl [1, 2, 0] rfl)
  · have k_9 := k_nlt (a := n) (b := 24) (by omega) (by omega) c_9
    refine lv_bipush (v := (-4)) X.1 X.2.1 dX6_addRule_12 (by decide) ?_
    exact wr_i X hr hlk hW ⟨(if_pos (show n = 24 by omega)).symm, by rw [show gAdd (n, R, hd, k, cs, sk, pn, pt) q = (n, R, hd, k, cs, sk, pn, pt) from if_pos (show n = 24 by omega)]; exact ⟨rl, au, pa, e0, e1, eR, cR, mR, gR, RA, al, p0, pw, eA, cA, mA, gA, CA, QA, vb, cv, ml, fb, hCC⟩⟩ (Nat.le_of_ble_eq_true rfl) (Nat.le_of_ble_eq_true rfl) dX6_addRule_14

theorem rc_new (a b d q : Nat) : rcE (rwN a b d q) = .inr (5, [.int (nI a), .int (nI b), .int (nI d), .int (nI q), .int 0, .int 336875845]) := by
  have e1 : loP (rwN a b d q) = 0 := by simp [loP, rwN, frN]
  have e2 : hiP (rwN a b d q) = 336875845 := by simp [hiP, rwN, frN]
  unfold rcE
  rw [e1, e2]
  rfl
theorem rw_bd {a b d q : Nat} (ha : a ≤ 7) (hb : b ≤ 25) (hd : d ≤ 7) (hq : q ≤ 1) : ∀ j, j < 14 → rwN a b d q j ≤ 25 := fun j _ => by
  have := frN_le j
  unfold rwN
  repeat' split
  all_goals omega
set_option maxHeartbeats 4000000 in
set_option maxRecDepth 100000 in
theorem c_X6_rule (l : Launch) (G : HG) (A : Nat → Prop) (hp : HP) (sz : Nat) (hA : ∀ q, sz ≤ q → A q) (hO : Ow A hp) (b6 : Nat) (n : Nat) (R : Nat → Nat → Nat) (hd : Nat → Nat) (k : Nat) (cs : Nat → Nat → Int32) (sk : Bool) (pn : Nat) (pt : Nat → Nat) (hz : CZ G hp b6 (n, R, hd, k, cs, sk, pn, pt)) (a b d q : Int32) : Met l yX6_rule [.code yX6_rule cX6_rule 5 (some .int)] { frames := 8, cells := 2, slots := 40, locals := 194 } (va_Pc [.ref b6, .int a, .int b, .int d, .int q] (WP G A sz hp)) (va_Qi (fun r hp1 => r = fRule (n, R, hd, k, cs, sk, pn, pt) a b d q ∧ CZ G hp1 b6 (gRule (n, R, hd, k, cs, sk, pn, pt) a b d q)) (WB G A) A) 2 40 A := by
  refine wr_ofW (by decide) (Nat.le_of_ble_eq_true rfl) hO ?_
  intro p e s m args below meth c ls X hr hlk hnm hsz hW hl
  have hA : ∀ q, s.heap.size ≤ q → A q := fun q h => hA q (by omega)
  have hl : lv_has ls 5 [(0, .ref b6), (1, .int a), (2, .int b), (3, .int d), (4, .int q)] := hl
  obtain ⟨rl, au, pa, e0, e1, eR, cR, mR, gR, RA, al, p0, pw, eA, cA, mA, gA, CA, QA, vb, cv, ml, fb, hb6, hU6, hU9, hSB, hHD, hDJ, huq⟩ := hz
  have hCC : CC G hp b6 rl au pa e0 e1 eR cR mR gR RA al p0 pw eA cA mA gA CA QA vb cv ml fb (n, R, hd, k, cs, sk, pn, pt) := ⟨hb6, hU6, hU9, hSB, hHD, hDJ, huq⟩
  replace hb6 : hp b6 = some (obE rl au pa e0 e1) := hb6
  replace hU6 : RU G hp rl eR cR mR gR RA n R := hU6
  replace hU9 : AU G hp au al p0 pw eA cA mA gA CA QA k cs sk := hU9
  replace hSB : SBp G hp pa vb cv ml fb pn pt := hSB
  have hn : n ≤ 24 := hU6.2.2.1
  have hk : k ≤ 12 := hU9.2.2.2.1
  have hpn := hSB.2.2.1
  have hd0 : hd 0 = e0 := hHD.1.1
  have hd1 : hd 1 = e1 := hHD.1.2
  have hhd : ∀ i, i < 2 → hd i ≤ 1048575 ∧ strH (hd i) ≤ 20 := hHD.2
  have g_1 : hp b6 = some (.inr (7, [.ref rl, .ref au, .ref pa, .int (nI e0), .int (nI e1)])) := hb6
  have g_2 : hp rl = some (.inr (1, [.int mR, .ref eR, .int (nI n)])) := hU6.1
  have g_3 : hp au = some (.inr (2, [.ref al, .ref p0, .ref pw, .int (bI sk)])) := hU9.1
  have g_4 : hp al = some (.inr (1, [.int mA, .ref eA, .int (nI k)])) := hU9.2.1
  have g_5 : hp pw = some (.inr (4, [.int (cs k 2), .int (cs k 4), .int (cs k 3)])) := hU9.2.2.2.2.2.2.2.1
  have g_6 : hp pa = some (.inr (0, [.ref vb, .int 0, .int (bI ml), .int (nI pn)])) := hSB.1
  have g_7 : hp vb = some (.inl (G.2.1 0, cv, .inl fb)) := hSB.2.1
  have hau0 := g_3
  refine lv_iload_n X.1 X.2.1 dX6_rule_0 rfl (lv_at hl 1 rfl) ?_
  refine on_Si (run_S (As := [.int a]) (rest := []) X (c_X6_isState l G hp a) (rp_blind _) (rp_at X hW.1 hW.2.2) mf_X6_isState tw_345 tw_346 ⟨rfl, rfl, Nat.le_of_ble_eq_true rfl, Nat.le_of_ble_eq_true rfl⟩ hl.1 rfl rfl (Nat.le_of_ble_eq_true rfl) ⟨Nat.le_of_ble_eq_true rfl, Nat.le_of_ble_eq_true rfl⟩ dX6_rule_1) (fun r_1 q_1 => ?_)
  obtain rfl : r_1 = (inI a 0 7) := q_1
  refine lv_if_eq (tgt := 29) X.1 X.2.1 dX6_rule_4 (by decide) (fun c_4 => ?_) (fun c_4 => ?_)
  · refine lv_bipush (v := (-2)) X.1 X.2.1 dX6_rule_29 (by decide) ?_
    exact wr_i X hr hlk hW ⟨(if_pos (Or.inl c_4)).symm, by rw [show gRule (n, R, hd, k, cs, sk, pn, pt) a b d q = (n, R, hd, k, cs, sk, pn, pt) from if_pos (Or.inl c_4)]; exact ⟨rl, au, pa, e0, e1, eR, cR, mR, gR, RA, al, p0, pw, eA, cA, mA, gA, CA, QA, vb, cv, ml, fb, hCC⟩⟩ (Nat.le_of_ble_eq_true rfl) (Nat.le_of_ble_eq_true rfl) dX6_rule_31
  · obtain ⟨xa, hxa, rfl⟩ := inI_nat (hi := 7) c_4 (by decide)
    refine lv_iload_n X.1 X.2.1 dX6_rule_7 rfl (lv_at hl 2 rfl) ?_
    refine on_Si (run_S (As := [.int b]) (rest := []) X (c_X6_isCall l G hp b) (rp_blind _) (rp_at X hW.1 hW.2.2) mf_X6_isCall tw_348 tw_349 ⟨rfl, rfl, Nat.le_of_ble_eq_true rfl, Nat.le_of_ble_eq_true rfl⟩ hl.1 rfl rfl (Nat.le_of_ble_eq_true rfl) ⟨Nat.le_of_ble_eq_true rfl, Nat.le_of_ble_eq_true rfl⟩ dX6_rule_8) (fun r_8 q_8 => ?_)
    obtain rfl : r_8 = (inI b 0 25) := q_8
    refine lv_if_eq (tgt := 29) X.1 X.2.1 dX6_rule_11 (by decide) (fun c_11 => ?_) (fun c_11 => ?_)
    · refine lv_bipush (v := (-2)) X.1 X.2.1 dX6_rule_29 (by decide) ?_
      exact wr_i X hr hlk hW ⟨(if_pos (Or.inr (Or.inl c_11))).symm, by rw [show gRule (n, R, hd, k, cs, sk, pn, pt) (nI xa) b d q = (n, R, hd, k, cs, sk, pn, pt) from if_pos (Or.inr (Or.inl c_11))]; exact ⟨rl, au, pa, e0, e1, eR, cR, mR, gR, RA, al, p0, pw, eA, cA, mA, gA, CA, QA, vb, cv, ml, fb, hCC⟩⟩ (Nat.le_of_ble_eq_true rfl) (Nat.le_of_ble_eq_true rfl) dX6_rule_31
    · obtain ⟨xb, hxb, rfl⟩ := inI_nat (hi := 25) c_11 (by decide)
      refine lv_iload_n X.1 X.2.1 dX6_rule_14 rfl (lv_at hl 3 rfl) ?_
      refine on_Si (run_S (As := [.int d]) (rest := []) X (c_X6_isState l G hp d) (rp_blind _) (rp_at X hW.1 hW.2.2) mf_X6_isState tw_345 tw_346 ⟨rfl, rfl, Nat.le_of_ble_eq_true rfl, Nat.le_of_ble_eq_true rfl⟩ hl.1 rfl rfl (Nat.le_of_ble_eq_true rfl) ⟨Nat.le_of_ble_eq_true rfl, Nat.le_of_ble_eq_true rfl⟩ dX6_rule_15) (fun r_15 q_15 => ?_)
      obtain rfl : r_15 = (inI d 0 7) := q_15
      refine lv_if_eq (tgt := 29) X.1 X.2.1 dX6_rule_18 (by decide) (fun c_18 => ?_) (fun c_18 => ?_)
      · refine lv_bipush (v := (-2)) X.1 X.2.1 dX6_rule_29 (by decide) ?_
        exact wr_i X hr hlk hW ⟨(if_pos (Or.inr (Or.inr (Or.inl c_18)))).symm, by rw [show gRule (n, R, hd, k, cs, sk, pn, pt) (nI xa) (nI xb) d q = (n, R, hd, k, cs, sk, pn, pt) from if_pos (Or.inr (Or.inr (Or.inl c_18)))]; exact ⟨rl, au, pa, e0, e1, eR, cR, mR, gR, RA, al, p0, pw, eA, cA, mA, gA, CA, QA, vb, cv, ml, fb, hCC⟩⟩ (Nat.le_of_ble_eq_true rfl) (Nat.le_of_ble_eq_true rfl) dX6_rule_31
      · obtain ⟨xd, hxd, rfl⟩ := inI_nat (hi := 7) c_18 (by decide)
        refine lv_iload X.1 X.2.1 dX6_rule_21 (lv_at hl 4 rfl) ?_
        refine on_Si (run_S (As := [.int q]) (rest := []) X (c_X6_isFlag l G hp q) (rp_blind _) (rp_at X hW.1 hW.2.2) mf_X6_isFlag tw_351 tw_352 ⟨rfl, rfl, Nat.le_of_ble_eq_true rfl, Nat.le_of_ble_eq_true rfl⟩ hl.1 rfl rfl (Nat.le_of_ble_eq_true rfl) ⟨Nat.le_of_ble_eq_true rfl, Nat.le_of_ble_eq_true rfl⟩ dX6_rule_23) (fun r_23 q_23 => ?_)
        obtain rfl : r_23 = (inI q 0 1) := q_23
        refine lv_if_ne (tgt := 32) X.1 X.2.1 dX6_rule_26 (by decide) (fun c_26 => ?_) (fun c_26 => ?_)
        · obtain ⟨xq, hxq, rfl⟩ := inI_nat (hi := 1) c_26 (by decide)
          refine lv_aload_n X.1 X.2.1 dX6_rule_32 rfl (lv_at hl 0 rfl) ?_
          refine r_new (k := 1) (n := 6) (fs := [.int 0, .int 0, .int 0, .int 0, .int 0, .int 0]) X hA hW (C := RX4) (T := TX4) (N := 6) (ci := 5) rfl tin_X4 tyX4_ok tw_299 tw_354 tw_25 (fun j hj => by rcases (show j = 0 ∨ j = 1 ∨ j = 2 ∨ j = 3 ∨ j = 4 ∨ j = 5 by omega) with rfl | rfl | rfl | rfl | rfl | rfl <;> rfl) (by omega) (by omega) (Nat.le_of_ble_eq_true rfl) (Nat.le_of_ble_eq_true rfl) dX6_rule_33 (fun q_33 hp_8 H hW eh_9 hn_10 => ?_)
          have ne_11 : b6 ≠ q_33 := ne_none g_1 hn_10
          have ne_12 : rl ≠ q_33 := ne_none g_2 hn_10
          have ne_13 : au ≠ q_33 := ne_none g_3 hn_10
          have ne_14 : al ≠ q_33 := ne_none g_4 hn_10
          have ne_15 : pw ≠ q_33 := ne_none g_5 hn_10
          have ne_16 : pa ≠ q_33 := ne_none g_6 hn_10
          have ne_17 : vb ≠ q_33 := ne_none g_7 hn_10
          have f_18 : hp_8 q_33 = some (.inr (5, [.int 0, .int 0, .int 0, .int 0, .int 0, .int 0])) := by rw [eh_9]; exact va_up_self _ _ _
          refine lv_dup X.1 X.2.1 dX6_rule_36 rfl ?_
          refine lv_iload_n X.1 X.2.1 dX6_rule_37 rfl (lv_at hl 1 rfl) ?_
          refine lv_iload_n X.1 X.2.1 dX6_rule_38 rfl (lv_at hl 2 rfl) ?_
          refine lv_iload_n X.1 X.2.1 dX6_rule_39 rfl (lv_at hl 3 rfl) ?_
          refine lv_iload X.1 X.2.1 dX6_rule_40 (lv_at hl 4 rfl) ?_
          refine on_Wv (k' := 1) (n' := 6) (run_I (As := [.int (nI xa), .int (nI xb), .int (nI xd), .int (nI xq)]) (rest := [.ref q_33, .ref b6]) X (c_X4_init l G A hp_8 _ (fun q h => hA q (Nat.le_trans hW.2.2.1 h)) hW.2.1 q_33 (nI xa) (nI xb) (nI xd) (nI xq) f_18) (wp_blind _) (wp_at X hW.1 hW.2.2) mf_X4_init tw_355 tw_356 rfl ⟨rfl, rfl, Nat.le_of_ble_eq_true rfl, Nat.le_of_ble_eq_true rfl⟩ hl.1 rfl rfl (Nat.le_of_ble_eq_true rfl) ⟨Nat.le_of_ble_eq_true rfl, Nat.le_of_ble_eq_true rfl⟩ dX6_rule_42) hW (by omega) (by omega) (fun hp_19 H locs q_42 hW => ?_)
          have f_20 : hp_19 q_33 = some (.inr (5, [.int (nI xa), .int (nI xb), .int (nI xd), .int (nI xq), .int 0, .int 336875845])) := by rw [q_42]; exact va_up_self _ _ _
          have hle := le_two hn_10 eh_9 q_42
          have hC1 := hCC.le hle
          have hrq : hp_19 q_33 = some (rcE (rwN xa xb xd xq)) := by rw [rc_new]; exact f_20
          have f_21 : hp_19 b6 = some (.inr (7, [.ref rl, .ref au, .ref pa, .int (nI e0), .int (nI e1)])) := by rw [q_42, va_up_ne _ _ ne_11, eh_9, va_up_ne _ _ ne_11]; exact g_1
          refine on_Wi (k' := 2) (n' := 40) (run_V (C := RX6) (As := [.ref q_33]) (rest := []) X (c_X6_addRule l G A hp_19 _ (fun q h => hA q (Nat.le_trans hW.2.2.1 h)) hW.2.1 b6 rl au pa e0 e1 eR cR mR gR RA al p0 pw eA cA mA gA CA QA vb cv ml fb n R hd k cs sk pn pt hC1 q_33 (rwN xa xb xd xq) hrq (rw_bd (by omega) (by omega) (by omega) (by omega)) (fun i hi => ne_none (hU6.2.2.2.2.2.1 i hi).2 hn_10)) (wp_blind _) (wp_at X hW.1 hW.2.2) (recv X hW.1 f_21 (C := RX6) (T := TX6) (N := 5) rfl) mf_X6_addRule tw_384 tw_386 tw_5 ⟨rfl, rfl, Nat.le_of_ble_eq_true rfl, Nat.le_of_ble_eq_true rfl⟩ hl.1 rfl rfl (Nat.le_of_ble_eq_true rfl) ⟨Nat.le_of_ble_eq_true rfl, Nat.le_of_ble_eq_true rfl⟩ dX6_rule_45) hW (by omega) (by omega) (fun r_45 hp_22 H locs q_45 hW => ?_)
          obtain ⟨hra, hCZ⟩ := q_45
          exact wr_i X hr hlk hW ⟨(by rw [show fRule (n, R, hd, k, cs, sk, pn, pt) (nI xa) (nI xb) (nI xd) (nI xq) = _ from if_neg (fun z9 => Or.elim z9 c_4 (fun z9 => Or.elim z9 c_11 (fun z9 => Or.elim z9 c_18 c_26))), tn_n (by omega), tn_n (by omega), tn_n (by omega), tn_n (by omega)]; exact hra), by rw [show gRule (n, R, hd, k, cs, sk, pn, pt) (nI xa) (nI xb) (nI xd) (nI xq) = _ from if_neg (fun z9 => Or.elim z9 c_4 (fun z9 => Or.elim z9 c_11 (fun z9 => Or.elim z9 c_18 c_26))), tn_n (by omega), tn_n (by omega), tn_n (by omega), tn_n (by omega)]; exact hCZ⟩ (Nat.le_of_ble_eq_true rfl) (Nat.le_of_ble_eq_true rfl) dX6_rule_48
        · refine lv_bipush (v := (-2)) X.1 X.2.1 dX6_rule_29 (by decide) ?_
          exact wr_i X hr hlk hW ⟨(if_pos (Or.inr (Or.inr (Or.inr c_26)))).symm, by rw [show gRule (n, R, hd, k, cs, sk, pn, pt) (nI xa) (nI xb) (nI xd) q = (n, R, hd, k, cs, sk, pn, pt) from if_pos (Or.inr (Or.inr (Or.inr c_26)))]; exact ⟨rl, au, pa, e0, e1, eR, cR, mR, gR, RA, al, p0, pw, eA, cA, mA, gA, CA, QA, vb, cv, ml, fb, hCC⟩⟩ (Nat.le_of_ble_eq_true rfl) (Nat.le_of_ble_eq_true rfl) dX6_rule_31
