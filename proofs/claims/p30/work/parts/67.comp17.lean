/-! the component's writers over auction and hands -/
section CZS
variable {G : HG} {hp hp1 : HP} {b6 rl au pa e0 e1 eR cR : Nat} {mR : Int32} {gR : Nat → Option Nat} {RA : Nat → Nat} {al p0 pw eA cA : Nat} {mA : Int32} {gA : Nat → Option Nat} {CA QA : Nat → Nat} {vb cv : Nat} {ml : Bool} {fb : Nat → Int32} {n : Nat} {R : Nat → Nat → Nat} {hd : Nat → Nat} {k : Nat} {cs : Nat → Nat → Int32} {sk : Bool} {pn : Nat} {pt : Nat → Nat}
theorem RU.fr (h : RU G hp rl eR cR mR gR RA n R) (h1 : ∀ e, hp rl = some e → hp1 rl = some e) (h2 : 0 < cR → ∀ e, hp eR = some e → hp1 eR = some e) (h3 : ∀ i, i < n → ∀ e, hp (RA i) = some e → hp1 (RA i) = some e) : RU G hp1 rl eR cR mR gR RA n R := ⟨h1 _ h.1, ⟨fun z => h2 z _ (h.2.1.1 z), h.2.1.2⟩, h.2.2.1, h.2.2.2.1, h.2.2.2.2.1, fun i hi => ⟨(h.2.2.2.2.2.1 i hi).1, h3 i hi _ (h.2.2.2.2.2.1 i hi).2⟩, h.2.2.2.2.2.2⟩
theorem RU.af (h : RU G hp rl eR cR mR gR RA n R) (hU : AU G hp au al p0 pw eA cA mA gA CA QA k cs sk) (hK : AFq hp hp1 au al eA cA) (hd : rl ≠ al) (hE : 0 < cR → 0 < cA → eR ≠ eA) : RU G hp1 rl eR cR mR gR RA n R :=
  h.fr (fun e he => hK _ _ he (ne_look h.1 hU.1 (by simp [alE, auE])) hd (fun z => ne_look h.1 (hU.2.2.1.1 z) (by simp [alE]))) (fun c e he => hK _ _ he (ne_look (h.2.1.1 c) hU.1 (by simp [auE])) (ne_look (h.2.1.1 c) hU.2.1 (by simp [alE])) (fun z => hE c z)) (fun i hi e he => hK _ _ he (ne_look (h.2.2.2.2.2.1 i hi).2 hU.1 (by simp [rcE, auE])) (ne_look (h.2.2.2.2.2.1 i hi).2 hU.2.1 (by simp [rcE, alE])) (fun z => ne_look (h.2.2.2.2.2.1 i hi).2 (hU.2.2.1.1 z) (by simp [rcE])))
theorem SBp.fr (h : SBp G hp pa vb cv ml fb pn pt) (h1 : ∀ e, hp pa = some e → hp1 pa = some e) (h2 : ∀ e, hp vb = some e → hp1 vb = some e) : SBp G hp1 pa vb cv ml fb pn pt := ⟨h1 _ h.1, h2 _ h.2.1, h.2.2⟩
theorem SBp.af (h : SBp G hp pa vb cv ml fb pn pt) (hU : AU G hp au al p0 pw eA cA mA gA CA QA k cs sk) (hK : AFq hp hp1 au al eA cA) : SBp G hp1 pa vb cv ml fb pn pt :=
  h.fr (fun e he => hK _ _ he (ne_look h.1 hU.1 (by simp [auE])) (ne_look h.1 hU.2.1 (by simp [alE])) (fun z => ne_look h.1 (hU.2.2.1.1 z) (by simp))) (fun e he => hK _ _ he (ne_look h.2.1 hU.1 (by simp [auE])) (ne_look h.2.1 hU.2.1 (by simp [alE])) (fun z => ne_look h.2.1 (hU.2.2.1.1 z) (by simp)))
theorem ob_af (h : hp b6 = some (obE rl au pa e0 e1)) (hU : AU G hp au al p0 pw eA cA mA gA CA QA k cs sk) (hK : AFq hp hp1 au al eA cA) : hp1 b6 = some (obE rl au pa e0 e1) := hK _ _ h (ne_look h hU.1 (by simp [obE, auE])) (ne_look h hU.2.1 (by simp [obE, alE])) (fun z => ne_look h (hU.2.2.1.1 z) (by simp [obE]))
theorem cz_au {pw1 eA1 cA1 k1 : Nat} {mA1 : Int32} {g1 : Nat → Option Nat} {CA1 QA1 : Nat → Nat} {cs1 : Nat → Nat → Int32} {sk1 : Bool} (h : CC G hp b6 rl au pa e0 e1 eR cR mR gR RA al p0 pw eA cA mA gA CA QA vb cv ml fb (n, R, hd, k, cs, sk, pn, pt)) (hA : AU G hp1 au al p0 pw1 eA1 cA1 mA1 g1 CA1 QA1 k1 cs1 sk1) (hK : AFq hp hp1 au al eA cA) (he : (eA1 = eA ∧ cA1 = cA) ∨ hp eA1 = none) : CZ G hp1 b6 (n, R, hd, k1, cs1, sk1, pn, pt) := by
  obtain ⟨hb6, hU6, hU9, hSB, hHD, hDJ, huq⟩ := h
  refine ⟨rl, au, pa, e0, e1, eR, cR, mR, gR, RA, al, p0, pw1, eA1, cA1, mA1, g1, CA1, QA1, vb, cv, ml, fb, ob_af hb6 hU9 hK, hU6.af hU9 hK hDJ.1 hDJ.2.1, hA, hSB.af hU9 hK, hHD, ⟨hDJ.1, fun z1 z2 => ?_, hDJ.2.2⟩, huq⟩
  rcases he with ⟨rfl, rfl⟩ | he
  · exact hDJ.2.1 z1 z2
  · exact ne_none (hU6.2.1.1 z1) he
theorem AU.fr {x9 ci : Nat} {vs : List Value} (h : AU G hp au al p0 pw eA cA mA gA CA QA k cs sk) (hl : ∀ q e, hp q = some e → (∀ vs, e ≠ .inr (7, vs)) → (∀ vs, e ≠ .inr (5, vs)) → q ≠ x9 → hp1 q = some e) (hx : hp x9 = some (.inr (ci, vs))) (hci : ci = 7 ∨ ci = 5) : AU G hp1 au al p0 pw eA cA mA gA CA QA k cs sk := by
  have hn : ∀ q e, hp q = some e → (∀ vs, e ≠ .inr (7, vs)) → (∀ vs, e ≠ .inr (5, vs)) → hp1 q = some e := fun q e h0 h1 h2 => hl q e h0 h1 h2 (ne_look h0 hx (by rcases hci with rfl | rfl; exact h1 vs; exact h2 vs))
  refine ⟨hn _ _ h.1 (by simp [auE]) (by simp [auE]), hn _ _ h.2.1 (by simp [alE]) (by simp [alE]), ⟨fun z => hn _ _ (h.2.2.1.1 z) (by simp) (by simp), h.2.2.1.2⟩, h.2.2.2.1, h.2.2.2.2.1, h.2.2.2.2.2.1, fun i hi => ?_, hn _ _ h.2.2.2.2.2.2.2.1 (by simp [poE]) (by simp [poE]), hn _ _ h.2.2.2.2.2.2.2.2 (by simp [poE]) (by simp [poE])⟩
  obtain ⟨h1, h2, h3⟩ := h.2.2.2.2.2.2.1 i hi
  exact ⟨h1, hn _ _ h2 (by simp [mcE]) (by simp [mcE]), hn _ _ h3 (by simp [poE]) (by simp [poE])⟩
end CZS
theorem iru_6 {n : Nat} {x : Int32} (hn : n ≤ 24) (h : x = -6 ∨ ∃ j, j < n ∧ x = nI j) (q : inI x 0 ((n : Int) - 1) = 0) : x = -6 := by
  rcases h with h | ⟨j, hj, rfl⟩
  · exact h
  · exact absurd q (fun q => inI_0 q ⟨by rw [nI_toInt (by omega)]; omega, by rw [nI_toInt (by omega)]; omega⟩)
theorem iru_j {n : Nat} {x : Int32} (h : x = -6 ∨ ∃ j, j < n ∧ x = nI j) (q : ¬ inI x 0 ((n : Int) - 1) = 0) : (∃ j, j < n ∧ x = nI j) ∧ ¬ x = -6 := by
  have h2 := inI_1 q
  have z : (-6 : Int32).toInt = -6 := rfl
  rcases h with rfl | h
  · rw [z] at h2; omega
  · exact ⟨h, fun e => by rw [e, z] at h2; omega⟩
theorem au_stk {G : HG} {hp hp1 : HP} {au al p0 pw eA cA : Nat} {mA : Int32} {gA : Nat → Option Nat} {CA QA : Nat → Nat} {k : Nat} {cs : Nat → Nat → Int32} {sk : Bool} (b : Bool) (h : AU G hp au al p0 pw eA cA mA gA CA QA k cs sk) (hau : hp1 au = some (auE al p0 pw b)) (hK : AFq hp hp1 au al eA cA) (hal : LSq G hp1 al eA k cA mA gA) : AU G hp1 au al p0 pw eA cA mA gA CA QA k cs b := by
  refine ⟨hau, hal.1, hal.2.1, h.2.2.2.1, hal.2.2.1, hal.2.2.2, fun i hi => ?_, h.po hK h.2.2.2.2.2.2.2.1, h.po hK h.2.2.2.2.2.2.2.2⟩
  obtain ⟨h1, h2, h3⟩ := h.2.2.2.2.2.2.1 i hi
  exact ⟨h1, h.mc hK h2, h.po hK h3⟩
set_option maxHeartbeats 4000000 in
set_option maxRecDepth 100000 in
theorem c_X6_call (l : Launch) (G : HG) (A : Nat → Prop) (hp : HP) (sz : Nat) (hA : ∀ q, sz ≤ q → A q) (hO : Ow A hp) (b6 : Nat) (n : Nat) (R : Nat → Nat → Nat) (hd : Nat → Nat) (k : Nat) (cs : Nat → Nat → Int32) (sk : Bool) (pn : Nat) (pt : Nat → Nat) (hz : CZ G hp b6 (n, R, hd, k, cs, sk, pn, pt)) : Met l yX6_call [.code yX6_call cX6_call 3 (some .int)] { frames := 8, cells := 3, slots := 40, locals := 193 } (va_Pc [.ref b6] (WP G A sz hp)) (va_Qi (fun r hp1 => r = fCall (n, R, hd, k, cs, sk, pn, pt) ∧ CZ G hp1 b6 (gCallA (n, R, hd, k, cs, sk, pn, pt))) (WB G A) A) 3 40 A := by
  refine wr_ofW (by decide) (Nat.le_of_ble_eq_true rfl) hO ?_
  intro p e s m args below meth c ls X hr hlk hnm hsz hW hl
  have hA : ∀ q, s.heap.size ≤ q → A q := fun q h => hA q (by omega)
  have hl : lv_has ls 3 [(0, .ref b6)] := hl
  obtain ⟨rl, au, pa, e0, e1, eR, cR, mR, gR, RA, al, p0, pw, eA, cA, mA, gA, CA, QA, vb, cv, ml, fb, hb6, hU6, hU9, hSB, hHD, hDJ, huq⟩ := hz
  have hCC : CC G hp b6 rl au pa e0 e1 eR cR mR gR RA al p0 pw eA cA mA gA CA QA vb cv ml fb (n, R, hd, k, cs, sk, pn, pt) := ⟨hb6, hU6, hU9, hSB, hHD, hDJ, huq⟩
  replace hb6 : hp b6 = some (obE rl au pa e0 e1) := hb6
  replace hU6 : RU G hp rl eR cR mR gR RA n R := hU6
  replace hU9 : AU G hp au al p0 pw eA cA mA gA CA QA k cs sk := hU9
  replace hSB : SBp G hp pa vb cv ml fb pn pt := hSB
  have hn : n ≤ 24 := hU6.2.2.1
  have hk : k ≤ 12 := hU9.2.2.2.1
  have hpn := hSB.2.2.1
  have hd0 : hd 0 = e0 := hHD.1.1
  have hd1 : hd 1 = e1 := hHD.1.2
  have hhd : ∀ i, i < 2 → hd i ≤ 1048575 ∧ strH (hd i) ≤ 20 := hHD.2
  have g_1 : hp b6 = some (.inr (7, [.ref rl, .ref au, .ref pa, .int (nI e0), .int (nI e1)])) := hb6
  have g_2 : hp rl = some (.inr (1, [.int mR, .ref eR, .int (nI n)])) := hU6.1
  have g_3 : hp au = some (.inr (2, [.ref al, .ref p0, .ref pw, .int (bI sk)])) := hU9.1
  have g_4 : hp al = some (.inr (1, [.int mA, .ref eA, .int (nI k)])) := hU9.2.1
  have g_5 : hp pw = some (.inr (4, [.int (cs k 2), .int (cs k 4), .int (cs k 3)])) := hU9.2.2.2.2.2.2.2.1
  have g_6 : hp pa = some (.inr (0, [.ref vb, .int 0, .int (bI ml), .int (nI pn)])) := hSB.1
  have g_7 : hp vb = some (.inl (G.2.1 0, cv, .inl fb)) := hSB.2.1
  have hau0 := g_3
  have hhk := hhd (k % 2) (by omega)
  refine lv_aload_n X.1 X.2.1 dX6_call_0 rfl (lv_at hl 0 rfl) ?_
  refine r_get X hW.1 g_1 (v := .ref au) (C := RX6) (T := TX6) (N := 5) rfl tin_X6 1 (by decide) tw_149 (fun _ h => h) rfl dX6_call_1 ?_
  refine on_Si (run_V (C := RX0) (As := []) (rest := []) X (c_X0_isOver l G hp au al p0 pw eA cA mA gA CA QA k cs sk hU9) (rp_blind _) (rp_at X hW.1 hW.2.2) (recv X hW.1 g_3 (C := RX0) (T := TX0) (N := 4) rfl) mf_X0_isOver tw_482 tw_261 tw_262 ⟨rfl, rfl, Nat.le_of_ble_eq_true rfl, Nat.le_of_ble_eq_true rfl⟩ hl.1 rfl rfl (Nat.le_of_ble_eq_true rfl) ⟨Nat.le_of_ble_eq_true rfl, Nat.le_of_ble_eq_true rfl⟩ dX6_call_4) (fun r_4 q_4 => ?_)
  obtain rfl : r_4 = (bI (ovB k cs sk)) := q_4
  refine lv_if_eq (tgt := 13) X.1 X.2.1 dX6_call_7 (by decide) (fun c_7 => ?_) (fun c_7 => ?_)
  · have nov : ¬ ovB k cs sk = true := fun q => Bool.false_ne_true ((bI_0 c_7).symm.trans q)
    have hk9 := ov_lt hk (bI_0 c_7)
    refine lv_aload_n X.1 X.2.1 dX6_call_13 rfl (lv_at hl 0 rfl) ?_
    refine lv_aload_n X.1 X.2.1 dX6_call_14 rfl (lv_at hl 0 rfl) ?_
    refine r_get X hW.1 g_1 (v := .ref au) (C := RX6) (T := TX6) (N := 5) rfl tin_X6 1 (by decide) tw_149 (fun _ h => h) rfl dX6_call_15 ?_
    refine r_getN X hW.1 g_3 (v := .ref pw) (C := RX0) (T := TX0) (N := 4) rfl tin_X0 2 (by decide) tw_105 (fun _ h => h) rfl dX6_call_18 ?_
    refine lv_aload_n X.1 X.2.1 dX6_call_21 rfl (lv_at hl 0 rfl) ?_
    refine lv_aload_n X.1 X.2.1 dX6_call_22 rfl (lv_at hl 0 rfl) ?_
    refine r_get X hW.1 g_1 (v := .ref au) (C := RX6) (T := TX6) (N := 5) rfl tin_X6 1 (by decide) tw_149 (fun _ h => h) rfl dX6_call_23 ?_
    refine on_Si (run_V (C := RX0) (As := []) (rest := [.ref b6, .ref pw, .ref b6]) X (c_X0_turn l G hp au al p0 pw eA cA mA gA CA QA k cs sk hU9) (rp_blind _) (rp_at X hW.1 hW.2.2) (recv X hW.1 g_3 (C := RX0) (T := TX0) (N := 4) rfl) mf_X0_turn tw_252 tw_253 tw_254 ⟨rfl, rfl, Nat.le_of_ble_eq_true rfl, Nat.le_of_ble_eq_true rfl⟩ hl.1 rfl rfl (Nat.le_of_ble_eq_true rfl) ⟨Nat.le_of_ble_eq_true rfl, Nat.le_of_ble_eq_true rfl⟩ dX6_call_26) (fun r_26 q_26 => ?_)
    obtain rfl : r_26 = (nI (k % 2)) := q_26
    refine on_Si (run_V (C := RX6) (As := [.int (nI (k % 2))]) (rest := [.ref pw, .ref b6]) X (c_X6_handOf l G hp b6 rl au pa e0 e1 g_1 (k % 2) (by omega)) (rp_blind _) (rp_at X hW.1 hW.2.2) (recv X hW.1 g_1 (C := RX6) (T := TX6) (N := 5) rfl) mf_X6_handOf tw_189 tw_191 tw_0 ⟨rfl, rfl, Nat.le_of_ble_eq_true rfl, Nat.le_of_ble_eq_true rfl⟩ hl.1 rfl rfl (Nat.le_of_ble_eq_true rfl) ⟨Nat.le_of_ble_eq_true rfl, Nat.le_of_ble_eq_true rfl⟩ dX6_call_29) (fun r_29 q_29 => ?_)
    obtain rfl : r_29 = nI (hd (k % 2)) := q_29.trans (congrArg nI (hd_of hd0 hd1 (by omega)))
    refine on_Si (run_S (As := [.int (nI (hd (k % 2)))]) (rest := [.ref pw, .ref b6]) X (c_X1_profile l G hp (hd (k % 2)) (by omega)) (rp_blind _) (rp_at X hW.1 hW.2.2) mf_X1_profile tw_290 tw_291 ⟨rfl, rfl, Nat.le_of_ble_eq_true rfl, Nat.le_of_ble_eq_true rfl⟩ hl.1 rfl rfl (Nat.le_of_ble_eq_true rfl) ⟨Nat.le_of_ble_eq_true rfl, Nat.le_of_ble_eq_true rfl⟩ dX6_call_32) (fun r_32 q_32 => ?_)
    obtain rfl : r_32 = (nI (pfN (hd (k % 2)))) := q_32
    refine on_Si (run_V (C := RX6) (As := [.ref pw, .int (nI (pfN (hd (k % 2))))]) (rest := []) X (c_X6_firstRule l G hp b6 rl au pa e0 e1 hb6 eR cR mR gR RA n R hU6 pw (cs k 2) (cs k 4) (cs k 3) g_5 (hd (k % 2)) hhk.2) (rp_blind _) (rp_at X hW.1 hW.2.2) (recv X hW.1 g_1 (C := RX6) (T := TX6) (N := 5) rfl) mf_X6_firstRule tw_295 tw_297 tw_4 ⟨rfl, rfl, Nat.le_of_ble_eq_true rfl, Nat.le_of_ble_eq_true rfl⟩ hl.1 rfl rfl (Nat.le_of_ble_eq_true rfl) ⟨Nat.le_of_ble_eq_true rfl, Nat.le_of_ble_eq_true rfl⟩ dX6_call_35) (fun r_35 q_35 => ?_)
    obtain rfl : r_35 = (rlF n R (hd (k % 2)) (cs k 2) (cs k 4) (cs k 3)) := q_35
    refine lv_istore_n (lv' := [(1, .int (rlF n R (hd (k % 2)) (cs k 2) (cs k 4) (cs k 3))), (0, .ref b6)]) X.1 X.2.1 dX6_call_38 rfl hl (by decide) rfl (fun ls hl => ?_)
    refine lv_aload_n X.1 X.2.1 dX6_call_39 rfl (lv_at hl 1 rfl) ?_
    refine lv_iload_n X.1 X.2.1 dX6_call_40 rfl (lv_at hl 0 rfl) ?_
    refine on_Si (run_V (C := RX6) (As := [.int (rlF n R (hd (k % 2)) (cs k 2) (cs k 4) (cs k 3))]) (rest := []) X (c_X6_isRule l G hp b6 rl au pa e0 e1 g_1 eR mR n hn g_2 (rlF n R (hd (k % 2)) (cs k 2) (cs k 4) (cs k 3))) (rp_blind _) (rp_at X hW.1 hW.2.2) (recv X hW.1 g_1 (C := RX6) (T := TX6) (N := 5) rfl) mf_X6_isRule tw_440 tw_442 tw_9 ⟨rfl, rfl, Nat.le_of_ble_eq_true rfl, Nat.le_of_ble_eq_true rfl⟩ hl.1 rfl rfl (Nat.le_of_ble_eq_true rfl) ⟨Nat.le_of_ble_eq_true rfl, Nat.le_of_ble_eq_true rfl⟩ dX6_call_41) (fun r_41 q_41 => ?_)
    obtain rfl : r_41 = (inI (rlF n R (hd (k % 2)) (cs k 2) (cs k 4) (cs k 3)) 0 ((n : Int) - 1)) := q_41
    refine lv_if_ne (tgt := 58) X.1 X.2.1 dX6_call_44 (by decide) (fun c_44 => ?_) (fun c_44 => ?_)
    · obtain ⟨⟨j, hjn, hj⟩, r6⟩ := iru_j (rlF_or n R (hd (k % 2)) (cs k 2) (cs k 4) (cs k 3)) c_44
      rw [hj] at hl
      refine lv_aload_n X.1 X.2.1 dX6_call_58 rfl (lv_at hl 1 rfl) ?_
      refine r_get X hW.1 g_1 (v := .ref rl) (C := RX6) (T := TX6) (N := 5) rfl tin_X6 0 (by decide) tw_148 (fun _ h => h) rfl dX6_call_59 ?_
      refine lv_iload_n X.1 X.2.1 dX6_call_62 rfl (lv_at hl 0 rfl) ?_
      refine on_Sq (run_V (C := RJx4a65c) (As := [.int (nI j)]) (rest := []) X (c_Jx4a65c_get_915e3 l G hp rl eR n mR hU6.1 cR gR (hU6.2.1.1 (by have := hU6.2.2.2.1; omega)) hU6.2.2.2.1 (Nat.lt_of_le_of_lt hU6.2.2.2.2.1 (by decide)) j (by omega)) (rp_blind _) (rp_at X hW.1 hW.2.2) (recv X hW.1 g_2 (C := RJx4a65c) (T := TJx4a65c) (N := 3) rfl) mf_Jx4a65c_get_915e3 tw_293 tw_222 tw_223 ⟨rfl, rfl, Nat.le_of_ble_eq_true rfl, Nat.le_of_ble_eq_true rfl⟩ hl.1 rfl rfl (Nat.le_of_ble_eq_true rfl) ⟨Nat.le_of_ble_eq_true rfl, Nat.le_of_ble_eq_true rfl⟩ dX6_call_63) (fun r_63 q_63 => ?_)
      obtain rfl : r_63 = some (RA j) := q_63.trans (hU6.2.2.2.2.2.1 j (by omega)).1
      refine W.eq (g2 := F0 m 66 ls [.ref (RA j)]) rfl ?_
      refine r_cast X hW.1 (hU6.2.2.2.2.2.1 j (by omega)).2 (C := RX4) (T := TX4) (N := 6) rfl tw_299 dX6_call_66 ?_
      refine lv_astore_n (lv' := [(2, .ref (RA j)), (1, .int (nI j)), (0, .ref b6)]) X.1 X.2.1 dX6_call_69 rfl hl (by decide) rfl (fun ls hl => ?_)
      refine lv_aload_n X.1 X.2.1 dX6_call_70 rfl (lv_at hl 2 rfl) ?_
      refine r_get X hW.1 g_1 (v := .ref au) (C := RX6) (T := TX6) (N := 5) rfl tin_X6 1 (by decide) tw_149 (fun _ h => h) rfl dX6_call_71 ?_
      refine lv_aload_n X.1 X.2.1 dX6_call_74 rfl (lv_at hl 0 rfl) ?_
      refine lv_iload_n X.1 X.2.1 dX6_call_75 rfl (lv_at hl 1 rfl) ?_
      refine on_Wv (k' := 3) (n' := 40) (run_V (C := RX0) (As := [.ref (RA j), .int (nI j)]) (rest := []) X (c_X0_add l G A hp _ (fun q h => hA q (Nat.le_trans hW.2.2.1 h)) hW.2.1 au al p0 pw eA cA mA gA CA QA k cs sk hU9 (RA j) (R j) (hU6.2.2.2.2.2.1 j (by omega)).2 (fun j9 hj9 => hU6.2.2.2.2.2.2 j j9 (by omega) hj9) j (by omega)) (wp_blind _) (wp_at X hW.1 hW.2.2) (recv X hW.1 g_3 (C := RX0) (T := TX0) (N := 4) rfl) mf_X0_add tw_487 tw_488 tw_489 ⟨rfl, rfl, Nat.le_of_ble_eq_true rfl, Nat.le_of_ble_eq_true rfl⟩ hl.1 rfl rfl (Nat.le_of_ble_eq_true rfl) ⟨Nat.le_of_ble_eq_true rfl, Nat.le_of_ble_eq_true rfl⟩ dX6_call_76) hW (by omega) (by omega) (fun hp_8 H locs q_76 hW => ?_)
      obtain ⟨pw1, eA1, cA1, mA1, g1, CA1, QA1, hA1, hK1, hE1⟩ := q_76
      have g_9 : hp_8 (RA j) = some (.inr (5, [.int (nI (R j 0)), .int (nI (R j 1)), .int (nI (R j 2)), .int (nI (R j 3)), .int (nI (loP (R j))), .int (nI (hiP (R j)))])) := (hU6.af hU9 hK1 hDJ.1 hDJ.2.1).2.2.2.2.2.1 j (by omega) |>.2
      have g_10 : hp_8 b6 = some (.inr (7, [.ref rl, .ref au, .ref pa, .int (nI e0), .int (nI e1)])) := ob_af hb6 hU9 hK1
      have g_11 : hp_8 au = some (.inr (2, [.ref al, .ref p0, .ref pw1, .int (bI sk)])) := hA1.1
      have g_12 : hp_8 al = some (.inr (1, [.int mA1, .ref eA1, .int (nI (k + 1))])) := hA1.2.1
      refine lv_aload_n X.1 X.2.1 dX6_call_79 rfl (lv_at hl 0 rfl) ?_
      refine r_getN X hW.1 g_9 (v := .int (nI (R j 1))) (C := RX4) (T := TX4) (N := 6) rfl tin_X4 1 (by decide) tw_364 (fun _ h => h) rfl dX6_call_80 ?_
      exact wr_i X hr hlk hW ⟨by rw [show fCall (n, R, hd, k, cs, sk, pn, pt) = nI (R (tn (rlF n R (hd (k % 2)) (cs k 2) (cs k 4) (cs k 3))) 1) from (if_neg nov).trans (if_neg r6), hj, tn_n (by omega)], by rw [show gCallA (n, R, hd, k, cs, sk, pn, pt) = gCall (n, R, hd, k, cs, sk, pn, pt) (tn (rlF n R (hd (k % 2)) (cs k 2) (cs k 4) (cs k 3))) from (if_neg nov).trans (if_neg r6), hj, tn_n (by omega)]; exact cz_au hCC hA1 hK1 hE1⟩ (Nat.le_of_ble_eq_true rfl) (Nat.le_of_ble_eq_true rfl) dX6_call_83
    · have r6 := iru_6 hn (rlF_or n R (hd (k % 2)) (cs k 2) (cs k 4) (cs k 3)) c_44
      refine lv_aload_n X.1 X.2.1 dX6_call_47 rfl (lv_at hl 1 rfl) ?_
      refine r_get X hW.1 g_1 (v := .ref au) (C := RX6) (T := TX6) (N := 5) rfl tin_X6 1 (by decide) tw_149 (fun _ h => h) rfl dX6_call_48 ?_
      refine lv_iconst (v := 1) X.1 X.2.1 dX6_call_51 (by decide) ?_
      refine r_putN X hW g_3 (v := .int 1) (C := RX0) (T := TX0) (N := 4) rfl tin_X0 tyX0_ok nmX0 3 (Nat.le_of_ble_eq_true rfl) tw_107 (fun _ h => h) rfl (by decide) rfl (Nat.le_of_ble_eq_true rfl) dX6_call_52 (fun hp_13 H locs hW eh_14 => ?_)
      have f_15 : hp_13 au = some (.inr (2, [.ref al, .ref p0, .ref pw, .int 1])) := by rw [eh_14]; exact va_up_self _ _ _
      refine lv_bipush (v := (-6)) X.1 X.2.1 dX6_call_55 (by decide) ?_
      exact wr_i X hr hlk hW ⟨((if_neg nov).trans (if_pos r6)).symm, by rw [show gCallA (n, R, hd, k, cs, sk, pn, pt) = gStuck (n, R, hd, k, cs, sk, pn, pt) true from (if_neg nov).trans (if_pos r6)]; exact cz_au hCC (au_stk true hU9 f_15 (AFq.au AFq.rf eh_14) (LSq.upN hU9.ls eh_14 hau0 (by decide))) (AFq.au AFq.rf eh_14) (Or.inl ⟨rfl, rfl⟩)⟩ (Nat.le_of_ble_eq_true rfl) (Nat.le_of_ble_eq_true rfl) dX6_call_57
  · refine lv_bipush (v := (-5)) X.1 X.2.1 dX6_call_10 (by decide) ?_
    exact wr_i X hr hlk hW ⟨(if_pos (bI_1 c_7)).symm, by rw [show gCallA (n, R, hd, k, cs, sk, pn, pt) = (n, R, hd, k, cs, sk, pn, pt) from if_pos (bI_1 c_7)]; exact ⟨rl, au, pa, e0, e1, eR, cR, mR, gR, RA, al, p0, pw, eA, cA, mA, gA, CA, QA, vb, cv, ml, fb, hCC⟩⟩ (Nat.le_of_ble_eq_true rfl) (Nat.le_of_ble_eq_true rfl) dX6_call_12

theorem bk_0 {k : Nat} {sk : Bool} (h : (if k = 0 ∧ sk = false then (0 : Int32) else 1) = 0) : k = 0 ∧ sk = false := by
  by_cases c : k = 0 ∧ sk = false
  · exact c
  · rw [if_neg c] at h
    exact absurd h (by decide)
theorem bk_1 {k : Nat} {sk : Bool} (h : ¬ (if k = 0 ∧ sk = false then (0 : Int32) else 1) = 0) : ¬ (k = 0 ∧ sk = false) := fun c => h (if_pos c)
set_option maxHeartbeats 4000000 in
set_option maxRecDepth 100000 in
theorem c_X6_back (l : Launch) (G : HG) (A : Nat → Prop) (hp : HP) (sz : Nat) (hA : ∀ q, sz ≤ q → A q) (hO : Ow A hp) (b6 : Nat) (n : Nat) (R : Nat → Nat → Nat) (hd : Nat → Nat) (k : Nat) (cs : Nat → Nat → Int32) (sk : Bool) (pn : Nat) (pt : Nat → Nat) (hz : CZ G hp b6 (n, R, hd, k, cs, sk, pn, pt)) : Met l yX6_back [.code yX6_back cX6_back 1 (some .int)] { frames := 4, cells := 0, slots := 0, locals := 107 } (va_Pc [.ref b6] (WP G A sz hp)) (va_Qi (fun r hp1 => r = fBack (n, R, hd, k, cs, sk, pn, pt) ∧ CZ G hp1 b6 (gBack (n, R, hd, k, cs, sk, pn, pt))) (WB G A) A) 0 0 A := by
  refine wr_ofW (by decide) (Nat.le_of_ble_eq_true rfl) hO ?_
  intro p e s m args below meth c ls X hr hlk hnm hsz hW hl
  have hA : ∀ q, s.heap.size ≤ q → A q := fun q h => hA q (by omega)
  have hl : lv_has ls 1 [(0, .ref b6)] := hl
  obtain ⟨rl, au, pa, e0, e1, eR, cR, mR, gR, RA, al, p0, pw, eA, cA, mA, gA, CA, QA, vb, cv, ml, fb, hb6, hU6, hU9, hSB, hHD, hDJ, huq⟩ := hz
  have hCC : CC G hp b6 rl au pa e0 e1 eR cR mR gR RA al p0 pw eA cA mA gA CA QA vb cv ml fb (n, R, hd, k, cs, sk, pn, pt) := ⟨hb6, hU6, hU9, hSB, hHD, hDJ, huq⟩
  replace hb6 : hp b6 = some (obE rl au pa e0 e1) := hb6
  replace hU6 : RU G hp rl eR cR mR gR RA n R := hU6
  replace hU9 : AU G hp au al p0 pw eA cA mA gA CA QA k cs sk := hU9
  replace hSB : SBp G hp pa vb cv ml fb pn pt := hSB
  have hn : n ≤ 24 := hU6.2.2.1
  have hk : k ≤ 12 := hU9.2.2.2.1
  have hpn := hSB.2.2.1
  have hd0 : hd 0 = e0 := hHD.1.1
  have hd1 : hd 1 = e1 := hHD.1.2
  have hhd : ∀ i, i < 2 → hd i ≤ 1048575 ∧ strH (hd i) ≤ 20 := hHD.2
  have g_1 : hp b6 = some (.inr (7, [.ref rl, .ref au, .ref pa, .int (nI e0), .int (nI e1)])) := hb6
  have g_2 : hp rl = some (.inr (1, [.int mR, .ref eR, .int (nI n)])) := hU6.1
  have g_3 : hp au = some (.inr (2, [.ref al, .ref p0, .ref pw, .int (bI sk)])) := hU9.1
  have g_4 : hp al = some (.inr (1, [.int mA, .ref eA, .int (nI k)])) := hU9.2.1
  have g_5 : hp pw = some (.inr (4, [.int (cs k 2), .int (cs k 4), .int (cs k 3)])) := hU9.2.2.2.2.2.2.2.1
  have g_6 : hp pa = some (.inr (0, [.ref vb, .int 0, .int (bI ml), .int (nI pn)])) := hSB.1
  have g_7 : hp vb = some (.inl (G.2.1 0, cv, .inl fb)) := hSB.2.1
  have hau0 := g_3
  refine lv_aload_n X.1 X.2.1 dX6_back_0 rfl (lv_at hl 0 rfl) ?_
  refine r_get X hW.1 g_1 (v := .ref au) (C := RX6) (T := TX6) (N := 5) rfl tin_X6 1 (by decide) tw_149 (fun _ h => h) rfl dX6_back_1 ?_
  refine on_Wi (k' := 0) (n' := 0) (run_V (C := RX0) (As := []) (rest := []) X (c_X0_takeBack l G A hp _ (fun q h => hA q (Nat.le_trans hW.2.2.1 h)) hW.2.1 au al p0 pw eA cA mA gA CA QA k cs sk hU9) (wp_blind _) (wp_at X hW.1 hW.2.2) (recv X hW.1 g_3 (C := RX0) (T := TX0) (N := 4) rfl) mf_X0_takeBack tw_213 tw_214 tw_215 ⟨rfl, rfl, Nat.le_of_ble_eq_true rfl, Nat.le_of_ble_eq_true rfl⟩ hl.1 rfl rfl (Nat.le_of_ble_eq_true rfl) ⟨Nat.le_of_ble_eq_true rfl, Nat.le_of_ble_eq_true rfl⟩ dX6_back_4) hW (by omega) (by omega) (fun r_4 hp_8 H locs q_4 hW => ?_)
  obtain ⟨rfl, pw1, mA1, g1, hA1, hK1⟩ := q_4
  have g_9 : hp_8 b6 = some (.inr (7, [.ref rl, .ref au, .ref pa, .int (nI e0), .int (nI e1)])) := ob_af hb6 hU9 hK1
  have g_10 : hp_8 au = some (.inr (2, [.ref al, .ref p0, .ref pw1, .int (bI false)])) := hA1.1
  have g_11 : hp_8 al = some (.inr (1, [.int mA1, .ref eA, .int (nI (if sk = true then k else k - 1))])) := hA1.2.1
  refine lv_if_ne (tgt := 13) X.1 X.2.1 dX6_back_7 (by decide) (fun c_7 => ?_) (fun c_7 => ?_)
  · refine lv_aload_n X.1 X.2.1 dX6_back_13 rfl (lv_at hl 0 rfl) ?_
    refine r_get X hW.1 g_9 (v := .ref au) (C := RX6) (T := TX6) (N := 5) rfl tin_X6 1 (by decide) tw_149 (fun _ h => h) rfl dX6_back_14 ?_
    refine r_getN X hW.1 g_10 (v := .ref al) (C := RX0) (T := TX0) (N := 4) rfl tin_X0 0 (by decide) tw_102 (fun _ h => h) rfl dX6_back_17 ?_
    refine on_Si (run_V (C := RJx4a65c) (As := []) (rest := []) X (c_Jx4a65c_size_8abf5 l G hp_8 al eA (if sk = true then k else k - 1) mA1 g_11) (rp_blind _) (rp_at X hW.1 hW.2.2) (recv X hW.1 g_11 (C := RJx4a65c) (T := TJx4a65c) (N := 3) rfl) mf_Jx4a65c_size_8abf5 tw_247 tw_218 tw_219 ⟨rfl, rfl, Nat.le_of_ble_eq_true rfl, Nat.le_of_ble_eq_true rfl⟩ hl.1 rfl rfl (Nat.le_of_ble_eq_true rfl) ⟨Nat.le_of_ble_eq_true rfl, Nat.le_of_ble_eq_true rfl⟩ dX6_back_20) (fun r_20 q_20 => ?_)
    obtain rfl : r_20 = (nI (if sk = true then k else k - 1)) := q_20
    exact wr_i X hr hlk hW ⟨(if_neg (bk_1 c_7)).symm, by rw [show gBack (n, R, hd, k, cs, sk, pn, pt) = _ from if_neg (bk_1 c_7)]; exact cz_au hCC hA1 hK1 (Or.inl ⟨rfl, rfl⟩)⟩ (Nat.le_of_ble_eq_true rfl) (Nat.le_of_ble_eq_true rfl) dX6_back_23
  · refine lv_bipush (v := (-5)) X.1 X.2.1 dX6_back_10 (by decide) ?_
    exact wr_i X hr hlk hW ⟨(if_pos (bk_0 c_7)).symm, by rw [show gBack (n, R, hd, k, cs, sk, pn, pt) = (n, R, hd, k, cs, sk, pn, pt) from if_pos (bk_0 c_7)]; have z9 := cz_au hCC hA1 hK1 (Or.inl ⟨rfl, rfl⟩); rw [(bk_0 c_7).1, (bk_0 c_7).2] at z9 ⊢; exact z9⟩ (Nat.le_of_ble_eq_true rfl) (Nat.le_of_ble_eq_true rfl) dX6_back_12

theorem CC.le {G : HG} {hp hp1 : HP} {b6 rl au pa e0 e1 eR cR : Nat} {mR : Int32} {gR : Nat → Option Nat} {RA : Nat → Nat} {al p0 pw eA cA : Nat} {mA : Int32} {gA : Nat → Option Nat} {CA QA : Nat → Nat} {vb cv : Nat} {ml : Bool} {fb : Nat → Int32} {z : ST} (h : CC G hp b6 rl au pa e0 e1 eR cR mR gR RA al p0 pw eA cA mA gA CA QA vb cv ml fb z) (hl : ∀ q e, hp q = some e → hp1 q = some e) : CC G hp1 b6 rl au pa e0 e1 eR cR mR gR RA al p0 pw eA cA mA gA CA QA vb cv ml fb z := by
  obtain ⟨h1, h2, h3, h4, h5⟩ := h
  refine ⟨hl _ _ h1, h2.fr (fun e => hl _ e) (fun _ e => hl _ e) (fun _ _ e => hl _ e), ⟨hl _ _ h3.1, hl _ _ h3.2.1, ⟨fun z => hl _ _ (h3.2.2.1.1 z), h3.2.2.1.2⟩, h3.2.2.2.1, h3.2.2.2.2.1, h3.2.2.2.2.2.1, fun i hi => ?_, hl _ _ h3.2.2.2.2.2.2.2.1, hl _ _ h3.2.2.2.2.2.2.2.2⟩, h4.fr (fun e => hl _ e) (fun e => hl _ e), h5⟩
  obtain ⟨k1, k2, k3⟩ := h3.2.2.2.2.2.2.1 i hi
  exact ⟨k1, hl _ _ k2, hl _ _ k3⟩
