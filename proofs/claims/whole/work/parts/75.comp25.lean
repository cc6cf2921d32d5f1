/-! wipe, put -/
theorem SBp.cg {G : HG} {hp : HP} {pa vb cv : Nat} {ml : Bool} {fb : Nat → Int32} {pn : Nat} {pt pt2 : Nat → Nat} (h : SBp G hp pa vb cv ml fb pn pt) (e : ∀ i, i < pn → pt i = pt2 i) : SBp G hp pa vb cv ml fb pn pt2 := ⟨h.1, h.2.1, h.2.2.1, h.2.2.2.1, h.2.2.2.2.1, h.2.2.2.2.2.1, h.2.2.2.2.2.2.1, fun i hi => by rw [← e i hi]; exact h.2.2.2.2.2.2.2.1 i hi, fun i hi => by rw [← e i hi]; exact h.2.2.2.2.2.2.2.2 i hi⟩
theorem cz_sb {G : HG} {hp hp1 : HP} {b6 rl au pa e0 e1 eR cR : Nat} {mR : Int32} {gR : Nat → Option Nat} {RA : Nat → Nat} {al p0 pw eA cA : Nat} {mA : Int32} {gA : Nat → Option Nat} {CA QA : Nat → Nat} {vb cv : Nat} {ml : Bool} {fb : Nat → Int32} {n : Nat} {R : Nat → Nat → Nat} {hd : Nat → Nat} {k : Nat} {cs : Nat → Nat → Int32} {sk : Bool} {pn : Nat} {pt : Nat → Nat} {vb1 cv1 : Nat} {ml1 : Bool} {fb1 : Nat → Int32} {pn1 : Nat} {pt1 : Nat → Nat} (h : CC G hp b6 rl au pa e0 e1 eR cR mR gR RA al p0 pw eA cA mA gA CA QA vb cv ml fb (n, R, hd, k, cs, sk, pn, pt)) (hS : SBp G hp1 pa vb1 cv1 ml1 fb1 pn1 pt1) (hF : SFq hp hp1 pa vb) : CC G hp1 b6 rl au pa e0 e1 eR cR mR gR RA al p0 pw eA cA mA gA CA QA vb1 cv1 ml1 fb1 (n, R, hd, k, cs, sk, pn1, pt1) := by
  obtain ⟨hb6, hU6, hU9, hSB, hHD, hDJ, huq⟩ := h
  have kp : ∀ q e, hp q = some e → (∀ v, e ≠ .inr (0, v)) → (∀ c f, e ≠ arB G c f) → hp1 q = some e := fun q e h0 h1 h2 => hF q e h0 (ne_look h0 hSB.1 (h1 _)) (ne_look h0 hSB.2.1 (h2 _ _))
  refine ⟨kp _ _ hb6 (by simp [obE]) (by simp [obE, arB]), ⟨kp _ _ hU6.1 (by simp [alE]) (by simp [alE, arB]), ⟨fun z => kp _ _ (hU6.2.1.1 z) (by simp) (by simp [arB]), hU6.2.1.2⟩, hU6.2.2.1, hU6.2.2.2.1, hU6.2.2.2.2.1, fun i hi => ⟨(hU6.2.2.2.2.2.1 i hi).1, kp _ _ (hU6.2.2.2.2.2.1 i hi).2 (by simp [rcE]) (by simp [rcE, arB])⟩, hU6.2.2.2.2.2.2⟩, ⟨kp _ _ hU9.1 (by simp [auE]) (by simp [auE, arB]), kp _ _ hU9.2.1 (by simp [alE]) (by simp [alE, arB]), ⟨fun z => kp _ _ (hU9.2.2.1.1 z) (by simp) (by simp [arB]), hU9.2.2.1.2⟩, hU9.2.2.2.1, hU9.2.2.2.2.1, hU9.2.2.2.2.2.1, fun i hi => ?_, kp _ _ hU9.2.2.2.2.2.2.2.1 (by simp [poE]) (by simp [poE, arB]), kp _ _ hU9.2.2.2.2.2.2.2.2 (by simp [poE]) (by simp [poE, arB])⟩, hS, hHD, hDJ, huq⟩
  obtain ⟨h1, h2, h3⟩ := hU9.2.2.2.2.2.2.1 i hi
  exact ⟨h1, kp _ _ h2 (by simp [mcE]) (by simp [mcE, arB]), kp _ _ h3 (by simp [poE]) (by simp [poE, arB])⟩
set_option maxHeartbeats 4000000 in
set_option maxRecDepth 100000 in
theorem c_X6_wipe (l : Launch) (G : HG) (A : Nat → Prop) (hp : HP) (sz : Nat) (hA : ∀ q, sz ≤ q → A q) (hO : Ow A hp) (b6 : Nat) (n : Nat) (R : Nat → Nat → Nat) (hd : Nat → Nat) (k : Nat) (cs : Nat → Nat → Int32) (sk : Bool) (pn : Nat) (pt : Nat → Nat) (hz : CZ G hp b6 (n, R, hd, k, cs, sk, pn, pt)) : Met l yX6_wipe [.code yX6_wipe cX6_wipe 2 (some .int)] { frames := 6, cells := 1, slots := 130, locals := 126 } (va_Pc [.ref b6] (WP G A sz hp)) (va_Qi (fun r hp1 => r = nI pn ∧ CZ G hp1 b6 (gPad (n, R, hd, k, cs, sk, pn, pt) 0 pt)) (WB G A) A) 1 130 A := by
  refine wr_ofW (by decide) (Nat.le_of_ble_eq_true rfl) hO ?_
  intro p e s m args below meth c ls X hr hlk hnm hsz hW hl
  have hA : ∀ q, s.heap.size ≤ q → A q := fun q h => hA q (by omega)
  have hl : lv_has ls 2 [(0, .ref b6)] := hl
  obtain ⟨rl, au, pa, e0, e1, eR, cR, mR, gR, RA, al, p0, pw, eA, cA, mA, gA, CA, QA, vb, cv, ml, fb, hb6, hU6, hU9, hSB, hHD, hDJ, huq⟩ := hz
  have hCC : CC G hp b6 rl au pa e0 e1 eR cR mR gR RA al p0 pw eA cA mA gA CA QA vb cv ml fb (n, R, hd, k, cs, sk, pn, pt) := ⟨hb6, hU6, hU9, hSB, hHD, hDJ, huq⟩
  replace hb6 : hp b6 = some (obE rl au pa e0 e1) := hb6
  replace hU6 : RU G hp rl eR cR mR gR RA n R := hU6
  replace hU9 : AU G hp au al p0 pw eA cA mA gA CA QA k cs sk := hU9
  replace hSB : SBp G hp pa vb cv ml fb pn pt := hSB
  have hn : n ≤ 24 := hU6.2.2.1
  have hk : k ≤ 12 := hU9.2.2.2.1
  have hpn := hSB.2.2.1
  have hd0 : hd 0 = e0 := hHD.1.1
  have hd1 : hd 1 = e1 := hHD.1.2
  have hhd : ∀ i, i < 2 → hd i ≤ 1048575 ∧ strH (hd i) ≤ 20 := hHD.2
  have g_1 : hp b6 = some (.inr (7, [.ref rl, .ref au, .ref pa, .int (nI e0), .int (nI e1)])) := hb6
  have g_2 : hp rl = some (.inr (1, [.int mR, .ref eR, .int (nI n)])) := hU6.1
  have g_3 : hp au = some (.inr (2, [.ref al, .ref p0, .ref pw, .int (bI sk)])) := hU9.1
  have g_4 : hp al = some (.inr (1, [.int mA, .ref eA, .int (nI k)])) := hU9.2.1
  have g_5 : hp pw = some (.inr (4, [.int (cs k 2), .int (cs k 4), .int (cs k 3)])) := hU9.2.2.2.2.2.2.2.1
  have g_6 : hp pa = some (.inr (0, [.ref vb, .int 0, .int (bI ml), .int (nI pn)])) := hSB.1
  have g_7 : hp vb = some (.inl (G.2.1 0, cv, .inl fb)) := hSB.2.1
  have hau0 := g_3
  refine lv_aload_n X.1 X.2.1 dX6_wipe_0 rfl (lv_at hl 0 rfl) ?_
  refine r_get X hW.1 g_1 (v := .ref pa) (C := RX6) (T := TX6) (N := 5) rfl tin_X6 2 (by decide) tw_194 (fun _ h => h) rfl dX6_wipe_1 ?_
  refine on_Si (run_V (C := RJ4) (As := []) (rest := []) X (c_J4_length_8abf5 l G hp pa vb cv ml fb pn pt hSB) (rp_blind _) (rp_at X hW.1 hW.2.2) (recv X hW.1 g_6 (C := RJ4) (T := TJ4) (N := 4) rfl) mf_J4_length_8abf5 tw_547 tw_548 tw_549 ⟨rfl, rfl, Nat.le_of_ble_eq_true rfl, Nat.le_of_ble_eq_true rfl⟩ hl.1 rfl rfl (Nat.le_of_ble_eq_true rfl) ⟨Nat.le_of_ble_eq_true rfl, Nat.le_of_ble_eq_true rfl⟩ dX6_wipe_4) (fun r_4 q_4 => ?_)
  obtain rfl : r_4 = (nI pn) := q_4
  refine lv_istore_n (lv' := [(1, .int (nI pn)), (0, .ref b6)]) X.1 X.2.1 dX6_wipe_7 rfl hl (by decide) rfl (fun ls hl => ?_)
  refine lv_aload_n X.1 X.2.1 dX6_wipe_8 rfl (lv_at hl 1 rfl) ?_
  refine r_get X hW.1 g_1 (v := .ref pa) (C := RX6) (T := TX6) (N := 5) rfl tin_X6 2 (by decide) tw_194 (fun _ h => h) rfl dX6_wipe_9 ?_
  refine lv_iconst (v := 0) X.1 X.2.1 dX6_wipe_12 (by decide) ?_
  refine on_Wv (k' := 1) (n' := 130) (run_V (C := RJ4) (As := [.int 0]) (rest := []) X (c_J4_setLength_d00df l G A hp _ (fun q h => hA q (Nat.le_trans hW.2.2.1 h)) hW.2.1 pa vb cv ml fb pn pt hSB) (wp_blind _) (wp_at X hW.1 hW.2.2) (recv X hW.1 g_6 (C := RJ4) (T := TJ4) (N := 4) rfl) mf_J4_setLength_d00df tw_726 tw_727 tw_728 ⟨rfl, rfl, Nat.le_of_ble_eq_true rfl, Nat.le_of_ble_eq_true rfl⟩ hl.1 rfl rfl (Nat.le_of_ble_eq_true rfl) ⟨Nat.le_of_ble_eq_true rfl, Nat.le_of_ble_eq_true rfl⟩ dX6_wipe_13) hW (by omega) (by omega) (fun hp_8 H locs q_13 hW => ?_)
  obtain ⟨vb1, cv1, ml1, fb1, hS1, hF1, hv1⟩ := q_13
  refine lv_iload_n X.1 X.2.1 dX6_wipe_16 rfl (lv_at hl 0 rfl) ?_
  exact wr_i X hr hlk hW ⟨rfl, rl, au, pa, e0, e1, eR, cR, mR, gR, RA, al, p0, pw, eA, cA, mA, gA, CA, QA, vb1, cv1, ml1, fb1, cz_sb hCC hS1 hF1⟩ (Nat.le_of_ble_eq_true rfl) (Nat.le_of_ble_eq_true rfl) dX6_wipe_17

theorem pc_all {C i : Nat} {P : Nat → Prop} (h : ∀ j, j < i → P (C / 256 ^ j % 256)) (hi : P (C / 256 ^ i % 256)) : ∀ j, j < i + 1 → P (C / 256 ^ j % 256) := fun j hj => by
  by_cases c : j = i
  · rw [c]; exact hi
  · exact h j (by omega)
theorem i32_sub0 {d : Nat} (hd : d < 2 ^ 30) : (nI d - 1 : Int32) < 0 ↔ d = 0 := by
  have := dn_lt (y := d) (b := 0) hd (by decide)
  rw [show (nI 0 : Int32) = 0 from rfl] at this
  rw [this]
  omega
theorem pt_put {pn C i d : Nat} {pt : Nat → Nat} (j : Nat) (hd : 1 ≤ d ∧ d ≤ i) (hj : j < pn + (i - d) + 1) : (if j = pn + (i - d) then C / 256 ^ (d - 1) % 256 else if j < pn then pt j else chN C i (j - pn)) = if j < pn then pt j else chN C i (j - pn) := by
  by_cases c : j = pn + (i - d)
  · rw [if_pos c, if_neg (by omega)]
    unfold chN
    rw [show i - 1 - (j - pn) = d - 1 by omega]
  · rw [if_neg c]
theorem hv_tr {hp h1 : HP} {pa vb vb2 vb3 : Nat} {e0 : va_E} (h0 : h1 pa = some e0) (h : SFq hp h1 pa vb) (h2 : vb2 = vb ∨ hp vb2 = none) (h3 : vb3 = vb2 ∨ h1 vb3 = none) : vb3 = vb ∨ hp vb3 = none := by
  rcases h3 with rfl | h3
  · exact h2
  · by_cases c : vb3 = vb
    · exact Or.inl c
    · cases q : hp vb3 with
      | none => exact Or.inr rfl
      | some e =>
        have : h1 vb3 = some e := h _ _ q (fun z => by rw [z, h0] at h3; cases h3) c
        rw [this] at h3
        cases h3
set_option maxHeartbeats 4000000 in
set_option maxRecDepth 100000 in
theorem c_X6_put (l : Launch) (G : HG) (A : Nat → Prop) (hp : HP) (sz : Nat) (hA : ∀ q, sz ≤ q → A q) (hO : Ow A hp) (b6 : Nat) (n : Nat) (R : Nat → Nat → Nat) (hd : Nat → Nat) (k : Nat) (cs : Nat → Nat → Int32) (sk : Bool) (pn : Nat) (pt : Nat → Nat) (hz : CZ G hp b6 (n, R, hd, k, cs, sk, pn, pt)) (C : Nat) (hC : C < 2 ^ 64) : Met l yX6_put [.code yX6_put cX6_put 7 (some .int)] { frames := 6, cells := 8, slots := 1040, locals := 126 } (va_Pc [.ref b6, .long (lN C)] (WP G A sz hp)) (va_Qi (fun r hp1 => r = fPut (n, R, hd, k, cs, sk, pn, pt) C ∧ CZ G hp1 b6 (gPut (n, R, hd, k, cs, sk, pn, pt) C)) (WB G A) A) 8 1040 A := by
  refine wr_ofW (by decide) (Nat.le_of_ble_eq_true rfl) hO ?_
  intro p e s m args below meth c ls X hr hlk hnm hsz hW hl
  have hA : ∀ q, s.heap.size ≤ q → A q := fun q h => hA q (by omega)
  have hl : lv_has ls 7 [(0, .ref b6), (1, .long (lN C))] := hl
  obtain ⟨rl, au, pa, e0, e1, eR, cR, mR, gR, RA, al, p0, pw, eA, cA, mA, gA, CA, QA, vb, cv, ml, fb, hb6, hU6, hU9, hSB, hHD, hDJ, huq⟩ := hz
  have hCC : CC G hp b6 rl au pa e0 e1 eR cR mR gR RA al p0 pw eA cA mA gA CA QA vb cv ml fb (n, R, hd, k, cs, sk, pn, pt) := ⟨hb6, hU6, hU9, hSB, hHD, hDJ, huq⟩
  replace hb6 : hp b6 = some (obE rl au pa e0 e1) := hb6
  replace hU6 : RU G hp rl eR cR mR gR RA n R := hU6
  replace hU9 : AU G hp au al p0 pw eA cA mA gA CA QA k cs sk := hU9
  replace hSB : SBp G hp pa vb cv ml fb pn pt := hSB
  have hn : n ≤ 24 := hU6.2.2.1
  have hk : k ≤ 12 := hU9.2.2.2.1
  have hpn := hSB.2.2.1
  have hd0 : hd 0 = e0 := hHD.1.1
  have hd1 : hd 1 = e1 := hHD.1.2
  have hhd : ∀ i, i < 2 → hd i ≤ 1048575 ∧ strH (hd i) ≤ 20 := hHD.2
  have g_1 : hp b6 = some (.inr (7, [.ref rl, .ref au, .ref pa, .int (nI e0), .int (nI e1)])) := hb6
  have g_2 : hp rl = some (.inr (1, [.int mR, .ref eR, .int (nI n)])) := hU6.1
  have g_3 : hp au = some (.inr (2, [.ref al, .ref p0, .ref pw, .int (bI sk)])) := hU9.1
  have g_4 : hp al = some (.inr (1, [.int mA, .ref eA, .int (nI k)])) := hU9.2.1
  have g_5 : hp pw = some (.inr (4, [.int (cs k 2), .int (cs k 4), .int (cs k 3)])) := hU9.2.2.2.2.2.2.2.1
  have g_6 : hp pa = some (.inr (0, [.ref vb, .int 0, .int (bI ml), .int (nI pn)])) := hSB.1
  have g_7 : hp vb = some (.inl (G.2.1 0, cv, .inl fb)) := hSB.2.1
  have hau0 := g_3
  refine lv_iconst (v := 0) X.1 X.2.1 dX6_put_0 (by decide) ?_
  refine lv_istore_n (lv' := [(3, .int 0), (0, .ref b6), (1, .long (lN C))]) X.1 X.2.1 dX6_put_1 rfl hl (by decide) rfl (fun ls hl => ?_)
  refine lv_lload_n X.1 X.2.1 dX6_put_2 rfl (lv_at hl 2 rfl) ?_
  refine lv_lstore (lv' := [(4, .long (lN C)), (3, .int 0), (0, .ref b6), (1, .long (lN C))]) X.1 X.2.1 dX6_put_3 hl (by decide) rfl (fun ls hl => ?_)
  have L5 : ∀ (f : Nat) (i : Nat) (y : Nat), i + f = 8 → y = C / 256 ^ i → pcF 8 C = (pcF f y).map (· + i) → (∀ j, j < i → 33 ≤ C / 256 ^ j % 256 ∧ C / 256 ^ j % 256 ≤ 126) → ∀ ls, lv_has ls 7 [(0, .ref b6), (1, .long (lN C)), (3, .int (nI i)), (4, .long (lN y))] → W p l e ({ frames := 6, cells := 8, slots := 1040, locals := 126 } : Room) s m args below meth c s.heap [] 0 0 (MQ below (va_Qi (fun r hp1 => r = fPut (n, R, hd, k, cs, sk, pn, pt) C ∧ CZ G hp1 b6 (gPut (n, R, hd, k, cs, sk, pn, pt) C)) (WB G A) A) args s 8 1040 A) (F0 m 5 ls []) := by
    intro f
    induction f with
    | zero =>
      intro i y h0 h1 h2 h3 ls hl
      have h8 : i = 8 := by omega
      have y0 : y = 0 := by rw [h1, h8]; exact Nat.div_eq_of_lt hC
      refine lv_iload_n X.1 X.2.1 dX6_put_5 rfl (lv_at hl 2 rfl) ?_
      refine lv_bipush (v := 8) X.1 X.2.1 dX6_put_6 (by decide) ?_
      refine lv_icmp_ge (tgt := 47) X.1 X.2.1 dX6_put_8 (by decide) (fun c_8 => ?_) (fun c_8 => absurd (nI_le (a := 8) (b := i) (by omega) (by omega)) c_8)
      refine lv_iload_n X.1 X.2.1 dX6_put_47 rfl (lv_at hl 2 rfl) ?_
      refine lv_if_ne (tgt := 54) X.1 X.2.1 dX6_put_48 (by decide) (fun c_48 => ?_) (fun c_48 => ?_)
      · have k_48 := k_ne (a := i) (b := 0) (by omega) (by omega) c_48
        refine lv_aload_n X.1 X.2.1 dX6_put_54 rfl (lv_at hl 0 rfl) ?_
        refine r_get X hW.1 g_1 (v := .ref pa) (C := RX6) (T := TX6) (N := 5) rfl tin_X6 2 (by decide) tw_194 (fun _ h => h) rfl dX6_put_55 ?_
        refine on_Si (run_V (C := RJ4) (As := []) (rest := []) X (c_J4_length_8abf5 l G hp pa vb cv ml fb pn pt hSB) (rp_blind _) (rp_at X hW.1 hW.2.2) (recv X hW.1 g_6 (C := RJ4) (T := TJ4) (N := 4) rfl) mf_J4_length_8abf5 tw_547 tw_548 tw_549 ⟨rfl, rfl, Nat.le_of_ble_eq_true rfl, Nat.le_of_ble_eq_true rfl⟩ hl.1 rfl rfl (Nat.le_of_ble_eq_true rfl) ⟨Nat.le_of_ble_eq_true rfl, Nat.le_of_ble_eq_true rfl⟩ dX6_put_58) (fun r_58 q_58 => ?_)
        obtain rfl : r_58 = (nI pn) := q_58
        refine lv_iload_n X.1 X.2.1 dX6_put_61 rfl (lv_at hl 2 rfl) ?_
        refine lv_iadd X.1 X.2.1 dX6_put_62 ?_
        refine r_eqi (show (((nI pn) + (nI i)) : Int32) = nI (pn + i) from nI_add pn i) ?_
        refine lv_bipush (v := 60) X.1 X.2.1 dX6_put_63 (by decide) ?_
        refine lv_icmp_le (tgt := 71) X.1 X.2.1 dX6_put_65 (by decide) (fun c_65 => ?_) (fun c_65 => ?_)
        · have k_65 := k_le (a := (pn + i)) (b := 60) (by omega) (by omega) c_65
          refine lv_iload_n X.1 X.2.1 dX6_put_71 rfl (lv_at hl 2 rfl) ?_
          refine lv_iconst (v := 1) X.1 X.2.1 dX6_put_72 (by decide) ?_
          refine lv_isub X.1 X.2.1 dX6_put_73 ?_
          refine lv_istore (lv' := [(6, .int ((nI i) - 1)), (0, .ref b6), (1, .long (lN C)), (3, .int (nI i)), (4, .long (lN y))]) X.1 X.2.1 dX6_put_74 hl (by decide) rfl (fun ls hl => ?_)
          have L762 : ∀ (f2 : Nat) (d : Nat) (hpL : HP) (H : Heap) (locs : List Loc) (vb2 : Nat) (cv2 : Nat) (fb2 : Nat → Int32), (SBp G hpL pa vb2 cv2 ml fb2 (pn + (i - d)) (fun j9 => if j9 < pn then pt j9 else chN C i (j9 - pn))) → (SFq hp hpL pa vb) → (vb2 = vb ∨ hp vb2 = none) → WS s G A hpL H locs → (d = f2) → (d ≤ i) → ∀ ls, lv_has ls 7 [(0, .ref b6), (1, .long (lN C)), (3, .int (nI i)), (6, .int (nI d - 1))] → W p l e ({ frames := 6, cells := 8, slots := 1040, locals := 126 } : Room) s m args below meth c H locs (8 - d) (130 * (8 - d)) (MQ below (va_Qi (fun r hp1 => r = fPut (n, R, hd, k, cs, sk, pn, pt) C ∧ CZ G hp1 b6 (gPut (n, R, hd, k, cs, sk, pn, pt) C)) (WB G A) A) args s 8 1040 A) (F0 m 76 ls []) := by
            intro f2
            induction f2 with
            | zero =>
              intro d hpL H locs vb2 cv2 fb2 hS2 hF2 hv2 hW h20 h21 ls hl
              have g_8 : hpL b6 = some (.inr (7, [.ref rl, .ref au, .ref pa, .int (nI e0), .int (nI e1)])) := hF2 _ _ hb6 (ne_look hb6 hSB.1 (by simp [obE])) (ne_look hb6 hSB.2.1 (by simp [obE]))
              have g_9 : hpL pa = some (.inr (0, [.ref vb2, .int 0, .int (bI ml), .int (nI (pn + (i - d)))])) := hS2.1
              have hcz := hS2.2.2.2.2.2.1
              refine lv_iload X.1 X.2.1 dX6_put_76 (lv_at hl 3 rfl) ?_
              refine lv_if_lt (tgt := 108) X.1 X.2.1 dX6_put_78 (by decide) (fun c_78 => ?_) (fun c_78 => absurd ((i32_sub0 (by omega)).mpr (by omega)) c_78)
              refine lv_aload_n X.1 X.2.1 dX6_put_108 rfl (lv_at hl 0 rfl) ?_
              refine r_get X hW.1 g_8 (v := .ref pa) (C := RX6) (T := TX6) (N := 5) rfl tin_X6 2 (by decide) tw_194 (fun _ h => h) rfl dX6_put_109 ?_
              refine on_Si (run_V (C := RJ4) (As := []) (rest := []) X (c_J4_length_8abf5 l G hpL pa vb2 cv2 ml fb2 (pn + (i - d)) (fun j9 => if j9 < pn then pt j9 else chN C i (j9 - pn)) hS2) (rp_blind _) (rp_at X hW.1 hW.2.2) (recv X hW.1 g_9 (C := RJ4) (T := TJ4) (N := 4) rfl) mf_J4_length_8abf5 tw_547 tw_548 tw_549 ⟨rfl, rfl, Nat.le_of_ble_eq_true rfl, Nat.le_of_ble_eq_true rfl⟩ hl.1 rfl rfl (Nat.le_of_ble_eq_true rfl) ⟨(by show _ ≤ 8; omega), (by show _ ≤ 1040; omega)⟩ dX6_put_112) (fun r_112 q_112 => ?_)
              obtain rfl : r_112 = (nI (pn + (i - d))) := q_112
              obtain ⟨hf, hg⟩ := pu_ok (z := (n, R, hd, k, cs, sk, pn, pt)) (pc_end h2 y0) k_48 (show ¬ 60 < pn + i by omega)
              exact wr_i X hr hlk hW ⟨by rw [← hf]; exact congrArg nI (by rw [show d = 0 by omega, Nat.sub_zero]), by rw [hg]; exact ⟨rl, au, pa, e0, e1, eR, cR, mR, gR, RA, al, p0, pw, eA, cA, mA, gA, CA, QA, vb2, cv2, ml, fb2, by have z9 := cz_sb hCC hS2 hF2; rw [show pn + (i - d) = pn + i by omega] at z9; exact z9⟩⟩ (by omega) (by omega) dX6_put_115
            | succ f2 ih2 =>
              intro d hpL H locs vb2 cv2 fb2 hS2 hF2 hv2 hW h20 h21 ls hl
              have hd1 : 1 ≤ d := by omega
              have g_10 : hpL b6 = some (.inr (7, [.ref rl, .ref au, .ref pa, .int (nI e0), .int (nI e1)])) := hF2 _ _ hb6 (ne_look hb6 hSB.1 (by simp [obE])) (ne_look hb6 hSB.2.1 (by simp [obE]))
              have g_11 : hpL pa = some (.inr (0, [.ref vb2, .int 0, .int (bI ml), .int (nI (pn + (i - d)))])) := hS2.1
              have hcz := hS2.2.2.2.2.2.1
              refine lv_iload X.1 X.2.1 dX6_put_76 (lv_at hl 3 rfl) ?_
              refine lv_if_lt (tgt := 108) X.1 X.2.1 dX6_put_78 (by decide) (fun c_78 => absurd c_78 (fun q9 => absurd ((i32_sub0 (by omega)).mp q9) (by omega))) (fun c_78 => ?_)
              refine lv_aload_n X.1 X.2.1 dX6_put_81 rfl (lv_at hl 0 rfl) ?_
              refine r_get X hW.1 g_10 (v := .ref pa) (C := RX6) (T := TX6) (N := 5) rfl tin_X6 2 (by decide) tw_194 (fun _ h => h) rfl dX6_put_82 ?_
              refine lv_lload_n X.1 X.2.1 dX6_put_85 rfl (lv_at hl 1 rfl) ?_
              refine lv_bipush (v := 8) X.1 X.2.1 dX6_put_86 (by decide) ?_
              refine lv_iload X.1 X.2.1 dX6_put_88 (lv_at hl 3 rfl) ?_
              refine r_eqi (dn_sub (show 1 ≤ d by omega)) ?_
              refine lv_imul X.1 X.2.1 dX6_put_90 ?_
              refine r_eqi (show (((8 : Int32) * (nI (d - 1))) : Int32) = nI (8 * (d - 1)) from pk_mul 8 (d - 1)) ?_
              refine lv_lushr X.1 X.2.1 dX6_put_91 rfl ?_
              refine r_eql (show ((((lN C).toUInt64 >>> ((Int32.toInt64 (nI (8 * (d - 1)))).toUInt64 &&& Int64.toUInt64 63)).toInt64) : Int64) = lN (C / 2 ^ (8 * (d - 1))) from l_ushrN hC _ _ (lus_l _ (by omega))) ?_
              refine r_const2 X tw_640 dX6_put_92 ?_
              refine lv_land X.1 X.2.1 dX6_put_95 ?_
              refine r_eql (show (((lN (C / 2 ^ (8 * (d - 1)))) &&& 255) : Int64) = lN ((C / 2 ^ (8 * (d - 1))) % 256) from lN_and255 (C / 2 ^ (8 * (d - 1)))) ?_
              refine lv_l2i X.1 X.2.1 dX6_put_96 rfl ?_
              refine r_eqi (show (((lN ((C / 2 ^ (8 * (d - 1))) % 256)).toInt32) : Int32) = nI ((C / 2 ^ (8 * (d - 1))) % 256) from lN_i _) ?_
              refine lv_i2c X.1 X.2.1 dX6_put_97 rfl ?_
              refine r_eqi (show (((nI ((C / 2 ^ (8 * (d - 1))) % 256)).toUInt32 % 65536).toInt32 : Int32) = nI (C / 256 ^ (d - 1) % 256) from by rw [show C / 2 ^ (8 * (d - 1)) = C / 256 ^ (d - 1) by rw [Nat.pow_mul]]; exact (ch_ok _ (by have := h3 (d - 1) (by omega); omega)).2.1) ?_
              refine on_Wq (k' := (8 - d + 1)) (n' := (130 * (8 - d) + 130)) (run_V (C := RJ4) (As := [.int (nI (C / 256 ^ (d - 1) % 256))]) (rest := []) X (c_J4_append_cf468 l G A hpL _ (fun q h => hA q (Nat.le_trans hW.2.2.1 h)) hW.2.1 pa vb2 cv2 ml fb2 (pn + (i - d)) (fun j9 => if j9 < pn then pt j9 else chN C i (j9 - pn)) hS2 (C / 256 ^ (d - 1) % 256) (h3 (d - 1) (by omega)) (by omega)) (wp_blind _) (wp_at X hW.1 hW.2.2) (recv X hW.1 g_11 (C := RJ4) (T := TJ4) (N := 4) rfl) mf_J4_append_cf468 tw_644 tw_645 tw_646 ⟨rfl, rfl, Nat.le_of_ble_eq_true rfl, Nat.le_of_ble_eq_true rfl⟩ hl.1 rfl rfl (Nat.le_of_ble_eq_true rfl) ⟨(by show _ ≤ 8; omega), (by show _ ≤ 1040; omega)⟩ dX6_put_98) hW (by omega) (by omega) (fun r_98 hp_12 H locs q_98 hW => ?_)
              obtain ⟨rfl, vb3, cv3, fb3, hS3, hF3, hv3⟩ := q_98
              refine W.eq (g2 := F0 m 101 ls [.ref pa]) rfl ?_
              refine lv_pop X.1 X.2.1 dX6_put_101 rfl ?_
              obtain ⟨v_102, e_102⟩ : ∃ y9 : Int32, y9 = (nI d - 1) + (-1) := ⟨_, rfl⟩
              refine lv_iinc (v := v_102) (lv' := [(6, .int v_102), (0, .ref b6), (1, .long (lN C)), (3, .int (nI i))]) X.1 X.2.1 dX6_put_102 hl (k := 3) rfl (by rw [e_102]; rfl) (by decide) rfl (fun ls hl => ?_)
              refine lv_goto (tgt := 76) X.1 X.2.1 dX6_put_105 (by decide) ?_
              exact W.widen (by omega) (by omega) (ih2 (d - 1) _ _ _ _ _ _ (by rw [show pn + (i - (d - 1)) = pn + (i - d) + 1 by omega]; exact hS3.cg (fun j9 hj9 => pt_put j9 (by omega) (by omega))) (SFq.tr hF2 hF3 hv2) (hv_tr hS2.1 hF2 hv2 hv3) hW (by omega) (by omega) ls (by rw [dn_dec (show 1 ≤ d by omega), ← e_102]; exact (lv_sub hl [1, 2, 3, 0] rfl)))
          exact W.widen (by omega) (by omega) (L762 i i _ _ _ vb cv fb (by rw [Nat.sub_self, Nat.add_zero]; exact hSB.cg (fun j9 hj9 => (if_pos hj9).symm)) SFq.rf (Or.inl rfl) hW rfl (Nat.le_refl _) ls (lv_sub hl [1, 2, 3, 0] rfl))
        · have k_65 := k_nle (a := (pn + i)) (b := 60) (by omega) (by omega) c_65
          refine lv_bipush (v := (-4)) X.1 X.2.1 dX6_put_68 (by decide) ?_
          obtain ⟨hf, hg⟩ := pu_full (z := (n, R, hd, k, cs, sk, pn, pt)) (pc_end h2 y0) k_48 (show 60 < pn + i by omega)
          exact wr_i X hr hlk hW ⟨hf, by rw [hg]; exact ⟨rl, au, pa, e0, e1, eR, cR, mR, gR, RA, al, p0, pw, eA, cA, mA, gA, CA, QA, vb, cv, ml, fb, hCC⟩⟩ (Nat.le_of_ble_eq_true rfl) (Nat.le_of_ble_eq_true rfl) dX6_put_70
      · have k_48 := k_eq (a := i) (b := 0) (by omega) (by omega) c_48
        refine lv_bipush (v := (-2)) X.1 X.2.1 dX6_put_51 (by decide) ?_
        obtain ⟨hf, hg⟩ := pu_0 (z := (n, R, hd, k, cs, sk, pn, pt)) (by rw [pc_end h2 y0, k_48])
        exact wr_i X hr hlk hW ⟨hf, by rw [hg]; exact ⟨rl, au, pa, e0, e1, eR, cR, mR, gR, RA, al, p0, pw, eA, cA, mA, gA, CA, QA, vb, cv, ml, fb, hCC⟩⟩ (Nat.le_of_ble_eq_true rfl) (Nat.le_of_ble_eq_true rfl) dX6_put_53
    | succ f ih =>
      intro i y h0 h1 h2 h3 ls hl
      have h8 : i < 8 := by omega
      have hy64 : y < 2 ^ 64 := by rw [h1]; exact Nat.lt_of_le_of_lt (Nat.div_le_self _ _) hC
      refine lv_iload_n X.1 X.2.1 dX6_put_5 rfl (lv_at hl 2 rfl) ?_
      refine lv_bipush (v := 8) X.1 X.2.1 dX6_put_6 (by decide) ?_
      refine lv_icmp_ge (tgt := 47) X.1 X.2.1 dX6_put_8 (by decide) (fun c_8 => absurd c_8 (nI_ge (a := i) (b := 8) (by omega) (by decide))) (fun c_8 => ?_)
      refine lv_lload X.1 X.2.1 dX6_put_11 (lv_at hl 3 rfl) ?_
      refine lv_lconst (v := 0) X.1 X.2.1 dX6_put_13 (by decide) ?_
      refine r_lcmp X.1 X.2.1 dX6_put_14 ?_
      refine lv_if_eq (tgt := 47) X.1 X.2.1 dX6_put_15 (by decide) (fun c_15 => ?_) (fun c_15 => ?_)
      · have y0 : y = 0 := (pk_lEQ_ hy64).mp (lcI_0.mp c_15)
        refine lv_iload_n X.1 X.2.1 dX6_put_47 rfl (lv_at hl 2 rfl) ?_
        refine lv_if_ne (tgt := 54) X.1 X.2.1 dX6_put_48 (by decide) (fun c_48 => ?_) (fun c_48 => ?_)
        · have k_48 := k_ne (a := i) (b := 0) (by omega) (by omega) c_48
          refine lv_aload_n X.1 X.2.1 dX6_put_54 rfl (lv_at hl 0 rfl) ?_
          refine r_get X hW.1 g_1 (v := .ref pa) (C := RX6) (T := TX6) (N := 5) rfl tin_X6 2 (by decide) tw_194 (fun _ h => h) rfl dX6_put_55 ?_
          refine on_Si (run_V (C := RJ4) (As := []) (rest := []) X (c_J4_length_8abf5 l G hp pa vb cv ml fb pn pt hSB) (rp_blind _) (rp_at X hW.1 hW.2.2) (recv X hW.1 g_6 (C := RJ4) (T := TJ4) (N := 4) rfl) mf_J4_length_8abf5 tw_547 tw_548 tw_549 ⟨rfl, rfl, Nat.le_of_ble_eq_true rfl, Nat.le_of_ble_eq_true rfl⟩ hl.1 rfl rfl (Nat.le_of_ble_eq_true rfl) ⟨Nat.le_of_ble_eq_true rfl, Nat.le_of_ble_eq_true rfl⟩ dX6_put_58) (fun r_58 q_58 => ?_)
          obtain rfl : r_58 = (nI pn) := q_58
          refine lv_iload_n X.1 X.2.1 dX6_put_61 rfl (lv_at hl 2 rfl) ?_
          refine lv_iadd X.1 X.2.1 dX6_put_62 ?_
          refine r_eqi (show (((nI pn) + (nI i)) : Int32) = nI (pn + i) from nI_add pn i) ?_
          refine lv_bipush (v := 60) X.1 X.2.1 dX6_put_63 (by decide) ?_
          refine lv_icmp_le (tgt := 71) X.1 X.2.1 dX6_put_65 (by decide) (fun c_65 => ?_) (fun c_65 => ?_)
          · have k_65 := k_le (a := (pn + i)) (b := 60) (by omega) (by omega) c_65
            refine lv_iload_n X.1 X.2.1 dX6_put_71 rfl (lv_at hl 2 rfl) ?_
            refine lv_iconst (v := 1) X.1 X.2.1 dX6_put_72 (by decide) ?_
            refine lv_isub X.1 X.2.1 dX6_put_73 ?_
            refine lv_istore (lv' := [(6, .int ((nI i) - 1)), (0, .ref b6), (1, .long (lN C)), (3, .int (nI i)), (4, .long (lN y))]) X.1 X.2.1 dX6_put_74 hl (by decide) rfl (fun ls hl => ?_)
            have L762 : ∀ (f2 : Nat) (d : Nat) (hpL : HP) (H : Heap) (locs : List Loc) (vb2 : Nat) (cv2 : Nat) (fb2 : Nat → Int32), (SBp G hpL pa vb2 cv2 ml fb2 (pn + (i - d)) (fun j9 => if j9 < pn then pt j9 else chN C i (j9 - pn))) → (SFq hp hpL pa vb) → (vb2 = vb ∨ hp vb2 = none) → WS s G A hpL H locs → (d = f2) → (d ≤ i) → ∀ ls, lv_has ls 7 [(0, .ref b6), (1, .long (lN C)), (3, .int (nI i)), (6, .int (nI d - 1))] → W p l e ({ frames := 6, cells := 8, slots := 1040, locals := 126 } : Room) s m args below meth c H locs (8 - d) (130 * (8 - d)) (MQ below (va_Qi (fun r hp1 => r = fPut (n, R, hd, k, cs, sk, pn, pt) C ∧ CZ G hp1 b6 (gPut (n, R, hd, k, cs, sk, pn, pt) C)) (WB G A) A) args s 8 1040 A) (F0 m 76 ls []) := by
              intro f2
              induction f2 with
              | zero =>
                intro d hpL H locs vb2 cv2 fb2 hS2 hF2 hv2 hW h20 h21 ls hl
                have g_13 : hpL b6 = some (.inr (7, [.ref rl, .ref au, .ref pa, .int (nI e0), .int (nI e1)])) := hF2 _ _ hb6 (ne_look hb6 hSB.1 (by simp [obE])) (ne_look hb6 hSB.2.1 (by simp [obE]))
                have g_14 : hpL pa = some (.inr (0, [.ref vb2, .int 0, .int (bI ml), .int (nI (pn + (i - d)))])) := hS2.1
                have hcz := hS2.2.2.2.2.2.1
                refine lv_iload X.1 X.2.1 dX6_put_76 (lv_at hl 3 rfl) ?_
                refine lv_if_lt (tgt := 108) X.1 X.2.1 dX6_put_78 (by decide) (fun c_78 => ?_) (fun c_78 => absurd ((i32_sub0 (by omega)).mpr (by omega)) c_78)
                refine lv_aload_n X.1 X.2.1 dX6_put_108 rfl (lv_at hl 0 rfl) ?_
                refine r_get X hW.1 g_13 (v := .ref pa) (C := RX6) (T := TX6) (N := 5) rfl tin_X6 2 (by decide) tw_194 (fun _ h => h) rfl dX6_put_109 ?_
                refine on_Si (run_V (C := RJ4) (As := []) (rest := []) X (c_J4_length_8abf5 l G hpL pa vb2 cv2 ml fb2 (pn + (i - d)) (fun j9 => if j9 < pn then pt j9 else chN C i (j9 - pn)) hS2) (rp_blind _) (rp_at X hW.1 hW.2.2) (recv X hW.1 g_14 (C := RJ4) (T := TJ4) (N := 4) rfl) mf_J4_length_8abf5 tw_547 tw_548 tw_549 ⟨rfl, rfl, Nat.le_of_ble_eq_true rfl, Nat.le_of_ble_eq_true rfl⟩ hl.1 rfl rfl (Nat.le_of_ble_eq_true rfl) ⟨(by show _ ≤ 8; omega), (by show _ ≤ 1040; omega)⟩ dX6_put_112) (fun r_112 q_112 => ?_)
                obtain rfl : r_112 = (nI (pn + (i - d))) := q_112
                obtain ⟨hf, hg⟩ := pu_ok (z := (n, R, hd, k, cs, sk, pn, pt)) (pc_end h2 y0) k_48 (show ¬ 60 < pn + i by omega)
                exact wr_i X hr hlk hW ⟨by rw [← hf]; exact congrArg nI (by rw [show d = 0 by omega, Nat.sub_zero]), by rw [hg]; exact ⟨rl, au, pa, e0, e1, eR, cR, mR, gR, RA, al, p0, pw, eA, cA, mA, gA, CA, QA, vb2, cv2, ml, fb2, by have z9 := cz_sb hCC hS2 hF2; rw [show pn + (i - d) = pn + i by omega] at z9; exact z9⟩⟩ (by omega) (by omega) dX6_put_115
              | succ f2 ih2 =>
                intro d hpL H locs vb2 cv2 fb2 hS2 hF2 hv2 hW h20 h21 ls hl
                have hd1 : 1 ≤ d := by omega
                have g_15 : hpL b6 = some (.inr (7, [.ref rl, .ref au, .ref pa, .int (nI e0), .int (nI e1)])) := hF2 _ _ hb6 (ne_look hb6 hSB.1 (by simp [obE])) (ne_look hb6 hSB.2.1 (by simp [obE]))
                have g_16 : hpL pa = some (.inr (0, [.ref vb2, .int 0, .int (bI ml), .int (nI (pn + (i - d)))])) := hS2.1
                have hcz := hS2.2.2.2.2.2.1
                refine lv_iload X.1 X.2.1 dX6_put_76 (lv_at hl 3 rfl) ?_
                refine lv_if_lt (tgt := 108) X.1 X.2.1 dX6_put_78 (by decide) (fun c_78 => absurd c_78 (fun q9 => absurd ((i32_sub0 (by omega)).mp q9) (by omega))) (fun c_78 => ?_)
                refine lv_aload_n X.1 X.2.1 dX6_put_81 rfl (lv_at hl 0 rfl) ?_
                refine r_get X hW.1 g_15 (v := .ref pa) (C := RX6) (T := TX6) (N := 5) rfl tin_X6 2 (by decide) tw_194 (fun _ h => h) rfl dX6_put_82 ?_
                refine lv_lload_n X.1 X.2.1 dX6_put_85 rfl (lv_at hl 1 rfl) ?_
                refine lv_bipush (v := 8) X.1 X.2.1 dX6_put_86 (by decide) ?_
                refine lv_iload X.1 X.2.1 dX6_put_88 (lv_at hl 3 rfl) ?_
                refine r_eqi (dn_sub (show 1 ≤ d by omega)) ?_
                refine lv_imul X.1 X.2.1 dX6_put_90 ?_
                refine r_eqi (show (((8 : Int32) * (nI (d - 1))) : Int32) = nI (8 * (d - 1)) from pk_mul 8 (d - 1)) ?_
                refine lv_lushr X.1 X.2.1 dX6_put_91 rfl ?_
                refine r_eql (show ((((lN C).toUInt64 >>> ((Int32.toInt64 (nI (8 * (d - 1)))).toUInt64 &&& Int64.toUInt64 63)).toInt64) : Int64) = lN (C / 2 ^ (8 * (d - 1))) from l_ushrN hC _ _ (lus_l _ (by omega))) ?_
                refine r_const2 X tw_640 dX6_put_92 ?_
                refine lv_land X.1 X.2.1 dX6_put_95 ?_
                refine r_eql (show (((lN (C / 2 ^ (8 * (d - 1)))) &&& 255) : Int64) = lN ((C / 2 ^ (8 * (d - 1))) % 256) from lN_and255 (C / 2 ^ (8 * (d - 1)))) ?_
                refine lv_l2i X.1 X.2.1 dX6_put_96 rfl ?_
                refine r_eqi (show (((lN ((C / 2 ^ (8 * (d - 1))) % 256)).toInt32) : Int32) = nI ((C / 2 ^ (8 * (d - 1))) % 256) from lN_i _) ?_
                refine lv_i2c X.1 X.2.1 dX6_put_97 rfl ?_
                refine r_eqi (show (((nI ((C / 2 ^ (8 * (d - 1))) % 256)).toUInt32 % 65536).toInt32 : Int32) = nI (C / 256 ^ (d - 1) % 256) from by rw [show C / 2 ^ (8 * (d - 1)) = C / 256 ^ (d - 1) by rw [Nat.pow_mul]]; exact (ch_ok _ (by have := h3 (d - 1) (by omega); omega)).2.1) ?_
                refine on_Wq (k' := (8 - d + 1)) (n' := (130 * (8 - d) + 130)) (run_V (C := RJ4) (As := [.int (nI (C / 256 ^ (d - 1) % 256))]) (rest := []) X (c_J4_append_cf468 l G A hpL _ (fun q h => hA q (Nat.le_trans hW.2.2.1 h)) hW.2.1 pa vb2 cv2 ml fb2 (pn + (i - d)) (fun j9 => if j9 < pn then pt j9 else chN C i (j9 - pn)) hS2 (C / 256 ^ (d - 1) % 256) (h3 (d - 1) (by omega)) (by omega)) (wp_blind _) (wp_at X hW.1 hW.2.2) (recv X hW.1 g_16 (C := RJ4) (T := TJ4) (N := 4) rfl) mf_J4_append_cf468 tw_644 tw_645 tw_646 ⟨rfl, rfl, Nat.le_of_ble_eq_true rfl, Nat.le_of_ble_eq_true rfl⟩ hl.1 rfl rfl (Nat.le_of_ble_eq_true rfl) ⟨(by show _ ≤ 8; omega), (by show _ ≤ 1040; omega)⟩ dX6_put_98) hW (by omega) (by omega) (fun r_98 hp_17 H locs q_98 hW => ?_)
                obtain ⟨rfl, vb3, cv3, fb3, hS3, hF3, hv3⟩ := q_98
                refine W.eq (g2 := F0 m 101 ls [.ref pa]) rfl ?_
                refine lv_pop X.1 X.2.1 dX6_put_101 rfl ?_
                obtain ⟨v_102, e_102⟩ : ∃ y9 : Int32, y9 = (nI d - 1) + (-1) := ⟨_, rfl⟩
                refine lv_iinc (v := v_102) (lv' := [(6, .int v_102), (0, .ref b6), (1, .long (lN C)), (3, .int (nI i))]) X.1 X.2.1 dX6_put_102 hl (k := 3) rfl (by rw [e_102]; rfl) (by decide) rfl (fun ls hl => ?_)
                refine lv_goto (tgt := 76) X.1 X.2.1 dX6_put_105 (by decide) ?_
                exact W.widen (by omega) (by omega) (ih2 (d - 1) _ _ _ _ _ _ (by rw [show pn + (i - (d - 1)) = pn + (i - d) + 1 by omega]; exact hS3.cg (fun j9 hj9 => pt_put j9 (by omega) (by omega))) (SFq.tr hF2 hF3 hv2) (hv_tr hS2.1 hF2 hv2 hv3) hW (by omega) (by omega) ls (by rw [dn_dec (show 1 ≤ d by omega), ← e_102]; exact (lv_sub hl [1, 2, 3, 0] rfl)))
            exact W.widen (by omega) (by omega) (L762 i i _ _ _ vb cv fb (by rw [Nat.sub_self, Nat.add_zero]; exact hSB.cg (fun j9 hj9 => (if_pos hj9).symm)) SFq.rf (Or.inl rfl) hW rfl (Nat.le_refl _) ls (lv_sub hl [1, 2, 3, 0] rfl))
          · have k_65 := k_nle (a := (pn + i)) (b := 60) (by omega) (by omega) c_65
            refine lv_bipush (v := (-4)) X.1 X.2.1 dX6_put_68 (by decide) ?_
            obtain ⟨hf, hg⟩ := pu_full (z := (n, R, hd, k, cs, sk, pn, pt)) (pc_end h2 y0) k_48 (show 60 < pn + i by omega)
            exact wr_i X hr hlk hW ⟨hf, by rw [hg]; exact ⟨rl, au, pa, e0, e1, eR, cR, mR, gR, RA, al, p0, pw, eA, cA, mA, gA, CA, QA, vb, cv, ml, fb, hCC⟩⟩ (Nat.le_of_ble_eq_true rfl) (Nat.le_of_ble_eq_true rfl) dX6_put_70
        · have k_48 := k_eq (a := i) (b := 0) (by omega) (by omega) c_48
          refine lv_bipush (v := (-2)) X.1 X.2.1 dX6_put_51 (by decide) ?_
          obtain ⟨hf, hg⟩ := pu_0 (z := (n, R, hd, k, cs, sk, pn, pt)) (by rw [pc_end h2 y0, k_48])
          exact wr_i X hr hlk hW ⟨hf, by rw [hg]; exact ⟨rl, au, pa, e0, e1, eR, cR, mR, gR, RA, al, p0, pw, eA, cA, mA, gA, CA, QA, vb, cv, ml, fb, hCC⟩⟩ (Nat.le_of_ble_eq_true rfl) (Nat.le_of_ble_eq_true rfl) dX6_put_53
      · refine lv_lload X.1 X.2.1 dX6_put_18 (lv_at hl 3 rfl) ?_
        refine r_const2 X tw_640 dX6_put_20 ?_
        refine lv_land X.1 X.2.1 dX6_put_23 ?_
        refine r_eql (show (((lN y) &&& 255) : Int64) = lN (y % 256) from lN_and255 y) ?_
        refine lv_l2i X.1 X.2.1 dX6_put_24 rfl ?_
        refine r_eqi (show (((lN (y % 256)).toInt32) : Int32) = nI (y % 256) from lN_i _) ?_
        refine on_Si (run_S (As := [.int (nI (y % 256))]) (rest := []) X (c_X6_isCharacter l G hp (nI (y % 256))) (rp_blind _) (rp_at X hW.1 hW.2.2) mf_X6_isCharacter tw_641 tw_642 ⟨rfl, rfl, Nat.le_of_ble_eq_true rfl, Nat.le_of_ble_eq_true rfl⟩ hl.1 rfl rfl (Nat.le_of_ble_eq_true rfl) ⟨Nat.le_of_ble_eq_true rfl, Nat.le_of_ble_eq_true rfl⟩ dX6_put_25) (fun r_25 q_25 => ?_)
        obtain rfl : r_25 = (inI (nI (y % 256)) 33 126) := q_25
        refine lv_if_ne (tgt := 34) X.1 X.2.1 dX6_put_28 (by decide) (fun c_28 => ?_) (fun c_28 => ?_)
        · have k28 : 33 ≤ y % 256 ∧ y % 256 ≤ 126 := by
            have q9 := inI_1 c_28
            rw [nI_toInt (by omega)] at q9
            omega
          refine lv_lload X.1 X.2.1 dX6_put_34 (lv_at hl 3 rfl) ?_
          refine lv_bipush (v := 8) X.1 X.2.1 dX6_put_36 (by decide) ?_
          refine lv_lushr X.1 X.2.1 dX6_put_38 rfl ?_
          refine r_eql (show ((((lN y).toUInt64 >>> ((Int32.toInt64 8).toUInt64 &&& Int64.toUInt64 63)).toInt64) : Int64) = lN (y / 256) from l_ushrN hy64 _ 8 (lus_l 8 (by decide))) ?_
          refine lv_lstore (lv' := [(4, .long (lN (y / 256))), (0, .ref b6), (1, .long (lN C)), (3, .int (nI i))]) X.1 X.2.1 dX6_put_39 hl (by decide) rfl (fun ls hl => ?_)
          refine lv_iinc (v := (nI (i + 1))) (lv' := [(3, .int (nI (i + 1))), (4, .long (lN (y / 256))), (0, .ref b6), (1, .long (lN C))]) X.1 X.2.1 dX6_put_41 hl (k := 3) rfl (nI_add i 1) (by decide) rfl (fun ls hl => ?_)
          refine lv_goto (tgt := 5) X.1 X.2.1 dX6_put_44 (by decide) ?_
          exact ih (i + 1) (y / 256) (by omega) (by rw [h1, Nat.div_div_eq_div_mul, ← Nat.pow_succ]) (pc_step h2 (fun q9 => absurd k28.1 (by omega)) k28) (pc_all (P := fun x => 33 ≤ x ∧ x ≤ 126) h3 (show 33 ≤ C / 256 ^ i % 256 ∧ C / 256 ^ i % 256 ≤ 126 by rw [← h1]; exact k28)) ls (lv_sub hl [2, 3, 0, 1] rfl)
        · have y1 : ¬ y = 0 := fun q9 => c_15 (lcI_0.mpr (by rw [q9]; rfl))
          have k28 : ¬ (33 ≤ y % 256 ∧ y % 256 ≤ 126) := by
            have q9 := inI_0 c_28
            rw [nI_toInt (by omega)] at q9
            omega
          refine lv_bipush (v := (-2)) X.1 X.2.1 dX6_put_31 (by decide) ?_
          obtain ⟨hf, hg⟩ := pu_none (z := (n, R, hd, k, cs, sk, pn, pt)) (pc_bad h2 y1 k28)
          exact wr_i X hr hlk hW ⟨hf, by rw [hg]; exact ⟨rl, au, pa, e0, e1, eR, cR, mR, gR, RA, al, p0, pw, eA, cA, mA, gA, CA, QA, vb, cv, ml, fb, hCC⟩⟩ (Nat.le_of_ble_eq_true rfl) (Nat.le_of_ble_eq_true rfl) dX6_put_33
  exact L5 8 0 C rfl (by rw [Nat.pow_zero, Nat.div_one]) (by rw [show ((· + 0) : Nat → Nat) = id from rfl, Option.map_id]; rfl) (fun j hj => absurd hj (Nat.not_lt_zero j)) ls (lv_sub hl [2, 3, 1, 0] rfl)

