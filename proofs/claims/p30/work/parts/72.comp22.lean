/-! limit, rule -/
theorem inG_z {a : Int32} {hi : Int} (h : ¬ (0 ≤ a.toInt ∧ a.toInt ≤ hi)) : inI a 0 hi = 0 := by
  by_cases c : inI a 0 hi = 0
  · exact c
  · exact absurd (inI_1 c) h
theorem inG_o {a : Int32} {hi : Int} (h : 0 ≤ a.toInt ∧ a.toInt ≤ hi) : ¬ inI a 0 hi = 0 := fun q => inI_0 q h
theorem lm_hi {q : Int32} {w : Nat} (h : ¬ q ≤ nI (if w = 4 then 20 else 5)) : inI q 0 (mxI w) = 0 := inG_z (fun z => h (Int32.le_iff_toInt_le.mpr (by
  have e : mxI w = ((if w = 4 then 20 else 5 : Nat) : Int) := by unfold mxI; split <;> rfl
  have k : (if w = 4 then 20 else 5 : Nat) ≤ 20 := by split <;> decide
  rw [nI_toInt (by omega), ← e]
  exact z.2)))
theorem cz_rc {G : HG} {hp hp1 : HP} {b6 rl au pa e0 e1 eR cR : Nat} {mR : Int32} {gR : Nat → Option Nat} {RA : Nat → Nat} {al p0 pw eA cA : Nat} {mA : Int32} {gA : Nat → Option Nat} {CA QA : Nat → Nat} {vb cv : Nat} {ml : Bool} {fb : Nat → Int32} {n : Nat} {R : Nat → Nat → Nat} {hd : Nat → Nat} {k : Nat} {cs : Nat → Nat → Int32} {sk : Bool} {pn : Nat} {pt : Nat → Nat} {x : Nat} {w : Nat → Nat} (h : CC G hp b6 rl au pa e0 e1 eR cR mR gR RA al p0 pw eA cA mA gA CA QA vb cv ml fb (n, R, hd, k, cs, sk, pn, pt)) (eh : hp1 = va_up hp (RA x) (some (rcE w))) (hx : x < n) (hw : ∀ j, j < 14 → w j ≤ 25) (h0 : w 0 = R x 0) (h1 : w 1 = R x 1) : CC G hp1 b6 rl au pa e0 e1 eR cR mR gR RA al p0 pw eA cA mA gA CA QA vb cv ml fb (n, (fun i => if i = x then w else R i), hd, k, cs, sk, pn, pt) := by
  obtain ⟨hb6, hU6, hU9, hSB, hHD, hDJ, huq⟩ := h
  have hr := (hU6.2.2.2.2.2.1 x hx).2
  have nb : ∀ q e, hp q = some e → (∀ vs, e ≠ .inr (5, vs)) → hp1 q = some e := fun q e h0 hq => by
    rw [eh, va_up_ne _ _ (ne_look h0 hr (by unfold rcE; exact hq _))]; exact h0
  refine ⟨nb _ _ hb6 (by simp [obE]), ⟨nb _ _ hU6.1 (by simp [alE]), ⟨fun z => nb _ _ (hU6.2.1.1 z) (by simp), hU6.2.1.2⟩, hU6.2.2.1, hU6.2.2.2.1, hU6.2.2.2.2.1, fun i hi => ⟨(hU6.2.2.2.2.2.1 i hi).1, ?_⟩, fun i j hi hj => ?_⟩, hU9.fr (x9 := RA x) (fun q e h0 _ h5 _ => nb q e h0 h5) hr (Or.inr rfl), hSB.fr (fun e he => nb _ _ he (fun v q => by rw [hSB.1] at he; cases he; simp at q)) (fun e he => nb _ _ he (fun v q => by rw [hSB.2.1] at he; cases he; simp at q)), hHD, hDJ, fun i j hi hj a b => ?_⟩
  · show hp1 (RA i) = some (rcE (if i = x then w else R i))
    by_cases c : i = x
    · rw [if_pos c, c, eh, va_up_self]
    · rw [if_neg c, eh, va_up_ne _ _ (fun z => c (hDJ.2.2 i x hi hx z))]
      exact (hU6.2.2.2.2.2.1 i hi).2
  · show (if i = x then w else R i) j ≤ 25
    by_cases c : i = x
    · rw [if_pos c]; exact hw j hj
    · rw [if_neg c]; exact hU6.2.2.2.2.2.2 i j hi hj
  · have e : ∀ i, (if i = x then w else R i) 0 = R i 0 ∧ (if i = x then w else R i) 1 = R i 1 := fun i => by
      by_cases c : i = x
      · rw [if_pos c, c]; exact ⟨h0, h1⟩
      · rw [if_neg c]; exact ⟨rfl, rfl⟩
    exact huq i j hi hj ((e i).1.symm.trans (Eq.trans a (e j).1)) ((e i).2.symm.trans (Eq.trans b (e j).2))
set_option maxHeartbeats 4000000 in
set_option maxRecDepth 100000 in
theorem c_X6_countAdmitted (l : Launch) (G : HG) (hp : HP) (b6 r9 : Nat) (q : Nat → Nat) (hq : ∀ j, j < 14 → q j ≤ 25) (hr9 : hp r9 = some (rcE q)) : Met l yX6_countAdmitted [.code yX6_countAdmitted cX6_countAdmitted 5 (some .int)] { frames := 3, cells := 0, slots := 0, locals := 64 } (va_Pc [.ref b6, .ref r9] (RP G hp)) (vp_Si (fun r => r = nI (cntF (fitB q) 15504))) 0 0 (fun _ => False) := by
  refine ro_ofW (by decide) (Nat.le_of_ble_eq_true rfl) ?_
  intro p e s m args below meth c ls X hr hlk hH hl
  have hS : va_S (fun _ => False) s.heap s.heap [] := va_S.rf
  have hl : lv_has ls 5 [(0, .ref b6), (1, .ref r9)] := hl
  refine lv_iconst (v := 0) X.1 X.2.1 dX6_countAdmitted_0 (by decide) ?_
  refine lv_istore_n (lv' := [(2, .int 0), (0, .ref b6), (1, .ref r9)]) X.1 X.2.1 dX6_countAdmitted_1 rfl hl (by decide) rfl (fun ls hl => ?_)
  refine lv_iconst (v := 0) X.1 X.2.1 dX6_countAdmitted_2 (by decide) ?_
  refine lv_istore_n (lv' := [(3, .int 0), (2, .int 0), (0, .ref b6), (1, .ref r9)]) X.1 X.2.1 dX6_countAdmitted_3 rfl hl (by decide) rfl (fun ls hl => ?_)
  refine lv_bipush (v := 31) X.1 X.2.1 dX6_countAdmitted_4 (by decide) ?_
  refine lv_istore (lv' := [(4, .int 31), (3, .int 0), (2, .int 0), (0, .ref b6), (1, .ref r9)]) X.1 X.2.1 dX6_countAdmitted_6 hl (by decide) rfl (fun ls hl => ?_)
  have L8 : ∀ (f : Nat) (i : Nat), i + f = 15504 → ∀ ls, lv_has ls 5 [(0, .ref b6), (1, .ref r9), (2, .int (nI (cntF (fitB q) i))), (3, .int (nI i)), (4, .int (nI (HL i)))] → W p l e ({ frames := 3, cells := 0, slots := 0, locals := 64 } : Room) s m args below meth c s.heap [] 0 0 (MQ below (vp_Si (fun r => r = nI (cntF (fitB q) 15504))) args s 0 0 (fun _ => False)) (F0 m 8 ls []) := by
    intro f
    induction f with
    | zero =>
      intro i h0 ls hl
      have hi9 : i = 15504 := by omega
      refine lv_iload_n X.1 X.2.1 dX6_countAdmitted_8 rfl (lv_at hl 3 rfl) ?_
      refine lv_sipush (v := 15504) X.1 X.2.1 dX6_countAdmitted_9 (by decide) ?_
      refine lv_icmp_ge (tgt := 43) X.1 X.2.1 dX6_countAdmitted_12 (by decide) (fun c_12 => ?_) (fun c_12 => absurd (nI_le (a := 15504) (b := i) (by omega) (by omega)) c_12)
      refine lv_iload_n X.1 X.2.1 dX6_countAdmitted_43 rfl (lv_at hl 2 rfl) ?_
      exact ro_i X hr hlk (by show nI _ = nI _; rw [hi9]) dX6_countAdmitted_44
    | succ f ih =>
      intro i h0 ls hl
      have hlt : i < 15504 := by omega
      obtain ⟨hk1, hk2, hk3, hk4, hk5, hk6, hk7⟩ := HL_ok hlt
      have hcl := cntF_le (fitB q) i
      refine lv_iload_n X.1 X.2.1 dX6_countAdmitted_8 rfl (lv_at hl 3 rfl) ?_
      refine lv_sipush (v := 15504) X.1 X.2.1 dX6_countAdmitted_9 (by decide) ?_
      refine lv_icmp_ge (tgt := 43) X.1 X.2.1 dX6_countAdmitted_12 (by decide) (fun c_12 => absurd c_12 (nI_ge (a := i) (b := 15504) (by omega) (by decide))) (fun c_12 => ?_)
      refine lv_aload_n X.1 X.2.1 dX6_countAdmitted_15 rfl (lv_at hl 1 rfl) ?_
      refine lv_iload X.1 X.2.1 dX6_countAdmitted_16 (lv_at hl 4 rfl) ?_
      refine on_Si (run_S (As := [.int (nI (HL i))]) (rest := [.ref r9]) X (c_X1_profile l G hp (HL i) (by omega)) (rp_blind _) (rp_at X hH hS) mf_X1_profile tw_290 tw_291 ⟨rfl, rfl, Nat.le_of_ble_eq_true rfl, Nat.le_of_ble_eq_true rfl⟩ hl.1 rfl rfl (Nat.le_of_ble_eq_true rfl) ⟨Nat.le_of_ble_eq_true rfl, Nat.le_of_ble_eq_true rfl⟩ dX6_countAdmitted_18) (fun r_18 q_18 => ?_)
      obtain rfl : r_18 = (nI (pfN (HL i))) := q_18
      refine on_Si (run_V (C := RX4) (As := [.int (nI (pfN (HL i)))]) (rest := []) X (c_X4_admits l G hp r9 q hq (HL i) (by omega) hr9) (rp_blind _) (rp_at X hH hS) (recv X hH hr9 (C := RX4) (T := TX4) (N := 6) rfl) mf_X4_admits tw_304 tw_305 tw_306 ⟨rfl, rfl, Nat.le_of_ble_eq_true rfl, Nat.le_of_ble_eq_true rfl⟩ hl.1 rfl rfl (Nat.le_of_ble_eq_true rfl) ⟨Nat.le_of_ble_eq_true rfl, Nat.le_of_ble_eq_true rfl⟩ dX6_countAdmitted_21) (fun r_21 q_21 => ?_)
      obtain rfl : r_21 = (bI (fitB q (HL i))) := q_21
      refine lv_if_eq (tgt := 30) X.1 X.2.1 dX6_countAdmitted_24 (by decide) (fun c_24 => ?_) (fun c_24 => ?_)
      · have hy : ¬ (fitB q) (HL i) = true := fun q => Bool.false_ne_true ((bI_0 c_24).symm.trans q)
        rw [show ((nI (cntF (fitB q) i)) : Int32) = nI (cntF (fitB q) (i + 1)) from by show _ = nI (cntF (fitB q) i + (if (fitB q) (HL i) = true then 1 else 0)); rw [if_neg hy]; rfl] at hl
        refine lv_iinc (v := (nI (i + 1))) (lv' := [(3, .int (nI (i + 1))), (0, .ref b6), (1, .ref r9), (2, .int (nI (cntF (fitB q) (i + 1)))), (4, .int (nI (HL i)))]) X.1 X.2.1 dX6_countAdmitted_30 hl (k := 3) rfl (nI_add i 1) (by decide) rfl (fun ls hl => ?_)
        refine lv_iload X.1 X.2.1 dX6_countAdmitted_33 (lv_at hl 4 rfl) ?_
        refine on_Si (run_S (As := [.int (nI (HL i))]) (rest := []) X (c_X1_handAfter l G hp (HL i) (by omega) hk2) (rp_blind _) (rp_at X hH hS) mf_X1_handAfter tw_455 tw_456 ⟨rfl, rfl, Nat.le_of_ble_eq_true rfl, Nat.le_of_ble_eq_true rfl⟩ hl.1 rfl rfl (Nat.le_of_ble_eq_true rfl) ⟨Nat.le_of_ble_eq_true rfl, Nat.le_of_ble_eq_true rfl⟩ dX6_countAdmitted_35) (fun r_35 q_35 => ?_)
        obtain rfl : r_35 = (nI (nhA (HL i))) := q_35
        refine r_eqi (show nI (nhA (HL i)) = nI (HL (i + 1)) from by rw [hk5]) ?_
        refine lv_istore (lv' := [(4, .int (nI (HL (i + 1)))), (3, .int (nI (i + 1))), (0, .ref b6), (1, .ref r9), (2, .int (nI (cntF (fitB q) (i + 1))))]) X.1 X.2.1 dX6_countAdmitted_38 hl (by decide) rfl (fun ls hl => ?_)
        refine lv_goto (tgt := 8) X.1 X.2.1 dX6_countAdmitted_40 (by decide) ?_
        exact ih (i + 1) (by omega) ls (lv_sub hl [2, 3, 4, 1, 0] rfl)
      · have hy : (fitB q) (HL i) = true := bI_1 c_24
        refine lv_iinc (v := (nI ((cntF (fitB q) i) + 1))) (lv' := [(2, .int (nI ((cntF (fitB q) i) + 1))), (0, .ref b6), (1, .ref r9), (3, .int (nI i)), (4, .int (nI (HL i)))]) X.1 X.2.1 dX6_countAdmitted_27 hl (k := 2) rfl (nI_add (cntF (fitB q) i) 1) (by decide) rfl (fun ls hl => ?_)
        rw [show ((nI ((cntF (fitB q) i) + 1)) : Int32) = nI (cntF (fitB q) (i + 1)) from by show _ = nI (cntF (fitB q) i + (if (fitB q) (HL i) = true then 1 else 0)); rw [if_pos hy]] at hl
        refine lv_iinc (v := (nI (i + 1))) (lv' := [(3, .int (nI (i + 1))), (2, .int (nI (cntF (fitB q) (i + 1)))), (0, .ref b6), (1, .ref r9), (4, .int (nI (HL i)))]) X.1 X.2.1 dX6_countAdmitted_30 hl (k := 3) rfl (nI_add i 1) (by decide) rfl (fun ls hl => ?_)
        refine lv_iload X.1 X.2.1 dX6_countAdmitted_33 (lv_at hl 4 rfl) ?_
        refine on_Si (run_S (As := [.int (nI (HL i))]) (rest := []) X (c_X1_handAfter l G hp (HL i) (by omega) hk2) (rp_blind _) (rp_at X hH hS) mf_X1_handAfter tw_455 tw_456 ⟨rfl, rfl, Nat.le_of_ble_eq_true rfl, Nat.le_of_ble_eq_true rfl⟩ hl.1 rfl rfl (Nat.le_of_ble_eq_true rfl) ⟨Nat.le_of_ble_eq_true rfl, Nat.le_of_ble_eq_true rfl⟩ dX6_countAdmitted_35) (fun r_35 q_35 => ?_)
        obtain rfl : r_35 = (nI (nhA (HL i))) := q_35
        refine r_eqi (show nI (nhA (HL i)) = nI (HL (i + 1)) from by rw [hk5]) ?_
        refine lv_istore (lv' := [(4, .int (nI (HL (i + 1)))), (3, .int (nI (i + 1))), (2, .int (nI (cntF (fitB q) (i + 1)))), (0, .ref b6), (1, .ref r9)]) X.1 X.2.1 dX6_countAdmitted_38 hl (by decide) rfl (fun ls hl => ?_)
        refine lv_goto (tgt := 8) X.1 X.2.1 dX6_countAdmitted_40 (by decide) ?_
        exact ih (i + 1) (by omega) ls (lv_sub hl [3, 4, 2, 1, 0] rfl)
  exact L8 15504 0 rfl ls (lv_sub hl [3, 4, 2, 1, 0] rfl)

set_option maxHeartbeats 4000000 in
set_option maxRecDepth 100000 in
theorem c_X6_limit (l : Launch) (G : HG) (A : Nat → Prop) (hp : HP) (sz : Nat) (hA : ∀ q, sz ≤ q → A q) (hO : Ow A hp) (b6 : Nat) (n : Nat) (R : Nat → Nat → Nat) (hd : Nat → Nat) (k : Nat) (cs : Nat → Nat → Int32) (sk : Bool) (pn : Nat) (pt : Nat → Nat) (hz : CZ G hp b6 (n, R, hd, k, cs, sk, pn, pt)) (a b d q : Int32) : Met l yX6_limit [.code yX6_limit cX6_limit 6 (some .int)] { frames := 4, cells := 0, slots := 0, locals := 88 } (va_Pc [.ref b6, .int a, .int b, .int d, .int q] (WP G A sz hp)) (va_Qi (fun r hp1 => r = fLimit (n, R, hd, k, cs, sk, pn, pt) a b d q ∧ CZ G hp1 b6 (gLimit (n, R, hd, k, cs, sk, pn, pt) a b d q)) (WB G A) A) 0 0 A := by
  refine wr_ofW (by decide) (Nat.le_of_ble_eq_true rfl) hO ?_
  intro p e s m args below meth c ls X hr hlk hnm hsz hW hl
  have hA : ∀ q, s.heap.size ≤ q → A q := fun q h => hA q (by omega)
  have hl : lv_has ls 6 [(0, .ref b6), (1, .int a), (2, .int b), (3, .int d), (4, .int q)] := hl
  obtain ⟨rl, au, pa, e0, e1, eR, cR, mR, gR, RA, al, p0, pw, eA, cA, mA, gA, CA, QA, vb, cv, ml, fb, hb6, hU6, hU9, hSB, hHD, hDJ, huq⟩ := hz
  have hCC : CC G hp b6 rl au pa e0 e1 eR cR mR gR RA al p0 pw eA cA mA gA CA QA vb cv ml fb (n, R, hd, k, cs, sk, pn, pt) := ⟨hb6, hU6, hU9, hSB, hHD, hDJ, huq⟩
  replace hb6 : hp b6 = some (obE rl au pa e0 e1) := hb6
  replace hU6 : RU G hp rl eR cR mR gR RA n R := hU6
  replace hU9 : AU G hp au al p0 pw eA cA mA gA CA QA k cs sk := hU9
  replace hSB : SBp G hp pa vb cv ml fb pn pt := hSB
  have hn : n ≤ 24 := hU6.2.2.1
  have hk : k ≤ 12 := hU9.2.2.2.1
  have hpn := hSB.2.2.1
  have hd0 : hd 0 = e0 := hHD.1.1
  have hd1 : hd 1 = e1 := hHD.1.2
  have hhd : ∀ i, i < 2 → hd i ≤ 1048575 ∧ strH (hd i) ≤ 20 := hHD.2
  have g_1 : hp b6 = some (.inr (7, [.ref rl, .ref au, .ref pa, .int (nI e0), .int (nI e1)])) := hb6
  have g_2 : hp rl = some (.inr (1, [.int mR, .ref eR, .int (nI n)])) := hU6.1
  have g_3 : hp au = some (.inr (2, [.ref al, .ref p0, .ref pw, .int (bI sk)])) := hU9.1
  have g_4 : hp al = some (.inr (1, [.int mA, .ref eA, .int (nI k)])) := hU9.2.1
  have g_5 : hp pw = some (.inr (4, [.int (cs k 2), .int (cs k 4), .int (cs k 3)])) := hU9.2.2.2.2.2.2.2.1
  have g_6 : hp pa = some (.inr (0, [.ref vb, .int 0, .int (bI ml), .int (nI pn)])) := hSB.1
  have g_7 : hp vb = some (.inl (G.2.1 0, cv, .inl fb)) := hSB.2.1
  have hau0 := g_3
  refine lv_aload_n X.1 X.2.1 dX6_limit_0 rfl (lv_at hl 0 rfl) ?_
  refine lv_iload_n X.1 X.2.1 dX6_limit_1 rfl (lv_at hl 1 rfl) ?_
  refine on_Si (run_V (C := RX6) (As := [.int a]) (rest := []) X (c_X6_isRule l G hp b6 rl au pa e0 e1 g_1 eR mR n hn g_2 a) (rp_blind _) (rp_at X hW.1 hW.2.2) (recv X hW.1 g_1 (C := RX6) (T := TX6) (N := 5) rfl) mf_X6_isRule tw_440 tw_442 tw_9 ⟨rfl, rfl, Nat.le_of_ble_eq_true rfl, Nat.le_of_ble_eq_true rfl⟩ hl.1 rfl rfl (Nat.le_of_ble_eq_true rfl) ⟨Nat.le_of_ble_eq_true rfl, Nat.le_of_ble_eq_true rfl⟩ dX6_limit_2) (fun r_2 q_2 => ?_)
  obtain rfl : r_2 = (inI a 0 ((n : Int) - 1)) := q_2
  refine lv_if_ne (tgt := 10) X.1 X.2.1 dX6_limit_5 (by decide) (fun c_5 => ?_) (fun c_5 => ?_)
  · obtain ⟨xa, hxa, rfl⟩ := ru_nat hn c_5
    refine lv_iload_n X.1 X.2.1 dX6_limit_10 rfl (lv_at hl 2 rfl) ?_
    refine lv_if_lt (tgt := 19) X.1 X.2.1 dX6_limit_11 (by decide) (fun c_11 => ?_) (fun c_11 => ?_)
    · refine lv_bipush (v := (-2)) X.1 X.2.1 dX6_limit_19 (by decide) ?_
      exact wr_i X hr hlk hW ⟨((if_neg c_5).trans (if_pos (Or.inl (show inI b 0 4 = 0 from inJ_z (hi := 4) (by decide) (Or.inl c_11))))).symm, by rw [show gLimit (n, R, hd, k, cs, sk, pn, pt) (nI xa) b d q = (n, R, hd, k, cs, sk, pn, pt) from (if_neg c_5).trans (if_pos (Or.inl (show inI b 0 4 = 0 from inJ_z (hi := 4) (by decide) (Or.inl c_11))))]; exact ⟨rl, au, pa, e0, e1, eR, cR, mR, gR, RA, al, p0, pw, eA, cA, mA, gA, CA, QA, vb, cv, ml, fb, hCC⟩⟩ (Nat.le_of_ble_eq_true rfl) (Nat.le_of_ble_eq_true rfl) dX6_limit_21
    · refine lv_iload_n X.1 X.2.1 dX6_limit_14 rfl (lv_at hl 2 rfl) ?_
      refine lv_iconst (v := 5) X.1 X.2.1 dX6_limit_15 (by decide) ?_
      refine lv_icmp_lt (tgt := 22) X.1 X.2.1 dX6_limit_16 (by decide) (fun c_16 => ?_) (fun c_16 => ?_)
      · have hb9 : ¬ inI b 0 4 = 0 := inJ_o (hi := 4) (by decide) c_11 ((lt_lt (hi := 4) (by decide)).mp c_16)
        obtain ⟨xb, hxb, rfl⟩ := inI_nat (hi := 4) hb9 (by decide)
        refine lv_iload_n X.1 X.2.1 dX6_limit_22 rfl (lv_at hl 3 rfl) ?_
        refine lv_if_lt (tgt := 41) X.1 X.2.1 dX6_limit_23 (by decide) (fun c_23 => ?_) (fun c_23 => ?_)
        · refine lv_bipush (v := (-2)) X.1 X.2.1 dX6_limit_41 (by decide) ?_
          exact wr_i X hr hlk hW ⟨((if_neg c_5).trans (if_pos (Or.inr (Or.inr (inG_z (fun z => absurd (Int32.lt_iff_toInt_lt.mp c_23) (Int.not_lt.mpr z.1))))))).symm, by rw [show gLimit (n, R, hd, k, cs, sk, pn, pt) (nI xa) (nI xb) d q = (n, R, hd, k, cs, sk, pn, pt) from (if_neg c_5).trans (if_pos (Or.inr (Or.inr (inG_z (fun z => absurd (Int32.lt_iff_toInt_lt.mp c_23) (Int.not_lt.mpr z.1))))))]; exact ⟨rl, au, pa, e0, e1, eR, cR, mR, gR, RA, al, p0, pw, eA, cA, mA, gA, CA, QA, vb, cv, ml, fb, hCC⟩⟩ (Nat.le_of_ble_eq_true rfl) (Nat.le_of_ble_eq_true rfl) dX6_limit_43
        · refine lv_iload X.1 X.2.1 dX6_limit_26 (lv_at hl 4 rfl) ?_
          refine lv_iload_n X.1 X.2.1 dX6_limit_28 rfl (lv_at hl 3 rfl) ?_
          refine lv_icmp_lt (tgt := 41) X.1 X.2.1 dX6_limit_29 (by decide) (fun c_29 => ?_) (fun c_29 => ?_)
          · refine lv_bipush (v := (-2)) X.1 X.2.1 dX6_limit_41 (by decide) ?_
            exact wr_i X hr hlk hW ⟨((if_neg c_5).trans (if_pos (Or.inr (Or.inr (inG_z (fun z => absurd (Int32.lt_iff_toInt_lt.mp c_29) (Int.not_lt.mpr z.2))))))).symm, by rw [show gLimit (n, R, hd, k, cs, sk, pn, pt) (nI xa) (nI xb) d q = (n, R, hd, k, cs, sk, pn, pt) from (if_neg c_5).trans (if_pos (Or.inr (Or.inr (inG_z (fun z => absurd (Int32.lt_iff_toInt_lt.mp c_29) (Int.not_lt.mpr z.2))))))]; exact ⟨rl, au, pa, e0, e1, eR, cR, mR, gR, RA, al, p0, pw, eA, cA, mA, gA, CA, QA, vb, cv, ml, fb, hCC⟩⟩ (Nat.le_of_ble_eq_true rfl) (Nat.le_of_ble_eq_true rfl) dX6_limit_43
          · refine lv_iload X.1 X.2.1 dX6_limit_32 (lv_at hl 4 rfl) ?_
            refine lv_iload_n X.1 X.2.1 dX6_limit_34 rfl (lv_at hl 2 rfl) ?_
            refine on_Si (run_S (As := [.int (nI xb)]) (rest := [.int q]) X (c_X1_greatestMeasure l G hp xb (by omega)) (rp_blind _) (rp_at X hW.1 hW.2.2) mf_X1_greatestMeasure tw_444 tw_445 ⟨rfl, rfl, Nat.le_of_ble_eq_true rfl, Nat.le_of_ble_eq_true rfl⟩ hl.1 rfl rfl (Nat.le_of_ble_eq_true rfl) ⟨Nat.le_of_ble_eq_true rfl, Nat.le_of_ble_eq_true rfl⟩ dX6_limit_35) (fun r_35 q_35 => ?_)
            obtain rfl : r_35 = (nI (if xb = 4 then 20 else 5)) := q_35
            refine lv_icmp_le (tgt := 44) X.1 X.2.1 dX6_limit_38 (by decide) (fun c_38 => ?_) (fun c_38 => ?_)
            · have hmx : mxI xb = ((if xb = 4 then 20 else 5 : Nat) : Int) := by unfold mxI; split <;> rfl
              have hm25 : (if xb = 4 then 20 else 5 : Nat) ≤ 20 := by split <;> decide
              have y23 : ¬ d.toInt < 0 := fun z => c_23 (Int32.lt_iff_toInt_lt.mpr z)
              have y29 : ¬ q.toInt < d.toInt := fun z => c_29 (Int32.lt_iff_toInt_lt.mpr z)
              have y38 : q.toInt ≤ ((if xb = 4 then 20 else 5 : Nat) : Int) := by have z := Int32.le_iff_toInt_le.mp c_38; rw [nI_toInt (by omega)] at z; exact z
              have hq9 : ¬ inI q 0 (mxI xb) = 0 := inG_o (by rw [hmx]; omega)
              have hd9 : ¬ inI d 0 q.toInt = 0 := inG_o (by omega)
              obtain ⟨xq, hxq, rfl⟩ := inI_nat (hi := if xb = 4 then 20 else 5) (by rw [← hmx]; exact hq9) (by omega)
              obtain ⟨xd, hxd, rfl⟩ := inI_natT (h := xq) (by omega) hd9
              refine lv_aload_n X.1 X.2.1 dX6_limit_44 rfl (lv_at hl 0 rfl) ?_
              refine r_get X hW.1 g_1 (v := .ref rl) (C := RX6) (T := TX6) (N := 5) rfl tin_X6 0 (by decide) tw_148 (fun _ h => h) rfl dX6_limit_45 ?_
              refine lv_iload_n X.1 X.2.1 dX6_limit_48 rfl (lv_at hl 1 rfl) ?_
              refine on_Sq (run_V (C := RJx4a65c) (As := [.int (nI xa)]) (rest := []) X (c_Jx4a65c_get_915e3 l G hp rl eR n mR hU6.1 cR gR (hU6.2.1.1 (by have := hU6.2.2.2.1; omega)) hU6.2.2.2.1 (Nat.lt_of_le_of_lt hU6.2.2.2.2.1 (by decide)) xa (by omega)) (rp_blind _) (rp_at X hW.1 hW.2.2) (recv X hW.1 g_2 (C := RJx4a65c) (T := TJx4a65c) (N := 3) rfl) mf_Jx4a65c_get_915e3 tw_293 tw_222 tw_223 ⟨rfl, rfl, Nat.le_of_ble_eq_true rfl, Nat.le_of_ble_eq_true rfl⟩ hl.1 rfl rfl (Nat.le_of_ble_eq_true rfl) ⟨Nat.le_of_ble_eq_true rfl, Nat.le_of_ble_eq_true rfl⟩ dX6_limit_49) (fun r_49 q_49 => ?_)
              obtain rfl : r_49 = some (RA xa) := q_49.trans (hU6.2.2.2.2.2.1 xa (by omega)).1
              refine W.eq (g2 := F0 m 52 ls [.ref (RA xa)]) rfl ?_
              refine r_cast X hW.1 (hU6.2.2.2.2.2.1 xa (by omega)).2 (C := RX4) (T := TX4) (N := 6) rfl tw_299 dX6_limit_52 ?_
              refine lv_astore (lv' := [(5, .ref (RA xa)), (0, .ref b6), (1, .int (nI xa)), (2, .int (nI xb)), (3, .int (nI xd)), (4, .int (nI xq))]) X.1 X.2.1 dX6_limit_55 hl (by decide) rfl (fun ls hl => ?_)
              refine lv_aload X.1 X.2.1 dX6_limit_57 (lv_at hl 0 rfl) ?_
              refine lv_iload_n X.1 X.2.1 dX6_limit_59 rfl (lv_at hl 3 rfl) ?_
              refine lv_iload_n X.1 X.2.1 dX6_limit_60 rfl (lv_at hl 4 rfl) ?_
              refine lv_iload X.1 X.2.1 dX6_limit_61 (lv_at hl 5 rfl) ?_
              refine on_Wv (k' := 0) (n' := 0) (run_V (C := RX4) (As := [.int (nI xb), .int (nI xd), .int (nI xq)]) (rest := []) X (c_X4_setRange l G A hp _ (fun q h => hA q (Nat.le_trans hW.2.2.1 h)) hW.2.1 (RA xa) (R xa) (fun j hj => hU6.2.2.2.2.2.2 xa j (by omega) hj) xb (by omega) xd xq (by omega) (by omega) (hU6.2.2.2.2.2.1 xa (by omega)).2) (wp_blind _) (wp_at X hW.1 hW.2.2) (recv X hW.1 (hU6.2.2.2.2.2.1 xa (by omega)).2 (C := RX4) (T := TX4) (N := 6) rfl) mf_X4_setRange tw_447 tw_448 tw_449 ⟨rfl, rfl, Nat.le_of_ble_eq_true rfl, Nat.le_of_ble_eq_true rfl⟩ hl.1 rfl rfl (Nat.le_of_ble_eq_true rfl) ⟨Nat.le_of_ble_eq_true rfl, Nat.le_of_ble_eq_true rfl⟩ dX6_limit_63) hW (by omega) (by omega) (fun hp_8 H locs q_63 hW => ?_)
              have hC1 : CC G hp_8 b6 rl au pa e0 e1 eR cR mR gR RA al p0 pw eA cA mA gA CA QA vb cv ml fb (n, (lmR R xa xb xd xq), hd, k, cs, sk, pn, pt) := cz_rc hCC q_63 hxa (fun j hj => by have z9 := hU6.2.2.2.2.2.2 xa j hxa hj; show (if j = 5 + 2 * xb then xq else if j = 4 + 2 * xb then xd else R xa j) ≤ 25; split; omega; split <;> omega) ((if_neg (by omega)).trans (if_neg (by omega))) ((if_neg (by omega)).trans (if_neg (by omega)))
              have g_9 : hp_8 b6 = some (.inr (7, [.ref rl, .ref au, .ref pa, .int (nI e0), .int (nI e1)])) := hC1.1
              have g_10 : hp_8 au = some (.inr (2, [.ref al, .ref p0, .ref pw, .int (bI sk)])) := hC1.2.2.1.1
              refine lv_aload_n X.1 X.2.1 dX6_limit_66 rfl (lv_at hl 1 rfl) ?_
              refine r_get X hW.1 g_9 (v := .ref au) (C := RX6) (T := TX6) (N := 5) rfl tin_X6 1 (by decide) tw_149 (fun _ h => h) rfl dX6_limit_67 ?_
              refine on_Wv (k' := 0) (n' := 0) (run_V (C := RX0) (As := []) (rest := []) X (c_X0_restart l G A hp_8 _ (fun q h => hA q (Nat.le_trans hW.2.2.1 h)) hW.2.1 au al p0 pw eA cA mA gA CA QA k cs sk hC1.2.2.1) (wp_blind _) (wp_at X hW.1 hW.2.2) (recv X hW.1 g_10 (C := RX0) (T := TX0) (N := 4) rfl) mf_X0_restart tw_174 tw_175 tw_176 ⟨rfl, rfl, Nat.le_of_ble_eq_true rfl, Nat.le_of_ble_eq_true rfl⟩ hl.1 rfl rfl (Nat.le_of_ble_eq_true rfl) ⟨Nat.le_of_ble_eq_true rfl, Nat.le_of_ble_eq_true rfl⟩ dX6_limit_70) hW (by omega) (by omega) (fun hp_11 H locs q_70 hW => ?_)
              obtain ⟨mA1, g1, hA1, hK1⟩ := q_70
              have hU1 := hC1.2.1.af hC1.2.2.1 hK1 hC1.2.2.2.2.2.1.1 hC1.2.2.2.2.2.1.2.1
              have g_12 : hp_11 b6 = some (.inr (7, [.ref rl, .ref au, .ref pa, .int (nI e0), .int (nI e1)])) := ob_af hC1.1 hC1.2.2.1 hK1
              have hrx : hp_11 (RA xa) = some (rcE ((lmR R xa xb xd xq) xa)) := (hU1.2.2.2.2.2.1 xa hxa).2
              refine lv_aload_n X.1 X.2.1 dX6_limit_73 rfl (lv_at hl 1 rfl) ?_
              refine lv_aload X.1 X.2.1 dX6_limit_74 (lv_at hl 0 rfl) ?_
              refine on_Si (run_V (C := RX6) (As := [.ref (RA xa)]) (rest := []) X (c_X6_countAdmitted l G hp_11 b6 (RA xa) ((lmR R xa xb xd xq) xa) (fun j hj => hU1.2.2.2.2.2.2 xa j hxa hj) hrx) (rp_blind _) (rp_at X hW.1 hW.2.2) (recv X hW.1 g_12 (C := RX6) (T := TX6) (N := 5) rfl) mf_X6_countAdmitted tw_451 tw_453 tw_10 ⟨rfl, rfl, Nat.le_of_ble_eq_true rfl, Nat.le_of_ble_eq_true rfl⟩ hl.1 rfl rfl (Nat.le_of_ble_eq_true rfl) ⟨Nat.le_of_ble_eq_true rfl, Nat.le_of_ble_eq_true rfl⟩ dX6_limit_76) (fun r_76 q_76 => ?_)
              obtain rfl : r_76 = (nI (cntF (fitB ((lmR R xa xb xd xq) xa)) 15504)) := q_76
              exact wr_i X hr hlk hW ⟨(by rw [show fLimit (n, R, hd, k, cs, sk, pn, pt) (nI xa) (nI xb) (nI xd) (nI xq) = _ from (if_neg c_5).trans (if_neg (fun z9 => Or.elim z9 hb9 (fun z9 => Or.elim z9 (by rw [tn_n (by omega)]; exact hq9) hd9))), tn_n (by omega), tn_n (by omega), tn_n (by omega), tn_n (by omega)]), by rw [show gLimit (n, R, hd, k, cs, sk, pn, pt) (nI xa) (nI xb) (nI xd) (nI xq) = _ from (if_neg c_5).trans (if_neg (fun z9 => Or.elim z9 hb9 (fun z9 => Or.elim z9 (by rw [tn_n (by omega)]; exact hq9) hd9))), tn_n (by omega), tn_n (by omega), tn_n (by omega), tn_n (by omega)]; exact cz_au hC1 hA1 hK1 (Or.inl ⟨rfl, rfl⟩)⟩ (Nat.le_of_ble_eq_true rfl) (Nat.le_of_ble_eq_true rfl) dX6_limit_79
            · refine lv_bipush (v := (-2)) X.1 X.2.1 dX6_limit_41 (by decide) ?_
              exact wr_i X hr hlk hW ⟨((if_neg c_5).trans (if_pos (Or.inr (Or.inl (by rw [tn_n (by omega)]; exact lm_hi c_38))))).symm, by rw [show gLimit (n, R, hd, k, cs, sk, pn, pt) (nI xa) (nI xb) d q = (n, R, hd, k, cs, sk, pn, pt) from (if_neg c_5).trans (if_pos (Or.inr (Or.inl (by rw [tn_n (by omega)]; exact lm_hi c_38))))]; exact ⟨rl, au, pa, e0, e1, eR, cR, mR, gR, RA, al, p0, pw, eA, cA, mA, gA, CA, QA, vb, cv, ml, fb, hCC⟩⟩ (Nat.le_of_ble_eq_true rfl) (Nat.le_of_ble_eq_true rfl) dX6_limit_43
      · refine lv_bipush (v := (-2)) X.1 X.2.1 dX6_limit_19 (by decide) ?_
        exact wr_i X hr hlk hW ⟨((if_neg c_5).trans (if_pos (Or.inl (show inI b 0 4 = 0 from inJ_z (hi := 4) (by decide) (Or.inr (Decidable.not_not.mp (fun q => c_16 ((lt_lt (hi := 4) (by decide)).mpr q)))))))).symm, by rw [show gLimit (n, R, hd, k, cs, sk, pn, pt) (nI xa) b d q = (n, R, hd, k, cs, sk, pn, pt) from (if_neg c_5).trans (if_pos (Or.inl (show inI b 0 4 = 0 from inJ_z (hi := 4) (by decide) (Or.inr (Decidable.not_not.mp (fun q => c_16 ((lt_lt (hi := 4) (by decide)).mpr q)))))))]; exact ⟨rl, au, pa, e0, e1, eR, cR, mR, gR, RA, al, p0, pw, eA, cA, mA, gA, CA, QA, vb, cv, ml, fb, hCC⟩⟩ (Nat.le_of_ble_eq_true rfl) (Nat.le_of_ble_eq_true rfl) dX6_limit_21
  · refine lv_iconst (v := (-1)) X.1 X.2.1 dX6_limit_8 (by decide) ?_
    exact wr_i X hr hlk hW ⟨(if_pos c_5).symm, by rw [show gLimit (n, R, hd, k, cs, sk, pn, pt) a b d q = (n, R, hd, k, cs, sk, pn, pt) from if_pos c_5]; exact ⟨rl, au, pa, e0, e1, eR, cR, mR, gR, RA, al, p0, pw, eA, cA, mA, gA, CA, QA, vb, cv, ml, fb, hCC⟩⟩ (Nat.le_of_ble_eq_true rfl) (Nat.le_of_ble_eq_true rfl) dX6_limit_9
