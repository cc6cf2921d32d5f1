def pG (S : Nat → Nat) (i : Nat) : Nat := match i with
  | 0 => 0
  | i + 1 => S (bsF S i)
def pB (S : Nat → Nat) (i : Nat) : Nat := match i with
  | 0 => 0
  | i + 1 => bsF S i
theorem pG_yes {S : Nat → Nat} {i : Nat} (h : pG S i ≤ S i) : pG S (i + 1) = S i ∧ pB S (i + 1) = i := by
  cases i with
  | zero => exact ⟨rfl, rfl⟩
  | succ i =>
    have e : bsF S (i + 1) = i + 1 := bsF_yes h
    exact ⟨congrArg S e, e⟩
theorem pG_no {S : Nat → Nat} {i : Nat} (h : ¬ pG S i ≤ S i) : pG S (i + 1) = pG S i ∧ pB S (i + 1) = pB S i := by
  cases i with
  | zero => exact absurd (Nat.zero_le _) h
  | succ i =>
    have e : bsF S (i + 1) = bsF S i := bsF_no h
    exact ⟨congrArg S e, e⟩
theorem pG_le {S : Nat → Nat} {m : Nat} (h : ∀ j, S j ≤ m) (i : Nat) : pG S i ≤ m := by
  cases i with
  | zero => exact Nat.zero_le _
  | succ i => exact h _
theorem pB_le {S : Nat → Nat} (i : Nat) : pB S i ≤ i := by
  cases i with
  | zero => exact Nat.le_refl _
  | succ i => exact Nat.le_trans (bsF_le S i) (Nat.le_succ i)
def shV (x : Bool × Nat) : Int32 := if x.1 = true then nI x.2 else -6
theorem shV_no {x : Bool × Nat} (hx : x.2 < 2 ^ 20) (h : shV x = -6) : ¬ x.1 = true := fun q => by
  unfold shV at h
  rw [if_pos q] at h
  exact absurd (h ▸ nI_pos' (Nat.lt_trans hx (by decide)) : (0 : Int32) ≤ -6) (by decide)
theorem shV_ye {x : Bool × Nat} (h : ¬ shV x = -6) : x.1 = true := by
  by_cases q : x.1 = true
  · exact q
  · exact absurd (if_neg q) h
set_option maxHeartbeats 4000000 in
set_option maxRecDepth 100000 in
theorem c_X6_expected (l : Launch) (G : HG) (hp : HP) (b6 : Nat) (n : Nat) (R : Nat → Nat → Nat) (hd : Nat → Nat) (k : Nat) (cs : Nat → Nat → Int32) (sk : Bool) (pn : Nat) (pt : Nat → Nat) (hz : CZ G hp b6 (n, R, hd, k, cs, sk, pn, pt)) (a b : Int32) : Met l yX6_expected [.code yX6_expected cX6_expected 3 (some .long)] { frames := 7, cells := 0, slots := 0, locals := 163 } (va_Pc [.ref b6, .int a, .int b] (RP G hp)) (vp_Sl (fun r => r = fExp (n, R, hd, k, cs, sk, pn, pt) a b)) 0 0 (fun _ => False) := by
  refine ro_ofW (by decide) (Nat.le_of_ble_eq_true rfl) ?_
  intro p e s m args below meth c ls X hr hlk hH hl
  have hS : va_S (fun _ => False) s.heap s.heap [] := va_S.rf
  have hl : lv_has ls 3 [(0, .ref b6), (1, .int a), (2, .int b)] := hl
  obtain ⟨rl, au, pa, e0, e1, eR, cR, mR, gR, RA, al, p0, pw, eA, cA, mA, gA, CA, QA, vb, cv, ml, fb, hb6, hU6, hU9, hSB, hHD, hDJ, huq⟩ := hz
  replace hb6 : hp b6 = some (obE rl au pa e0 e1) := hb6
  replace hU6 : RU G hp rl eR cR mR gR RA n R := hU6
  replace hU9 : AU G hp au al p0 pw eA cA mA gA CA QA k cs sk := hU9
  replace hSB : SBp G hp pa vb cv ml fb pn pt := hSB
  have hn : n ≤ 24 := hU6.2.2.1
  have hk : k ≤ 12 := hU9.2.2.2.1
  have hpn := hSB.2.2.1
  have hd0 : hd 0 = e0 := hHD.1.1
  have hd1 : hd 1 = e1 := hHD.1.2
  have hhd : ∀ i, i < 2 → hd i ≤ 1048575 ∧ strH (hd i) ≤ 20 := hHD.2
  refine lv_iload_n X.1 X.2.1 dX6_expected_0 rfl (lv_at hl 1 rfl) ?_
  refine on_Si (run_S (As := [.int a]) (rest := []) X (c_X6_isPartner l G hp a) (rp_blind _) (rp_at X hH hS) mf_X6_isPartner tw_186 tw_187 ⟨rfl, rfl, Nat.le_of_ble_eq_true rfl, Nat.le_of_ble_eq_true rfl⟩ hl.1 rfl rfl (Nat.le_of_ble_eq_true rfl) ⟨Nat.le_of_ble_eq_true rfl, Nat.le_of_ble_eq_true rfl⟩ dX6_expected_1) (fun r_1 q_1 => ?_)
  obtain rfl : r_1 = (inI a 0 1) := q_1
  refine lv_if_ne (tgt := 11) X.1 X.2.1 dX6_expected_4 (by decide) (fun c_4 => ?_) (fun c_4 => ?_)
  · obtain ⟨xa, hxa, rfl⟩ := inI_nat (hi := 1) c_4 (by decide)
    refine lv_iload_n X.1 X.2.1 dX6_expected_11 rfl (lv_at hl 2 rfl) ?_
    refine on_Si (run_S (As := [.int b]) (rest := []) X (c_X6_isStrain l G hp b) (rp_blind _) (rp_at X hH hS) mf_X6_isStrain tw_313 tw_314 ⟨rfl, rfl, Nat.le_of_ble_eq_true rfl, Nat.le_of_ble_eq_true rfl⟩ hl.1 rfl rfl (Nat.le_of_ble_eq_true rfl) ⟨Nat.le_of_ble_eq_true rfl, Nat.le_of_ble_eq_true rfl⟩ dX6_expected_12) (fun r_12 q_12 => ?_)
    obtain rfl : r_12 = (inI b 0 4) := q_12
    refine lv_if_ne (tgt := 22) X.1 X.2.1 dX6_expected_15 (by decide) (fun c_15 => ?_) (fun c_15 => ?_)
    · obtain ⟨xb, hxb, rfl⟩ := inI_nat (hi := 4) c_15 (by decide)
      refine lv_aload_n X.1 X.2.1 dX6_expected_22 rfl (lv_at hl 0 rfl) ?_
      refine lv_iload_n X.1 X.2.1 dX6_expected_23 rfl (lv_at hl 1 rfl) ?_
      refine lv_iload_n X.1 X.2.1 dX6_expected_24 rfl (lv_at hl 2 rfl) ?_
      refine on_Sl (run_V (C := RX6) (As := [.int (nI xa), .int (nI xb)]) (rest := []) X (c_X6_sumOfTricks l G hp b6 rl au pa e0 e1 hb6 eR cR mR gR RA n R hU6 al p0 pw eA cA mA gA CA QA k cs sk hU9 xa xb (hd xa) (by omega) (by omega) (hd_of hd0 hd1 (by omega)).symm (hhd xa (by omega)).1) (rp_blind _) (rp_at X hH hS) (recv X hH hb6 (C := RX6) (T := TX6) (N := 5) rfl) mf_X6_sumOfTricks tw_566 tw_568 tw_13 ⟨rfl, rfl, Nat.le_of_ble_eq_true rfl, Nat.le_of_ble_eq_true rfl⟩ hl.1 rfl rfl (Nat.le_of_ble_eq_true rfl) ⟨Nat.le_of_ble_eq_true rfl, Nat.le_of_ble_eq_true rfl⟩ dX6_expected_25) (fun r_25 q_25 => ?_)
      obtain rfl : r_25 = lN (suT n R hd k cs sk xa xb) := q_25
      exact ro_l X hr hlk (ex_fin (by omega) (by omega) c_4 c_15 pn pt).symm dX6_expected_28
    · refine r_const2 X tw_565 dX6_expected_18 ?_
      exact ro_l X hr hlk (by show (_ : Int64) = _; unfold fExp; rw [if_neg c_4, if_pos c_15]) dX6_expected_21
  · refine r_const2 X tw_564 dX6_expected_7 ?_
    exact ro_l X hr hlk (by show (_ : Int64) = _; unfold fExp; rw [if_pos c_4]) dX6_expected_10

set_option maxHeartbeats 4000000 in
set_option maxRecDepth 100000 in
theorem c_X6_contract (l : Launch) (G : HG) (hp : HP) (b6 : Nat) (n : Nat) (R : Nat → Nat → Nat) (hd : Nat → Nat) (k : Nat) (cs : Nat → Nat → Int32) (sk : Bool) (pn : Nat) (pt : Nat → Nat) (hz : CZ G hp b6 (n, R, hd, k, cs, sk, pn, pt)) (a : Int32) : Met l yX6_contract [.code yX6_contract cX6_contract 9 (some .int)] { frames := 7, cells := 0, slots := 0, locals := 163 } (va_Pc [.ref b6, .int a] (RP G hp)) (vp_Si (fun r => r = fCon (n, R, hd, k, cs, sk, pn, pt) a)) 0 0 (fun _ => False) := by
  refine ro_ofW (by decide) (Nat.le_of_ble_eq_true rfl) ?_
  intro p e s m args below meth c ls X hr hlk hH hl
  have hS : va_S (fun _ => False) s.heap s.heap [] := va_S.rf
  have hl : lv_has ls 9 [(0, .ref b6), (1, .int a)] := hl
  obtain ⟨rl, au, pa, e0, e1, eR, cR, mR, gR, RA, al, p0, pw, eA, cA, mA, gA, CA, QA, vb, cv, ml, fb, hb6, hU6, hU9, hSB, hHD, hDJ, huq⟩ := hz
  replace hb6 : hp b6 = some (obE rl au pa e0 e1) := hb6
  replace hU6 : RU G hp rl eR cR mR gR RA n R := hU6
  replace hU9 : AU G hp au al p0 pw eA cA mA gA CA QA k cs sk := hU9
  replace hSB : SBp G hp pa vb cv ml fb pn pt := hSB
  have hn : n ≤ 24 := hU6.2.2.1
  have hk : k ≤ 12 := hU9.2.2.2.1
  have hpn := hSB.2.2.1
  have hd0 : hd 0 = e0 := hHD.1.1
  have hd1 : hd 1 = e1 := hHD.1.2
  have hhd : ∀ i, i < 2 → hd i ≤ 1048575 ∧ strH (hd i) ≤ 20 := hHD.2
  refine lv_iload_n X.1 X.2.1 dX6_contract_0 rfl (lv_at hl 1 rfl) ?_
  refine on_Si (run_S (As := [.int a]) (rest := []) X (c_X6_isPartner l G hp a) (rp_blind _) (rp_at X hH hS) mf_X6_isPartner tw_186 tw_187 ⟨rfl, rfl, Nat.le_of_ble_eq_true rfl, Nat.le_of_ble_eq_true rfl⟩ hl.1 rfl rfl (Nat.le_of_ble_eq_true rfl) ⟨Nat.le_of_ble_eq_true rfl, Nat.le_of_ble_eq_true rfl⟩ dX6_contract_1) (fun r_1 q_1 => ?_)
  obtain rfl : r_1 = (inI a 0 1) := q_1
  refine lv_if_ne (tgt := 9) X.1 X.2.1 dX6_contract_4 (by decide) (fun c_4 => ?_) (fun c_4 => ?_)
  · obtain ⟨xa, hxa, rfl⟩ := inI_nat (hi := 1) c_4 (by decide)
    refine lv_aload_n X.1 X.2.1 dX6_contract_9 rfl (lv_at hl 0 rfl) ?_
    refine lv_iconst (v := 1) X.1 X.2.1 dX6_contract_10 (by decide) ?_
    refine lv_iload_n X.1 X.2.1 dX6_contract_11 rfl (lv_at hl 1 rfl) ?_
    refine lv_isub X.1 X.2.1 dX6_contract_12 ?_
    refine r_eqi (show (((1 : Int32) - (nI xa)) : Int32) = nI (1 - xa) from pk_sub (a := 1) (b := xa) (by omega)) ?_
    refine lv_aload_n X.1 X.2.1 dX6_contract_13 rfl (lv_at hl 0 rfl) ?_
    refine lv_iload_n X.1 X.2.1 dX6_contract_14 rfl (lv_at hl 1 rfl) ?_
    refine on_Si (run_V (C := RX6) (As := [.int (nI xa)]) (rest := [.int (nI (1 - xa)), .ref b6]) X (c_X6_handOf l G hp b6 rl au pa e0 e1 hb6 xa (by omega)) (rp_blind _) (rp_at X hH hS) (recv X hH hb6 (C := RX6) (T := TX6) (N := 5) rfl) mf_X6_handOf tw_189 tw_191 tw_0 ⟨rfl, rfl, Nat.le_of_ble_eq_true rfl, Nat.le_of_ble_eq_true rfl⟩ hl.1 rfl rfl (Nat.le_of_ble_eq_true rfl) ⟨Nat.le_of_ble_eq_true rfl, Nat.le_of_ble_eq_true rfl⟩ dX6_contract_15) (fun r_15 q_15 => ?_)
    obtain rfl : r_15 = nI (hd xa) := q_15.trans (congrArg nI (hd_of hd0 hd1 (by omega)))
    refine on_Si (run_V (C := RX6) (As := [.int (nI (1 - xa)), .int (nI (hd xa))]) (rest := []) X (c_X6_countHidden l G hp b6 rl au pa e0 e1 hb6 eR cR mR gR RA n R hU6 al p0 pw eA cA mA gA CA QA k cs sk hU9 (1 - xa) (hd xa) (by omega)) (rp_blind _) (rp_at X hH hS) (recv X hH hb6 (C := RX6) (T := TX6) (N := 5) rfl) mf_X6_countHidden tw_541 tw_543 tw_11 ⟨rfl, rfl, Nat.le_of_ble_eq_true rfl, Nat.le_of_ble_eq_true rfl⟩ hl.1 rfl rfl (Nat.le_of_ble_eq_true rfl) ⟨Nat.le_of_ble_eq_true rfl, Nat.le_of_ble_eq_true rfl⟩ dX6_contract_18) (fun r_18 q_18 => ?_)
    obtain rfl : r_18 = (nI (cntF (hidB n R k cs sk (1 - xa) (hd xa)) 15504)) := q_18
    have hcn : fCon (n, R, hd, k, cs, sk, pn, pt) (nI xa) = coN (suT n R hd k cs sk xa) (hmN n R hd k cs sk xa) := ls_fin (by omega) c_4 pn pt
    have hsu := fun j => suT_le n R hd k cs sk xa j
    have hhm := hmN_le n R hd k cs sk xa
    have hSg : (fun t => suT n R hd k cs sk xa t) = suT n R hd k cs sk xa := rfl
    obtain ⟨S9, hSg⟩ : ∃ S9, suT n R hd k cs sk xa = S9 := ⟨_, rfl⟩
    rw [hSg] at hcn hsu
    obtain ⟨m9, hmg⟩ : ∃ m9, hmN n R hd k cs sk xa = m9 := ⟨_, rfl⟩
    rw [hmg] at hcn hsu hhm
    have hbs := bsF_le S9 4
    have hs4 := hsu (bsF S9 4)
    refine r_eqi (show ((nI (cntF (hidB n R k cs sk (1 - xa) (hd xa)) 15504)) : Int32) = nI m9 from congrArg nI hmg) ?_
    refine lv_istore_n (lv' := [(2, .int (nI m9)), (0, .ref b6), (1, .int (nI xa))]) X.1 X.2.1 dX6_contract_21 rfl hl (by decide) rfl (fun ls hl => ?_)
    refine lv_iload_n X.1 X.2.1 dX6_contract_22 rfl (lv_at hl 0 rfl) ?_
    refine lv_if_ne (tgt := 29) X.1 X.2.1 dX6_contract_23 (by decide) (fun c_23 => ?_) (fun c_23 => ?_)
    · have k_23 := k_ne (a := m9) (b := 0) (by omega) (by omega) c_23
      refine lv_lconst (v := 0) X.1 X.2.1 dX6_contract_29 (by decide) ?_
      refine lv_lstore_n (lv' := [(3, .long 0), (2, .int (nI m9)), (0, .ref b6), (1, .int (nI xa))]) X.1 X.2.1 dX6_contract_30 rfl hl (by decide) rfl (fun ls hl => ?_)
      refine lv_iconst (v := 0) X.1 X.2.1 dX6_contract_31 (by decide) ?_
      refine lv_istore (lv' := [(5, .int 0), (3, .long 0), (2, .int (nI m9)), (0, .ref b6), (1, .int (nI xa))]) X.1 X.2.1 dX6_contract_32 hl (by decide) rfl (fun ls hl => ?_)
      refine lv_iconst (v := 0) X.1 X.2.1 dX6_contract_34 (by decide) ?_
      refine lv_istore (lv' := [(6, .int 0), (5, .int 0), (3, .long 0), (2, .int (nI m9)), (0, .ref b6), (1, .int (nI xa))]) X.1 X.2.1 dX6_contract_35 hl (by decide) rfl (fun ls hl => ?_)
      rw [show (0 : Int64) = lN (pG S9 0) from rfl] at hl
      have L37 : ∀ (f : Nat) (i : Nat), i + f = 5 → ∀ ls, lv_has ls 9 [(0, .ref b6), (1, .int (nI xa)), (2, .int (nI m9)), (3, .long (lN (pG S9 i))), (5, .int (nI (pB S9 i))), (6, .int (nI i))] → W p l e ({ frames := 7, cells := 0, slots := 0, locals := 163 } : Room) s m args below meth c s.heap [] 0 0 (MQ below (vp_Si (fun r => r = fCon (n, R, hd, k, cs, sk, pn, pt) (nI xa))) args s 0 0 (fun _ => False)) (F0 m 37 ls []) := by
        intro f
        induction f with
        | zero =>
          intro i h0 ls hl
          have hpb := pB_le (S := S9) i
          have hpg := pG_le hsu i
          refine lv_iload X.1 X.2.1 dX6_contract_37 (lv_at hl 5 rfl) ?_
          refine lv_iconst (v := 4) X.1 X.2.1 dX6_contract_39 (by decide) ?_
          refine lv_icmp_gt (tgt := 72) X.1 X.2.1 dX6_contract_40 (by decide) (fun c_40 => ?_) (fun c_40 => absurd (nI_lt (a := 4) (b := i) (by omega) (by omega)) c_40)
          obtain rfl : i = 5 := by omega
          refine lv_lload_n X.1 X.2.1 dX6_contract_72 rfl (lv_at hl 3 rfl) ?_
          refine lv_iload_n X.1 X.2.1 dX6_contract_73 rfl (lv_at hl 2 rfl) ?_
          refine lv_i2l X.1 X.2.1 dX6_contract_74 rfl ?_
          refine r_eql (show (((nI m9).toInt64) : Int64) = lN m9 from nI_l (by omega)) ?_
          refine lv_ldiv X.1 X.2.1 dX6_contract_75 (fun q9 => k_23 ((lN_eq (by omega) (by decide)).mp q9)) ?_
          refine r_eql (show (((lN (pG S9 5)) / (lN m9)) : Int64) = lN (S9 (bsF S9 4) / m9) from pk_lDiv (a := S9 (bsF S9 4)) (by omega) (by omega) (by omega)) ?_
          refine lv_l2i X.1 X.2.1 dX6_contract_76 rfl ?_
          refine r_eqi (show (((lN (S9 (bsF S9 4) / m9)).toInt32) : Int32) = nI (S9 (bsF S9 4) / m9) from lN_i _) ?_
          refine lv_istore (lv' := [(6, .int (nI (S9 (bsF S9 4) / m9))), (0, .ref b6), (1, .int (nI xa)), (2, .int (nI m9)), (3, .long (lN (pG S9 5))), (5, .int (nI (pB S9 5)))]) X.1 X.2.1 dX6_contract_77 hl (by decide) rfl (fun ls hl => ?_)
          refine lv_iload X.1 X.2.1 dX6_contract_79 (lv_at hl 0 rfl) ?_
          have hq : S9 (bsF S9 4) / m9 ≤ 5 := Nat.div_le_of_le_mul (by rw [Nat.mul_comm]; exact hs4)
          refine lv_if_ne (tgt := 89) X.1 X.2.1 dX6_contract_81 (by decide) (fun c_81 => ?_) (fun c_81 => ?_)
          · have k_81 := k_ne (a := (S9 (bsF S9 4) / m9)) (b := 0) (by omega) (by omega) c_81
            refine lv_iload X.1 X.2.1 dX6_contract_89 (lv_at hl 0 rfl) ?_
            refine lv_iconst (v := 1) X.1 X.2.1 dX6_contract_91 (by decide) ?_
            refine lv_isub X.1 X.2.1 dX6_contract_92 ?_
            refine r_eqi (show (((nI (S9 (bsF S9 4) / m9)) - 1) : Int32) = nI ((S9 (bsF S9 4) / m9) - 1) from pk_sub (a := (S9 (bsF S9 4) / m9)) (b := 1) (Nat.pos_of_ne_zero k_81)) ?_
            refine lv_iconst (v := 5) X.1 X.2.1 dX6_contract_93 (by decide) ?_
            refine lv_imul X.1 X.2.1 dX6_contract_94 ?_
            refine r_eqi (show (((nI ((S9 (bsF S9 4) / m9) - 1)) * 5) : Int32) = nI (((S9 (bsF S9 4) / m9) - 1) * 5) from pk_mul ((S9 (bsF S9 4) / m9) - 1) 5) ?_
            refine lv_iload X.1 X.2.1 dX6_contract_95 (lv_at hl 5 rfl) ?_
            refine lv_iadd X.1 X.2.1 dX6_contract_97 ?_
            refine r_eqi (show (((nI (((S9 (bsF S9 4) / m9) - 1) * 5)) + (nI (pB S9 5))) : Int32) = nI ((((S9 (bsF S9 4) / m9) - 1) * 5) + (pB S9 5)) from nI_add (((S9 (bsF S9 4) / m9) - 1) * 5) (pB S9 5)) ?_
            exact ro_i X hr hlk ((show nI ((S9 (bsF S9 4) / m9 - 1) * 5 + bsF S9 4) = nI (5 * (S9 (bsF S9 4) / m9 - 1) + bsF S9 4) from by rw [Nat.mul_comm]).trans ((con_2 k_23 k_81).trans hcn.symm)) dX6_contract_98
          · have k_81 := k_eq (a := (S9 (bsF S9 4) / m9)) (b := 0) (by omega) (by omega) c_81
            refine lv_bipush (v := (-6)) X.1 X.2.1 dX6_contract_84 (by decide) ?_
            refine lv_goto (tgt := 98) X.1 X.2.1 dX6_contract_86 (by decide) ?_
            exact ro_i X hr hlk ((con_1 k_23 k_81).trans hcn.symm) dX6_contract_98
        | succ f ih =>
          intro i h0 ls hl
          have hpb := pB_le (S := S9) i
          have hpg := pG_le hsu i
          have hsi := hsu i
          refine lv_iload X.1 X.2.1 dX6_contract_37 (lv_at hl 5 rfl) ?_
          refine lv_iconst (v := 4) X.1 X.2.1 dX6_contract_39 (by decide) ?_
          refine lv_icmp_gt (tgt := 72) X.1 X.2.1 dX6_contract_40 (by decide) (fun c_40 => absurd c_40 (nI_nlt (a := 4) (b := i) (by omega) (by omega))) (fun c_40 => ?_)
          refine lv_aload_n X.1 X.2.1 dX6_contract_43 rfl (lv_at hl 0 rfl) ?_
          refine lv_iload_n X.1 X.2.1 dX6_contract_44 rfl (lv_at hl 1 rfl) ?_
          refine lv_iload X.1 X.2.1 dX6_contract_45 (lv_at hl 5 rfl) ?_
          refine on_Sl (run_V (C := RX6) (As := [.int (nI xa), .int (nI i)]) (rest := []) X (c_X6_sumOfTricks l G hp b6 rl au pa e0 e1 hb6 eR cR mR gR RA n R hU6 al p0 pw eA cA mA gA CA QA k cs sk hU9 xa i (hd xa) (by omega) (by omega) (hd_of hd0 hd1 (by omega)).symm (hhd xa (by omega)).1) (rp_blind _) (rp_at X hH hS) (recv X hH hb6 (C := RX6) (T := TX6) (N := 5) rfl) mf_X6_sumOfTricks tw_566 tw_568 tw_13 ⟨rfl, rfl, Nat.le_of_ble_eq_true rfl, Nat.le_of_ble_eq_true rfl⟩ hl.1 rfl rfl (Nat.le_of_ble_eq_true rfl) ⟨Nat.le_of_ble_eq_true rfl, Nat.le_of_ble_eq_true rfl⟩ dX6_contract_47) (fun r_47 q_47 => ?_)
          obtain rfl : r_47 = lN (S9 i) := q_47.trans (congrArg lN (congrFun hSg i))
          refine lv_lstore (lv' := [(7, .long (lN (S9 i))), (0, .ref b6), (1, .int (nI xa)), (2, .int (nI m9)), (3, .long (lN (pG S9 i))), (5, .int (nI (pB S9 i))), (6, .int (nI i))]) X.1 X.2.1 dX6_contract_50 hl (by decide) rfl (fun ls hl => ?_)
          refine lv_lload X.1 X.2.1 dX6_contract_52 (lv_at hl 0 rfl) ?_
          refine lv_lload_n X.1 X.2.1 dX6_contract_54 rfl (lv_at hl 4 rfl) ?_
          refine r_lcmp X.1 X.2.1 dX6_contract_55 ?_
          refine lv_if_lt (tgt := 66) X.1 X.2.1 dX6_contract_56 (by decide) (fun c_56 => ?_) (fun c_56 => ?_)
          · have hle : ¬ pG S9 i ≤ S9 i := by have q9 := (pk_lLT (by omega) (by omega)).mp (lcI_lt.mp c_56); omega
            refine lv_iinc (v := (nI (i + 1))) (lv' := [(6, .int (nI (i + 1))), (7, .long (lN (S9 i))), (0, .ref b6), (1, .int (nI xa)), (2, .int (nI m9)), (3, .long (lN (pG S9 i))), (5, .int (nI (pB S9 i)))]) X.1 X.2.1 dX6_contract_66 hl (k := 6) rfl (nI_add i 1) (by decide) rfl (fun ls hl => ?_)
            refine lv_goto (tgt := 37) X.1 X.2.1 dX6_contract_69 (by decide) ?_
            exact ih (i + 1) (by omega) ls (by rw [(pG_no hle).1, (pG_no hle).2]; exact (lv_sub hl [2, 3, 4, 5, 6, 0] rfl))
          · have hle : pG S9 i ≤ S9 i := Nat.not_lt.mp (fun q9 => c_56 (lcI_lt.mpr ((pk_lLT (by omega) (by omega)).mpr q9)))
            refine lv_lload X.1 X.2.1 dX6_contract_59 (lv_at hl 0 rfl) ?_
            refine lv_lstore_n (lv' := [(3, .long (lN (S9 i))), (7, .long (lN (S9 i))), (0, .ref b6), (1, .int (nI xa)), (2, .int (nI m9)), (5, .int (nI (pB S9 i))), (6, .int (nI i))]) X.1 X.2.1 dX6_contract_61 rfl hl (by decide) rfl (fun ls hl => ?_)
            refine lv_iload X.1 X.2.1 dX6_contract_62 (lv_at hl 6 rfl) ?_
            refine lv_istore (lv' := [(5, .int (nI i)), (3, .long (lN (S9 i))), (7, .long (lN (S9 i))), (0, .ref b6), (1, .int (nI xa)), (2, .int (nI m9)), (6, .int (nI i))]) X.1 X.2.1 dX6_contract_64 hl (by decide) rfl (fun ls hl => ?_)
            refine lv_iinc (v := (nI (i + 1))) (lv' := [(6, .int (nI (i + 1))), (5, .int (nI i)), (3, .long (lN (S9 i))), (7, .long (lN (S9 i))), (0, .ref b6), (1, .int (nI xa)), (2, .int (nI m9))]) X.1 X.2.1 dX6_contract_66 hl (k := 6) rfl (nI_add i 1) (by decide) rfl (fun ls hl => ?_)
            refine lv_goto (tgt := 37) X.1 X.2.1 dX6_contract_69 (by decide) ?_
            exact ih (i + 1) (by omega) ls (by rw [(pG_yes hle).1, (pG_yes hle).2]; exact (lv_sub hl [4, 5, 6, 2, 1, 0] rfl))
      exact L37 5 0 rfl ls (lv_sub hl [4, 5, 3, 2, 1, 0] rfl)
    · have k_23 := k_eq (a := m9) (b := 0) (by omega) (by omega) c_23
      refine lv_bipush (v := (-6)) X.1 X.2.1 dX6_contract_26 (by decide) ?_
      exact ro_i X hr hlk ((con_0 k_23).trans hcn.symm) dX6_contract_28
  · refine lv_iconst (v := (-1)) X.1 X.2.1 dX6_contract_7 (by decide) ?_
    exact ro_i X hr hlk (by show (_ : Int32) = _; unfold fCon; rw [if_pos c_4]) dX6_contract_8

set_option maxHeartbeats 4000000 in
set_option maxRecDepth 100000 in
theorem c_X6_shown (l : Launch) (G : HG) (hp : HP) (b6 : Nat) (n : Nat) (R : Nat → Nat → Nat) (hd : Nat → Nat) (k : Nat) (cs : Nat → Nat → Int32) (sk : Bool) (pn : Nat) (pt : Nat → Nat) (hz : CZ G hp b6 (n, R, hd, k, cs, sk, pn, pt)) (a b d : Int32) : Met l yX6_shown [.code yX6_shown cX6_shown 8 (some .int)] { frames := 6, cells := 0, slots := 0, locals := 136 } (va_Pc [.ref b6, .int a, .int b, .int d] (RP G hp)) (vp_Si (fun r => r = fShown n R k cs sk a b d)) 0 0 (fun _ => False) := by
  refine ro_ofW (by decide) (Nat.le_of_ble_eq_true rfl) ?_
  intro p e s m args below meth c ls X hr hlk hH hl
  have hS : va_S (fun _ => False) s.heap s.heap [] := va_S.rf
  have hl : lv_has ls 8 [(0, .ref b6), (1, .int a), (2, .int b), (3, .int d)] := hl
  obtain ⟨rl, au, pa, e0, e1, eR, cR, mR, gR, RA, al, p0, pw, eA, cA, mA, gA, CA, QA, vb, cv, ml, fb, hb6, hU6, hU9, hSB, hHD, hDJ, huq⟩ := hz
  replace hb6 : hp b6 = some (obE rl au pa e0 e1) := hb6
  replace hU6 : RU G hp rl eR cR mR gR RA n R := hU6
  replace hU9 : AU G hp au al p0 pw eA cA mA gA CA QA k cs sk := hU9
  replace hSB : SBp G hp pa vb cv ml fb pn pt := hSB
  have hn : n ≤ 24 := hU6.2.2.1
  have hk : k ≤ 12 := hU9.2.2.2.1
  have hpn := hSB.2.2.1
  have hd0 : hd 0 = e0 := hHD.1.1
  have hd1 : hd 1 = e1 := hHD.1.2
  have hhd : ∀ i, i < 2 → hd i ≤ 1048575 ∧ strH (hd i) ≤ 20 := hHD.2
  refine lv_iload_n X.1 X.2.1 dX6_shown_0 rfl (lv_at hl 1 rfl) ?_
  refine on_Si (run_S (As := [.int a]) (rest := []) X (c_X6_isPartner l G hp a) (rp_blind _) (rp_at X hH hS) mf_X6_isPartner tw_186 tw_187 ⟨rfl, rfl, Nat.le_of_ble_eq_true rfl, Nat.le_of_ble_eq_true rfl⟩ hl.1 rfl rfl (Nat.le_of_ble_eq_true rfl) ⟨Nat.le_of_ble_eq_true rfl, Nat.le_of_ble_eq_true rfl⟩ dX6_shown_1) (fun r_1 q_1 => ?_)
  obtain rfl : r_1 = (inI a 0 1) := q_1
  refine lv_if_ne (tgt := 9) X.1 X.2.1 dX6_shown_4 (by decide) (fun c_4 => ?_) (fun c_4 => ?_)
  · obtain ⟨xa, hxa, rfl⟩ := inI_nat (hi := 1) c_4 (by decide)
    refine lv_iload_n X.1 X.2.1 dX6_shown_9 rfl (lv_at hl 2 rfl) ?_
    refine on_Si (run_S (As := [.int b]) (rest := []) X (c_X1_isSet l G hp b) (rp_blind _) (rp_at X hH hS) mf_X1_isSet tw_540 tw_283 ⟨rfl, rfl, Nat.le_of_ble_eq_true rfl, Nat.le_of_ble_eq_true rfl⟩ hl.1 rfl rfl (Nat.le_of_ble_eq_true rfl) ⟨Nat.le_of_ble_eq_true rfl, Nat.le_of_ble_eq_true rfl⟩ dX6_shown_10) (fun r_10 q_10 => ?_)
    obtain rfl : r_10 = (inI b 0 1048575) := q_10
    refine lv_if_eq (tgt := 26) X.1 X.2.1 dX6_shown_13 (by decide) (fun c_13 => ?_) (fun c_13 => ?_)
    · refine lv_bipush (v := (-2)) X.1 X.2.1 dX6_shown_26 (by decide) ?_
      exact ro_i X hr hlk (by show (_ : Int32) = _; unfold fShown; rw [if_neg c_4, if_pos (Or.inl c_13)]) dX6_shown_28
    · obtain ⟨xb, hxb, rfl⟩ := inI_nat (hi := 1048575) c_13 (by decide)
      refine lv_iload_n X.1 X.2.1 dX6_shown_16 rfl (lv_at hl 3 rfl) ?_
      refine lv_if_lt (tgt := 26) X.1 X.2.1 dX6_shown_17 (by decide) (fun c_17 => ?_) (fun c_17 => ?_)
      · refine lv_bipush (v := (-2)) X.1 X.2.1 dX6_shown_26 (by decide) ?_
        exact ro_i X hr hlk (by show (_ : Int32) = _; unfold fShown; rw [if_neg c_4, if_pos (Or.inr (show inI d 0 11 = 0 from inJ_z (hi := 11) (by decide) (Or.inl c_17)))]) dX6_shown_28
      · refine lv_iload_n X.1 X.2.1 dX6_shown_20 rfl (lv_at hl 3 rfl) ?_
        refine lv_bipush (v := 11) X.1 X.2.1 dX6_shown_21 (by decide) ?_
        refine lv_icmp_le (tgt := 29) X.1 X.2.1 dX6_shown_23 (by decide) (fun c_23 => ?_) (fun c_23 => ?_)
        · have hd9 : ¬ inI d 0 11 = 0 := inJ_o (hi := 11) (by decide) c_17 (Int32.not_lt.mpr c_23)
          obtain ⟨xd, hxd, rfl⟩ := inI_nat (hi := 11) hd9 (by decide)
          refine lv_bipush (v := (-6)) X.1 X.2.1 dX6_shown_29 (by decide) ?_
          refine lv_istore (lv' := [(4, .int (-6)), (0, .ref b6), (1, .int (nI xa)), (2, .int (nI xb)), (3, .int (nI xd))]) X.1 X.2.1 dX6_shown_31 hl (by decide) rfl (fun ls hl => ?_)
          refine lv_iconst (v := 0) X.1 X.2.1 dX6_shown_33 (by decide) ?_
          refine lv_istore (lv' := [(5, .int 0), (4, .int (-6)), (0, .ref b6), (1, .int (nI xa)), (2, .int (nI xb)), (3, .int (nI xd))]) X.1 X.2.1 dX6_shown_34 hl (by decide) rfl (fun ls hl => ?_)
          refine lv_bipush (v := 31) X.1 X.2.1 dX6_shown_36 (by decide) ?_
          refine lv_istore (lv' := [(6, .int 31), (5, .int 0), (4, .int (-6)), (0, .ref b6), (1, .int (nI xa)), (2, .int (nI xb)), (3, .int (nI xd))]) X.1 X.2.1 dX6_shown_38 hl (by decide) rfl (fun ls hl => ?_)
          rw [show (-6 : Int32) = shV (shF (hidB n R k cs sk xa xb) xd 0) from rfl] at hl
          have L40 : ∀ (f : Nat) (i : Nat), i + f = 15504 → ∀ ls, lv_has ls 8 [(0, .ref b6), (1, .int (nI xa)), (2, .int (nI xb)), (3, .int (nI xd)), (4, .int (shV (shF (hidB n R k cs sk xa xb) xd i))), (5, .int (nI i)), (6, .int (nI (HL i)))] → W p l e ({ frames := 6, cells := 0, slots := 0, locals := 136 } : Room) s m args below meth c s.heap [] 0 0 (MQ below (vp_Si (fun r => r = fShown n R k cs sk (nI xa) (nI xb) (nI xd))) args s 0 0 (fun _ => False)) (F0 m 40 ls []) := by
            intro f
            induction f with
            | zero =>
              intro i h0 ls hl
              have hi9 : i = 15504 := by omega
              refine lv_iload X.1 X.2.1 dX6_shown_40 (lv_at hl 5 rfl) ?_
              refine lv_sipush (v := 15504) X.1 X.2.1 dX6_shown_42 (by decide) ?_
              refine lv_icmp_ge (tgt := 102) X.1 X.2.1 dX6_shown_45 (by decide) (fun c_45 => ?_) (fun c_45 => absurd (nI_le (a := 15504) (b := i) (by omega) (by omega)) c_45)
              refine lv_iload X.1 X.2.1 dX6_shown_102 (lv_at hl 4 rfl) ?_
              exact ro_i X hr hlk (by show (_ : Int32) = _; unfold fShown; rw [if_neg c_4, if_neg (fun q => Or.elim q c_13 hd9), tn_n (by omega), tn_n (by omega), tn_n (by omega), ← hi9]; rfl) dX6_shown_104
            | succ f ih =>
              intro i h0 ls hl
              have hlt : i < 15504 := by omega
              obtain ⟨hk1, hk2, hk3, hk4, hk5, hk6, hk7⟩ := HL_ok hlt
              have hsl := shF_le (hidB n R k cs sk xa xb) xd i (by omega)
              have hsn := @snN_le (HL i) xd hk2
              refine lv_iload X.1 X.2.1 dX6_shown_40 (lv_at hl 5 rfl) ?_
              refine lv_sipush (v := 15504) X.1 X.2.1 dX6_shown_42 (by decide) ?_
              refine lv_icmp_ge (tgt := 102) X.1 X.2.1 dX6_shown_45 (by decide) (fun c_45 => absurd c_45 (nI_ge (a := i) (b := 15504) (by omega) (by decide))) (fun c_45 => ?_)
              refine lv_aload_n X.1 X.2.1 dX6_shown_48 rfl (lv_at hl 0 rfl) ?_
              refine lv_iload_n X.1 X.2.1 dX6_shown_49 rfl (lv_at hl 1 rfl) ?_
              refine lv_iload_n X.1 X.2.1 dX6_shown_50 rfl (lv_at hl 2 rfl) ?_
              refine lv_iload X.1 X.2.1 dX6_shown_51 (lv_at hl 6 rfl) ?_
              refine on_Si (run_V (C := RX6) (As := [.int (nI xa), .int (nI xb), .int (nI (HL i))]) (rest := []) X (c_X6_isHidden l G hp b6 rl au pa e0 e1 hb6 eR cR mR gR RA n R hU6 al p0 pw eA cA mA gA CA QA k cs sk hU9 xa xb (HL i) (by omega) (by omega) (by omega)) (rp_blind _) (rp_at X hH hS) (recv X hH hb6 (C := RX6) (T := TX6) (N := 5) rfl) mf_X6_isHidden tw_545 tw_547 tw_12 ⟨rfl, rfl, Nat.le_of_ble_eq_true rfl, Nat.le_of_ble_eq_true rfl⟩ hl.1 rfl rfl (Nat.le_of_ble_eq_true rfl) ⟨Nat.le_of_ble_eq_true rfl, Nat.le_of_ble_eq_true rfl⟩ dX6_shown_53) (fun r_53 q_53 => ?_)
              obtain rfl : r_53 = (bI (hidB n R k cs sk xa xb (HL i))) := q_53
              refine lv_if_eq (tgt := 89) X.1 X.2.1 dX6_shown_56 (by decide) (fun c_56 => ?_) (fun c_56 => ?_)
              · have hy : ¬ hidB n R k cs sk xa xb (HL i) = true := fun q => Bool.false_ne_true ((bI_0 c_56).symm.trans q)
                refine lv_iinc (v := (nI (i + 1))) (lv' := [(5, .int (nI (i + 1))), (0, .ref b6), (1, .int (nI xa)), (2, .int (nI xb)), (3, .int (nI xd)), (4, .int (shV (shF (hidB n R k cs sk xa xb) xd i))), (6, .int (nI (HL i)))]) X.1 X.2.1 dX6_shown_89 hl (k := 5) rfl (nI_add i 1) (by decide) rfl (fun ls hl => ?_)
                refine lv_iload X.1 X.2.1 dX6_shown_92 (lv_at hl 6 rfl) ?_
                refine on_Si (run_S (As := [.int (nI (HL i))]) (rest := []) X (c_X1_handAfter l G hp (HL i) (by omega) hk2) (rp_blind _) (rp_at X hH hS) mf_X1_handAfter tw_455 tw_456 ⟨rfl, rfl, Nat.le_of_ble_eq_true rfl, Nat.le_of_ble_eq_true rfl⟩ hl.1 rfl rfl (Nat.le_of_ble_eq_true rfl) ⟨Nat.le_of_ble_eq_true rfl, Nat.le_of_ble_eq_true rfl⟩ dX6_shown_94) (fun r_94 q_94 => ?_)
                obtain rfl : r_94 = (nI (nhA (HL i))) := q_94
                refine r_eqi (show nI (nhA (HL i)) = nI (HL (i + 1)) from by rw [hk5]) ?_
                refine lv_istore (lv' := [(6, .int (nI (HL (i + 1)))), (5, .int (nI (i + 1))), (0, .ref b6), (1, .int (nI xa)), (2, .int (nI xb)), (3, .int (nI xd)), (4, .int (shV (shF (hidB n R k cs sk xa xb) xd i)))]) X.1 X.2.1 dX6_shown_97 hl (by decide) rfl (fun ls hl => ?_)
                refine lv_goto (tgt := 40) X.1 X.2.1 dX6_shown_99 (by decide) ?_
                exact ih (i + 1) (by omega) ls (by rw [show shV (shF (hidB n R k cs sk xa xb) xd (i + 1)) = shV (shF (hidB n R k cs sk xa xb) xd i) from congrArg shV (if_neg hy)]; exact (lv_sub hl [2, 3, 4, 5, 6, 1, 0] rfl))
              · have hy : hidB n R k cs sk xa xb (HL i) = true := bI_1 c_56
                refine lv_iload X.1 X.2.1 dX6_shown_59 (lv_at hl 6 rfl) ?_
                refine lv_iload_n X.1 X.2.1 dX6_shown_61 rfl (lv_at hl 3 rfl) ?_
                refine on_Si (run_S (As := [.int (nI (HL i)), .int (nI xd)]) (rest := []) X (c_X1_shownNumber l G hp (HL i) xd (by omega) (by omega)) (rp_blind _) (rp_at X hH hS) mf_X1_shownNumber tw_553 tw_554 ⟨rfl, rfl, Nat.le_of_ble_eq_true rfl, Nat.le_of_ble_eq_true rfl⟩ hl.1 rfl rfl (Nat.le_of_ble_eq_true rfl) ⟨Nat.le_of_ble_eq_true rfl, Nat.le_of_ble_eq_true rfl⟩ dX6_shown_62) (fun r_62 q_62 => ?_)
                obtain rfl : r_62 = (nI (snN (HL i) xd)) := q_62
                refine lv_istore (lv' := [(7, .int (nI (snN (HL i) xd))), (0, .ref b6), (1, .int (nI xa)), (2, .int (nI xb)), (3, .int (nI xd)), (4, .int (shV (shF (hidB n R k cs sk xa xb) xd i))), (5, .int (nI i)), (6, .int (nI (HL i)))]) X.1 X.2.1 dX6_shown_65 hl (by decide) rfl (fun ls hl => ?_)
                refine lv_iload X.1 X.2.1 dX6_shown_67 (lv_at hl 5 rfl) ?_
                refine lv_bipush (v := (-6)) X.1 X.2.1 dX6_shown_69 (by decide) ?_
                refine lv_icmp_ne (tgt := 79) X.1 X.2.1 dX6_shown_71 (by decide) (fun c_71 => ?_) (fun c_71 => ?_)
                · have g7 := shV_ye c_71
                  rw [show shV (shF (hidB n R k cs sk xa xb) xd i) = nI (shF (hidB n R k cs sk xa xb) xd i).2 from if_pos g7] at hl
                  refine lv_iload X.1 X.2.1 dX6_shown_79 (lv_at hl 5 rfl) ?_
                  refine lv_iload X.1 X.2.1 dX6_shown_81 (lv_at hl 0 rfl) ?_
                  refine lv_iload_n X.1 X.2.1 dX6_shown_83 rfl (lv_at hl 4 rfl) ?_
                  refine on_Si (run_S (As := [.int (nI ((shF (hidB n R k cs sk xa xb) xd i).2)), .int (nI (snN (HL i) xd)), .int (nI xd)]) (rest := []) X (c_X1_joinShown l G hp ((shF (hidB n R k cs sk xa xb) xd i).2) (snN (HL i) xd) xd (by omega) (by omega) (by omega)) (rp_blind _) (rp_at X hH hS) mf_X1_joinShown tw_557 tw_558 ⟨rfl, rfl, Nat.le_of_ble_eq_true rfl, Nat.le_of_ble_eq_true rfl⟩ hl.1 rfl rfl (Nat.le_of_ble_eq_true rfl) ⟨Nat.le_of_ble_eq_true rfl, Nat.le_of_ble_eq_true rfl⟩ dX6_shown_84) (fun r_84 q_84 => ?_)
                  obtain rfl : r_84 = (nI (jsN ((shF (hidB n R k cs sk xa xb) xd i).2) (snN (HL i) xd) xd)) := q_84
                  refine lv_istore (lv' := [(4, .int (nI (jsN ((shF (hidB n R k cs sk xa xb) xd i).2) (snN (HL i) xd) xd))), (7, .int (nI (snN (HL i) xd))), (0, .ref b6), (1, .int (nI xa)), (2, .int (nI xb)), (3, .int (nI xd)), (5, .int (nI i)), (6, .int (nI (HL i)))]) X.1 X.2.1 dX6_shown_87 hl (by decide) rfl (fun ls hl => ?_)
                  refine lv_iinc (v := (nI (i + 1))) (lv' := [(5, .int (nI (i + 1))), (4, .int (nI (jsN ((shF (hidB n R k cs sk xa xb) xd i).2) (snN (HL i) xd) xd))), (7, .int (nI (snN (HL i) xd))), (0, .ref b6), (1, .int (nI xa)), (2, .int (nI xb)), (3, .int (nI xd)), (6, .int (nI (HL i)))]) X.1 X.2.1 dX6_shown_89 hl (k := 6) rfl (nI_add i 1) (by decide) rfl (fun ls hl => ?_)
                  refine lv_iload X.1 X.2.1 dX6_shown_92 (lv_at hl 7 rfl) ?_
                  refine on_Si (run_S (As := [.int (nI (HL i))]) (rest := []) X (c_X1_handAfter l G hp (HL i) (by omega) hk2) (rp_blind _) (rp_at X hH hS) mf_X1_handAfter tw_455 tw_456 ⟨rfl, rfl, Nat.le_of_ble_eq_true rfl, Nat.le_of_ble_eq_true rfl⟩ hl.1 rfl rfl (Nat.le_of_ble_eq_true rfl) ⟨Nat.le_of_ble_eq_true rfl, Nat.le_of_ble_eq_true rfl⟩ dX6_shown_94) (fun r_94 q_94 => ?_)
                  obtain rfl : r_94 = (nI (nhA (HL i))) := q_94
                  refine r_eqi (show nI (nhA (HL i)) = nI (HL (i + 1)) from by rw [hk5]) ?_
                  refine lv_istore (lv' := [(6, .int (nI (HL (i + 1)))), (5, .int (nI (i + 1))), (4, .int (nI (jsN ((shF (hidB n R k cs sk xa xb) xd i).2) (snN (HL i) xd) xd))), (7, .int (nI (snN (HL i) xd))), (0, .ref b6), (1, .int (nI xa)), (2, .int (nI xb)), (3, .int (nI xd))]) X.1 X.2.1 dX6_shown_97 hl (by decide) rfl (fun ls hl => ?_)
                  refine lv_goto (tgt := 40) X.1 X.2.1 dX6_shown_99 (by decide) ?_
                  exact ih (i + 1) (by omega) ls (by rw [show shV (shF (hidB n R k cs sk xa xb) xd (i + 1)) = nI (jsN (shF (hidB n R k cs sk xa xb) xd i).2 (snN (HL i) xd) xd) from (congrArg shV ((if_pos hy).trans (congrArg (Prod.mk true) (if_pos g7)))).trans (if_pos rfl)]; exact (lv_sub hl [4, 5, 6, 7, 2, 1, 0] rfl))
                · have g7 := shV_no hsl c_71
                  refine lv_iload X.1 X.2.1 dX6_shown_74 (lv_at hl 0 rfl) ?_
                  refine lv_goto (tgt := 87) X.1 X.2.1 dX6_shown_76 (by decide) ?_
                  refine lv_istore (lv' := [(4, .int (nI (snN (HL i) xd))), (7, .int (nI (snN (HL i) xd))), (0, .ref b6), (1, .int (nI xa)), (2, .int (nI xb)), (3, .int (nI xd)), (5, .int (nI i)), (6, .int (nI (HL i)))]) X.1 X.2.1 dX6_shown_87 hl (by decide) rfl (fun ls hl => ?_)
                  refine lv_iinc (v := (nI (i + 1))) (lv' := [(5, .int (nI (i + 1))), (4, .int (nI (snN (HL i) xd))), (7, .int (nI (snN (HL i) xd))), (0, .ref b6), (1, .int (nI xa)), (2, .int (nI xb)), (3, .int (nI xd)), (6, .int (nI (HL i)))]) X.1 X.2.1 dX6_shown_89 hl (k := 6) rfl (nI_add i 1) (by decide) rfl (fun ls hl => ?_)
                  refine lv_iload X.1 X.2.1 dX6_shown_92 (lv_at hl 7 rfl) ?_
                  refine on_Si (run_S (As := [.int (nI (HL i))]) (rest := []) X (c_X1_handAfter l G hp (HL i) (by omega) hk2) (rp_blind _) (rp_at X hH hS) mf_X1_handAfter tw_455 tw_456 ⟨rfl, rfl, Nat.le_of_ble_eq_true rfl, Nat.le_of_ble_eq_true rfl⟩ hl.1 rfl rfl (Nat.le_of_ble_eq_true rfl) ⟨Nat.le_of_ble_eq_true rfl, Nat.le_of_ble_eq_true rfl⟩ dX6_shown_94) (fun r_94 q_94 => ?_)
                  obtain rfl : r_94 = (nI (nhA (HL i))) := q_94
                  refine r_eqi (show nI (nhA (HL i)) = nI (HL (i + 1)) from by rw [hk5]) ?_
                  refine lv_istore (lv' := [(6, .int (nI (HL (i + 1)))), (5, .int (nI (i + 1))), (4, .int (nI (snN (HL i) xd))), (7, .int (nI (snN (HL i) xd))), (0, .ref b6), (1, .int (nI xa)), (2, .int (nI xb)), (3, .int (nI xd))]) X.1 X.2.1 dX6_shown_97 hl (by decide) rfl (fun ls hl => ?_)
                  refine lv_goto (tgt := 40) X.1 X.2.1 dX6_shown_99 (by decide) ?_
                  exact ih (i + 1) (by omega) ls (by rw [show shV (shF (hidB n R k cs sk xa xb) xd (i + 1)) = nI (snN (HL i) xd) from (congrArg shV ((if_pos hy).trans (congrArg (Prod.mk true) (if_neg g7)))).trans (if_pos rfl)]; exact (lv_sub hl [4, 5, 6, 7, 2, 1, 0] rfl))
          exact L40 15504 0 rfl ls (lv_sub hl [3, 4, 5, 6, 2, 1, 0] rfl)
        · refine lv_bipush (v := (-2)) X.1 X.2.1 dX6_shown_26 (by decide) ?_
          exact ro_i X hr hlk (by show (_ : Int32) = _; unfold fShown; rw [if_neg c_4, if_pos (Or.inr (show inI d 0 11 = 0 from inJ_z (hi := 11) (by decide) (Or.inr (Int32.not_le.mp c_23))))]) dX6_shown_28
  · refine lv_iconst (v := (-1)) X.1 X.2.1 dX6_shown_7 (by decide) ?_
    exact ro_i X hr hlk (by show (_ : Int32) = _; unfold fShown; rw [if_pos c_4]) dX6_shown_8
