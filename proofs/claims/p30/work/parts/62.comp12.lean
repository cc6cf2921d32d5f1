/-! the whole component over a state -/
def CC (G : HG) (hp : HP) (b6 rl au pa e0 e1 eR cR : Nat) (mR : Int32) (gR : Nat → Option Nat) (RA : Nat → Nat) (al p0 pw eA cA : Nat) (mA : Int32) (gA : Nat → Option Nat) (CA QA : Nat → Nat) (vb cv : Nat) (ml : Bool) (fb : Nat → Int32) (z : ST) : Prop := hp b6 = some (obE rl au pa e0 e1) ∧ RU G hp rl eR cR mR gR RA z.1 z.2.1 ∧ AU G hp au al p0 pw eA cA mA gA CA QA z.2.2.2.1 z.2.2.2.2.1 z.2.2.2.2.2.1 ∧ SBp G hp pa vb cv ml fb z.2.2.2.2.2.2.1 z.2.2.2.2.2.2.2 ∧ ((z.2.2.1 0 = e0 ∧ z.2.2.1 1 = e1) ∧ ∀ i, i < 2 → z.2.2.1 i ≤ 1048575 ∧ strH (z.2.2.1 i) ≤ 20) ∧ (rl ≠ al ∧ (0 < cR → 0 < cA → eR ≠ eA) ∧ ∀ i j, i < z.1 → j < z.1 → RA i = RA j → i = j) ∧ UQ z.1 z.2.1
def CZ (G : HG) (hp : HP) (b6 : Nat) (z : ST) : Prop := ∃ (rl au pa e0 e1 eR cR : Nat) (mR : Int32) (gR : Nat → Option Nat) (RA : Nat → Nat) (al p0 pw eA cA : Nat) (mA : Int32) (gA : Nat → Option Nat) (CA QA : Nat → Nat) (vb cv : Nat) (ml : Bool) (fb : Nat → Int32), CC G hp b6 rl au pa e0 e1 eR cR mR gR RA al p0 pw eA cA mA gA CA QA vb cv ml fb z
theorem hd_of {hd : Nat → Nat} {e0 e1 p : Nat} (h0 : hd 0 = e0) (h1 : hd 1 = e1) (hp : p < 2) : (if p = 0 then e0 else e1) = hd p := by
  by_cases c : p = 0
  · rw [if_pos c, c, h0]
  · rw [if_neg c, show p = 1 by omega, h1]
theorem inJ_z {a : Int32} {hi : Nat} (hh : hi < 2 ^ 31) (h : a < 0 ∨ nI hi < a) : inI a 0 hi = 0 := by
  by_cases c : inI a 0 hi = 0
  · exact c
  · have h2 := inI_1 c
    rcases h with h | h
    · rw [Int32.lt_iff_toInt_lt] at h
      have z : (0 : Int32).toInt = 0 := rfl
      omega
    · rw [Int32.lt_iff_toInt_lt, nI_toInt hh] at h
      omega
theorem inJ_o {a : Int32} {hi : Nat} (hh : hi < 2 ^ 31) (h1 : ¬ a < 0) (h2 : ¬ nI hi < a) : ¬ inI a 0 hi = 0 := fun q => inI_0 q (by
    rw [Int32.lt_iff_toInt_lt] at h1 h2
    rw [nI_toInt hh] at h2
    have z : (0 : Int32).toInt = 0 := rfl
    omega)
theorem lt_lt {a : Int32} {hi : Nat} (hh : hi < 2 ^ 30) : a < nI (hi + 1) ↔ ¬ nI hi < a := by
  rw [Int32.lt_iff_toInt_lt, Int32.lt_iff_toInt_lt, nI_toInt (by omega), nI_toInt (by omega)]
  omega
set_option maxHeartbeats 4000000 in
set_option maxRecDepth 100000 in
theorem c_X6_hand (l : Launch) (G : HG) (hp : HP) (b6 : Nat) (n : Nat) (R : Nat → Nat → Nat) (hd : Nat → Nat) (k : Nat) (cs : Nat → Nat → Int32) (sk : Bool) (pn : Nat) (pt : Nat → Nat) (hz : CZ G hp b6 (n, R, hd, k, cs, sk, pn, pt)) (a b : Int32) : Met l yX6_hand [.code yX6_hand cX6_hand 3 (some .int)] { frames := 3, cells := 0, slots := 0, locals := 63 } (va_Pc [.ref b6, .int a, .int b] (RP G hp)) (vp_Si (fun r => r = fHand hd a b)) 0 0 (fun _ => False) := by
  refine ro_ofW (by decide) (Nat.le_of_ble_eq_true rfl) ?_
  intro p e s m args below meth c ls X hr hlk hH hl
  have hS : va_S (fun _ => False) s.heap s.heap [] := va_S.rf
  have hl : lv_has ls 3 [(0, .ref b6), (1, .int a), (2, .int b)] := hl
  obtain ⟨rl, au, pa, e0, e1, eR, cR, mR, gR, RA, al, p0, pw, eA, cA, mA, gA, CA, QA, vb, cv, ml, fb, hb6, hU6, hU9, hSB, hHD, hDJ, huq⟩ := hz
  replace hb6 : hp b6 = some (obE rl au pa e0 e1) := hb6
  replace hU6 : RU G hp rl eR cR mR gR RA n R := hU6
  replace hU9 : AU G hp au al p0 pw eA cA mA gA CA QA k cs sk := hU9
  replace hSB : SBp G hp pa vb cv ml fb pn pt := hSB
  have hn : n ≤ 24 := hU6.2.2.1
  have hk : k ≤ 12 := hU9.2.2.2.1
  have hpn := hSB.2.2.1
  have hd0 : hd 0 = e0 := hHD.1.1
  have hd1 : hd 1 = e1 := hHD.1.2
  have hhd : ∀ i, i < 2 → hd i ≤ 1048575 ∧ strH (hd i) ≤ 20 := hHD.2
  refine lv_iload_n X.1 X.2.1 dX6_hand_0 rfl (lv_at hl 1 rfl) ?_
  refine on_Si (run_S (As := [.int a]) (rest := []) X (c_X6_isPartner l G hp a) (rp_blind _) (rp_at X hH hS) mf_X6_isPartner tw_186 tw_187 ⟨rfl, rfl, Nat.le_of_ble_eq_true rfl, Nat.le_of_ble_eq_true rfl⟩ hl.1 rfl rfl (Nat.le_of_ble_eq_true rfl) ⟨Nat.le_of_ble_eq_true rfl, Nat.le_of_ble_eq_true rfl⟩ dX6_hand_1) (fun r_1 q_1 => ?_)
  obtain rfl : r_1 = (inI a 0 1) := q_1
  refine lv_if_ne (tgt := 9) X.1 X.2.1 dX6_hand_4 (by decide) (fun c_4 => ?_) (fun c_4 => ?_)
  · obtain ⟨xa, hxa, rfl⟩ := inI_nat (hi := 1) c_4 (by decide)
    refine lv_iload_n X.1 X.2.1 dX6_hand_9 rfl (lv_at hl 2 rfl) ?_
    refine lv_if_lt (tgt := 18) X.1 X.2.1 dX6_hand_10 (by decide) (fun c_10 => ?_) (fun c_10 => ?_)
    · refine lv_bipush (v := (-2)) X.1 X.2.1 dX6_hand_18 (by decide) ?_
      exact ro_i X hr hlk (by show (_ : Int32) = _; unfold fHand; rw [if_neg c_4, if_pos (show inI b 0 5 = 0 from inJ_z (hi := 5) (by decide) (Or.inl c_10))]) dX6_hand_20
    · refine lv_iload_n X.1 X.2.1 dX6_hand_13 rfl (lv_at hl 2 rfl) ?_
      refine lv_iconst (v := 5) X.1 X.2.1 dX6_hand_14 (by decide) ?_
      refine lv_icmp_le (tgt := 21) X.1 X.2.1 dX6_hand_15 (by decide) (fun c_15 => ?_) (fun c_15 => ?_)
      · have hb9 : ¬ inI b 0 5 = 0 := inJ_o (hi := 5) (by decide) c_10 (Int32.not_lt.mpr c_15)
        obtain ⟨xb, hxb, rfl⟩ := inI_nat (hi := 5) hb9 (by decide)
        have hhx := hhd xa (by omega)
        refine lv_iload_n X.1 X.2.1 dX6_hand_21 rfl (lv_at hl 2 rfl) ?_
        refine lv_if_ne (tgt := 33) X.1 X.2.1 dX6_hand_22 (by decide) (fun c_22 => ?_) (fun c_22 => ?_)
        · have k_22 := k_ne (a := xb) (b := 0) (by omega) (by omega) c_22
          refine lv_aload_n X.1 X.2.1 dX6_hand_33 rfl (lv_at hl 0 rfl) ?_
          refine lv_iload_n X.1 X.2.1 dX6_hand_34 rfl (lv_at hl 1 rfl) ?_
          refine on_Si (run_V (C := RX6) (As := [.int (nI xa)]) (rest := []) X (c_X6_handOf l G hp b6 rl au pa e0 e1 hb6 xa (by omega)) (rp_blind _) (rp_at X hH hS) (recv X hH hb6 (C := RX6) (T := TX6) (N := 5) rfl) mf_X6_handOf tw_189 tw_191 tw_0 ⟨rfl, rfl, Nat.le_of_ble_eq_true rfl, Nat.le_of_ble_eq_true rfl⟩ hl.1 rfl rfl (Nat.le_of_ble_eq_true rfl) ⟨Nat.le_of_ble_eq_true rfl, Nat.le_of_ble_eq_true rfl⟩ dX6_hand_35) (fun r_35 q_35 => ?_)
          obtain rfl : r_35 = nI (hd xa) := q_35.trans (congrArg nI (hd_of hd0 hd1 (by omega)))
          refine lv_iload_n X.1 X.2.1 dX6_hand_38 rfl (lv_at hl 2 rfl) ?_
          refine lv_iconst (v := 1) X.1 X.2.1 dX6_hand_39 (by decide) ?_
          refine lv_isub X.1 X.2.1 dX6_hand_40 ?_
          refine r_eqi (show (((nI xb) - 1) : Int32) = nI (xb - 1) from pk_sub (a := xb) (b := 1) (by omega)) ?_
          refine on_Si (run_S (As := [.int (nI (hd xa)), .int (nI (xb - 1))]) (rest := []) X (c_X1_measure l G hp (hd xa) (xb - 1) (by omega) (by omega)) (rp_blind _) (rp_at X hH hS) mf_X1_measure tw_193 tw_194 ⟨rfl, rfl, Nat.le_of_ble_eq_true rfl, Nat.le_of_ble_eq_true rfl⟩ hl.1 rfl rfl (Nat.le_of_ble_eq_true rfl) ⟨Nat.le_of_ble_eq_true rfl, Nat.le_of_ble_eq_true rfl⟩ dX6_hand_41) (fun r_41 q_41 => ?_)
          obtain rfl : r_41 = (nI (measN (hd xa) (xb - 1))) := q_41
          exact ro_i X hr hlk (by show (_ : Int32) = _; unfold fHand; rw [if_neg c_4, if_neg hb9, tn_n (by omega), tn_n (by omega), if_neg k_22]; show nI (measN (hd xa) (xb - 1)) = _; unfold measN; by_cases q5 : xb = 5; rw [if_pos q5, if_pos (by omega)]; rw [if_neg q5, if_neg (by omega)]) dX6_hand_44
        · have k_22 := k_eq (a := xb) (b := 0) (by omega) (by omega) c_22
          refine lv_aload_n X.1 X.2.1 dX6_hand_25 rfl (lv_at hl 0 rfl) ?_
          refine lv_iload_n X.1 X.2.1 dX6_hand_26 rfl (lv_at hl 1 rfl) ?_
          refine on_Si (run_V (C := RX6) (As := [.int (nI xa)]) (rest := []) X (c_X6_handOf l G hp b6 rl au pa e0 e1 hb6 xa (by omega)) (rp_blind _) (rp_at X hH hS) (recv X hH hb6 (C := RX6) (T := TX6) (N := 5) rfl) mf_X6_handOf tw_189 tw_191 tw_0 ⟨rfl, rfl, Nat.le_of_ble_eq_true rfl, Nat.le_of_ble_eq_true rfl⟩ hl.1 rfl rfl (Nat.le_of_ble_eq_true rfl) ⟨Nat.le_of_ble_eq_true rfl, Nat.le_of_ble_eq_true rfl⟩ dX6_hand_27) (fun r_27 q_27 => ?_)
          obtain rfl : r_27 = nI (hd xa) := q_27.trans (congrArg nI (hd_of hd0 hd1 (by omega)))
          refine lv_goto (tgt := 44) X.1 X.2.1 dX6_hand_30 (by decide) ?_
          exact ro_i X hr hlk (by show (_ : Int32) = _; unfold fHand; rw [if_neg c_4, if_neg hb9, tn_n (by omega), tn_n (by omega), if_pos k_22]) dX6_hand_44
      · refine lv_bipush (v := (-2)) X.1 X.2.1 dX6_hand_18 (by decide) ?_
        exact ro_i X hr hlk (by show (_ : Int32) = _; unfold fHand; rw [if_neg c_4, if_pos (show inI b 0 5 = 0 from inJ_z (hi := 5) (by decide) (Or.inr (Int32.not_le.mp c_15)))]) dX6_hand_20
  · refine lv_iconst (v := (-1)) X.1 X.2.1 dX6_hand_7 (by decide) ?_
    exact ro_i X hr hlk (by show (_ : Int32) = _; unfold fHand; rw [if_pos c_4]) dX6_hand_8

set_option maxHeartbeats 4000000 in
set_option maxRecDepth 100000 in
theorem c_X6_made (l : Launch) (G : HG) (hp : HP) (b6 : Nat) (n : Nat) (R : Nat → Nat → Nat) (hd : Nat → Nat) (k : Nat) (cs : Nat → Nat → Int32) (sk : Bool) (pn : Nat) (pt : Nat → Nat) (hz : CZ G hp b6 (n, R, hd, k, cs, sk, pn, pt)) (a b : Int32) : Met l yX6_made [.code yX6_made cX6_made 3 (some .int)] { frames := 3, cells := 0, slots := 0, locals := 64 } (va_Pc [.ref b6, .int a, .int b] (RP G hp)) (vp_Si (fun r => r = fMade k cs a b)) 0 0 (fun _ => False) := by
  refine ro_ofW (by decide) (Nat.le_of_ble_eq_true rfl) ?_
  intro p e s m args below meth c ls X hr hlk hH hl
  have hS : va_S (fun _ => False) s.heap s.heap [] := va_S.rf
  have hl : lv_has ls 3 [(0, .ref b6), (1, .int a), (2, .int b)] := hl
  obtain ⟨rl, au, pa, e0, e1, eR, cR, mR, gR, RA, al, p0, pw, eA, cA, mA, gA, CA, QA, vb, cv, ml, fb, hb6, hU6, hU9, hSB, hHD, hDJ, huq⟩ := hz
  replace hb6 : hp b6 = some (obE rl au pa e0 e1) := hb6
  replace hU6 : RU G hp rl eR cR mR gR RA n R := hU6
  replace hU9 : AU G hp au al p0 pw eA cA mA gA CA QA k cs sk := hU9
  replace hSB : SBp G hp pa vb cv ml fb pn pt := hSB
  have hn : n ≤ 24 := hU6.2.2.1
  have hk : k ≤ 12 := hU9.2.2.2.1
  have hpn := hSB.2.2.1
  have hd0 : hd 0 = e0 := hHD.1.1
  have hd1 : hd 1 = e1 := hHD.1.2
  have hhd : ∀ i, i < 2 → hd i ≤ 1048575 ∧ strH (hd i) ≤ 20 := hHD.2
  refine lv_iload_n X.1 X.2.1 dX6_made_0 rfl (lv_at hl 2 rfl) ?_
  refine lv_if_lt (tgt := 9) X.1 X.2.1 dX6_made_1 (by decide) (fun c_1 => ?_) (fun c_1 => ?_)
  · refine lv_bipush (v := (-2)) X.1 X.2.1 dX6_made_9 (by decide) ?_
    exact ro_i X hr hlk (by show (_ : Int32) = _; unfold fMade; rw [if_pos (show inI b 0 3 = 0 from inJ_z (hi := 3) (by decide) (Or.inl c_1))]) dX6_made_11
  · refine lv_iload_n X.1 X.2.1 dX6_made_4 rfl (lv_at hl 2 rfl) ?_
    refine lv_iconst (v := 3) X.1 X.2.1 dX6_made_5 (by decide) ?_
    refine lv_icmp_le (tgt := 12) X.1 X.2.1 dX6_made_6 (by decide) (fun c_6 => ?_) (fun c_6 => ?_)
    · have hb9 : ¬ inI b 0 3 = 0 := inJ_o (hi := 3) (by decide) c_1 (Int32.not_lt.mpr c_6)
      obtain ⟨xb, hxb, rfl⟩ := inI_nat (hi := 3) hb9 (by decide)
      refine lv_iload_n X.1 X.2.1 dX6_made_12 rfl (lv_at hl 1 rfl) ?_
      refine lv_if_lt (tgt := 30) X.1 X.2.1 dX6_made_13 (by decide) (fun c_13 => ?_) (fun c_13 => ?_)
      · refine lv_bipush (v := (-6)) X.1 X.2.1 dX6_made_30 (by decide) ?_
        exact ro_i X hr hlk (by show (_ : Int32) = _; unfold fMade; rw [if_neg hb9, if_pos (inI_n1 c_13)]) dX6_made_32
      · refine lv_iload_n X.1 X.2.1 dX6_made_16 rfl (lv_at hl 1 rfl) ?_
        refine lv_aload_n X.1 X.2.1 dX6_made_17 rfl (lv_at hl 0 rfl) ?_
        refine r_get X hH hb6 (v := .ref au) (C := RX6) (T := TX6) (N := 5) rfl tin_X6 1 (by decide) tw_149 (fun _ h => h) rfl dX6_made_18 ?_
        refine r_getN X hH hU9.1 (v := .ref al) (C := RX0) (T := TX0) (N := 4) rfl tin_X0 0 (by decide) tw_102 (fun _ h => h) rfl dX6_made_21 ?_
        refine on_Si (run_V (C := RJx4a65c) (As := []) (rest := [.int a]) X (c_Jx4a65c_size_8abf5 l G hp al eA k mA hU9.2.1) (rp_blind _) (rp_at X hH hS) (recv X hH hU9.2.1 (C := RJx4a65c) (T := TJx4a65c) (N := 3) rfl) mf_Jx4a65c_size_8abf5 tw_247 tw_218 tw_219 ⟨rfl, rfl, Nat.le_of_ble_eq_true rfl, Nat.le_of_ble_eq_true rfl⟩ hl.1 rfl rfl (Nat.le_of_ble_eq_true rfl) ⟨Nat.le_of_ble_eq_true rfl, Nat.le_of_ble_eq_true rfl⟩ dX6_made_24) (fun r_24 q_24 => ?_)
        obtain rfl : r_24 = (nI k) := q_24
        refine lv_icmp_lt (tgt := 33) X.1 X.2.1 dX6_made_27 (by decide) (fun c_27 => ?_) (fun c_27 => ?_)
        · have ha9 : ¬ inI a 0 ((k : Int) - 1) = 0 := by rw [inI_n3 (n := k) (by omega) c_13 (Int32.not_le.mpr c_27)]; decide
          obtain ⟨xa, hxa, rfl⟩ := ca_nat hk ha9
          refine lv_aload_n X.1 X.2.1 dX6_made_33 rfl (lv_at hl 0 rfl) ?_
          refine r_get X hH hb6 (v := .ref au) (C := RX6) (T := TX6) (N := 5) rfl tin_X6 1 (by decide) tw_149 (fun _ h => h) rfl dX6_made_34 ?_
          refine r_getN X hH hU9.1 (v := .ref al) (C := RX0) (T := TX0) (N := 4) rfl tin_X0 0 (by decide) tw_102 (fun _ h => h) rfl dX6_made_37 ?_
          refine lv_iload_n X.1 X.2.1 dX6_made_40 rfl (lv_at hl 1 rfl) ?_
          refine on_Sq (run_V (C := RJx4a65c) (As := [.int (nI xa)]) (rest := []) X (c_Jx4a65c_get_915e3 l G hp al eA k mA hU9.2.1 cA gA (hU9.2.2.1.1 (by have := hU9.2.2.2.2.1; omega)) hU9.2.2.2.2.1 (Nat.lt_of_le_of_lt hU9.2.2.2.2.2.1 (by decide)) xa (by omega)) (rp_blind _) (rp_at X hH hS) (recv X hH hU9.2.1 (C := RJx4a65c) (T := TJx4a65c) (N := 3) rfl) mf_Jx4a65c_get_915e3 tw_293 tw_222 tw_223 ⟨rfl, rfl, Nat.le_of_ble_eq_true rfl, Nat.le_of_ble_eq_true rfl⟩ hl.1 rfl rfl (Nat.le_of_ble_eq_true rfl) ⟨Nat.le_of_ble_eq_true rfl, Nat.le_of_ble_eq_true rfl⟩ dX6_made_41) (fun r_41 q_41 => ?_)
          obtain rfl : r_41 = some (CA xa) := q_41.trans (hU9.2.2.2.2.2.2.1 xa (by omega)).1
          refine W.eq (g2 := F0 m 44 ls [.ref (CA xa)]) rfl ?_
          refine r_cast X hH (hU9.2.2.2.2.2.2.1 xa (by omega)).2.1 (C := RX2) (T := TX2) (N := 3) rfl tw_294 dX6_made_44 ?_
          refine lv_iload_n X.1 X.2.1 dX6_made_47 rfl (lv_at hl 2 rfl) ?_
          refine on_Si (run_V (C := RX2) (As := [.int (nI xb)]) (rest := []) X (c_X2_number l G hp (CA xa) (QA xa) (cs xa 0) (cs xa 1) (cs xa 2) (cs xa 4) (cs xa 3) (nI xb) (hU9.2.2.2.2.2.2.1 xa (by omega)).2.1 (hU9.2.2.2.2.2.2.1 xa (by omega)).2.2) (rp_blind _) (rp_at X hH hS) (recv X hH (hU9.2.2.2.2.2.2.1 xa (by omega)).2.1 (C := RX2) (T := TX2) (N := 3) rfl) mf_X2_number tw_515 tw_516 tw_517 ⟨rfl, rfl, Nat.le_of_ble_eq_true rfl, Nat.le_of_ble_eq_true rfl⟩ hl.1 rfl rfl (Nat.le_of_ble_eq_true rfl) ⟨Nat.le_of_ble_eq_true rfl, Nat.le_of_ble_eq_true rfl⟩ dX6_made_48) (fun r_48 q_48 => ?_)
          obtain rfl : r_48 = (mcN (cs xa 0) (cs xa 1) (cs xa 2) (cs xa 3) (nI xb)) := q_48
          exact ro_i X hr hlk (by show (_ : Int32) = _; unfold fMade; rw [if_neg hb9, if_neg ha9, tn_n (by omega), tn_n (by omega)]; rcases (show xb = 0 ∨ xb = 1 ∨ xb = 2 ∨ xb = 3 by omega) with rfl | rfl | rfl | rfl <;> rfl) dX6_made_51
        · refine lv_bipush (v := (-6)) X.1 X.2.1 dX6_made_30 (by decide) ?_
          exact ro_i X hr hlk (by show (_ : Int32) = _; unfold fMade; rw [if_neg hb9, if_pos (inI_n2 (by omega) (Int32.not_lt.mp c_27))]) dX6_made_32
    · refine lv_bipush (v := (-2)) X.1 X.2.1 dX6_made_9 (by decide) ?_
      exact ro_i X hr hlk (by show (_ : Int32) = _; unfold fMade; rw [if_pos (show inI b 0 3 = 0 from inJ_z (hi := 3) (by decide) (Or.inr (Int32.not_le.mp c_6)))]) dX6_made_11

set_option maxHeartbeats 4000000 in
set_option maxRecDepth 100000 in
theorem c_X6_state (l : Launch) (G : HG) (hp : HP) (b6 : Nat) (n : Nat) (R : Nat → Nat → Nat) (hd : Nat → Nat) (k : Nat) (cs : Nat → Nat → Int32) (sk : Bool) (pn : Nat) (pt : Nat → Nat) (hz : CZ G hp b6 (n, R, hd, k, cs, sk, pn, pt)) (a : Int32) : Met l yX6_state [.code yX6_state cX6_state 2 (some .int)] { frames := 6, cells := 0, slots := 0, locals := 125 } (va_Pc [.ref b6, .int a] (RP G hp)) (vp_Si (fun r => r = fState n k cs sk pn a)) 0 0 (fun _ => False) := by
  refine ro_ofW (by decide) (Nat.le_of_ble_eq_true rfl) ?_
  intro p e s m args below meth c ls X hr hlk hH hl
  have hS : va_S (fun _ => False) s.heap s.heap [] := va_S.rf
  have hl : lv_has ls 2 [(0, .ref b6), (1, .int a)] := hl
  obtain ⟨rl, au, pa, e0, e1, eR, cR, mR, gR, RA, al, p0, pw, eA, cA, mA, gA, CA, QA, vb, cv, ml, fb, hb6, hU6, hU9, hSB, hHD, hDJ, huq⟩ := hz
  replace hb6 : hp b6 = some (obE rl au pa e0 e1) := hb6
  replace hU6 : RU G hp rl eR cR mR gR RA n R := hU6
  replace hU9 : AU G hp au al p0 pw eA cA mA gA CA QA k cs sk := hU9
  replace hSB : SBp G hp pa vb cv ml fb pn pt := hSB
  have hn : n ≤ 24 := hU6.2.2.1
  have hk : k ≤ 12 := hU9.2.2.2.1
  have hpn := hSB.2.2.1
  have hd0 : hd 0 = e0 := hHD.1.1
  have hd1 : hd 1 = e1 := hHD.1.2
  have hhd : ∀ i, i < 2 → hd i ≤ 1048575 ∧ strH (hd i) ≤ 20 := hHD.2
  refine lv_iload_n X.1 X.2.1 dX6_state_0 rfl (lv_at hl 1 rfl) ?_
  refine (Decidable.em ((a : Int32) = 0)).elim (fun sw_1_0 => ?_) (fun sw_1_0 => ?_)
  · refine r_eqi sw_1_0 ?_
    refine lv_tableIn (off := 47) (tgt := 48) X.1 X.2.1 dX6_state_1 (by decide) (by decide) (by decide) (by decide) ?_
    refine lv_aload_n X.1 X.2.1 dX6_state_48 rfl (lv_at hl 0 rfl) ?_
    refine r_get X hH hb6 (v := .ref au) (C := RX6) (T := TX6) (N := 5) rfl tin_X6 1 (by decide) tw_149 (fun _ h => h) rfl dX6_state_49 ?_
    refine r_getN X hH hU9.1 (v := .ref al) (C := RX0) (T := TX0) (N := 4) rfl tin_X0 0 (by decide) tw_102 (fun _ h => h) rfl dX6_state_52 ?_
    refine on_Si (run_V (C := RJx4a65c) (As := []) (rest := []) X (c_Jx4a65c_size_8abf5 l G hp al eA k mA hU9.2.1) (rp_blind _) (rp_at X hH hS) (recv X hH hU9.2.1 (C := RJx4a65c) (T := TJx4a65c) (N := 3) rfl) mf_Jx4a65c_size_8abf5 tw_247 tw_218 tw_219 ⟨rfl, rfl, Nat.le_of_ble_eq_true rfl, Nat.le_of_ble_eq_true rfl⟩ hl.1 rfl rfl (Nat.le_of_ble_eq_true rfl) ⟨Nat.le_of_ble_eq_true rfl, Nat.le_of_ble_eq_true rfl⟩ dX6_state_55) (fun r_55 q_55 => ?_)
    obtain rfl : r_55 = (nI k) := q_55
    exact ro_i X hr hlk (by show (_ : Int32) = _; unfold fState; rw [if_pos sw_1_0]) dX6_state_58
  · skip
    refine (Decidable.em ((a : Int32) = 1)).elim (fun sw_1_1 => ?_) (fun sw_1_1 => ?_)
    · refine r_eqi sw_1_1 ?_
      refine lv_tableIn (off := 58) (tgt := 59) X.1 X.2.1 dX6_state_1 (by decide) (by decide) (by decide) (by decide) ?_
      refine lv_aload_n X.1 X.2.1 dX6_state_59 rfl (lv_at hl 0 rfl) ?_
      refine r_get X hH hb6 (v := .ref au) (C := RX6) (T := TX6) (N := 5) rfl tin_X6 1 (by decide) tw_149 (fun _ h => h) rfl dX6_state_60 ?_
      refine r_getN X hH hU9.1 (v := .ref pw) (C := RX0) (T := TX0) (N := 4) rfl tin_X0 2 (by decide) tw_105 (fun _ h => h) rfl dX6_state_63 ?_
      refine r_getN X hH hU9.2.2.2.2.2.2.2.1 (v := .int (cs k 2)) (C := RX3) (T := TX3) (N := 3) rfl tin_X3 0 (by decide) tw_86 (fun _ h => h) rfl dX6_state_66 ?_
      exact ro_i X hr hlk (by show (_ : Int32) = _; unfold fState; rw [if_neg sw_1_0, if_pos sw_1_1]) dX6_state_69
    · skip
      refine (Decidable.em ((a : Int32) = 2)).elim (fun sw_1_2 => ?_) (fun sw_1_2 => ?_)
      · refine r_eqi sw_1_2 ?_
        refine lv_tableIn (off := 69) (tgt := 70) X.1 X.2.1 dX6_state_1 (by decide) (by decide) (by decide) (by decide) ?_
        refine lv_aload_n X.1 X.2.1 dX6_state_70 rfl (lv_at hl 0 rfl) ?_
        refine r_get X hH hb6 (v := .ref au) (C := RX6) (T := TX6) (N := 5) rfl tin_X6 1 (by decide) tw_149 (fun _ h => h) rfl dX6_state_71 ?_
        refine r_getN X hH hU9.1 (v := .ref pw) (C := RX0) (T := TX0) (N := 4) rfl tin_X0 2 (by decide) tw_105 (fun _ h => h) rfl dX6_state_74 ?_
        refine r_getN X hH hU9.2.2.2.2.2.2.2.1 (v := .int (cs k 4)) (C := RX3) (T := TX3) (N := 3) rfl tin_X3 1 (by decide) tw_89 (fun _ h => h) rfl dX6_state_77 ?_
        exact ro_i X hr hlk (by show (_ : Int32) = _; unfold fState; rw [if_neg sw_1_0, if_neg sw_1_1, if_pos sw_1_2]) dX6_state_80
      · skip
        refine (Decidable.em ((a : Int32) = 3)).elim (fun sw_1_3 => ?_) (fun sw_1_3 => ?_)
        · refine r_eqi sw_1_3 ?_
          refine lv_tableIn (off := 80) (tgt := 81) X.1 X.2.1 dX6_state_1 (by decide) (by decide) (by decide) (by decide) ?_
          refine lv_aload_n X.1 X.2.1 dX6_state_81 rfl (lv_at hl 0 rfl) ?_
          refine r_get X hH hb6 (v := .ref au) (C := RX6) (T := TX6) (N := 5) rfl tin_X6 1 (by decide) tw_149 (fun _ h => h) rfl dX6_state_82 ?_
          refine r_getN X hH hU9.1 (v := .ref pw) (C := RX0) (T := TX0) (N := 4) rfl tin_X0 2 (by decide) tw_105 (fun _ h => h) rfl dX6_state_85 ?_
          refine r_getN X hH hU9.2.2.2.2.2.2.2.1 (v := .int (cs k 3)) (C := RX3) (T := TX3) (N := 3) rfl tin_X3 2 (by decide) tw_93 (fun _ h => h) rfl dX6_state_88 ?_
          exact ro_i X hr hlk (by show (_ : Int32) = _; unfold fState; rw [if_neg sw_1_0, if_neg sw_1_1, if_neg sw_1_2, if_pos sw_1_3]) dX6_state_91
        · skip
          refine (Decidable.em ((a : Int32) = 4)).elim (fun sw_1_4 => ?_) (fun sw_1_4 => ?_)
          · refine r_eqi sw_1_4 ?_
            refine lv_tableIn (off := 91) (tgt := 92) X.1 X.2.1 dX6_state_1 (by decide) (by decide) (by decide) (by decide) ?_
            refine lv_aload_n X.1 X.2.1 dX6_state_92 rfl (lv_at hl 0 rfl) ?_
            refine r_get X hH hb6 (v := .ref au) (C := RX6) (T := TX6) (N := 5) rfl tin_X6 1 (by decide) tw_149 (fun _ h => h) rfl dX6_state_93 ?_
            refine on_Si (run_V (C := RX0) (As := []) (rest := []) X (c_X0_turn l G hp au al p0 pw eA cA mA gA CA QA k cs sk hU9) (rp_blind _) (rp_at X hH hS) (recv X hH hU9.1 (C := RX0) (T := TX0) (N := 4) rfl) mf_X0_turn tw_252 tw_253 tw_254 ⟨rfl, rfl, Nat.le_of_ble_eq_true rfl, Nat.le_of_ble_eq_true rfl⟩ hl.1 rfl rfl (Nat.le_of_ble_eq_true rfl) ⟨Nat.le_of_ble_eq_true rfl, Nat.le_of_ble_eq_true rfl⟩ dX6_state_96) (fun r_96 q_96 => ?_)
            obtain rfl : r_96 = (nI (k % 2)) := q_96
            exact ro_i X hr hlk (by show (_ : Int32) = _; unfold fState; rw [if_neg sw_1_0, if_neg sw_1_1, if_neg sw_1_2, if_neg sw_1_3, if_pos sw_1_4]) dX6_state_99
          · skip
            refine (Decidable.em ((a : Int32) = 5)).elim (fun sw_1_5 => ?_) (fun sw_1_5 => ?_)
            · refine r_eqi sw_1_5 ?_
              refine lv_tableIn (off := 99) (tgt := 100) X.1 X.2.1 dX6_state_1 (by decide) (by decide) (by decide) (by decide) ?_
              refine lv_aload_n X.1 X.2.1 dX6_state_100 rfl (lv_at hl 0 rfl) ?_
              refine r_get X hH hb6 (v := .ref au) (C := RX6) (T := TX6) (N := 5) rfl tin_X6 1 (by decide) tw_149 (fun _ h => h) rfl dX6_state_101 ?_
              refine on_Si (run_V (C := RX0) (As := []) (rest := []) X (c_X0_ending l G hp au al p0 pw eA cA mA gA CA QA k cs sk hU9) (rp_blind _) (rp_at X hH hS) (recv X hH hU9.1 (C := RX0) (T := TX0) (N := 4) rfl) mf_X0_ending tw_256 tw_257 tw_258 ⟨rfl, rfl, Nat.le_of_ble_eq_true rfl, Nat.le_of_ble_eq_true rfl⟩ hl.1 rfl rfl (Nat.le_of_ble_eq_true rfl) ⟨Nat.le_of_ble_eq_true rfl, Nat.le_of_ble_eq_true rfl⟩ dX6_state_104) (fun r_104 q_104 => ?_)
              obtain rfl : r_104 = (if sk = true then 2 else bI (ovB k cs sk)) := q_104
              exact ro_i X hr hlk (by show (_ : Int32) = _; unfold fState; rw [if_neg sw_1_0, if_neg sw_1_1, if_neg sw_1_2, if_neg sw_1_3, if_neg sw_1_4, if_pos sw_1_5]) dX6_state_107
            · skip
              refine (Decidable.em ((a : Int32) = 6)).elim (fun sw_1_6 => ?_) (fun sw_1_6 => ?_)
              · refine r_eqi sw_1_6 ?_
                refine lv_tableIn (off := 107) (tgt := 108) X.1 X.2.1 dX6_state_1 (by decide) (by decide) (by decide) (by decide) ?_
                refine lv_aload_n X.1 X.2.1 dX6_state_108 rfl (lv_at hl 0 rfl) ?_
                refine r_get X hH hb6 (v := .ref rl) (C := RX6) (T := TX6) (N := 5) rfl tin_X6 0 (by decide) tw_148 (fun _ h => h) rfl dX6_state_109 ?_
                refine on_Si (run_V (C := RJx4a65c) (As := []) (rest := []) X (c_Jx4a65c_size_8abf5 l G hp rl eR n mR hU6.1) (rp_blind _) (rp_at X hH hS) (recv X hH hU6.1 (C := RJx4a65c) (T := TJx4a65c) (N := 3) rfl) mf_Jx4a65c_size_8abf5 tw_247 tw_218 tw_219 ⟨rfl, rfl, Nat.le_of_ble_eq_true rfl, Nat.le_of_ble_eq_true rfl⟩ hl.1 rfl rfl (Nat.le_of_ble_eq_true rfl) ⟨Nat.le_of_ble_eq_true rfl, Nat.le_of_ble_eq_true rfl⟩ dX6_state_112) (fun r_112 q_112 => ?_)
                obtain rfl : r_112 = (nI n) := q_112
                exact ro_i X hr hlk (by show (_ : Int32) = _; unfold fState; rw [if_neg sw_1_0, if_neg sw_1_1, if_neg sw_1_2, if_neg sw_1_3, if_neg sw_1_4, if_neg sw_1_5, if_pos sw_1_6]) dX6_state_115
              · skip
                refine (Decidable.em ((a : Int32) = 7)).elim (fun sw_1_7 => ?_) (fun sw_1_7 => ?_)
                · refine r_eqi sw_1_7 ?_
                  refine lv_tableIn (off := 115) (tgt := 116) X.1 X.2.1 dX6_state_1 (by decide) (by decide) (by decide) (by decide) ?_
                  refine lv_aload_n X.1 X.2.1 dX6_state_116 rfl (lv_at hl 0 rfl) ?_
                  refine r_get X hH hb6 (v := .ref pa) (C := RX6) (T := TX6) (N := 5) rfl tin_X6 2 (by decide) tw_150 (fun _ h => h) rfl dX6_state_117 ?_
                  refine on_Si (run_V (C := RJ4) (As := []) (rest := []) X (c_J4_length_8abf5 l G hp pa vb cv ml fb pn pt hSB) (rp_blind _) (rp_at X hH hS) (recv X hH hSB.1 (C := RJ4) (T := TJ4) (N := 4) rfl) mf_J4_length_8abf5 tw_268 tw_269 tw_270 ⟨rfl, rfl, Nat.le_of_ble_eq_true rfl, Nat.le_of_ble_eq_true rfl⟩ hl.1 rfl rfl (Nat.le_of_ble_eq_true rfl) ⟨Nat.le_of_ble_eq_true rfl, Nat.le_of_ble_eq_true rfl⟩ dX6_state_120) (fun r_120 q_120 => ?_)
                  obtain rfl : r_120 = (nI pn) := q_120
                  exact ro_i X hr hlk (by show (_ : Int32) = _; unfold fState; rw [if_neg sw_1_0, if_neg sw_1_1, if_neg sw_1_2, if_neg sw_1_3, if_neg sw_1_4, if_neg sw_1_5, if_neg sw_1_6, if_pos sw_1_7]) dX6_state_123
                · skip
                  have sn_1_0 := lv_neT sw_1_0 (k := 0) (a := 0) (by decide)
                  have sn_1_1 := lv_neT sw_1_1 (k := 1) (a := 1) (by decide)
                  have sn_1_2 := lv_neT sw_1_2 (k := 2) (a := 2) (by decide)
                  have sn_1_3 := lv_neT sw_1_3 (k := 3) (a := 3) (by decide)
                  have sn_1_4 := lv_neT sw_1_4 (k := 4) (a := 4) (by decide)
                  have sn_1_5 := lv_neT sw_1_5 (k := 5) (a := 5) (by decide)
                  have sn_1_6 := lv_neT sw_1_6 (k := 6) (a := 6) (by decide)
                  have sn_1_7 := lv_neT sw_1_7 (k := 7) (a := 7) (by decide)
                  refine lv_tableOut (tgt := 124) X.1 X.2.1 dX6_state_1 (by omega) (by decide) ?_
                  refine lv_bipush (v := (-2)) X.1 X.2.1 dX6_state_124 (by decide) ?_
                  exact ro_i X hr hlk (by show (_ : Int32) = _; unfold fState; rw [if_neg sw_1_0, if_neg sw_1_1, if_neg sw_1_2, if_neg sw_1_3, if_neg sw_1_4, if_neg sw_1_5, if_neg sw_1_6, if_neg sw_1_7]) dX6_state_126

set_option maxHeartbeats 4000000 in
set_option maxRecDepth 100000 in
theorem c_X6_tricks (l : Launch) (G : HG) (hp : HP) (b6 : Nat) (n : Nat) (R : Nat → Nat → Nat) (hd : Nat → Nat) (k : Nat) (cs : Nat → Nat → Int32) (sk : Bool) (pn : Nat) (pt : Nat → Nat) (hz : CZ G hp b6 (n, R, hd, k, cs, sk, pn, pt)) (a b d : Int32) : Met l yX6_tricks [.code yX6_tricks cX6_tricks 4 (some .int)] { frames := 3, cells := 0, slots := 0, locals := 69 } (va_Pc [.ref b6, .int a, .int b, .int d] (RP G hp)) (vp_Si (fun r => r = fTricks a b d)) 0 0 (fun _ => False) := by
  refine ro_ofW (by decide) (Nat.le_of_ble_eq_true rfl) ?_
  intro p e s m args below meth c ls X hr hlk hH hl
  have hS : va_S (fun _ => False) s.heap s.heap [] := va_S.rf
  have hl : lv_has ls 4 [(0, .ref b6), (1, .int a), (2, .int b), (3, .int d)] := hl
  obtain ⟨rl, au, pa, e0, e1, eR, cR, mR, gR, RA, al, p0, pw, eA, cA, mA, gA, CA, QA, vb, cv, ml, fb, hb6, hU6, hU9, hSB, hHD, hDJ, huq⟩ := hz
  replace hb6 : hp b6 = some (obE rl au pa e0 e1) := hb6
  replace hU6 : RU G hp rl eR cR mR gR RA n R := hU6
  replace hU9 : AU G hp au al p0 pw eA cA mA gA CA QA k cs sk := hU9
  replace hSB : SBp G hp pa vb cv ml fb pn pt := hSB
  have hn : n ≤ 24 := hU6.2.2.1
  have hk : k ≤ 12 := hU9.2.2.2.1
  have hpn := hSB.2.2.1
  have hd0 : hd 0 = e0 := hHD.1.1
  have hd1 : hd 1 = e1 := hHD.1.2
  have hhd : ∀ i, i < 2 → hd i ≤ 1048575 ∧ strH (hd i) ≤ 20 := hHD.2
  refine lv_iload_n X.1 X.2.1 dX6_tricks_0 rfl (lv_at hl 1 rfl) ?_
  refine on_Si (run_S (As := [.int a]) (rest := []) X (c_X6_isStrain l G hp a) (rp_blind _) (rp_at X hH hS) mf_X6_isStrain tw_313 tw_314 ⟨rfl, rfl, Nat.le_of_ble_eq_true rfl, Nat.le_of_ble_eq_true rfl⟩ hl.1 rfl rfl (Nat.le_of_ble_eq_true rfl) ⟨Nat.le_of_ble_eq_true rfl, Nat.le_of_ble_eq_true rfl⟩ dX6_tricks_1) (fun r_1 q_1 => ?_)
  obtain rfl : r_1 = (inI a 0 4) := q_1
  refine lv_if_eq (tgt := 27) X.1 X.2.1 dX6_tricks_4 (by decide) (fun c_4 => ?_) (fun c_4 => ?_)
  · refine lv_bipush (v := (-2)) X.1 X.2.1 dX6_tricks_27 (by decide) ?_
    exact ro_i X hr hlk (by show (_ : Int32) = _; unfold fTricks; rw [if_pos (Or.inl c_4)]) dX6_tricks_29
  · obtain ⟨xa, hxa, rfl⟩ := inI_nat (hi := 4) c_4 (by decide)
    refine lv_iload_n X.1 X.2.1 dX6_tricks_7 rfl (lv_at hl 2 rfl) ?_
    refine on_Si (run_S (As := [.int b]) (rest := []) X (c_X1_isHand l G hp b) (rp_blind _) (rp_at X hH hS) mf_X1_isHand tw_279 tw_280 ⟨rfl, rfl, Nat.le_of_ble_eq_true rfl, Nat.le_of_ble_eq_true rfl⟩ hl.1 rfl rfl (Nat.le_of_ble_eq_true rfl) ⟨Nat.le_of_ble_eq_true rfl, Nat.le_of_ble_eq_true rfl⟩ dX6_tricks_8) (fun r_8 q_8 => ?_)
    obtain rfl : r_8 = (bI (handB b)) := q_8
    refine lv_if_eq (tgt := 27) X.1 X.2.1 dX6_tricks_11 (by decide) (fun c_11 => ?_) (fun c_11 => ?_)
    · refine lv_bipush (v := (-2)) X.1 X.2.1 dX6_tricks_27 (by decide) ?_
      exact ro_i X hr hlk (by show (_ : Int32) = _; unfold fTricks; rw [if_pos (Or.inr (Or.inl (bI_0 c_11)))]) dX6_tricks_29
    · have g11 := bI_1 c_11
      obtain ⟨xb, hxb, rfl, hzxb⟩ := handB_of g11
      refine lv_iload_n X.1 X.2.1 dX6_tricks_14 rfl (lv_at hl 3 rfl) ?_
      refine on_Si (run_S (As := [.int d]) (rest := []) X (c_X1_isHand l G hp d) (rp_blind _) (rp_at X hH hS) mf_X1_isHand tw_279 tw_280 ⟨rfl, rfl, Nat.le_of_ble_eq_true rfl, Nat.le_of_ble_eq_true rfl⟩ hl.1 rfl rfl (Nat.le_of_ble_eq_true rfl) ⟨Nat.le_of_ble_eq_true rfl, Nat.le_of_ble_eq_true rfl⟩ dX6_tricks_15) (fun r_15 q_15 => ?_)
      obtain rfl : r_15 = (bI (handB d)) := q_15
      refine lv_if_eq (tgt := 27) X.1 X.2.1 dX6_tricks_18 (by decide) (fun c_18 => ?_) (fun c_18 => ?_)
      · refine lv_bipush (v := (-2)) X.1 X.2.1 dX6_tricks_27 (by decide) ?_
        exact ro_i X hr hlk (by show (_ : Int32) = _; unfold fTricks; rw [if_pos (Or.inr (Or.inr (Or.inl (bI_0 c_18))))]) dX6_tricks_29
      · have g18 := bI_1 c_18
        obtain ⟨xd, hxd, rfl, hzxd⟩ := handB_of g18
        refine lv_iload_n X.1 X.2.1 dX6_tricks_21 rfl (lv_at hl 2 rfl) ?_
        refine lv_iload_n X.1 X.2.1 dX6_tricks_22 rfl (lv_at hl 3 rfl) ?_
        refine lv_iand X.1 X.2.1 dX6_tricks_23 ?_
        refine r_eqi (show (((nI xb) &&& (nI xd)) : Int32) = nI (xb &&& xd) from n_and xb xd) ?_
        have hab : xb &&& xd ≤ xb := Nat.and_le_left
        refine lv_if_eq (tgt := 30) X.1 X.2.1 dX6_tricks_24 (by decide) (fun c_24 => ?_) (fun c_24 => ?_)
        · have k_24 := k_eq (a := (xb &&& xd)) (b := 0) (by omega) (by omega) c_24
          refine lv_iload_n X.1 X.2.1 dX6_tricks_30 rfl (lv_at hl 1 rfl) ?_
          refine lv_iload_n X.1 X.2.1 dX6_tricks_31 rfl (lv_at hl 2 rfl) ?_
          refine lv_iload_n X.1 X.2.1 dX6_tricks_32 rfl (lv_at hl 3 rfl) ?_
          refine on_Si (run_S (As := [.int (nI xa), .int (nI xb), .int (nI xd)]) (rest := []) X (c_X1_tricksOf l G hp xa xb xd (by omega) (by omega) (by omega)) (rp_blind _) (rp_at X hH hS) mf_X1_tricksOf tw_316 tw_317 ⟨rfl, rfl, Nat.le_of_ble_eq_true rfl, Nat.le_of_ble_eq_true rfl⟩ hl.1 rfl rfl (Nat.le_of_ble_eq_true rfl) ⟨Nat.le_of_ble_eq_true rfl, Nat.le_of_ble_eq_true rfl⟩ dX6_tricks_33) (fun r_33 q_33 => ?_)
          obtain rfl : r_33 = (nI (trN xa xb xd)) := q_33
          exact ro_i X hr hlk (by show (_ : Int32) = _; unfold fTricks; rw [if_neg (fun q => Or.elim q c_4 (fun q => Or.elim q (fun q => Bool.false_ne_true (q.symm.trans g11)) (fun q => Or.elim q (fun q => Bool.false_ne_true (q.symm.trans g18)) (fun q => q (by rw [tn_n (by omega), tn_n (by omega)]; exact k_24))))), tn_n (by omega), tn_n (by omega), tn_n (by omega)]) dX6_tricks_36
        · have k_24 := k_ne (a := (xb &&& xd)) (b := 0) (by omega) (by omega) c_24
          refine lv_bipush (v := (-2)) X.1 X.2.1 dX6_tricks_27 (by decide) ?_
          exact ro_i X hr hlk (by show (_ : Int32) = _; unfold fTricks; rw [if_pos (Or.inr (Or.inr (Or.inr (by rw [tn_n (by omega), tn_n (by omega)]; exact k_24))))]) dX6_tricks_29

set_option maxHeartbeats 4000000 in
set_option maxRecDepth 100000 in
theorem c_X6_fits (l : Launch) (G : HG) (hp : HP) (b6 : Nat) (n : Nat) (R : Nat → Nat → Nat) (hd : Nat → Nat) (k : Nat) (cs : Nat → Nat → Int32) (sk : Bool) (pn : Nat) (pt : Nat → Nat) (hz : CZ G hp b6 (n, R, hd, k, cs, sk, pn, pt)) (a b : Int32) : Met l yX6_fits [.code yX6_fits cX6_fits 3 (some .int)] { frames := 5, cells := 0, slots := 0, locals := 113 } (va_Pc [.ref b6, .int a, .int b] (RP G hp)) (vp_Si (fun r => r = fFits n R k cs sk a b)) 0 0 (fun _ => False) := by
  refine ro_ofW (by decide) (Nat.le_of_ble_eq_true rfl) ?_
  intro p e s m args below meth c ls X hr hlk hH hl
  have hS : va_S (fun _ => False) s.heap s.heap [] := va_S.rf
  have hl : lv_has ls 3 [(0, .ref b6), (1, .int a), (2, .int b)] := hl
  obtain ⟨rl, au, pa, e0, e1, eR, cR, mR, gR, RA, al, p0, pw, eA, cA, mA, gA, CA, QA, vb, cv, ml, fb, hb6, hU6, hU9, hSB, hHD, hDJ, huq⟩ := hz
  replace hb6 : hp b6 = some (obE rl au pa e0 e1) := hb6
  replace hU6 : RU G hp rl eR cR mR gR RA n R := hU6
  replace hU9 : AU G hp au al p0 pw eA cA mA gA CA QA k cs sk := hU9
  replace hSB : SBp G hp pa vb cv ml fb pn pt := hSB
  have hn : n ≤ 24 := hU6.2.2.1
  have hk : k ≤ 12 := hU9.2.2.2.1
  have hpn := hSB.2.2.1
  have hd0 : hd 0 = e0 := hHD.1.1
  have hd1 : hd 1 = e1 := hHD.1.2
  have hhd : ∀ i, i < 2 → hd i ≤ 1048575 ∧ strH (hd i) ≤ 20 := hHD.2
  refine lv_iload_n X.1 X.2.1 dX6_fits_0 rfl (lv_at hl 1 rfl) ?_
  refine on_Si (run_S (As := [.int a]) (rest := []) X (c_X6_isPartner l G hp a) (rp_blind _) (rp_at X hH hS) mf_X6_isPartner tw_186 tw_187 ⟨rfl, rfl, Nat.le_of_ble_eq_true rfl, Nat.le_of_ble_eq_true rfl⟩ hl.1 rfl rfl (Nat.le_of_ble_eq_true rfl) ⟨Nat.le_of_ble_eq_true rfl, Nat.le_of_ble_eq_true rfl⟩ dX6_fits_1) (fun r_1 q_1 => ?_)
  obtain rfl : r_1 = (inI a 0 1) := q_1
  refine lv_if_ne (tgt := 9) X.1 X.2.1 dX6_fits_4 (by decide) (fun c_4 => ?_) (fun c_4 => ?_)
  · obtain ⟨xa, hxa, rfl⟩ := inI_nat (hi := 1) c_4 (by decide)
    refine lv_iload_n X.1 X.2.1 dX6_fits_9 rfl (lv_at hl 2 rfl) ?_
    refine on_Si (run_S (As := [.int b]) (rest := []) X (c_X1_isHand l G hp b) (rp_blind _) (rp_at X hH hS) mf_X1_isHand tw_279 tw_280 ⟨rfl, rfl, Nat.le_of_ble_eq_true rfl, Nat.le_of_ble_eq_true rfl⟩ hl.1 rfl rfl (Nat.le_of_ble_eq_true rfl) ⟨Nat.le_of_ble_eq_true rfl, Nat.le_of_ble_eq_true rfl⟩ dX6_fits_10) (fun r_10 q_10 => ?_)
    obtain rfl : r_10 = (bI (handB b)) := q_10
    refine lv_if_ne (tgt := 19) X.1 X.2.1 dX6_fits_13 (by decide) (fun c_13 => ?_) (fun c_13 => ?_)
    · have g13 := bI_1 c_13
      obtain ⟨xb, hxb, rfl, hzxb⟩ := handB_of g13
      have hst : strH xb ≤ 20 := by have := str_size xb; omega
      refine lv_aload_n X.1 X.2.1 dX6_fits_19 rfl (lv_at hl 0 rfl) ?_
      refine lv_iload_n X.1 X.2.1 dX6_fits_20 rfl (lv_at hl 1 rfl) ?_
      refine lv_iload_n X.1 X.2.1 dX6_fits_21 rfl (lv_at hl 2 rfl) ?_
      refine on_Si (run_V (C := RX6) (As := [.int (nI xa), .int (nI xb)]) (rest := []) X (c_X6_fitsAuction l G hp b6 rl au pa e0 e1 hb6 eR cR mR gR RA n R hU6 al p0 pw eA cA mA gA CA QA k cs sk hU9 xa xb (by omega) (by omega) (by omega)) (rp_blind _) (rp_at X hH hS) (recv X hH hb6 (C := RX6) (T := TX6) (N := 5) rfl) mf_X6_fitsAuction tw_286 tw_288 tw_3 ⟨rfl, rfl, Nat.le_of_ble_eq_true rfl, Nat.le_of_ble_eq_true rfl⟩ hl.1 rfl rfl (Nat.le_of_ble_eq_true rfl) ⟨Nat.le_of_ble_eq_true rfl, Nat.le_of_ble_eq_true rfl⟩ dX6_fits_22) (fun r_22 q_22 => ?_)
      obtain rfl : r_22 = (bI (faB n R k cs sk xa xb)) := q_22
      refine lv_if_eq (tgt := 32) X.1 X.2.1 dX6_fits_25 (by decide) (fun c_25 => ?_) (fun c_25 => ?_)
      · refine lv_iconst (v := 0) X.1 X.2.1 dX6_fits_32 (by decide) ?_
        exact ro_i X hr hlk (by show (_ : Int32) = _; unfold fFits; rw [if_neg c_4, if_neg (fun q => Bool.false_ne_true (q.symm.trans g13)), tn_n (by omega), tn_n (by omega), bI_0 c_25]; rfl) dX6_fits_33
      · refine lv_iconst (v := 1) X.1 X.2.1 dX6_fits_28 (by decide) ?_
        refine lv_goto (tgt := 33) X.1 X.2.1 dX6_fits_29 (by decide) ?_
        exact ro_i X hr hlk (by show (_ : Int32) = _; unfold fFits; rw [if_neg c_4, if_neg (fun q => Bool.false_ne_true (q.symm.trans g13)), tn_n (by omega), tn_n (by omega), bI_1 c_25]; rfl) dX6_fits_33
    · refine lv_bipush (v := (-2)) X.1 X.2.1 dX6_fits_16 (by decide) ?_
      exact ro_i X hr hlk (by show (_ : Int32) = _; unfold fFits; rw [if_neg c_4, if_pos (bI_0 c_13)]) dX6_fits_18
  · refine lv_iconst (v := (-1)) X.1 X.2.1 dX6_fits_7 (by decide) ?_
    exact ro_i X hr hlk (by show (_ : Int32) = _; unfold fFits; rw [if_pos c_4]) dX6_fits_8

set_option maxHeartbeats 4000000 in
set_option maxRecDepth 100000 in
theorem c_X6_ruleOf (l : Launch) (G : HG) (hp : HP) (b6 : Nat) (n : Nat) (R : Nat → Nat → Nat) (hd : Nat → Nat) (k : Nat) (cs : Nat → Nat → Int32) (sk : Bool) (pn : Nat) (pt : Nat → Nat) (hz : CZ G hp b6 (n, R, hd, k, cs, sk, pn, pt)) (b : Int32) : Met l yX6_ruleOf [.code yX6_ruleOf cX6_ruleOf 2 (some .int)] { frames := 5, cells := 0, slots := 0, locals := 105 } (va_Pc [.ref b6, .int b] (RP G hp)) (vp_Si (fun r => r = fRuleOf n R k cs sk b)) 0 0 (fun _ => False) := by
  refine ro_ofW (by decide) (Nat.le_of_ble_eq_true rfl) ?_
  intro p e s m args below meth c ls X hr hlk hH hl
  have hS : va_S (fun _ => False) s.heap s.heap [] := va_S.rf
  have hl : lv_has ls 2 [(0, .ref b6), (1, .int b)] := hl
  obtain ⟨rl, au, pa, e0, e1, eR, cR, mR, gR, RA, al, p0, pw, eA, cA, mA, gA, CA, QA, vb, cv, ml, fb, hb6, hU6, hU9, hSB, hHD, hDJ, huq⟩ := hz
  replace hb6 : hp b6 = some (obE rl au pa e0 e1) := hb6
  replace hU6 : RU G hp rl eR cR mR gR RA n R := hU6
  replace hU9 : AU G hp au al p0 pw eA cA mA gA CA QA k cs sk := hU9
  replace hSB : SBp G hp pa vb cv ml fb pn pt := hSB
  have hn : n ≤ 24 := hU6.2.2.1
  have hk : k ≤ 12 := hU9.2.2.2.1
  have hpn := hSB.2.2.1
  have hd0 : hd 0 = e0 := hHD.1.1
  have hd1 : hd 1 = e1 := hHD.1.2
  have hhd : ∀ i, i < 2 → hd i ≤ 1048575 ∧ strH (hd i) ≤ 20 := hHD.2
  refine lv_iload_n X.1 X.2.1 dX6_ruleOf_0 rfl (lv_at hl 1 rfl) ?_
  refine on_Si (run_S (As := [.int b]) (rest := []) X (c_X1_isHand l G hp b) (rp_blind _) (rp_at X hH hS) mf_X1_isHand tw_279 tw_280 ⟨rfl, rfl, Nat.le_of_ble_eq_true rfl, Nat.le_of_ble_eq_true rfl⟩ hl.1 rfl rfl (Nat.le_of_ble_eq_true rfl) ⟨Nat.le_of_ble_eq_true rfl, Nat.le_of_ble_eq_true rfl⟩ dX6_ruleOf_1) (fun r_1 q_1 => ?_)
  obtain rfl : r_1 = (bI (handB b)) := q_1
  refine lv_if_ne (tgt := 10) X.1 X.2.1 dX6_ruleOf_4 (by decide) (fun c_4 => ?_) (fun c_4 => ?_)
  · have g4 := bI_1 c_4
    obtain ⟨xb, hxb, rfl, hzxb⟩ := handB_of g4
    have hst : strH xb ≤ 20 := by have := str_size xb; omega
    refine lv_aload_n X.1 X.2.1 dX6_ruleOf_10 rfl (lv_at hl 0 rfl) ?_
    refine r_get X hH hb6 (v := .ref au) (C := RX6) (T := TX6) (N := 5) rfl tin_X6 1 (by decide) tw_149 (fun _ h => h) rfl dX6_ruleOf_11 ?_
    refine on_Si (run_V (C := RX0) (As := []) (rest := []) X (c_X0_isOver l G hp au al p0 pw eA cA mA gA CA QA k cs sk hU9) (rp_blind _) (rp_at X hH hS) (recv X hH hU9.1 (C := RX0) (T := TX0) (N := 4) rfl) mf_X0_isOver tw_482 tw_261 tw_262 ⟨rfl, rfl, Nat.le_of_ble_eq_true rfl, Nat.le_of_ble_eq_true rfl⟩ hl.1 rfl rfl (Nat.le_of_ble_eq_true rfl) ⟨Nat.le_of_ble_eq_true rfl, Nat.le_of_ble_eq_true rfl⟩ dX6_ruleOf_14) (fun r_14 q_14 => ?_)
    obtain rfl : r_14 = (bI (ovB k cs sk)) := q_14
    refine lv_if_eq (tgt := 23) X.1 X.2.1 dX6_ruleOf_17 (by decide) (fun c_17 => ?_) (fun c_17 => ?_)
    · refine lv_aload_n X.1 X.2.1 dX6_ruleOf_23 rfl (lv_at hl 0 rfl) ?_
      refine lv_aload_n X.1 X.2.1 dX6_ruleOf_24 rfl (lv_at hl 0 rfl) ?_
      refine r_get X hH hb6 (v := .ref au) (C := RX6) (T := TX6) (N := 5) rfl tin_X6 1 (by decide) tw_149 (fun _ h => h) rfl dX6_ruleOf_25 ?_
      refine r_getN X hH hU9.1 (v := .ref pw) (C := RX0) (T := TX0) (N := 4) rfl tin_X0 2 (by decide) tw_105 (fun _ h => h) rfl dX6_ruleOf_28 ?_
      refine lv_iload_n X.1 X.2.1 dX6_ruleOf_31 rfl (lv_at hl 1 rfl) ?_
      refine on_Si (run_S (As := [.int (nI xb)]) (rest := [.ref pw, .ref b6]) X (c_X1_profile l G hp xb (by omega)) (rp_blind _) (rp_at X hH hS) mf_X1_profile tw_290 tw_291 ⟨rfl, rfl, Nat.le_of_ble_eq_true rfl, Nat.le_of_ble_eq_true rfl⟩ hl.1 rfl rfl (Nat.le_of_ble_eq_true rfl) ⟨Nat.le_of_ble_eq_true rfl, Nat.le_of_ble_eq_true rfl⟩ dX6_ruleOf_32) (fun r_32 q_32 => ?_)
      obtain rfl : r_32 = (nI (pfN xb)) := q_32
      refine on_Si (run_V (C := RX6) (As := [.ref pw, .int (nI (pfN xb))]) (rest := []) X (c_X6_firstRule l G hp b6 rl au pa e0 e1 hb6 eR cR mR gR RA n R hU6 pw (cs k 2) (cs k 4) (cs k 3) hU9.2.2.2.2.2.2.2.1 xb (by omega)) (rp_blind _) (rp_at X hH hS) (recv X hH hb6 (C := RX6) (T := TX6) (N := 5) rfl) mf_X6_firstRule tw_295 tw_297 tw_4 ⟨rfl, rfl, Nat.le_of_ble_eq_true rfl, Nat.le_of_ble_eq_true rfl⟩ hl.1 rfl rfl (Nat.le_of_ble_eq_true rfl) ⟨Nat.le_of_ble_eq_true rfl, Nat.le_of_ble_eq_true rfl⟩ dX6_ruleOf_35) (fun r_35 q_35 => ?_)
      obtain rfl : r_35 = (rlF n R xb (cs k 2) (cs k 4) (cs k 3)) := q_35
      exact ro_i X hr hlk (by show (_ : Int32) = _; unfold fRuleOf; rw [if_neg (fun q => Bool.false_ne_true (q.symm.trans g4)), if_neg (fun q => Bool.false_ne_true ((bI_0 c_17).symm.trans q)), tn_n (by omega)]) dX6_ruleOf_38
    · refine lv_bipush (v := (-5)) X.1 X.2.1 dX6_ruleOf_20 (by decide) ?_
      exact ro_i X hr hlk (by show (_ : Int32) = _; unfold fRuleOf; rw [if_neg (fun q => Bool.false_ne_true (q.symm.trans g4)), if_pos (bI_1 c_17)]) dX6_ruleOf_22
  · refine lv_bipush (v := (-2)) X.1 X.2.1 dX6_ruleOf_7 (by decide) ?_
    exact ro_i X hr hlk (by show (_ : Int32) = _; unfold fRuleOf; rw [if_pos (bI_0 c_4)]) dX6_ruleOf_9

set_option maxHeartbeats 4000000 in
set_option maxRecDepth 100000 in
theorem c_X6_hands (l : Launch) (G : HG) (hp : HP) (b6 : Nat) (n : Nat) (R : Nat → Nat → Nat) (hd : Nat → Nat) (k : Nat) (cs : Nat → Nat → Int32) (sk : Bool) (pn : Nat) (pt : Nat → Nat) (hz : CZ G hp b6 (n, R, hd, k, cs, sk, pn, pt)) (a b : Int32) : Met l yX6_hands [.code yX6_hands cX6_hands 3 (some .int)] { frames := 7, cells := 0, slots := 0, locals := 161 } (va_Pc [.ref b6, .int a, .int b] (RP G hp)) (vp_Si (fun r => r = fHands n R k cs sk a b)) 0 0 (fun _ => False) := by
  refine ro_ofW (by decide) (Nat.le_of_ble_eq_true rfl) ?_
  intro p e s m args below meth c ls X hr hlk hH hl
  have hS : va_S (fun _ => False) s.heap s.heap [] := va_S.rf
  have hl : lv_has ls 3 [(0, .ref b6), (1, .int a), (2, .int b)] := hl
  obtain ⟨rl, au, pa, e0, e1, eR, cR, mR, gR, RA, al, p0, pw, eA, cA, mA, gA, CA, QA, vb, cv, ml, fb, hb6, hU6, hU9, hSB, hHD, hDJ, huq⟩ := hz
  replace hb6 : hp b6 = some (obE rl au pa e0 e1) := hb6
  replace hU6 : RU G hp rl eR cR mR gR RA n R := hU6
  replace hU9 : AU G hp au al p0 pw eA cA mA gA CA QA k cs sk := hU9
  replace hSB : SBp G hp pa vb cv ml fb pn pt := hSB
  have hn : n ≤ 24 := hU6.2.2.1
  have hk : k ≤ 12 := hU9.2.2.2.1
  have hpn := hSB.2.2.1
  have hd0 : hd 0 = e0 := hHD.1.1
  have hd1 : hd 1 = e1 := hHD.1.2
  have hhd : ∀ i, i < 2 → hd i ≤ 1048575 ∧ strH (hd i) ≤ 20 := hHD.2
  refine lv_iload_n X.1 X.2.1 dX6_hands_0 rfl (lv_at hl 1 rfl) ?_
  refine on_Si (run_S (As := [.int a]) (rest := []) X (c_X6_isPartner l G hp a) (rp_blind _) (rp_at X hH hS) mf_X6_isPartner tw_186 tw_187 ⟨rfl, rfl, Nat.le_of_ble_eq_true rfl, Nat.le_of_ble_eq_true rfl⟩ hl.1 rfl rfl (Nat.le_of_ble_eq_true rfl) ⟨Nat.le_of_ble_eq_true rfl, Nat.le_of_ble_eq_true rfl⟩ dX6_hands_1) (fun r_1 q_1 => ?_)
  obtain rfl : r_1 = (inI a 0 1) := q_1
  refine lv_if_ne (tgt := 9) X.1 X.2.1 dX6_hands_4 (by decide) (fun c_4 => ?_) (fun c_4 => ?_)
  · obtain ⟨xa, hxa, rfl⟩ := inI_nat (hi := 1) c_4 (by decide)
    refine lv_iload_n X.1 X.2.1 dX6_hands_9 rfl (lv_at hl 2 rfl) ?_
    refine on_Si (run_S (As := [.int b]) (rest := []) X (c_X1_isSet l G hp b) (rp_blind _) (rp_at X hH hS) mf_X1_isSet tw_540 tw_283 ⟨rfl, rfl, Nat.le_of_ble_eq_true rfl, Nat.le_of_ble_eq_true rfl⟩ hl.1 rfl rfl (Nat.le_of_ble_eq_true rfl) ⟨Nat.le_of_ble_eq_true rfl, Nat.le_of_ble_eq_true rfl⟩ dX6_hands_10) (fun r_10 q_10 => ?_)
    obtain rfl : r_10 = (inI b 0 1048575) := q_10
    refine lv_if_ne (tgt := 19) X.1 X.2.1 dX6_hands_13 (by decide) (fun c_13 => ?_) (fun c_13 => ?_)
    · obtain ⟨xb, hxb, rfl⟩ := inI_nat (hi := 1048575) c_13 (by decide)
      refine lv_aload_n X.1 X.2.1 dX6_hands_19 rfl (lv_at hl 0 rfl) ?_
      refine lv_iload_n X.1 X.2.1 dX6_hands_20 rfl (lv_at hl 1 rfl) ?_
      refine lv_iload_n X.1 X.2.1 dX6_hands_21 rfl (lv_at hl 2 rfl) ?_
      refine on_Si (run_V (C := RX6) (As := [.int (nI xa), .int (nI xb)]) (rest := []) X (c_X6_countHidden l G hp b6 rl au pa e0 e1 hb6 eR cR mR gR RA n R hU6 al p0 pw eA cA mA gA CA QA k cs sk hU9 xa xb (by omega)) (rp_blind _) (rp_at X hH hS) (recv X hH hb6 (C := RX6) (T := TX6) (N := 5) rfl) mf_X6_countHidden tw_541 tw_543 tw_11 ⟨rfl, rfl, Nat.le_of_ble_eq_true rfl, Nat.le_of_ble_eq_true rfl⟩ hl.1 rfl rfl (Nat.le_of_ble_eq_true rfl) ⟨Nat.le_of_ble_eq_true rfl, Nat.le_of_ble_eq_true rfl⟩ dX6_hands_22) (fun r_22 q_22 => ?_)
      obtain rfl : r_22 = (nI (cntF (hidB n R k cs sk xa xb) 15504)) := q_22
      exact ro_i X hr hlk (by show (_ : Int32) = _; unfold fHands; rw [if_neg c_4, if_neg c_13, tn_n (by omega), tn_n (by omega)]) dX6_hands_25
    · refine lv_bipush (v := (-2)) X.1 X.2.1 dX6_hands_16 (by decide) ?_
      exact ro_i X hr hlk (by show (_ : Int32) = _; unfold fHands; rw [if_neg c_4, if_pos c_13]) dX6_hands_18
  · refine lv_iconst (v := (-1)) X.1 X.2.1 dX6_hands_7 (by decide) ?_
    exact ro_i X hr hlk (by show (_ : Int32) = _; unfold fHands; rw [if_pos c_4]) dX6_hands_8
