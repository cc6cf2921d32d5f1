/-! the answers, as functions of what the object holds -/
def tn (v : Int32) : Nat := v.toNatClampNeg
theorem tn_n {x : Nat} (h : x < 2 ^ 31) : tn (nI x) = x := nI_clamp h
def MH (hd : Nat → Nat) (ar : Nat → Nat → Int32) : Prop := (∀ i, i < 2 → ar 1 i = nI (hd i)) ∧ (∀ i, i < 2 → hd i ≤ 1048575)
def MP (pn : Nat) (pt : Nat → Nat) (sc : Nat → Int32) (ar : Nat → Nat → Int32) : Prop := sc 3 = nI pn ∧ pn ≤ 60 ∧ (∀ i, i < pn → ar 9 i = nI (pt i)) ∧ (∀ i, i < pn → 33 ≤ pt i ∧ pt i ≤ 126)
def fHands (n : Nat) (R : Nat → Nat → Nat) (k : Nat) (cs : Nat → Nat → Int32) (sk : Bool) (a b : Int32) : Int32 := if inI a 0 1 = 0 then -1 else if inI b 0 1048575 = 0 then -2 else nI (cntF (hidB n R k cs sk (tn a) (tn b)) 15504)
def fFits (n : Nat) (R : Nat → Nat → Nat) (k : Nat) (cs : Nat → Nat → Int32) (sk : Bool) (a b : Int32) : Int32 := if inI a 0 1 = 0 then -1 else if handB b = false then -2 else bI (faB n R k cs sk (tn a) (tn b))
def fRuleOf (n : Nat) (R : Nat → Nat → Nat) (k : Nat) (cs : Nat → Nat → Int32) (sk : Bool) (b : Int32) : Int32 := if handB b = false then -2 else if ovB k cs sk = true then -5 else rlF n R (tn b) (cs k 2) (cs k 4) (cs k 3)
def fReach (n : Nat) (R : Nat → Nat → Nat) (a : Int32) : Int32 := if inI a 0 ((n : Int) - 1) = 0 then -1 else nI (cntF (fun h => decide (rlF n R h (nI (R (tn a) 0)) (-6) 0 = a)) 15504)
def fHoles (n : Nat) (R : Nat → Nat → Nat) (a b d : Int32) : Int32 := if inI a 0 7 = 0 ∨ (¬ b = -6 ∧ inI b 0 24 = 0) ∨ inI d 0 1 = 0 then -2 else nI (cntF (fun h => decide (rlF n R h a b d = -6)) 15504)
def fPart (n : Nat) (R : Nat → Nat → Nat) (a b : Int32) : Int32 := if inI a 0 ((n : Int) - 1) = 0 then -1 else if inI b 0 13 = 0 then -2 else nI (R (tn a) (tn b))
def fHand (hd : Nat → Nat) (a b : Int32) : Int32 := if inI a 0 1 = 0 then -1 else if inI b 0 5 = 0 then -2 else if tn b = 0 then nI (hd (tn a)) else if tn b = 5 then nI (strH (hd (tn a))) else nI (lenH (hd (tn a)) (tn b - 1))
def fMade (k : Nat) (cs : Nat → Nat → Int32) (a b : Int32) : Int32 := if inI b 0 3 = 0 then -2 else if inI a 0 ((k : Int) - 1) = 0 then -6 else cs (tn a) (tn b)
def fState (n k : Nat) (cs : Nat → Nat → Int32) (sk : Bool) (pn : Nat) (a : Int32) : Int32 := if a = 0 then nI k else if a = 1 then cs k 2 else if a = 2 then cs k 4 else if a = 3 then cs k 3 else if a = 4 then nI (k % 2) else if a = 5 then (if sk = true then 2 else bI (ovB k cs sk)) else if a = 6 then nI n else if a = 7 then nI pn else -2
/-- what is shown of the hands with P -/
def shF (P : Nat → Bool) (w : Nat) : Nat → Bool × Nat
  | 0 => (false, 0)
  | i + 1 => if P (HL i) = true then (true, if (shF P w i).1 = true then jsN (shF P w i).2 (snN (HL i) w) w else snN (HL i) w) else shF P w i
def fShown (n : Nat) (R : Nat → Nat → Nat) (k : Nat) (cs : Nat → Nat → Int32) (sk : Bool) (a b d : Int32) : Int32 := if inI a 0 1 = 0 then -1 else if inI b 0 1048575 = 0 ∨ inI d 0 11 = 0 then -2 else if (shF (hidB n R k cs sk (tn a) (tn b)) (tn d) 15504).1 = true then nI (shF (hidB n R k cs sk (tn a) (tn b)) (tn d) 15504).2 else -6
def fTricks (a b d : Int32) : Int32 := if inI a 0 4 = 0 ∨ handB b = false ∨ handB d = false ∨ ¬ tn b &&& tn d = 0 then -2 else nI (trN (tn a) (tn b) (tn d))
theorem snN_le {h w : Nat} (hh : h ≤ 1048575) : snN h w < 2 ^ 20 := by
  have := @measN_le h (w / 2)
  unfold snN
  split <;> omega
theorem jsN_le {a b w : Nat} (ha : a < 2 ^ 20) (hb : b < 2 ^ 20) : jsN a b w < 2 ^ 20 := by
  unfold jsN
  split
  · exact Nat.lt_of_le_of_lt Nat.and_le_left ha
  · split
    · exact Nat.or_lt_two_pow ha hb
    · split
      · omega
      · omega
theorem shF_le (P : Nat → Bool) (w : Nat) : ∀ i, i ≤ 15504 → (shF P w i).2 < 2 ^ 20
  | 0, _ => by show 0 < _; decide
  | i + 1, h => by
    have ih := shF_le P w i (by omega)
    have hs := @snN_le (HL i) w (HL_ok (i := i) (by omega)).2.1
    unfold shF
    split
    · show (if _ then _ else _) < _
      split
      · exact jsN_le ih hs
      · exact hs
    · exact ih
theorem ru_nat {n : Nat} (hn : n ≤ 24) {a : Int32} (h : ¬ inI a 0 ((n : Int) - 1) = 0) : ∃ x : Nat, x < n ∧ a = nI x := by
  obtain ⟨h1, h2⟩ := inI_1 h
  obtain ⟨x, h3, rfl⟩ := inI_nat (a := a) (hi := 24) (fun q => inI_0 q ⟨h1, by omega⟩) (by decide)
  rw [nI_toInt (by omega)] at h2
  exact ⟨x, by omega, rfl⟩
set_option maxHeartbeats 4000000 in
set_option maxRecDepth 100000 in
theorem c_X7_hands (l : Launch) (G : HG) (hp : HP) (M : Nat → Nat) (sc : Nat → Int32) (ar : Nat → Nat → Int32) (sm : Nat → Int64) (hM : MR G hp M sc ar sm) (hT : MT ar) (n : Nat) (R : Nat → Nat → Nat) (hU : MU n R sc ar) (k : Nat) (cs : Nat → Nat → Int32) (sk : Bool) (hau : MAu k cs sk sc ar) (a b : Int32) : Met l yX7_hands [.code yX7_hands cX7_hands 5 (some .int)] { frames := 4, cells := 0, slots := 0, locals := 96 } (va_Pc [.ref (M 0), .int a, .int b] (RP G hp)) (vp_Si (fun r => r = fHands n R k cs sk a b)) 0 0 (fun _ => False) := by
  refine ro_ofW (by decide) (Nat.le_of_ble_eq_true rfl) ?_
  intro p e s m args below meth c ls X hr hlk hH hl
  have hS : va_S (fun _ => False) s.heap s.heap [] := va_S.rf
  have hl : lv_has ls 5 [(0, .ref (M 0)), (1, .int a), (2, .int b)] := hl
  have hn := hU.2.1
  refine lv_iload_n X.1 X.2.1 dX7_hands_0 rfl (lv_at hl 1 rfl) ?_
  refine on_Si (run_S (As := [.int a]) (rest := []) X (c_X7_isPartner l G hp a) (rp_blind _) (rp_at X hH hS) mf_X7_isPartner tw_970 tw_971 ⟨rfl, rfl, Nat.le_of_ble_eq_true rfl, Nat.le_of_ble_eq_true rfl⟩ hl.1 rfl rfl (Nat.le_of_ble_eq_true rfl) ⟨Nat.le_of_ble_eq_true rfl, Nat.le_of_ble_eq_true rfl⟩ dX7_hands_1) (fun r_1 q_1 => ?_)
  obtain rfl : r_1 = (inI a 0 1) := q_1
  refine lv_if_ne (tgt := 9) X.1 X.2.1 dX7_hands_4 (by decide) (fun c_4 => ?_) (fun c_4 => ?_)
  · obtain ⟨xa, hxa, rfl⟩ := inI_nat (hi := 1) c_4 (by decide)
    refine lv_iload_n X.1 X.2.1 dX7_hands_9 rfl (lv_at hl 2 rfl) ?_
    refine lv_iconst (v := 0) X.1 X.2.1 dX7_hands_10 (by decide) ?_
    refine r_const X tw_934 dX7_hands_11 ?_
    refine on_Si (run_S (As := [.int b, .int 0, .int 1048575]) (rest := []) X (c_X7_in l G hp b 0 1048575) (rp_blind _) (rp_at X hH hS) mf_X7_in tw_907 tw_908 ⟨rfl, rfl, Nat.le_of_ble_eq_true rfl, Nat.le_of_ble_eq_true rfl⟩ hl.1 rfl rfl (Nat.le_of_ble_eq_true rfl) ⟨Nat.le_of_ble_eq_true rfl, Nat.le_of_ble_eq_true rfl⟩ dX7_hands_13) (fun r_13 q_13 => ?_)
    obtain rfl : r_13 = (inI b 0 1048575) := q_13
    refine lv_if_ne (tgt := 22) X.1 X.2.1 dX7_hands_16 (by decide) (fun c_16 => ?_) (fun c_16 => ?_)
    · obtain ⟨xb, hxb, rfl⟩ := inI_nat (hi := 1048575) c_16 (by decide)
      refine lv_iconst (v := 0) X.1 X.2.1 dX7_hands_22 (by decide) ?_
      refine lv_istore_n (lv' := [(3, .int 0), (0, .ref (M 0)), (1, .int (nI xa)), (2, .int (nI xb))]) X.1 X.2.1 dX7_hands_23 rfl hl (by decide) rfl (fun ls hl => ?_)
      refine lv_bipush (v := 31) X.1 X.2.1 dX7_hands_24 (by decide) ?_
      refine lv_istore (lv' := [(4, .int 31), (3, .int 0), (0, .ref (M 0)), (1, .int (nI xa)), (2, .int (nI xb))]) X.1 X.2.1 dX7_hands_26 hl (by decide) rfl (fun ls hl => ?_)
      have L28 : ∀ (f : Nat) (i : Nat), i + f = 15504 → ∀ ls, lv_has ls 5 [(0, .ref (M 0)), (1, .int (nI xa)), (2, .int (nI xb)), (3, .int (nI (cntF (hidB n R k cs sk xa xb) i))), (4, .int (nI (HL i)))] → W p l e ({ frames := 4, cells := 0, slots := 0, locals := 96 } : Room) s m args below meth c s.heap [] 0 0 (MQ below (vp_Si (fun r => r = fHands n R k cs sk (nI xa) (nI xb))) args s 0 0 (fun _ => False)) (F0 m 28 ls []) := by
        intro f
        induction f with
        | zero =>
          intro i h0 ls hl
          refine lv_iload X.1 X.2.1 dX7_hands_28 (lv_at hl 4 rfl) ?_
          refine r_const X tw_934 dX7_hands_30 ?_
          refine lv_icmp_gt (tgt := 70) X.1 X.2.1 dX7_hands_32 (by decide) (fun c_32 => ?_) (fun c_32 => absurd (hl_out (i := i) (by omega)) c_32)
          refine lv_iload_n X.1 X.2.1 dX7_hands_70 rfl (lv_at hl 3 rfl) ?_
          exact ro_i X hr hlk (by show (_ : Int32) = _; unfold fHands; rw [if_neg c_4, if_neg c_16, tn_n (by omega), tn_n (by omega), show i = 15504 by omega]) dX7_hands_71
        | succ f ih =>
          intro i h0 ls hl
          have hlt : i < 15504 := by omega
          obtain ⟨hk1, hk2, hk3, hk4, hk5, hk6, hk7⟩ := HL_ok hlt
          have hcl := cntF_le (hidB n R k cs sk xa xb) i
          refine lv_iload X.1 X.2.1 dX7_hands_28 (lv_at hl 4 rfl) ?_
          refine r_const X tw_934 dX7_hands_30 ?_
          refine lv_icmp_gt (tgt := 70) X.1 X.2.1 dX7_hands_32 (by decide) (fun c_32 => absurd c_32 (hl_inn (i := i) (by omega))) (fun c_32 => ?_)
          refine lv_iload_n X.1 X.2.1 dX7_hands_35 rfl (lv_at hl 3 rfl) ?_
          refine lv_iload X.1 X.2.1 dX7_hands_36 (lv_at hl 4 rfl) ?_
          refine lv_iload_n X.1 X.2.1 dX7_hands_38 rfl (lv_at hl 2 rfl) ?_
          refine lv_iand X.1 X.2.1 dX7_hands_39 ?_
          refine r_eqi (show (((nI (HL i)) &&& (nI xb)) : Int32) = nI ((HL i) &&& xb) from n_and (HL i) xb) ?_
          have hab : HL i &&& xb ≤ HL i := Nat.and_le_left
          refine lv_if_ne (tgt := 57) X.1 X.2.1 dX7_hands_40 (by decide) (fun c_40 => ?_) (fun c_40 => ?_)
          · have k_40 := k_ne (a := ((HL i) &&& xb)) (b := 0) (by omega) (by omega) c_40
            have hy : ¬ (hidB n R k cs sk xa xb) (HL i) = true := by unfold hidB; rw [decide_eq_false k_40]; exact Bool.false_ne_true
            refine lv_iconst (v := 0) X.1 X.2.1 dX7_hands_57 (by decide) ?_
            refine lv_iadd X.1 X.2.1 dX7_hands_58 ?_
            refine r_eqi (show (((nI (cntF (hidB n R k cs sk xa xb) i)) + 0) : Int32) = nI (cntF (hidB n R k cs sk xa xb) i) from nI_add (cntF (hidB n R k cs sk xa xb) i) 0) ?_
            refine r_eqi (show ((nI (cntF (hidB n R k cs sk xa xb) i)) : Int32) = nI (cntF (hidB n R k cs sk xa xb) (i + 1)) from by show _ = nI (cntF (hidB n R k cs sk xa xb) i + (if (hidB n R k cs sk xa xb) (HL i) = true then 1 else 0)); rw [if_neg hy]; rfl) ?_
            refine lv_istore_n (lv' := [(3, .int (nI (cntF (hidB n R k cs sk xa xb) (i + 1)))), (0, .ref (M 0)), (1, .int (nI xa)), (2, .int (nI xb)), (4, .int (nI (HL i)))]) X.1 X.2.1 dX7_hands_59 rfl hl (by decide) rfl (fun ls hl => ?_)
            refine lv_iload X.1 X.2.1 dX7_hands_60 (lv_at hl 4 rfl) ?_
            refine on_Si (run_S (As := [.int (nI (HL i))]) (rest := []) X (c_X7_nextHand l G hp (HL i) hk7 hk2) (rp_blind _) (rp_at X hH hS) mf_X7_nextHand tw_947 tw_948 ⟨rfl, rfl, Nat.le_of_ble_eq_true rfl, Nat.le_of_ble_eq_true rfl⟩ hl.1 rfl rfl (Nat.le_of_ble_eq_true rfl) ⟨Nat.le_of_ble_eq_true rfl, Nat.le_of_ble_eq_true rfl⟩ dX7_hands_62) (fun r_62 q_62 => ?_)
            obtain rfl : r_62 = (nI (nhN (HL i))) := q_62
            refine r_eqi (show nI (nhN (HL i)) = nI (HL (i + 1)) from rfl) ?_
            refine lv_istore (lv' := [(4, .int (nI (HL (i + 1)))), (3, .int (nI (cntF (hidB n R k cs sk xa xb) (i + 1)))), (0, .ref (M 0)), (1, .int (nI xa)), (2, .int (nI xb))]) X.1 X.2.1 dX7_hands_65 hl (by decide) rfl (fun ls hl => ?_)
            refine lv_goto (tgt := 28) X.1 X.2.1 dX7_hands_67 (by decide) ?_
            exact ih (i + 1) (by omega) ls (lv_sub hl [2, 3, 4, 1, 0] rfl)
          · have k_40 := k_eq (a := ((HL i) &&& xb)) (b := 0) (by omega) (by omega) c_40
            refine lv_aload_n X.1 X.2.1 dX7_hands_43 rfl (lv_at hl 0 rfl) ?_
            refine lv_iload_n X.1 X.2.1 dX7_hands_44 rfl (lv_at hl 1 rfl) ?_
            refine lv_iload X.1 X.2.1 dX7_hands_45 (lv_at hl 4 rfl) ?_
            refine on_Si (run_V (C := RX7) (As := [.int (nI xa), .int (nI (HL i))]) (rest := [.int (nI (cntF (hidB n R k cs sk xa xb) i))]) X (c_X7_fitsAuction l G hp M sc ar sm hM hT n R hU k cs sk hau xa (HL i) (by omega) (by omega)) (rp_blind _) (rp_at X hH hS) (recv X hH hM.1 (C := RX7) (T := TX7) (N := 19) rfl) mf_X7_fitsAuction tw_1038 tw_1040 tw_42 ⟨rfl, rfl, Nat.le_of_ble_eq_true rfl, Nat.le_of_ble_eq_true rfl⟩ hl.1 rfl rfl (Nat.le_of_ble_eq_true rfl) ⟨Nat.le_of_ble_eq_true rfl, Nat.le_of_ble_eq_true rfl⟩ dX7_hands_47) (fun r_47 q_47 => ?_)
            obtain rfl : r_47 = (bI (faB n R k cs sk xa (HL i))) := q_47
            refine lv_if_eq (tgt := 57) X.1 X.2.1 dX7_hands_50 (by decide) (fun c_50 => ?_) (fun c_50 => ?_)
            · have hy : ¬ (hidB n R k cs sk xa xb) (HL i) = true := by unfold hidB; rw [decide_eq_true k_40, bI_0 c_50]; exact Bool.false_ne_true
              refine lv_iconst (v := 0) X.1 X.2.1 dX7_hands_57 (by decide) ?_
              refine lv_iadd X.1 X.2.1 dX7_hands_58 ?_
              refine r_eqi (show (((nI (cntF (hidB n R k cs sk xa xb) i)) + 0) : Int32) = nI (cntF (hidB n R k cs sk xa xb) i) from nI_add (cntF (hidB n R k cs sk xa xb) i) 0) ?_
              refine r_eqi (show ((nI (cntF (hidB n R k cs sk xa xb) i)) : Int32) = nI (cntF (hidB n R k cs sk xa xb) (i + 1)) from by show _ = nI (cntF (hidB n R k cs sk xa xb) i + (if (hidB n R k cs sk xa xb) (HL i) = true then 1 else 0)); rw [if_neg hy]; rfl) ?_
              refine lv_istore_n (lv' := [(3, .int (nI (cntF (hidB n R k cs sk xa xb) (i + 1)))), (0, .ref (M 0)), (1, .int (nI xa)), (2, .int (nI xb)), (4, .int (nI (HL i)))]) X.1 X.2.1 dX7_hands_59 rfl hl (by decide) rfl (fun ls hl => ?_)
              refine lv_iload X.1 X.2.1 dX7_hands_60 (lv_at hl 4 rfl) ?_
              refine on_Si (run_S (As := [.int (nI (HL i))]) (rest := []) X (c_X7_nextHand l G hp (HL i) hk7 hk2) (rp_blind _) (rp_at X hH hS) mf_X7_nextHand tw_947 tw_948 ⟨rfl, rfl, Nat.le_of_ble_eq_true rfl, Nat.le_of_ble_eq_true rfl⟩ hl.1 rfl rfl (Nat.le_of_ble_eq_true rfl) ⟨Nat.le_of_ble_eq_true rfl, Nat.le_of_ble_eq_true rfl⟩ dX7_hands_62) (fun r_62 q_62 => ?_)
              obtain rfl : r_62 = (nI (nhN (HL i))) := q_62
              refine r_eqi (show nI (nhN (HL i)) = nI (HL (i + 1)) from rfl) ?_
              refine lv_istore (lv' := [(4, .int (nI (HL (i + 1)))), (3, .int (nI (cntF (hidB n R k cs sk xa xb) (i + 1)))), (0, .ref (M 0)), (1, .int (nI xa)), (2, .int (nI xb))]) X.1 X.2.1 dX7_hands_65 hl (by decide) rfl (fun ls hl => ?_)
              refine lv_goto (tgt := 28) X.1 X.2.1 dX7_hands_67 (by decide) ?_
              exact ih (i + 1) (by omega) ls (lv_sub hl [2, 3, 4, 1, 0] rfl)
            · have hy : (hidB n R k cs sk xa xb) (HL i) = true := by unfold hidB; rw [decide_eq_true k_40, bI_1 c_50]; rfl
              refine lv_iconst (v := 1) X.1 X.2.1 dX7_hands_53 (by decide) ?_
              refine lv_goto (tgt := 58) X.1 X.2.1 dX7_hands_54 (by decide) ?_
              refine lv_iadd X.1 X.2.1 dX7_hands_58 ?_
              refine r_eqi (show (((nI (cntF (hidB n R k cs sk xa xb) i)) + 1) : Int32) = nI ((cntF (hidB n R k cs sk xa xb) i) + 1) from nI_add (cntF (hidB n R k cs sk xa xb) i) 1) ?_
              refine r_eqi (show ((nI ((cntF (hidB n R k cs sk xa xb) i) + 1)) : Int32) = nI (cntF (hidB n R k cs sk xa xb) (i + 1)) from by show _ = nI (cntF (hidB n R k cs sk xa xb) i + (if (hidB n R k cs sk xa xb) (HL i) = true then 1 else 0)); rw [if_pos hy]) ?_
              refine lv_istore_n (lv' := [(3, .int (nI (cntF (hidB n R k cs sk xa xb) (i + 1)))), (0, .ref (M 0)), (1, .int (nI xa)), (2, .int (nI xb)), (4, .int (nI (HL i)))]) X.1 X.2.1 dX7_hands_59 rfl hl (by decide) rfl (fun ls hl => ?_)
              refine lv_iload X.1 X.2.1 dX7_hands_60 (lv_at hl 4 rfl) ?_
              refine on_Si (run_S (As := [.int (nI (HL i))]) (rest := []) X (c_X7_nextHand l G hp (HL i) hk7 hk2) (rp_blind _) (rp_at X hH hS) mf_X7_nextHand tw_947 tw_948 ⟨rfl, rfl, Nat.le_of_ble_eq_true rfl, Nat.le_of_ble_eq_true rfl⟩ hl.1 rfl rfl (Nat.le_of_ble_eq_true rfl) ⟨Nat.le_of_ble_eq_true rfl, Nat.le_of_ble_eq_true rfl⟩ dX7_hands_62) (fun r_62 q_62 => ?_)
              obtain rfl : r_62 = (nI (nhN (HL i))) := q_62
              refine r_eqi (show nI (nhN (HL i)) = nI (HL (i + 1)) from rfl) ?_
              refine lv_istore (lv' := [(4, .int (nI (HL (i + 1)))), (3, .int (nI (cntF (hidB n R k cs sk xa xb) (i + 1)))), (0, .ref (M 0)), (1, .int (nI xa)), (2, .int (nI xb))]) X.1 X.2.1 dX7_hands_65 hl (by decide) rfl (fun ls hl => ?_)
              refine lv_goto (tgt := 28) X.1 X.2.1 dX7_hands_67 (by decide) ?_
              exact ih (i + 1) (by omega) ls (lv_sub hl [2, 3, 4, 1, 0] rfl)
      exact L28 15504 0 rfl ls (lv_sub hl [2, 3, 4, 1, 0] rfl)
    · refine lv_bipush (v := (-2)) X.1 X.2.1 dX7_hands_19 (by decide) ?_
      exact ro_i X hr hlk (by show (_ : Int32) = _; unfold fHands; rw [if_neg c_4, if_pos c_16]) dX7_hands_21
  · refine lv_iconst (v := (-1)) X.1 X.2.1 dX7_hands_7 (by decide) ?_
    exact ro_i X hr hlk (by show (_ : Int32) = _; unfold fHands; rw [if_pos c_4]) dX7_hands_8

set_option maxHeartbeats 4000000 in
set_option maxRecDepth 100000 in
theorem c_X7_fits (l : Launch) (G : HG) (hp : HP) (M : Nat → Nat) (sc : Nat → Int32) (ar : Nat → Nat → Int32) (sm : Nat → Int64) (hM : MR G hp M sc ar sm) (hT : MT ar) (n : Nat) (R : Nat → Nat → Nat) (hU : MU n R sc ar) (k : Nat) (cs : Nat → Nat → Int32) (sk : Bool) (hau : MAu k cs sk sc ar) (a b : Int32) : Met l yX7_fits [.code yX7_fits cX7_fits 3 (some .int)] { frames := 4, cells := 0, slots := 0, locals := 96 } (va_Pc [.ref (M 0), .int a, .int b] (RP G hp)) (vp_Si (fun r => r = fFits n R k cs sk a b)) 0 0 (fun _ => False) := by
  refine ro_ofW (by decide) (Nat.le_of_ble_eq_true rfl) ?_
  intro p e s m args below meth c ls X hr hlk hH hl
  have hS : va_S (fun _ => False) s.heap s.heap [] := va_S.rf
  have hl : lv_has ls 3 [(0, .ref (M 0)), (1, .int a), (2, .int b)] := hl
  refine lv_iload_n X.1 X.2.1 dX7_fits_0 rfl (lv_at hl 1 rfl) ?_
  refine on_Si (run_S (As := [.int a]) (rest := []) X (c_X7_isPartner l G hp a) (rp_blind _) (rp_at X hH hS) mf_X7_isPartner tw_970 tw_971 ⟨rfl, rfl, Nat.le_of_ble_eq_true rfl, Nat.le_of_ble_eq_true rfl⟩ hl.1 rfl rfl (Nat.le_of_ble_eq_true rfl) ⟨Nat.le_of_ble_eq_true rfl, Nat.le_of_ble_eq_true rfl⟩ dX7_fits_1) (fun r_1 q_1 => ?_)
  obtain rfl : r_1 = (inI a 0 1) := q_1
  refine lv_if_ne (tgt := 9) X.1 X.2.1 dX7_fits_4 (by decide) (fun c_4 => ?_) (fun c_4 => ?_)
  · obtain ⟨xa, hxa, rfl⟩ := inI_nat (hi := 1) c_4 (by decide)
    refine lv_aload_n X.1 X.2.1 dX7_fits_9 rfl (lv_at hl 0 rfl) ?_
    refine lv_iload_n X.1 X.2.1 dX7_fits_10 rfl (lv_at hl 2 rfl) ?_
    refine on_Si (run_V (C := RX7) (As := [.int b]) (rest := []) X (c_X7_isHand l G hp M sc ar sm hM hT b ) (rp_blind _) (rp_at X hH hS) (recv X hH hM.1 (C := RX7) (T := TX7) (N := 19) rfl) mf_X7_isHand tw_973 tw_975 tw_36 ⟨rfl, rfl, Nat.le_of_ble_eq_true rfl, Nat.le_of_ble_eq_true rfl⟩ hl.1 rfl rfl (Nat.le_of_ble_eq_true rfl) ⟨Nat.le_of_ble_eq_true rfl, Nat.le_of_ble_eq_true rfl⟩ dX7_fits_11) (fun r_11 q_11 => ?_)
    obtain rfl : r_11 = (bI (handB b)) := q_11
    refine lv_if_ne (tgt := 22) X.1 X.2.1 dX7_fits_14 (by decide) (fun c_14 => ?_) (fun c_14 => ?_)
    · have g14 := bI_1 c_14
      obtain ⟨xb, hxb, rfl, hzxb⟩ := handB_of g14
      refine lv_aload_n X.1 X.2.1 dX7_fits_22 rfl (lv_at hl 0 rfl) ?_
      refine lv_iload_n X.1 X.2.1 dX7_fits_23 rfl (lv_at hl 1 rfl) ?_
      refine lv_iload_n X.1 X.2.1 dX7_fits_24 rfl (lv_at hl 2 rfl) ?_
      refine on_Si (run_V (C := RX7) (As := [.int (nI xa), .int (nI xb)]) (rest := []) X (c_X7_fitsAuction l G hp M sc ar sm hM hT n R hU k cs sk hau xa xb (by omega) (by omega)) (rp_blind _) (rp_at X hH hS) (recv X hH hM.1 (C := RX7) (T := TX7) (N := 19) rfl) mf_X7_fitsAuction tw_1038 tw_1040 tw_42 ⟨rfl, rfl, Nat.le_of_ble_eq_true rfl, Nat.le_of_ble_eq_true rfl⟩ hl.1 rfl rfl (Nat.le_of_ble_eq_true rfl) ⟨Nat.le_of_ble_eq_true rfl, Nat.le_of_ble_eq_true rfl⟩ dX7_fits_25) (fun r_25 q_25 => ?_)
      obtain rfl : r_25 = (bI (faB n R k cs sk xa xb)) := q_25
      refine lv_if_eq (tgt := 35) X.1 X.2.1 dX7_fits_28 (by decide) (fun c_28 => ?_) (fun c_28 => ?_)
      · refine lv_iconst (v := 0) X.1 X.2.1 dX7_fits_35 (by decide) ?_
        exact ro_i X hr hlk (by show (_ : Int32) = _; unfold fFits; rw [if_neg c_4, if_neg (fun q => Bool.false_ne_true (q.symm.trans g14)), tn_n (by omega), tn_n (by omega), bI_0 c_28]; rfl) dX7_fits_36
      · refine lv_iconst (v := 1) X.1 X.2.1 dX7_fits_31 (by decide) ?_
        refine lv_goto (tgt := 36) X.1 X.2.1 dX7_fits_32 (by decide) ?_
        exact ro_i X hr hlk (by show (_ : Int32) = _; unfold fFits; rw [if_neg c_4, if_neg (fun q => Bool.false_ne_true (q.symm.trans g14)), tn_n (by omega), tn_n (by omega), bI_1 c_28]; rfl) dX7_fits_36
    · refine lv_bipush (v := (-2)) X.1 X.2.1 dX7_fits_17 (by decide) ?_
      refine lv_goto (tgt := 36) X.1 X.2.1 dX7_fits_19 (by decide) ?_
      exact ro_i X hr hlk (by show (_ : Int32) = _; unfold fFits; rw [if_neg c_4, if_pos (bI_0 c_14)]) dX7_fits_36
  · refine lv_iconst (v := (-1)) X.1 X.2.1 dX7_fits_7 (by decide) ?_
    exact ro_i X hr hlk (by show (_ : Int32) = _; unfold fFits; rw [if_pos c_4]) dX7_fits_8

set_option maxHeartbeats 4000000 in
set_option maxRecDepth 100000 in
theorem c_X7_ruleOf (l : Launch) (G : HG) (hp : HP) (M : Nat → Nat) (sc : Nat → Int32) (ar : Nat → Nat → Int32) (sm : Nat → Int64) (hM : MR G hp M sc ar sm) (hT : MT ar) (n : Nat) (R : Nat → Nat → Nat) (hU : MU n R sc ar) (k : Nat) (cs : Nat → Nat → Int32) (sk : Bool) (hau : MAu k cs sk sc ar) (b : Int32) : Met l yX7_ruleOf [.code yX7_ruleOf cX7_ruleOf 2 (some .int)] { frames := 3, cells := 0, slots := 0, locals := 72 } (va_Pc [.ref (M 0), .int b] (RP G hp)) (vp_Si (fun r => r = fRuleOf n R k cs sk b)) 0 0 (fun _ => False) := by
  refine ro_ofW (by decide) (Nat.le_of_ble_eq_true rfl) ?_
  intro p e s m args below meth c ls X hr hlk hH hl
  have hS : va_S (fun _ => False) s.heap s.heap [] := va_S.rf
  have hl : lv_has ls 2 [(0, .ref (M 0)), (1, .int b)] := hl
  have hk := hau.2.1
  refine lv_aload_n X.1 X.2.1 dX7_ruleOf_0 rfl (lv_at hl 0 rfl) ?_
  refine lv_iload_n X.1 X.2.1 dX7_ruleOf_1 rfl (lv_at hl 1 rfl) ?_
  refine on_Si (run_V (C := RX7) (As := [.int b]) (rest := []) X (c_X7_isHand l G hp M sc ar sm hM hT b ) (rp_blind _) (rp_at X hH hS) (recv X hH hM.1 (C := RX7) (T := TX7) (N := 19) rfl) mf_X7_isHand tw_973 tw_975 tw_36 ⟨rfl, rfl, Nat.le_of_ble_eq_true rfl, Nat.le_of_ble_eq_true rfl⟩ hl.1 rfl rfl (Nat.le_of_ble_eq_true rfl) ⟨Nat.le_of_ble_eq_true rfl, Nat.le_of_ble_eq_true rfl⟩ dX7_ruleOf_2) (fun r_2 q_2 => ?_)
  obtain rfl : r_2 = (bI (handB b)) := q_2
  refine lv_if_ne (tgt := 11) X.1 X.2.1 dX7_ruleOf_5 (by decide) (fun c_5 => ?_) (fun c_5 => ?_)
  · have g5 := bI_1 c_5
    obtain ⟨xb, hxb, rfl, hzxb⟩ := handB_of g5
    refine lv_aload_n X.1 X.2.1 dX7_ruleOf_11 rfl (lv_at hl 0 rfl) ?_
    refine on_Si (run_V (C := RX7) (As := []) (rest := []) X (c_X7_isOver l G hp M sc ar sm hM k cs sk hau ) (rp_blind _) (rp_at X hH hS) (recv X hH hM.1 (C := RX7) (T := TX7) (N := 19) rfl) mf_X7_isOver tw_1002 tw_1004 tw_38 ⟨rfl, rfl, Nat.le_of_ble_eq_true rfl, Nat.le_of_ble_eq_true rfl⟩ hl.1 rfl rfl (Nat.le_of_ble_eq_true rfl) ⟨Nat.le_of_ble_eq_true rfl, Nat.le_of_ble_eq_true rfl⟩ dX7_ruleOf_12) (fun r_12 q_12 => ?_)
    obtain rfl : r_12 = (bI (ovB k cs sk)) := q_12
    refine lv_if_eq (tgt := 23) X.1 X.2.1 dX7_ruleOf_15 (by decide) (fun c_15 => ?_) (fun c_15 => ?_)
    · refine lv_aload_n X.1 X.2.1 dX7_ruleOf_23 rfl (lv_at hl 0 rfl) ?_
      refine lv_iload_n X.1 X.2.1 dX7_ruleOf_24 rfl (lv_at hl 1 rfl) ?_
      refine lv_aload_n X.1 X.2.1 dX7_ruleOf_25 rfl (lv_at hl 0 rfl) ?_
      refine r_get X hH hM.1 (v := .ref (M 7)) (C := RX7) (T := TX7) (N := 19) rfl tin_X7 7 (by decide) tw_850 (fun _ h => h) rfl dX7_ruleOf_26 ?_
      refine lv_aload_n X.1 X.2.1 dX7_ruleOf_29 rfl (lv_at hl 0 rfl) ?_
      refine r_get X hH hM.1 (v := .int (sc 1)) (C := RX7) (T := TX7) (N := 19) rfl tin_X7 10 (by decide) tw_853 (fun _ h => h) rfl dX7_ruleOf_30 ?_
      refine r_eqi (show ((sc 1) : Int32) = nI k from hau.1) ?_
      refine r_iald X hH (hM.2.1 6 (by decide)) (show vp_in ((nI k)) 13 from vp_in_nI (n := k) (by omega) (by decide)) dX7_ruleOf_33 ?_
      refine r_eqi (show (((ar 6) (nI k).toNatClampNeg) : Int32) = cs k 2 from by rw [nI_clamp (by omega)]; exact (hau.2.2.2.2 k (by omega)).1) ?_
      refine lv_aload_n X.1 X.2.1 dX7_ruleOf_34 rfl (lv_at hl 0 rfl) ?_
      refine r_get X hH hM.1 (v := .ref (M 9)) (C := RX7) (T := TX7) (N := 19) rfl tin_X7 9 (by decide) tw_852 (fun _ h => h) rfl dX7_ruleOf_35 ?_
      refine lv_aload_n X.1 X.2.1 dX7_ruleOf_38 rfl (lv_at hl 0 rfl) ?_
      refine r_get X hH hM.1 (v := .int (sc 1)) (C := RX7) (T := TX7) (N := 19) rfl tin_X7 10 (by decide) tw_853 (fun _ h => h) rfl dX7_ruleOf_39 ?_
      refine r_eqi (show ((sc 1) : Int32) = nI k from hau.1) ?_
      refine r_iald X hH (hM.2.1 8 (by decide)) (show vp_in ((nI k)) 13 from vp_in_nI (n := k) (by omega) (by decide)) dX7_ruleOf_42 ?_
      refine r_eqi (show (((ar 8) (nI k).toNatClampNeg) : Int32) = cs k 4 from by rw [nI_clamp (by omega)]; exact (hau.2.2.2.2 k (by omega)).2.2) ?_
      refine lv_aload_n X.1 X.2.1 dX7_ruleOf_43 rfl (lv_at hl 0 rfl) ?_
      refine r_get X hH hM.1 (v := .ref (M 8)) (C := RX7) (T := TX7) (N := 19) rfl tin_X7 8 (by decide) tw_851 (fun _ h => h) rfl dX7_ruleOf_44 ?_
      refine lv_aload_n X.1 X.2.1 dX7_ruleOf_47 rfl (lv_at hl 0 rfl) ?_
      refine r_get X hH hM.1 (v := .int (sc 1)) (C := RX7) (T := TX7) (N := 19) rfl tin_X7 10 (by decide) tw_853 (fun _ h => h) rfl dX7_ruleOf_48 ?_
      refine r_eqi (show ((sc 1) : Int32) = nI k from hau.1) ?_
      refine r_iald X hH (hM.2.1 7 (by decide)) (show vp_in ((nI k)) 13 from vp_in_nI (n := k) (by omega) (by decide)) dX7_ruleOf_51 ?_
      refine r_eqi (show (((ar 7) (nI k).toNatClampNeg) : Int32) = cs k 3 from by rw [nI_clamp (by omega)]; exact (hau.2.2.2.2 k (by omega)).2.1) ?_
      refine on_Si (run_V (C := RX7) (As := [.int (nI xb), .int (cs k 2), .int (cs k 4), .int (cs k 3)]) (rest := []) X (c_X7_ruleFor l G hp M sc ar sm hM hT n R hU xb (by omega) (cs k 2) (cs k 4) (cs k 3)) (rp_blind _) (rp_at X hH hS) (recv X hH hM.1 (C := RX7) (T := TX7) (N := 19) rfl) mf_X7_ruleFor tw_1006 tw_1008 tw_39 ⟨rfl, rfl, Nat.le_of_ble_eq_true rfl, Nat.le_of_ble_eq_true rfl⟩ hl.1 rfl rfl (Nat.le_of_ble_eq_true rfl) ⟨Nat.le_of_ble_eq_true rfl, Nat.le_of_ble_eq_true rfl⟩ dX7_ruleOf_52) (fun r_52 q_52 => ?_)
      obtain rfl : r_52 = (rlF n R xb (cs k 2) (cs k 4) (cs k 3)) := q_52
      exact ro_i X hr hlk (by show (_ : Int32) = _; unfold fRuleOf; rw [if_neg (fun q => Bool.false_ne_true (q.symm.trans g5)), if_neg (fun q => Bool.false_ne_true ((bI_0 c_15).symm.trans q)), tn_n (by omega)]) dX7_ruleOf_55
    · refine lv_bipush (v := (-5)) X.1 X.2.1 dX7_ruleOf_18 (by decide) ?_
      refine lv_goto (tgt := 55) X.1 X.2.1 dX7_ruleOf_20 (by decide) ?_
      exact ro_i X hr hlk (by show (_ : Int32) = _; unfold fRuleOf; rw [if_neg (fun q => Bool.false_ne_true (q.symm.trans g5)), if_pos (bI_1 c_15)]) dX7_ruleOf_55
  · refine lv_bipush (v := (-2)) X.1 X.2.1 dX7_ruleOf_8 (by decide) ?_
    exact ro_i X hr hlk (by show (_ : Int32) = _; unfold fRuleOf; rw [if_pos (bI_0 c_5)]) dX7_ruleOf_10

set_option maxHeartbeats 4000000 in
set_option maxRecDepth 100000 in
theorem c_X7_reach (l : Launch) (G : HG) (hp : HP) (M : Nat → Nat) (sc : Nat → Int32) (ar : Nat → Nat → Int32) (sm : Nat → Int64) (hM : MR G hp M sc ar sm) (hT : MT ar) (n : Nat) (R : Nat → Nat → Nat) (hU : MU n R sc ar) (a : Int32) : Met l yX7_reach [.code yX7_reach cX7_reach 2 (some .int)] { frames := 4, cells := 0, slots := 0, locals := 98 } (va_Pc [.ref (M 0), .int a] (RP G hp)) (vp_Si (fun r => r = fReach n R a)) 0 0 (fun _ => False) := by
  refine ro_ofW (by decide) (Nat.le_of_ble_eq_true rfl) ?_
  intro p e s m args below meth c ls X hr hlk hH hl
  have hS : va_S (fun _ => False) s.heap s.heap [] := va_S.rf
  have hl : lv_has ls 2 [(0, .ref (M 0)), (1, .int a)] := hl
  have hn := hU.2.1
  refine lv_aload_n X.1 X.2.1 dX7_reach_0 rfl (lv_at hl 0 rfl) ?_
  refine lv_iload_n X.1 X.2.1 dX7_reach_1 rfl (lv_at hl 1 rfl) ?_
  refine on_Si (run_V (C := RX7) (As := [.int a]) (rest := []) X (c_X7_isRule l G hp M sc ar sm hM n R hU a ) (rp_blind _) (rp_at X hH hS) (recv X hH hM.1 (C := RX7) (T := TX7) (N := 19) rfl) mf_X7_isRule tw_930 tw_932 tw_31 ⟨rfl, rfl, Nat.le_of_ble_eq_true rfl, Nat.le_of_ble_eq_true rfl⟩ hl.1 rfl rfl (Nat.le_of_ble_eq_true rfl) ⟨Nat.le_of_ble_eq_true rfl, Nat.le_of_ble_eq_true rfl⟩ dX7_reach_2) (fun r_2 q_2 => ?_)
  obtain rfl : r_2 = (inI a 0 ((n : Int) - 1)) := q_2
  refine lv_if_eq (tgt := 25) X.1 X.2.1 dX7_reach_5 (by decide) (fun c_5 => ?_) (fun c_5 => ?_)
  · refine lv_iconst (v := (-1)) X.1 X.2.1 dX7_reach_25 (by decide) ?_
    exact ro_i X hr hlk (by show (_ : Int32) = _; unfold fReach; rw [if_pos c_5]) dX7_reach_26
  · obtain ⟨xa, hxa, rfl⟩ := ru_nat hU.2.1 c_5
    refine lv_aload_n X.1 X.2.1 dX7_reach_8 rfl (lv_at hl 0 rfl) ?_
    refine lv_iload_n X.1 X.2.1 dX7_reach_9 rfl (lv_at hl 1 rfl) ?_
    refine lv_aload_n X.1 X.2.1 dX7_reach_10 rfl (lv_at hl 0 rfl) ?_
    refine lv_iload_n X.1 X.2.1 dX7_reach_11 rfl (lv_at hl 1 rfl) ?_
    refine lv_iconst (v := 0) X.1 X.2.1 dX7_reach_12 (by decide) ?_
    refine on_Si (run_V (C := RX7) (As := [.int (nI xa), .int 0]) (rest := [.int (nI xa), .ref (M 0)]) X (c_X7_of l G hp M sc ar sm hM xa 0 (by omega) (by decide)) (rp_blind _) (rp_at X hH hS) (recv X hH hM.1 (C := RX7) (T := TX7) (N := 19) rfl) mf_X7_of tw_922 tw_924 tw_30 ⟨rfl, rfl, Nat.le_of_ble_eq_true rfl, Nat.le_of_ble_eq_true rfl⟩ hl.1 rfl rfl (Nat.le_of_ble_eq_true rfl) ⟨Nat.le_of_ble_eq_true rfl, Nat.le_of_ble_eq_true rfl⟩ dX7_reach_13) (fun r_13 q_13 => ?_)
    obtain rfl : r_13 = nI (R xa 0) := q_13.trans (hU.2.2.1 xa 0 (by omega) (by omega))
    refine lv_bipush (v := (-6)) X.1 X.2.1 dX7_reach_16 (by decide) ?_
    refine lv_iconst (v := 0) X.1 X.2.1 dX7_reach_18 (by decide) ?_
    refine on_Si (run_V (C := RX7) (As := [.int (nI xa), .int (nI (R xa 0)), .int (-6), .int 0]) (rest := []) X (c_X7_manyWith l G hp M sc ar sm hM hT n R hU (nI xa) (nI (R xa 0)) (-6) 0 ) (rp_blind _) (rp_at X hH hS) (recv X hH hM.1 (C := RX7) (T := TX7) (N := 19) rfl) mf_X7_manyWith tw_1065 tw_1067 tw_44 ⟨rfl, rfl, Nat.le_of_ble_eq_true rfl, Nat.le_of_ble_eq_true rfl⟩ hl.1 rfl rfl (Nat.le_of_ble_eq_true rfl) ⟨Nat.le_of_ble_eq_true rfl, Nat.le_of_ble_eq_true rfl⟩ dX7_reach_19) (fun r_19 q_19 => ?_)
    obtain rfl : r_19 = (nI (cntF (fun h => decide (rlF n R h (nI (R xa 0)) (-6) 0 = (nI xa))) 15504)) := q_19
    refine lv_goto (tgt := 26) X.1 X.2.1 dX7_reach_22 (by decide) ?_
    exact ro_i X hr hlk (by show (_ : Int32) = _; unfold fReach; rw [if_neg c_5, tn_n (by omega)]) dX7_reach_26

set_option maxHeartbeats 4000000 in
set_option maxRecDepth 100000 in
theorem c_X7_holes (l : Launch) (G : HG) (hp : HP) (M : Nat → Nat) (sc : Nat → Int32) (ar : Nat → Nat → Int32) (sm : Nat → Int64) (hM : MR G hp M sc ar sm) (hT : MT ar) (n : Nat) (R : Nat → Nat → Nat) (hU : MU n R sc ar) (a b d : Int32) : Met l yX7_holes [.code yX7_holes cX7_holes 4 (some .int)] { frames := 4, cells := 0, slots := 0, locals := 98 } (va_Pc [.ref (M 0), .int a, .int b, .int d] (RP G hp)) (vp_Si (fun r => r = fHoles n R a b d)) 0 0 (fun _ => False) := by
  refine ro_ofW (by decide) (Nat.le_of_ble_eq_true rfl) ?_
  intro p e s m args below meth c ls X hr hlk hH hl
  have hS : va_S (fun _ => False) s.heap s.heap [] := va_S.rf
  have hl : lv_has ls 4 [(0, .ref (M 0)), (1, .int a), (2, .int b), (3, .int d)] := hl
  refine lv_iload_n X.1 X.2.1 dX7_holes_0 rfl (lv_at hl 1 rfl) ?_
  refine lv_iconst (v := 0) X.1 X.2.1 dX7_holes_1 (by decide) ?_
  refine lv_bipush (v := 7) X.1 X.2.1 dX7_holes_2 (by decide) ?_
  refine on_Si (run_S (As := [.int a, .int 0, .int 7]) (rest := []) X (c_X7_in l G hp a 0 7) (rp_blind _) (rp_at X hH hS) mf_X7_in tw_907 tw_908 ⟨rfl, rfl, Nat.le_of_ble_eq_true rfl, Nat.le_of_ble_eq_true rfl⟩ hl.1 rfl rfl (Nat.le_of_ble_eq_true rfl) ⟨Nat.le_of_ble_eq_true rfl, Nat.le_of_ble_eq_true rfl⟩ dX7_holes_4) (fun r_4 q_4 => ?_)
  obtain rfl : r_4 = (inI a 0 7) := q_4
  refine lv_if_eq (tgt := 35) X.1 X.2.1 dX7_holes_7 (by decide) (fun c_7 => ?_) (fun c_7 => ?_)
  · refine lv_bipush (v := (-2)) X.1 X.2.1 dX7_holes_35 (by decide) ?_
    exact ro_i X hr hlk (by show (_ : Int32) = _; unfold fHoles; rw [if_pos (Or.inl c_7)]) dX7_holes_37
  · refine lv_iload_n X.1 X.2.1 dX7_holes_10 rfl (lv_at hl 2 rfl) ?_
    refine lv_bipush (v := (-6)) X.1 X.2.1 dX7_holes_11 (by decide) ?_
    refine lv_icmp_eq (tgt := 26) X.1 X.2.1 dX7_holes_13 (by decide) (fun c_13 => ?_) (fun c_13 => ?_)
    · refine lv_iload_n X.1 X.2.1 dX7_holes_26 rfl (lv_at hl 3 rfl) ?_
      refine lv_iconst (v := 0) X.1 X.2.1 dX7_holes_27 (by decide) ?_
      refine lv_iconst (v := 1) X.1 X.2.1 dX7_holes_28 (by decide) ?_
      refine on_Si (run_S (As := [.int d, .int 0, .int 1]) (rest := []) X (c_X7_in l G hp d 0 1) (rp_blind _) (rp_at X hH hS) mf_X7_in tw_907 tw_908 ⟨rfl, rfl, Nat.le_of_ble_eq_true rfl, Nat.le_of_ble_eq_true rfl⟩ hl.1 rfl rfl (Nat.le_of_ble_eq_true rfl) ⟨Nat.le_of_ble_eq_true rfl, Nat.le_of_ble_eq_true rfl⟩ dX7_holes_29) (fun r_29 q_29 => ?_)
      obtain rfl : r_29 = (inI d 0 1) := q_29
      refine lv_if_ne (tgt := 38) X.1 X.2.1 dX7_holes_32 (by decide) (fun c_32 => ?_) (fun c_32 => ?_)
      · refine lv_aload_n X.1 X.2.1 dX7_holes_38 rfl (lv_at hl 0 rfl) ?_
        refine lv_bipush (v := (-6)) X.1 X.2.1 dX7_holes_39 (by decide) ?_
        refine lv_iload_n X.1 X.2.1 dX7_holes_41 rfl (lv_at hl 1 rfl) ?_
        refine lv_iload_n X.1 X.2.1 dX7_holes_42 rfl (lv_at hl 2 rfl) ?_
        refine lv_iload_n X.1 X.2.1 dX7_holes_43 rfl (lv_at hl 3 rfl) ?_
        refine on_Si (run_V (C := RX7) (As := [.int (-6), .int a, .int b, .int d]) (rest := []) X (c_X7_manyWith l G hp M sc ar sm hM hT n R hU (-6) a b d ) (rp_blind _) (rp_at X hH hS) (recv X hH hM.1 (C := RX7) (T := TX7) (N := 19) rfl) mf_X7_manyWith tw_1065 tw_1067 tw_44 ⟨rfl, rfl, Nat.le_of_ble_eq_true rfl, Nat.le_of_ble_eq_true rfl⟩ hl.1 rfl rfl (Nat.le_of_ble_eq_true rfl) ⟨Nat.le_of_ble_eq_true rfl, Nat.le_of_ble_eq_true rfl⟩ dX7_holes_44) (fun r_44 q_44 => ?_)
        obtain rfl : r_44 = (nI (cntF (fun h => decide (rlF n R h a b d = (-6))) 15504)) := q_44
        exact ro_i X hr hlk (by show (_ : Int32) = _; unfold fHoles; rw [if_neg (fun q => Or.elim q c_7 (fun q => Or.elim q (fun q => q.1 c_13) c_32))]) dX7_holes_47
      · refine lv_bipush (v := (-2)) X.1 X.2.1 dX7_holes_35 (by decide) ?_
        exact ro_i X hr hlk (by show (_ : Int32) = _; unfold fHoles; rw [if_pos (Or.inr (Or.inr c_32))]) dX7_holes_37
    · refine lv_iload_n X.1 X.2.1 dX7_holes_16 rfl (lv_at hl 2 rfl) ?_
      refine lv_iconst (v := 0) X.1 X.2.1 dX7_holes_17 (by decide) ?_
      refine lv_bipush (v := 24) X.1 X.2.1 dX7_holes_18 (by decide) ?_
      refine on_Si (run_S (As := [.int b, .int 0, .int 24]) (rest := []) X (c_X7_in l G hp b 0 24) (rp_blind _) (rp_at X hH hS) mf_X7_in tw_907 tw_908 ⟨rfl, rfl, Nat.le_of_ble_eq_true rfl, Nat.le_of_ble_eq_true rfl⟩ hl.1 rfl rfl (Nat.le_of_ble_eq_true rfl) ⟨Nat.le_of_ble_eq_true rfl, Nat.le_of_ble_eq_true rfl⟩ dX7_holes_20) (fun r_20 q_20 => ?_)
      obtain rfl : r_20 = (inI b 0 24) := q_20
      refine lv_if_eq (tgt := 35) X.1 X.2.1 dX7_holes_23 (by decide) (fun c_23 => ?_) (fun c_23 => ?_)
      · refine lv_bipush (v := (-2)) X.1 X.2.1 dX7_holes_35 (by decide) ?_
        exact ro_i X hr hlk (by show (_ : Int32) = _; unfold fHoles; rw [if_pos (Or.inr (Or.inl ⟨c_13, c_23⟩))]) dX7_holes_37
      · refine lv_iload_n X.1 X.2.1 dX7_holes_26 rfl (lv_at hl 3 rfl) ?_
        refine lv_iconst (v := 0) X.1 X.2.1 dX7_holes_27 (by decide) ?_
        refine lv_iconst (v := 1) X.1 X.2.1 dX7_holes_28 (by decide) ?_
        refine on_Si (run_S (As := [.int d, .int 0, .int 1]) (rest := []) X (c_X7_in l G hp d 0 1) (rp_blind _) (rp_at X hH hS) mf_X7_in tw_907 tw_908 ⟨rfl, rfl, Nat.le_of_ble_eq_true rfl, Nat.le_of_ble_eq_true rfl⟩ hl.1 rfl rfl (Nat.le_of_ble_eq_true rfl) ⟨Nat.le_of_ble_eq_true rfl, Nat.le_of_ble_eq_true rfl⟩ dX7_holes_29) (fun r_29 q_29 => ?_)
        obtain rfl : r_29 = (inI d 0 1) := q_29
        refine lv_if_ne (tgt := 38) X.1 X.2.1 dX7_holes_32 (by decide) (fun c_32 => ?_) (fun c_32 => ?_)
        · refine lv_aload_n X.1 X.2.1 dX7_holes_38 rfl (lv_at hl 0 rfl) ?_
          refine lv_bipush (v := (-6)) X.1 X.2.1 dX7_holes_39 (by decide) ?_
          refine lv_iload_n X.1 X.2.1 dX7_holes_41 rfl (lv_at hl 1 rfl) ?_
          refine lv_iload_n X.1 X.2.1 dX7_holes_42 rfl (lv_at hl 2 rfl) ?_
          refine lv_iload_n X.1 X.2.1 dX7_holes_43 rfl (lv_at hl 3 rfl) ?_
          refine on_Si (run_V (C := RX7) (As := [.int (-6), .int a, .int b, .int d]) (rest := []) X (c_X7_manyWith l G hp M sc ar sm hM hT n R hU (-6) a b d ) (rp_blind _) (rp_at X hH hS) (recv X hH hM.1 (C := RX7) (T := TX7) (N := 19) rfl) mf_X7_manyWith tw_1065 tw_1067 tw_44 ⟨rfl, rfl, Nat.le_of_ble_eq_true rfl, Nat.le_of_ble_eq_true rfl⟩ hl.1 rfl rfl (Nat.le_of_ble_eq_true rfl) ⟨Nat.le_of_ble_eq_true rfl, Nat.le_of_ble_eq_true rfl⟩ dX7_holes_44) (fun r_44 q_44 => ?_)
          obtain rfl : r_44 = (nI (cntF (fun h => decide (rlF n R h a b d = (-6))) 15504)) := q_44
          exact ro_i X hr hlk (by show (_ : Int32) = _; unfold fHoles; rw [if_neg (fun q => Or.elim q c_7 (fun q => Or.elim q (fun q => c_23 q.2) c_32))]) dX7_holes_47
        · refine lv_bipush (v := (-2)) X.1 X.2.1 dX7_holes_35 (by decide) ?_
          exact ro_i X hr hlk (by show (_ : Int32) = _; unfold fHoles; rw [if_pos (Or.inr (Or.inr c_32))]) dX7_holes_37

set_option maxHeartbeats 4000000 in
set_option maxRecDepth 100000 in
theorem c_X7_part (l : Launch) (G : HG) (hp : HP) (M : Nat → Nat) (sc : Nat → Int32) (ar : Nat → Nat → Int32) (sm : Nat → Int64) (hM : MR G hp M sc ar sm) (n : Nat) (R : Nat → Nat → Nat) (hU : MU n R sc ar) (a b : Int32) : Met l yX7_part [.code yX7_part cX7_part 3 (some .int)] { frames := 2, cells := 0, slots := 0, locals := 43 } (va_Pc [.ref (M 0), .int a, .int b] (RP G hp)) (vp_Si (fun r => r = fPart n R a b)) 0 0 (fun _ => False) := by
  refine ro_ofW (by decide) (Nat.le_of_ble_eq_true rfl) ?_
  intro p e s m args below meth c ls X hr hlk hH hl
  have hS : va_S (fun _ => False) s.heap s.heap [] := va_S.rf
  have hl : lv_has ls 3 [(0, .ref (M 0)), (1, .int a), (2, .int b)] := hl
  have hn := hU.2.1
  refine lv_aload_n X.1 X.2.1 dX7_part_0 rfl (lv_at hl 0 rfl) ?_
  refine lv_iload_n X.1 X.2.1 dX7_part_1 rfl (lv_at hl 1 rfl) ?_
  refine on_Si (run_V (C := RX7) (As := [.int a]) (rest := []) X (c_X7_isRule l G hp M sc ar sm hM n R hU a ) (rp_blind _) (rp_at X hH hS) (recv X hH hM.1 (C := RX7) (T := TX7) (N := 19) rfl) mf_X7_isRule tw_930 tw_932 tw_31 ⟨rfl, rfl, Nat.le_of_ble_eq_true rfl, Nat.le_of_ble_eq_true rfl⟩ hl.1 rfl rfl (Nat.le_of_ble_eq_true rfl) ⟨Nat.le_of_ble_eq_true rfl, Nat.le_of_ble_eq_true rfl⟩ dX7_part_2) (fun r_2 q_2 => ?_)
  obtain rfl : r_2 = (inI a 0 ((n : Int) - 1)) := q_2
  refine lv_if_ne (tgt := 10) X.1 X.2.1 dX7_part_5 (by decide) (fun c_5 => ?_) (fun c_5 => ?_)
  · obtain ⟨xa, hxa, rfl⟩ := ru_nat hU.2.1 c_5
    refine lv_iload_n X.1 X.2.1 dX7_part_10 rfl (lv_at hl 2 rfl) ?_
    refine lv_iconst (v := 0) X.1 X.2.1 dX7_part_11 (by decide) ?_
    refine lv_bipush (v := 13) X.1 X.2.1 dX7_part_12 (by decide) ?_
    refine on_Si (run_S (As := [.int b, .int 0, .int 13]) (rest := []) X (c_X7_in l G hp b 0 13) (rp_blind _) (rp_at X hH hS) mf_X7_in tw_907 tw_908 ⟨rfl, rfl, Nat.le_of_ble_eq_true rfl, Nat.le_of_ble_eq_true rfl⟩ hl.1 rfl rfl (Nat.le_of_ble_eq_true rfl) ⟨Nat.le_of_ble_eq_true rfl, Nat.le_of_ble_eq_true rfl⟩ dX7_part_14) (fun r_14 q_14 => ?_)
    obtain rfl : r_14 = (inI b 0 13) := q_14
    refine lv_if_eq (tgt := 29) X.1 X.2.1 dX7_part_17 (by decide) (fun c_17 => ?_) (fun c_17 => ?_)
    · refine lv_bipush (v := (-2)) X.1 X.2.1 dX7_part_29 (by decide) ?_
      exact ro_i X hr hlk (by show (_ : Int32) = _; unfold fPart; rw [if_neg c_5, if_pos c_17]) dX7_part_31
    · obtain ⟨xb, hxb, rfl⟩ := inI_nat (hi := 13) c_17 (by decide)
      refine lv_aload_n X.1 X.2.1 dX7_part_20 rfl (lv_at hl 0 rfl) ?_
      refine lv_iload_n X.1 X.2.1 dX7_part_21 rfl (lv_at hl 1 rfl) ?_
      refine lv_iload_n X.1 X.2.1 dX7_part_22 rfl (lv_at hl 2 rfl) ?_
      refine on_Si (run_V (C := RX7) (As := [.int (nI xa), .int (nI xb)]) (rest := []) X (c_X7_of l G hp M sc ar sm hM xa xb (by omega) (by omega)) (rp_blind _) (rp_at X hH hS) (recv X hH hM.1 (C := RX7) (T := TX7) (N := 19) rfl) mf_X7_of tw_922 tw_924 tw_30 ⟨rfl, rfl, Nat.le_of_ble_eq_true rfl, Nat.le_of_ble_eq_true rfl⟩ hl.1 rfl rfl (Nat.le_of_ble_eq_true rfl) ⟨Nat.le_of_ble_eq_true rfl, Nat.le_of_ble_eq_true rfl⟩ dX7_part_23) (fun r_23 q_23 => ?_)
      obtain rfl : r_23 = nI (R xa xb) := q_23.trans (hU.2.2.1 xa xb (by omega) (by omega))
      refine lv_goto (tgt := 31) X.1 X.2.1 dX7_part_26 (by decide) ?_
      exact ro_i X hr hlk (by show (_ : Int32) = _; unfold fPart; rw [if_neg c_5, if_neg c_17, tn_n (by omega), tn_n (by omega)]) dX7_part_31
  · refine lv_iconst (v := (-1)) X.1 X.2.1 dX7_part_8 (by decide) ?_
    exact ro_i X hr hlk (by show (_ : Int32) = _; unfold fPart; rw [if_pos c_5]) dX7_part_9

set_option maxHeartbeats 4000000 in
set_option maxRecDepth 100000 in
theorem c_X7_hand (l : Launch) (G : HG) (hp : HP) (M : Nat → Nat) (sc : Nat → Int32) (ar : Nat → Nat → Int32) (sm : Nat → Int64) (hM : MR G hp M sc ar sm) (hT : MT ar) (hd : Nat → Nat) (hH2 : MH hd ar) (a b : Int32) : Met l yX7_hand [.code yX7_hand cX7_hand 3 (some .int)] { frames := 2, cells := 0, slots := 0, locals := 42 } (va_Pc [.ref (M 0), .int a, .int b] (RP G hp)) (vp_Si (fun r => r = fHand hd a b)) 0 0 (fun _ => False) := by
  refine ro_ofW (by decide) (Nat.le_of_ble_eq_true rfl) ?_
  intro p e s m args below meth c ls X hr hlk hH hl
  have hS : va_S (fun _ => False) s.heap s.heap [] := va_S.rf
  have hl : lv_has ls 3 [(0, .ref (M 0)), (1, .int a), (2, .int b)] := hl
  refine lv_iload_n X.1 X.2.1 dX7_hand_0 rfl (lv_at hl 1 rfl) ?_
  refine on_Si (run_S (As := [.int a]) (rest := []) X (c_X7_isPartner l G hp a) (rp_blind _) (rp_at X hH hS) mf_X7_isPartner tw_970 tw_971 ⟨rfl, rfl, Nat.le_of_ble_eq_true rfl, Nat.le_of_ble_eq_true rfl⟩ hl.1 rfl rfl (Nat.le_of_ble_eq_true rfl) ⟨Nat.le_of_ble_eq_true rfl, Nat.le_of_ble_eq_true rfl⟩ dX7_hand_1) (fun r_1 q_1 => ?_)
  obtain rfl : r_1 = (inI a 0 1) := q_1
  refine lv_if_ne (tgt := 9) X.1 X.2.1 dX7_hand_4 (by decide) (fun c_4 => ?_) (fun c_4 => ?_)
  · obtain ⟨xa, hxa, rfl⟩ := inI_nat (hi := 1) c_4 (by decide)
    refine lv_iload_n X.1 X.2.1 dX7_hand_9 rfl (lv_at hl 2 rfl) ?_
    refine lv_iconst (v := 0) X.1 X.2.1 dX7_hand_10 (by decide) ?_
    refine lv_iconst (v := 5) X.1 X.2.1 dX7_hand_11 (by decide) ?_
    refine on_Si (run_S (As := [.int b, .int 0, .int 5]) (rest := []) X (c_X7_in l G hp b 0 5) (rp_blind _) (rp_at X hH hS) mf_X7_in tw_907 tw_908 ⟨rfl, rfl, Nat.le_of_ble_eq_true rfl, Nat.le_of_ble_eq_true rfl⟩ hl.1 rfl rfl (Nat.le_of_ble_eq_true rfl) ⟨Nat.le_of_ble_eq_true rfl, Nat.le_of_ble_eq_true rfl⟩ dX7_hand_12) (fun r_12 q_12 => ?_)
    obtain rfl : r_12 = (inI b 0 5) := q_12
    refine lv_if_ne (tgt := 21) X.1 X.2.1 dX7_hand_15 (by decide) (fun c_15 => ?_) (fun c_15 => ?_)
    · obtain ⟨xb, hxb, rfl⟩ := inI_nat (hi := 5) c_15 (by decide)
      have hhd := hH2.2 xa (by omega)
      refine lv_iload_n X.1 X.2.1 dX7_hand_21 rfl (lv_at hl 2 rfl) ?_
      refine lv_if_ne (tgt := 34) X.1 X.2.1 dX7_hand_22 (by decide) (fun c_22 => ?_) (fun c_22 => ?_)
      · have k_22 := k_ne (a := xb) (b := 0) (by omega) (by omega) c_22
        refine lv_iload_n X.1 X.2.1 dX7_hand_34 rfl (lv_at hl 2 rfl) ?_
        refine lv_iconst (v := 5) X.1 X.2.1 dX7_hand_35 (by decide) ?_
        refine lv_icmp_ne (tgt := 52) X.1 X.2.1 dX7_hand_36 (by decide) (fun c_36 => ?_) (fun c_36 => ?_)
        · have k_36 := k_ne (a := xb) (b := 5) (by omega) (by omega) c_36
          refine lv_aload_n X.1 X.2.1 dX7_hand_52 rfl (lv_at hl 0 rfl) ?_
          refine lv_aload_n X.1 X.2.1 dX7_hand_53 rfl (lv_at hl 0 rfl) ?_
          refine r_get X hH hM.1 (v := .ref (M 2)) (C := RX7) (T := TX7) (N := 19) rfl tin_X7 2 (by decide) tw_845 (fun _ h => h) rfl dX7_hand_54 ?_
          refine lv_iload_n X.1 X.2.1 dX7_hand_57 rfl (lv_at hl 1 rfl) ?_
          refine r_iald X hH (hM.2.1 1 (by decide)) (show vp_in ((nI xa)) 2 from vp_in_nI (n := xa) (by omega) (by decide)) dX7_hand_58 ?_
          refine r_eqi (show (((ar 1) (nI xa).toNatClampNeg) : Int32) = nI (hd xa) from by rw [nI_clamp (by omega)]; exact hH2.1 xa (by omega)) ?_
          refine lv_iload_n X.1 X.2.1 dX7_hand_59 rfl (lv_at hl 2 rfl) ?_
          refine lv_iconst (v := 1) X.1 X.2.1 dX7_hand_60 (by decide) ?_
          refine lv_isub X.1 X.2.1 dX7_hand_61 ?_
          refine r_eqi (show (((nI xb) - 1) : Int32) = nI (xb - 1) from pk_sub (a := xb) (b := 1) (by omega)) ?_
          refine on_Si (run_V (C := RX7) (As := [.int (nI (hd xa)), .int (nI (xb - 1))]) (rest := []) X (c_X7_length l G hp M sc ar sm hM hT (hd xa) (xb - 1) (by omega) (by omega)) (rp_blind _) (rp_at X hH hS) (recv X hH hM.1 (C := RX7) (T := TX7) (N := 19) rfl) mf_X7_length tw_943 tw_945 tw_34 ⟨rfl, rfl, Nat.le_of_ble_eq_true rfl, Nat.le_of_ble_eq_true rfl⟩ hl.1 rfl rfl (Nat.le_of_ble_eq_true rfl) ⟨Nat.le_of_ble_eq_true rfl, Nat.le_of_ble_eq_true rfl⟩ dX7_hand_62) (fun r_62 q_62 => ?_)
          obtain rfl : r_62 = (nI (lenH (hd xa) (xb - 1))) := q_62
          exact ro_i X hr hlk (by show (_ : Int32) = _; unfold fHand; rw [if_neg c_4, if_neg c_15, tn_n (by omega), tn_n (by omega), if_neg k_22, if_neg k_36]) dX7_hand_65
        · have k_36 := k_eq (a := xb) (b := 5) (by omega) (by omega) c_36
          refine lv_aload_n X.1 X.2.1 dX7_hand_39 rfl (lv_at hl 0 rfl) ?_
          refine lv_aload_n X.1 X.2.1 dX7_hand_40 rfl (lv_at hl 0 rfl) ?_
          refine r_get X hH hM.1 (v := .ref (M 2)) (C := RX7) (T := TX7) (N := 19) rfl tin_X7 2 (by decide) tw_845 (fun _ h => h) rfl dX7_hand_41 ?_
          refine lv_iload_n X.1 X.2.1 dX7_hand_44 rfl (lv_at hl 1 rfl) ?_
          refine r_iald X hH (hM.2.1 1 (by decide)) (show vp_in ((nI xa)) 2 from vp_in_nI (n := xa) (by omega) (by decide)) dX7_hand_45 ?_
          refine r_eqi (show (((ar 1) (nI xa).toNatClampNeg) : Int32) = nI (hd xa) from by rw [nI_clamp (by omega)]; exact hH2.1 xa (by omega)) ?_
          refine on_Si (run_V (C := RX7) (As := [.int (nI (hd xa))]) (rest := []) X (c_X7_strength l G hp M sc ar sm hM hT (hd xa) (by omega)) (rp_blind _) (rp_at X hH hS) (recv X hH hM.1 (C := RX7) (T := TX7) (N := 19) rfl) mf_X7_strength tw_939 tw_941 tw_33 ⟨rfl, rfl, Nat.le_of_ble_eq_true rfl, Nat.le_of_ble_eq_true rfl⟩ hl.1 rfl rfl (Nat.le_of_ble_eq_true rfl) ⟨Nat.le_of_ble_eq_true rfl, Nat.le_of_ble_eq_true rfl⟩ dX7_hand_46) (fun r_46 q_46 => ?_)
          obtain rfl : r_46 = (nI (strH (hd xa))) := q_46
          refine lv_goto (tgt := 65) X.1 X.2.1 dX7_hand_49 (by decide) ?_
          exact ro_i X hr hlk (by show (_ : Int32) = _; unfold fHand; rw [if_neg c_4, if_neg c_15, tn_n (by omega), tn_n (by omega), if_neg k_22, if_pos k_36]) dX7_hand_65
      · have k_22 := k_eq (a := xb) (b := 0) (by omega) (by omega) c_22
        refine lv_aload_n X.1 X.2.1 dX7_hand_25 rfl (lv_at hl 0 rfl) ?_
        refine r_get X hH hM.1 (v := .ref (M 2)) (C := RX7) (T := TX7) (N := 19) rfl tin_X7 2 (by decide) tw_845 (fun _ h => h) rfl dX7_hand_26 ?_
        refine lv_iload_n X.1 X.2.1 dX7_hand_29 rfl (lv_at hl 1 rfl) ?_
        refine r_iald X hH (hM.2.1 1 (by decide)) (show vp_in ((nI xa)) 2 from vp_in_nI (n := xa) (by omega) (by decide)) dX7_hand_30 ?_
        refine r_eqi (show (((ar 1) (nI xa).toNatClampNeg) : Int32) = nI (hd xa) from by rw [nI_clamp (by omega)]; exact hH2.1 xa (by omega)) ?_
        refine lv_goto (tgt := 65) X.1 X.2.1 dX7_hand_31 (by decide) ?_
        exact ro_i X hr hlk (by show (_ : Int32) = _; unfold fHand; rw [if_neg c_4, if_neg c_15, tn_n (by omega), tn_n (by omega), if_pos k_22]) dX7_hand_65
    · refine lv_bipush (v := (-2)) X.1 X.2.1 dX7_hand_18 (by decide) ?_
      exact ro_i X hr hlk (by show (_ : Int32) = _; unfold fHand; rw [if_neg c_4, if_pos c_15]) dX7_hand_20
  · refine lv_iconst (v := (-1)) X.1 X.2.1 dX7_hand_7 (by decide) ?_
    exact ro_i X hr hlk (by show (_ : Int32) = _; unfold fHand; rw [if_pos c_4]) dX7_hand_8

theorem ca_nat {k : Nat} (hk : k ≤ 12) {a : Int32} (h : ¬ inI a 0 ((k : Int) - 1) = 0) : ∃ x : Nat, x < k ∧ a = nI x := ru_nat (n := k) (by omega) h
theorem sub1_toInt {k : Nat} (hk : k ≤ 12) : (nI k - 1 : Int32).toInt = (k : Int) - 1 := pk_sub_toInt (a := k) (b := 1) (by omega) (by decide)
set_option maxHeartbeats 4000000 in
set_option maxRecDepth 100000 in
theorem c_X7_made (l : Launch) (G : HG) (hp : HP) (M : Nat → Nat) (sc : Nat → Int32) (ar : Nat → Nat → Int32) (sm : Nat → Int64) (hM : MR G hp M sc ar sm) (k : Nat) (cs : Nat → Nat → Int32) (sk : Bool) (hau : MAu k cs sk sc ar) (a b : Int32) : Met l yX7_made [.code yX7_made cX7_made 3 (some .int)] { frames := 1, cells := 0, slots := 0, locals := 22 } (va_Pc [.ref (M 0), .int a, .int b] (RP G hp)) (vp_Si (fun r => r = fMade k cs a b)) 0 0 (fun _ => False) := by
  refine ro_ofW (by decide) (Nat.le_of_ble_eq_true rfl) ?_
  intro p e s m args below meth c ls X hr hlk hH hl
  have hS : va_S (fun _ => False) s.heap s.heap [] := va_S.rf
  have hl : lv_has ls 3 [(0, .ref (M 0)), (1, .int a), (2, .int b)] := hl
  have hk := hau.2.1
  refine lv_iload_n X.1 X.2.1 dX7_made_0 rfl (lv_at hl 2 rfl) ?_
  refine lv_iconst (v := 0) X.1 X.2.1 dX7_made_1 (by decide) ?_
  refine lv_iconst (v := 3) X.1 X.2.1 dX7_made_2 (by decide) ?_
  refine on_Si (run_S (As := [.int b, .int 0, .int 3]) (rest := []) X (c_X7_in l G hp b 0 3) (rp_blind _) (rp_at X hH hS) mf_X7_in tw_907 tw_908 ⟨rfl, rfl, Nat.le_of_ble_eq_true rfl, Nat.le_of_ble_eq_true rfl⟩ hl.1 rfl rfl (Nat.le_of_ble_eq_true rfl) ⟨Nat.le_of_ble_eq_true rfl, Nat.le_of_ble_eq_true rfl⟩ dX7_made_3) (fun r_3 q_3 => ?_)
  obtain rfl : r_3 = (inI b 0 3) := q_3
  refine lv_if_ne (tgt := 12) X.1 X.2.1 dX7_made_6 (by decide) (fun c_6 => ?_) (fun c_6 => ?_)
  · obtain ⟨xb, hxb, rfl⟩ := inI_nat (hi := 3) c_6 (by decide)
    refine lv_iload_n X.1 X.2.1 dX7_made_12 rfl (lv_at hl 1 rfl) ?_
    refine lv_iconst (v := 0) X.1 X.2.1 dX7_made_13 (by decide) ?_
    refine lv_aload_n X.1 X.2.1 dX7_made_14 rfl (lv_at hl 0 rfl) ?_
    refine r_get X hH hM.1 (v := .int (sc 1)) (C := RX7) (T := TX7) (N := 19) rfl tin_X7 10 (by decide) tw_853 (fun _ h => h) rfl dX7_made_15 ?_
    refine r_eqi (show ((sc 1) : Int32) = nI k from hau.1) ?_
    refine lv_iconst (v := 1) X.1 X.2.1 dX7_made_18 (by decide) ?_
    refine lv_isub X.1 X.2.1 dX7_made_19 ?_
    refine on_Si (run_S (As := [.int a, .int 0, .int ((nI k) - 1)]) (rest := []) X (c_X7_in l G hp a 0 ((nI k) - 1)) (rp_blind _) (rp_at X hH hS) mf_X7_in tw_907 tw_908 ⟨rfl, rfl, Nat.le_of_ble_eq_true rfl, Nat.le_of_ble_eq_true rfl⟩ hl.1 rfl rfl (Nat.le_of_ble_eq_true rfl) ⟨Nat.le_of_ble_eq_true rfl, Nat.le_of_ble_eq_true rfl⟩ dX7_made_20) (fun r_20 q_20 => ?_)
    obtain rfl : r_20 = (inI a 0 ((nI k) - 1).toInt) := q_20
    refine r_eqi (show ((inI a 0 ((nI k) - 1).toInt) : Int32) = inI a 0 ((k : Int) - 1) from by rw [sub1_toInt hk]) ?_
    refine lv_if_ne (tgt := 29) X.1 X.2.1 dX7_made_23 (by decide) (fun c_23 => ?_) (fun c_23 => ?_)
    · obtain ⟨xa, hxa, rfl⟩ := ca_nat hk c_23
      refine lv_iload_n X.1 X.2.1 dX7_made_29 rfl (lv_at hl 2 rfl) ?_
      refine lv_if_ne (tgt := 42) X.1 X.2.1 dX7_made_30 (by decide) (fun c_30 => ?_) (fun c_30 => ?_)
      · have k_30 := k_ne (a := xb) (b := 0) (by omega) (by omega) c_30
        refine lv_iload_n X.1 X.2.1 dX7_made_42 rfl (lv_at hl 2 rfl) ?_
        refine lv_iconst (v := 1) X.1 X.2.1 dX7_made_43 (by decide) ?_
        refine lv_icmp_ne (tgt := 56) X.1 X.2.1 dX7_made_44 (by decide) (fun c_44 => ?_) (fun c_44 => ?_)
        · have k_44 := k_ne (a := xb) (b := 1) (by omega) (by omega) c_44
          refine lv_iload_n X.1 X.2.1 dX7_made_56 rfl (lv_at hl 2 rfl) ?_
          refine lv_iconst (v := 2) X.1 X.2.1 dX7_made_57 (by decide) ?_
          refine lv_icmp_ne (tgt := 70) X.1 X.2.1 dX7_made_58 (by decide) (fun c_58 => ?_) (fun c_58 => ?_)
          · have k_58 := k_ne (a := xb) (b := 2) (by omega) (by omega) c_58
            refine lv_aload_n X.1 X.2.1 dX7_made_70 rfl (lv_at hl 0 rfl) ?_
            refine r_get X hH hM.1 (v := .ref (M 8)) (C := RX7) (T := TX7) (N := 19) rfl tin_X7 8 (by decide) tw_851 (fun _ h => h) rfl dX7_made_71 ?_
            refine lv_iload_n X.1 X.2.1 dX7_made_74 rfl (lv_at hl 1 rfl) ?_
            refine r_iald X hH (hM.2.1 7 (by decide)) (show vp_in ((nI xa)) 13 from vp_in_nI (n := xa) (by omega) (by decide)) dX7_made_75 ?_
            refine r_eqi (show (((ar 7) (nI xa).toNatClampNeg) : Int32) = cs xa 3 from by rw [nI_clamp (by omega)]; exact (hau.2.2.2.2 xa (by omega)).2.1) ?_
            exact ro_i X hr hlk (by show (_ : Int32) = _; unfold fMade; rw [if_neg c_6, if_neg c_23, tn_n (by omega), tn_n (by omega), show xb = 3 by omega]) dX7_made_76
          · have k_58 := k_eq (a := xb) (b := 2) (by omega) (by omega) c_58
            refine lv_aload_n X.1 X.2.1 dX7_made_61 rfl (lv_at hl 0 rfl) ?_
            refine r_get X hH hM.1 (v := .ref (M 7)) (C := RX7) (T := TX7) (N := 19) rfl tin_X7 7 (by decide) tw_850 (fun _ h => h) rfl dX7_made_62 ?_
            refine lv_iload_n X.1 X.2.1 dX7_made_65 rfl (lv_at hl 1 rfl) ?_
            refine r_iald X hH (hM.2.1 6 (by decide)) (show vp_in ((nI xa)) 13 from vp_in_nI (n := xa) (by omega) (by decide)) dX7_made_66 ?_
            refine r_eqi (show (((ar 6) (nI xa).toNatClampNeg) : Int32) = cs xa 2 from by rw [nI_clamp (by omega)]; exact (hau.2.2.2.2 xa (by omega)).1) ?_
            refine lv_goto (tgt := 76) X.1 X.2.1 dX7_made_67 (by decide) ?_
            exact ro_i X hr hlk (by show (_ : Int32) = _; unfold fMade; rw [if_neg c_6, if_neg c_23, tn_n (by omega), tn_n (by omega), k_58]) dX7_made_76
        · have k_44 := k_eq (a := xb) (b := 1) (by omega) (by omega) c_44
          refine lv_aload_n X.1 X.2.1 dX7_made_47 rfl (lv_at hl 0 rfl) ?_
          refine r_get X hH hM.1 (v := .ref (M 6)) (C := RX7) (T := TX7) (N := 19) rfl tin_X7 6 (by decide) tw_849 (fun _ h => h) rfl dX7_made_48 ?_
          refine lv_iload_n X.1 X.2.1 dX7_made_51 rfl (lv_at hl 1 rfl) ?_
          refine r_iald X hH (hM.2.1 5 (by decide)) (show vp_in ((nI xa)) 12 from vp_in_nI (n := xa) (by omega) (by decide)) dX7_made_52 ?_
          refine r_eqi (show (((ar 5) (nI xa).toNatClampNeg) : Int32) = cs xa 1 from by rw [nI_clamp (by omega)]; exact (hau.2.2.2.1 xa (by omega)).2) ?_
          refine lv_goto (tgt := 76) X.1 X.2.1 dX7_made_53 (by decide) ?_
          exact ro_i X hr hlk (by show (_ : Int32) = _; unfold fMade; rw [if_neg c_6, if_neg c_23, tn_n (by omega), tn_n (by omega), k_44]) dX7_made_76
      · have k_30 := k_eq (a := xb) (b := 0) (by omega) (by omega) c_30
        refine lv_aload_n X.1 X.2.1 dX7_made_33 rfl (lv_at hl 0 rfl) ?_
        refine r_get X hH hM.1 (v := .ref (M 5)) (C := RX7) (T := TX7) (N := 19) rfl tin_X7 5 (by decide) tw_848 (fun _ h => h) rfl dX7_made_34 ?_
        refine lv_iload_n X.1 X.2.1 dX7_made_37 rfl (lv_at hl 1 rfl) ?_
        refine r_iald X hH (hM.2.1 4 (by decide)) (show vp_in ((nI xa)) 12 from vp_in_nI (n := xa) (by omega) (by decide)) dX7_made_38 ?_
        refine r_eqi (show (((ar 4) (nI xa).toNatClampNeg) : Int32) = cs xa 0 from by rw [nI_clamp (by omega)]; exact (hau.2.2.2.1 xa (by omega)).1) ?_
        refine lv_goto (tgt := 76) X.1 X.2.1 dX7_made_39 (by decide) ?_
        exact ro_i X hr hlk (by show (_ : Int32) = _; unfold fMade; rw [if_neg c_6, if_neg c_23, tn_n (by omega), tn_n (by omega), k_30]) dX7_made_76
    · refine lv_bipush (v := (-6)) X.1 X.2.1 dX7_made_26 (by decide) ?_
      exact ro_i X hr hlk (by show (_ : Int32) = _; unfold fMade; rw [if_neg c_6, if_pos c_23]) dX7_made_28
  · refine lv_bipush (v := (-2)) X.1 X.2.1 dX7_made_9 (by decide) ?_
    exact ro_i X hr hlk (by show (_ : Int32) = _; unfold fMade; rw [if_pos c_6]) dX7_made_11

theorem anF_snoc (P : Nat → Bool) : ∀ f r, anF P (f + 1) r = (anF P f r || P (r + f))
  | 0, r => by
    unfold anF anF
    rw [Bool.or_false, Bool.false_or]; rfl
  | f + 1, r => by
    have h := anF_snoc P f (r + 1)
    rw [show anF P (f + 1 + 1) r = (P r || anF P (f + 1) (r + 1)) from rfl, h, ← Bool.or_assoc, show anF P (f + 1) r = (P r || anF P f (r + 1)) from rfl, show r + 1 + f = r + (f + 1) by omega]
set_option maxHeartbeats 4000000 in
set_option maxRecDepth 100000 in
theorem c_X7_isThere (l : Launch) (G : HG) (hp : HP) (M : Nat → Nat) (sc : Nat → Int32) (ar : Nat → Nat → Int32) (sm : Nat → Int64) (hM : MR G hp M sc ar sm) (n : Nat) (R : Nat → Nat → Nat) (hU : MU n R sc ar) (st ca : Int32) : Met l yX7_isThere [.code yX7_isThere cX7_isThere 5 (some .boolean)] { frames := 1, cells := 0, slots := 0, locals := 22 } (va_Pc [.ref (M 0), .int st, .int ca] (RP G hp)) (vp_Si (fun r => r = bI (anF (thB R st ca) n 0))) 0 0 (fun _ => False) := by
  refine ro_ofW (by decide) (Nat.le_of_ble_eq_true rfl) ?_
  intro p e s m args below meth c ls X hr hlk hH hl
  have hS : va_S (fun _ => False) s.heap s.heap [] := va_S.rf
  have hl : lv_has ls 5 [(0, .ref (M 0)), (1, .int st), (2, .int ca)] := hl
  have hn := hU.2.1
  refine lv_iconst (v := 0) X.1 X.2.1 dX7_isThere_0 (by decide) ?_
  refine lv_istore_n (lv' := [(3, .int 0), (0, .ref (M 0)), (1, .int st), (2, .int ca)]) X.1 X.2.1 dX7_isThere_1 rfl hl (by decide) rfl (fun ls hl => ?_)
  refine lv_iconst (v := 0) X.1 X.2.1 dX7_isThere_2 (by decide) ?_
  refine lv_istore (lv' := [(4, .int 0), (3, .int 0), (0, .ref (M 0)), (1, .int st), (2, .int ca)]) X.1 X.2.1 dX7_isThere_3 hl (by decide) rfl (fun ls hl => ?_)
  have L5 : ∀ (f : Nat) (i : Nat), i + f = n → ∀ ls, lv_has ls 5 [(0, .ref (M 0)), (1, .int st), (2, .int ca), (3, .int (bI (anF (thB R st ca) i 0))), (4, .int (nI i))] → W p l e ({ frames := 1, cells := 0, slots := 0, locals := 22 } : Room) s m args below meth c s.heap [] 0 0 (MQ below (vp_Si (fun r => r = bI (anF (thB R st ca) n 0))) args s 0 0 (fun _ => False)) (F0 m 5 ls []) := by
    intro f
    induction f with
    | zero =>
      intro i h0 ls hl
      refine lv_iload X.1 X.2.1 dX7_isThere_5 (lv_at hl 4 rfl) ?_
      refine lv_aload_n X.1 X.2.1 dX7_isThere_7 rfl (lv_at hl 0 rfl) ?_
      refine r_get X hH hM.1 (v := .int (sc 0)) (C := RX7) (T := TX7) (N := 19) rfl tin_X7 1 (by decide) tw_844 (fun _ h => h) rfl dX7_isThere_8 ?_
      refine lv_icmp_ge (tgt := 52) X.1 X.2.1 dX7_isThere_11 (by decide) (fun c_11 => ?_) (fun c_11 => absurd (by rw [hU.1]; exact nI_le (by omega) (by omega)) c_11)
      refine lv_iload_n X.1 X.2.1 dX7_isThere_52 rfl (lv_at hl 3 rfl) ?_
      exact ro_z X hr hlk (bI_z _) (by show (_ : Int32) = _; rw [show i = n by omega]) dX7_isThere_53
    | succ f ih =>
      intro i h0 ls hl
      have hin : i < n := by omega
      refine lv_iload X.1 X.2.1 dX7_isThere_5 (lv_at hl 4 rfl) ?_
      refine lv_aload_n X.1 X.2.1 dX7_isThere_7 rfl (lv_at hl 0 rfl) ?_
      refine r_get X hH hM.1 (v := .int (sc 0)) (C := RX7) (T := TX7) (N := 19) rfl tin_X7 1 (by decide) tw_844 (fun _ h => h) rfl dX7_isThere_8 ?_
      refine lv_icmp_ge (tgt := 52) X.1 X.2.1 dX7_isThere_11 (by decide) (fun c_11 => absurd c_11 (by rw [hU.1]; exact nI_ge (by omega) (by omega))) (fun c_11 => ?_)
      refine lv_iload_n X.1 X.2.1 dX7_isThere_14 rfl (lv_at hl 3 rfl) ?_
      refine lv_if_ne (tgt := 40) X.1 X.2.1 dX7_isThere_15 (by decide) (fun c_15 => ?_) (fun c_15 => ?_)
      · refine lv_iconst (v := 1) X.1 X.2.1 dX7_isThere_40 (by decide) ?_
        refine lv_goto (tgt := 45) X.1 X.2.1 dX7_isThere_41 (by decide) ?_
        refine r_eqi (show (1 : Int32) = bI (anF (thB R st ca) (i + 1) 0) from by rw [anF_snoc]; rw [bI_1 c_15]; rfl) ?_
        refine lv_istore_n (lv' := [(3, .int (bI (anF (thB R st ca) (i + 1) 0))), (0, .ref (M 0)), (1, .int st), (2, .int ca), (4, .int (nI i))]) X.1 X.2.1 dX7_isThere_45 rfl hl (by decide) rfl (fun ls hl => ?_)
        refine lv_iinc (v := (nI (i + 1))) (lv' := [(4, .int (nI (i + 1))), (3, .int (bI (anF (thB R st ca) (i + 1) 0))), (0, .ref (M 0)), (1, .int st), (2, .int ca)]) X.1 X.2.1 dX7_isThere_46 hl (k := 4) rfl (nI_add i 1) (by decide) rfl (fun ls hl => ?_)
        refine lv_goto (tgt := 5) X.1 X.2.1 dX7_isThere_49 (by decide) ?_
        exact ih (i + 1) (by omega) ls (lv_sub hl [2, 3, 4, 1, 0] rfl)
      · refine lv_aload_n X.1 X.2.1 dX7_isThere_18 rfl (lv_at hl 0 rfl) ?_
        refine lv_iload X.1 X.2.1 dX7_isThere_19 (lv_at hl 4 rfl) ?_
        refine lv_iconst (v := 0) X.1 X.2.1 dX7_isThere_21 (by decide) ?_
        refine on_Si (run_V (C := RX7) (As := [.int (nI i), .int 0]) (rest := []) X (c_X7_of l G hp M sc ar sm hM i 0 (by omega) (by decide)) (rp_blind _) (rp_at X hH hS) (recv X hH hM.1 (C := RX7) (T := TX7) (N := 19) rfl) mf_X7_of tw_922 tw_924 tw_30 ⟨rfl, rfl, Nat.le_of_ble_eq_true rfl, Nat.le_of_ble_eq_true rfl⟩ hl.1 rfl rfl (Nat.le_of_ble_eq_true rfl) ⟨Nat.le_of_ble_eq_true rfl, Nat.le_of_ble_eq_true rfl⟩ dX7_isThere_22) (fun r_22 q_22 => ?_)
        obtain rfl : r_22 = nI (R i 0) := q_22.trans (hU.2.2.1 i 0 hin (by omega))
        refine lv_iload_n X.1 X.2.1 dX7_isThere_25 rfl (lv_at hl 1 rfl) ?_
        refine lv_icmp_ne (tgt := 44) X.1 X.2.1 dX7_isThere_26 (by decide) (fun c_26 => ?_) (fun c_26 => ?_)
        · refine lv_iconst (v := 0) X.1 X.2.1 dX7_isThere_44 (by decide) ?_
          refine r_eqi (show (0 : Int32) = bI (anF (thB R st ca) (i + 1) 0) from by rw [anF_snoc]; rw [bI_0 c_15]; show _ = bI (false || (decide (nI (R (0 + i) 0) = st) && decide (nI (R (0 + i) 1) = ca))); rw [Nat.zero_add]; rw [decide_eq_false c_26]; rfl) ?_
          refine lv_istore_n (lv' := [(3, .int (bI (anF (thB R st ca) (i + 1) 0))), (0, .ref (M 0)), (1, .int st), (2, .int ca), (4, .int (nI i))]) X.1 X.2.1 dX7_isThere_45 rfl hl (by decide) rfl (fun ls hl => ?_)
          refine lv_iinc (v := (nI (i + 1))) (lv' := [(4, .int (nI (i + 1))), (3, .int (bI (anF (thB R st ca) (i + 1) 0))), (0, .ref (M 0)), (1, .int st), (2, .int ca)]) X.1 X.2.1 dX7_isThere_46 hl (k := 4) rfl (nI_add i 1) (by decide) rfl (fun ls hl => ?_)
          refine lv_goto (tgt := 5) X.1 X.2.1 dX7_isThere_49 (by decide) ?_
          exact ih (i + 1) (by omega) ls (lv_sub hl [2, 3, 4, 1, 0] rfl)
        · refine lv_aload_n X.1 X.2.1 dX7_isThere_29 rfl (lv_at hl 0 rfl) ?_
          refine lv_iload X.1 X.2.1 dX7_isThere_30 (lv_at hl 4 rfl) ?_
          refine lv_iconst (v := 1) X.1 X.2.1 dX7_isThere_32 (by decide) ?_
          refine on_Si (run_V (C := RX7) (As := [.int (nI i), .int 1]) (rest := []) X (c_X7_of l G hp M sc ar sm hM i 1 (by omega) (by decide)) (rp_blind _) (rp_at X hH hS) (recv X hH hM.1 (C := RX7) (T := TX7) (N := 19) rfl) mf_X7_of tw_922 tw_924 tw_30 ⟨rfl, rfl, Nat.le_of_ble_eq_true rfl, Nat.le_of_ble_eq_true rfl⟩ hl.1 rfl rfl (Nat.le_of_ble_eq_true rfl) ⟨Nat.le_of_ble_eq_true rfl, Nat.le_of_ble_eq_true rfl⟩ dX7_isThere_33) (fun r_33 q_33 => ?_)
          obtain rfl : r_33 = nI (R i 1) := q_33.trans (hU.2.2.1 i 1 hin (by omega))
          refine lv_iload_n X.1 X.2.1 dX7_isThere_36 rfl (lv_at hl 2 rfl) ?_
          refine lv_icmp_ne (tgt := 44) X.1 X.2.1 dX7_isThere_37 (by decide) (fun c_37 => ?_) (fun c_37 => ?_)
          · refine lv_iconst (v := 0) X.1 X.2.1 dX7_isThere_44 (by decide) ?_
            refine r_eqi (show (0 : Int32) = bI (anF (thB R st ca) (i + 1) 0) from by rw [anF_snoc]; rw [bI_0 c_15]; show _ = bI (false || (decide (nI (R (0 + i) 0) = st) && decide (nI (R (0 + i) 1) = ca))); rw [Nat.zero_add]; rw [decide_eq_false c_37, Bool.and_false]; rfl) ?_
            refine lv_istore_n (lv' := [(3, .int (bI (anF (thB R st ca) (i + 1) 0))), (0, .ref (M 0)), (1, .int st), (2, .int ca), (4, .int (nI i))]) X.1 X.2.1 dX7_isThere_45 rfl hl (by decide) rfl (fun ls hl => ?_)
            refine lv_iinc (v := (nI (i + 1))) (lv' := [(4, .int (nI (i + 1))), (3, .int (bI (anF (thB R st ca) (i + 1) 0))), (0, .ref (M 0)), (1, .int st), (2, .int ca)]) X.1 X.2.1 dX7_isThere_46 hl (k := 4) rfl (nI_add i 1) (by decide) rfl (fun ls hl => ?_)
            refine lv_goto (tgt := 5) X.1 X.2.1 dX7_isThere_49 (by decide) ?_
            exact ih (i + 1) (by omega) ls (lv_sub hl [2, 3, 4, 1, 0] rfl)
          · refine lv_iconst (v := 1) X.1 X.2.1 dX7_isThere_40 (by decide) ?_
            refine lv_goto (tgt := 45) X.1 X.2.1 dX7_isThere_41 (by decide) ?_
            refine r_eqi (show (1 : Int32) = bI (anF (thB R st ca) (i + 1) 0) from by rw [anF_snoc]; rw [bI_0 c_15]; show _ = bI (false || (decide (nI (R (0 + i) 0) = st) && decide (nI (R (0 + i) 1) = ca))); rw [Nat.zero_add]; rw [decide_eq_true c_26, decide_eq_true c_37]; rfl) ?_
            refine lv_istore_n (lv' := [(3, .int (bI (anF (thB R st ca) (i + 1) 0))), (0, .ref (M 0)), (1, .int st), (2, .int ca), (4, .int (nI i))]) X.1 X.2.1 dX7_isThere_45 rfl hl (by decide) rfl (fun ls hl => ?_)
            refine lv_iinc (v := (nI (i + 1))) (lv' := [(4, .int (nI (i + 1))), (3, .int (bI (anF (thB R st ca) (i + 1) 0))), (0, .ref (M 0)), (1, .int st), (2, .int ca)]) X.1 X.2.1 dX7_isThere_46 hl (k := 4) rfl (nI_add i 1) (by decide) rfl (fun ls hl => ?_)
            refine lv_goto (tgt := 5) X.1 X.2.1 dX7_isThere_49 (by decide) ?_
            exact ih (i + 1) (by omega) ls (lv_sub hl [2, 3, 4, 1, 0] rfl)
  exact L5 n 0 (by omega) ls (lv_sub hl [2, 3, 4, 1, 0] rfl)

