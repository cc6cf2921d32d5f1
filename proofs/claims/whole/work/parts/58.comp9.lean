/-! the component: reads over rules and auction -/
set_option maxHeartbeats 4000000 in
set_option maxRecDepth 100000 in
theorem c_X6_handOf (l : Launch) (G : HG) (hp : HP) (b6 rl au pa e0 e1 : Nat) (hb6 : hp b6 = some (obE rl au pa e0 e1)) (p9 : Nat) (hp9 : p9 < 2) : Met l yX6_handOf [.code yX6_handOf cX6_handOf 2 (some .int)] { frames := 0, cells := 0, slots := 0, locals := 0 } (va_Pc [.ref b6, .int (nI p9)] (RP G hp)) (vp_Si (fun r => r = nI (if p9 = 0 then e0 else e1))) 0 0 (fun _ => False) := by
  refine ro_ofW (by decide) (Nat.le_of_ble_eq_true rfl) ?_
  intro p e s m args below meth c ls X hr hlk hH hl
  have hS : va_S (fun _ => False) s.heap s.heap [] := va_S.rf
  have hl : lv_has ls 2 [(0, .ref b6), (1, .int (nI p9))] := hl
  refine lv_iload_n X.1 X.2.1 dX6_handOf_0 rfl (lv_at hl 1 rfl) ?_
  refine lv_if_ne (tgt := 11) X.1 X.2.1 dX6_handOf_1 (by decide) (fun c_1 => ?_) (fun c_1 => ?_)
  · have k_1 := k_ne (a := p9) (b := 0) (by omega) (by omega) c_1
    refine lv_aload_n X.1 X.2.1 dX6_handOf_11 rfl (lv_at hl 0 rfl) ?_
    refine r_get X hH hb6 (v := .int (nI e1)) (C := RX6) (T := TX6) (N := 5) rfl tin_X6 4 (by decide) tw_196 (fun _ h => h) rfl dX6_handOf_12 ?_
    exact ro_i X hr hlk (by show nI _ = nI _; rw [if_neg k_1]) dX6_handOf_15
  · have k_1 := k_eq (a := p9) (b := 0) (by omega) (by omega) c_1
    refine lv_aload_n X.1 X.2.1 dX6_handOf_4 rfl (lv_at hl 0 rfl) ?_
    refine r_get X hH hb6 (v := .int (nI e0)) (C := RX6) (T := TX6) (N := 5) rfl tin_X6 3 (by decide) tw_195 (fun _ h => h) rfl dX6_handOf_5 ?_
    refine lv_goto (tgt := 15) X.1 X.2.1 dX6_handOf_8 (by decide) ?_
    exact ro_i X hr hlk (by show nI _ = nI _; rw [if_pos k_1]) dX6_handOf_15

theorem inI_n1 {n : Nat} {a : Int32} (h : a < 0) : inI a 0 ((n : Int) - 1) = 0 := by
  by_cases c : inI a 0 ((n : Int) - 1) = 0
  · exact c
  · have := (inI_1 c).1
    rw [Int32.lt_iff_toInt_lt] at h
    have z : (0 : Int32).toInt = 0 := rfl
    omega
theorem inI_n2 {n : Nat} {a : Int32} (hn : n ≤ 24) (h : nI n ≤ a) : inI a 0 ((n : Int) - 1) = 0 := by
  by_cases c : inI a 0 ((n : Int) - 1) = 0
  · exact c
  · have := (inI_1 c).2
    rw [Int32.le_iff_toInt_le, nI_toInt (by omega)] at h
    omega
theorem inI_n3 {n : Nat} {a : Int32} (hn : n ≤ 24) (h1 : ¬ a < 0) (h : ¬ nI n ≤ a) : inI a 0 ((n : Int) - 1) = 1 := by
  have c : ¬ inI a 0 ((n : Int) - 1) = 0 := fun q => inI_0 q (by
    rw [Int32.le_iff_toInt_le, nI_toInt (by omega)] at h
    rw [Int32.lt_iff_toInt_lt] at h1
    have z : (0 : Int32).toInt = 0 := rfl
    omega)
  unfold inI at c ⊢
  split
  · rfl
  · rename_i q
    exact absurd (if_neg q) c
set_option maxHeartbeats 4000000 in
set_option maxRecDepth 100000 in
theorem c_X6_isRule (l : Launch) (G : HG) (hp : HP) (b6 rl au pa e0 e1 : Nat) (hb6 : hp b6 = some (obE rl au pa e0 e1)) (eR : Nat) (mR : Int32) (n : Nat) (hn : n ≤ 24) (hrl : hp rl = some (alE mR eR n)) (a : Int32) : Met l yX6_isRule [.code yX6_isRule cX6_isRule 2 (some .boolean)] { frames := 1, cells := 0, slots := 0, locals := 20 } (va_Pc [.ref b6, .int a] (RP G hp)) (vp_Si (fun r => r = inI a 0 ((n : Int) - 1))) 0 0 (fun _ => False) := by
  refine ro_ofW (by decide) (Nat.le_of_ble_eq_true rfl) ?_
  intro p e s m args below meth c ls X hr hlk hH hl
  have hS : va_S (fun _ => False) s.heap s.heap [] := va_S.rf
  have hl : lv_has ls 2 [(0, .ref b6), (1, .int a)] := hl
  refine lv_iload_n X.1 X.2.1 dX6_isRule_0 rfl (lv_at hl 1 rfl) ?_
  refine lv_if_lt (tgt := 19) X.1 X.2.1 dX6_isRule_1 (by decide) (fun c_1 => ?_) (fun c_1 => ?_)
  · refine lv_iconst (v := 0) X.1 X.2.1 dX6_isRule_19 (by decide) ?_
    exact ro_z X hr hlk rfl (by show (_ : Int32) = inI a 0 ((n : Int) - 1); rw [inI_n1 c_1]) dX6_isRule_20
  · refine lv_iload_n X.1 X.2.1 dX6_isRule_4 rfl (lv_at hl 1 rfl) ?_
    refine lv_aload_n X.1 X.2.1 dX6_isRule_5 rfl (lv_at hl 0 rfl) ?_
    refine r_get X hH hb6 (v := .ref rl) (C := RX6) (T := TX6) (N := 5) rfl tin_X6 0 (by decide) tw_192 (fun _ h => h) rfl dX6_isRule_6 ?_
    refine on_Si (run_V (C := RJx4a65c) (As := []) (rest := [.int a]) X (c_Jx4a65c_size_8abf5 l G hp rl eR n mR hrl) (rp_blind _) (rp_at X hH hS) (recv X hH hrl (C := RJx4a65c) (T := TJx4a65c) (N := 3) rfl) mf_Jx4a65c_size_8abf5 tw_260 tw_261 tw_262 ⟨rfl, rfl, Nat.le_of_ble_eq_true rfl, Nat.le_of_ble_eq_true rfl⟩ hl.1 rfl rfl (Nat.le_of_ble_eq_true rfl) ⟨Nat.le_of_ble_eq_true rfl, Nat.le_of_ble_eq_true rfl⟩ dX6_isRule_9) (fun r_9 q_9 => ?_)
    obtain rfl : r_9 = (nI n) := q_9
    refine lv_icmp_ge (tgt := 19) X.1 X.2.1 dX6_isRule_12 (by decide) (fun c_12 => ?_) (fun c_12 => ?_)
    · refine lv_iconst (v := 0) X.1 X.2.1 dX6_isRule_19 (by decide) ?_
      exact ro_z X hr hlk rfl (by show (_ : Int32) = inI a 0 ((n : Int) - 1); rw [inI_n2 hn c_12]) dX6_isRule_20
    · refine lv_iconst (v := 1) X.1 X.2.1 dX6_isRule_15 (by decide) ?_
      refine lv_goto (tgt := 20) X.1 X.2.1 dX6_isRule_16 (by decide) ?_
      exact ro_z X hr hlk rfl (by show (_ : Int32) = inI a 0 ((n : Int) - 1); rw [inI_n3 hn c_1 c_12]) dX6_isRule_20

set_option maxHeartbeats 4000000 in
set_option maxRecDepth 100000 in
theorem c_X6_openRule (l : Launch) (G : HG) (hp : HP) (b6 rl au pa e0 e1 : Nat) (hb6 : hp b6 = some (obE rl au pa e0 e1)) (eR cR : Nat) (mR : Int32) (gR : Nat → Option Nat) (RA : Nat → Nat) (n : Nat) (R : Nat → Nat → Nat) (hU6 : RU G hp rl eR cR mR gR RA n R) (al p0 pn eA cA : Nat) (mA : Int32) (gA : Nat → Option Nat) (CA QA : Nat → Nat) (k : Nat) (cs : Nat → Nat → Int32) (sk : Bool) (hU9 : AU G hp au al p0 pn eA cA mA gA CA QA k cs sk) (ca : Int32) : Met l yX6_openRule [.code yX6_openRule cX6_openRule 4 (some .int)] { frames := 3, cells := 0, slots := 0, locals := 64 } (va_Pc [.ref b6, .int ca] (RP G hp)) (vp_Si (fun r => r = ruF (mkB R (cs k 2) (cs k 4) (cs k 3) ca) n 0)) 0 0 (fun _ => False) := by
  refine ro_ofW (by decide) (Nat.le_of_ble_eq_true rfl) ?_
  intro p e s m args below meth c ls X hr hlk hH hl
  have hS : va_S (fun _ => False) s.heap s.heap [] := va_S.rf
  have hl : lv_has ls 4 [(0, .ref b6), (1, .int ca)] := hl
  have hn := hU6.2.2.1
  have hk := hU9.2.2.2.1
  refine lv_iconst (v := 0) X.1 X.2.1 dX6_openRule_0 (by decide) ?_
  refine lv_istore_n (lv' := [(2, .int 0), (0, .ref b6), (1, .int ca)]) X.1 X.2.1 dX6_openRule_1 rfl hl (by decide) rfl (fun ls hl => ?_)
  have L2 : ∀ (f : Nat) (i : Nat), i + f = n → ruF (mkB R (cs k 2) (cs k 4) (cs k 3) ca) f i = ruF (mkB R (cs k 2) (cs k 4) (cs k 3) ca) n 0 → ∀ ls, lv_has ls 4 [(0, .ref b6), (1, .int ca), (2, .int (nI i))] → W p l e ({ frames := 3, cells := 0, slots := 0, locals := 64 } : Room) s m args below meth c s.heap [] 0 0 (MQ below (vp_Si (fun r => r = ruF (mkB R (cs k 2) (cs k 4) (cs k 3) ca) n 0)) args s 0 0 (fun _ => False)) (F0 m 2 ls []) := by
    intro f
    induction f with
    | zero =>
      intro i h0 h1 ls hl
      refine lv_iload_n X.1 X.2.1 dX6_openRule_2 rfl (lv_at hl 2 rfl) ?_
      refine lv_aload_n X.1 X.2.1 dX6_openRule_3 rfl (lv_at hl 0 rfl) ?_
      refine r_get X hH hb6 (v := .ref rl) (C := RX6) (T := TX6) (N := 5) rfl tin_X6 0 (by decide) tw_192 (fun _ h => h) rfl dX6_openRule_4 ?_
      refine on_Si (run_V (C := RJx4a65c) (As := []) (rest := [.int (nI i)]) X (c_Jx4a65c_size_8abf5 l G hp rl eR n mR hU6.1) (rp_blind _) (rp_at X hH hS) (recv X hH hU6.1 (C := RJx4a65c) (T := TJx4a65c) (N := 3) rfl) mf_Jx4a65c_size_8abf5 tw_260 tw_261 tw_262 ⟨rfl, rfl, Nat.le_of_ble_eq_true rfl, Nat.le_of_ble_eq_true rfl⟩ hl.1 rfl rfl (Nat.le_of_ble_eq_true rfl) ⟨Nat.le_of_ble_eq_true rfl, Nat.le_of_ble_eq_true rfl⟩ dX6_openRule_7) (fun r_7 q_7 => ?_)
      obtain rfl : r_7 = (nI n) := q_7
      refine lv_icmp_ge (tgt := 55) X.1 X.2.1 dX6_openRule_10 (by decide) (fun c_10 => ?_) (fun c_10 => absurd (nI_le (by omega) (by omega)) c_10)
      refine lv_bipush (v := (-6)) X.1 X.2.1 dX6_openRule_55 (by decide) ?_
      exact ro_i X hr hlk (by show (-6 : Int32) = _; rw [← h1]; rfl) dX6_openRule_57
    | succ f ih =>
      intro i h0 h1 ls hl
      have hin : i < n := by omega
      refine lv_iload_n X.1 X.2.1 dX6_openRule_2 rfl (lv_at hl 2 rfl) ?_
      refine lv_aload_n X.1 X.2.1 dX6_openRule_3 rfl (lv_at hl 0 rfl) ?_
      refine r_get X hH hb6 (v := .ref rl) (C := RX6) (T := TX6) (N := 5) rfl tin_X6 0 (by decide) tw_192 (fun _ h => h) rfl dX6_openRule_4 ?_
      refine on_Si (run_V (C := RJx4a65c) (As := []) (rest := [.int (nI i)]) X (c_Jx4a65c_size_8abf5 l G hp rl eR n mR hU6.1) (rp_blind _) (rp_at X hH hS) (recv X hH hU6.1 (C := RJx4a65c) (T := TJx4a65c) (N := 3) rfl) mf_Jx4a65c_size_8abf5 tw_260 tw_261 tw_262 ⟨rfl, rfl, Nat.le_of_ble_eq_true rfl, Nat.le_of_ble_eq_true rfl⟩ hl.1 rfl rfl (Nat.le_of_ble_eq_true rfl) ⟨Nat.le_of_ble_eq_true rfl, Nat.le_of_ble_eq_true rfl⟩ dX6_openRule_7) (fun r_7 q_7 => ?_)
      obtain rfl : r_7 = (nI n) := q_7
      refine lv_icmp_ge (tgt := 55) X.1 X.2.1 dX6_openRule_10 (by decide) (fun c_10 => absurd c_10 (nI_ge (by omega) (by omega))) (fun c_10 => ?_)
      refine lv_aload_n X.1 X.2.1 dX6_openRule_13 rfl (lv_at hl 0 rfl) ?_
      refine r_get X hH hb6 (v := .ref rl) (C := RX6) (T := TX6) (N := 5) rfl tin_X6 0 (by decide) tw_192 (fun _ h => h) rfl dX6_openRule_14 ?_
      refine lv_iload_n X.1 X.2.1 dX6_openRule_17 rfl (lv_at hl 2 rfl) ?_
      refine on_Sq (run_V (C := RJx4a65c) (As := [.int (nI i)]) (rest := []) X (c_Jx4a65c_get_915e3 l G hp rl eR n mR hU6.1 cR gR (hU6.2.1.1 (by have := hU6.2.2.2.1; omega)) hU6.2.2.2.1 (Nat.lt_of_le_of_lt hU6.2.2.2.2.1 (by decide)) i (by omega)) (rp_blind _) (rp_at X hH hS) (recv X hH hU6.1 (C := RJx4a65c) (T := TJx4a65c) (N := 3) rfl) mf_Jx4a65c_get_915e3 tw_264 tw_265 tw_266 ⟨rfl, rfl, Nat.le_of_ble_eq_true rfl, Nat.le_of_ble_eq_true rfl⟩ hl.1 rfl rfl (Nat.le_of_ble_eq_true rfl) ⟨Nat.le_of_ble_eq_true rfl, Nat.le_of_ble_eq_true rfl⟩ dX6_openRule_18) (fun r_18 q_18 => ?_)
      obtain rfl : r_18 = some (RA i) := q_18.trans (hU6.2.2.2.2.2.1 i (by omega)).1
      refine W.eq (g2 := F0 m 21 ls [.ref (RA i)]) rfl ?_
      refine r_cast X hH (hU6.2.2.2.2.2.1 i (by omega)).2 (C := RX4) (T := TX4) (N := 6) rfl tw_221 dX6_openRule_21 ?_
      refine lv_astore_n (lv' := [(3, .ref (RA i)), (0, .ref b6), (1, .int ca), (2, .int (nI i))]) X.1 X.2.1 dX6_openRule_24 rfl hl (by decide) rfl (fun ls hl => ?_)
      refine lv_aload_n X.1 X.2.1 dX6_openRule_25 rfl (lv_at hl 0 rfl) ?_
      refine r_getN X hH (hU6.2.2.2.2.2.1 i (by omega)).2 (v := .int (nI (R i 1))) (C := RX4) (T := TX4) (N := 6) rfl tin_X4 1 (by decide) tw_233 (fun _ h => h) rfl dX6_openRule_26 ?_
      refine lv_iload_n X.1 X.2.1 dX6_openRule_29 rfl (lv_at hl 2 rfl) ?_
      refine lv_icmp_ne (tgt := 49) X.1 X.2.1 dX6_openRule_30 (by decide) (fun c_30 => ?_) (fun c_30 => ?_)
      · refine lv_iinc (v := (nI (i + 1))) (lv' := [(2, .int (nI (i + 1))), (3, .ref (RA i)), (0, .ref b6), (1, .int ca)]) X.1 X.2.1 dX6_openRule_49 hl (k := 3) rfl (nI_add i 1) (by decide) rfl (fun ls hl => ?_)
        refine lv_goto (tgt := 2) X.1 X.2.1 dX6_openRule_52 (by decide) ?_
        exact ih (i + 1) (by omega) (by rw [← h1]; exact (if_neg (by rw [mkB, decide_eq_false c_30, Bool.false_and]; decide)).symm) ls (lv_sub hl [2, 3, 0] rfl)
      · refine lv_aload_n X.1 X.2.1 dX6_openRule_33 rfl (lv_at hl 0 rfl) ?_
        refine lv_aload_n X.1 X.2.1 dX6_openRule_34 rfl (lv_at hl 1 rfl) ?_
        refine r_get X hH hb6 (v := .ref au) (C := RX6) (T := TX6) (N := 5) rfl tin_X6 1 (by decide) tw_193 (fun _ h => h) rfl dX6_openRule_35 ?_
        refine r_getN X hH hU9.1 (v := .ref pn) (C := RX0) (T := TX0) (N := 4) rfl tin_X0 2 (by decide) tw_148 (fun _ h => h) rfl dX6_openRule_38 ?_
        refine on_Si (run_V (C := RX4) (As := [.ref pn]) (rest := []) X (c_X4_isOpen l G hp (RA i) pn (R i) (fun j hj => hU6.2.2.2.2.2.2 i j (by omega) hj) (cs k 2) (cs k 4) (cs k 3) (hU6.2.2.2.2.2.1 i (by omega)).2 hU9.2.2.2.2.2.2.2.1) (rp_blind _) (rp_at X hH hS) (recv X hH (hU6.2.2.2.2.2.1 i (by omega)).2 (C := RX4) (T := TX4) (N := 6) rfl) mf_X4_isOpen tw_484 tw_485 tw_486 ⟨rfl, rfl, Nat.le_of_ble_eq_true rfl, Nat.le_of_ble_eq_true rfl⟩ hl.1 rfl rfl (Nat.le_of_ble_eq_true rfl) ⟨Nat.le_of_ble_eq_true rfl, Nat.le_of_ble_eq_true rfl⟩ dX6_openRule_41) (fun r_41 q_41 => ?_)
        obtain rfl : r_41 = (bI (opB (R i) (cs k 2) (cs k 4) (cs k 3))) := q_41
        refine lv_if_eq (tgt := 49) X.1 X.2.1 dX6_openRule_44 (by decide) (fun c_44 => ?_) (fun c_44 => ?_)
        · refine lv_iinc (v := (nI (i + 1))) (lv' := [(2, .int (nI (i + 1))), (3, .ref (RA i)), (0, .ref b6), (1, .int ca)]) X.1 X.2.1 dX6_openRule_49 hl (k := 3) rfl (nI_add i 1) (by decide) rfl (fun ls hl => ?_)
          refine lv_goto (tgt := 2) X.1 X.2.1 dX6_openRule_52 (by decide) ?_
          exact ih (i + 1) (by omega) (by rw [← h1]; exact (if_neg (by rw [mkB, bI_0 c_44, Bool.and_false]; decide)).symm) ls (lv_sub hl [2, 3, 0] rfl)
        · refine lv_iload_n X.1 X.2.1 dX6_openRule_47 rfl (lv_at hl 3 rfl) ?_
          exact ro_i X hr hlk (by show nI i = _; rw [← h1]; exact (if_pos (by rw [mkB, decide_eq_true c_30, bI_1 c_44]; rfl)).symm) dX6_openRule_48
  exact L2 n 0 (by omega) rfl ls (lv_sub hl [1, 2, 0] rfl)

set_option maxHeartbeats 4000000 in
set_option maxRecDepth 100000 in
theorem c_X6_countWithRule (l : Launch) (G : HG) (hp : HP) (b6 rl au pa e0 e1 : Nat) (hb6 : hp b6 = some (obE rl au pa e0 e1)) (eR cR : Nat) (mR : Int32) (gR : Nat → Option Nat) (RA : Nat → Nat) (n : Nat) (R : Nat → Nat → Nat) (hU6 : RU G hp rl eR cR mR gR RA n R) (p9 : Nat) (st la fo ru : Int32) (hp9 : hp p9 = some (poE st la fo)) : Met l yX6_countWithRule [.code yX6_countWithRule cX6_countWithRule 6 (some .int)] { frames := 4, cells := 0, slots := 0, locals := 88 } (va_Pc [.ref b6, .ref p9, .int ru] (RP G hp)) (vp_Si (fun r => r = nI (cntF (fun h => decide (rlF n R h st la fo = ru)) 15504))) 0 0 (fun _ => False) := by
  refine ro_ofW (by decide) (Nat.le_of_ble_eq_true rfl) ?_
  intro p e s m args below meth c ls X hr hlk hH hl
  have hS : va_S (fun _ => False) s.heap s.heap [] := va_S.rf
  have hl : lv_has ls 6 [(0, .ref b6), (1, .ref p9), (2, .int ru)] := hl
  have hn := hU6.2.2.1
  refine lv_iconst (v := 0) X.1 X.2.1 dX6_countWithRule_0 (by decide) ?_
  refine lv_istore_n (lv' := [(3, .int 0), (0, .ref b6), (1, .ref p9), (2, .int ru)]) X.1 X.2.1 dX6_countWithRule_1 rfl hl (by decide) rfl (fun ls hl => ?_)
  refine lv_iconst (v := 0) X.1 X.2.1 dX6_countWithRule_2 (by decide) ?_
  refine lv_istore (lv' := [(4, .int 0), (3, .int 0), (0, .ref b6), (1, .ref p9), (2, .int ru)]) X.1 X.2.1 dX6_countWithRule_3 hl (by decide) rfl (fun ls hl => ?_)
  refine lv_bipush (v := 31) X.1 X.2.1 dX6_countWithRule_5 (by decide) ?_
  refine lv_istore (lv' := [(5, .int 31), (4, .int 0), (3, .int 0), (0, .ref b6), (1, .ref p9), (2, .int ru)]) X.1 X.2.1 dX6_countWithRule_7 hl (by decide) rfl (fun ls hl => ?_)
  have L9 : ∀ (f : Nat) (i : Nat), i + f = 15504 → ∀ ls, lv_has ls 6 [(0, .ref b6), (1, .ref p9), (2, .int ru), (3, .int (nI (cntF (fun h => decide (rlF n R h st la fo = ru)) i))), (4, .int (nI i)), (5, .int (nI (HL i)))] → W p l e ({ frames := 4, cells := 0, slots := 0, locals := 88 } : Room) s m args below meth c s.heap [] 0 0 (MQ below (vp_Si (fun r => r = nI (cntF (fun h => decide (rlF n R h st la fo = ru)) 15504))) args s 0 0 (fun _ => False)) (F0 m 9 ls []) := by
    intro f
    induction f with
    | zero =>
      intro i h0 ls hl
      have hi9 : i = 15504 := by omega
      refine lv_iload X.1 X.2.1 dX6_countWithRule_9 (lv_at hl 4 rfl) ?_
      refine lv_sipush (v := 15504) X.1 X.2.1 dX6_countWithRule_11 (by decide) ?_
      refine lv_icmp_ge (tgt := 47) X.1 X.2.1 dX6_countWithRule_14 (by decide) (fun c_14 => ?_) (fun c_14 => absurd (nI_le (a := 15504) (b := i) (by omega) (by omega)) c_14)
      refine lv_iload_n X.1 X.2.1 dX6_countWithRule_47 rfl (lv_at hl 3 rfl) ?_
      exact ro_i X hr hlk (by show nI _ = nI _; rw [hi9]) dX6_countWithRule_48
    | succ f ih =>
      intro i h0 ls hl
      have hlt : i < 15504 := by omega
      obtain ⟨hk1, hk2, hk3, hk4, hk5, hk6, hk7⟩ := HL_ok hlt
      have hcl := cntF_le (fun h => decide (rlF n R h st la fo = ru)) i
      refine lv_iload X.1 X.2.1 dX6_countWithRule_9 (lv_at hl 4 rfl) ?_
      refine lv_sipush (v := 15504) X.1 X.2.1 dX6_countWithRule_11 (by decide) ?_
      refine lv_icmp_ge (tgt := 47) X.1 X.2.1 dX6_countWithRule_14 (by decide) (fun c_14 => absurd c_14 (nI_ge (a := i) (b := 15504) (by omega) (by decide))) (fun c_14 => ?_)
      refine lv_aload_n X.1 X.2.1 dX6_countWithRule_17 rfl (lv_at hl 0 rfl) ?_
      refine lv_aload_n X.1 X.2.1 dX6_countWithRule_18 rfl (lv_at hl 1 rfl) ?_
      refine lv_iload X.1 X.2.1 dX6_countWithRule_19 (lv_at hl 5 rfl) ?_
      refine on_Si (run_S (As := [.int (nI (HL i))]) (rest := [.ref p9, .ref b6]) X (c_X1_profile l G hp (HL i) (by omega)) (rp_blind _) (rp_at X hH hS) mf_X1_profile tw_361 tw_362 ⟨rfl, rfl, Nat.le_of_ble_eq_true rfl, Nat.le_of_ble_eq_true rfl⟩ hl.1 rfl rfl (Nat.le_of_ble_eq_true rfl) ⟨Nat.le_of_ble_eq_true rfl, Nat.le_of_ble_eq_true rfl⟩ dX6_countWithRule_21) (fun r_21 q_21 => ?_)
      obtain rfl : r_21 = (nI (pfN (HL i))) := q_21
      refine on_Si (run_V (C := RX6) (As := [.ref p9, .int (nI (pfN (HL i)))]) (rest := []) X (c_X6_firstRule l G hp b6 rl au pa e0 e1 hb6 eR cR mR gR RA n R hU6 p9 st la fo hp9 (HL i) (by omega)) (rp_blind _) (rp_at X hH hS) (recv X hH hb6 (C := RX6) (T := TX6) (N := 5) rfl) mf_X6_firstRule tw_480 tw_482 tw_10 ⟨rfl, rfl, Nat.le_of_ble_eq_true rfl, Nat.le_of_ble_eq_true rfl⟩ hl.1 rfl rfl (Nat.le_of_ble_eq_true rfl) ⟨Nat.le_of_ble_eq_true rfl, Nat.le_of_ble_eq_true rfl⟩ dX6_countWithRule_24) (fun r_24 q_24 => ?_)
      obtain rfl : r_24 = (rlF n R (HL i) st la fo) := q_24
      refine lv_iload_n X.1 X.2.1 dX6_countWithRule_27 rfl (lv_at hl 2 rfl) ?_
      refine lv_icmp_ne (tgt := 34) X.1 X.2.1 dX6_countWithRule_28 (by decide) (fun c_28 => ?_) (fun c_28 => ?_)
      · have hy : ¬ (fun h => decide (rlF n R h st la fo = ru)) (HL i) = true := fun q => c_28 (of_decide_eq_true q)
        rw [show ((nI (cntF (fun h => decide (rlF n R h st la fo = ru)) i)) : Int32) = nI (cntF (fun h => decide (rlF n R h st la fo = ru)) (i + 1)) from by show _ = nI (cntF (fun h => decide (rlF n R h st la fo = ru)) i + (if (fun h => decide (rlF n R h st la fo = ru)) (HL i) = true then 1 else 0)); rw [if_neg hy]; rfl] at hl
        refine lv_iinc (v := (nI (i + 1))) (lv' := [(4, .int (nI (i + 1))), (0, .ref b6), (1, .ref p9), (2, .int ru), (3, .int (nI (cntF (fun h => decide (rlF n R h st la fo = ru)) (i + 1)))), (5, .int (nI (HL i)))]) X.1 X.2.1 dX6_countWithRule_34 hl (k := 4) rfl (nI_add i 1) (by decide) rfl (fun ls hl => ?_)
        refine lv_iload X.1 X.2.1 dX6_countWithRule_37 (lv_at hl 5 rfl) ?_
        refine on_Si (run_S (As := [.int (nI (HL i))]) (rest := []) X (c_X1_handAfter l G hp (HL i) (by omega) hk2) (rp_blind _) (rp_at X hH hS) mf_X1_handAfter tw_382 tw_383 ⟨rfl, rfl, Nat.le_of_ble_eq_true rfl, Nat.le_of_ble_eq_true rfl⟩ hl.1 rfl rfl (Nat.le_of_ble_eq_true rfl) ⟨Nat.le_of_ble_eq_true rfl, Nat.le_of_ble_eq_true rfl⟩ dX6_countWithRule_39) (fun r_39 q_39 => ?_)
        obtain rfl : r_39 = (nI (nhA (HL i))) := q_39
        refine r_eqi (show nI (nhA (HL i)) = nI (HL (i + 1)) from by rw [hk5]) ?_
        refine lv_istore (lv' := [(5, .int (nI (HL (i + 1)))), (4, .int (nI (i + 1))), (0, .ref b6), (1, .ref p9), (2, .int ru), (3, .int (nI (cntF (fun h => decide (rlF n R h st la fo = ru)) (i + 1))))]) X.1 X.2.1 dX6_countWithRule_42 hl (by decide) rfl (fun ls hl => ?_)
        refine lv_goto (tgt := 9) X.1 X.2.1 dX6_countWithRule_44 (by decide) ?_
        exact ih (i + 1) (by omega) ls (lv_sub hl [2, 3, 4, 5, 1, 0] rfl)
      · have hy : (fun h => decide (rlF n R h st la fo = ru)) (HL i) = true := decide_eq_true c_28
        refine lv_iinc (v := (nI ((cntF (fun h => decide (rlF n R h st la fo = ru)) i) + 1))) (lv' := [(3, .int (nI ((cntF (fun h => decide (rlF n R h st la fo = ru)) i) + 1))), (0, .ref b6), (1, .ref p9), (2, .int ru), (4, .int (nI i)), (5, .int (nI (HL i)))]) X.1 X.2.1 dX6_countWithRule_31 hl (k := 3) rfl (nI_add (cntF (fun h => decide (rlF n R h st la fo = ru)) i) 1) (by decide) rfl (fun ls hl => ?_)
        rw [show ((nI ((cntF (fun h => decide (rlF n R h st la fo = ru)) i) + 1)) : Int32) = nI (cntF (fun h => decide (rlF n R h st la fo = ru)) (i + 1)) from by show _ = nI (cntF (fun h => decide (rlF n R h st la fo = ru)) i + (if (fun h => decide (rlF n R h st la fo = ru)) (HL i) = true then 1 else 0)); rw [if_pos hy]] at hl
        refine lv_iinc (v := (nI (i + 1))) (lv' := [(4, .int (nI (i + 1))), (3, .int (nI (cntF (fun h => decide (rlF n R h st la fo = ru)) (i + 1)))), (0, .ref b6), (1, .ref p9), (2, .int ru), (5, .int (nI (HL i)))]) X.1 X.2.1 dX6_countWithRule_34 hl (k := 4) rfl (nI_add i 1) (by decide) rfl (fun ls hl => ?_)
        refine lv_iload X.1 X.2.1 dX6_countWithRule_37 (lv_at hl 5 rfl) ?_
        refine on_Si (run_S (As := [.int (nI (HL i))]) (rest := []) X (c_X1_handAfter l G hp (HL i) (by omega) hk2) (rp_blind _) (rp_at X hH hS) mf_X1_handAfter tw_382 tw_383 ⟨rfl, rfl, Nat.le_of_ble_eq_true rfl, Nat.le_of_ble_eq_true rfl⟩ hl.1 rfl rfl (Nat.le_of_ble_eq_true rfl) ⟨Nat.le_of_ble_eq_true rfl, Nat.le_of_ble_eq_true rfl⟩ dX6_countWithRule_39) (fun r_39 q_39 => ?_)
        obtain rfl : r_39 = (nI (nhA (HL i))) := q_39
        refine r_eqi (show nI (nhA (HL i)) = nI (HL (i + 1)) from by rw [hk5]) ?_
        refine lv_istore (lv' := [(5, .int (nI (HL (i + 1)))), (4, .int (nI (i + 1))), (3, .int (nI (cntF (fun h => decide (rlF n R h st la fo = ru)) (i + 1)))), (0, .ref b6), (1, .ref p9), (2, .int ru)]) X.1 X.2.1 dX6_countWithRule_42 hl (by decide) rfl (fun ls hl => ?_)
        refine lv_goto (tgt := 9) X.1 X.2.1 dX6_countWithRule_44 (by decide) ?_
        exact ih (i + 1) (by omega) ls (lv_sub hl [3, 4, 5, 2, 1, 0] rfl)
  exact L9 15504 0 rfl ls (lv_sub hl [3, 4, 5, 2, 1, 0] rfl)

