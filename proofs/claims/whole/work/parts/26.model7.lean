def mkB (R : Nat → Nat → Nat) (st la fo ca : Int32) (r : Nat) : Bool := decide (nI (R r 1) = ca) && opB (R r) st la fo
def laF (P : Nat → Bool) : Nat → Int32
  | 0 => -6
  | i + 1 => if P i = true then nI i else laF P i
theorem laF_or (P : Nat → Bool) : ∀ m, (laF P m = -6 ∧ ∀ j, j < m → P j = false) ∨ ∃ j, j < m ∧ P j = true ∧ laF P m = nI j
  | 0 => Or.inl ⟨rfl, fun j h => absurd h (Nat.not_lt_zero j)⟩
  | m + 1 => by
    unfold laF
    by_cases h : P m = true
    · rw [if_pos h]
      exact Or.inr ⟨m, by omega, h, rfl⟩
    · rw [if_neg h]
      rcases laF_or P m with ⟨q1, q2⟩ | ⟨j, q1, q2, q3⟩
      · refine Or.inl ⟨q1, fun j hj => ?_⟩
        by_cases c : j = m
        · rw [c]; exact Bool.eq_false_iff.mpr h
        · exact q2 j (by omega)
      · exact Or.inr ⟨j, by omega, q2, q3⟩
theorem ruF_or2 (P : Nat → Bool) : ∀ f r, (ruF P f r = -6 ∧ ∀ j, r ≤ j → j < r + f → P j = false) ∨ ∃ j, r ≤ j ∧ j < r + f ∧ P j = true ∧ ruF P f r = nI j
  | 0, r => Or.inl ⟨rfl, fun j h h2 => by omega⟩
  | f + 1, r => by
    unfold ruF
    by_cases h : P r = true
    · rw [if_pos h]
      exact Or.inr ⟨r, Nat.le_refl _, by omega, h, rfl⟩
    · rw [if_neg h]
      rcases ruF_or2 P f (r + 1) with ⟨q1, q2⟩ | ⟨j, q1, q2, q3, q4⟩
      · refine Or.inl ⟨q1, fun j h1 h2 => ?_⟩
        by_cases c : j = r
        · rw [c]; exact Bool.eq_false_iff.mpr h
        · exact q2 j (by omega) (by omega)
      · exact Or.inr ⟨j, by omega, by omega, q3, q4⟩
theorem la_first {P : Nat → Bool} {n : Nat} (hu : ∀ i j, i < n → j < n → P i = true → P j = true → i = j) : laF P n = ruF P n 0 := by
  rcases laF_or P n with ⟨q1, q2⟩ | ⟨j, q1, q2, q3⟩
  · rcases ruF_or2 P n 0 with ⟨p1, p2⟩ | ⟨i, p1, p2, p3, p4⟩
    · rw [q1, p1]
    · have := q2 i (by omega)
      rw [p3] at this
      cases this
  · rcases ruF_or2 P n 0 with ⟨p1, p2⟩ | ⟨i, p1, p2, p3, p4⟩
    · have := p2 j (by omega) (by omega)
      rw [q2] at this
      cases this
    · rw [q3, p4, hu i j (by omega) q1 p3 q2]
/-- no two rules have one state and one call -/
def UQ (n : Nat) (R : Nat → Nat → Nat) : Prop := ∀ i j, i < n → j < n → R i 0 = R j 0 → R i 1 = R j 1 → i = j
theorem mk_first {n : Nat} {R : Nat → Nat → Nat} {sc : Nat → Int32} {ar : Nat → Nat → Int32} (hU : MU n R sc ar) (hu : UQ n R) (st la fo ca : Int32) : laF (mkB R st la fo ca) n = ruF (mkB R st la fo ca) n 0 := by
  refine la_first (fun i j hi hj pi pj => ?_)
  unfold mkB opB at pi pj
  rw [Bool.and_eq_true, Bool.and_eq_true] at pi pj
  have a1 := of_decide_eq_true pi.1
  have a2 := of_decide_eq_true pj.1
  have b1 := of_decide_eq_true pi.2.1
  have b2 := of_decide_eq_true pj.2.1
  have r1 := hU.2.2.2 i 0 hi (by decide)
  have r2 := hU.2.2.2 j 0 hj (by decide)
  have r3 := hU.2.2.2 i 1 hi (by decide)
  have r4 := hU.2.2.2 j 1 hj (by decide)
  exact hu i j hi hj ((nI_eq (by omega) (by omega)).mp (b1.trans b2.symm)) ((nI_eq (by omega) (by omega)).mp (a1.trans a2.symm))
theorem ruF_nat {P : Nat → Bool} {n : Nat} (h : (0 : Int32) ≤ ruF P n 0) : ∃ j, j < n ∧ ruF P n 0 = nI j := by
  rcases ruF_or2 P n 0 with ⟨p1, p2⟩ | ⟨i, p1, p2, p3, p4⟩
  · rw [p1] at h
    exact absurd h (by decide)
  · exact ⟨i, by omega, p4⟩
theorem ruF_neg {P : Nat → Bool} {n : Nat} (hn : n ≤ 24) (h : ¬ (0 : Int32) ≤ ruF P n 0) : ruF P n 0 = -6 := by
  rcases ruF_or2 P n 0 with ⟨p1, p2⟩ | ⟨i, p1, p2, p3, p4⟩
  · exact p1
  · rw [p4] at h
    exact absurd (nI_pos' (by omega)) h
theorem ruF_m6 {P : Nat → Bool} {n : Nat} (h : (0 : Int32) ≤ ruF P n 0) : ¬ ruF P n 0 = -6 := fun e => by
  rw [e] at h
  exact absurd h (by decide)
def mkR (z : ST) (ca : Int32) : Int32 := ruF (mkB z.2.1 (z.2.2.2.2.1 z.2.2.2.1 2) (z.2.2.2.2.1 z.2.2.2.1 4) (z.2.2.2.2.1 z.2.2.2.1 3) ca) z.1 0
def fMake (z : ST) (ca : Int32) : Int32 := if inI ca 0 25 = 0 then -2 else if ovB z.2.2.2.1 z.2.2.2.2.1 z.2.2.2.2.2.1 = true then -5 else if mkR z ca = -6 then -5 else nI (z.2.2.2.1 + 1)
def gMake (z : ST) (ca : Int32) : ST := if inI ca 0 25 = 0 then z else if ovB z.2.2.2.1 z.2.2.2.2.1 z.2.2.2.2.2.1 = true then z else if mkR z ca = -6 then z else gCall z (tn (mkR z ca))
set_option maxHeartbeats 4000000 in
set_option maxRecDepth 100000 in
theorem c_X7_make (l : Launch) (G : HG) (A : Nat → Prop) (hp : HP) (sz : Nat) (hA : ∀ q, sz ≤ q → A q) (hO : Ow A hp) (M : Nat → Nat) (sc : Nat → Int32) (ar : Nat → Nat → Int32) (sm : Nat → Int64) (hM : MR G hp M sc ar sm) (n : Nat) (R : Nat → Nat → Nat) (hd : Nat → Nat) (k : Nat) (cs : Nat → Nat → Int32) (sk : Bool) (pn : Nat) (pt : Nat → Nat) (hz : MST (n, R, hd, k, cs, sk, pn, pt) sc ar) (ca : Int32) (huq : UQ n R) : Met l yX7_make [.code yX7_make cX7_make 4 (some .int)] { frames := 2, cells := 0, slots := 0, locals := 47 } (va_Pc [.ref (M 0), .int ca] (WP G A sz hp)) (va_Qi (fun r hp1 => r = fMake (n, R, hd, k, cs, sk, pn, pt) ca ∧ ∃ sc1 ar1 sm1, MR G hp1 M sc1 ar1 sm1 ∧ MST (gMake (n, R, hd, k, cs, sk, pn, pt) ca) sc1 ar1) (WB G A) A) 0 0 A := by
  refine wr_ofW (by decide) (Nat.le_of_ble_eq_true rfl) hO ?_
  intro p e s m args below meth c ls X hr hlk hnm hsz hW hl
  have hA : ∀ q, s.heap.size ≤ q → A q := fun q h => hA q (by omega)
  have hl : lv_has ls 4 [(0, .ref (M 0)), (1, .int ca)] := hl
  have hT : MT ar := hz.1
  have hU : MU n R sc ar := hz.2.1
  have hH2 : MH hd ar := hz.2.2.1
  have hau : MAu k cs sk sc ar := hz.2.2.2.1
  have hP : MP pn pt sc ar := hz.2.2.2.2
  have hn := hU.2.1
  have hk := hau.2.1
  refine lv_iload_n X.1 X.2.1 dX7_make_0 rfl (lv_at hl 1 rfl) ?_
  refine lv_iconst (v := 0) X.1 X.2.1 dX7_make_1 (by decide) ?_
  refine lv_bipush (v := 25) X.1 X.2.1 dX7_make_2 (by decide) ?_
  refine on_Si (run_S (As := [.int ca, .int 0, .int 25]) (rest := []) X (c_X7_in l G hp ca 0 25) (rp_blind _) (rp_at X hW.1 hW.2.2) mf_X7_in tw_907 tw_908 ⟨rfl, rfl, Nat.le_of_ble_eq_true rfl, Nat.le_of_ble_eq_true rfl⟩ hl.1 rfl rfl (Nat.le_of_ble_eq_true rfl) ⟨Nat.le_of_ble_eq_true rfl, Nat.le_of_ble_eq_true rfl⟩ dX7_make_4) (fun r_4 q_4 => ?_)
  obtain rfl : r_4 = (inI ca 0 25) := q_4
  refine lv_if_ne (tgt := 13) X.1 X.2.1 dX7_make_7 (by decide) (fun c_7 => ?_) (fun c_7 => ?_)
  · refine lv_aload_n X.1 X.2.1 dX7_make_13 rfl (lv_at hl 0 rfl) ?_
    refine on_Si (run_V (C := RX7) (As := []) (rest := []) X (c_X7_isOver l G hp M sc ar sm hM k cs sk hau ) (rp_blind _) (rp_at X hW.1 hW.2.2) (recv X hW.1 hM.1 (C := RX7) (T := TX7) (N := 19) rfl) mf_X7_isOver tw_1002 tw_1004 tw_38 ⟨rfl, rfl, Nat.le_of_ble_eq_true rfl, Nat.le_of_ble_eq_true rfl⟩ hl.1 rfl rfl (Nat.le_of_ble_eq_true rfl) ⟨Nat.le_of_ble_eq_true rfl, Nat.le_of_ble_eq_true rfl⟩ dX7_make_14) (fun r_14 q_14 => ?_)
    obtain rfl : r_14 = (bI (ovB k cs sk)) := q_14
    refine lv_if_eq (tgt := 23) X.1 X.2.1 dX7_make_17 (by decide) (fun c_17 => ?_) (fun c_17 => ?_)
    · have nov : ¬ ovB k cs sk = true := fun q => Bool.false_ne_true ((bI_0 c_17).symm.trans q)
      have hk9 := ov_lt hk (bI_0 c_17)
      refine lv_bipush (v := (-6)) X.1 X.2.1 dX7_make_23 (by decide) ?_
      refine lv_istore_n (lv' := [(2, .int (-6)), (0, .ref (M 0)), (1, .int ca)]) X.1 X.2.1 dX7_make_25 rfl hl (by decide) rfl (fun ls hl => ?_)
      refine lv_iconst (v := 0) X.1 X.2.1 dX7_make_26 (by decide) ?_
      refine lv_istore_n (lv' := [(3, .int 0), (2, .int (-6)), (0, .ref (M 0)), (1, .int ca)]) X.1 X.2.1 dX7_make_27 rfl hl (by decide) rfl (fun ls hl => ?_)
      have L28 : ∀ (f : Nat) (r : Nat), r + f = n → ∀ ls, lv_has ls 4 [(0, .ref (M 0)), (1, .int ca), (2, .int (laF (mkB R (cs k 2) (cs k 4) (cs k 3) ca) r)), (3, .int (nI r))] → W p l e ({ frames := 2, cells := 0, slots := 0, locals := 47 } : Room) s m args below meth c s.heap [] 0 0 (MQ below (va_Qi (fun r hp1 => r = fMake (n, R, hd, k, cs, sk, pn, pt) ca ∧ ∃ sc1 ar1 sm1, MR G hp1 M sc1 ar1 sm1 ∧ MST (gMake (n, R, hd, k, cs, sk, pn, pt) ca) sc1 ar1) (WB G A) A) args s 0 0 A) (F0 m 28 ls []) := by
        intro f
        induction f with
        | zero =>
          intro r h0 ls hl
          refine lv_iload_n X.1 X.2.1 dX7_make_28 rfl (lv_at hl 3 rfl) ?_
          refine lv_aload_n X.1 X.2.1 dX7_make_29 rfl (lv_at hl 0 rfl) ?_
          refine r_get X hW.1 hM.1 (v := .int (sc 0)) (C := RX7) (T := TX7) (N := 19) rfl tin_X7 1 (by decide) tw_844 (fun _ h => h) rfl dX7_make_30 ?_
          refine r_eqi (show ((sc 0) : Int32) = nI n from hU.1) ?_
          refine lv_icmp_ge (tgt := 93) X.1 X.2.1 dX7_make_33 (by decide) (fun c_33 => ?_) (fun c_33 => absurd (nI_le (by omega) (by omega)) c_33)
          refine lv_iload_n X.1 X.2.1 dX7_make_93 rfl (lv_at hl 2 rfl) ?_
          have hla : laF (mkB R (cs k 2) (cs k 4) (cs k 3) ca) r = mkR (n, R, hd, k, cs, sk, pn, pt) ca := by rw [show r = n by omega]; exact mk_first hU huq _ _ _ _
          refine r_eqi hla ?_
          refine lv_if_ge (tgt := 100) X.1 X.2.1 dX7_make_94 (by decide) (fun c_94 => ?_) (fun c_94 => ?_)
          · have r6 : ¬ mkR (n, R, hd, k, cs, sk, pn, pt) ca = -6 := ruF_m6 c_94
            obtain ⟨j, hjn, hj⟩ := ruF_nat c_94
            replace hj : mkR (n, R, hd, k, cs, sk, pn, pt) ca = nI j := hj
            refine lv_aload_n X.1 X.2.1 dX7_make_100 rfl (lv_at hl 0 rfl) ?_
            refine lv_iload_n X.1 X.2.1 dX7_make_101 rfl (lv_at hl 2 rfl) ?_
            refine r_eqi (hla.trans hj) ?_
            refine on_Wv (k' := 0) (n' := 0) (run_V (C := RX7) (As := [.int (nI j)]) (rest := []) X (c_X7_callBy l G A hp _ (fun q h => hA q (Nat.le_trans hW.2.2.1 h)) hW.2.1 M sc ar sm hM n R hd k cs sk pn pt hz j (by omega) (by omega)) (wp_blind _) (wp_at X hW.1 hW.2.2) (recv X hW.1 hM.1 (C := RX7) (T := TX7) (N := 19) rfl) mf_X7_callBy tw_1014 tw_1016 tw_41 ⟨rfl, rfl, Nat.le_of_ble_eq_true rfl, Nat.le_of_ble_eq_true rfl⟩ hl.1 rfl rfl (Nat.le_of_ble_eq_true rfl) ⟨Nat.le_of_ble_eq_true rfl, Nat.le_of_ble_eq_true rfl⟩ dX7_make_102) hW (by omega) (by omega) (fun hp_1 H locs q_102 hW => ?_)
            obtain ⟨sc2, ar2, sm2, hM, hz⟩ := q_102
            have hau1 : MAu (k + 1) (gCall (n, R, hd, k, cs, sk, pn, pt) j).2.2.2.2.1 sk sc2 ar2 := hz.2.2.2.1
            refine lv_aload_n X.1 X.2.1 dX7_make_105 rfl (lv_at hl 0 rfl) ?_
            refine r_get X hW.1 hM.1 (v := .int (sc2 1)) (C := RX7) (T := TX7) (N := 19) rfl tin_X7 10 (by decide) tw_853 (fun _ h => h) rfl dX7_make_106 ?_
            refine r_eqi (show ((sc2 1) : Int32) = nI (k + 1) from hau1.1) ?_
            exact wr_i X hr hlk hW ⟨((if_neg c_7).trans ((if_neg nov).trans (if_neg r6))).symm, _, _, _, hM, by rw [show gMake (n, R, hd, k, cs, sk, pn, pt) ca = gCall (n, R, hd, k, cs, sk, pn, pt) (tn (mkR (n, R, hd, k, cs, sk, pn, pt) ca)) from (if_neg c_7).trans ((if_neg nov).trans (if_neg r6)), show mkR (n, R, hd, k, cs, sk, pn, pt) ca = nI j from hj, tn_n (by omega)]; exact hz⟩ (Nat.le_of_ble_eq_true rfl) (Nat.le_of_ble_eq_true rfl) dX7_make_109
          · have r6 : mkR (n, R, hd, k, cs, sk, pn, pt) ca = -6 := ruF_neg hn c_94
            refine lv_bipush (v := (-5)) X.1 X.2.1 dX7_make_97 (by decide) ?_
            exact wr_i X hr hlk hW ⟨((if_neg c_7).trans ((if_neg nov).trans (if_pos r6))).symm, _, _, _, hM, by rw [show gMake (n, R, hd, k, cs, sk, pn, pt) ca = (n, R, hd, k, cs, sk, pn, pt) from (if_neg c_7).trans ((if_neg nov).trans (if_pos r6))]; exact hz⟩ (Nat.le_of_ble_eq_true rfl) (Nat.le_of_ble_eq_true rfl) dX7_make_99
        | succ f ih =>
          intro r h0 ls hl
          have hrn : r < n := by omega
          refine lv_iload_n X.1 X.2.1 dX7_make_28 rfl (lv_at hl 3 rfl) ?_
          refine lv_aload_n X.1 X.2.1 dX7_make_29 rfl (lv_at hl 0 rfl) ?_
          refine r_get X hW.1 hM.1 (v := .int (sc 0)) (C := RX7) (T := TX7) (N := 19) rfl tin_X7 1 (by decide) tw_844 (fun _ h => h) rfl dX7_make_30 ?_
          refine r_eqi (show ((sc 0) : Int32) = nI n from hU.1) ?_
          refine lv_icmp_ge (tgt := 93) X.1 X.2.1 dX7_make_33 (by decide) (fun c_33 => absurd c_33 (nI_ge (by omega) (by omega))) (fun c_33 => ?_)
          refine lv_aload_n X.1 X.2.1 dX7_make_36 rfl (lv_at hl 0 rfl) ?_
          refine lv_iload_n X.1 X.2.1 dX7_make_37 rfl (lv_at hl 3 rfl) ?_
          refine lv_iconst (v := 1) X.1 X.2.1 dX7_make_38 (by decide) ?_
          refine on_Si (run_V (C := RX7) (As := [.int (nI r), .int 1]) (rest := []) X (c_X7_of l G hp M sc ar sm hM r 1 (by omega) (by decide)) (rp_blind _) (rp_at X hW.1 hW.2.2) (recv X hW.1 hM.1 (C := RX7) (T := TX7) (N := 19) rfl) mf_X7_of tw_922 tw_924 tw_30 ⟨rfl, rfl, Nat.le_of_ble_eq_true rfl, Nat.le_of_ble_eq_true rfl⟩ hl.1 rfl rfl (Nat.le_of_ble_eq_true rfl) ⟨Nat.le_of_ble_eq_true rfl, Nat.le_of_ble_eq_true rfl⟩ dX7_make_39) (fun r_39 q_39 => ?_)
          obtain rfl : r_39 = nI (R r 1) := q_39.trans (hU.2.2.1 r 1 hrn (by omega))
          refine lv_iload_n X.1 X.2.1 dX7_make_42 rfl (lv_at hl 1 rfl) ?_
          refine lv_icmp_ne (tgt := 85) X.1 X.2.1 dX7_make_43 (by decide) (fun c_43 => ?_) (fun c_43 => ?_)
          · refine lv_iload_n X.1 X.2.1 dX7_make_85 rfl (lv_at hl 2 rfl) ?_
            refine lv_istore_n (lv' := [(2, .int (laF (mkB R (cs k 2) (cs k 4) (cs k 3) ca) r)), (0, .ref (M 0)), (1, .int ca), (3, .int (nI r))]) X.1 X.2.1 dX7_make_86 rfl hl (by decide) rfl (fun ls hl => ?_)
            refine lv_iinc (v := (nI (r + 1))) (lv' := [(3, .int (nI (r + 1))), (2, .int (laF (mkB R (cs k 2) (cs k 4) (cs k 3) ca) r)), (0, .ref (M 0)), (1, .int ca)]) X.1 X.2.1 dX7_make_87 hl (k := 3) rfl (nI_add r 1) (by decide) rfl (fun ls hl => ?_)
            refine lv_goto (tgt := 28) X.1 X.2.1 dX7_make_90 (by decide) ?_
            exact ih (r + 1) (by omega) ls (by rw [show laF (mkB R (cs k 2) (cs k 4) (cs k 3) ca) (r + 1) = laF (mkB R (cs k 2) (cs k 4) (cs k 3) ca) r from (if_neg (by unfold mkB; rw [decide_eq_false c_43]; exact Bool.false_ne_true))]; exact (lv_sub hl [2, 3, 1, 0] rfl))
          · refine lv_aload_n X.1 X.2.1 dX7_make_46 rfl (lv_at hl 0 rfl) ?_
            refine lv_iload_n X.1 X.2.1 dX7_make_47 rfl (lv_at hl 3 rfl) ?_
            refine lv_aload_n X.1 X.2.1 dX7_make_48 rfl (lv_at hl 0 rfl) ?_
            refine r_get X hW.1 hM.1 (v := .ref (M 7)) (C := RX7) (T := TX7) (N := 19) rfl tin_X7 7 (by decide) tw_850 (fun _ h => h) rfl dX7_make_49 ?_
            refine lv_aload_n X.1 X.2.1 dX7_make_52 rfl (lv_at hl 0 rfl) ?_
            refine r_get X hW.1 hM.1 (v := .int (sc 1)) (C := RX7) (T := TX7) (N := 19) rfl tin_X7 10 (by decide) tw_853 (fun _ h => h) rfl dX7_make_53 ?_
            refine r_eqi (show ((sc 1) : Int32) = nI k from hau.1) ?_
            refine r_iald X hW.1 (hM.2.1 6 (by decide)) (show vp_in ((nI k)) 13 from vp_in_nI (n := k) (by omega) (by decide)) dX7_make_56 ?_
            refine r_eqi (show (((ar 6) (nI k).toNatClampNeg) : Int32) = cs k 2 from by rw [nI_clamp (by omega)]; exact (hau.2.2.2.2 k (by omega)).1) ?_
            refine lv_aload_n X.1 X.2.1 dX7_make_57 rfl (lv_at hl 0 rfl) ?_
            refine r_get X hW.1 hM.1 (v := .ref (M 9)) (C := RX7) (T := TX7) (N := 19) rfl tin_X7 9 (by decide) tw_852 (fun _ h => h) rfl dX7_make_58 ?_
            refine lv_aload_n X.1 X.2.1 dX7_make_61 rfl (lv_at hl 0 rfl) ?_
            refine r_get X hW.1 hM.1 (v := .int (sc 1)) (C := RX7) (T := TX7) (N := 19) rfl tin_X7 10 (by decide) tw_853 (fun _ h => h) rfl dX7_make_62 ?_
            refine r_eqi (show ((sc 1) : Int32) = nI k from hau.1) ?_
            refine r_iald X hW.1 (hM.2.1 8 (by decide)) (show vp_in ((nI k)) 13 from vp_in_nI (n := k) (by omega) (by decide)) dX7_make_65 ?_
            refine r_eqi (show (((ar 8) (nI k).toNatClampNeg) : Int32) = cs k 4 from by rw [nI_clamp (by omega)]; exact (hau.2.2.2.2 k (by omega)).2.2) ?_
            refine lv_aload_n X.1 X.2.1 dX7_make_66 rfl (lv_at hl 0 rfl) ?_
            refine r_get X hW.1 hM.1 (v := .ref (M 8)) (C := RX7) (T := TX7) (N := 19) rfl tin_X7 8 (by decide) tw_851 (fun _ h => h) rfl dX7_make_67 ?_
            refine lv_aload_n X.1 X.2.1 dX7_make_70 rfl (lv_at hl 0 rfl) ?_
            refine r_get X hW.1 hM.1 (v := .int (sc 1)) (C := RX7) (T := TX7) (N := 19) rfl tin_X7 10 (by decide) tw_853 (fun _ h => h) rfl dX7_make_71 ?_
            refine r_eqi (show ((sc 1) : Int32) = nI k from hau.1) ?_
            refine r_iald X hW.1 (hM.2.1 7 (by decide)) (show vp_in ((nI k)) 13 from vp_in_nI (n := k) (by omega) (by decide)) dX7_make_74 ?_
            refine r_eqi (show (((ar 7) (nI k).toNatClampNeg) : Int32) = cs k 3 from by rw [nI_clamp (by omega)]; exact (hau.2.2.2.2 k (by omega)).2.1) ?_
            refine on_Si (run_V (C := RX7) (As := [.int (nI r), .int (cs k 2), .int (cs k 4), .int (cs k 3)]) (rest := []) X (c_X7_isOpen l G hp M sc ar sm hM n R hU r hrn (cs k 2) (cs k 4) (cs k 3)) (rp_blind _) (rp_at X hW.1 hW.2.2) (recv X hW.1 hM.1 (C := RX7) (T := TX7) (N := 19) rfl) mf_X7_isOpen tw_1010 tw_1012 tw_40 ⟨rfl, rfl, Nat.le_of_ble_eq_true rfl, Nat.le_of_ble_eq_true rfl⟩ hl.1 rfl rfl (Nat.le_of_ble_eq_true rfl) ⟨Nat.le_of_ble_eq_true rfl, Nat.le_of_ble_eq_true rfl⟩ dX7_make_75) (fun r_75 q_75 => ?_)
            obtain rfl : r_75 = (bI (opB (R r) (cs k 2) (cs k 4) (cs k 3))) := q_75
            refine lv_if_eq (tgt := 85) X.1 X.2.1 dX7_make_78 (by decide) (fun c_78 => ?_) (fun c_78 => ?_)
            · refine lv_iload_n X.1 X.2.1 dX7_make_85 rfl (lv_at hl 2 rfl) ?_
              refine lv_istore_n (lv' := [(2, .int (laF (mkB R (cs k 2) (cs k 4) (cs k 3) ca) r)), (0, .ref (M 0)), (1, .int ca), (3, .int (nI r))]) X.1 X.2.1 dX7_make_86 rfl hl (by decide) rfl (fun ls hl => ?_)
              refine lv_iinc (v := (nI (r + 1))) (lv' := [(3, .int (nI (r + 1))), (2, .int (laF (mkB R (cs k 2) (cs k 4) (cs k 3) ca) r)), (0, .ref (M 0)), (1, .int ca)]) X.1 X.2.1 dX7_make_87 hl (k := 3) rfl (nI_add r 1) (by decide) rfl (fun ls hl => ?_)
              refine lv_goto (tgt := 28) X.1 X.2.1 dX7_make_90 (by decide) ?_
              exact ih (r + 1) (by omega) ls (by rw [show laF (mkB R (cs k 2) (cs k 4) (cs k 3) ca) (r + 1) = laF (mkB R (cs k 2) (cs k 4) (cs k 3) ca) r from (if_neg (by unfold mkB; rw [bI_0 c_78, Bool.and_false]; exact Bool.false_ne_true))]; exact (lv_sub hl [2, 3, 1, 0] rfl))
            · refine lv_iload_n X.1 X.2.1 dX7_make_81 rfl (lv_at hl 3 rfl) ?_
              refine lv_goto (tgt := 86) X.1 X.2.1 dX7_make_82 (by decide) ?_
              refine lv_istore_n (lv' := [(2, .int (nI r)), (0, .ref (M 0)), (1, .int ca), (3, .int (nI r))]) X.1 X.2.1 dX7_make_86 rfl hl (by decide) rfl (fun ls hl => ?_)
              refine lv_iinc (v := (nI (r + 1))) (lv' := [(3, .int (nI (r + 1))), (2, .int (nI r)), (0, .ref (M 0)), (1, .int ca)]) X.1 X.2.1 dX7_make_87 hl (k := 3) rfl (nI_add r 1) (by decide) rfl (fun ls hl => ?_)
              refine lv_goto (tgt := 28) X.1 X.2.1 dX7_make_90 (by decide) ?_
              exact ih (r + 1) (by omega) ls (by rw [show laF (mkB R (cs k 2) (cs k 4) (cs k 3) ca) (r + 1) = nI r from (if_pos (by unfold mkB; rw [decide_eq_true c_43, bI_1 c_78]; rfl))]; exact (lv_sub hl [2, 3, 1, 0] rfl))
      exact L28 n 0 (by omega) ls (lv_sub hl [2, 3, 1, 0] rfl)
    · refine lv_bipush (v := (-5)) X.1 X.2.1 dX7_make_20 (by decide) ?_
      exact wr_i X hr hlk hW ⟨((if_neg c_7).trans (if_pos (bI_1 c_17))).symm, _, _, _, hM, by rw [show gMake (n, R, hd, k, cs, sk, pn, pt) ca = (n, R, hd, k, cs, sk, pn, pt) from (if_neg c_7).trans (if_pos (bI_1 c_17))]; exact hz⟩ (Nat.le_of_ble_eq_true rfl) (Nat.le_of_ble_eq_true rfl) dX7_make_22
  · refine lv_bipush (v := (-2)) X.1 X.2.1 dX7_make_10 (by decide) ?_
    exact wr_i X hr hlk hW ⟨(if_pos c_7).symm, _, _, _, hM, by rw [show gMake (n, R, hd, k, cs, sk, pn, pt) ca = (n, R, hd, k, cs, sk, pn, pt) from if_pos c_7]; exact hz⟩ (Nat.le_of_ble_eq_true rfl) (Nat.le_of_ble_eq_true rfl) dX7_make_12

