/-! calls -/
def fCall (z : ST) : Int32 := if ovB z.2.2.2.1 z.2.2.2.2.1 z.2.2.2.2.2.1 = true then -5 else if rlF z.1 z.2.1 (z.2.2.1 (z.2.2.2.1 % 2)) (z.2.2.2.2.1 z.2.2.2.1 2) (z.2.2.2.2.1 z.2.2.2.1 4) (z.2.2.2.2.1 z.2.2.2.1 3) = -6 then -6 else nI (z.2.1 (tn (rlF z.1 z.2.1 (z.2.2.1 (z.2.2.2.1 % 2)) (z.2.2.2.2.1 z.2.2.2.1 2) (z.2.2.2.2.1 z.2.2.2.1 4) (z.2.2.2.2.1 z.2.2.2.1 3))) 1)
def gStuck (z : ST) (b : Bool) : ST := (z.1, z.2.1, z.2.2.1, z.2.2.2.1, z.2.2.2.2.1, b, z.2.2.2.2.2.2.1, z.2.2.2.2.2.2.2)
def gCallA (z : ST) : ST := if ovB z.2.2.2.1 z.2.2.2.2.1 z.2.2.2.2.2.1 = true then z else if rlF z.1 z.2.1 (z.2.2.1 (z.2.2.2.1 % 2)) (z.2.2.2.2.1 z.2.2.2.1 2) (z.2.2.2.2.1 z.2.2.2.1 4) (z.2.2.2.2.1 z.2.2.2.1 3) = -6 then gStuck z true else gCall z (tn (rlF z.1 z.2.1 (z.2.2.1 (z.2.2.2.1 % 2)) (z.2.2.2.2.1 z.2.2.2.1 2) (z.2.2.2.2.1 z.2.2.2.1 4) (z.2.2.2.2.1 z.2.2.2.1 3)))
theorem au_sk {k : Nat} {cs : Nat → Nat → Int32} {sk : Bool} {sc : Nat → Int32} {ar : Nat → Nat → Int32} (h : MAu k cs sk sc ar) (b : Bool) : MAu k cs b (va_up sc 2 (bI b)) ar := ⟨h.1, h.2.1, rfl, h.2.2.2⟩
theorem rl_nat {n : Nat} {R : Nat → Nat → Nat} {h : Nat} {st la fo : Int32} (q : (0 : Int32) ≤ rlF n R h st la fo) : ∃ j, j < n ∧ rlF n R h st la fo = nI j := (rlF_or n R h st la fo).elim (fun e => absurd e (rlF_pos q)) id
theorem ov_lt {k : Nat} {cs : Nat → Nat → Int32} {sk : Bool} (hk : k ≤ 12) (h : ovB k cs sk = false) : k < 12 := by
  unfold ovB at h
  rw [Bool.or_eq_false_iff, Bool.or_eq_false_iff] at h
  have := of_decide_eq_false h.2.1
  omega
set_option maxHeartbeats 4000000 in
set_option maxRecDepth 100000 in
theorem c_X7_call (l : Launch) (G : HG) (A : Nat → Prop) (hp : HP) (sz : Nat) (hA : ∀ q, sz ≤ q → A q) (hO : Ow A hp) (M : Nat → Nat) (sc : Nat → Int32) (ar : Nat → Nat → Int32) (sm : Nat → Int64) (hM : MR G hp M sc ar sm) (n : Nat) (R : Nat → Nat → Nat) (hd : Nat → Nat) (k : Nat) (cs : Nat → Nat → Int32) (sk : Bool) (pn : Nat) (pt : Nat → Nat) (hz : MST (n, R, hd, k, cs, sk, pn, pt) sc ar) : Met l yX7_call [.code yX7_call cX7_call 2 (some .int)] { frames := 3, cells := 0, slots := 0, locals := 72 } (va_Pc [.ref (M 0)] (WP G A sz hp)) (va_Qi (fun r hp1 => r = fCall (n, R, hd, k, cs, sk, pn, pt) ∧ ∃ sc1 ar1 sm1, MR G hp1 M sc1 ar1 sm1 ∧ MST (gCallA (n, R, hd, k, cs, sk, pn, pt)) sc1 ar1) (WB G A) A) 0 0 A := by
  refine wr_ofW (by decide) (Nat.le_of_ble_eq_true rfl) hO ?_
  intro p e s m args below meth c ls X hr hlk hnm hsz hW hl
  have hA : ∀ q, s.heap.size ≤ q → A q := fun q h => hA q (by omega)
  have hl : lv_has ls 2 [(0, .ref (M 0))] := hl
  have hT : MT ar := hz.1
  have hU : MU n R sc ar := hz.2.1
  have hH2 : MH hd ar := hz.2.2.1
  have hau : MAu k cs sk sc ar := hz.2.2.2.1
  have hP : MP pn pt sc ar := hz.2.2.2.2
  have hn := hU.2.1
  have hk := hau.2.1
  have hhd := hH2.2 (k % 2) (by omega)
  refine lv_aload_n X.1 X.2.1 dX7_call_0 rfl (lv_at hl 0 rfl) ?_
  refine on_Si (run_V (C := RX7) (As := []) (rest := []) X (c_X7_isOver l G hp M sc ar sm hM k cs sk hau ) (rp_blind _) (rp_at X hW.1 hW.2.2) (recv X hW.1 hM.1 (C := RX7) (T := TX7) (N := 19) rfl) mf_X7_isOver tw_1002 tw_1004 tw_38 ⟨rfl, rfl, Nat.le_of_ble_eq_true rfl, Nat.le_of_ble_eq_true rfl⟩ hl.1 rfl rfl (Nat.le_of_ble_eq_true rfl) ⟨Nat.le_of_ble_eq_true rfl, Nat.le_of_ble_eq_true rfl⟩ dX7_call_1) (fun r_1 q_1 => ?_)
  obtain rfl : r_1 = (bI (ovB k cs sk)) := q_1
  refine lv_if_eq (tgt := 10) X.1 X.2.1 dX7_call_4 (by decide) (fun c_4 => ?_) (fun c_4 => ?_)
  · have nov : ¬ ovB k cs sk = true := fun q => Bool.false_ne_true ((bI_0 c_4).symm.trans q)
    have hk9 := ov_lt hk (bI_0 c_4)
    refine lv_aload_n X.1 X.2.1 dX7_call_10 rfl (lv_at hl 0 rfl) ?_
    refine lv_aload_n X.1 X.2.1 dX7_call_11 rfl (lv_at hl 0 rfl) ?_
    refine r_get X hW.1 hM.1 (v := .ref (M 2)) (C := RX7) (T := TX7) (N := 19) rfl tin_X7 2 (by decide) tw_845 (fun _ h => h) rfl dX7_call_12 ?_
    refine lv_aload_n X.1 X.2.1 dX7_call_15 rfl (lv_at hl 0 rfl) ?_
    refine r_get X hW.1 hM.1 (v := .int (sc 1)) (C := RX7) (T := TX7) (N := 19) rfl tin_X7 10 (by decide) tw_853 (fun _ h => h) rfl dX7_call_16 ?_
    refine r_eqi (show ((sc 1) : Int32) = nI k from hau.1) ?_
    refine lv_iconst (v := 2) X.1 X.2.1 dX7_call_19 (by decide) ?_
    refine lv_irem X.1 X.2.1 dX7_call_20 (by decide) ?_
    refine r_eqi (show (((nI k) - (nI k) / 2 * 2) : Int32) = nI (k % 2) from pk_rem (a := k) (d := 2) (by omega) (by omega) (by omega)) ?_
    refine r_iald X hW.1 (hM.2.1 1 (by decide)) (show vp_in ((nI (k % 2))) 2 from vp_in_nI (n := (k % 2)) (by omega) (by decide)) dX7_call_21 ?_
    refine r_eqi (show (((ar 1) (nI (k % 2)).toNatClampNeg) : Int32) = nI (hd (k % 2)) from by rw [nI_clamp (by omega)]; exact hH2.1 (k % 2) (by omega)) ?_
    refine lv_aload_n X.1 X.2.1 dX7_call_22 rfl (lv_at hl 0 rfl) ?_
    refine r_get X hW.1 hM.1 (v := .ref (M 7)) (C := RX7) (T := TX7) (N := 19) rfl tin_X7 7 (by decide) tw_850 (fun _ h => h) rfl dX7_call_23 ?_
    refine lv_aload_n X.1 X.2.1 dX7_call_26 rfl (lv_at hl 0 rfl) ?_
    refine r_get X hW.1 hM.1 (v := .int (sc 1)) (C := RX7) (T := TX7) (N := 19) rfl tin_X7 10 (by decide) tw_853 (fun _ h => h) rfl dX7_call_27 ?_
    refine r_eqi (show ((sc 1) : Int32) = nI k from hau.1) ?_
    refine r_iald X hW.1 (hM.2.1 6 (by decide)) (show vp_in ((nI k)) 13 from vp_in_nI (n := k) (by omega) (by decide)) dX7_call_30 ?_
    refine r_eqi (show (((ar 6) (nI k).toNatClampNeg) : Int32) = cs k 2 from by rw [nI_clamp (by omega)]; exact (hau.2.2.2.2 k (by omega)).1) ?_
    refine lv_aload_n X.1 X.2.1 dX7_call_31 rfl (lv_at hl 0 rfl) ?_
    refine r_get X hW.1 hM.1 (v := .ref (M 9)) (C := RX7) (T := TX7) (N := 19) rfl tin_X7 9 (by decide) tw_852 (fun _ h => h) rfl dX7_call_32 ?_
    refine lv_aload_n X.1 X.2.1 dX7_call_35 rfl (lv_at hl 0 rfl) ?_
    refine r_get X hW.1 hM.1 (v := .int (sc 1)) (C := RX7) (T := TX7) (N := 19) rfl tin_X7 10 (by decide) tw_853 (fun _ h => h) rfl dX7_call_36 ?_
    refine r_eqi (show ((sc 1) : Int32) = nI k from hau.1) ?_
    refine r_iald X hW.1 (hM.2.1 8 (by decide)) (show vp_in ((nI k)) 13 from vp_in_nI (n := k) (by omega) (by decide)) dX7_call_39 ?_
    refine r_eqi (show (((ar 8) (nI k).toNatClampNeg) : Int32) = cs k 4 from by rw [nI_clamp (by omega)]; exact (hau.2.2.2.2 k (by omega)).2.2) ?_
    refine lv_aload_n X.1 X.2.1 dX7_call_40 rfl (lv_at hl 0 rfl) ?_
    refine r_get X hW.1 hM.1 (v := .ref (M 8)) (C := RX7) (T := TX7) (N := 19) rfl tin_X7 8 (by decide) tw_851 (fun _ h => h) rfl dX7_call_41 ?_
    refine lv_aload_n X.1 X.2.1 dX7_call_44 rfl (lv_at hl 0 rfl) ?_
    refine r_get X hW.1 hM.1 (v := .int (sc 1)) (C := RX7) (T := TX7) (N := 19) rfl tin_X7 10 (by decide) tw_853 (fun _ h => h) rfl dX7_call_45 ?_
    refine r_eqi (show ((sc 1) : Int32) = nI k from hau.1) ?_
    refine r_iald X hW.1 (hM.2.1 7 (by decide)) (show vp_in ((nI k)) 13 from vp_in_nI (n := k) (by omega) (by decide)) dX7_call_48 ?_
    refine r_eqi (show (((ar 7) (nI k).toNatClampNeg) : Int32) = cs k 3 from by rw [nI_clamp (by omega)]; exact (hau.2.2.2.2 k (by omega)).2.1) ?_
    refine on_Si (run_V (C := RX7) (As := [.int (nI (hd (k % 2))), .int (cs k 2), .int (cs k 4), .int (cs k 3)]) (rest := []) X (c_X7_ruleFor l G hp M sc ar sm hM hT n R hU (hd (k % 2)) (by omega) (cs k 2) (cs k 4) (cs k 3)) (rp_blind _) (rp_at X hW.1 hW.2.2) (recv X hW.1 hM.1 (C := RX7) (T := TX7) (N := 19) rfl) mf_X7_ruleFor tw_1006 tw_1008 tw_39 ⟨rfl, rfl, Nat.le_of_ble_eq_true rfl, Nat.le_of_ble_eq_true rfl⟩ hl.1 rfl rfl (Nat.le_of_ble_eq_true rfl) ⟨Nat.le_of_ble_eq_true rfl, Nat.le_of_ble_eq_true rfl⟩ dX7_call_49) (fun r_49 q_49 => ?_)
    obtain rfl : r_49 = (rlF n R (hd (k % 2)) (cs k 2) (cs k 4) (cs k 3)) := q_49
    refine lv_istore_n (lv' := [(1, .int (rlF n R (hd (k % 2)) (cs k 2) (cs k 4) (cs k 3))), (0, .ref (M 0))]) X.1 X.2.1 dX7_call_52 rfl hl (by decide) rfl (fun ls hl => ?_)
    refine lv_iload_n X.1 X.2.1 dX7_call_53 rfl (lv_at hl 0 rfl) ?_
    refine lv_if_ge (tgt := 65) X.1 X.2.1 dX7_call_54 (by decide) (fun c_54 => ?_) (fun c_54 => ?_)
    · have r6 : ¬ rlF n R (hd (k % 2)) (cs k 2) (cs k 4) (cs k 3) = -6 := rlF_pos c_54
      obtain ⟨j, hjn, hj⟩ := rl_nat c_54
      refine lv_aload_n X.1 X.2.1 dX7_call_65 rfl (lv_at hl 1 rfl) ?_
      refine lv_iload_n X.1 X.2.1 dX7_call_66 rfl (lv_at hl 0 rfl) ?_
      refine r_eqi hj ?_
      refine on_Wv (k' := 0) (n' := 0) (run_V (C := RX7) (As := [.int (nI j)]) (rest := []) X (c_X7_callBy l G A hp _ (fun q h => hA q (Nat.le_trans hW.2.2.1 h)) hW.2.1 M sc ar sm hM n R hd k cs sk pn pt hz j (by omega) (by omega)) (wp_blind _) (wp_at X hW.1 hW.2.2) (recv X hW.1 hM.1 (C := RX7) (T := TX7) (N := 19) rfl) mf_X7_callBy tw_1014 tw_1016 tw_41 ⟨rfl, rfl, Nat.le_of_ble_eq_true rfl, Nat.le_of_ble_eq_true rfl⟩ hl.1 rfl rfl (Nat.le_of_ble_eq_true rfl) ⟨Nat.le_of_ble_eq_true rfl, Nat.le_of_ble_eq_true rfl⟩ dX7_call_67) hW (by omega) (by omega) (fun hp_1 H locs q_67 hW => ?_)
      obtain ⟨sc1, ar1, sm1, hM, hz⟩ := q_67
      have hau1 : MAu (k + 1) (gCall (n, R, hd, k, cs, sk, pn, pt) j).2.2.2.2.1 sk sc1 ar1 := hz.2.2.2.1
      refine lv_aload_n X.1 X.2.1 dX7_call_70 rfl (lv_at hl 1 rfl) ?_
      refine r_get X hW.1 hM.1 (v := .ref (M 5)) (C := RX7) (T := TX7) (N := 19) rfl tin_X7 5 (by decide) tw_848 (fun _ h => h) rfl dX7_call_71 ?_
      refine lv_aload_n X.1 X.2.1 dX7_call_74 rfl (lv_at hl 1 rfl) ?_
      refine r_get X hW.1 hM.1 (v := .int (sc1 1)) (C := RX7) (T := TX7) (N := 19) rfl tin_X7 10 (by decide) tw_853 (fun _ h => h) rfl dX7_call_75 ?_
      refine r_eqi (show ((sc1 1) : Int32) = nI (k + 1) from hau1.1) ?_
      refine lv_iconst (v := 1) X.1 X.2.1 dX7_call_78 (by decide) ?_
      refine lv_isub X.1 X.2.1 dX7_call_79 ?_
      refine r_eqi (show (((nI (k + 1)) - 1) : Int32) = nI ((k + 1) - 1) from pk_sub (a := (k + 1)) (b := 1) (by omega)) ?_
      refine r_iald X hW.1 (hM.2.1 4 (by decide)) (show vp_in ((nI ((k + 1) - 1))) 12 from vp_in_nI (n := ((k + 1) - 1)) (by omega) (by decide)) dX7_call_80 ?_
      refine r_eqi (show (((ar1 4) (nI ((k + 1) - 1)).toNatClampNeg) : Int32) = (gCall (n, R, hd, k, cs, sk, pn, pt) j).2.2.2.2.1 ((k + 1) - 1) 0 from by rw [nI_clamp (by omega)]; exact (hau1.2.2.2.1 ((k + 1) - 1) (by omega)).1) ?_
      exact wr_i X hr hlk hW ⟨(by rw [show fCall (n, R, hd, k, cs, sk, pn, pt) = nI (R (tn (rlF n R (hd (k % 2)) (cs k 2) (cs k 4) (cs k 3))) 1) from (if_neg nov).trans (if_neg r6), hj, tn_n (by omega)]; show csC _ _ _ _ _ _ _ (k + 1 - 1) 0 = _; rw [Nat.add_sub_cancel]; exact (if_pos rfl).trans (if_pos rfl)), _, _, _, hM, by rw [show gCallA (n, R, hd, k, cs, sk, pn, pt) = gCall (n, R, hd, k, cs, sk, pn, pt) (tn (rlF n R (hd (k % 2)) (cs k 2) (cs k 4) (cs k 3))) from (if_neg nov).trans (if_neg r6), hj, tn_n (by omega)]; exact hz⟩ (Nat.le_of_ble_eq_true rfl) (Nat.le_of_ble_eq_true rfl) dX7_call_81
    · have r6 : rlF n R (hd (k % 2)) (cs k 2) (cs k 4) (cs k 3) = -6 := rlF_neg hn c_54
      refine lv_aload_n X.1 X.2.1 dX7_call_57 rfl (lv_at hl 1 rfl) ?_
      refine lv_iconst (v := 1) X.1 X.2.1 dX7_call_58 (by decide) ?_
      refine r_put X hW hM.1 (v := .int 1) (C := RX7) (T := TX7) (N := 19) rfl tin_X7 tyX7_ok nmX7 11 (Nat.le_of_ble_eq_true rfl) tw_854 (fun _ h => h) rfl (by decide) rfl (Nat.le_of_ble_eq_true rfl) dX7_call_59 (fun hp_2 H locs hW eh_3 => ?_)
      have hM := mr_sc2 hM eh_3
      refine lv_bipush (v := (-6)) X.1 X.2.1 dX7_call_62 (by decide) ?_
      exact wr_i X hr hlk hW ⟨((if_neg nov).trans (if_pos r6)).symm, _, _, _, hM, by rw [show gCallA (n, R, hd, k, cs, sk, pn, pt) = gStuck (n, R, hd, k, cs, sk, pn, pt) true from (if_neg nov).trans (if_pos r6)]; exact ⟨hT, hU, hH2, au_sk hau true, hP⟩⟩ (Nat.le_of_ble_eq_true rfl) (Nat.le_of_ble_eq_true rfl) dX7_call_64
  · refine lv_bipush (v := (-5)) X.1 X.2.1 dX7_call_7 (by decide) ?_
    exact wr_i X hr hlk hW ⟨(if_pos (bI_1 c_4)).symm, _, _, _, hM, by rw [show gCallA (n, R, hd, k, cs, sk, pn, pt) = (n, R, hd, k, cs, sk, pn, pt) from if_pos (bI_1 c_4)]; exact hz⟩ (Nat.le_of_ble_eq_true rfl) (Nat.le_of_ble_eq_true rfl) dX7_call_9

def fBack (z : ST) : Int32 := if z.2.2.2.1 = 0 ∧ z.2.2.2.2.2.1 = false then -5 else nI (if z.2.2.2.2.2.1 = true then z.2.2.2.1 else z.2.2.2.1 - 1)
def gBack (z : ST) : ST := if z.2.2.2.1 = 0 ∧ z.2.2.2.2.2.1 = false then z else (z.1, z.2.1, z.2.2.1, (if z.2.2.2.2.2.1 = true then z.2.2.2.1 else z.2.2.2.1 - 1), z.2.2.2.2.1, false, z.2.2.2.2.2.2.1, z.2.2.2.2.2.2.2)
theorem au_back {k : Nat} {cs : Nat → Nat → Int32} {sk : Bool} {sc : Nat → Int32} {ar : Nat → Nat → Int32} (h : MAu k cs sk sc ar) {j : Nat} (hj : j ≤ k) {sc1 : Nat → Int32} (e1 : sc1 1 = nI j) (e2 : sc1 2 = 0) : MAu j cs false sc1 ar := ⟨e1, by have := h.2.1; omega, e2, fun i hi => h.2.2.2.1 i (by omega), fun i hi => h.2.2.2.2 i (by omega)⟩
set_option maxHeartbeats 4000000 in
set_option maxRecDepth 100000 in
theorem c_X7_back (l : Launch) (G : HG) (A : Nat → Prop) (hp : HP) (sz : Nat) (hA : ∀ q, sz ≤ q → A q) (hO : Ow A hp) (M : Nat → Nat) (sc : Nat → Int32) (ar : Nat → Nat → Int32) (sm : Nat → Int64) (hM : MR G hp M sc ar sm) (n : Nat) (R : Nat → Nat → Nat) (hd : Nat → Nat) (k : Nat) (cs : Nat → Nat → Int32) (sk : Bool) (pn : Nat) (pt : Nat → Nat) (hz : MST (n, R, hd, k, cs, sk, pn, pt) sc ar) : Met l yX7_back [.code yX7_back cX7_back 1 (some .int)] { frames := 0, cells := 0, slots := 0, locals := 0 } (va_Pc [.ref (M 0)] (WP G A sz hp)) (va_Qi (fun r hp1 => r = fBack (n, R, hd, k, cs, sk, pn, pt) ∧ ∃ sc1 ar1 sm1, MR G hp1 M sc1 ar1 sm1 ∧ MST (gBack (n, R, hd, k, cs, sk, pn, pt)) sc1 ar1) (WB G A) A) 0 0 A := by
  refine wr_ofW (by decide) (Nat.le_of_ble_eq_true rfl) hO ?_
  intro p e s m args below meth c ls X hr hlk hnm hsz hW hl
  have hA : ∀ q, s.heap.size ≤ q → A q := fun q h => hA q (by omega)
  have hl : lv_has ls 1 [(0, .ref (M 0))] := hl
  have hT : MT ar := hz.1
  have hU : MU n R sc ar := hz.2.1
  have hH2 : MH hd ar := hz.2.2.1
  have hau : MAu k cs sk sc ar := hz.2.2.2.1
  have hP : MP pn pt sc ar := hz.2.2.2.2
  have hn := hU.2.1
  have hk := hau.2.1
  refine lv_aload_n X.1 X.2.1 dX7_back_0 rfl (lv_at hl 0 rfl) ?_
  refine r_get X hW.1 hM.1 (v := .int (sc 1)) (C := RX7) (T := TX7) (N := 19) rfl tin_X7 10 (by decide) tw_853 (fun _ h => h) rfl dX7_back_1 ?_
  refine r_eqi (show ((sc 1) : Int32) = nI k from hau.1) ?_
  refine lv_if_ne (tgt := 17) X.1 X.2.1 dX7_back_4 (by decide) (fun c_4 => ?_) (fun c_4 => ?_)
  · have k_4 := k_ne (a := k) (b := 0) (by omega) (by omega) c_4
    refine lv_aload_n X.1 X.2.1 dX7_back_17 rfl (lv_at hl 0 rfl) ?_
    refine lv_dup X.1 X.2.1 dX7_back_18 rfl ?_
    refine r_get X hW.1 hM.1 (v := .int (sc 1)) (C := RX7) (T := TX7) (N := 19) rfl tin_X7 10 (by decide) tw_853 (fun _ h => h) rfl dX7_back_19 ?_
    refine r_eqi (show ((sc 1) : Int32) = nI k from hau.1) ?_
    refine lv_aload_n X.1 X.2.1 dX7_back_22 rfl (lv_at hl 0 rfl) ?_
    refine r_get X hW.1 hM.1 (v := .int (sc 2)) (C := RX7) (T := TX7) (N := 19) rfl tin_X7 11 (by decide) tw_854 (fun _ h => h) rfl dX7_back_23 ?_
    refine r_eqi (show ((sc 2) : Int32) = bI sk from hau.2.2.1) ?_
    refine lv_if_eq (tgt := 33) X.1 X.2.1 dX7_back_26 (by decide) (fun c_26 => ?_) (fun c_26 => ?_)
    · refine lv_iconst (v := 1) X.1 X.2.1 dX7_back_33 (by decide) ?_
      refine lv_isub X.1 X.2.1 dX7_back_34 ?_
      refine r_eqi (show (((nI k) - 1) : Int32) = nI (k - 1) from pk_sub (a := k) (b := 1) (by omega)) ?_
      refine r_put X hW hM.1 (v := .int (nI (k - 1))) (C := RX7) (T := TX7) (N := 19) rfl tin_X7 tyX7_ok nmX7 10 (Nat.le_of_ble_eq_true rfl) tw_853 (fun _ h => h) rfl rfl rfl (Nat.le_of_ble_eq_true rfl) dX7_back_35 (fun hp_1 H locs hW eh_2 => ?_)
      have hM := mr_sc1 hM eh_2
      refine lv_aload_n X.1 X.2.1 dX7_back_38 rfl (lv_at hl 0 rfl) ?_
      refine lv_iconst (v := 0) X.1 X.2.1 dX7_back_39 (by decide) ?_
      refine r_put X hW hM.1 (v := .int 0) (C := RX7) (T := TX7) (N := 19) rfl tin_X7 tyX7_ok nmX7 11 (Nat.le_of_ble_eq_true rfl) tw_854 (fun _ h => h) rfl (by decide) rfl (Nat.le_of_ble_eq_true rfl) dX7_back_40 (fun hp_3 H locs hW eh_4 => ?_)
      have hM := mr_sc2 hM eh_4
      refine lv_aload_n X.1 X.2.1 dX7_back_43 rfl (lv_at hl 0 rfl) ?_
      refine r_get X hW.1 hM.1 (v := .int (nI (k - 1))) (C := RX7) (T := TX7) (N := 19) rfl tin_X7 10 (by decide) tw_853 (fun _ h => h) rfl dX7_back_44 ?_
      exact wr_i X hr hlk hW ⟨((if_neg (show ¬ (k = 0 ∧ sk = false) from fun q => k_4 q.1)).trans (congrArg nI (if_neg (fun q => Bool.false_ne_true ((bI_0 c_26).symm.trans q))))).symm, _, _, _, hM, by rw [show gBack (n, R, hd, k, cs, sk, pn, pt) = _ from if_neg (show ¬ (k = 0 ∧ sk = false) from fun q => k_4 q.1)]; exact ⟨hT, hU, hH2, by show MAu (if sk = true then k else k - 1) cs false _ _; rw [if_neg (fun q => Bool.false_ne_true ((bI_0 c_26).symm.trans q))]; exact au_back hau (by omega) rfl rfl, hP⟩⟩ (Nat.le_of_ble_eq_true rfl) (Nat.le_of_ble_eq_true rfl) dX7_back_47
    · refine lv_iconst (v := 0) X.1 X.2.1 dX7_back_29 (by decide) ?_
      refine lv_goto (tgt := 34) X.1 X.2.1 dX7_back_30 (by decide) ?_
      refine lv_isub X.1 X.2.1 dX7_back_34 ?_
      refine r_eqi (show (((nI k) - 0) : Int32) = nI k from Int32.sub_zero _) ?_
      refine r_put X hW hM.1 (v := .int (nI k)) (C := RX7) (T := TX7) (N := 19) rfl tin_X7 tyX7_ok nmX7 10 (Nat.le_of_ble_eq_true rfl) tw_853 (fun _ h => h) rfl rfl rfl (Nat.le_of_ble_eq_true rfl) dX7_back_35 (fun hp_5 H locs hW eh_6 => ?_)
      have hM := mr_sc1 hM eh_6
      refine lv_aload_n X.1 X.2.1 dX7_back_38 rfl (lv_at hl 0 rfl) ?_
      refine lv_iconst (v := 0) X.1 X.2.1 dX7_back_39 (by decide) ?_
      refine r_put X hW hM.1 (v := .int 0) (C := RX7) (T := TX7) (N := 19) rfl tin_X7 tyX7_ok nmX7 11 (Nat.le_of_ble_eq_true rfl) tw_854 (fun _ h => h) rfl (by decide) rfl (Nat.le_of_ble_eq_true rfl) dX7_back_40 (fun hp_7 H locs hW eh_8 => ?_)
      have hM := mr_sc2 hM eh_8
      refine lv_aload_n X.1 X.2.1 dX7_back_43 rfl (lv_at hl 0 rfl) ?_
      refine r_get X hW.1 hM.1 (v := .int (nI k)) (C := RX7) (T := TX7) (N := 19) rfl tin_X7 10 (by decide) tw_853 (fun _ h => h) rfl dX7_back_44 ?_
      exact wr_i X hr hlk hW ⟨((if_neg (show ¬ (k = 0 ∧ sk = false) from fun q => Bool.false_ne_true (q.2.symm.trans (bI_1 c_26)))).trans (congrArg nI (if_pos (bI_1 c_26)))).symm, _, _, _, hM, by rw [show gBack (n, R, hd, k, cs, sk, pn, pt) = _ from if_neg (show ¬ (k = 0 ∧ sk = false) from fun q => Bool.false_ne_true (q.2.symm.trans (bI_1 c_26)))]; exact ⟨hT, hU, hH2, by show MAu (if sk = true then k else k - 1) cs false _ _; rw [if_pos (bI_1 c_26)]; exact au_back hau (by omega) rfl rfl, hP⟩⟩ (Nat.le_of_ble_eq_true rfl) (Nat.le_of_ble_eq_true rfl) dX7_back_47
  · have k_4 := k_eq (a := k) (b := 0) (by omega) (by omega) c_4
    refine lv_aload_n X.1 X.2.1 dX7_back_7 rfl (lv_at hl 0 rfl) ?_
    refine r_get X hW.1 hM.1 (v := .int (sc 2)) (C := RX7) (T := TX7) (N := 19) rfl tin_X7 11 (by decide) tw_854 (fun _ h => h) rfl dX7_back_8 ?_
    refine r_eqi (show ((sc 2) : Int32) = bI sk from hau.2.2.1) ?_
    refine lv_if_ne (tgt := 17) X.1 X.2.1 dX7_back_11 (by decide) (fun c_11 => ?_) (fun c_11 => ?_)
    · refine lv_aload_n X.1 X.2.1 dX7_back_17 rfl (lv_at hl 0 rfl) ?_
      refine lv_dup X.1 X.2.1 dX7_back_18 rfl ?_
      refine r_get X hW.1 hM.1 (v := .int (sc 1)) (C := RX7) (T := TX7) (N := 19) rfl tin_X7 10 (by decide) tw_853 (fun _ h => h) rfl dX7_back_19 ?_
      refine r_eqi (show ((sc 1) : Int32) = nI k from hau.1) ?_
      refine lv_aload_n X.1 X.2.1 dX7_back_22 rfl (lv_at hl 0 rfl) ?_
      refine r_get X hW.1 hM.1 (v := .int (sc 2)) (C := RX7) (T := TX7) (N := 19) rfl tin_X7 11 (by decide) tw_854 (fun _ h => h) rfl dX7_back_23 ?_
      refine r_eqi (show ((sc 2) : Int32) = bI sk from hau.2.2.1) ?_
      refine lv_if_eq (tgt := 33) X.1 X.2.1 dX7_back_26 (by decide) (fun c_26 => ?_) (fun c_26 => ?_)
      · exact absurd c_26 c_11
      · refine lv_iconst (v := 0) X.1 X.2.1 dX7_back_29 (by decide) ?_
        refine lv_goto (tgt := 34) X.1 X.2.1 dX7_back_30 (by decide) ?_
        refine lv_isub X.1 X.2.1 dX7_back_34 ?_
        refine r_eqi (show (((nI k) - 0) : Int32) = nI k from Int32.sub_zero _) ?_
        refine r_put X hW hM.1 (v := .int (nI k)) (C := RX7) (T := TX7) (N := 19) rfl tin_X7 tyX7_ok nmX7 10 (Nat.le_of_ble_eq_true rfl) tw_853 (fun _ h => h) rfl rfl rfl (Nat.le_of_ble_eq_true rfl) dX7_back_35 (fun hp_9 H locs hW eh_10 => ?_)
        have hM := mr_sc1 hM eh_10
        refine lv_aload_n X.1 X.2.1 dX7_back_38 rfl (lv_at hl 0 rfl) ?_
        refine lv_iconst (v := 0) X.1 X.2.1 dX7_back_39 (by decide) ?_
        refine r_put X hW hM.1 (v := .int 0) (C := RX7) (T := TX7) (N := 19) rfl tin_X7 tyX7_ok nmX7 11 (Nat.le_of_ble_eq_true rfl) tw_854 (fun _ h => h) rfl (by decide) rfl (Nat.le_of_ble_eq_true rfl) dX7_back_40 (fun hp_11 H locs hW eh_12 => ?_)
        have hM := mr_sc2 hM eh_12
        refine lv_aload_n X.1 X.2.1 dX7_back_43 rfl (lv_at hl 0 rfl) ?_
        refine r_get X hW.1 hM.1 (v := .int (nI k)) (C := RX7) (T := TX7) (N := 19) rfl tin_X7 10 (by decide) tw_853 (fun _ h => h) rfl dX7_back_44 ?_
        exact wr_i X hr hlk hW ⟨((if_neg (show ¬ (k = 0 ∧ sk = false) from fun q => Bool.false_ne_true (q.2.symm.trans (bI_1 c_26)))).trans (congrArg nI (if_pos (bI_1 c_26)))).symm, _, _, _, hM, by rw [show gBack (n, R, hd, k, cs, sk, pn, pt) = _ from if_neg (show ¬ (k = 0 ∧ sk = false) from fun q => Bool.false_ne_true (q.2.symm.trans (bI_1 c_26)))]; exact ⟨hT, hU, hH2, by show MAu (if sk = true then k else k - 1) cs false _ _; rw [if_pos (bI_1 c_26)]; exact au_back hau (by omega) rfl rfl, hP⟩⟩ (Nat.le_of_ble_eq_true rfl) (Nat.le_of_ble_eq_true rfl) dX7_back_47
    · refine lv_bipush (v := (-5)) X.1 X.2.1 dX7_back_14 (by decide) ?_
      exact wr_i X hr hlk hW ⟨(if_pos ⟨k_4, bI_0 c_11⟩).symm, _, _, _, hM, by rw [show gBack (n, R, hd, k, cs, sk, pn, pt) = (n, R, hd, k, cs, sk, pn, pt) from if_pos ⟨k_4, bI_0 c_11⟩]; exact hz⟩ (Nat.le_of_ble_eq_true rfl) (Nat.le_of_ble_eq_true rfl) dX7_back_16

def fGive (z : ST) (a b : Int32) : Int32 := if inI a 0 1 = 0 then -1 else if handB b = false then -2 else if ¬ z.2.2.1 (1 - tn a) &&& tn b = 0 then -5 else nI (z.2.2.1 (tn a))
def gGive (z : ST) (a b : Int32) : ST := if inI a 0 1 = 0 then z else if handB b = false then z else if ¬ z.2.2.1 (1 - tn a) &&& tn b = 0 then z else gAnew (z.1, z.2.1, (fun i => if i = tn a then tn b else z.2.2.1 i), z.2.2.2)
theorem mh_up {hd : Nat → Nat} {ar : Nat → Nat → Int32} (h : MH hd ar) {x y : Nat} (hx : x < 2) (hy : y ≤ 1048575) : MH (fun i => if i = x then y else hd i) (va_up ar 1 (upd (ar 1) (nI x).toNatClampNeg (nI y))) := by
  refine ⟨fun i hi => ?_, fun i hi => ?_⟩
  · show upd (ar 1) (nI x).toNatClampNeg (nI y) i = _
    rw [nI_clamp (by omega)]
    by_cases c : i = x
    · simp [upd, c]
    · simp [upd, c, h.1 i hi]
  · show (if i = x then y else hd i) ≤ _
    split
    · exact hy
    · exact h.2 i hi
set_option maxHeartbeats 4000000 in
set_option maxRecDepth 100000 in
theorem c_X7_give (l : Launch) (G : HG) (A : Nat → Prop) (hp : HP) (sz : Nat) (hA : ∀ q, sz ≤ q → A q) (hO : Ow A hp) (M : Nat → Nat) (sc : Nat → Int32) (ar : Nat → Nat → Int32) (sm : Nat → Int64) (hM : MR G hp M sc ar sm) (n : Nat) (R : Nat → Nat → Nat) (hd : Nat → Nat) (k : Nat) (cs : Nat → Nat → Int32) (sk : Bool) (pn : Nat) (pt : Nat → Nat) (hz : MST (n, R, hd, k, cs, sk, pn, pt) sc ar) (a b : Int32) : Met l yX7_give [.code yX7_give cX7_give 4 (some .int)] { frames := 3, cells := 0, slots := 0, locals := 66 } (va_Pc [.ref (M 0), .int a, .int b] (WP G A sz hp)) (va_Qi (fun r hp1 => r = fGive (n, R, hd, k, cs, sk, pn, pt) a b ∧ ∃ sc1 ar1 sm1, MR G hp1 M sc1 ar1 sm1 ∧ MST (gGive (n, R, hd, k, cs, sk, pn, pt) a b) sc1 ar1) (WB G A) A) 0 0 A := by
  refine wr_ofW (by decide) (Nat.le_of_ble_eq_true rfl) hO ?_
  intro p e s m args below meth c ls X hr hlk hnm hsz hW hl
  have hA : ∀ q, s.heap.size ≤ q → A q := fun q h => hA q (by omega)
  have hl : lv_has ls 4 [(0, .ref (M 0)), (1, .int a), (2, .int b)] := hl
  have hT : MT ar := hz.1
  have hU : MU n R sc ar := hz.2.1
  have hH2 : MH hd ar := hz.2.2.1
  have hau : MAu k cs sk sc ar := hz.2.2.2.1
  have hP : MP pn pt sc ar := hz.2.2.2.2
  have hn := hU.2.1
  have hk := hau.2.1
  refine lv_iload_n X.1 X.2.1 dX7_give_0 rfl (lv_at hl 1 rfl) ?_
  refine on_Si (run_S (As := [.int a]) (rest := []) X (c_X7_isPartner l G hp a) (rp_blind _) (rp_at X hW.1 hW.2.2) mf_X7_isPartner tw_970 tw_971 ⟨rfl, rfl, Nat.le_of_ble_eq_true rfl, Nat.le_of_ble_eq_true rfl⟩ hl.1 rfl rfl (Nat.le_of_ble_eq_true rfl) ⟨Nat.le_of_ble_eq_true rfl, Nat.le_of_ble_eq_true rfl⟩ dX7_give_1) (fun r_1 q_1 => ?_)
  obtain rfl : r_1 = (inI a 0 1) := q_1
  refine lv_if_ne (tgt := 9) X.1 X.2.1 dX7_give_4 (by decide) (fun c_4 => ?_) (fun c_4 => ?_)
  · obtain ⟨xa, hxa, rfl⟩ := inI_nat (hi := 1) c_4 (by decide)
    refine lv_aload_n X.1 X.2.1 dX7_give_9 rfl (lv_at hl 0 rfl) ?_
    refine lv_iload_n X.1 X.2.1 dX7_give_10 rfl (lv_at hl 2 rfl) ?_
    refine on_Si (run_V (C := RX7) (As := [.int b]) (rest := []) X (c_X7_isHand l G hp M sc ar sm hM hT b ) (rp_blind _) (rp_at X hW.1 hW.2.2) (recv X hW.1 hM.1 (C := RX7) (T := TX7) (N := 19) rfl) mf_X7_isHand tw_973 tw_975 tw_36 ⟨rfl, rfl, Nat.le_of_ble_eq_true rfl, Nat.le_of_ble_eq_true rfl⟩ hl.1 rfl rfl (Nat.le_of_ble_eq_true rfl) ⟨Nat.le_of_ble_eq_true rfl, Nat.le_of_ble_eq_true rfl⟩ dX7_give_11) (fun r_11 q_11 => ?_)
    obtain rfl : r_11 = (bI (handB b)) := q_11
    refine lv_if_ne (tgt := 20) X.1 X.2.1 dX7_give_14 (by decide) (fun c_14 => ?_) (fun c_14 => ?_)
    · have g14 := bI_1 c_14
      obtain ⟨xb, hxb, rfl, hzxb⟩ := handB_of g14
      have nh : ¬ handB (nI xb) = false := fun q => Bool.false_ne_true (q.symm.trans g14)
      have hhd := hH2.2 (1 - xa) (by omega)
      refine lv_aload_n X.1 X.2.1 dX7_give_20 rfl (lv_at hl 0 rfl) ?_
      refine r_get X hW.1 hM.1 (v := .ref (M 2)) (C := RX7) (T := TX7) (N := 19) rfl tin_X7 2 (by decide) tw_845 (fun _ h => h) rfl dX7_give_21 ?_
      refine lv_iconst (v := 1) X.1 X.2.1 dX7_give_24 (by decide) ?_
      refine lv_iload_n X.1 X.2.1 dX7_give_25 rfl (lv_at hl 1 rfl) ?_
      refine lv_isub X.1 X.2.1 dX7_give_26 ?_
      refine r_eqi (show (((1 : Int32) - (nI xa)) : Int32) = nI (1 - xa) from pk_sub (a := 1) (b := xa) (by omega)) ?_
      refine r_iald X hW.1 (hM.2.1 1 (by decide)) (show vp_in ((nI (1 - xa))) 2 from vp_in_nI (n := (1 - xa)) (by omega) (by decide)) dX7_give_27 ?_
      refine r_eqi (show (((ar 1) (nI (1 - xa)).toNatClampNeg) : Int32) = nI (hd (1 - xa)) from by rw [nI_clamp (by omega)]; exact hH2.1 (1 - xa) (by omega)) ?_
      refine lv_iload_n X.1 X.2.1 dX7_give_28 rfl (lv_at hl 2 rfl) ?_
      refine lv_iand X.1 X.2.1 dX7_give_29 ?_
      refine r_eqi (show (((nI (hd (1 - xa))) &&& (nI xb)) : Int32) = nI ((hd (1 - xa)) &&& xb) from n_and (hd (1 - xa)) xb) ?_
      have hab : hd (1 - xa) &&& xb ≤ hd (1 - xa) := Nat.and_le_left
      refine lv_if_eq (tgt := 36) X.1 X.2.1 dX7_give_30 (by decide) (fun c_30 => ?_) (fun c_30 => ?_)
      · have k_30 := k_eq (a := ((hd (1 - xa)) &&& xb)) (b := 0) (by omega) (by omega) c_30
        refine lv_aload_n X.1 X.2.1 dX7_give_36 rfl (lv_at hl 0 rfl) ?_
        refine r_get X hW.1 hM.1 (v := .ref (M 2)) (C := RX7) (T := TX7) (N := 19) rfl tin_X7 2 (by decide) tw_845 (fun _ h => h) rfl dX7_give_37 ?_
        refine lv_iload_n X.1 X.2.1 dX7_give_40 rfl (lv_at hl 1 rfl) ?_
        refine r_iald X hW.1 (hM.2.1 1 (by decide)) (show vp_in ((nI xa)) 2 from vp_in_nI (n := xa) (by omega) (by decide)) dX7_give_41 ?_
        refine r_eqi (show (((ar 1) (nI xa).toNatClampNeg) : Int32) = nI (hd xa) from by rw [nI_clamp (by omega)]; exact hH2.1 xa (by omega)) ?_
        refine lv_istore_n (lv' := [(3, .int (nI (hd xa))), (0, .ref (M 0)), (1, .int (nI xa)), (2, .int (nI xb))]) X.1 X.2.1 dX7_give_42 rfl hl (by decide) rfl (fun ls hl => ?_)
        refine lv_aload_n X.1 X.2.1 dX7_give_43 rfl (lv_at hl 1 rfl) ?_
        refine r_get X hW.1 hM.1 (v := .ref (M 2)) (C := RX7) (T := TX7) (N := 19) rfl tin_X7 2 (by decide) tw_845 (fun _ h => h) rfl dX7_give_44 ?_
        refine lv_iload_n X.1 X.2.1 dX7_give_47 rfl (lv_at hl 2 rfl) ?_
        refine lv_iload_n X.1 X.2.1 dX7_give_48 rfl (lv_at hl 3 rfl) ?_
        refine r_iast X hW (hM.2.1 1 (by decide)) (show vp_in ((nI xa)) 2 from vp_in_nI (n := xa) (by omega) (by decide)) dX7_give_49 (fun hp_1 H locs hW eh_2 => ?_)
        have hM := mr_ar hM 1 (by decide) eh_2
        refine lv_aload_n X.1 X.2.1 dX7_give_50 rfl (lv_at hl 1 rfl) ?_
        refine on_Wv (k' := 0) (n' := 0) (run_V (C := RX7) (As := []) (rest := []) X (c_X7_anew l G A hp_1 _ (fun q h => hA q (Nat.le_trans hW.2.2.1 h)) hW.2.1 M sc (va_up ar 1 (upd (ar 1) (nI xa).toNatClampNeg (nI xb))) sm hM) (wp_blind _) (wp_at X hW.1 hW.2.2) (recv X hW.1 hM.1 (C := RX7) (T := TX7) (N := 19) rfl) mf_X7_anew tw_839 tw_841 tw_26 ⟨rfl, rfl, Nat.le_of_ble_eq_true rfl, Nat.le_of_ble_eq_true rfl⟩ hl.1 rfl rfl (Nat.le_of_ble_eq_true rfl) ⟨Nat.le_of_ble_eq_true rfl, Nat.le_of_ble_eq_true rfl⟩ dX7_give_51) hW (by omega) (by omega) (fun hp_3 H locs q_51 hW => ?_)
        have hM := q_51
        refine lv_iload_n X.1 X.2.1 dX7_give_54 rfl (lv_at hl 0 rfl) ?_
        exact wr_i X hr hlk hW ⟨(by rw [show fGive (n, R, hd, k, cs, sk, pn, pt) (nI xa) (nI xb) = nI (hd (tn (nI xa))) from (if_neg c_4).trans ((if_neg nh).trans (if_neg (by show ¬ ¬ hd (1 - tn (nI xa)) &&& tn (nI xb) = 0; rw [tn_n (by omega), tn_n (by omega)]; exact fun q => q k_30))), tn_n (by omega)]), _, _, _, hM, by rw [show gGive (n, R, hd, k, cs, sk, pn, pt) (nI xa) (nI xb) = _ from (if_neg c_4).trans ((if_neg nh).trans (if_neg (by show ¬ ¬ hd (1 - tn (nI xa)) &&& tn (nI xb) = 0; rw [tn_n (by omega), tn_n (by omega)]; exact fun q => q k_30))), tn_n (by omega), tn_n (by omega)]; exact MST.anew (z := (n, R, (fun i => if i = xa then xb else hd i), k, cs, sk, pn, pt)) ⟨hT, hU, mh_up hH2 (by omega) hxb, hau, hP⟩⟩ (Nat.le_of_ble_eq_true rfl) (Nat.le_of_ble_eq_true rfl) dX7_give_55
      · have k_30 := k_ne (a := ((hd (1 - xa)) &&& xb)) (b := 0) (by omega) (by omega) c_30
        refine lv_bipush (v := (-5)) X.1 X.2.1 dX7_give_33 (by decide) ?_
        exact wr_i X hr hlk hW ⟨((if_neg c_4).trans ((if_neg nh).trans (if_pos (by show ¬ hd (1 - tn (nI xa)) &&& tn (nI xb) = 0; rw [tn_n (by omega), tn_n (by omega)]; exact k_30)))).symm, _, _, _, hM, by rw [show gGive (n, R, hd, k, cs, sk, pn, pt) (nI xa) (nI xb) = (n, R, hd, k, cs, sk, pn, pt) from (if_neg c_4).trans ((if_neg nh).trans (if_pos (by show ¬ hd (1 - tn (nI xa)) &&& tn (nI xb) = 0; rw [tn_n (by omega), tn_n (by omega)]; exact k_30)))]; exact hz⟩ (Nat.le_of_ble_eq_true rfl) (Nat.le_of_ble_eq_true rfl) dX7_give_35
    · refine lv_bipush (v := (-2)) X.1 X.2.1 dX7_give_17 (by decide) ?_
      exact wr_i X hr hlk hW ⟨((if_neg c_4).trans (if_pos (bI_0 c_14))).symm, _, _, _, hM, by rw [show gGive (n, R, hd, k, cs, sk, pn, pt) (nI xa) b = (n, R, hd, k, cs, sk, pn, pt) from (if_neg c_4).trans (if_pos (bI_0 c_14))]; exact hz⟩ (Nat.le_of_ble_eq_true rfl) (Nat.le_of_ble_eq_true rfl) dX7_give_19
  · refine lv_iconst (v := (-1)) X.1 X.2.1 dX7_give_7 (by decide) ?_
    exact wr_i X hr hlk hW ⟨(if_pos c_4).symm, _, _, _, hM, by rw [show gGive (n, R, hd, k, cs, sk, pn, pt) a b = (n, R, hd, k, cs, sk, pn, pt) from if_pos c_4]; exact hz⟩ (Nat.le_of_ble_eq_true rfl) (Nat.le_of_ble_eq_true rfl) dX7_give_8

