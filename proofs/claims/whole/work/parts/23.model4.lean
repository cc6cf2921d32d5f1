set_option maxHeartbeats 4000000 in
set_option maxRecDepth 100000 in
theorem c_X7_state (l : Launch) (G : HG) (hp : HP) (M : Nat → Nat) (sc : Nat → Int32) (ar : Nat → Nat → Int32) (sm : Nat → Int64) (hM : MR G hp M sc ar sm) (n : Nat) (R : Nat → Nat → Nat) (hU : MU n R sc ar) (k : Nat) (cs : Nat → Nat → Int32) (sk : Bool) (hau : MAu k cs sk sc ar) (pn : Nat) (pt : Nat → Nat) (hP : MP pn pt sc ar) (a : Int32) : Met l yX7_state [.code yX7_state cX7_state 2 (some .int)] { frames := 1, cells := 0, slots := 0, locals := 20 } (va_Pc [.ref (M 0), .int a] (RP G hp)) (vp_Si (fun r => r = fState n k cs sk pn a)) 0 0 (fun _ => False) := by
  refine ro_ofW (by decide) (Nat.le_of_ble_eq_true rfl) ?_
  intro p e s m args below meth c ls X hr hlk hH hl
  have hS : va_S (fun _ => False) s.heap s.heap [] := va_S.rf
  have hl : lv_has ls 2 [(0, .ref (M 0)), (1, .int a)] := hl
  have hk := hau.2.1
  have hn := hU.2.1
  refine lv_iload_n X.1 X.2.1 dX7_state_0 rfl (lv_at hl 1 rfl) ?_
  refine (Decidable.em ((a : Int32) = 0)).elim (fun sw_1_0 => ?_) (fun sw_1_0 => ?_)
  · refine r_eqi sw_1_0 ?_
    refine lv_tableIn (off := 47) (tgt := 48) X.1 X.2.1 dX7_state_1 (by decide) (by decide) (by decide) (by decide) ?_
    refine lv_aload_n X.1 X.2.1 dX7_state_48 rfl (lv_at hl 0 rfl) ?_
    refine r_get X hH hM.1 (v := .int (sc 1)) (C := RX7) (T := TX7) (N := 19) rfl tin_X7 10 (by decide) tw_853 (fun _ h => h) rfl dX7_state_49 ?_
    refine r_eqi (show ((sc 1) : Int32) = nI k from hau.1) ?_
    exact ro_i X hr hlk (by show (_ : Int32) = _; unfold fState; rw [if_pos sw_1_0]) dX7_state_52
  · skip
    refine (Decidable.em ((a : Int32) = 1)).elim (fun sw_1_1 => ?_) (fun sw_1_1 => ?_)
    · refine r_eqi sw_1_1 ?_
      refine lv_tableIn (off := 52) (tgt := 53) X.1 X.2.1 dX7_state_1 (by decide) (by decide) (by decide) (by decide) ?_
      refine lv_aload_n X.1 X.2.1 dX7_state_53 rfl (lv_at hl 0 rfl) ?_
      refine r_get X hH hM.1 (v := .ref (M 7)) (C := RX7) (T := TX7) (N := 19) rfl tin_X7 7 (by decide) tw_850 (fun _ h => h) rfl dX7_state_54 ?_
      refine lv_aload_n X.1 X.2.1 dX7_state_57 rfl (lv_at hl 0 rfl) ?_
      refine r_get X hH hM.1 (v := .int (sc 1)) (C := RX7) (T := TX7) (N := 19) rfl tin_X7 10 (by decide) tw_853 (fun _ h => h) rfl dX7_state_58 ?_
      refine r_eqi (show ((sc 1) : Int32) = nI k from hau.1) ?_
      refine r_iald X hH (hM.2.1 6 (by decide)) (show vp_in ((nI k)) 13 from vp_in_nI (n := k) (by omega) (by decide)) dX7_state_61 ?_
      refine r_eqi (show (((ar 6) (nI k).toNatClampNeg) : Int32) = cs k 2 from by rw [nI_clamp (by omega)]; exact (hau.2.2.2.2 k (by omega)).1) ?_
      exact ro_i X hr hlk (by show (_ : Int32) = _; unfold fState; rw [if_neg sw_1_0, if_pos sw_1_1]) dX7_state_62
    · skip
      refine (Decidable.em ((a : Int32) = 2)).elim (fun sw_1_2 => ?_) (fun sw_1_2 => ?_)
      · refine r_eqi sw_1_2 ?_
        refine lv_tableIn (off := 62) (tgt := 63) X.1 X.2.1 dX7_state_1 (by decide) (by decide) (by decide) (by decide) ?_
        refine lv_aload_n X.1 X.2.1 dX7_state_63 rfl (lv_at hl 0 rfl) ?_
        refine r_get X hH hM.1 (v := .ref (M 9)) (C := RX7) (T := TX7) (N := 19) rfl tin_X7 9 (by decide) tw_852 (fun _ h => h) rfl dX7_state_64 ?_
        refine lv_aload_n X.1 X.2.1 dX7_state_67 rfl (lv_at hl 0 rfl) ?_
        refine r_get X hH hM.1 (v := .int (sc 1)) (C := RX7) (T := TX7) (N := 19) rfl tin_X7 10 (by decide) tw_853 (fun _ h => h) rfl dX7_state_68 ?_
        refine r_eqi (show ((sc 1) : Int32) = nI k from hau.1) ?_
        refine r_iald X hH (hM.2.1 8 (by decide)) (show vp_in ((nI k)) 13 from vp_in_nI (n := k) (by omega) (by decide)) dX7_state_71 ?_
        refine r_eqi (show (((ar 8) (nI k).toNatClampNeg) : Int32) = cs k 4 from by rw [nI_clamp (by omega)]; exact (hau.2.2.2.2 k (by omega)).2.2) ?_
        exact ro_i X hr hlk (by show (_ : Int32) = _; unfold fState; rw [if_neg sw_1_0, if_neg sw_1_1, if_pos sw_1_2]) dX7_state_72
      · skip
        refine (Decidable.em ((a : Int32) = 3)).elim (fun sw_1_3 => ?_) (fun sw_1_3 => ?_)
        · refine r_eqi sw_1_3 ?_
          refine lv_tableIn (off := 72) (tgt := 73) X.1 X.2.1 dX7_state_1 (by decide) (by decide) (by decide) (by decide) ?_
          refine lv_aload_n X.1 X.2.1 dX7_state_73 rfl (lv_at hl 0 rfl) ?_
          refine r_get X hH hM.1 (v := .ref (M 8)) (C := RX7) (T := TX7) (N := 19) rfl tin_X7 8 (by decide) tw_851 (fun _ h => h) rfl dX7_state_74 ?_
          refine lv_aload_n X.1 X.2.1 dX7_state_77 rfl (lv_at hl 0 rfl) ?_
          refine r_get X hH hM.1 (v := .int (sc 1)) (C := RX7) (T := TX7) (N := 19) rfl tin_X7 10 (by decide) tw_853 (fun _ h => h) rfl dX7_state_78 ?_
          refine r_eqi (show ((sc 1) : Int32) = nI k from hau.1) ?_
          refine r_iald X hH (hM.2.1 7 (by decide)) (show vp_in ((nI k)) 13 from vp_in_nI (n := k) (by omega) (by decide)) dX7_state_81 ?_
          refine r_eqi (show (((ar 7) (nI k).toNatClampNeg) : Int32) = cs k 3 from by rw [nI_clamp (by omega)]; exact (hau.2.2.2.2 k (by omega)).2.1) ?_
          exact ro_i X hr hlk (by show (_ : Int32) = _; unfold fState; rw [if_neg sw_1_0, if_neg sw_1_1, if_neg sw_1_2, if_pos sw_1_3]) dX7_state_82
        · skip
          refine (Decidable.em ((a : Int32) = 4)).elim (fun sw_1_4 => ?_) (fun sw_1_4 => ?_)
          · refine r_eqi sw_1_4 ?_
            refine lv_tableIn (off := 82) (tgt := 83) X.1 X.2.1 dX7_state_1 (by decide) (by decide) (by decide) (by decide) ?_
            refine lv_aload_n X.1 X.2.1 dX7_state_83 rfl (lv_at hl 0 rfl) ?_
            refine r_get X hH hM.1 (v := .int (sc 1)) (C := RX7) (T := TX7) (N := 19) rfl tin_X7 10 (by decide) tw_853 (fun _ h => h) rfl dX7_state_84 ?_
            refine r_eqi (show ((sc 1) : Int32) = nI k from hau.1) ?_
            refine lv_iconst (v := 2) X.1 X.2.1 dX7_state_87 (by decide) ?_
            refine lv_irem X.1 X.2.1 dX7_state_88 (by decide) ?_
            refine r_eqi (show (((nI k) - (nI k) / 2 * 2) : Int32) = nI (k % 2) from pk_rem (a := k) (d := 2) (by omega) (by omega) (by omega)) ?_
            exact ro_i X hr hlk (by show (_ : Int32) = _; unfold fState; rw [if_neg sw_1_0, if_neg sw_1_1, if_neg sw_1_2, if_neg sw_1_3, if_pos sw_1_4]) dX7_state_89
          · skip
            refine (Decidable.em ((a : Int32) = 5)).elim (fun sw_1_5 => ?_) (fun sw_1_5 => ?_)
            · refine r_eqi sw_1_5 ?_
              refine lv_tableIn (off := 89) (tgt := 90) X.1 X.2.1 dX7_state_1 (by decide) (by decide) (by decide) (by decide) ?_
              refine lv_aload_n X.1 X.2.1 dX7_state_90 rfl (lv_at hl 0 rfl) ?_
              refine r_get X hH hM.1 (v := .int (sc 2)) (C := RX7) (T := TX7) (N := 19) rfl tin_X7 11 (by decide) tw_854 (fun _ h => h) rfl dX7_state_91 ?_
              refine r_eqi (show ((sc 2) : Int32) = bI sk from hau.2.2.1) ?_
              refine lv_if_eq (tgt := 101) X.1 X.2.1 dX7_state_94 (by decide) (fun c_94 => ?_) (fun c_94 => ?_)
              · refine lv_aload_n X.1 X.2.1 dX7_state_101 rfl (lv_at hl 0 rfl) ?_
                refine on_Si (run_V (C := RX7) (As := []) (rest := []) X (c_X7_isOver l G hp M sc ar sm hM k cs sk hau ) (rp_blind _) (rp_at X hH hS) (recv X hH hM.1 (C := RX7) (T := TX7) (N := 19) rfl) mf_X7_isOver tw_1002 tw_1004 tw_38 ⟨rfl, rfl, Nat.le_of_ble_eq_true rfl, Nat.le_of_ble_eq_true rfl⟩ hl.1 rfl rfl (Nat.le_of_ble_eq_true rfl) ⟨Nat.le_of_ble_eq_true rfl, Nat.le_of_ble_eq_true rfl⟩ dX7_state_102) (fun r_102 q_102 => ?_)
                obtain rfl : r_102 = (bI (ovB k cs sk)) := q_102
                refine lv_if_eq (tgt := 112) X.1 X.2.1 dX7_state_105 (by decide) (fun c_105 => ?_) (fun c_105 => ?_)
                · refine lv_iconst (v := 0) X.1 X.2.1 dX7_state_112 (by decide) ?_
                  exact ro_i X hr hlk (by show (_ : Int32) = _; unfold fState; rw [if_neg sw_1_0, if_neg sw_1_1, if_neg sw_1_2, if_neg sw_1_3, if_neg sw_1_4, if_pos sw_1_5, if_neg (fun q => Bool.false_ne_true ((bI_0 c_94).symm.trans q)), bI_0 c_105]; rfl) dX7_state_113
                · refine lv_iconst (v := 1) X.1 X.2.1 dX7_state_108 (by decide) ?_
                  refine lv_goto (tgt := 113) X.1 X.2.1 dX7_state_109 (by decide) ?_
                  exact ro_i X hr hlk (by show (_ : Int32) = _; unfold fState; rw [if_neg sw_1_0, if_neg sw_1_1, if_neg sw_1_2, if_neg sw_1_3, if_neg sw_1_4, if_pos sw_1_5, if_neg (fun q => Bool.false_ne_true ((bI_0 c_94).symm.trans q)), bI_1 c_105]; rfl) dX7_state_113
              · refine lv_iconst (v := 2) X.1 X.2.1 dX7_state_97 (by decide) ?_
                refine lv_goto (tgt := 113) X.1 X.2.1 dX7_state_98 (by decide) ?_
                exact ro_i X hr hlk (by show (_ : Int32) = _; unfold fState; rw [if_neg sw_1_0, if_neg sw_1_1, if_neg sw_1_2, if_neg sw_1_3, if_neg sw_1_4, if_pos sw_1_5, if_pos (bI_1 c_94)]) dX7_state_113
            · skip
              refine (Decidable.em ((a : Int32) = 6)).elim (fun sw_1_6 => ?_) (fun sw_1_6 => ?_)
              · refine r_eqi sw_1_6 ?_
                refine lv_tableIn (off := 113) (tgt := 114) X.1 X.2.1 dX7_state_1 (by decide) (by decide) (by decide) (by decide) ?_
                refine lv_aload_n X.1 X.2.1 dX7_state_114 rfl (lv_at hl 0 rfl) ?_
                refine r_get X hH hM.1 (v := .int (sc 0)) (C := RX7) (T := TX7) (N := 19) rfl tin_X7 1 (by decide) tw_844 (fun _ h => h) rfl dX7_state_115 ?_
                refine r_eqi (show ((sc 0) : Int32) = nI n from hU.1) ?_
                exact ro_i X hr hlk (by show (_ : Int32) = _; unfold fState; rw [if_neg sw_1_0, if_neg sw_1_1, if_neg sw_1_2, if_neg sw_1_3, if_neg sw_1_4, if_neg sw_1_5, if_pos sw_1_6]) dX7_state_118
              · skip
                refine (Decidable.em ((a : Int32) = 7)).elim (fun sw_1_7 => ?_) (fun sw_1_7 => ?_)
                · refine r_eqi sw_1_7 ?_
                  refine lv_tableIn (off := 118) (tgt := 119) X.1 X.2.1 dX7_state_1 (by decide) (by decide) (by decide) (by decide) ?_
                  refine lv_aload_n X.1 X.2.1 dX7_state_119 rfl (lv_at hl 0 rfl) ?_
                  refine r_get X hH hM.1 (v := .int (sc 3)) (C := RX7) (T := TX7) (N := 19) rfl tin_X7 13 (by decide) tw_856 (fun _ h => h) rfl dX7_state_120 ?_
                  refine r_eqi (show ((sc 3) : Int32) = nI pn from hP.1) ?_
                  exact ro_i X hr hlk (by show (_ : Int32) = _; unfold fState; rw [if_neg sw_1_0, if_neg sw_1_1, if_neg sw_1_2, if_neg sw_1_3, if_neg sw_1_4, if_neg sw_1_5, if_neg sw_1_6, if_pos sw_1_7]) dX7_state_123
                · skip
                  have sn_1_0 := lv_neT sw_1_0 (k := 0) (a := 0) (by decide)
                  have sn_1_1 := lv_neT sw_1_1 (k := 1) (a := 1) (by decide)
                  have sn_1_2 := lv_neT sw_1_2 (k := 2) (a := 2) (by decide)
                  have sn_1_3 := lv_neT sw_1_3 (k := 3) (a := 3) (by decide)
                  have sn_1_4 := lv_neT sw_1_4 (k := 4) (a := 4) (by decide)
                  have sn_1_5 := lv_neT sw_1_5 (k := 5) (a := 5) (by decide)
                  have sn_1_6 := lv_neT sw_1_6 (k := 6) (a := 6) (by decide)
                  have sn_1_7 := lv_neT sw_1_7 (k := 7) (a := 7) (by decide)
                  refine lv_tableOut (tgt := 124) X.1 X.2.1 dX7_state_1 (by omega) (by decide) ?_
                  refine lv_bipush (v := (-2)) X.1 X.2.1 dX7_state_124 (by decide) ?_
                  exact ro_i X hr hlk (by show (_ : Int32) = _; unfold fState; rw [if_neg sw_1_0, if_neg sw_1_1, if_neg sw_1_2, if_neg sw_1_3, if_neg sw_1_4, if_neg sw_1_5, if_neg sw_1_6, if_neg sw_1_7]) dX7_state_126

set_option maxHeartbeats 4000000 in
set_option maxRecDepth 100000 in
theorem c_X7_shownOf (l : Launch) (G : HG) (hp : HP) (M : Nat → Nat) (sc : Nat → Int32) (ar : Nat → Nat → Int32) (sm : Nat → Int64) (hM : MR G hp M sc ar sm) (hT : MT ar) (h w9 : Nat) (hh : h ≤ 1048575) (hw : w9 < 12) : Met l yX7_shownOf [.code yX7_shownOf cX7_shownOf 3 (some .int)] { frames := 1, cells := 0, slots := 0, locals := 23 } (va_Pc [.ref (M 0), .int (nI h), .int (nI w9)] (RP G hp)) (vp_Si (fun r => r = nI (snN h w9))) 0 0 (fun _ => False) := by
  refine ro_ofW (by decide) (Nat.le_of_ble_eq_true rfl) ?_
  intro p e s m args below meth c ls X hr hlk hH hl
  have hS : va_S (fun _ => False) s.heap s.heap [] := va_S.rf
  have hl : lv_has ls 3 [(0, .ref (M 0)), (1, .int (nI h)), (2, .int (nI w9))] := hl
  refine lv_iload_n X.1 X.2.1 dX7_shownOf_0 rfl (lv_at hl 2 rfl) ?_
  refine lv_bipush (v := 8) X.1 X.2.1 dX7_shownOf_1 (by decide) ?_
  refine lv_icmp_ge (tgt := 17) X.1 X.2.1 dX7_shownOf_3 (by decide) (fun c_3 => ?_) (fun c_3 => ?_)
  · have k_3 := k_le (a := 8) (b := w9) (by omega) (by omega) c_3
    refine lv_iload_n X.1 X.2.1 dX7_shownOf_17 rfl (lv_at hl 2 rfl) ?_
    refine lv_bipush (v := 10) X.1 X.2.1 dX7_shownOf_18 (by decide) ?_
    refine lv_icmp_ge (tgt := 31) X.1 X.2.1 dX7_shownOf_20 (by decide) (fun c_20 => ?_) (fun c_20 => ?_)
    · have k_20 := k_le (a := 10) (b := w9) (by omega) (by omega) c_20
      refine lv_iload_n X.1 X.2.1 dX7_shownOf_31 rfl (lv_at hl 1 rfl) ?_
      exact ro_i X hr hlk (by show nI _ = nI _; refine congrArg nI ?_; unfold snN; rw [if_pos (show 10 ≤ w9 by omega)]) dX7_shownOf_32
    · have k_20 := k_nle (a := 10) (b := w9) (by omega) (by omega) c_20
      refine lv_aload_n X.1 X.2.1 dX7_shownOf_23 rfl (lv_at hl 0 rfl) ?_
      refine lv_iload_n X.1 X.2.1 dX7_shownOf_24 rfl (lv_at hl 1 rfl) ?_
      refine on_Si (run_V (C := RX7) (As := [.int (nI h)]) (rest := []) X (c_X7_strength l G hp M sc ar sm hM hT h (by omega)) (rp_blind _) (rp_at X hH hS) (recv X hH hM.1 (C := RX7) (T := TX7) (N := 19) rfl) mf_X7_strength tw_939 tw_941 tw_33 ⟨rfl, rfl, Nat.le_of_ble_eq_true rfl, Nat.le_of_ble_eq_true rfl⟩ hl.1 rfl rfl (Nat.le_of_ble_eq_true rfl) ⟨Nat.le_of_ble_eq_true rfl, Nat.le_of_ble_eq_true rfl⟩ dX7_shownOf_25) (fun r_25 q_25 => ?_)
      obtain rfl : r_25 = (nI (strH h)) := q_25
      refine lv_goto (tgt := 32) X.1 X.2.1 dX7_shownOf_28 (by decide) ?_
      exact ro_i X hr hlk (by show nI _ = nI _; refine congrArg nI ?_; unfold snN; rw [if_neg (show ¬ 10 ≤ w9 by omega)]; unfold measN; rw [if_pos (show w9 / 2 = 4 by omega)]) dX7_shownOf_32
  · have k_3 := k_nle (a := 8) (b := w9) (by omega) (by omega) c_3
    refine lv_aload_n X.1 X.2.1 dX7_shownOf_6 rfl (lv_at hl 0 rfl) ?_
    refine lv_iload_n X.1 X.2.1 dX7_shownOf_7 rfl (lv_at hl 1 rfl) ?_
    refine lv_iload_n X.1 X.2.1 dX7_shownOf_8 rfl (lv_at hl 2 rfl) ?_
    refine lv_iconst (v := 2) X.1 X.2.1 dX7_shownOf_9 (by decide) ?_
    refine lv_idiv X.1 X.2.1 dX7_shownOf_10 (by decide) ?_
    refine r_eqi (show (((nI w9) / 2) : Int32) = nI (w9 / 2) from pk_div (a := w9) (d := 2) (by omega) (by omega) (by omega)) ?_
    refine on_Si (run_V (C := RX7) (As := [.int (nI h), .int (nI (w9 / 2))]) (rest := []) X (c_X7_length l G hp M sc ar sm hM hT h (w9 / 2) (by omega) (by omega)) (rp_blind _) (rp_at X hH hS) (recv X hH hM.1 (C := RX7) (T := TX7) (N := 19) rfl) mf_X7_length tw_943 tw_945 tw_34 ⟨rfl, rfl, Nat.le_of_ble_eq_true rfl, Nat.le_of_ble_eq_true rfl⟩ hl.1 rfl rfl (Nat.le_of_ble_eq_true rfl) ⟨Nat.le_of_ble_eq_true rfl, Nat.le_of_ble_eq_true rfl⟩ dX7_shownOf_11) (fun r_11 q_11 => ?_)
    obtain rfl : r_11 = (nI (lenH h (w9 / 2))) := q_11
    refine lv_goto (tgt := 32) X.1 X.2.1 dX7_shownOf_14 (by decide) ?_
    exact ro_i X hr hlk (by show nI _ = nI _; refine congrArg nI ?_; unfold snN; rw [if_neg (show ¬ 10 ≤ w9 by omega)]; unfold measN; rw [if_neg (show ¬ w9 / 2 = 4 by omega)]) dX7_shownOf_32

set_option maxHeartbeats 4000000 in
set_option maxRecDepth 100000 in
theorem c_X7_shown (l : Launch) (G : HG) (hp : HP) (M : Nat → Nat) (sc : Nat → Int32) (ar : Nat → Nat → Int32) (sm : Nat → Int64) (hM : MR G hp M sc ar sm) (hT : MT ar) (n : Nat) (R : Nat → Nat → Nat) (hU : MU n R sc ar) (k : Nat) (cs : Nat → Nat → Int32) (sk : Bool) (hau : MAu k cs sk sc ar) (a b d : Int32) : Met l yX7_shown [.code yX7_shown cX7_shown 7 (some .int)] { frames := 4, cells := 0, slots := 0, locals := 96 } (va_Pc [.ref (M 0), .int a, .int b, .int d] (RP G hp)) (vp_Si (fun r => r = fShown n R k cs sk a b d)) 0 0 (fun _ => False) := by
  refine ro_ofW (by decide) (Nat.le_of_ble_eq_true rfl) ?_
  intro p e s m args below meth c ls X hr hlk hH hl
  have hS : va_S (fun _ => False) s.heap s.heap [] := va_S.rf
  have hl : lv_has ls 7 [(0, .ref (M 0)), (1, .int a), (2, .int b), (3, .int d)] := hl
  have hn := hU.2.1
  refine lv_iload_n X.1 X.2.1 dX7_shown_0 rfl (lv_at hl 1 rfl) ?_
  refine on_Si (run_S (As := [.int a]) (rest := []) X (c_X7_isPartner l G hp a) (rp_blind _) (rp_at X hH hS) mf_X7_isPartner tw_970 tw_971 ⟨rfl, rfl, Nat.le_of_ble_eq_true rfl, Nat.le_of_ble_eq_true rfl⟩ hl.1 rfl rfl (Nat.le_of_ble_eq_true rfl) ⟨Nat.le_of_ble_eq_true rfl, Nat.le_of_ble_eq_true rfl⟩ dX7_shown_1) (fun r_1 q_1 => ?_)
  obtain rfl : r_1 = (inI a 0 1) := q_1
  refine lv_if_ne (tgt := 9) X.1 X.2.1 dX7_shown_4 (by decide) (fun c_4 => ?_) (fun c_4 => ?_)
  · obtain ⟨xa, hxa, rfl⟩ := inI_nat (hi := 1) c_4 (by decide)
    refine lv_iload_n X.1 X.2.1 dX7_shown_9 rfl (lv_at hl 2 rfl) ?_
    refine lv_iconst (v := 0) X.1 X.2.1 dX7_shown_10 (by decide) ?_
    refine r_const X tw_934 dX7_shown_11 ?_
    refine on_Si (run_S (As := [.int b, .int 0, .int 1048575]) (rest := []) X (c_X7_in l G hp b 0 1048575) (rp_blind _) (rp_at X hH hS) mf_X7_in tw_907 tw_908 ⟨rfl, rfl, Nat.le_of_ble_eq_true rfl, Nat.le_of_ble_eq_true rfl⟩ hl.1 rfl rfl (Nat.le_of_ble_eq_true rfl) ⟨Nat.le_of_ble_eq_true rfl, Nat.le_of_ble_eq_true rfl⟩ dX7_shown_13) (fun r_13 q_13 => ?_)
    obtain rfl : r_13 = (inI b 0 1048575) := q_13
    refine lv_if_eq (tgt := 29) X.1 X.2.1 dX7_shown_16 (by decide) (fun c_16 => ?_) (fun c_16 => ?_)
    · refine lv_bipush (v := (-2)) X.1 X.2.1 dX7_shown_29 (by decide) ?_
      exact ro_i X hr hlk (by show (_ : Int32) = _; unfold fShown; rw [if_neg c_4, if_pos (Or.inl c_16)]) dX7_shown_31
    · obtain ⟨xb, hxb, rfl⟩ := inI_nat (hi := 1048575) c_16 (by decide)
      refine lv_iload_n X.1 X.2.1 dX7_shown_19 rfl (lv_at hl 3 rfl) ?_
      refine lv_iconst (v := 0) X.1 X.2.1 dX7_shown_20 (by decide) ?_
      refine lv_bipush (v := 11) X.1 X.2.1 dX7_shown_21 (by decide) ?_
      refine on_Si (run_S (As := [.int d, .int 0, .int 11]) (rest := []) X (c_X7_in l G hp d 0 11) (rp_blind _) (rp_at X hH hS) mf_X7_in tw_907 tw_908 ⟨rfl, rfl, Nat.le_of_ble_eq_true rfl, Nat.le_of_ble_eq_true rfl⟩ hl.1 rfl rfl (Nat.le_of_ble_eq_true rfl) ⟨Nat.le_of_ble_eq_true rfl, Nat.le_of_ble_eq_true rfl⟩ dX7_shown_23) (fun r_23 q_23 => ?_)
      obtain rfl : r_23 = (inI d 0 11) := q_23
      refine lv_if_ne (tgt := 32) X.1 X.2.1 dX7_shown_26 (by decide) (fun c_26 => ?_) (fun c_26 => ?_)
      · obtain ⟨xd, hxd, rfl⟩ := inI_nat (hi := 11) c_26 (by decide)
        refine lv_iconst (v := 0) X.1 X.2.1 dX7_shown_32 (by decide) ?_
        refine lv_istore (lv' := [(4, .int 0), (0, .ref (M 0)), (1, .int (nI xa)), (2, .int (nI xb)), (3, .int (nI xd))]) X.1 X.2.1 dX7_shown_33 hl (by decide) rfl (fun ls hl => ?_)
        refine lv_iconst (v := 0) X.1 X.2.1 dX7_shown_35 (by decide) ?_
        refine lv_istore (lv' := [(5, .int 0), (4, .int 0), (0, .ref (M 0)), (1, .int (nI xa)), (2, .int (nI xb)), (3, .int (nI xd))]) X.1 X.2.1 dX7_shown_36 hl (by decide) rfl (fun ls hl => ?_)
        refine lv_bipush (v := 31) X.1 X.2.1 dX7_shown_38 (by decide) ?_
        refine lv_istore (lv' := [(6, .int 31), (5, .int 0), (4, .int 0), (0, .ref (M 0)), (1, .int (nI xa)), (2, .int (nI xb)), (3, .int (nI xd))]) X.1 X.2.1 dX7_shown_40 hl (by decide) rfl (fun ls hl => ?_)
        have L42 : ∀ (f : Nat) (i : Nat), i + f = 15504 → ∀ ls, lv_has ls 7 [(0, .ref (M 0)), (1, .int (nI xa)), (2, .int (nI xb)), (3, .int (nI xd)), (4, .int (bI (shF (hidB n R k cs sk xa xb) xd i).1)), (5, .int (nI ((shF (hidB n R k cs sk xa xb) xd i).2))), (6, .int (nI (HL i)))] → W p l e ({ frames := 4, cells := 0, slots := 0, locals := 96 } : Room) s m args below meth c s.heap [] 0 0 (MQ below (vp_Si (fun r => r = fShown n R k cs sk (nI xa) (nI xb) (nI xd))) args s 0 0 (fun _ => False)) (F0 m 42 ls []) := by
          intro f
          induction f with
          | zero =>
            intro i h0 ls hl
            refine lv_iload X.1 X.2.1 dX7_shown_42 (lv_at hl 6 rfl) ?_
            refine r_const X tw_934 dX7_shown_44 ?_
            refine lv_icmp_gt (tgt := 109) X.1 X.2.1 dX7_shown_46 (by decide) (fun c_46 => ?_) (fun c_46 => absurd (hl_out (i := i) (by omega)) c_46)
            refine lv_iload X.1 X.2.1 dX7_shown_109 (lv_at hl 4 rfl) ?_
            refine lv_if_eq (tgt := 119) X.1 X.2.1 dX7_shown_111 (by decide) (fun c_111 => ?_) (fun c_111 => ?_)
            · refine lv_bipush (v := (-6)) X.1 X.2.1 dX7_shown_119 (by decide) ?_
              have hi9 : i = 15504 := by omega
              exact ro_i X hr hlk (by show (_ : Int32) = _; unfold fShown; rw [if_neg c_4, if_neg (fun q => Or.elim q c_16 c_26), tn_n (by omega), tn_n (by omega), tn_n (by omega), ← hi9, if_neg (fun q => Bool.false_ne_true ((bI_0 c_111).symm.trans q))]) dX7_shown_121
            · refine lv_iload X.1 X.2.1 dX7_shown_114 (lv_at hl 5 rfl) ?_
              refine lv_goto (tgt := 121) X.1 X.2.1 dX7_shown_116 (by decide) ?_
              have hi9 : i = 15504 := by omega
              exact ro_i X hr hlk (by show (_ : Int32) = _; unfold fShown; rw [if_neg c_4, if_neg (fun q => Or.elim q c_16 c_26), tn_n (by omega), tn_n (by omega), tn_n (by omega), ← hi9, if_pos (bI_1 c_111)]) dX7_shown_121
          | succ f ih =>
            intro i h0 ls hl
            have hlt : i < 15504 := by omega
            obtain ⟨hk1, hk2, hk3, hk4, hk5, hk6, hk7⟩ := HL_ok hlt
            have hsl := shF_le (hidB n R k cs sk xa xb) xd i (by omega)
            have hsn := @snN_le (HL i) xd hk2
            refine lv_iload X.1 X.2.1 dX7_shown_42 (lv_at hl 6 rfl) ?_
            refine r_const X tw_934 dX7_shown_44 ?_
            refine lv_icmp_gt (tgt := 109) X.1 X.2.1 dX7_shown_46 (by decide) (fun c_46 => absurd c_46 (hl_inn (i := i) (by omega))) (fun c_46 => ?_)
            refine lv_iload X.1 X.2.1 dX7_shown_49 (lv_at hl 6 rfl) ?_
            refine lv_iload_n X.1 X.2.1 dX7_shown_51 rfl (lv_at hl 2 rfl) ?_
            refine lv_iand X.1 X.2.1 dX7_shown_52 ?_
            refine r_eqi (show (((nI (HL i)) &&& (nI xb)) : Int32) = nI ((HL i) &&& xb) from n_and (HL i) xb) ?_
            have hab : HL i &&& xb ≤ HL i := Nat.and_le_left
            refine lv_if_ne (tgt := 99) X.1 X.2.1 dX7_shown_53 (by decide) (fun c_53 => ?_) (fun c_53 => ?_)
            · have k_53 := k_ne (a := ((HL i) &&& xb)) (b := 0) (by omega) (by omega) c_53
              have hy : ¬ hidB n R k cs sk xa xb (HL i) = true := by unfold hidB; rw [decide_eq_false k_53]; exact Bool.false_ne_true
              refine lv_iload X.1 X.2.1 dX7_shown_99 (lv_at hl 6 rfl) ?_
              refine on_Si (run_S (As := [.int (nI (HL i))]) (rest := []) X (c_X7_nextHand l G hp (HL i) hk7 hk2) (rp_blind _) (rp_at X hH hS) mf_X7_nextHand tw_947 tw_948 ⟨rfl, rfl, Nat.le_of_ble_eq_true rfl, Nat.le_of_ble_eq_true rfl⟩ hl.1 rfl rfl (Nat.le_of_ble_eq_true rfl) ⟨Nat.le_of_ble_eq_true rfl, Nat.le_of_ble_eq_true rfl⟩ dX7_shown_101) (fun r_101 q_101 => ?_)
              obtain rfl : r_101 = (nI (nhN (HL i))) := q_101
              refine r_eqi (show nI (nhN (HL i)) = nI (HL (i + 1)) from rfl) ?_
              refine lv_istore (lv' := [(6, .int (nI (HL (i + 1)))), (0, .ref (M 0)), (1, .int (nI xa)), (2, .int (nI xb)), (3, .int (nI xd)), (4, .int (bI (shF (hidB n R k cs sk xa xb) xd i).1)), (5, .int (nI ((shF (hidB n R k cs sk xa xb) xd i).2)))]) X.1 X.2.1 dX7_shown_104 hl (by decide) rfl (fun ls hl => ?_)
              refine lv_goto (tgt := 42) X.1 X.2.1 dX7_shown_106 (by decide) ?_
              exact ih (i + 1) (by omega) ls (by rw [show shF (hidB n R k cs sk xa xb) xd (i + 1) = shF (hidB n R k cs sk xa xb) xd i from if_neg hy]; exact (lv_sub hl [1, 2, 3, 4, 5, 6, 0] rfl))
            · have k_53 := k_eq (a := ((HL i) &&& xb)) (b := 0) (by omega) (by omega) c_53
              refine lv_aload_n X.1 X.2.1 dX7_shown_56 rfl (lv_at hl 0 rfl) ?_
              refine lv_iload_n X.1 X.2.1 dX7_shown_57 rfl (lv_at hl 1 rfl) ?_
              refine lv_iload X.1 X.2.1 dX7_shown_58 (lv_at hl 6 rfl) ?_
              refine on_Si (run_V (C := RX7) (As := [.int (nI xa), .int (nI (HL i))]) (rest := []) X (c_X7_fitsAuction l G hp M sc ar sm hM hT n R hU k cs sk hau xa (HL i) (by omega) (by omega)) (rp_blind _) (rp_at X hH hS) (recv X hH hM.1 (C := RX7) (T := TX7) (N := 19) rfl) mf_X7_fitsAuction tw_1038 tw_1040 tw_42 ⟨rfl, rfl, Nat.le_of_ble_eq_true rfl, Nat.le_of_ble_eq_true rfl⟩ hl.1 rfl rfl (Nat.le_of_ble_eq_true rfl) ⟨Nat.le_of_ble_eq_true rfl, Nat.le_of_ble_eq_true rfl⟩ dX7_shown_60) (fun r_60 q_60 => ?_)
              obtain rfl : r_60 = (bI (faB n R k cs sk xa (HL i))) := q_60
              refine lv_if_eq (tgt := 99) X.1 X.2.1 dX7_shown_63 (by decide) (fun c_63 => ?_) (fun c_63 => ?_)
              · have hy : ¬ hidB n R k cs sk xa xb (HL i) = true := by unfold hidB; rw [decide_eq_true k_53, bI_0 c_63]; exact Bool.false_ne_true
                refine lv_iload X.1 X.2.1 dX7_shown_99 (lv_at hl 6 rfl) ?_
                refine on_Si (run_S (As := [.int (nI (HL i))]) (rest := []) X (c_X7_nextHand l G hp (HL i) hk7 hk2) (rp_blind _) (rp_at X hH hS) mf_X7_nextHand tw_947 tw_948 ⟨rfl, rfl, Nat.le_of_ble_eq_true rfl, Nat.le_of_ble_eq_true rfl⟩ hl.1 rfl rfl (Nat.le_of_ble_eq_true rfl) ⟨Nat.le_of_ble_eq_true rfl, Nat.le_of_ble_eq_true rfl⟩ dX7_shown_101) (fun r_101 q_101 => ?_)
                obtain rfl : r_101 = (nI (nhN (HL i))) := q_101
                refine r_eqi (show nI (nhN (HL i)) = nI (HL (i + 1)) from rfl) ?_
                refine lv_istore (lv' := [(6, .int (nI (HL (i + 1)))), (0, .ref (M 0)), (1, .int (nI xa)), (2, .int (nI xb)), (3, .int (nI xd)), (4, .int (bI (shF (hidB n R k cs sk xa xb) xd i).1)), (5, .int (nI ((shF (hidB n R k cs sk xa xb) xd i).2)))]) X.1 X.2.1 dX7_shown_104 hl (by decide) rfl (fun ls hl => ?_)
                refine lv_goto (tgt := 42) X.1 X.2.1 dX7_shown_106 (by decide) ?_
                exact ih (i + 1) (by omega) ls (by rw [show shF (hidB n R k cs sk xa xb) xd (i + 1) = shF (hidB n R k cs sk xa xb) xd i from if_neg hy]; exact (lv_sub hl [1, 2, 3, 4, 5, 6, 0] rfl))
              · have hy : hidB n R k cs sk xa xb (HL i) = true := by unfold hidB; rw [decide_eq_true k_53, bI_1 c_63]; rfl
                refine lv_iload X.1 X.2.1 dX7_shown_66 (lv_at hl 4 rfl) ?_
                refine lv_if_eq (tgt := 87) X.1 X.2.1 dX7_shown_68 (by decide) (fun c_68 => ?_) (fun c_68 => ?_)
                · refine lv_aload_n X.1 X.2.1 dX7_shown_87 rfl (lv_at hl 0 rfl) ?_
                  refine lv_iload X.1 X.2.1 dX7_shown_88 (lv_at hl 6 rfl) ?_
                  refine lv_iload_n X.1 X.2.1 dX7_shown_90 rfl (lv_at hl 3 rfl) ?_
                  refine on_Si (run_V (C := RX7) (As := [.int (nI (HL i)), .int (nI xd)]) (rest := []) X (c_X7_shownOf l G hp M sc ar sm hM hT (HL i) xd (by omega) (by omega)) (rp_blind _) (rp_at X hH hS) (recv X hH hM.1 (C := RX7) (T := TX7) (N := 19) rfl) mf_X7_shownOf tw_1046 tw_1048 tw_43 ⟨rfl, rfl, Nat.le_of_ble_eq_true rfl, Nat.le_of_ble_eq_true rfl⟩ hl.1 rfl rfl (Nat.le_of_ble_eq_true rfl) ⟨Nat.le_of_ble_eq_true rfl, Nat.le_of_ble_eq_true rfl⟩ dX7_shown_91) (fun r_91 q_91 => ?_)
                  obtain rfl : r_91 = (nI (snN (HL i) xd)) := q_91
                  refine lv_istore (lv' := [(5, .int (nI (snN (HL i) xd))), (0, .ref (M 0)), (1, .int (nI xa)), (2, .int (nI xb)), (3, .int (nI xd)), (4, .int (bI (shF (hidB n R k cs sk xa xb) xd i).1)), (6, .int (nI (HL i)))]) X.1 X.2.1 dX7_shown_94 hl (by decide) rfl (fun ls hl => ?_)
                  refine lv_iconst (v := 1) X.1 X.2.1 dX7_shown_96 (by decide) ?_
                  refine lv_istore (lv' := [(4, .int 1), (5, .int (nI (snN (HL i) xd))), (0, .ref (M 0)), (1, .int (nI xa)), (2, .int (nI xb)), (3, .int (nI xd)), (6, .int (nI (HL i)))]) X.1 X.2.1 dX7_shown_97 hl (by decide) rfl (fun ls hl => ?_)
                  refine lv_iload X.1 X.2.1 dX7_shown_99 (lv_at hl 6 rfl) ?_
                  refine on_Si (run_S (As := [.int (nI (HL i))]) (rest := []) X (c_X7_nextHand l G hp (HL i) hk7 hk2) (rp_blind _) (rp_at X hH hS) mf_X7_nextHand tw_947 tw_948 ⟨rfl, rfl, Nat.le_of_ble_eq_true rfl, Nat.le_of_ble_eq_true rfl⟩ hl.1 rfl rfl (Nat.le_of_ble_eq_true rfl) ⟨Nat.le_of_ble_eq_true rfl, Nat.le_of_ble_eq_true rfl⟩ dX7_shown_101) (fun r_101 q_101 => ?_)
                  obtain rfl : r_101 = (nI (nhN (HL i))) := q_101
                  refine r_eqi (show nI (nhN (HL i)) = nI (HL (i + 1)) from rfl) ?_
                  refine lv_istore (lv' := [(6, .int (nI (HL (i + 1)))), (4, .int 1), (5, .int (nI (snN (HL i) xd))), (0, .ref (M 0)), (1, .int (nI xa)), (2, .int (nI xb)), (3, .int (nI xd))]) X.1 X.2.1 dX7_shown_104 hl (by decide) rfl (fun ls hl => ?_)
                  refine lv_goto (tgt := 42) X.1 X.2.1 dX7_shown_106 (by decide) ?_
                  exact ih (i + 1) (by omega) ls (by rw [show shF (hidB n R k cs sk xa xb) xd (i + 1) = (true, snN (HL i) xd) from (if_pos hy).trans (congrArg (Prod.mk true) (if_neg (fun q => Bool.false_ne_true ((bI_0 c_68).symm.trans q))))]; exact (lv_sub hl [3, 4, 5, 6, 1, 2, 0] rfl))
                · refine lv_iload X.1 X.2.1 dX7_shown_71 (lv_at hl 5 rfl) ?_
                  refine lv_aload_n X.1 X.2.1 dX7_shown_73 rfl (lv_at hl 0 rfl) ?_
                  refine lv_iload X.1 X.2.1 dX7_shown_74 (lv_at hl 6 rfl) ?_
                  refine lv_iload_n X.1 X.2.1 dX7_shown_76 rfl (lv_at hl 3 rfl) ?_
                  refine on_Si (run_V (C := RX7) (As := [.int (nI (HL i)), .int (nI xd)]) (rest := [.int (nI ((shF (hidB n R k cs sk xa xb) xd i).2))]) X (c_X7_shownOf l G hp M sc ar sm hM hT (HL i) xd (by omega) (by omega)) (rp_blind _) (rp_at X hH hS) (recv X hH hM.1 (C := RX7) (T := TX7) (N := 19) rfl) mf_X7_shownOf tw_1046 tw_1048 tw_43 ⟨rfl, rfl, Nat.le_of_ble_eq_true rfl, Nat.le_of_ble_eq_true rfl⟩ hl.1 rfl rfl (Nat.le_of_ble_eq_true rfl) ⟨Nat.le_of_ble_eq_true rfl, Nat.le_of_ble_eq_true rfl⟩ dX7_shown_77) (fun r_77 q_77 => ?_)
                  obtain rfl : r_77 = (nI (snN (HL i) xd)) := q_77
                  refine lv_iload_n X.1 X.2.1 dX7_shown_80 rfl (lv_at hl 3 rfl) ?_
                  refine on_Si (run_S (As := [.int (nI ((shF (hidB n R k cs sk xa xb) xd i).2)), .int (nI (snN (HL i) xd)), .int (nI xd)]) (rest := []) X (c_X7_joined l G hp ((shF (hidB n R k cs sk xa xb) xd i).2) (snN (HL i) xd) xd (by omega) (by omega) (by omega)) (rp_blind _) (rp_at X hH hS) mf_X7_joined tw_1050 tw_1051 ⟨rfl, rfl, Nat.le_of_ble_eq_true rfl, Nat.le_of_ble_eq_true rfl⟩ hl.1 rfl rfl (Nat.le_of_ble_eq_true rfl) ⟨Nat.le_of_ble_eq_true rfl, Nat.le_of_ble_eq_true rfl⟩ dX7_shown_81) (fun r_81 q_81 => ?_)
                  obtain rfl : r_81 = (nI (jsN ((shF (hidB n R k cs sk xa xb) xd i).2) (snN (HL i) xd) xd)) := q_81
                  refine lv_goto (tgt := 94) X.1 X.2.1 dX7_shown_84 (by decide) ?_
                  refine lv_istore (lv' := [(5, .int (nI (jsN ((shF (hidB n R k cs sk xa xb) xd i).2) (snN (HL i) xd) xd))), (0, .ref (M 0)), (1, .int (nI xa)), (2, .int (nI xb)), (3, .int (nI xd)), (4, .int (bI (shF (hidB n R k cs sk xa xb) xd i).1)), (6, .int (nI (HL i)))]) X.1 X.2.1 dX7_shown_94 hl (by decide) rfl (fun ls hl => ?_)
                  refine lv_iconst (v := 1) X.1 X.2.1 dX7_shown_96 (by decide) ?_
                  refine lv_istore (lv' := [(4, .int 1), (5, .int (nI (jsN ((shF (hidB n R k cs sk xa xb) xd i).2) (snN (HL i) xd) xd))), (0, .ref (M 0)), (1, .int (nI xa)), (2, .int (nI xb)), (3, .int (nI xd)), (6, .int (nI (HL i)))]) X.1 X.2.1 dX7_shown_97 hl (by decide) rfl (fun ls hl => ?_)
                  refine lv_iload X.1 X.2.1 dX7_shown_99 (lv_at hl 6 rfl) ?_
                  refine on_Si (run_S (As := [.int (nI (HL i))]) (rest := []) X (c_X7_nextHand l G hp (HL i) hk7 hk2) (rp_blind _) (rp_at X hH hS) mf_X7_nextHand tw_947 tw_948 ⟨rfl, rfl, Nat.le_of_ble_eq_true rfl, Nat.le_of_ble_eq_true rfl⟩ hl.1 rfl rfl (Nat.le_of_ble_eq_true rfl) ⟨Nat.le_of_ble_eq_true rfl, Nat.le_of_ble_eq_true rfl⟩ dX7_shown_101) (fun r_101 q_101 => ?_)
                  obtain rfl : r_101 = (nI (nhN (HL i))) := q_101
                  refine r_eqi (show nI (nhN (HL i)) = nI (HL (i + 1)) from rfl) ?_
                  refine lv_istore (lv' := [(6, .int (nI (HL (i + 1)))), (4, .int 1), (5, .int (nI (jsN ((shF (hidB n R k cs sk xa xb) xd i).2) (snN (HL i) xd) xd))), (0, .ref (M 0)), (1, .int (nI xa)), (2, .int (nI xb)), (3, .int (nI xd))]) X.1 X.2.1 dX7_shown_104 hl (by decide) rfl (fun ls hl => ?_)
                  refine lv_goto (tgt := 42) X.1 X.2.1 dX7_shown_106 (by decide) ?_
                  exact ih (i + 1) (by omega) ls (by rw [show shF (hidB n R k cs sk xa xb) xd (i + 1) = (true, jsN (shF (hidB n R k cs sk xa xb) xd i).2 (snN (HL i) xd) xd) from (if_pos hy).trans (congrArg (Prod.mk true) (if_pos (bI_1 c_68)))]; exact (lv_sub hl [3, 4, 5, 6, 1, 2, 0] rfl))
        exact L42 15504 0 rfl ls (lv_sub hl [3, 4, 5, 6, 2, 1, 0] rfl)
      · refine lv_bipush (v := (-2)) X.1 X.2.1 dX7_shown_29 (by decide) ?_
        exact ro_i X hr hlk (by show (_ : Int32) = _; unfold fShown; rw [if_neg c_4, if_pos (Or.inr c_26)]) dX7_shown_31
  · refine lv_iconst (v := (-1)) X.1 X.2.1 dX7_shown_7 (by decide) ?_
    exact ro_i X hr hlk (by show (_ : Int32) = _; unfold fShown; rw [if_pos c_4]) dX7_shown_8

theorem pc5_0 {x : Nat} (h : x < 32) : pc5 x = 0 ↔ x = 0 := by
  have k : ∀ x, x < 32 → (pc5 x = 0 ↔ x = 0) := by decide +kernel
  exact k x h
theorem su_or (a b s : Nat) : su (a ||| b) s = su a s ||| su b s := by
  unfold su
  rw [show (32 : Nat) ^ s = 2 ^ (5 * s) by rw [Nat.pow_mul], Nat.or_div_two_pow, show (32 : Nat) = 2 ^ 5 from rfl, Nat.or_mod_two_pow]
theorem lenH_0 (a s : Nat) : lenH a s = 0 ↔ su a s = 0 := pc5_0 (su_lt a s)
def rufB (a b s t : Nat) : Bool := decide (¬ s = t) && decide (rfN a b s t = 1)
theorem rufB_1 {a b s t : Nat} (h : ¬ bI (rufB a b s t) = 0) : s ≠ t ∧ rfN a b s t = 1 := by
  have g := bI_1 h
  unfold rufB at g
  rw [Bool.and_eq_true] at g
  exact ⟨of_decide_eq_true g.1, of_decide_eq_true g.2⟩
theorem rufB_0 {a b s t : Nat} (h : bI (rufB a b s t) = 0) : s = t ∨ rfN a b s t = 0 := by
  have g := bI_0 h
  unfold rufB at g
  rw [Bool.and_eq_false_iff] at g
  rcases g with g | g
  · exact Or.inl (Decidable.not_not.mp (of_decide_eq_false g))
  · have := rfN_le a b s t
    have := of_decide_eq_false g
    exact Or.inr (by omega)
/-- the tricks in the suits below i -/
def trP (t a b : Nat) : Nat → Nat
  | 0 => 0
  | i + 1 => trP t a b i + trS t a b i
theorem trS_le (t a b s : Nat) : trS t a b s ≤ 7 := by
  have := wnN_le (su a s) (su b s)
  have := rfN_le a b s t
  have := rfN_le b a s t
  unfold trS
  split <;> omega
theorem trP_le (t a b : Nat) : ∀ i, trP t a b i ≤ 7 * i
  | 0 => Nat.le_refl 0
  | i + 1 => by
    have := trP_le t a b i
    have := trS_le t a b i
    show trP t a b i + trS t a b i ≤ _
    omega
theorem trN_P (t a b : Nat) : trN t a b = min (trP t a b 4) 5 := by
  unfold trN
  refine congrArg (fun z => min z 5) ?_
  show trS t a b 0 + trS t a b 1 + trS t a b 2 + trS t a b 3 = 0 + trS t a b 0 + trS t a b 1 + trS t a b 2 + trS t a b 3
  omega
set_option maxHeartbeats 4000000 in
set_option maxRecDepth 100000 in
theorem c_X7_winners (l : Launch) (G : HG) (hp : HP) (M : Nat → Nat) (sc : Nat → Int32) (ar : Nat → Nat → Int32) (sm : Nat → Int64) (hM : MR G hp M sc ar sm) (hT : MT ar) (a b s9 : Nat) (ha : a < 2 ^ 20) (hb : b < 2 ^ 20) (hs : s9 < 4) : Met l yX7_winners [.code yX7_winners cX7_winners 7 (some .int)] { frames := 1, cells := 0, slots := 0, locals := 22 } (va_Pc [.ref (M 0), .int (nI a), .int (nI b), .int (nI s9)] (RP G hp)) (vp_Si (fun r => r = nI (wnN (su a s9) (su b s9)))) 0 0 (fun _ => False) := by
  refine ro_ofW (by decide) (Nat.le_of_ble_eq_true rfl) ?_
  intro p e s m args below meth c ls X hr hlk hH hl
  have hS : va_S (fun _ => False) s.heap s.heap [] := va_S.rf
  have hl : lv_has ls 7 [(0, .ref (M 0)), (1, .int (nI a)), (2, .int (nI b)), (3, .int (nI s9))] := hl
  have hab : a ||| b < 2 ^ 20 := Nat.or_lt_two_pow ha hb
  have hla := lenH_le a s9
  have hlb := lenH_le b s9
  refine lv_iload_n X.1 X.2.1 dX7_winners_0 rfl (lv_at hl 1 rfl) ?_
  refine lv_iload_n X.1 X.2.1 dX7_winners_1 rfl (lv_at hl 2 rfl) ?_
  refine lv_ior X.1 X.2.1 dX7_winners_2 ?_
  refine r_eqi (show (((nI a) ||| (nI b)) : Int32) = nI (a ||| b) from n_or a b) ?_
  refine lv_iconst (v := 5) X.1 X.2.1 dX7_winners_3 (by decide) ?_
  refine lv_iload_n X.1 X.2.1 dX7_winners_4 rfl (lv_at hl 3 rfl) ?_
  refine lv_imul X.1 X.2.1 dX7_winners_5 ?_
  refine r_eqi (show (((5 : Int32) * (nI s9)) : Int32) = nI (5 * s9) from pk_mul 5 s9) ?_
  refine lv_ishr X.1 X.2.1 dX7_winners_6 ?_
  refine r_eqi (show (((nI (a ||| b)) >>> ((nI (5 * s9)) &&& 31)) : Int32) = nI ((a ||| b) / 32 ^ s9) from shr5 (a ||| b) s9 (by omega) (by omega)) ?_
  refine lv_bipush (v := 31) X.1 X.2.1 dX7_winners_7 (by decide) ?_
  refine lv_iand X.1 X.2.1 dX7_winners_9 ?_
  refine r_eqi (show (((nI ((a ||| b) / 32 ^ s9)) &&& 31) : Int32) = nI (((a ||| b) / 32 ^ s9) % 32) from n_and31 ((a ||| b) / 32 ^ s9)) ?_
  obtain ⟨z_10, ez_10⟩ : ∃ z : Nat, z = (((a ||| b) / 32 ^ s9) % 32) := ⟨_, rfl⟩
  refine r_eqi (show nI (((a ||| b) / 32 ^ s9) % 32) = nI z_10 from by rw [ez_10]) ?_
  have hz : z_10 < 32 := by rw [ez_10]; exact Nat.mod_lt _ (by decide)
  replace ez_10 : z_10 = su (a ||| b) s9 := ez_10
  refine lv_istore (lv' := [(4, .int (nI z_10)), (0, .ref (M 0)), (1, .int (nI a)), (2, .int (nI b)), (3, .int (nI s9))]) X.1 X.2.1 dX7_winners_10 hl (by decide) rfl (fun ls hl => ?_)
  refine lv_iconst (v := 0) X.1 X.2.1 dX7_winners_12 (by decide) ?_
  refine lv_istore (lv' := [(5, .int 0), (4, .int (nI z_10)), (0, .ref (M 0)), (1, .int (nI a)), (2, .int (nI b)), (3, .int (nI s9))]) X.1 X.2.1 dX7_winners_13 hl (by decide) rfl (fun ls hl => ?_)
  refine lv_iload X.1 X.2.1 dX7_winners_15 (lv_at hl 0 rfl) ?_
  refine lv_iconst (v := 5) X.1 X.2.1 dX7_winners_17 (by decide) ?_
  refine lv_icmp_ge (tgt := 40) X.1 X.2.1 dX7_winners_18 (by decide) (fun c_18 => absurd c_18 (by decide)) (fun c_18 => ?_)
  refine lv_iload X.1 X.2.1 dX7_winners_21 (lv_at hl 1 rfl) ?_
  refine lv_iconst (v := 4) X.1 X.2.1 dX7_winners_23 (by decide) ?_
  refine lv_iload X.1 X.2.1 dX7_winners_24 (lv_at hl 0 rfl) ?_
  refine lv_isub X.1 X.2.1 dX7_winners_26 ?_
  refine r_eqi (show (((4 : Int32) - 0) : Int32) = 4 from (by decide)) ?_
  refine lv_ishr X.1 X.2.1 dX7_winners_27 ?_
  refine r_eqi (show (((nI z_10) >>> (4 &&& 31)) : Int32) = nI (z_10 / 16) from pk_shrN (n := z_10) (by omega) _ 4 (by decide)) ?_
  refine lv_iconst (v := 1) X.1 X.2.1 dX7_winners_28 (by decide) ?_
  refine lv_iand X.1 X.2.1 dX7_winners_29 ?_
  refine r_eqi (show (((nI (z_10 / 16)) &&& 1) : Int32) = nI ((z_10 / 16) % 2) from n_and1 (z_10 / 16)) ?_
  refine lv_iconst (v := 1) X.1 X.2.1 dX7_winners_30 (by decide) ?_
  refine lv_icmp_ne (tgt := 40) X.1 X.2.1 dX7_winners_31 (by decide) (fun c_31 => ?_) (fun c_31 => ?_)
  · have k_31 := k_ne (a := ((z_10 / 16) % 2)) (b := 1) (by omega) (by omega) c_31
    refine lv_aload_n X.1 X.2.1 dX7_winners_40 rfl (lv_at hl 2 rfl) ?_
    refine lv_iload_n X.1 X.2.1 dX7_winners_41 rfl (lv_at hl 3 rfl) ?_
    refine lv_iload_n X.1 X.2.1 dX7_winners_42 rfl (lv_at hl 5 rfl) ?_
    refine on_Si (run_V (C := RX7) (As := [.int (nI a), .int (nI s9)]) (rest := []) X (c_X7_length l G hp M sc ar sm hM hT a s9 (by omega) (by omega)) (rp_blind _) (rp_at X hH hS) (recv X hH hM.1 (C := RX7) (T := TX7) (N := 19) rfl) mf_X7_length tw_943 tw_945 tw_34 ⟨rfl, rfl, Nat.le_of_ble_eq_true rfl, Nat.le_of_ble_eq_true rfl⟩ hl.1 rfl rfl (Nat.le_of_ble_eq_true rfl) ⟨Nat.le_of_ble_eq_true rfl, Nat.le_of_ble_eq_true rfl⟩ dX7_winners_43) (fun r_43 q_43 => ?_)
    obtain rfl : r_43 = (nI (lenH a s9)) := q_43
    refine lv_aload_n X.1 X.2.1 dX7_winners_46 rfl (lv_at hl 2 rfl) ?_
    refine lv_iload_n X.1 X.2.1 dX7_winners_47 rfl (lv_at hl 4 rfl) ?_
    refine lv_iload_n X.1 X.2.1 dX7_winners_48 rfl (lv_at hl 5 rfl) ?_
    refine on_Si (run_V (C := RX7) (As := [.int (nI b), .int (nI s9)]) (rest := [.int (nI (lenH a s9))]) X (c_X7_length l G hp M sc ar sm hM hT b s9 (by omega) (by omega)) (rp_blind _) (rp_at X hH hS) (recv X hH hM.1 (C := RX7) (T := TX7) (N := 19) rfl) mf_X7_length tw_943 tw_945 tw_34 ⟨rfl, rfl, Nat.le_of_ble_eq_true rfl, Nat.le_of_ble_eq_true rfl⟩ hl.1 rfl rfl (Nat.le_of_ble_eq_true rfl) ⟨Nat.le_of_ble_eq_true rfl, Nat.le_of_ble_eq_true rfl⟩ dX7_winners_49) (fun r_49 q_49 => ?_)
    obtain rfl : r_49 = (nI (lenH b s9)) := q_49
    refine lv_icmp_le (tgt := 64) X.1 X.2.1 dX7_winners_52 (by decide) (fun c_52 => ?_) (fun c_52 => ?_)
    · have k_52 := k_le (a := (lenH a s9)) (b := (lenH b s9)) (by omega) (by omega) c_52
      refine lv_aload_n X.1 X.2.1 dX7_winners_64 rfl (lv_at hl 2 rfl) ?_
      refine lv_iload_n X.1 X.2.1 dX7_winners_65 rfl (lv_at hl 4 rfl) ?_
      refine lv_iload_n X.1 X.2.1 dX7_winners_66 rfl (lv_at hl 5 rfl) ?_
      refine on_Si (run_V (C := RX7) (As := [.int (nI b), .int (nI s9)]) (rest := []) X (c_X7_length l G hp M sc ar sm hM hT b s9 (by omega) (by omega)) (rp_blind _) (rp_at X hH hS) (recv X hH hM.1 (C := RX7) (T := TX7) (N := 19) rfl) mf_X7_length tw_943 tw_945 tw_34 ⟨rfl, rfl, Nat.le_of_ble_eq_true rfl, Nat.le_of_ble_eq_true rfl⟩ hl.1 rfl rfl (Nat.le_of_ble_eq_true rfl) ⟨Nat.le_of_ble_eq_true rfl, Nat.le_of_ble_eq_true rfl⟩ dX7_winners_67) (fun r_67 q_67 => ?_)
      obtain rfl : r_67 = (nI (lenH b s9)) := q_67
      refine lv_istore (lv' := [(6, .int (nI (lenH b s9))), (5, .int 0), (4, .int (nI z_10)), (0, .ref (M 0)), (1, .int (nI a)), (2, .int (nI b)), (3, .int (nI s9))]) X.1 X.2.1 dX7_winners_70 hl (by decide) rfl (fun ls hl => ?_)
      refine lv_iload X.1 X.2.1 dX7_winners_72 (lv_at hl 1 rfl) ?_
      refine lv_iload X.1 X.2.1 dX7_winners_74 (lv_at hl 0 rfl) ?_
      refine lv_icmp_ge (tgt := 84) X.1 X.2.1 dX7_winners_76 (by decide) (fun c_76 => ?_) (fun c_76 => ?_)
      · have k_76 := k_le (a := (lenH b s9)) (b := 0) (by omega) (by omega) c_76
        refine lv_iload X.1 X.2.1 dX7_winners_84 (lv_at hl 0 rfl) ?_
        exact ro_i X hr hlk (by show nI (lenH b s9) = nI _; refine congrArg nI ?_; unfold wnN; rw [← su_or, ← ez_10]; unfold ldN; rw [if_neg (show ¬ z_10 / 16 % 2 = 1 by assumption)]; unfold lenH at *; omega) dX7_winners_86
      · have k_76 := k_nle (a := (lenH b s9)) (b := 0) (by omega) (by omega) c_76
        refine lv_iload X.1 X.2.1 dX7_winners_79 (lv_at hl 1 rfl) ?_
        refine lv_goto (tgt := 86) X.1 X.2.1 dX7_winners_81 (by decide) ?_
        exact ro_i X hr hlk (by show nI 0 = nI _; refine congrArg nI ?_; unfold wnN; rw [← su_or, ← ez_10]; unfold ldN; rw [if_neg (show ¬ z_10 / 16 % 2 = 1 by assumption)]; unfold lenH at *; omega) dX7_winners_86
    · have k_52 := k_nle (a := (lenH a s9)) (b := (lenH b s9)) (by omega) (by omega) c_52
      refine lv_aload_n X.1 X.2.1 dX7_winners_55 rfl (lv_at hl 2 rfl) ?_
      refine lv_iload_n X.1 X.2.1 dX7_winners_56 rfl (lv_at hl 3 rfl) ?_
      refine lv_iload_n X.1 X.2.1 dX7_winners_57 rfl (lv_at hl 5 rfl) ?_
      refine on_Si (run_V (C := RX7) (As := [.int (nI a), .int (nI s9)]) (rest := []) X (c_X7_length l G hp M sc ar sm hM hT a s9 (by omega) (by omega)) (rp_blind _) (rp_at X hH hS) (recv X hH hM.1 (C := RX7) (T := TX7) (N := 19) rfl) mf_X7_length tw_943 tw_945 tw_34 ⟨rfl, rfl, Nat.le_of_ble_eq_true rfl, Nat.le_of_ble_eq_true rfl⟩ hl.1 rfl rfl (Nat.le_of_ble_eq_true rfl) ⟨Nat.le_of_ble_eq_true rfl, Nat.le_of_ble_eq_true rfl⟩ dX7_winners_58) (fun r_58 q_58 => ?_)
      obtain rfl : r_58 = (nI (lenH a s9)) := q_58
      refine lv_goto (tgt := 70) X.1 X.2.1 dX7_winners_61 (by decide) ?_
      refine lv_istore (lv' := [(6, .int (nI (lenH a s9))), (5, .int 0), (4, .int (nI z_10)), (0, .ref (M 0)), (1, .int (nI a)), (2, .int (nI b)), (3, .int (nI s9))]) X.1 X.2.1 dX7_winners_70 hl (by decide) rfl (fun ls hl => ?_)
      refine lv_iload X.1 X.2.1 dX7_winners_72 (lv_at hl 1 rfl) ?_
      refine lv_iload X.1 X.2.1 dX7_winners_74 (lv_at hl 0 rfl) ?_
      refine lv_icmp_ge (tgt := 84) X.1 X.2.1 dX7_winners_76 (by decide) (fun c_76 => ?_) (fun c_76 => ?_)
      · have k_76 := k_le (a := (lenH a s9)) (b := 0) (by omega) (by omega) c_76
        refine lv_iload X.1 X.2.1 dX7_winners_84 (lv_at hl 0 rfl) ?_
        exact ro_i X hr hlk (by show nI (lenH a s9) = nI _; refine congrArg nI ?_; unfold wnN; rw [← su_or, ← ez_10]; unfold ldN; rw [if_neg (show ¬ z_10 / 16 % 2 = 1 by assumption)]; unfold lenH at *; omega) dX7_winners_86
      · have k_76 := k_nle (a := (lenH a s9)) (b := 0) (by omega) (by omega) c_76
        refine lv_iload X.1 X.2.1 dX7_winners_79 (lv_at hl 1 rfl) ?_
        refine lv_goto (tgt := 86) X.1 X.2.1 dX7_winners_81 (by decide) ?_
        exact ro_i X hr hlk (by show nI 0 = nI _; refine congrArg nI ?_; unfold wnN; rw [← su_or, ← ez_10]; unfold ldN; rw [if_neg (show ¬ z_10 / 16 % 2 = 1 by assumption)]; unfold lenH at *; omega) dX7_winners_86
  · have k_31 := k_eq (a := ((z_10 / 16) % 2)) (b := 1) (by omega) (by omega) c_31
    refine lv_iinc (v := 1) (lv' := [(5, .int 1), (4, .int (nI z_10)), (0, .ref (M 0)), (1, .int (nI a)), (2, .int (nI b)), (3, .int (nI s9))]) X.1 X.2.1 dX7_winners_34 hl (k := 0) rfl (by decide) (by decide) rfl (fun ls hl => ?_)
    refine lv_goto (tgt := 15) X.1 X.2.1 dX7_winners_37 (by decide) ?_
    refine lv_iload X.1 X.2.1 dX7_winners_15 (lv_at hl 0 rfl) ?_
    refine lv_iconst (v := 5) X.1 X.2.1 dX7_winners_17 (by decide) ?_
    refine lv_icmp_ge (tgt := 40) X.1 X.2.1 dX7_winners_18 (by decide) (fun c_18 => absurd c_18 (by decide)) (fun c_18 => ?_)
    refine lv_iload X.1 X.2.1 dX7_winners_21 (lv_at hl 1 rfl) ?_
    refine lv_iconst (v := 4) X.1 X.2.1 dX7_winners_23 (by decide) ?_
    refine lv_iload X.1 X.2.1 dX7_winners_24 (lv_at hl 0 rfl) ?_
    refine lv_isub X.1 X.2.1 dX7_winners_26 ?_
    refine r_eqi (show (((4 : Int32) - 1) : Int32) = 3 from (by decide)) ?_
    refine lv_ishr X.1 X.2.1 dX7_winners_27 ?_
    refine r_eqi (show (((nI z_10) >>> (3 &&& 31)) : Int32) = nI (z_10 / 8) from pk_shrN (n := z_10) (by omega) _ 3 (by decide)) ?_
    refine lv_iconst (v := 1) X.1 X.2.1 dX7_winners_28 (by decide) ?_
    refine lv_iand X.1 X.2.1 dX7_winners_29 ?_
    refine r_eqi (show (((nI (z_10 / 8)) &&& 1) : Int32) = nI ((z_10 / 8) % 2) from n_and1 (z_10 / 8)) ?_
    refine lv_iconst (v := 1) X.1 X.2.1 dX7_winners_30 (by decide) ?_
    refine lv_icmp_ne (tgt := 40) X.1 X.2.1 dX7_winners_31 (by decide) (fun c_31 => ?_) (fun c_31 => ?_)
    · have k_31 := k_ne (a := ((z_10 / 8) % 2)) (b := 1) (by omega) (by omega) c_31
      refine lv_aload_n X.1 X.2.1 dX7_winners_40 rfl (lv_at hl 2 rfl) ?_
      refine lv_iload_n X.1 X.2.1 dX7_winners_41 rfl (lv_at hl 3 rfl) ?_
      refine lv_iload_n X.1 X.2.1 dX7_winners_42 rfl (lv_at hl 5 rfl) ?_
      refine on_Si (run_V (C := RX7) (As := [.int (nI a), .int (nI s9)]) (rest := []) X (c_X7_length l G hp M sc ar sm hM hT a s9 (by omega) (by omega)) (rp_blind _) (rp_at X hH hS) (recv X hH hM.1 (C := RX7) (T := TX7) (N := 19) rfl) mf_X7_length tw_943 tw_945 tw_34 ⟨rfl, rfl, Nat.le_of_ble_eq_true rfl, Nat.le_of_ble_eq_true rfl⟩ hl.1 rfl rfl (Nat.le_of_ble_eq_true rfl) ⟨Nat.le_of_ble_eq_true rfl, Nat.le_of_ble_eq_true rfl⟩ dX7_winners_43) (fun r_43 q_43 => ?_)
      obtain rfl : r_43 = (nI (lenH a s9)) := q_43
      refine lv_aload_n X.1 X.2.1 dX7_winners_46 rfl (lv_at hl 2 rfl) ?_
      refine lv_iload_n X.1 X.2.1 dX7_winners_47 rfl (lv_at hl 4 rfl) ?_
      refine lv_iload_n X.1 X.2.1 dX7_winners_48 rfl (lv_at hl 5 rfl) ?_
      refine on_Si (run_V (C := RX7) (As := [.int (nI b), .int (nI s9)]) (rest := [.int (nI (lenH a s9))]) X (c_X7_length l G hp M sc ar sm hM hT b s9 (by omega) (by omega)) (rp_blind _) (rp_at X hH hS) (recv X hH hM.1 (C := RX7) (T := TX7) (N := 19) rfl) mf_X7_length tw_943 tw_945 tw_34 ⟨rfl, rfl, Nat.le_of_ble_eq_true rfl, Nat.le_of_ble_eq_true rfl⟩ hl.1 rfl rfl (Nat.le_of_ble_eq_true rfl) ⟨Nat.le_of_ble_eq_true rfl, Nat.le_of_ble_eq_true rfl⟩ dX7_winners_49) (fun r_49 q_49 => ?_)
      obtain rfl : r_49 = (nI (lenH b s9)) := q_49
      refine lv_icmp_le (tgt := 64) X.1 X.2.1 dX7_winners_52 (by decide) (fun c_52 => ?_) (fun c_52 => ?_)
      · have k_52 := k_le (a := (lenH a s9)) (b := (lenH b s9)) (by omega) (by omega) c_52
        refine lv_aload_n X.1 X.2.1 dX7_winners_64 rfl (lv_at hl 2 rfl) ?_
        refine lv_iload_n X.1 X.2.1 dX7_winners_65 rfl (lv_at hl 4 rfl) ?_
        refine lv_iload_n X.1 X.2.1 dX7_winners_66 rfl (lv_at hl 5 rfl) ?_
        refine on_Si (run_V (C := RX7) (As := [.int (nI b), .int (nI s9)]) (rest := []) X (c_X7_length l G hp M sc ar sm hM hT b s9 (by omega) (by omega)) (rp_blind _) (rp_at X hH hS) (recv X hH hM.1 (C := RX7) (T := TX7) (N := 19) rfl) mf_X7_length tw_943 tw_945 tw_34 ⟨rfl, rfl, Nat.le_of_ble_eq_true rfl, Nat.le_of_ble_eq_true rfl⟩ hl.1 rfl rfl (Nat.le_of_ble_eq_true rfl) ⟨Nat.le_of_ble_eq_true rfl, Nat.le_of_ble_eq_true rfl⟩ dX7_winners_67) (fun r_67 q_67 => ?_)
        obtain rfl : r_67 = (nI (lenH b s9)) := q_67
        refine lv_istore (lv' := [(6, .int (nI (lenH b s9))), (5, .int 1), (4, .int (nI z_10)), (0, .ref (M 0)), (1, .int (nI a)), (2, .int (nI b)), (3, .int (nI s9))]) X.1 X.2.1 dX7_winners_70 hl (by decide) rfl (fun ls hl => ?_)
        refine lv_iload X.1 X.2.1 dX7_winners_72 (lv_at hl 1 rfl) ?_
        refine lv_iload X.1 X.2.1 dX7_winners_74 (lv_at hl 0 rfl) ?_
        refine lv_icmp_ge (tgt := 84) X.1 X.2.1 dX7_winners_76 (by decide) (fun c_76 => ?_) (fun c_76 => ?_)
        · have k_76 := k_le (a := (lenH b s9)) (b := 1) (by omega) (by omega) c_76
          refine lv_iload X.1 X.2.1 dX7_winners_84 (lv_at hl 0 rfl) ?_
          exact ro_i X hr hlk (by show nI (lenH b s9) = nI _; refine congrArg nI ?_; unfold wnN; rw [← su_or, ← ez_10]; unfold ldN; rw [if_pos (show z_10 / 16 % 2 = 1 by assumption)]; rw [if_neg (show ¬ z_10 / 8 % 2 = 1 by assumption)]; unfold lenH at *; omega) dX7_winners_86
        · have k_76 := k_nle (a := (lenH b s9)) (b := 1) (by omega) (by omega) c_76
          refine lv_iload X.1 X.2.1 dX7_winners_79 (lv_at hl 1 rfl) ?_
          refine lv_goto (tgt := 86) X.1 X.2.1 dX7_winners_81 (by decide) ?_
          exact ro_i X hr hlk (by show nI 1 = nI _; refine congrArg nI ?_; unfold wnN; rw [← su_or, ← ez_10]; unfold ldN; rw [if_pos (show z_10 / 16 % 2 = 1 by assumption)]; rw [if_neg (show ¬ z_10 / 8 % 2 = 1 by assumption)]; unfold lenH at *; omega) dX7_winners_86
      · have k_52 := k_nle (a := (lenH a s9)) (b := (lenH b s9)) (by omega) (by omega) c_52
        refine lv_aload_n X.1 X.2.1 dX7_winners_55 rfl (lv_at hl 2 rfl) ?_
        refine lv_iload_n X.1 X.2.1 dX7_winners_56 rfl (lv_at hl 3 rfl) ?_
        refine lv_iload_n X.1 X.2.1 dX7_winners_57 rfl (lv_at hl 5 rfl) ?_
        refine on_Si (run_V (C := RX7) (As := [.int (nI a), .int (nI s9)]) (rest := []) X (c_X7_length l G hp M sc ar sm hM hT a s9 (by omega) (by omega)) (rp_blind _) (rp_at X hH hS) (recv X hH hM.1 (C := RX7) (T := TX7) (N := 19) rfl) mf_X7_length tw_943 tw_945 tw_34 ⟨rfl, rfl, Nat.le_of_ble_eq_true rfl, Nat.le_of_ble_eq_true rfl⟩ hl.1 rfl rfl (Nat.le_of_ble_eq_true rfl) ⟨Nat.le_of_ble_eq_true rfl, Nat.le_of_ble_eq_true rfl⟩ dX7_winners_58) (fun r_58 q_58 => ?_)
        obtain rfl : r_58 = (nI (lenH a s9)) := q_58
        refine lv_goto (tgt := 70) X.1 X.2.1 dX7_winners_61 (by decide) ?_
        refine lv_istore (lv' := [(6, .int (nI (lenH a s9))), (5, .int 1), (4, .int (nI z_10)), (0, .ref (M 0)), (1, .int (nI a)), (2, .int (nI b)), (3, .int (nI s9))]) X.1 X.2.1 dX7_winners_70 hl (by decide) rfl (fun ls hl => ?_)
        refine lv_iload X.1 X.2.1 dX7_winners_72 (lv_at hl 1 rfl) ?_
        refine lv_iload X.1 X.2.1 dX7_winners_74 (lv_at hl 0 rfl) ?_
        refine lv_icmp_ge (tgt := 84) X.1 X.2.1 dX7_winners_76 (by decide) (fun c_76 => ?_) (fun c_76 => ?_)
        · have k_76 := k_le (a := (lenH a s9)) (b := 1) (by omega) (by omega) c_76
          refine lv_iload X.1 X.2.1 dX7_winners_84 (lv_at hl 0 rfl) ?_
          exact ro_i X hr hlk (by show nI (lenH a s9) = nI _; refine congrArg nI ?_; unfold wnN; rw [← su_or, ← ez_10]; unfold ldN; rw [if_pos (show z_10 / 16 % 2 = 1 by assumption)]; rw [if_neg (show ¬ z_10 / 8 % 2 = 1 by assumption)]; unfold lenH at *; omega) dX7_winners_86
        · have k_76 := k_nle (a := (lenH a s9)) (b := 1) (by omega) (by omega) c_76
          refine lv_iload X.1 X.2.1 dX7_winners_79 (lv_at hl 1 rfl) ?_
          refine lv_goto (tgt := 86) X.1 X.2.1 dX7_winners_81 (by decide) ?_
          exact ro_i X hr hlk (by show nI 1 = nI _; refine congrArg nI ?_; unfold wnN; rw [← su_or, ← ez_10]; unfold ldN; rw [if_pos (show z_10 / 16 % 2 = 1 by assumption)]; rw [if_neg (show ¬ z_10 / 8 % 2 = 1 by assumption)]; unfold lenH at *; omega) dX7_winners_86
    · have k_31 := k_eq (a := ((z_10 / 8) % 2)) (b := 1) (by omega) (by omega) c_31
      refine lv_iinc (v := 2) (lv' := [(5, .int 2), (4, .int (nI z_10)), (0, .ref (M 0)), (1, .int (nI a)), (2, .int (nI b)), (3, .int (nI s9))]) X.1 X.2.1 dX7_winners_34 hl (k := 0) rfl (by decide) (by decide) rfl (fun ls hl => ?_)
      refine lv_goto (tgt := 15) X.1 X.2.1 dX7_winners_37 (by decide) ?_
      refine lv_iload X.1 X.2.1 dX7_winners_15 (lv_at hl 0 rfl) ?_
      refine lv_iconst (v := 5) X.1 X.2.1 dX7_winners_17 (by decide) ?_
      refine lv_icmp_ge (tgt := 40) X.1 X.2.1 dX7_winners_18 (by decide) (fun c_18 => absurd c_18 (by decide)) (fun c_18 => ?_)
      refine lv_iload X.1 X.2.1 dX7_winners_21 (lv_at hl 1 rfl) ?_
      refine lv_iconst (v := 4) X.1 X.2.1 dX7_winners_23 (by decide) ?_
      refine lv_iload X.1 X.2.1 dX7_winners_24 (lv_at hl 0 rfl) ?_
      refine lv_isub X.1 X.2.1 dX7_winners_26 ?_
      refine r_eqi (show (((4 : Int32) - 2) : Int32) = 2 from (by decide)) ?_
      refine lv_ishr X.1 X.2.1 dX7_winners_27 ?_
      refine r_eqi (show (((nI z_10) >>> (2 &&& 31)) : Int32) = nI (z_10 / 4) from pk_shrN (n := z_10) (by omega) _ 2 (by decide)) ?_
      refine lv_iconst (v := 1) X.1 X.2.1 dX7_winners_28 (by decide) ?_
      refine lv_iand X.1 X.2.1 dX7_winners_29 ?_
      refine r_eqi (show (((nI (z_10 / 4)) &&& 1) : Int32) = nI ((z_10 / 4) % 2) from n_and1 (z_10 / 4)) ?_
      refine lv_iconst (v := 1) X.1 X.2.1 dX7_winners_30 (by decide) ?_
      refine lv_icmp_ne (tgt := 40) X.1 X.2.1 dX7_winners_31 (by decide) (fun c_31 => ?_) (fun c_31 => ?_)
      · have k_31 := k_ne (a := ((z_10 / 4) % 2)) (b := 1) (by omega) (by omega) c_31
        refine lv_aload_n X.1 X.2.1 dX7_winners_40 rfl (lv_at hl 2 rfl) ?_
        refine lv_iload_n X.1 X.2.1 dX7_winners_41 rfl (lv_at hl 3 rfl) ?_
        refine lv_iload_n X.1 X.2.1 dX7_winners_42 rfl (lv_at hl 5 rfl) ?_
        refine on_Si (run_V (C := RX7) (As := [.int (nI a), .int (nI s9)]) (rest := []) X (c_X7_length l G hp M sc ar sm hM hT a s9 (by omega) (by omega)) (rp_blind _) (rp_at X hH hS) (recv X hH hM.1 (C := RX7) (T := TX7) (N := 19) rfl) mf_X7_length tw_943 tw_945 tw_34 ⟨rfl, rfl, Nat.le_of_ble_eq_true rfl, Nat.le_of_ble_eq_true rfl⟩ hl.1 rfl rfl (Nat.le_of_ble_eq_true rfl) ⟨Nat.le_of_ble_eq_true rfl, Nat.le_of_ble_eq_true rfl⟩ dX7_winners_43) (fun r_43 q_43 => ?_)
        obtain rfl : r_43 = (nI (lenH a s9)) := q_43
        refine lv_aload_n X.1 X.2.1 dX7_winners_46 rfl (lv_at hl 2 rfl) ?_
        refine lv_iload_n X.1 X.2.1 dX7_winners_47 rfl (lv_at hl 4 rfl) ?_
        refine lv_iload_n X.1 X.2.1 dX7_winners_48 rfl (lv_at hl 5 rfl) ?_
        refine on_Si (run_V (C := RX7) (As := [.int (nI b), .int (nI s9)]) (rest := [.int (nI (lenH a s9))]) X (c_X7_length l G hp M sc ar sm hM hT b s9 (by omega) (by omega)) (rp_blind _) (rp_at X hH hS) (recv X hH hM.1 (C := RX7) (T := TX7) (N := 19) rfl) mf_X7_length tw_943 tw_945 tw_34 ⟨rfl, rfl, Nat.le_of_ble_eq_true rfl, Nat.le_of_ble_eq_true rfl⟩ hl.1 rfl rfl (Nat.le_of_ble_eq_true rfl) ⟨Nat.le_of_ble_eq_true rfl, Nat.le_of_ble_eq_true rfl⟩ dX7_winners_49) (fun r_49 q_49 => ?_)
        obtain rfl : r_49 = (nI (lenH b s9)) := q_49
        refine lv_icmp_le (tgt := 64) X.1 X.2.1 dX7_winners_52 (by decide) (fun c_52 => ?_) (fun c_52 => ?_)
        · have k_52 := k_le (a := (lenH a s9)) (b := (lenH b s9)) (by omega) (by omega) c_52
          refine lv_aload_n X.1 X.2.1 dX7_winners_64 rfl (lv_at hl 2 rfl) ?_
          refine lv_iload_n X.1 X.2.1 dX7_winners_65 rfl (lv_at hl 4 rfl) ?_
          refine lv_iload_n X.1 X.2.1 dX7_winners_66 rfl (lv_at hl 5 rfl) ?_
          refine on_Si (run_V (C := RX7) (As := [.int (nI b), .int (nI s9)]) (rest := []) X (c_X7_length l G hp M sc ar sm hM hT b s9 (by omega) (by omega)) (rp_blind _) (rp_at X hH hS) (recv X hH hM.1 (C := RX7) (T := TX7) (N := 19) rfl) mf_X7_length tw_943 tw_945 tw_34 ⟨rfl, rfl, Nat.le_of_ble_eq_true rfl, Nat.le_of_ble_eq_true rfl⟩ hl.1 rfl rfl (Nat.le_of_ble_eq_true rfl) ⟨Nat.le_of_ble_eq_true rfl, Nat.le_of_ble_eq_true rfl⟩ dX7_winners_67) (fun r_67 q_67 => ?_)
          obtain rfl : r_67 = (nI (lenH b s9)) := q_67
          refine lv_istore (lv' := [(6, .int (nI (lenH b s9))), (5, .int 2), (4, .int (nI z_10)), (0, .ref (M 0)), (1, .int (nI a)), (2, .int (nI b)), (3, .int (nI s9))]) X.1 X.2.1 dX7_winners_70 hl (by decide) rfl (fun ls hl => ?_)
          refine lv_iload X.1 X.2.1 dX7_winners_72 (lv_at hl 1 rfl) ?_
          refine lv_iload X.1 X.2.1 dX7_winners_74 (lv_at hl 0 rfl) ?_
          refine lv_icmp_ge (tgt := 84) X.1 X.2.1 dX7_winners_76 (by decide) (fun c_76 => ?_) (fun c_76 => ?_)
          · have k_76 := k_le (a := (lenH b s9)) (b := 2) (by omega) (by omega) c_76
            refine lv_iload X.1 X.2.1 dX7_winners_84 (lv_at hl 0 rfl) ?_
            exact ro_i X hr hlk (by show nI (lenH b s9) = nI _; refine congrArg nI ?_; unfold wnN; rw [← su_or, ← ez_10]; unfold ldN; rw [if_pos (show z_10 / 16 % 2 = 1 by assumption)]; rw [if_pos (show z_10 / 8 % 2 = 1 by assumption)]; rw [if_neg (show ¬ z_10 / 4 % 2 = 1 by assumption)]; unfold lenH at *; omega) dX7_winners_86
          · have k_76 := k_nle (a := (lenH b s9)) (b := 2) (by omega) (by omega) c_76
            refine lv_iload X.1 X.2.1 dX7_winners_79 (lv_at hl 1 rfl) ?_
            refine lv_goto (tgt := 86) X.1 X.2.1 dX7_winners_81 (by decide) ?_
            exact ro_i X hr hlk (by show nI 2 = nI _; refine congrArg nI ?_; unfold wnN; rw [← su_or, ← ez_10]; unfold ldN; rw [if_pos (show z_10 / 16 % 2 = 1 by assumption)]; rw [if_pos (show z_10 / 8 % 2 = 1 by assumption)]; rw [if_neg (show ¬ z_10 / 4 % 2 = 1 by assumption)]; unfold lenH at *; omega) dX7_winners_86
        · have k_52 := k_nle (a := (lenH a s9)) (b := (lenH b s9)) (by omega) (by omega) c_52
          refine lv_aload_n X.1 X.2.1 dX7_winners_55 rfl (lv_at hl 2 rfl) ?_
          refine lv_iload_n X.1 X.2.1 dX7_winners_56 rfl (lv_at hl 3 rfl) ?_
          refine lv_iload_n X.1 X.2.1 dX7_winners_57 rfl (lv_at hl 5 rfl) ?_
          refine on_Si (run_V (C := RX7) (As := [.int (nI a), .int (nI s9)]) (rest := []) X (c_X7_length l G hp M sc ar sm hM hT a s9 (by omega) (by omega)) (rp_blind _) (rp_at X hH hS) (recv X hH hM.1 (C := RX7) (T := TX7) (N := 19) rfl) mf_X7_length tw_943 tw_945 tw_34 ⟨rfl, rfl, Nat.le_of_ble_eq_true rfl, Nat.le_of_ble_eq_true rfl⟩ hl.1 rfl rfl (Nat.le_of_ble_eq_true rfl) ⟨Nat.le_of_ble_eq_true rfl, Nat.le_of_ble_eq_true rfl⟩ dX7_winners_58) (fun r_58 q_58 => ?_)
          obtain rfl : r_58 = (nI (lenH a s9)) := q_58
          refine lv_goto (tgt := 70) X.1 X.2.1 dX7_winners_61 (by decide) ?_
          refine lv_istore (lv' := [(6, .int (nI (lenH a s9))), (5, .int 2), (4, .int (nI z_10)), (0, .ref (M 0)), (1, .int (nI a)), (2, .int (nI b)), (3, .int (nI s9))]) X.1 X.2.1 dX7_winners_70 hl (by decide) rfl (fun ls hl => ?_)
          refine lv_iload X.1 X.2.1 dX7_winners_72 (lv_at hl 1 rfl) ?_
          refine lv_iload X.1 X.2.1 dX7_winners_74 (lv_at hl 0 rfl) ?_
          refine lv_icmp_ge (tgt := 84) X.1 X.2.1 dX7_winners_76 (by decide) (fun c_76 => ?_) (fun c_76 => ?_)
          · have k_76 := k_le (a := (lenH a s9)) (b := 2) (by omega) (by omega) c_76
            refine lv_iload X.1 X.2.1 dX7_winners_84 (lv_at hl 0 rfl) ?_
            exact ro_i X hr hlk (by show nI (lenH a s9) = nI _; refine congrArg nI ?_; unfold wnN; rw [← su_or, ← ez_10]; unfold ldN; rw [if_pos (show z_10 / 16 % 2 = 1 by assumption)]; rw [if_pos (show z_10 / 8 % 2 = 1 by assumption)]; rw [if_neg (show ¬ z_10 / 4 % 2 = 1 by assumption)]; unfold lenH at *; omega) dX7_winners_86
          · have k_76 := k_nle (a := (lenH a s9)) (b := 2) (by omega) (by omega) c_76
            refine lv_iload X.1 X.2.1 dX7_winners_79 (lv_at hl 1 rfl) ?_
            refine lv_goto (tgt := 86) X.1 X.2.1 dX7_winners_81 (by decide) ?_
            exact ro_i X hr hlk (by show nI 2 = nI _; refine congrArg nI ?_; unfold wnN; rw [← su_or, ← ez_10]; unfold ldN; rw [if_pos (show z_10 / 16 % 2 = 1 by assumption)]; rw [if_pos (show z_10 / 8 % 2 = 1 by assumption)]; rw [if_neg (show ¬ z_10 / 4 % 2 = 1 by assumption)]; unfold lenH at *; omega) dX7_winners_86
      · have k_31 := k_eq (a := ((z_10 / 4) % 2)) (b := 1) (by omega) (by omega) c_31
        refine lv_iinc (v := 3) (lv' := [(5, .int 3), (4, .int (nI z_10)), (0, .ref (M 0)), (1, .int (nI a)), (2, .int (nI b)), (3, .int (nI s9))]) X.1 X.2.1 dX7_winners_34 hl (k := 0) rfl (by decide) (by decide) rfl (fun ls hl => ?_)
        refine lv_goto (tgt := 15) X.1 X.2.1 dX7_winners_37 (by decide) ?_
        refine lv_iload X.1 X.2.1 dX7_winners_15 (lv_at hl 0 rfl) ?_
        refine lv_iconst (v := 5) X.1 X.2.1 dX7_winners_17 (by decide) ?_
        refine lv_icmp_ge (tgt := 40) X.1 X.2.1 dX7_winners_18 (by decide) (fun c_18 => absurd c_18 (by decide)) (fun c_18 => ?_)
        refine lv_iload X.1 X.2.1 dX7_winners_21 (lv_at hl 1 rfl) ?_
        refine lv_iconst (v := 4) X.1 X.2.1 dX7_winners_23 (by decide) ?_
        refine lv_iload X.1 X.2.1 dX7_winners_24 (lv_at hl 0 rfl) ?_
        refine lv_isub X.1 X.2.1 dX7_winners_26 ?_
        refine r_eqi (show (((4 : Int32) - 3) : Int32) = 1 from (by decide)) ?_
        refine lv_ishr X.1 X.2.1 dX7_winners_27 ?_
        refine r_eqi (show (((nI z_10) >>> (1 &&& 31)) : Int32) = nI (z_10 / 2) from pk_shrN (n := z_10) (by omega) _ 1 (by decide)) ?_
        refine lv_iconst (v := 1) X.1 X.2.1 dX7_winners_28 (by decide) ?_
        refine lv_iand X.1 X.2.1 dX7_winners_29 ?_
        refine r_eqi (show (((nI (z_10 / 2)) &&& 1) : Int32) = nI ((z_10 / 2) % 2) from n_and1 (z_10 / 2)) ?_
        refine lv_iconst (v := 1) X.1 X.2.1 dX7_winners_30 (by decide) ?_
        refine lv_icmp_ne (tgt := 40) X.1 X.2.1 dX7_winners_31 (by decide) (fun c_31 => ?_) (fun c_31 => ?_)
        · have k_31 := k_ne (a := ((z_10 / 2) % 2)) (b := 1) (by omega) (by omega) c_31
          refine lv_aload_n X.1 X.2.1 dX7_winners_40 rfl (lv_at hl 2 rfl) ?_
          refine lv_iload_n X.1 X.2.1 dX7_winners_41 rfl (lv_at hl 3 rfl) ?_
          refine lv_iload_n X.1 X.2.1 dX7_winners_42 rfl (lv_at hl 5 rfl) ?_
          refine on_Si (run_V (C := RX7) (As := [.int (nI a), .int (nI s9)]) (rest := []) X (c_X7_length l G hp M sc ar sm hM hT a s9 (by omega) (by omega)) (rp_blind _) (rp_at X hH hS) (recv X hH hM.1 (C := RX7) (T := TX7) (N := 19) rfl) mf_X7_length tw_943 tw_945 tw_34 ⟨rfl, rfl, Nat.le_of_ble_eq_true rfl, Nat.le_of_ble_eq_true rfl⟩ hl.1 rfl rfl (Nat.le_of_ble_eq_true rfl) ⟨Nat.le_of_ble_eq_true rfl, Nat.le_of_ble_eq_true rfl⟩ dX7_winners_43) (fun r_43 q_43 => ?_)
          obtain rfl : r_43 = (nI (lenH a s9)) := q_43
          refine lv_aload_n X.1 X.2.1 dX7_winners_46 rfl (lv_at hl 2 rfl) ?_
          refine lv_iload_n X.1 X.2.1 dX7_winners_47 rfl (lv_at hl 4 rfl) ?_
          refine lv_iload_n X.1 X.2.1 dX7_winners_48 rfl (lv_at hl 5 rfl) ?_
          refine on_Si (run_V (C := RX7) (As := [.int (nI b), .int (nI s9)]) (rest := [.int (nI (lenH a s9))]) X (c_X7_length l G hp M sc ar sm hM hT b s9 (by omega) (by omega)) (rp_blind _) (rp_at X hH hS) (recv X hH hM.1 (C := RX7) (T := TX7) (N := 19) rfl) mf_X7_length tw_943 tw_945 tw_34 ⟨rfl, rfl, Nat.le_of_ble_eq_true rfl, Nat.le_of_ble_eq_true rfl⟩ hl.1 rfl rfl (Nat.le_of_ble_eq_true rfl) ⟨Nat.le_of_ble_eq_true rfl, Nat.le_of_ble_eq_true rfl⟩ dX7_winners_49) (fun r_49 q_49 => ?_)
          obtain rfl : r_49 = (nI (lenH b s9)) := q_49
          refine lv_icmp_le (tgt := 64) X.1 X.2.1 dX7_winners_52 (by decide) (fun c_52 => ?_) (fun c_52 => ?_)
          · have k_52 := k_le (a := (lenH a s9)) (b := (lenH b s9)) (by omega) (by omega) c_52
            refine lv_aload_n X.1 X.2.1 dX7_winners_64 rfl (lv_at hl 2 rfl) ?_
            refine lv_iload_n X.1 X.2.1 dX7_winners_65 rfl (lv_at hl 4 rfl) ?_
            refine lv_iload_n X.1 X.2.1 dX7_winners_66 rfl (lv_at hl 5 rfl) ?_
            refine on_Si (run_V (C := RX7) (As := [.int (nI b), .int (nI s9)]) (rest := []) X (c_X7_length l G hp M sc ar sm hM hT b s9 (by omega) (by omega)) (rp_blind _) (rp_at X hH hS) (recv X hH hM.1 (C := RX7) (T := TX7) (N := 19) rfl) mf_X7_length tw_943 tw_945 tw_34 ⟨rfl, rfl, Nat.le_of_ble_eq_true rfl, Nat.le_of_ble_eq_true rfl⟩ hl.1 rfl rfl (Nat.le_of_ble_eq_true rfl) ⟨Nat.le_of_ble_eq_true rfl, Nat.le_of_ble_eq_true rfl⟩ dX7_winners_67) (fun r_67 q_67 => ?_)
            obtain rfl : r_67 = (nI (lenH b s9)) := q_67
            refine lv_istore (lv' := [(6, .int (nI (lenH b s9))), (5, .int 3), (4, .int (nI z_10)), (0, .ref (M 0)), (1, .int (nI a)), (2, .int (nI b)), (3, .int (nI s9))]) X.1 X.2.1 dX7_winners_70 hl (by decide) rfl (fun ls hl => ?_)
            refine lv_iload X.1 X.2.1 dX7_winners_72 (lv_at hl 1 rfl) ?_
            refine lv_iload X.1 X.2.1 dX7_winners_74 (lv_at hl 0 rfl) ?_
            refine lv_icmp_ge (tgt := 84) X.1 X.2.1 dX7_winners_76 (by decide) (fun c_76 => ?_) (fun c_76 => ?_)
            · have k_76 := k_le (a := (lenH b s9)) (b := 3) (by omega) (by omega) c_76
              refine lv_iload X.1 X.2.1 dX7_winners_84 (lv_at hl 0 rfl) ?_
              exact ro_i X hr hlk (by show nI (lenH b s9) = nI _; refine congrArg nI ?_; unfold wnN; rw [← su_or, ← ez_10]; unfold ldN; rw [if_pos (show z_10 / 16 % 2 = 1 by assumption)]; rw [if_pos (show z_10 / 8 % 2 = 1 by assumption)]; rw [if_pos (show z_10 / 4 % 2 = 1 by assumption)]; rw [if_neg (show ¬ z_10 / 2 % 2 = 1 by assumption)]; unfold lenH at *; omega) dX7_winners_86
            · have k_76 := k_nle (a := (lenH b s9)) (b := 3) (by omega) (by omega) c_76
              refine lv_iload X.1 X.2.1 dX7_winners_79 (lv_at hl 1 rfl) ?_
              refine lv_goto (tgt := 86) X.1 X.2.1 dX7_winners_81 (by decide) ?_
              exact ro_i X hr hlk (by show nI 3 = nI _; refine congrArg nI ?_; unfold wnN; rw [← su_or, ← ez_10]; unfold ldN; rw [if_pos (show z_10 / 16 % 2 = 1 by assumption)]; rw [if_pos (show z_10 / 8 % 2 = 1 by assumption)]; rw [if_pos (show z_10 / 4 % 2 = 1 by assumption)]; rw [if_neg (show ¬ z_10 / 2 % 2 = 1 by assumption)]; unfold lenH at *; omega) dX7_winners_86
          · have k_52 := k_nle (a := (lenH a s9)) (b := (lenH b s9)) (by omega) (by omega) c_52
            refine lv_aload_n X.1 X.2.1 dX7_winners_55 rfl (lv_at hl 2 rfl) ?_
            refine lv_iload_n X.1 X.2.1 dX7_winners_56 rfl (lv_at hl 3 rfl) ?_
            refine lv_iload_n X.1 X.2.1 dX7_winners_57 rfl (lv_at hl 5 rfl) ?_
            refine on_Si (run_V (C := RX7) (As := [.int (nI a), .int (nI s9)]) (rest := []) X (c_X7_length l G hp M sc ar sm hM hT a s9 (by omega) (by omega)) (rp_blind _) (rp_at X hH hS) (recv X hH hM.1 (C := RX7) (T := TX7) (N := 19) rfl) mf_X7_length tw_943 tw_945 tw_34 ⟨rfl, rfl, Nat.le_of_ble_eq_true rfl, Nat.le_of_ble_eq_true rfl⟩ hl.1 rfl rfl (Nat.le_of_ble_eq_true rfl) ⟨Nat.le_of_ble_eq_true rfl, Nat.le_of_ble_eq_true rfl⟩ dX7_winners_58) (fun r_58 q_58 => ?_)
            obtain rfl : r_58 = (nI (lenH a s9)) := q_58
            refine lv_goto (tgt := 70) X.1 X.2.1 dX7_winners_61 (by decide) ?_
            refine lv_istore (lv' := [(6, .int (nI (lenH a s9))), (5, .int 3), (4, .int (nI z_10)), (0, .ref (M 0)), (1, .int (nI a)), (2, .int (nI b)), (3, .int (nI s9))]) X.1 X.2.1 dX7_winners_70 hl (by decide) rfl (fun ls hl => ?_)
            refine lv_iload X.1 X.2.1 dX7_winners_72 (lv_at hl 1 rfl) ?_
            refine lv_iload X.1 X.2.1 dX7_winners_74 (lv_at hl 0 rfl) ?_
            refine lv_icmp_ge (tgt := 84) X.1 X.2.1 dX7_winners_76 (by decide) (fun c_76 => ?_) (fun c_76 => ?_)
            · have k_76 := k_le (a := (lenH a s9)) (b := 3) (by omega) (by omega) c_76
              refine lv_iload X.1 X.2.1 dX7_winners_84 (lv_at hl 0 rfl) ?_
              exact ro_i X hr hlk (by show nI (lenH a s9) = nI _; refine congrArg nI ?_; unfold wnN; rw [← su_or, ← ez_10]; unfold ldN; rw [if_pos (show z_10 / 16 % 2 = 1 by assumption)]; rw [if_pos (show z_10 / 8 % 2 = 1 by assumption)]; rw [if_pos (show z_10 / 4 % 2 = 1 by assumption)]; rw [if_neg (show ¬ z_10 / 2 % 2 = 1 by assumption)]; unfold lenH at *; omega) dX7_winners_86
            · have k_76 := k_nle (a := (lenH a s9)) (b := 3) (by omega) (by omega) c_76
              refine lv_iload X.1 X.2.1 dX7_winners_79 (lv_at hl 1 rfl) ?_
              refine lv_goto (tgt := 86) X.1 X.2.1 dX7_winners_81 (by decide) ?_
              exact ro_i X hr hlk (by show nI 3 = nI _; refine congrArg nI ?_; unfold wnN; rw [← su_or, ← ez_10]; unfold ldN; rw [if_pos (show z_10 / 16 % 2 = 1 by assumption)]; rw [if_pos (show z_10 / 8 % 2 = 1 by assumption)]; rw [if_pos (show z_10 / 4 % 2 = 1 by assumption)]; rw [if_neg (show ¬ z_10 / 2 % 2 = 1 by assumption)]; unfold lenH at *; omega) dX7_winners_86
        · have k_31 := k_eq (a := ((z_10 / 2) % 2)) (b := 1) (by omega) (by omega) c_31
          refine lv_iinc (v := 4) (lv' := [(5, .int 4), (4, .int (nI z_10)), (0, .ref (M 0)), (1, .int (nI a)), (2, .int (nI b)), (3, .int (nI s9))]) X.1 X.2.1 dX7_winners_34 hl (k := 0) rfl (by decide) (by decide) rfl (fun ls hl => ?_)
          refine lv_goto (tgt := 15) X.1 X.2.1 dX7_winners_37 (by decide) ?_
          refine lv_iload X.1 X.2.1 dX7_winners_15 (lv_at hl 0 rfl) ?_
          refine lv_iconst (v := 5) X.1 X.2.1 dX7_winners_17 (by decide) ?_
          refine lv_icmp_ge (tgt := 40) X.1 X.2.1 dX7_winners_18 (by decide) (fun c_18 => absurd c_18 (by decide)) (fun c_18 => ?_)
          refine lv_iload X.1 X.2.1 dX7_winners_21 (lv_at hl 1 rfl) ?_
          refine lv_iconst (v := 4) X.1 X.2.1 dX7_winners_23 (by decide) ?_
          refine lv_iload X.1 X.2.1 dX7_winners_24 (lv_at hl 0 rfl) ?_
          refine lv_isub X.1 X.2.1 dX7_winners_26 ?_
          refine r_eqi (show (((4 : Int32) - 4) : Int32) = 0 from (by decide)) ?_
          refine lv_ishr X.1 X.2.1 dX7_winners_27 ?_
          refine r_eqi (show (((nI z_10) >>> (0 &&& 31)) : Int32) = nI z_10 from sb_shr0 (nI z_10)) ?_
          refine lv_iconst (v := 1) X.1 X.2.1 dX7_winners_28 (by decide) ?_
          refine lv_iand X.1 X.2.1 dX7_winners_29 ?_
          refine r_eqi (show (((nI z_10) &&& 1) : Int32) = nI (z_10 % 2) from n_and1 z_10) ?_
          refine lv_iconst (v := 1) X.1 X.2.1 dX7_winners_30 (by decide) ?_
          refine lv_icmp_ne (tgt := 40) X.1 X.2.1 dX7_winners_31 (by decide) (fun c_31 => ?_) (fun c_31 => ?_)
          · have k_31 := k_ne (a := (z_10 % 2)) (b := 1) (by omega) (by omega) c_31
            refine lv_aload_n X.1 X.2.1 dX7_winners_40 rfl (lv_at hl 2 rfl) ?_
            refine lv_iload_n X.1 X.2.1 dX7_winners_41 rfl (lv_at hl 3 rfl) ?_
            refine lv_iload_n X.1 X.2.1 dX7_winners_42 rfl (lv_at hl 5 rfl) ?_
            refine on_Si (run_V (C := RX7) (As := [.int (nI a), .int (nI s9)]) (rest := []) X (c_X7_length l G hp M sc ar sm hM hT a s9 (by omega) (by omega)) (rp_blind _) (rp_at X hH hS) (recv X hH hM.1 (C := RX7) (T := TX7) (N := 19) rfl) mf_X7_length tw_943 tw_945 tw_34 ⟨rfl, rfl, Nat.le_of_ble_eq_true rfl, Nat.le_of_ble_eq_true rfl⟩ hl.1 rfl rfl (Nat.le_of_ble_eq_true rfl) ⟨Nat.le_of_ble_eq_true rfl, Nat.le_of_ble_eq_true rfl⟩ dX7_winners_43) (fun r_43 q_43 => ?_)
            obtain rfl : r_43 = (nI (lenH a s9)) := q_43
            refine lv_aload_n X.1 X.2.1 dX7_winners_46 rfl (lv_at hl 2 rfl) ?_
            refine lv_iload_n X.1 X.2.1 dX7_winners_47 rfl (lv_at hl 4 rfl) ?_
            refine lv_iload_n X.1 X.2.1 dX7_winners_48 rfl (lv_at hl 5 rfl) ?_
            refine on_Si (run_V (C := RX7) (As := [.int (nI b), .int (nI s9)]) (rest := [.int (nI (lenH a s9))]) X (c_X7_length l G hp M sc ar sm hM hT b s9 (by omega) (by omega)) (rp_blind _) (rp_at X hH hS) (recv X hH hM.1 (C := RX7) (T := TX7) (N := 19) rfl) mf_X7_length tw_943 tw_945 tw_34 ⟨rfl, rfl, Nat.le_of_ble_eq_true rfl, Nat.le_of_ble_eq_true rfl⟩ hl.1 rfl rfl (Nat.le_of_ble_eq_true rfl) ⟨Nat.le_of_ble_eq_true rfl, Nat.le_of_ble_eq_true rfl⟩ dX7_winners_49) (fun r_49 q_49 => ?_)
            obtain rfl : r_49 = (nI (lenH b s9)) := q_49
            refine lv_icmp_le (tgt := 64) X.1 X.2.1 dX7_winners_52 (by decide) (fun c_52 => ?_) (fun c_52 => ?_)
            · have k_52 := k_le (a := (lenH a s9)) (b := (lenH b s9)) (by omega) (by omega) c_52
              refine lv_aload_n X.1 X.2.1 dX7_winners_64 rfl (lv_at hl 2 rfl) ?_
              refine lv_iload_n X.1 X.2.1 dX7_winners_65 rfl (lv_at hl 4 rfl) ?_
              refine lv_iload_n X.1 X.2.1 dX7_winners_66 rfl (lv_at hl 5 rfl) ?_
              refine on_Si (run_V (C := RX7) (As := [.int (nI b), .int (nI s9)]) (rest := []) X (c_X7_length l G hp M sc ar sm hM hT b s9 (by omega) (by omega)) (rp_blind _) (rp_at X hH hS) (recv X hH hM.1 (C := RX7) (T := TX7) (N := 19) rfl) mf_X7_length tw_943 tw_945 tw_34 ⟨rfl, rfl, Nat.le_of_ble_eq_true rfl, Nat.le_of_ble_eq_true rfl⟩ hl.1 rfl rfl (Nat.le_of_ble_eq_true rfl) ⟨Nat.le_of_ble_eq_true rfl, Nat.le_of_ble_eq_true rfl⟩ dX7_winners_67) (fun r_67 q_67 => ?_)
              obtain rfl : r_67 = (nI (lenH b s9)) := q_67
              refine lv_istore (lv' := [(6, .int (nI (lenH b s9))), (5, .int 4), (4, .int (nI z_10)), (0, .ref (M 0)), (1, .int (nI a)), (2, .int (nI b)), (3, .int (nI s9))]) X.1 X.2.1 dX7_winners_70 hl (by decide) rfl (fun ls hl => ?_)
              refine lv_iload X.1 X.2.1 dX7_winners_72 (lv_at hl 1 rfl) ?_
              refine lv_iload X.1 X.2.1 dX7_winners_74 (lv_at hl 0 rfl) ?_
              refine lv_icmp_ge (tgt := 84) X.1 X.2.1 dX7_winners_76 (by decide) (fun c_76 => ?_) (fun c_76 => ?_)
              · have k_76 := k_le (a := (lenH b s9)) (b := 4) (by omega) (by omega) c_76
                refine lv_iload X.1 X.2.1 dX7_winners_84 (lv_at hl 0 rfl) ?_
                exact ro_i X hr hlk (by show nI (lenH b s9) = nI _; refine congrArg nI ?_; unfold wnN; rw [← su_or, ← ez_10]; unfold ldN; rw [if_pos (show z_10 / 16 % 2 = 1 by assumption)]; rw [if_pos (show z_10 / 8 % 2 = 1 by assumption)]; rw [if_pos (show z_10 / 4 % 2 = 1 by assumption)]; rw [if_pos (show z_10 / 2 % 2 = 1 by assumption)]; rw [if_neg (show ¬ z_10 % 2 = 1 by assumption)]; unfold lenH at *; omega) dX7_winners_86
              · have k_76 := k_nle (a := (lenH b s9)) (b := 4) (by omega) (by omega) c_76
                refine lv_iload X.1 X.2.1 dX7_winners_79 (lv_at hl 1 rfl) ?_
                refine lv_goto (tgt := 86) X.1 X.2.1 dX7_winners_81 (by decide) ?_
                exact ro_i X hr hlk (by show nI 4 = nI _; refine congrArg nI ?_; unfold wnN; rw [← su_or, ← ez_10]; unfold ldN; rw [if_pos (show z_10 / 16 % 2 = 1 by assumption)]; rw [if_pos (show z_10 / 8 % 2 = 1 by assumption)]; rw [if_pos (show z_10 / 4 % 2 = 1 by assumption)]; rw [if_pos (show z_10 / 2 % 2 = 1 by assumption)]; rw [if_neg (show ¬ z_10 % 2 = 1 by assumption)]; unfold lenH at *; omega) dX7_winners_86
            · have k_52 := k_nle (a := (lenH a s9)) (b := (lenH b s9)) (by omega) (by omega) c_52
              refine lv_aload_n X.1 X.2.1 dX7_winners_55 rfl (lv_at hl 2 rfl) ?_
              refine lv_iload_n X.1 X.2.1 dX7_winners_56 rfl (lv_at hl 3 rfl) ?_
              refine lv_iload_n X.1 X.2.1 dX7_winners_57 rfl (lv_at hl 5 rfl) ?_
              refine on_Si (run_V (C := RX7) (As := [.int (nI a), .int (nI s9)]) (rest := []) X (c_X7_length l G hp M sc ar sm hM hT a s9 (by omega) (by omega)) (rp_blind _) (rp_at X hH hS) (recv X hH hM.1 (C := RX7) (T := TX7) (N := 19) rfl) mf_X7_length tw_943 tw_945 tw_34 ⟨rfl, rfl, Nat.le_of_ble_eq_true rfl, Nat.le_of_ble_eq_true rfl⟩ hl.1 rfl rfl (Nat.le_of_ble_eq_true rfl) ⟨Nat.le_of_ble_eq_true rfl, Nat.le_of_ble_eq_true rfl⟩ dX7_winners_58) (fun r_58 q_58 => ?_)
              obtain rfl : r_58 = (nI (lenH a s9)) := q_58
              refine lv_goto (tgt := 70) X.1 X.2.1 dX7_winners_61 (by decide) ?_
              refine lv_istore (lv' := [(6, .int (nI (lenH a s9))), (5, .int 4), (4, .int (nI z_10)), (0, .ref (M 0)), (1, .int (nI a)), (2, .int (nI b)), (3, .int (nI s9))]) X.1 X.2.1 dX7_winners_70 hl (by decide) rfl (fun ls hl => ?_)
              refine lv_iload X.1 X.2.1 dX7_winners_72 (lv_at hl 1 rfl) ?_
              refine lv_iload X.1 X.2.1 dX7_winners_74 (lv_at hl 0 rfl) ?_
              refine lv_icmp_ge (tgt := 84) X.1 X.2.1 dX7_winners_76 (by decide) (fun c_76 => ?_) (fun c_76 => ?_)
              · have k_76 := k_le (a := (lenH a s9)) (b := 4) (by omega) (by omega) c_76
                refine lv_iload X.1 X.2.1 dX7_winners_84 (lv_at hl 0 rfl) ?_
                exact ro_i X hr hlk (by show nI (lenH a s9) = nI _; refine congrArg nI ?_; unfold wnN; rw [← su_or, ← ez_10]; unfold ldN; rw [if_pos (show z_10 / 16 % 2 = 1 by assumption)]; rw [if_pos (show z_10 / 8 % 2 = 1 by assumption)]; rw [if_pos (show z_10 / 4 % 2 = 1 by assumption)]; rw [if_pos (show z_10 / 2 % 2 = 1 by assumption)]; rw [if_neg (show ¬ z_10 % 2 = 1 by assumption)]; unfold lenH at *; omega) dX7_winners_86
              · have k_76 := k_nle (a := (lenH a s9)) (b := 4) (by omega) (by omega) c_76
                refine lv_iload X.1 X.2.1 dX7_winners_79 (lv_at hl 1 rfl) ?_
                refine lv_goto (tgt := 86) X.1 X.2.1 dX7_winners_81 (by decide) ?_
                exact ro_i X hr hlk (by show nI 4 = nI _; refine congrArg nI ?_; unfold wnN; rw [← su_or, ← ez_10]; unfold ldN; rw [if_pos (show z_10 / 16 % 2 = 1 by assumption)]; rw [if_pos (show z_10 / 8 % 2 = 1 by assumption)]; rw [if_pos (show z_10 / 4 % 2 = 1 by assumption)]; rw [if_pos (show z_10 / 2 % 2 = 1 by assumption)]; rw [if_neg (show ¬ z_10 % 2 = 1 by assumption)]; unfold lenH at *; omega) dX7_winners_86
          · have k_31 := k_eq (a := (z_10 % 2)) (b := 1) (by omega) (by omega) c_31
            refine lv_iinc (v := 5) (lv' := [(5, .int 5), (4, .int (nI z_10)), (0, .ref (M 0)), (1, .int (nI a)), (2, .int (nI b)), (3, .int (nI s9))]) X.1 X.2.1 dX7_winners_34 hl (k := 0) rfl (by decide) (by decide) rfl (fun ls hl => ?_)
            refine lv_goto (tgt := 15) X.1 X.2.1 dX7_winners_37 (by decide) ?_
            refine lv_iload X.1 X.2.1 dX7_winners_15 (lv_at hl 0 rfl) ?_
            refine lv_iconst (v := 5) X.1 X.2.1 dX7_winners_17 (by decide) ?_
            refine lv_icmp_ge (tgt := 40) X.1 X.2.1 dX7_winners_18 (by decide) (fun c_18 => ?_) (fun c_18 => absurd (by decide) c_18)
            refine lv_aload_n X.1 X.2.1 dX7_winners_40 rfl (lv_at hl 2 rfl) ?_
            refine lv_iload_n X.1 X.2.1 dX7_winners_41 rfl (lv_at hl 3 rfl) ?_
            refine lv_iload_n X.1 X.2.1 dX7_winners_42 rfl (lv_at hl 5 rfl) ?_
            refine on_Si (run_V (C := RX7) (As := [.int (nI a), .int (nI s9)]) (rest := []) X (c_X7_length l G hp M sc ar sm hM hT a s9 (by omega) (by omega)) (rp_blind _) (rp_at X hH hS) (recv X hH hM.1 (C := RX7) (T := TX7) (N := 19) rfl) mf_X7_length tw_943 tw_945 tw_34 ⟨rfl, rfl, Nat.le_of_ble_eq_true rfl, Nat.le_of_ble_eq_true rfl⟩ hl.1 rfl rfl (Nat.le_of_ble_eq_true rfl) ⟨Nat.le_of_ble_eq_true rfl, Nat.le_of_ble_eq_true rfl⟩ dX7_winners_43) (fun r_43 q_43 => ?_)
            obtain rfl : r_43 = (nI (lenH a s9)) := q_43
            refine lv_aload_n X.1 X.2.1 dX7_winners_46 rfl (lv_at hl 2 rfl) ?_
            refine lv_iload_n X.1 X.2.1 dX7_winners_47 rfl (lv_at hl 4 rfl) ?_
            refine lv_iload_n X.1 X.2.1 dX7_winners_48 rfl (lv_at hl 5 rfl) ?_
            refine on_Si (run_V (C := RX7) (As := [.int (nI b), .int (nI s9)]) (rest := [.int (nI (lenH a s9))]) X (c_X7_length l G hp M sc ar sm hM hT b s9 (by omega) (by omega)) (rp_blind _) (rp_at X hH hS) (recv X hH hM.1 (C := RX7) (T := TX7) (N := 19) rfl) mf_X7_length tw_943 tw_945 tw_34 ⟨rfl, rfl, Nat.le_of_ble_eq_true rfl, Nat.le_of_ble_eq_true rfl⟩ hl.1 rfl rfl (Nat.le_of_ble_eq_true rfl) ⟨Nat.le_of_ble_eq_true rfl, Nat.le_of_ble_eq_true rfl⟩ dX7_winners_49) (fun r_49 q_49 => ?_)
            obtain rfl : r_49 = (nI (lenH b s9)) := q_49
            refine lv_icmp_le (tgt := 64) X.1 X.2.1 dX7_winners_52 (by decide) (fun c_52 => ?_) (fun c_52 => ?_)
            · have k_52 := k_le (a := (lenH a s9)) (b := (lenH b s9)) (by omega) (by omega) c_52
              refine lv_aload_n X.1 X.2.1 dX7_winners_64 rfl (lv_at hl 2 rfl) ?_
              refine lv_iload_n X.1 X.2.1 dX7_winners_65 rfl (lv_at hl 4 rfl) ?_
              refine lv_iload_n X.1 X.2.1 dX7_winners_66 rfl (lv_at hl 5 rfl) ?_
              refine on_Si (run_V (C := RX7) (As := [.int (nI b), .int (nI s9)]) (rest := []) X (c_X7_length l G hp M sc ar sm hM hT b s9 (by omega) (by omega)) (rp_blind _) (rp_at X hH hS) (recv X hH hM.1 (C := RX7) (T := TX7) (N := 19) rfl) mf_X7_length tw_943 tw_945 tw_34 ⟨rfl, rfl, Nat.le_of_ble_eq_true rfl, Nat.le_of_ble_eq_true rfl⟩ hl.1 rfl rfl (Nat.le_of_ble_eq_true rfl) ⟨Nat.le_of_ble_eq_true rfl, Nat.le_of_ble_eq_true rfl⟩ dX7_winners_67) (fun r_67 q_67 => ?_)
              obtain rfl : r_67 = (nI (lenH b s9)) := q_67
              refine lv_istore (lv' := [(6, .int (nI (lenH b s9))), (5, .int 5), (4, .int (nI z_10)), (0, .ref (M 0)), (1, .int (nI a)), (2, .int (nI b)), (3, .int (nI s9))]) X.1 X.2.1 dX7_winners_70 hl (by decide) rfl (fun ls hl => ?_)
              refine lv_iload X.1 X.2.1 dX7_winners_72 (lv_at hl 1 rfl) ?_
              refine lv_iload X.1 X.2.1 dX7_winners_74 (lv_at hl 0 rfl) ?_
              refine lv_icmp_ge (tgt := 84) X.1 X.2.1 dX7_winners_76 (by decide) (fun c_76 => ?_) (fun c_76 => ?_)
              · have k_76 := k_le (a := (lenH b s9)) (b := 5) (by omega) (by omega) c_76
                refine lv_iload X.1 X.2.1 dX7_winners_84 (lv_at hl 0 rfl) ?_
                exact ro_i X hr hlk (by show nI (lenH b s9) = nI _; refine congrArg nI ?_; unfold wnN; rw [← su_or, ← ez_10]; unfold ldN; rw [if_pos (show z_10 / 16 % 2 = 1 by assumption)]; rw [if_pos (show z_10 / 8 % 2 = 1 by assumption)]; rw [if_pos (show z_10 / 4 % 2 = 1 by assumption)]; rw [if_pos (show z_10 / 2 % 2 = 1 by assumption)]; rw [if_pos (show z_10 % 2 = 1 by assumption)]; unfold lenH at *; omega) dX7_winners_86
              · have k_76 := k_nle (a := (lenH b s9)) (b := 5) (by omega) (by omega) c_76
                refine lv_iload X.1 X.2.1 dX7_winners_79 (lv_at hl 1 rfl) ?_
                refine lv_goto (tgt := 86) X.1 X.2.1 dX7_winners_81 (by decide) ?_
                exact ro_i X hr hlk (by show nI 5 = nI _; refine congrArg nI ?_; unfold wnN; rw [← su_or, ← ez_10]; unfold ldN; rw [if_pos (show z_10 / 16 % 2 = 1 by assumption)]; rw [if_pos (show z_10 / 8 % 2 = 1 by assumption)]; rw [if_pos (show z_10 / 4 % 2 = 1 by assumption)]; rw [if_pos (show z_10 / 2 % 2 = 1 by assumption)]; rw [if_pos (show z_10 % 2 = 1 by assumption)]; unfold lenH at *; omega) dX7_winners_86
            · have k_52 := k_nle (a := (lenH a s9)) (b := (lenH b s9)) (by omega) (by omega) c_52
              refine lv_aload_n X.1 X.2.1 dX7_winners_55 rfl (lv_at hl 2 rfl) ?_
              refine lv_iload_n X.1 X.2.1 dX7_winners_56 rfl (lv_at hl 3 rfl) ?_
              refine lv_iload_n X.1 X.2.1 dX7_winners_57 rfl (lv_at hl 5 rfl) ?_
              refine on_Si (run_V (C := RX7) (As := [.int (nI a), .int (nI s9)]) (rest := []) X (c_X7_length l G hp M sc ar sm hM hT a s9 (by omega) (by omega)) (rp_blind _) (rp_at X hH hS) (recv X hH hM.1 (C := RX7) (T := TX7) (N := 19) rfl) mf_X7_length tw_943 tw_945 tw_34 ⟨rfl, rfl, Nat.le_of_ble_eq_true rfl, Nat.le_of_ble_eq_true rfl⟩ hl.1 rfl rfl (Nat.le_of_ble_eq_true rfl) ⟨Nat.le_of_ble_eq_true rfl, Nat.le_of_ble_eq_true rfl⟩ dX7_winners_58) (fun r_58 q_58 => ?_)
              obtain rfl : r_58 = (nI (lenH a s9)) := q_58
              refine lv_goto (tgt := 70) X.1 X.2.1 dX7_winners_61 (by decide) ?_
              refine lv_istore (lv' := [(6, .int (nI (lenH a s9))), (5, .int 5), (4, .int (nI z_10)), (0, .ref (M 0)), (1, .int (nI a)), (2, .int (nI b)), (3, .int (nI s9))]) X.1 X.2.1 dX7_winners_70 hl (by decide) rfl (fun ls hl => ?_)
              refine lv_iload X.1 X.2.1 dX7_winners_72 (lv_at hl 1 rfl) ?_
              refine lv_iload X.1 X.2.1 dX7_winners_74 (lv_at hl 0 rfl) ?_
              refine lv_icmp_ge (tgt := 84) X.1 X.2.1 dX7_winners_76 (by decide) (fun c_76 => ?_) (fun c_76 => ?_)
              · have k_76 := k_le (a := (lenH a s9)) (b := 5) (by omega) (by omega) c_76
                refine lv_iload X.1 X.2.1 dX7_winners_84 (lv_at hl 0 rfl) ?_
                exact ro_i X hr hlk (by show nI (lenH a s9) = nI _; refine congrArg nI ?_; unfold wnN; rw [← su_or, ← ez_10]; unfold ldN; rw [if_pos (show z_10 / 16 % 2 = 1 by assumption)]; rw [if_pos (show z_10 / 8 % 2 = 1 by assumption)]; rw [if_pos (show z_10 / 4 % 2 = 1 by assumption)]; rw [if_pos (show z_10 / 2 % 2 = 1 by assumption)]; rw [if_pos (show z_10 % 2 = 1 by assumption)]; unfold lenH at *; omega) dX7_winners_86
              · have k_76 := k_nle (a := (lenH a s9)) (b := 5) (by omega) (by omega) c_76
                refine lv_iload X.1 X.2.1 dX7_winners_79 (lv_at hl 1 rfl) ?_
                refine lv_goto (tgt := 86) X.1 X.2.1 dX7_winners_81 (by decide) ?_
                exact ro_i X hr hlk (by show nI 5 = nI _; refine congrArg nI ?_; unfold wnN; rw [← su_or, ← ez_10]; unfold ldN; rw [if_pos (show z_10 / 16 % 2 = 1 by assumption)]; rw [if_pos (show z_10 / 8 % 2 = 1 by assumption)]; rw [if_pos (show z_10 / 4 % 2 = 1 by assumption)]; rw [if_pos (show z_10 / 2 % 2 = 1 by assumption)]; rw [if_pos (show z_10 % 2 = 1 by assumption)]; unfold lenH at *; omega) dX7_winners_86

set_option maxHeartbeats 4000000 in
set_option maxRecDepth 100000 in
theorem c_X7_ruffs (l : Launch) (G : HG) (hp : HP) (M : Nat → Nat) (sc : Nat → Int32) (ar : Nat → Nat → Int32) (sm : Nat → Int64) (hM : MR G hp M sc ar sm) (hT : MT ar) (a b s9 t9 : Nat) (ha : a < 2 ^ 20) (hb : b < 2 ^ 20) (hs : s9 < 4) (ht : t9 < 4) : Met l yX7_ruffs [.code yX7_ruffs cX7_ruffs 5 (some .boolean)] { frames := 1, cells := 0, slots := 0, locals := 22 } (va_Pc [.ref (M 0), .int (nI a), .int (nI b), .int (nI s9), .int (nI t9)] (RP G hp)) (vp_Si (fun r => r = bI (rufB a b s9 t9))) 0 0 (fun _ => False) := by
  refine ro_ofW (by decide) (Nat.le_of_ble_eq_true rfl) ?_
  intro p e s m args below meth c ls X hr hlk hH hl
  have hS : va_S (fun _ => False) s.heap s.heap [] := va_S.rf
  have hl : lv_has ls 5 [(0, .ref (M 0)), (1, .int (nI a)), (2, .int (nI b)), (3, .int (nI s9)), (4, .int (nI t9))] := hl
  have hla := lenH_le a s9
  have hlb := lenH_le b s9
  have hlc := lenH_le a t9
  refine lv_iload_n X.1 X.2.1 dX7_ruffs_0 rfl (lv_at hl 3 rfl) ?_
  refine lv_iload X.1 X.2.1 dX7_ruffs_1 (lv_at hl 4 rfl) ?_
  refine lv_icmp_eq (tgt := 38) X.1 X.2.1 dX7_ruffs_3 (by decide) (fun c_3 => ?_) (fun c_3 => ?_)
  · have k_3 := k_eq (a := s9) (b := t9) (by omega) (by omega) c_3
    refine lv_iconst (v := 0) X.1 X.2.1 dX7_ruffs_38 (by decide) ?_
    exact ro_z X hr hlk rfl (by show (_ : Int32) = bI _; unfold rufB rfN; rw [decide_eq_false (fun q => q k_3)]; rfl) dX7_ruffs_39
  · have k_3 := k_ne (a := s9) (b := t9) (by omega) (by omega) c_3
    refine lv_aload_n X.1 X.2.1 dX7_ruffs_6 rfl (lv_at hl 0 rfl) ?_
    refine lv_iload_n X.1 X.2.1 dX7_ruffs_7 rfl (lv_at hl 1 rfl) ?_
    refine lv_iload_n X.1 X.2.1 dX7_ruffs_8 rfl (lv_at hl 3 rfl) ?_
    refine on_Si (run_V (C := RX7) (As := [.int (nI a), .int (nI s9)]) (rest := []) X (c_X7_length l G hp M sc ar sm hM hT a s9 (by omega) (by omega)) (rp_blind _) (rp_at X hH hS) (recv X hH hM.1 (C := RX7) (T := TX7) (N := 19) rfl) mf_X7_length tw_943 tw_945 tw_34 ⟨rfl, rfl, Nat.le_of_ble_eq_true rfl, Nat.le_of_ble_eq_true rfl⟩ hl.1 rfl rfl (Nat.le_of_ble_eq_true rfl) ⟨Nat.le_of_ble_eq_true rfl, Nat.le_of_ble_eq_true rfl⟩ dX7_ruffs_9) (fun r_9 q_9 => ?_)
    obtain rfl : r_9 = (nI (lenH a s9)) := q_9
    refine lv_if_ne (tgt := 38) X.1 X.2.1 dX7_ruffs_12 (by decide) (fun c_12 => ?_) (fun c_12 => ?_)
    · have k_12 := k_ne (a := (lenH a s9)) (b := 0) (by omega) (by omega) c_12
      refine lv_iconst (v := 0) X.1 X.2.1 dX7_ruffs_38 (by decide) ?_
      exact ro_z X hr hlk rfl (by show (_ : Int32) = bI _; unfold rufB rfN; rw [decide_eq_true k_3]; rw [if_neg (fun q => k_12 ((lenH_0 _ _).mpr q.1))]; rfl) dX7_ruffs_39
    · have k_12 := k_eq (a := (lenH a s9)) (b := 0) (by omega) (by omega) c_12
      refine lv_aload_n X.1 X.2.1 dX7_ruffs_15 rfl (lv_at hl 0 rfl) ?_
      refine lv_iload_n X.1 X.2.1 dX7_ruffs_16 rfl (lv_at hl 1 rfl) ?_
      refine lv_iload X.1 X.2.1 dX7_ruffs_17 (lv_at hl 4 rfl) ?_
      refine on_Si (run_V (C := RX7) (As := [.int (nI a), .int (nI t9)]) (rest := []) X (c_X7_length l G hp M sc ar sm hM hT a t9 (by omega) (by omega)) (rp_blind _) (rp_at X hH hS) (recv X hH hM.1 (C := RX7) (T := TX7) (N := 19) rfl) mf_X7_length tw_943 tw_945 tw_34 ⟨rfl, rfl, Nat.le_of_ble_eq_true rfl, Nat.le_of_ble_eq_true rfl⟩ hl.1 rfl rfl (Nat.le_of_ble_eq_true rfl) ⟨Nat.le_of_ble_eq_true rfl, Nat.le_of_ble_eq_true rfl⟩ dX7_ruffs_19) (fun r_19 q_19 => ?_)
      obtain rfl : r_19 = (nI (lenH a t9)) := q_19
      refine lv_if_le (tgt := 38) X.1 X.2.1 dX7_ruffs_22 (by decide) (fun c_22 => ?_) (fun c_22 => ?_)
      · have k_22 := k_le (a := (lenH a t9)) (b := 0) (by omega) (by omega) c_22
        refine lv_iconst (v := 0) X.1 X.2.1 dX7_ruffs_38 (by decide) ?_
        exact ro_z X hr hlk rfl (by show (_ : Int32) = bI _; unfold rufB rfN; rw [decide_eq_true k_3]; rw [if_neg (fun q => q.2.1 ((lenH_0 _ _).mp (by omega)))]; rfl) dX7_ruffs_39
      · have k_22 := k_nle (a := (lenH a t9)) (b := 0) (by omega) (by omega) c_22
        refine lv_aload_n X.1 X.2.1 dX7_ruffs_25 rfl (lv_at hl 0 rfl) ?_
        refine lv_iload_n X.1 X.2.1 dX7_ruffs_26 rfl (lv_at hl 2 rfl) ?_
        refine lv_iload_n X.1 X.2.1 dX7_ruffs_27 rfl (lv_at hl 3 rfl) ?_
        refine on_Si (run_V (C := RX7) (As := [.int (nI b), .int (nI s9)]) (rest := []) X (c_X7_length l G hp M sc ar sm hM hT b s9 (by omega) (by omega)) (rp_blind _) (rp_at X hH hS) (recv X hH hM.1 (C := RX7) (T := TX7) (N := 19) rfl) mf_X7_length tw_943 tw_945 tw_34 ⟨rfl, rfl, Nat.le_of_ble_eq_true rfl, Nat.le_of_ble_eq_true rfl⟩ hl.1 rfl rfl (Nat.le_of_ble_eq_true rfl) ⟨Nat.le_of_ble_eq_true rfl, Nat.le_of_ble_eq_true rfl⟩ dX7_ruffs_28) (fun r_28 q_28 => ?_)
        obtain rfl : r_28 = (nI (lenH b s9)) := q_28
        refine lv_if_le (tgt := 38) X.1 X.2.1 dX7_ruffs_31 (by decide) (fun c_31 => ?_) (fun c_31 => ?_)
        · have k_31 := k_le (a := (lenH b s9)) (b := 0) (by omega) (by omega) c_31
          refine lv_iconst (v := 0) X.1 X.2.1 dX7_ruffs_38 (by decide) ?_
          exact ro_z X hr hlk rfl (by show (_ : Int32) = bI _; unfold rufB rfN; rw [decide_eq_true k_3]; rw [if_neg (fun q => q.2.2 ((lenH_0 _ _).mp (by omega)))]; rfl) dX7_ruffs_39
        · have k_31 := k_nle (a := (lenH b s9)) (b := 0) (by omega) (by omega) c_31
          refine lv_iconst (v := 1) X.1 X.2.1 dX7_ruffs_34 (by decide) ?_
          refine lv_goto (tgt := 39) X.1 X.2.1 dX7_ruffs_35 (by decide) ?_
          exact ro_z X hr hlk rfl (by show (_ : Int32) = bI _; unfold rufB rfN; rw [decide_eq_true k_3]; rw [if_pos ⟨(lenH_0 _ _).mp k_12, fun q => absurd ((lenH_0 _ _).mpr q) (by omega), fun q => absurd ((lenH_0 _ _).mpr q) (by omega)⟩]; rfl) dX7_ruffs_39

set_option maxHeartbeats 4000000 in
set_option maxRecDepth 100000 in
theorem c_X7_tricksOf (l : Launch) (G : HG) (hp : HP) (M : Nat → Nat) (sc : Nat → Int32) (ar : Nat → Nat → Int32) (sm : Nat → Int64) (hM : MR G hp M sc ar sm) (hT : MT ar) (t9 a b : Nat) (ha : a < 2 ^ 20) (hb : b < 2 ^ 20) (ht : t9 < 5) : Met l yX7_tricksOf [.code yX7_tricksOf cX7_tricksOf 6 (some .int)] { frames := 2, cells := 0, slots := 0, locals := 48 } (va_Pc [.ref (M 0), .int (nI t9), .int (nI a), .int (nI b)] (RP G hp)) (vp_Si (fun r => r = nI (trN t9 a b))) 0 0 (fun _ => False) := by
  refine ro_ofW (by decide) (Nat.le_of_ble_eq_true rfl) ?_
  intro p e s m args below meth c ls X hr hlk hH hl
  have hS : va_S (fun _ => False) s.heap s.heap [] := va_S.rf
  have hl : lv_has ls 6 [(0, .ref (M 0)), (1, .int (nI t9)), (2, .int (nI a)), (3, .int (nI b))] := hl
  refine lv_iconst (v := 0) X.1 X.2.1 dX7_tricksOf_0 (by decide) ?_
  refine lv_istore (lv' := [(4, .int 0), (0, .ref (M 0)), (1, .int (nI t9)), (2, .int (nI a)), (3, .int (nI b))]) X.1 X.2.1 dX7_tricksOf_1 hl (by decide) rfl (fun ls hl => ?_)
  refine lv_iconst (v := 0) X.1 X.2.1 dX7_tricksOf_3 (by decide) ?_
  refine lv_istore (lv' := [(5, .int 0), (4, .int 0), (0, .ref (M 0)), (1, .int (nI t9)), (2, .int (nI a)), (3, .int (nI b))]) X.1 X.2.1 dX7_tricksOf_4 hl (by decide) rfl (fun ls hl => ?_)
  have L6 : ∀ (f : Nat) (i : Nat), i + f = 4 → ∀ ls, lv_has ls 6 [(0, .ref (M 0)), (1, .int (nI t9)), (2, .int (nI a)), (3, .int (nI b)), (4, .int (nI (trP t9 a b i))), (5, .int (nI i))] → W p l e ({ frames := 2, cells := 0, slots := 0, locals := 48 } : Room) s m args below meth c s.heap [] 0 0 (MQ below (vp_Si (fun r => r = nI (trN t9 a b))) args s 0 0 (fun _ => False)) (F0 m 6 ls []) := by
    intro f
    induction f with
    | zero =>
      intro i h0 ls hl
      have h4 : i = 4 := by omega
      have htp := trP_le t9 a b i
      refine lv_iload X.1 X.2.1 dX7_tricksOf_6 (lv_at hl 5 rfl) ?_
      refine lv_iconst (v := 4) X.1 X.2.1 dX7_tricksOf_8 (by decide) ?_
      refine lv_icmp_ge (tgt := 80) X.1 X.2.1 dX7_tricksOf_9 (by decide) (fun c_9 => ?_) (fun c_9 => absurd (nI_le (a := 4) (b := i) (by omega) (by omega)) c_9)
      refine lv_iload X.1 X.2.1 dX7_tricksOf_80 (lv_at hl 4 rfl) ?_
      refine lv_iconst (v := 5) X.1 X.2.1 dX7_tricksOf_82 (by decide) ?_
      refine lv_icmp_ge (tgt := 91) X.1 X.2.1 dX7_tricksOf_83 (by decide) (fun c_83 => ?_) (fun c_83 => ?_)
      · have k_83 := k_le (a := 5) (b := (trP t9 a b i)) (by omega) (by omega) c_83
        refine lv_iconst (v := 5) X.1 X.2.1 dX7_tricksOf_91 (by decide) ?_
        exact ro_i X hr hlk (by show nI 5 = nI _; refine congrArg nI ?_; rw [trN_P, ← h4]; omega) dX7_tricksOf_92
      · have k_83 := k_nle (a := 5) (b := (trP t9 a b i)) (by omega) (by omega) c_83
        refine lv_iload X.1 X.2.1 dX7_tricksOf_86 (lv_at hl 4 rfl) ?_
        refine lv_goto (tgt := 92) X.1 X.2.1 dX7_tricksOf_88 (by decide) ?_
        exact ro_i X hr hlk (by show nI (trP t9 a b i) = nI _; refine congrArg nI ?_; rw [trN_P, ← h4]; omega) dX7_tricksOf_92
    | succ f ih =>
      intro i h0 ls hl
      have h4 : i < 4 := by omega
      have hw := wnN_le (su a i) (su b i)
      have htp := trP_le t9 a b i
      refine lv_iload X.1 X.2.1 dX7_tricksOf_6 (lv_at hl 5 rfl) ?_
      refine lv_iconst (v := 4) X.1 X.2.1 dX7_tricksOf_8 (by decide) ?_
      refine lv_icmp_ge (tgt := 80) X.1 X.2.1 dX7_tricksOf_9 (by decide) (fun c_9 => absurd c_9 (nI_ge (a := i) (b := 4) (by omega) (by decide))) (fun c_9 => ?_)
      refine lv_iload X.1 X.2.1 dX7_tricksOf_12 (lv_at hl 4 rfl) ?_
      refine lv_aload_n X.1 X.2.1 dX7_tricksOf_14 rfl (lv_at hl 0 rfl) ?_
      refine lv_iload_n X.1 X.2.1 dX7_tricksOf_15 rfl (lv_at hl 2 rfl) ?_
      refine lv_iload_n X.1 X.2.1 dX7_tricksOf_16 rfl (lv_at hl 3 rfl) ?_
      refine lv_iload X.1 X.2.1 dX7_tricksOf_17 (lv_at hl 5 rfl) ?_
      refine on_Si (run_V (C := RX7) (As := [.int (nI a), .int (nI b), .int (nI i)]) (rest := [.int (nI (trP t9 a b i))]) X (c_X7_winners l G hp M sc ar sm hM hT a b i (by omega) (by omega) (by omega)) (rp_blind _) (rp_at X hH hS) (recv X hH hM.1 (C := RX7) (T := TX7) (N := 19) rfl) mf_X7_winners tw_1081 tw_1083 tw_46 ⟨rfl, rfl, Nat.le_of_ble_eq_true rfl, Nat.le_of_ble_eq_true rfl⟩ hl.1 rfl rfl (Nat.le_of_ble_eq_true rfl) ⟨Nat.le_of_ble_eq_true rfl, Nat.le_of_ble_eq_true rfl⟩ dX7_tricksOf_19) (fun r_19 q_19 => ?_)
      obtain rfl : r_19 = (nI (wnN (su a i) (su b i))) := q_19
      refine lv_iadd X.1 X.2.1 dX7_tricksOf_22 ?_
      refine r_eqi (show (((nI (trP t9 a b i)) + (nI (wnN (su a i) (su b i)))) : Int32) = nI ((trP t9 a b i) + (wnN (su a i) (su b i))) from nI_add (trP t9 a b i) (wnN (su a i) (su b i))) ?_
      refine lv_istore (lv' := [(4, .int (nI ((trP t9 a b i) + (wnN (su a i) (su b i))))), (0, .ref (M 0)), (1, .int (nI t9)), (2, .int (nI a)), (3, .int (nI b)), (5, .int (nI i))]) X.1 X.2.1 dX7_tricksOf_23 hl (by decide) rfl (fun ls hl => ?_)
      refine lv_iload_n X.1 X.2.1 dX7_tricksOf_25 rfl (lv_at hl 2 rfl) ?_
      refine lv_iconst (v := 4) X.1 X.2.1 dX7_tricksOf_26 (by decide) ?_
      refine lv_icmp_ge (tgt := 74) X.1 X.2.1 dX7_tricksOf_27 (by decide) (fun c_27 => ?_) (fun c_27 => ?_)
      · have k_27 := k_le (a := 4) (b := t9) (by omega) (by omega) c_27
        refine lv_iinc (v := (nI (i + 1))) (lv' := [(5, .int (nI (i + 1))), (4, .int (nI ((trP t9 a b i) + (wnN (su a i) (su b i))))), (0, .ref (M 0)), (1, .int (nI t9)), (2, .int (nI a)), (3, .int (nI b))]) X.1 X.2.1 dX7_tricksOf_74 hl (k := 5) rfl (nI_add i 1) (by decide) rfl (fun ls hl => ?_)
        refine lv_goto (tgt := 6) X.1 X.2.1 dX7_tricksOf_77 (by decide) ?_
        exact ih (i + 1) (by omega) ls (by rw [show trP t9 a b (i + 1) = ((trP t9 a b i) + (wnN (su a i) (su b i))) from by show trP t9 a b i + trS t9 a b i = _; unfold trS; split <;> omega]; exact (lv_sub hl [2, 3, 4, 5, 1, 0] rfl))
      · have k_27 := k_nle (a := 4) (b := t9) (by omega) (by omega) c_27
        refine lv_iload X.1 X.2.1 dX7_tricksOf_30 (lv_at hl 0 rfl) ?_
        refine lv_aload_n X.1 X.2.1 dX7_tricksOf_32 rfl (lv_at hl 1 rfl) ?_
        refine lv_iload_n X.1 X.2.1 dX7_tricksOf_33 rfl (lv_at hl 3 rfl) ?_
        refine lv_iload_n X.1 X.2.1 dX7_tricksOf_34 rfl (lv_at hl 4 rfl) ?_
        refine lv_iload X.1 X.2.1 dX7_tricksOf_35 (lv_at hl 5 rfl) ?_
        refine lv_iload_n X.1 X.2.1 dX7_tricksOf_37 rfl (lv_at hl 2 rfl) ?_
        refine on_Si (run_V (C := RX7) (As := [.int (nI a), .int (nI b), .int (nI i), .int (nI t9)]) (rest := [.int (nI ((trP t9 a b i) + (wnN (su a i) (su b i))))]) X (c_X7_ruffs l G hp M sc ar sm hM hT a b i t9 (by omega) (by omega) (by omega) (by omega)) (rp_blind _) (rp_at X hH hS) (recv X hH hM.1 (C := RX7) (T := TX7) (N := 19) rfl) mf_X7_ruffs tw_1085 tw_1087 tw_47 ⟨rfl, rfl, Nat.le_of_ble_eq_true rfl, Nat.le_of_ble_eq_true rfl⟩ hl.1 rfl rfl (Nat.le_of_ble_eq_true rfl) ⟨Nat.le_of_ble_eq_true rfl, Nat.le_of_ble_eq_true rfl⟩ dX7_tricksOf_38) (fun r_38 q_38 => ?_)
        obtain rfl : r_38 = (bI (rufB a b i t9)) := q_38
        refine lv_if_eq (tgt := 48) X.1 X.2.1 dX7_tricksOf_41 (by decide) (fun c_41 => ?_) (fun c_41 => ?_)
        · have g41 := rufB_0 c_41
          refine lv_iconst (v := 0) X.1 X.2.1 dX7_tricksOf_48 (by decide) ?_
          refine lv_iadd X.1 X.2.1 dX7_tricksOf_49 ?_
          refine r_eqi (show (((nI ((trP t9 a b i) + (wnN (su a i) (su b i)))) + 0) : Int32) = nI ((trP t9 a b i) + (wnN (su a i) (su b i))) from nI_add ((trP t9 a b i) + (wnN (su a i) (su b i))) 0) ?_
          refine lv_istore (lv' := [(4, .int (nI ((trP t9 a b i) + (wnN (su a i) (su b i))))), (0, .ref (M 0)), (1, .int (nI t9)), (2, .int (nI a)), (3, .int (nI b)), (5, .int (nI i))]) X.1 X.2.1 dX7_tricksOf_50 hl (by decide) rfl (fun ls hl => ?_)
          refine lv_iload X.1 X.2.1 dX7_tricksOf_52 (lv_at hl 0 rfl) ?_
          refine lv_aload_n X.1 X.2.1 dX7_tricksOf_54 rfl (lv_at hl 1 rfl) ?_
          refine lv_iload_n X.1 X.2.1 dX7_tricksOf_55 rfl (lv_at hl 4 rfl) ?_
          refine lv_iload_n X.1 X.2.1 dX7_tricksOf_56 rfl (lv_at hl 3 rfl) ?_
          refine lv_iload X.1 X.2.1 dX7_tricksOf_57 (lv_at hl 5 rfl) ?_
          refine lv_iload_n X.1 X.2.1 dX7_tricksOf_59 rfl (lv_at hl 2 rfl) ?_
          refine on_Si (run_V (C := RX7) (As := [.int (nI b), .int (nI a), .int (nI i), .int (nI t9)]) (rest := [.int (nI ((trP t9 a b i) + (wnN (su a i) (su b i))))]) X (c_X7_ruffs l G hp M sc ar sm hM hT b a i t9 (by omega) (by omega) (by omega) (by omega)) (rp_blind _) (rp_at X hH hS) (recv X hH hM.1 (C := RX7) (T := TX7) (N := 19) rfl) mf_X7_ruffs tw_1085 tw_1087 tw_47 ⟨rfl, rfl, Nat.le_of_ble_eq_true rfl, Nat.le_of_ble_eq_true rfl⟩ hl.1 rfl rfl (Nat.le_of_ble_eq_true rfl) ⟨Nat.le_of_ble_eq_true rfl, Nat.le_of_ble_eq_true rfl⟩ dX7_tricksOf_60) (fun r_60 q_60 => ?_)
          obtain rfl : r_60 = (bI (rufB b a i t9)) := q_60
          refine lv_if_eq (tgt := 70) X.1 X.2.1 dX7_tricksOf_63 (by decide) (fun c_63 => ?_) (fun c_63 => ?_)
          · have g63 := rufB_0 c_63
            refine lv_iconst (v := 0) X.1 X.2.1 dX7_tricksOf_70 (by decide) ?_
            refine lv_iadd X.1 X.2.1 dX7_tricksOf_71 ?_
            refine r_eqi (show (((nI ((trP t9 a b i) + (wnN (su a i) (su b i)))) + 0) : Int32) = nI ((trP t9 a b i) + (wnN (su a i) (su b i))) from nI_add ((trP t9 a b i) + (wnN (su a i) (su b i))) 0) ?_
            refine lv_istore (lv' := [(4, .int (nI ((trP t9 a b i) + (wnN (su a i) (su b i))))), (0, .ref (M 0)), (1, .int (nI t9)), (2, .int (nI a)), (3, .int (nI b)), (5, .int (nI i))]) X.1 X.2.1 dX7_tricksOf_72 hl (by decide) rfl (fun ls hl => ?_)
            refine lv_iinc (v := (nI (i + 1))) (lv' := [(5, .int (nI (i + 1))), (4, .int (nI ((trP t9 a b i) + (wnN (su a i) (su b i))))), (0, .ref (M 0)), (1, .int (nI t9)), (2, .int (nI a)), (3, .int (nI b))]) X.1 X.2.1 dX7_tricksOf_74 hl (k := 5) rfl (nI_add i 1) (by decide) rfl (fun ls hl => ?_)
            refine lv_goto (tgt := 6) X.1 X.2.1 dX7_tricksOf_77 (by decide) ?_
            exact ih (i + 1) (by omega) ls (by rw [show trP t9 a b (i + 1) = ((trP t9 a b i) + (wnN (su a i) (su b i))) from by show trP t9 a b i + trS t9 a b i = _; unfold trS; split <;> omega]; exact (lv_sub hl [2, 3, 4, 5, 1, 0] rfl))
          · have g63 := rufB_1 c_63
            refine lv_iconst (v := 1) X.1 X.2.1 dX7_tricksOf_66 (by decide) ?_
            refine lv_goto (tgt := 71) X.1 X.2.1 dX7_tricksOf_67 (by decide) ?_
            refine lv_iadd X.1 X.2.1 dX7_tricksOf_71 ?_
            refine r_eqi (show (((nI ((trP t9 a b i) + (wnN (su a i) (su b i)))) + 1) : Int32) = nI (((trP t9 a b i) + (wnN (su a i) (su b i))) + 1) from nI_add ((trP t9 a b i) + (wnN (su a i) (su b i))) 1) ?_
            refine lv_istore (lv' := [(4, .int (nI (((trP t9 a b i) + (wnN (su a i) (su b i))) + 1))), (0, .ref (M 0)), (1, .int (nI t9)), (2, .int (nI a)), (3, .int (nI b)), (5, .int (nI i))]) X.1 X.2.1 dX7_tricksOf_72 hl (by decide) rfl (fun ls hl => ?_)
            refine lv_iinc (v := (nI (i + 1))) (lv' := [(5, .int (nI (i + 1))), (4, .int (nI (((trP t9 a b i) + (wnN (su a i) (su b i))) + 1))), (0, .ref (M 0)), (1, .int (nI t9)), (2, .int (nI a)), (3, .int (nI b))]) X.1 X.2.1 dX7_tricksOf_74 hl (k := 5) rfl (nI_add i 1) (by decide) rfl (fun ls hl => ?_)
            refine lv_goto (tgt := 6) X.1 X.2.1 dX7_tricksOf_77 (by decide) ?_
            exact ih (i + 1) (by omega) ls (by rw [show trP t9 a b (i + 1) = (((trP t9 a b i) + (wnN (su a i) (su b i))) + 1) from by show trP t9 a b i + trS t9 a b i = _; unfold trS; split <;> omega]; exact (lv_sub hl [2, 3, 4, 5, 1, 0] rfl))
        · have g41 := rufB_1 c_41
          refine lv_iconst (v := 1) X.1 X.2.1 dX7_tricksOf_44 (by decide) ?_
          refine lv_goto (tgt := 49) X.1 X.2.1 dX7_tricksOf_45 (by decide) ?_
          refine lv_iadd X.1 X.2.1 dX7_tricksOf_49 ?_
          refine r_eqi (show (((nI ((trP t9 a b i) + (wnN (su a i) (su b i)))) + 1) : Int32) = nI (((trP t9 a b i) + (wnN (su a i) (su b i))) + 1) from nI_add ((trP t9 a b i) + (wnN (su a i) (su b i))) 1) ?_
          refine lv_istore (lv' := [(4, .int (nI (((trP t9 a b i) + (wnN (su a i) (su b i))) + 1))), (0, .ref (M 0)), (1, .int (nI t9)), (2, .int (nI a)), (3, .int (nI b)), (5, .int (nI i))]) X.1 X.2.1 dX7_tricksOf_50 hl (by decide) rfl (fun ls hl => ?_)
          refine lv_iload X.1 X.2.1 dX7_tricksOf_52 (lv_at hl 0 rfl) ?_
          refine lv_aload_n X.1 X.2.1 dX7_tricksOf_54 rfl (lv_at hl 1 rfl) ?_
          refine lv_iload_n X.1 X.2.1 dX7_tricksOf_55 rfl (lv_at hl 4 rfl) ?_
          refine lv_iload_n X.1 X.2.1 dX7_tricksOf_56 rfl (lv_at hl 3 rfl) ?_
          refine lv_iload X.1 X.2.1 dX7_tricksOf_57 (lv_at hl 5 rfl) ?_
          refine lv_iload_n X.1 X.2.1 dX7_tricksOf_59 rfl (lv_at hl 2 rfl) ?_
          refine on_Si (run_V (C := RX7) (As := [.int (nI b), .int (nI a), .int (nI i), .int (nI t9)]) (rest := [.int (nI (((trP t9 a b i) + (wnN (su a i) (su b i))) + 1))]) X (c_X7_ruffs l G hp M sc ar sm hM hT b a i t9 (by omega) (by omega) (by omega) (by omega)) (rp_blind _) (rp_at X hH hS) (recv X hH hM.1 (C := RX7) (T := TX7) (N := 19) rfl) mf_X7_ruffs tw_1085 tw_1087 tw_47 ⟨rfl, rfl, Nat.le_of_ble_eq_true rfl, Nat.le_of_ble_eq_true rfl⟩ hl.1 rfl rfl (Nat.le_of_ble_eq_true rfl) ⟨Nat.le_of_ble_eq_true rfl, Nat.le_of_ble_eq_true rfl⟩ dX7_tricksOf_60) (fun r_60 q_60 => ?_)
          obtain rfl : r_60 = (bI (rufB b a i t9)) := q_60
          refine lv_if_eq (tgt := 70) X.1 X.2.1 dX7_tricksOf_63 (by decide) (fun c_63 => ?_) (fun c_63 => ?_)
          · have g63 := rufB_0 c_63
            refine lv_iconst (v := 0) X.1 X.2.1 dX7_tricksOf_70 (by decide) ?_
            refine lv_iadd X.1 X.2.1 dX7_tricksOf_71 ?_
            refine r_eqi (show (((nI (((trP t9 a b i) + (wnN (su a i) (su b i))) + 1)) + 0) : Int32) = nI (((trP t9 a b i) + (wnN (su a i) (su b i))) + 1) from nI_add (((trP t9 a b i) + (wnN (su a i) (su b i))) + 1) 0) ?_
            refine lv_istore (lv' := [(4, .int (nI (((trP t9 a b i) + (wnN (su a i) (su b i))) + 1))), (0, .ref (M 0)), (1, .int (nI t9)), (2, .int (nI a)), (3, .int (nI b)), (5, .int (nI i))]) X.1 X.2.1 dX7_tricksOf_72 hl (by decide) rfl (fun ls hl => ?_)
            refine lv_iinc (v := (nI (i + 1))) (lv' := [(5, .int (nI (i + 1))), (4, .int (nI (((trP t9 a b i) + (wnN (su a i) (su b i))) + 1))), (0, .ref (M 0)), (1, .int (nI t9)), (2, .int (nI a)), (3, .int (nI b))]) X.1 X.2.1 dX7_tricksOf_74 hl (k := 5) rfl (nI_add i 1) (by decide) rfl (fun ls hl => ?_)
            refine lv_goto (tgt := 6) X.1 X.2.1 dX7_tricksOf_77 (by decide) ?_
            exact ih (i + 1) (by omega) ls (by rw [show trP t9 a b (i + 1) = (((trP t9 a b i) + (wnN (su a i) (su b i))) + 1) from by show trP t9 a b i + trS t9 a b i = _; unfold trS; split <;> omega]; exact (lv_sub hl [2, 3, 4, 5, 1, 0] rfl))
          · have g63 := rufB_1 c_63
            refine lv_iconst (v := 1) X.1 X.2.1 dX7_tricksOf_66 (by decide) ?_
            refine lv_goto (tgt := 71) X.1 X.2.1 dX7_tricksOf_67 (by decide) ?_
            refine lv_iadd X.1 X.2.1 dX7_tricksOf_71 ?_
            refine r_eqi (show (((nI (((trP t9 a b i) + (wnN (su a i) (su b i))) + 1)) + 1) : Int32) = nI ((((trP t9 a b i) + (wnN (su a i) (su b i))) + 1) + 1) from nI_add (((trP t9 a b i) + (wnN (su a i) (su b i))) + 1) 1) ?_
            refine lv_istore (lv' := [(4, .int (nI ((((trP t9 a b i) + (wnN (su a i) (su b i))) + 1) + 1))), (0, .ref (M 0)), (1, .int (nI t9)), (2, .int (nI a)), (3, .int (nI b)), (5, .int (nI i))]) X.1 X.2.1 dX7_tricksOf_72 hl (by decide) rfl (fun ls hl => ?_)
            refine lv_iinc (v := (nI (i + 1))) (lv' := [(5, .int (nI (i + 1))), (4, .int (nI ((((trP t9 a b i) + (wnN (su a i) (su b i))) + 1) + 1))), (0, .ref (M 0)), (1, .int (nI t9)), (2, .int (nI a)), (3, .int (nI b))]) X.1 X.2.1 dX7_tricksOf_74 hl (k := 5) rfl (nI_add i 1) (by decide) rfl (fun ls hl => ?_)
            refine lv_goto (tgt := 6) X.1 X.2.1 dX7_tricksOf_77 (by decide) ?_
            exact ih (i + 1) (by omega) ls (by rw [show trP t9 a b (i + 1) = ((((trP t9 a b i) + (wnN (su a i) (su b i))) + 1) + 1) from by show trP t9 a b i + trS t9 a b i = _; unfold trS; split <;> omega]; exact (lv_sub hl [2, 3, 4, 5, 1, 0] rfl))
  exact L6 4 0 rfl ls (lv_sub hl [2, 3, 4, 5, 1, 0] rfl)

set_option maxHeartbeats 4000000 in
set_option maxRecDepth 100000 in
theorem c_X7_tricks (l : Launch) (G : HG) (hp : HP) (M : Nat → Nat) (sc : Nat → Int32) (ar : Nat → Nat → Int32) (sm : Nat → Int64) (hM : MR G hp M sc ar sm) (hT : MT ar) (a b d : Int32) : Met l yX7_tricks [.code yX7_tricks cX7_tricks 4 (some .int)] { frames := 3, cells := 0, slots := 0, locals := 73 } (va_Pc [.ref (M 0), .int a, .int b, .int d] (RP G hp)) (vp_Si (fun r => r = fTricks a b d)) 0 0 (fun _ => False) := by
  refine ro_ofW (by decide) (Nat.le_of_ble_eq_true rfl) ?_
  intro p e s m args below meth c ls X hr hlk hH hl
  have hS : va_S (fun _ => False) s.heap s.heap [] := va_S.rf
  have hl : lv_has ls 4 [(0, .ref (M 0)), (1, .int a), (2, .int b), (3, .int d)] := hl
  refine lv_iload_n X.1 X.2.1 dX7_tricks_0 rfl (lv_at hl 1 rfl) ?_
  refine lv_iconst (v := 0) X.1 X.2.1 dX7_tricks_1 (by decide) ?_
  refine lv_iconst (v := 4) X.1 X.2.1 dX7_tricks_2 (by decide) ?_
  refine on_Si (run_S (As := [.int a, .int 0, .int 4]) (rest := []) X (c_X7_in l G hp a 0 4) (rp_blind _) (rp_at X hH hS) mf_X7_in tw_907 tw_908 ⟨rfl, rfl, Nat.le_of_ble_eq_true rfl, Nat.le_of_ble_eq_true rfl⟩ hl.1 rfl rfl (Nat.le_of_ble_eq_true rfl) ⟨Nat.le_of_ble_eq_true rfl, Nat.le_of_ble_eq_true rfl⟩ dX7_tricks_3) (fun r_3 q_3 => ?_)
  obtain rfl : r_3 = (inI a 0 4) := q_3
  refine lv_if_eq (tgt := 31) X.1 X.2.1 dX7_tricks_6 (by decide) (fun c_6 => ?_) (fun c_6 => ?_)
  · refine lv_bipush (v := (-2)) X.1 X.2.1 dX7_tricks_31 (by decide) ?_
    exact ro_i X hr hlk (by show (_ : Int32) = _; unfold fTricks; rw [if_pos (Or.inl c_6)]) dX7_tricks_33
  · obtain ⟨xa, hxa, rfl⟩ := inI_nat (hi := 4) c_6 (by decide)
    refine lv_aload_n X.1 X.2.1 dX7_tricks_9 rfl (lv_at hl 0 rfl) ?_
    refine lv_iload_n X.1 X.2.1 dX7_tricks_10 rfl (lv_at hl 2 rfl) ?_
    refine on_Si (run_V (C := RX7) (As := [.int b]) (rest := []) X (c_X7_isHand l G hp M sc ar sm hM hT b ) (rp_blind _) (rp_at X hH hS) (recv X hH hM.1 (C := RX7) (T := TX7) (N := 19) rfl) mf_X7_isHand tw_973 tw_975 tw_36 ⟨rfl, rfl, Nat.le_of_ble_eq_true rfl, Nat.le_of_ble_eq_true rfl⟩ hl.1 rfl rfl (Nat.le_of_ble_eq_true rfl) ⟨Nat.le_of_ble_eq_true rfl, Nat.le_of_ble_eq_true rfl⟩ dX7_tricks_11) (fun r_11 q_11 => ?_)
    obtain rfl : r_11 = (bI (handB b)) := q_11
    refine lv_if_eq (tgt := 31) X.1 X.2.1 dX7_tricks_14 (by decide) (fun c_14 => ?_) (fun c_14 => ?_)
    · refine lv_bipush (v := (-2)) X.1 X.2.1 dX7_tricks_31 (by decide) ?_
      exact ro_i X hr hlk (by show (_ : Int32) = _; unfold fTricks; rw [if_pos (Or.inr (Or.inl (bI_0 c_14)))]) dX7_tricks_33
    · have g14 := bI_1 c_14
      obtain ⟨xb, hxb, rfl, hzxb⟩ := handB_of g14
      refine lv_aload_n X.1 X.2.1 dX7_tricks_17 rfl (lv_at hl 0 rfl) ?_
      refine lv_iload_n X.1 X.2.1 dX7_tricks_18 rfl (lv_at hl 3 rfl) ?_
      refine on_Si (run_V (C := RX7) (As := [.int d]) (rest := []) X (c_X7_isHand l G hp M sc ar sm hM hT d ) (rp_blind _) (rp_at X hH hS) (recv X hH hM.1 (C := RX7) (T := TX7) (N := 19) rfl) mf_X7_isHand tw_973 tw_975 tw_36 ⟨rfl, rfl, Nat.le_of_ble_eq_true rfl, Nat.le_of_ble_eq_true rfl⟩ hl.1 rfl rfl (Nat.le_of_ble_eq_true rfl) ⟨Nat.le_of_ble_eq_true rfl, Nat.le_of_ble_eq_true rfl⟩ dX7_tricks_19) (fun r_19 q_19 => ?_)
      obtain rfl : r_19 = (bI (handB d)) := q_19
      refine lv_if_eq (tgt := 31) X.1 X.2.1 dX7_tricks_22 (by decide) (fun c_22 => ?_) (fun c_22 => ?_)
      · refine lv_bipush (v := (-2)) X.1 X.2.1 dX7_tricks_31 (by decide) ?_
        exact ro_i X hr hlk (by show (_ : Int32) = _; unfold fTricks; rw [if_pos (Or.inr (Or.inr (Or.inl (bI_0 c_22))))]) dX7_tricks_33
      · have g22 := bI_1 c_22
        obtain ⟨xd, hxd, rfl, hzxd⟩ := handB_of g22
        refine lv_iload_n X.1 X.2.1 dX7_tricks_25 rfl (lv_at hl 2 rfl) ?_
        refine lv_iload_n X.1 X.2.1 dX7_tricks_26 rfl (lv_at hl 3 rfl) ?_
        refine lv_iand X.1 X.2.1 dX7_tricks_27 ?_
        refine r_eqi (show (((nI xb) &&& (nI xd)) : Int32) = nI (xb &&& xd) from n_and xb xd) ?_
        have hab : xb &&& xd ≤ xb := Nat.and_le_left
        refine lv_if_eq (tgt := 34) X.1 X.2.1 dX7_tricks_28 (by decide) (fun c_28 => ?_) (fun c_28 => ?_)
        · have k_28 := k_eq (a := (xb &&& xd)) (b := 0) (by omega) (by omega) c_28
          refine lv_aload_n X.1 X.2.1 dX7_tricks_34 rfl (lv_at hl 0 rfl) ?_
          refine lv_iload_n X.1 X.2.1 dX7_tricks_35 rfl (lv_at hl 1 rfl) ?_
          refine lv_iload_n X.1 X.2.1 dX7_tricks_36 rfl (lv_at hl 2 rfl) ?_
          refine lv_iload_n X.1 X.2.1 dX7_tricks_37 rfl (lv_at hl 3 rfl) ?_
          refine on_Si (run_V (C := RX7) (As := [.int (nI xa), .int (nI xb), .int (nI xd)]) (rest := []) X (c_X7_tricksOf l G hp M sc ar sm hM hT xa xb xd (by omega) (by omega) (by omega)) (rp_blind _) (rp_at X hH hS) (recv X hH hM.1 (C := RX7) (T := TX7) (N := 19) rfl) mf_X7_tricksOf tw_1077 tw_1079 tw_45 ⟨rfl, rfl, Nat.le_of_ble_eq_true rfl, Nat.le_of_ble_eq_true rfl⟩ hl.1 rfl rfl (Nat.le_of_ble_eq_true rfl) ⟨Nat.le_of_ble_eq_true rfl, Nat.le_of_ble_eq_true rfl⟩ dX7_tricks_38) (fun r_38 q_38 => ?_)
          obtain rfl : r_38 = (nI (trN xa xb xd)) := q_38
          exact ro_i X hr hlk (by show (_ : Int32) = _; unfold fTricks; rw [if_neg (fun q => Or.elim q c_6 (fun q => Or.elim q (fun q => Bool.false_ne_true (q.symm.trans g14)) (fun q => Or.elim q (fun q => Bool.false_ne_true (q.symm.trans g22)) (fun q => q (by rw [tn_n (by omega), tn_n (by omega)]; exact k_28))))), tn_n (by omega), tn_n (by omega), tn_n (by omega)]) dX7_tricks_41
        · have k_28 := k_ne (a := (xb &&& xd)) (b := 0) (by omega) (by omega) c_28
          refine lv_bipush (v := (-2)) X.1 X.2.1 dX7_tricks_31 (by decide) ?_
          exact ro_i X hr hlk (by show (_ : Int32) = _; unfold fTricks; rw [if_pos (Or.inr (Or.inr (Or.inr (by rw [tn_n (by omega), tn_n (by omega)]; exact k_28))))]) dX7_tricks_33

