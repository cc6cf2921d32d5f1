theorem va_id6 {α : Type} {f : Nat → α} {i : Nat} {v : α} (h : f i = v) : va_up f i v = f := by
  funext j
  unfold va_up
  by_cases c : j = i
  · rw [if_pos c, c, h]
  · rw [if_neg c]
theorem mr_65 {G : HG} {hp : HP} {M : Nat → Nat} {sc : Nat → Int32} {ar : Nat → Nat → Int32} {sm : Nat → Int64} {a b c d : Int32} (h : MR G hp M (va_up (va_up (va_up (va_up sc 6 a) 5 b) 6 c) 5 d) ar sm) : MR G hp M (va_up (va_up sc 6 c) 5 d) ar sm := by
  have e : va_up (va_up (va_up (va_up sc 6 a) 5 b) 6 c) 5 d = va_up (va_up sc 6 c) 5 d := by
    funext j
    unfold va_up
    by_cases h5 : j = 5 <;> by_cases h6 : j = 6 <;> simp [h5, h6]
  rw [← e]
  exact h
/-- the suit of a sign; 9 is none -/
def suN (c : Nat) : Nat := if c = 99 then 0 else if c = 100 then 1 else if c = 104 then 2 else if c = 115 then 3 else 9
theorem sb_n {c : Nat} (hc : c ≤ 126) : (suN c = 9 ∧ sbI (nI c) = -6) ∨ (suN c ≤ 3 ∧ sbI (nI c) = nI (suN c)) := by
  have k : ∀ c, c < 127 → (suN c = 9 ∧ sbI (nI c) = -6) ∨ (suN c ≤ 3 ∧ sbI (nI c) = nI (suN c)) := by decide +kernel
  exact k c (by omega)
theorem sb_neg {c : Nat} (hc : c ≤ 126) (h : ¬ (0 : Int32) ≤ sbI (nI c)) : suN c = 9 := by
  rcases sb_n hc with ⟨q1, q2⟩ | ⟨q1, q2⟩
  · exact q1
  · exact absurd (by rw [q2]; exact nI_pos' (by omega)) h
theorem sb_pos {c : Nat} (hc : c ≤ 126) (h : (0 : Int32) ≤ sbI (nI c)) : suN c ≤ 3 ∧ sbI (nI c) = nI (suN c) := by
  rcases sb_n hc with ⟨q1, q2⟩ | ⟨q1, q2⟩
  · exact absurd h (by rw [q2]; decide)
  · exact ⟨q1, q2⟩
def stN (e c : Nat) : Nat := if c = e then 4 else suN c
/-- the call of a text -/
def caP (tx : Nat → Nat) (w : Bool) (sp : Nat) : Bool := !w && decide (tx sp = 112)
def caW (tx : Nat → Nat) (w : Bool) (sp : Nat) : Bool := if caP tx w sp = true then w else (tkW tx w 49 53 sp || decide (stN 110 (tx (tkS tx w 49 53 sp)) = 9))
def caS (tx : Nat → Nat) (w : Bool) (sp : Nat) : Nat := if caP tx w sp = true then sp + 1 else if caW tx w sp = true then tkS tx w 49 53 sp else tkS tx w 49 53 sp + 1
def caV (tx : Nat → Nat) (w : Bool) (sp : Nat) : Nat := if caP tx w sp = true then 25 else 5 * tkV tx w 49 53 sp + stN 110 (tx (tkS tx w 49 53 sp))
theorem ca_p {tx : Nat → Nat} {w : Bool} {sp : Nat} (h : caP tx w sp = true) : caW tx w sp = w ∧ caS tx w sp = sp + 1 ∧ caV tx w sp = 25 := ⟨if_pos h, if_pos h, if_pos h⟩
theorem ca_n {tx : Nat → Nat} {w : Bool} {sp : Nat} (h : caP tx w sp = false) : caW tx w sp = (tkW tx w 49 53 sp || decide (stN 110 (tx (tkS tx w 49 53 sp)) = 9)) ∧ caS tx w sp = (if caW tx w sp = true then tkS tx w 49 53 sp else tkS tx w 49 53 sp + 1) ∧ caV tx w sp = 5 * tkV tx w 49 53 sp + stN 110 (tx (tkS tx w 49 53 sp)) := ⟨if_neg (fun q => Bool.false_ne_true (h.symm.trans q)), if_neg (fun q => Bool.false_ne_true (h.symm.trans q)), if_neg (fun q => Bool.false_ne_true (h.symm.trans q))⟩
theorem caS_le (tx : Nat → Nat) (w : Bool) (sp : Nat) : caS tx w sp ≤ sp + 2 := by
  have := tkS_le tx w 49 53 sp
  unfold caS
  split
  · omega
  · split <;> omega
theorem f1_ne (f : Nat → Int32) (v : Int32) : ∀ j, ¬ j = 1 → upd f (1 : Int32).toNatClampNeg v j = f j := fun _ h => if_neg h
theorem f1_eq (f : Nat → Int32) (v : Int32) : upd f (1 : Int32).toNatClampNeg v 1 = v := if_pos rfl
set_option maxHeartbeats 4000000 in
set_option maxRecDepth 100000 in
theorem c_X7_takeCall (l : Launch) (G : HG) (A : Nat → Prop) (hp : HP) (sz : Nat) (hA : ∀ q, sz ≤ q → A q) (hO : Ow A hp) (M : Nat → Nat) (sc : Nat → Int32) (ar : Nat → Nat → Int32) (sm : Nat → Int64) (hM : MR G hp M sc ar sm) (pn : Nat) (pt : Nat → Nat) (hP : MP pn pt sc ar) (sp : Nat) (hs5 : sc 5 = nI sp) (hsp : sp < 2 ^ 20) (w : Bool) (hs6 : sc 6 = bI w) : Met l yX7_takeCall [.code yX7_takeCall cX7_takeCall 3 none] { frames := 2, cells := 0, slots := 0, locals := 45 } (va_Pc [.ref (M 0)] (WP G A sz hp)) (va_Qv (fun hp1 => ∃ f1, MR G hp1 M (va_up (va_up sc 6 (bI (caW (txN pn pt) w sp))) 5 (nI (caS (txN pn pt) w sp))) (va_up ar 10 f1) sm ∧ (∀ j, ¬ j = 1 → f1 j = ar 10 j) ∧ (caW (txN pn pt) w sp = false → f1 1 = nI (caV (txN pn pt) w sp))) (WB G A) A) 0 0 A := by
  refine wr_ofW (by decide) (Nat.le_of_ble_eq_true rfl) hO ?_
  intro p e s m args below meth c ls X hr hlk hnm hsz hW hl
  have hA : ∀ q, s.heap.size ≤ q → A q := fun q h => hA q (by omega)
  have hl : lv_has ls 3 [(0, .ref (M 0))] := hl
  have hpn := hP.2.1
  have hv1 := @tkV_le (txN pn pt) w 49 53 sp
  refine lv_aload_n X.1 X.2.1 dX7_takeCall_0 rfl (lv_at hl 0 rfl) ?_
  refine r_get X hW.1 hM.1 (v := .int (sc 6)) (C := RX7) (T := TX7) (N := 19) rfl tin_X7 18 (by decide) tw_861 (fun _ h => h) rfl dX7_takeCall_1 ?_
  refine r_eqi (show ((sc 6) : Int32) = bI w from hs6) ?_
  refine lv_if_ne (tgt := 35) X.1 X.2.1 dX7_takeCall_4 (by decide) (fun c_4 => ?_) (fun c_4 => ?_)
  · refine lv_iconst (v := 1) X.1 X.2.1 dX7_takeCall_35 (by decide) ?_
    refine lv_aload_n X.1 X.2.1 dX7_takeCall_36 rfl (lv_at hl 0 rfl) ?_
    refine lv_bipush (v := 49) X.1 X.2.1 dX7_takeCall_37 (by decide) ?_
    refine lv_bipush (v := 53) X.1 X.2.1 dX7_takeCall_39 (by decide) ?_
    refine on_Wi (k' := 0) (n' := 0) (run_V (C := RX7) (As := [.int 49, .int 53]) (rest := [.int 1]) X (c_X7_takeOne l G A hp _ (fun q h => hA q (Nat.le_trans hW.2.2.1 h)) hW.2.1 M sc ar sm hM pn pt hP sp (by first | rfl | exact hs5) (by omega) w (by first | rfl | exact hs6) 49 53 (by omega) (by omega)) (wp_blind _) (wp_at X hW.1 hW.2.2) (recv X hW.1 hM.1 (C := RX7) (T := TX7) (N := 19) rfl) mf_X7_takeOne tw_1116 tw_1118 tw_49 ⟨rfl, rfl, Nat.le_of_ble_eq_true rfl, Nat.le_of_ble_eq_true rfl⟩ hl.1 rfl rfl (Nat.le_of_ble_eq_true rfl) ⟨Nat.le_of_ble_eq_true rfl, Nat.le_of_ble_eq_true rfl⟩ dX7_takeCall_41) hW (by omega) (by omega) (fun r_41 hp_1 H locs q_41 hW => ?_)
    obtain ⟨rfl, hM⟩ := q_41
    have := tkS_le (txN pn pt) w 49 53 sp
    refine lv_iadd X.1 X.2.1 dX7_takeCall_44 ?_
    refine r_eqi (show (((1 : Int32) + (nI (tkV (txN pn pt) w 49 53 sp))) : Int32) = nI (1 + (tkV (txN pn pt) w 49 53 sp)) from nI_add 1 (tkV (txN pn pt) w 49 53 sp)) ?_
    refine lv_istore_n (lv' := [(1, .int (nI (1 + (tkV (txN pn pt) w 49 53 sp)))), (0, .ref (M 0))]) X.1 X.2.1 dX7_takeCall_45 rfl hl (by decide) rfl (fun ls hl => ?_)
    refine lv_aload_n X.1 X.2.1 dX7_takeCall_46 rfl (lv_at hl 1 rfl) ?_
    refine on_Si (run_V (C := RX7) (As := []) (rest := []) X (c_X7_next l G hp_1 M (va_up (va_up sc 6 (bI (tkW (txN pn pt) w 49 53 sp))) 5 (nI (tkS (txN pn pt) w 49 53 sp))) ar sm hM pn pt hP (tkS (txN pn pt) w 49 53 sp) (by first | rfl | exact hs5) (by omega)) (rp_blind _) (rp_at X hW.1 hW.2.2) (recv X hW.1 hM.1 (C := RX7) (T := TX7) (N := 19) rfl) mf_X7_next tw_1120 tw_1122 tw_50 ⟨rfl, rfl, Nat.le_of_ble_eq_true rfl, Nat.le_of_ble_eq_true rfl⟩ hl.1 rfl rfl (Nat.le_of_ble_eq_true rfl) ⟨Nat.le_of_ble_eq_true rfl, Nat.le_of_ble_eq_true rfl⟩ dX7_takeCall_47) (fun r_47 q_47 => ?_)
    obtain rfl : r_47 = nI (txN pn pt (tkS (txN pn pt) w 49 53 sp)) := q_47
    have htx_47 := tx_le hP (tkS (txN pn pt) w 49 53 sp)
    refine lv_bipush (v := 110) X.1 X.2.1 dX7_takeCall_50 (by decide) ?_
    refine lv_icmp_ne (tgt := 59) X.1 X.2.1 dX7_takeCall_52 (by decide) (fun c_52 => ?_) (fun c_52 => ?_)
    · have k_52 := k_ne (a := (txN pn pt (tkS (txN pn pt) w 49 53 sp))) (b := 110) (by omega) (by omega) c_52
      refine lv_aload_n X.1 X.2.1 dX7_takeCall_59 rfl (lv_at hl 1 rfl) ?_
      refine on_Si (run_V (C := RX7) (As := []) (rest := []) X (c_X7_next l G hp_1 M (va_up (va_up sc 6 (bI (tkW (txN pn pt) w 49 53 sp))) 5 (nI (tkS (txN pn pt) w 49 53 sp))) ar sm hM pn pt hP (tkS (txN pn pt) w 49 53 sp) (by first | rfl | exact hs5) (by omega)) (rp_blind _) (rp_at X hW.1 hW.2.2) (recv X hW.1 hM.1 (C := RX7) (T := TX7) (N := 19) rfl) mf_X7_next tw_1120 tw_1122 tw_50 ⟨rfl, rfl, Nat.le_of_ble_eq_true rfl, Nat.le_of_ble_eq_true rfl⟩ hl.1 rfl rfl (Nat.le_of_ble_eq_true rfl) ⟨Nat.le_of_ble_eq_true rfl, Nat.le_of_ble_eq_true rfl⟩ dX7_takeCall_60) (fun r_60 q_60 => ?_)
      obtain rfl : r_60 = nI (txN pn pt (tkS (txN pn pt) w 49 53 sp)) := q_60
      have htx_60 := tx_le hP (tkS (txN pn pt) w 49 53 sp)
      refine on_Si (run_S (As := [.int (nI (txN pn pt (tkS (txN pn pt) w 49 53 sp)))]) (rest := []) X (c_X7_suitBy l G hp_1 (nI (txN pn pt (tkS (txN pn pt) w 49 53 sp)))) (rp_blind _) (rp_at X hW.1 hW.2.2) mf_X7_suitBy tw_1128 tw_1129 ⟨rfl, rfl, Nat.le_of_ble_eq_true rfl, Nat.le_of_ble_eq_true rfl⟩ hl.1 rfl rfl (Nat.le_of_ble_eq_true rfl) ⟨Nat.le_of_ble_eq_true rfl, Nat.le_of_ble_eq_true rfl⟩ dX7_takeCall_63) (fun r_63 q_63 => ?_)
      obtain rfl : r_63 = (sbI (nI (txN pn pt (tkS (txN pn pt) w 49 53 sp)))) := q_63
      refine lv_istore_n (lv' := [(2, .int (sbI (nI (txN pn pt (tkS (txN pn pt) w 49 53 sp))))), (1, .int (nI (1 + (tkV (txN pn pt) w 49 53 sp)))), (0, .ref (M 0))]) X.1 X.2.1 dX7_takeCall_66 rfl hl (by decide) rfl (fun ls hl => ?_)
      refine lv_aload_n X.1 X.2.1 dX7_takeCall_67 rfl (lv_at hl 2 rfl) ?_
      refine lv_aload_n X.1 X.2.1 dX7_takeCall_68 rfl (lv_at hl 2 rfl) ?_
      refine r_get X hW.1 hM.1 (v := .int (bI (tkW (txN pn pt) w 49 53 sp))) (C := RX7) (T := TX7) (N := 19) rfl tin_X7 18 (by decide) tw_861 (fun _ h => h) rfl dX7_takeCall_69 ?_
      refine lv_if_ne (tgt := 79) X.1 X.2.1 dX7_takeCall_72 (by decide) (fun c_72 => ?_) (fun c_72 => ?_)
      · refine lv_iconst (v := 1) X.1 X.2.1 dX7_takeCall_79 (by decide) ?_
        refine lv_goto (tgt := 84) X.1 X.2.1 dX7_takeCall_80 (by decide) ?_
        refine r_put X hW hM.1 (v := .int 1) (C := RX7) (T := TX7) (N := 19) rfl tin_X7 tyX7_ok nmX7 18 (Nat.le_of_ble_eq_true rfl) tw_861 (fun _ h => h) rfl (by decide) rfl (Nat.le_of_ble_eq_true rfl) dX7_takeCall_84 (fun hp_2 H locs hW eh_3 => ?_)
        have hM := mr_sc6 hM eh_3
        refine lv_aload_n X.1 X.2.1 dX7_takeCall_87 rfl (lv_at hl 2 rfl) ?_
        refine lv_dup X.1 X.2.1 dX7_takeCall_88 rfl ?_
        refine r_get X hW.1 hM.1 (v := .int (nI (tkS (txN pn pt) w 49 53 sp))) (C := RX7) (T := TX7) (N := 19) rfl tin_X7 17 (by decide) tw_860 (fun _ h => h) rfl dX7_takeCall_89 ?_
        refine lv_aload_n X.1 X.2.1 dX7_takeCall_92 rfl (lv_at hl 2 rfl) ?_
        refine r_get X hW.1 hM.1 (v := .int 1) (C := RX7) (T := TX7) (N := 19) rfl tin_X7 18 (by decide) tw_861 (fun _ h => h) rfl dX7_takeCall_93 ?_
        refine lv_if_eq (tgt := 103) X.1 X.2.1 dX7_takeCall_96 (by decide) (fun c_96 => absurd c_96 (by decide)) (fun c_96 => ?_)
        refine lv_iconst (v := 0) X.1 X.2.1 dX7_takeCall_99 (by decide) ?_
        refine lv_goto (tgt := 104) X.1 X.2.1 dX7_takeCall_100 (by decide) ?_
        refine lv_iadd X.1 X.2.1 dX7_takeCall_104 ?_
        refine r_eqi (show (((nI (tkS (txN pn pt) w 49 53 sp)) + 0) : Int32) = nI (tkS (txN pn pt) w 49 53 sp) from nI_add (tkS (txN pn pt) w 49 53 sp) 0) ?_
        refine r_put X hW hM.1 (v := .int (nI (tkS (txN pn pt) w 49 53 sp))) (C := RX7) (T := TX7) (N := 19) rfl tin_X7 tyX7_ok nmX7 17 (Nat.le_of_ble_eq_true rfl) tw_860 (fun _ h => h) rfl rfl rfl (Nat.le_of_ble_eq_true rfl) dX7_takeCall_105 (fun hp_4 H locs hW eh_5 => ?_)
        have hM := mr_sc5 hM eh_5
        refine lv_aload_n X.1 X.2.1 dX7_takeCall_108 rfl (lv_at hl 2 rfl) ?_
        refine r_get X hW.1 hM.1 (v := .ref (M 11)) (C := RX7) (T := TX7) (N := 19) rfl tin_X7 14 (by decide) tw_857 (fun _ h => h) rfl dX7_takeCall_109 ?_
        refine lv_iconst (v := 1) X.1 X.2.1 dX7_takeCall_112 (by decide) ?_
        refine lv_iconst (v := 5) X.1 X.2.1 dX7_takeCall_113 (by decide) ?_
        refine lv_iload_n X.1 X.2.1 dX7_takeCall_114 rfl (lv_at hl 1 rfl) ?_
        refine lv_iconst (v := 1) X.1 X.2.1 dX7_takeCall_115 (by decide) ?_
        refine lv_isub X.1 X.2.1 dX7_takeCall_116 ?_
        refine r_eqi (show (((nI (1 + (tkV (txN pn pt) w 49 53 sp))) - 1) : Int32) = nI ((1 + (tkV (txN pn pt) w 49 53 sp)) - 1) from pk_sub (a := (1 + (tkV (txN pn pt) w 49 53 sp))) (b := 1) (by omega)) ?_
        refine lv_imul X.1 X.2.1 dX7_takeCall_117 ?_
        refine r_eqi (show (((5 : Int32) * (nI ((1 + (tkV (txN pn pt) w 49 53 sp)) - 1))) : Int32) = nI (5 * ((1 + (tkV (txN pn pt) w 49 53 sp)) - 1)) from pk_mul 5 ((1 + (tkV (txN pn pt) w 49 53 sp)) - 1)) ?_
        refine lv_iload_n X.1 X.2.1 dX7_takeCall_118 rfl (lv_at hl 0 rfl) ?_
        refine lv_iadd X.1 X.2.1 dX7_takeCall_119 ?_
        refine r_iast X hW (hM.2.1 10 (by decide)) (show vp_in (1) 14 from vp_in_nI (n := 1) (by omega) (by decide)) dX7_takeCall_120 (fun hp_6 H locs hW eh_7 => ?_)
        have hM := mr_ar hM 10 (by decide) eh_7
        have hc : caP (txN pn pt) w sp = false := by unfold caP; rw [bI_1 c_4]; rfl
        have htx9 : txN pn pt (tkS (txN pn pt) w 49 53 sp) ≤ 126 := tx_le hP _
        have hst : stN 110 (txN pn pt (tkS (txN pn pt) w 49 53 sp)) = suN (txN pn pt (tkS (txN pn pt) w 49 53 sp)) := if_neg k_52
        have hw : caW (txN pn pt) w sp = true := by rw [(ca_n hc).1, bI_1 c_72]; rfl
        exact wr_v X hr hlk hW ⟨_, (by rw [hw, (ca_n hc).2.1, if_pos hw]; exact mr_65 hM), f1_ne _ _, fun q => absurd (hw.symm.trans q) (by decide)⟩ (Nat.le_of_ble_eq_true rfl) (Nat.le_of_ble_eq_true rfl) dX7_takeCall_121
      · refine lv_iload_n X.1 X.2.1 dX7_takeCall_75 rfl (lv_at hl 0 rfl) ?_
        refine lv_if_ge (tgt := 83) X.1 X.2.1 dX7_takeCall_76 (by decide) (fun c_76 => ?_) (fun c_76 => ?_)
        · refine lv_iconst (v := 0) X.1 X.2.1 dX7_takeCall_83 (by decide) ?_
          refine r_put X hW hM.1 (v := .int 0) (C := RX7) (T := TX7) (N := 19) rfl tin_X7 tyX7_ok nmX7 18 (Nat.le_of_ble_eq_true rfl) tw_861 (fun _ h => h) rfl (by decide) rfl (Nat.le_of_ble_eq_true rfl) dX7_takeCall_84 (fun hp_8 H locs hW eh_9 => ?_)
          have hM := mr_sc6 hM eh_9
          refine lv_aload_n X.1 X.2.1 dX7_takeCall_87 rfl (lv_at hl 2 rfl) ?_
          refine lv_dup X.1 X.2.1 dX7_takeCall_88 rfl ?_
          refine r_get X hW.1 hM.1 (v := .int (nI (tkS (txN pn pt) w 49 53 sp))) (C := RX7) (T := TX7) (N := 19) rfl tin_X7 17 (by decide) tw_860 (fun _ h => h) rfl dX7_takeCall_89 ?_
          refine lv_aload_n X.1 X.2.1 dX7_takeCall_92 rfl (lv_at hl 2 rfl) ?_
          refine r_get X hW.1 hM.1 (v := .int 0) (C := RX7) (T := TX7) (N := 19) rfl tin_X7 18 (by decide) tw_861 (fun _ h => h) rfl dX7_takeCall_93 ?_
          refine lv_if_eq (tgt := 103) X.1 X.2.1 dX7_takeCall_96 (by decide) (fun c_96 => ?_) (fun c_96 => absurd (by decide) c_96)
          refine lv_iconst (v := 1) X.1 X.2.1 dX7_takeCall_103 (by decide) ?_
          refine lv_iadd X.1 X.2.1 dX7_takeCall_104 ?_
          refine r_eqi (show (((nI (tkS (txN pn pt) w 49 53 sp)) + 1) : Int32) = nI ((tkS (txN pn pt) w 49 53 sp) + 1) from nI_add (tkS (txN pn pt) w 49 53 sp) 1) ?_
          refine r_put X hW hM.1 (v := .int (nI ((tkS (txN pn pt) w 49 53 sp) + 1))) (C := RX7) (T := TX7) (N := 19) rfl tin_X7 tyX7_ok nmX7 17 (Nat.le_of_ble_eq_true rfl) tw_860 (fun _ h => h) rfl rfl rfl (Nat.le_of_ble_eq_true rfl) dX7_takeCall_105 (fun hp_10 H locs hW eh_11 => ?_)
          have hM := mr_sc5 hM eh_11
          refine lv_aload_n X.1 X.2.1 dX7_takeCall_108 rfl (lv_at hl 2 rfl) ?_
          refine r_get X hW.1 hM.1 (v := .ref (M 11)) (C := RX7) (T := TX7) (N := 19) rfl tin_X7 14 (by decide) tw_857 (fun _ h => h) rfl dX7_takeCall_109 ?_
          refine lv_iconst (v := 1) X.1 X.2.1 dX7_takeCall_112 (by decide) ?_
          refine lv_iconst (v := 5) X.1 X.2.1 dX7_takeCall_113 (by decide) ?_
          refine lv_iload_n X.1 X.2.1 dX7_takeCall_114 rfl (lv_at hl 1 rfl) ?_
          refine lv_iconst (v := 1) X.1 X.2.1 dX7_takeCall_115 (by decide) ?_
          refine lv_isub X.1 X.2.1 dX7_takeCall_116 ?_
          refine r_eqi (show (((nI (1 + (tkV (txN pn pt) w 49 53 sp))) - 1) : Int32) = nI ((1 + (tkV (txN pn pt) w 49 53 sp)) - 1) from pk_sub (a := (1 + (tkV (txN pn pt) w 49 53 sp))) (b := 1) (by omega)) ?_
          refine lv_imul X.1 X.2.1 dX7_takeCall_117 ?_
          refine r_eqi (show (((5 : Int32) * (nI ((1 + (tkV (txN pn pt) w 49 53 sp)) - 1))) : Int32) = nI (5 * ((1 + (tkV (txN pn pt) w 49 53 sp)) - 1)) from pk_mul 5 ((1 + (tkV (txN pn pt) w 49 53 sp)) - 1)) ?_
          refine lv_iload_n X.1 X.2.1 dX7_takeCall_118 rfl (lv_at hl 0 rfl) ?_
          refine lv_iadd X.1 X.2.1 dX7_takeCall_119 ?_
          refine r_iast X hW (hM.2.1 10 (by decide)) (show vp_in (1) 14 from vp_in_nI (n := 1) (by omega) (by decide)) dX7_takeCall_120 (fun hp_12 H locs hW eh_13 => ?_)
          have hM := mr_ar hM 10 (by decide) eh_13
          have hc : caP (txN pn pt) w sp = false := by unfold caP; rw [bI_1 c_4]; rfl
          have htx9 : txN pn pt (tkS (txN pn pt) w 49 53 sp) ≤ 126 := tx_le hP _
          have hst : stN 110 (txN pn pt (tkS (txN pn pt) w 49 53 sp)) = suN (txN pn pt (tkS (txN pn pt) w 49 53 sp)) := if_neg k_52
          have hsb := (sb_pos htx9 c_76).2
          have hsb1 := (sb_pos htx9 c_76).1
          have hw : caW (txN pn pt) w sp = false := by rw [(ca_n hc).1, hst, bI_0 c_72, decide_eq_false (show ¬ suN (txN pn pt (tkS (txN pn pt) w 49 53 sp)) = 9 by omega)]; rfl
          exact wr_v X hr hlk hW ⟨_, (by rw [hw, (ca_n hc).2.1, if_neg (fun q => absurd (hw.symm.trans q) (by decide))]; exact mr_65 hM), f1_ne _ _, fun _ => by rw [(ca_n hc).2.2, hst]; refine (f1_eq _ _).trans ?_; rw [Nat.add_sub_cancel_left]; rw [hsb]; exact nI_add _ _⟩ (Nat.le_of_ble_eq_true rfl) (Nat.le_of_ble_eq_true rfl) dX7_takeCall_121
        · refine lv_iconst (v := 1) X.1 X.2.1 dX7_takeCall_79 (by decide) ?_
          refine lv_goto (tgt := 84) X.1 X.2.1 dX7_takeCall_80 (by decide) ?_
          refine r_put X hW hM.1 (v := .int 1) (C := RX7) (T := TX7) (N := 19) rfl tin_X7 tyX7_ok nmX7 18 (Nat.le_of_ble_eq_true rfl) tw_861 (fun _ h => h) rfl (by decide) rfl (Nat.le_of_ble_eq_true rfl) dX7_takeCall_84 (fun hp_14 H locs hW eh_15 => ?_)
          have hM := mr_sc6 hM eh_15
          refine lv_aload_n X.1 X.2.1 dX7_takeCall_87 rfl (lv_at hl 2 rfl) ?_
          refine lv_dup X.1 X.2.1 dX7_takeCall_88 rfl ?_
          refine r_get X hW.1 hM.1 (v := .int (nI (tkS (txN pn pt) w 49 53 sp))) (C := RX7) (T := TX7) (N := 19) rfl tin_X7 17 (by decide) tw_860 (fun _ h => h) rfl dX7_takeCall_89 ?_
          refine lv_aload_n X.1 X.2.1 dX7_takeCall_92 rfl (lv_at hl 2 rfl) ?_
          refine r_get X hW.1 hM.1 (v := .int 1) (C := RX7) (T := TX7) (N := 19) rfl tin_X7 18 (by decide) tw_861 (fun _ h => h) rfl dX7_takeCall_93 ?_
          refine lv_if_eq (tgt := 103) X.1 X.2.1 dX7_takeCall_96 (by decide) (fun c_96 => absurd c_96 (by decide)) (fun c_96 => ?_)
          refine lv_iconst (v := 0) X.1 X.2.1 dX7_takeCall_99 (by decide) ?_
          refine lv_goto (tgt := 104) X.1 X.2.1 dX7_takeCall_100 (by decide) ?_
          refine lv_iadd X.1 X.2.1 dX7_takeCall_104 ?_
          refine r_eqi (show (((nI (tkS (txN pn pt) w 49 53 sp)) + 0) : Int32) = nI (tkS (txN pn pt) w 49 53 sp) from nI_add (tkS (txN pn pt) w 49 53 sp) 0) ?_
          refine r_put X hW hM.1 (v := .int (nI (tkS (txN pn pt) w 49 53 sp))) (C := RX7) (T := TX7) (N := 19) rfl tin_X7 tyX7_ok nmX7 17 (Nat.le_of_ble_eq_true rfl) tw_860 (fun _ h => h) rfl rfl rfl (Nat.le_of_ble_eq_true rfl) dX7_takeCall_105 (fun hp_16 H locs hW eh_17 => ?_)
          have hM := mr_sc5 hM eh_17
          refine lv_aload_n X.1 X.2.1 dX7_takeCall_108 rfl (lv_at hl 2 rfl) ?_
          refine r_get X hW.1 hM.1 (v := .ref (M 11)) (C := RX7) (T := TX7) (N := 19) rfl tin_X7 14 (by decide) tw_857 (fun _ h => h) rfl dX7_takeCall_109 ?_
          refine lv_iconst (v := 1) X.1 X.2.1 dX7_takeCall_112 (by decide) ?_
          refine lv_iconst (v := 5) X.1 X.2.1 dX7_takeCall_113 (by decide) ?_
          refine lv_iload_n X.1 X.2.1 dX7_takeCall_114 rfl (lv_at hl 1 rfl) ?_
          refine lv_iconst (v := 1) X.1 X.2.1 dX7_takeCall_115 (by decide) ?_
          refine lv_isub X.1 X.2.1 dX7_takeCall_116 ?_
          refine r_eqi (show (((nI (1 + (tkV (txN pn pt) w 49 53 sp))) - 1) : Int32) = nI ((1 + (tkV (txN pn pt) w 49 53 sp)) - 1) from pk_sub (a := (1 + (tkV (txN pn pt) w 49 53 sp))) (b := 1) (by omega)) ?_
          refine lv_imul X.1 X.2.1 dX7_takeCall_117 ?_
          refine r_eqi (show (((5 : Int32) * (nI ((1 + (tkV (txN pn pt) w 49 53 sp)) - 1))) : Int32) = nI (5 * ((1 + (tkV (txN pn pt) w 49 53 sp)) - 1)) from pk_mul 5 ((1 + (tkV (txN pn pt) w 49 53 sp)) - 1)) ?_
          refine lv_iload_n X.1 X.2.1 dX7_takeCall_118 rfl (lv_at hl 0 rfl) ?_
          refine lv_iadd X.1 X.2.1 dX7_takeCall_119 ?_
          refine r_iast X hW (hM.2.1 10 (by decide)) (show vp_in (1) 14 from vp_in_nI (n := 1) (by omega) (by decide)) dX7_takeCall_120 (fun hp_18 H locs hW eh_19 => ?_)
          have hM := mr_ar hM 10 (by decide) eh_19
          have hc : caP (txN pn pt) w sp = false := by unfold caP; rw [bI_1 c_4]; rfl
          have htx9 : txN pn pt (tkS (txN pn pt) w 49 53 sp) ≤ 126 := tx_le hP _
          have hst : stN 110 (txN pn pt (tkS (txN pn pt) w 49 53 sp)) = suN (txN pn pt (tkS (txN pn pt) w 49 53 sp)) := if_neg k_52
          have hw : caW (txN pn pt) w sp = true := by rw [(ca_n hc).1, hst, sb_neg htx9 c_76]; exact Bool.or_true _
          exact wr_v X hr hlk hW ⟨_, (by rw [hw, (ca_n hc).2.1, if_pos hw]; exact mr_65 hM), f1_ne _ _, fun q => absurd (hw.symm.trans q) (by decide)⟩ (Nat.le_of_ble_eq_true rfl) (Nat.le_of_ble_eq_true rfl) dX7_takeCall_121
    · have k_52 := k_eq (a := (txN pn pt (tkS (txN pn pt) w 49 53 sp))) (b := 110) (by omega) (by omega) c_52
      refine lv_iconst (v := 4) X.1 X.2.1 dX7_takeCall_55 (by decide) ?_
      refine lv_goto (tgt := 66) X.1 X.2.1 dX7_takeCall_56 (by decide) ?_
      refine lv_istore_n (lv' := [(2, .int 4), (1, .int (nI (1 + (tkV (txN pn pt) w 49 53 sp)))), (0, .ref (M 0))]) X.1 X.2.1 dX7_takeCall_66 rfl hl (by decide) rfl (fun ls hl => ?_)
      refine lv_aload_n X.1 X.2.1 dX7_takeCall_67 rfl (lv_at hl 2 rfl) ?_
      refine lv_aload_n X.1 X.2.1 dX7_takeCall_68 rfl (lv_at hl 2 rfl) ?_
      refine r_get X hW.1 hM.1 (v := .int (bI (tkW (txN pn pt) w 49 53 sp))) (C := RX7) (T := TX7) (N := 19) rfl tin_X7 18 (by decide) tw_861 (fun _ h => h) rfl dX7_takeCall_69 ?_
      refine lv_if_ne (tgt := 79) X.1 X.2.1 dX7_takeCall_72 (by decide) (fun c_72 => ?_) (fun c_72 => ?_)
      · refine lv_iconst (v := 1) X.1 X.2.1 dX7_takeCall_79 (by decide) ?_
        refine lv_goto (tgt := 84) X.1 X.2.1 dX7_takeCall_80 (by decide) ?_
        refine r_put X hW hM.1 (v := .int 1) (C := RX7) (T := TX7) (N := 19) rfl tin_X7 tyX7_ok nmX7 18 (Nat.le_of_ble_eq_true rfl) tw_861 (fun _ h => h) rfl (by decide) rfl (Nat.le_of_ble_eq_true rfl) dX7_takeCall_84 (fun hp_20 H locs hW eh_21 => ?_)
        have hM := mr_sc6 hM eh_21
        refine lv_aload_n X.1 X.2.1 dX7_takeCall_87 rfl (lv_at hl 2 rfl) ?_
        refine lv_dup X.1 X.2.1 dX7_takeCall_88 rfl ?_
        refine r_get X hW.1 hM.1 (v := .int (nI (tkS (txN pn pt) w 49 53 sp))) (C := RX7) (T := TX7) (N := 19) rfl tin_X7 17 (by decide) tw_860 (fun _ h => h) rfl dX7_takeCall_89 ?_
        refine lv_aload_n X.1 X.2.1 dX7_takeCall_92 rfl (lv_at hl 2 rfl) ?_
        refine r_get X hW.1 hM.1 (v := .int 1) (C := RX7) (T := TX7) (N := 19) rfl tin_X7 18 (by decide) tw_861 (fun _ h => h) rfl dX7_takeCall_93 ?_
        refine lv_if_eq (tgt := 103) X.1 X.2.1 dX7_takeCall_96 (by decide) (fun c_96 => absurd c_96 (by decide)) (fun c_96 => ?_)
        refine lv_iconst (v := 0) X.1 X.2.1 dX7_takeCall_99 (by decide) ?_
        refine lv_goto (tgt := 104) X.1 X.2.1 dX7_takeCall_100 (by decide) ?_
        refine lv_iadd X.1 X.2.1 dX7_takeCall_104 ?_
        refine r_eqi (show (((nI (tkS (txN pn pt) w 49 53 sp)) + 0) : Int32) = nI (tkS (txN pn pt) w 49 53 sp) from nI_add (tkS (txN pn pt) w 49 53 sp) 0) ?_
        refine r_put X hW hM.1 (v := .int (nI (tkS (txN pn pt) w 49 53 sp))) (C := RX7) (T := TX7) (N := 19) rfl tin_X7 tyX7_ok nmX7 17 (Nat.le_of_ble_eq_true rfl) tw_860 (fun _ h => h) rfl rfl rfl (Nat.le_of_ble_eq_true rfl) dX7_takeCall_105 (fun hp_22 H locs hW eh_23 => ?_)
        have hM := mr_sc5 hM eh_23
        refine lv_aload_n X.1 X.2.1 dX7_takeCall_108 rfl (lv_at hl 2 rfl) ?_
        refine r_get X hW.1 hM.1 (v := .ref (M 11)) (C := RX7) (T := TX7) (N := 19) rfl tin_X7 14 (by decide) tw_857 (fun _ h => h) rfl dX7_takeCall_109 ?_
        refine lv_iconst (v := 1) X.1 X.2.1 dX7_takeCall_112 (by decide) ?_
        refine lv_iconst (v := 5) X.1 X.2.1 dX7_takeCall_113 (by decide) ?_
        refine lv_iload_n X.1 X.2.1 dX7_takeCall_114 rfl (lv_at hl 1 rfl) ?_
        refine lv_iconst (v := 1) X.1 X.2.1 dX7_takeCall_115 (by decide) ?_
        refine lv_isub X.1 X.2.1 dX7_takeCall_116 ?_
        refine r_eqi (show (((nI (1 + (tkV (txN pn pt) w 49 53 sp))) - 1) : Int32) = nI ((1 + (tkV (txN pn pt) w 49 53 sp)) - 1) from pk_sub (a := (1 + (tkV (txN pn pt) w 49 53 sp))) (b := 1) (by omega)) ?_
        refine lv_imul X.1 X.2.1 dX7_takeCall_117 ?_
        refine r_eqi (show (((5 : Int32) * (nI ((1 + (tkV (txN pn pt) w 49 53 sp)) - 1))) : Int32) = nI (5 * ((1 + (tkV (txN pn pt) w 49 53 sp)) - 1)) from pk_mul 5 ((1 + (tkV (txN pn pt) w 49 53 sp)) - 1)) ?_
        refine lv_iload_n X.1 X.2.1 dX7_takeCall_118 rfl (lv_at hl 0 rfl) ?_
        refine lv_iadd X.1 X.2.1 dX7_takeCall_119 ?_
        refine r_eqi (show (((nI (5 * ((1 + (tkV (txN pn pt) w 49 53 sp)) - 1))) + 4) : Int32) = nI ((5 * ((1 + (tkV (txN pn pt) w 49 53 sp)) - 1)) + 4) from nI_add (5 * ((1 + (tkV (txN pn pt) w 49 53 sp)) - 1)) 4) ?_
        refine r_iast X hW (hM.2.1 10 (by decide)) (show vp_in (1) 14 from vp_in_nI (n := 1) (by omega) (by decide)) dX7_takeCall_120 (fun hp_24 H locs hW eh_25 => ?_)
        have hM := mr_ar hM 10 (by decide) eh_25
        have hc : caP (txN pn pt) w sp = false := by unfold caP; rw [bI_1 c_4]; rfl
        have htx9 : txN pn pt (tkS (txN pn pt) w 49 53 sp) ≤ 126 := tx_le hP _
        have hst : stN 110 (txN pn pt (tkS (txN pn pt) w 49 53 sp)) = 4 := if_pos k_52
        have hw : caW (txN pn pt) w sp = true := by rw [(ca_n hc).1, bI_1 c_72]; rfl
        exact wr_v X hr hlk hW ⟨_, (by rw [hw, (ca_n hc).2.1, if_pos hw]; exact mr_65 hM), f1_ne _ _, fun q => absurd (hw.symm.trans q) (by decide)⟩ (Nat.le_of_ble_eq_true rfl) (Nat.le_of_ble_eq_true rfl) dX7_takeCall_121
      · refine lv_iload_n X.1 X.2.1 dX7_takeCall_75 rfl (lv_at hl 0 rfl) ?_
        refine lv_if_ge (tgt := 83) X.1 X.2.1 dX7_takeCall_76 (by decide) (fun c_76 => ?_) (fun c_76 => absurd (by decide) c_76)
        refine lv_iconst (v := 0) X.1 X.2.1 dX7_takeCall_83 (by decide) ?_
        refine r_put X hW hM.1 (v := .int 0) (C := RX7) (T := TX7) (N := 19) rfl tin_X7 tyX7_ok nmX7 18 (Nat.le_of_ble_eq_true rfl) tw_861 (fun _ h => h) rfl (by decide) rfl (Nat.le_of_ble_eq_true rfl) dX7_takeCall_84 (fun hp_26 H locs hW eh_27 => ?_)
        have hM := mr_sc6 hM eh_27
        refine lv_aload_n X.1 X.2.1 dX7_takeCall_87 rfl (lv_at hl 2 rfl) ?_
        refine lv_dup X.1 X.2.1 dX7_takeCall_88 rfl ?_
        refine r_get X hW.1 hM.1 (v := .int (nI (tkS (txN pn pt) w 49 53 sp))) (C := RX7) (T := TX7) (N := 19) rfl tin_X7 17 (by decide) tw_860 (fun _ h => h) rfl dX7_takeCall_89 ?_
        refine lv_aload_n X.1 X.2.1 dX7_takeCall_92 rfl (lv_at hl 2 rfl) ?_
        refine r_get X hW.1 hM.1 (v := .int 0) (C := RX7) (T := TX7) (N := 19) rfl tin_X7 18 (by decide) tw_861 (fun _ h => h) rfl dX7_takeCall_93 ?_
        refine lv_if_eq (tgt := 103) X.1 X.2.1 dX7_takeCall_96 (by decide) (fun c_96 => ?_) (fun c_96 => absurd (by decide) c_96)
        refine lv_iconst (v := 1) X.1 X.2.1 dX7_takeCall_103 (by decide) ?_
        refine lv_iadd X.1 X.2.1 dX7_takeCall_104 ?_
        refine r_eqi (show (((nI (tkS (txN pn pt) w 49 53 sp)) + 1) : Int32) = nI ((tkS (txN pn pt) w 49 53 sp) + 1) from nI_add (tkS (txN pn pt) w 49 53 sp) 1) ?_
        refine r_put X hW hM.1 (v := .int (nI ((tkS (txN pn pt) w 49 53 sp) + 1))) (C := RX7) (T := TX7) (N := 19) rfl tin_X7 tyX7_ok nmX7 17 (Nat.le_of_ble_eq_true rfl) tw_860 (fun _ h => h) rfl rfl rfl (Nat.le_of_ble_eq_true rfl) dX7_takeCall_105 (fun hp_28 H locs hW eh_29 => ?_)
        have hM := mr_sc5 hM eh_29
        refine lv_aload_n X.1 X.2.1 dX7_takeCall_108 rfl (lv_at hl 2 rfl) ?_
        refine r_get X hW.1 hM.1 (v := .ref (M 11)) (C := RX7) (T := TX7) (N := 19) rfl tin_X7 14 (by decide) tw_857 (fun _ h => h) rfl dX7_takeCall_109 ?_
        refine lv_iconst (v := 1) X.1 X.2.1 dX7_takeCall_112 (by decide) ?_
        refine lv_iconst (v := 5) X.1 X.2.1 dX7_takeCall_113 (by decide) ?_
        refine lv_iload_n X.1 X.2.1 dX7_takeCall_114 rfl (lv_at hl 1 rfl) ?_
        refine lv_iconst (v := 1) X.1 X.2.1 dX7_takeCall_115 (by decide) ?_
        refine lv_isub X.1 X.2.1 dX7_takeCall_116 ?_
        refine r_eqi (show (((nI (1 + (tkV (txN pn pt) w 49 53 sp))) - 1) : Int32) = nI ((1 + (tkV (txN pn pt) w 49 53 sp)) - 1) from pk_sub (a := (1 + (tkV (txN pn pt) w 49 53 sp))) (b := 1) (by omega)) ?_
        refine lv_imul X.1 X.2.1 dX7_takeCall_117 ?_
        refine r_eqi (show (((5 : Int32) * (nI ((1 + (tkV (txN pn pt) w 49 53 sp)) - 1))) : Int32) = nI (5 * ((1 + (tkV (txN pn pt) w 49 53 sp)) - 1)) from pk_mul 5 ((1 + (tkV (txN pn pt) w 49 53 sp)) - 1)) ?_
        refine lv_iload_n X.1 X.2.1 dX7_takeCall_118 rfl (lv_at hl 0 rfl) ?_
        refine lv_iadd X.1 X.2.1 dX7_takeCall_119 ?_
        refine r_eqi (show (((nI (5 * ((1 + (tkV (txN pn pt) w 49 53 sp)) - 1))) + 4) : Int32) = nI ((5 * ((1 + (tkV (txN pn pt) w 49 53 sp)) - 1)) + 4) from nI_add (5 * ((1 + (tkV (txN pn pt) w 49 53 sp)) - 1)) 4) ?_
        refine r_iast X hW (hM.2.1 10 (by decide)) (show vp_in (1) 14 from vp_in_nI (n := 1) (by omega) (by decide)) dX7_takeCall_120 (fun hp_30 H locs hW eh_31 => ?_)
        have hM := mr_ar hM 10 (by decide) eh_31
        have hc : caP (txN pn pt) w sp = false := by unfold caP; rw [bI_1 c_4]; rfl
        have htx9 : txN pn pt (tkS (txN pn pt) w 49 53 sp) ≤ 126 := tx_le hP _
        have hst : stN 110 (txN pn pt (tkS (txN pn pt) w 49 53 sp)) = 4 := if_pos k_52
        have hw : caW (txN pn pt) w sp = false := by rw [(ca_n hc).1, hst, bI_0 c_72]; rfl
        exact wr_v X hr hlk hW ⟨_, (by rw [hw, (ca_n hc).2.1, if_neg (fun q => absurd (hw.symm.trans q) (by decide))]; exact mr_65 hM), f1_ne _ _, fun _ => by rw [(ca_n hc).2.2, hst]; refine (f1_eq _ _).trans ?_; rw [Nat.add_sub_cancel_left]⟩ (Nat.le_of_ble_eq_true rfl) (Nat.le_of_ble_eq_true rfl) dX7_takeCall_121
  · refine lv_aload_n X.1 X.2.1 dX7_takeCall_7 rfl (lv_at hl 0 rfl) ?_
    refine on_Si (run_V (C := RX7) (As := []) (rest := []) X (c_X7_next l G hp M sc ar sm hM pn pt hP sp (by first | rfl | exact hs5) (by omega)) (rp_blind _) (rp_at X hW.1 hW.2.2) (recv X hW.1 hM.1 (C := RX7) (T := TX7) (N := 19) rfl) mf_X7_next tw_1120 tw_1122 tw_50 ⟨rfl, rfl, Nat.le_of_ble_eq_true rfl, Nat.le_of_ble_eq_true rfl⟩ hl.1 rfl rfl (Nat.le_of_ble_eq_true rfl) ⟨Nat.le_of_ble_eq_true rfl, Nat.le_of_ble_eq_true rfl⟩ dX7_takeCall_8) (fun r_8 q_8 => ?_)
    obtain rfl : r_8 = nI (txN pn pt sp) := q_8
    have htx_8 := tx_le hP sp
    refine lv_bipush (v := 112) X.1 X.2.1 dX7_takeCall_11 (by decide) ?_
    refine lv_icmp_ne (tgt := 35) X.1 X.2.1 dX7_takeCall_13 (by decide) (fun c_13 => ?_) (fun c_13 => ?_)
    · have k_13 := k_ne (a := (txN pn pt sp)) (b := 112) (by omega) (by omega) c_13
      refine lv_iconst (v := 1) X.1 X.2.1 dX7_takeCall_35 (by decide) ?_
      refine lv_aload_n X.1 X.2.1 dX7_takeCall_36 rfl (lv_at hl 0 rfl) ?_
      refine lv_bipush (v := 49) X.1 X.2.1 dX7_takeCall_37 (by decide) ?_
      refine lv_bipush (v := 53) X.1 X.2.1 dX7_takeCall_39 (by decide) ?_
      refine on_Wi (k' := 0) (n' := 0) (run_V (C := RX7) (As := [.int 49, .int 53]) (rest := [.int 1]) X (c_X7_takeOne l G A hp _ (fun q h => hA q (Nat.le_trans hW.2.2.1 h)) hW.2.1 M sc ar sm hM pn pt hP sp (by first | rfl | exact hs5) (by omega) w (by first | rfl | exact hs6) 49 53 (by omega) (by omega)) (wp_blind _) (wp_at X hW.1 hW.2.2) (recv X hW.1 hM.1 (C := RX7) (T := TX7) (N := 19) rfl) mf_X7_takeOne tw_1116 tw_1118 tw_49 ⟨rfl, rfl, Nat.le_of_ble_eq_true rfl, Nat.le_of_ble_eq_true rfl⟩ hl.1 rfl rfl (Nat.le_of_ble_eq_true rfl) ⟨Nat.le_of_ble_eq_true rfl, Nat.le_of_ble_eq_true rfl⟩ dX7_takeCall_41) hW (by omega) (by omega) (fun r_41 hp_32 H locs q_41 hW => ?_)
      obtain ⟨rfl, hM⟩ := q_41
      have := tkS_le (txN pn pt) w 49 53 sp
      refine lv_iadd X.1 X.2.1 dX7_takeCall_44 ?_
      refine r_eqi (show (((1 : Int32) + (nI (tkV (txN pn pt) w 49 53 sp))) : Int32) = nI (1 + (tkV (txN pn pt) w 49 53 sp)) from nI_add 1 (tkV (txN pn pt) w 49 53 sp)) ?_
      refine lv_istore_n (lv' := [(1, .int (nI (1 + (tkV (txN pn pt) w 49 53 sp)))), (0, .ref (M 0))]) X.1 X.2.1 dX7_takeCall_45 rfl hl (by decide) rfl (fun ls hl => ?_)
      refine lv_aload_n X.1 X.2.1 dX7_takeCall_46 rfl (lv_at hl 1 rfl) ?_
      refine on_Si (run_V (C := RX7) (As := []) (rest := []) X (c_X7_next l G hp_32 M (va_up (va_up sc 6 (bI (tkW (txN pn pt) w 49 53 sp))) 5 (nI (tkS (txN pn pt) w 49 53 sp))) ar sm hM pn pt hP (tkS (txN pn pt) w 49 53 sp) (by first | rfl | exact hs5) (by omega)) (rp_blind _) (rp_at X hW.1 hW.2.2) (recv X hW.1 hM.1 (C := RX7) (T := TX7) (N := 19) rfl) mf_X7_next tw_1120 tw_1122 tw_50 ⟨rfl, rfl, Nat.le_of_ble_eq_true rfl, Nat.le_of_ble_eq_true rfl⟩ hl.1 rfl rfl (Nat.le_of_ble_eq_true rfl) ⟨Nat.le_of_ble_eq_true rfl, Nat.le_of_ble_eq_true rfl⟩ dX7_takeCall_47) (fun r_47 q_47 => ?_)
      obtain rfl : r_47 = nI (txN pn pt (tkS (txN pn pt) w 49 53 sp)) := q_47
      have htx_47 := tx_le hP (tkS (txN pn pt) w 49 53 sp)
      refine lv_bipush (v := 110) X.1 X.2.1 dX7_takeCall_50 (by decide) ?_
      refine lv_icmp_ne (tgt := 59) X.1 X.2.1 dX7_takeCall_52 (by decide) (fun c_52 => ?_) (fun c_52 => ?_)
      · have k_52 := k_ne (a := (txN pn pt (tkS (txN pn pt) w 49 53 sp))) (b := 110) (by omega) (by omega) c_52
        refine lv_aload_n X.1 X.2.1 dX7_takeCall_59 rfl (lv_at hl 1 rfl) ?_
        refine on_Si (run_V (C := RX7) (As := []) (rest := []) X (c_X7_next l G hp_32 M (va_up (va_up sc 6 (bI (tkW (txN pn pt) w 49 53 sp))) 5 (nI (tkS (txN pn pt) w 49 53 sp))) ar sm hM pn pt hP (tkS (txN pn pt) w 49 53 sp) (by first | rfl | exact hs5) (by omega)) (rp_blind _) (rp_at X hW.1 hW.2.2) (recv X hW.1 hM.1 (C := RX7) (T := TX7) (N := 19) rfl) mf_X7_next tw_1120 tw_1122 tw_50 ⟨rfl, rfl, Nat.le_of_ble_eq_true rfl, Nat.le_of_ble_eq_true rfl⟩ hl.1 rfl rfl (Nat.le_of_ble_eq_true rfl) ⟨Nat.le_of_ble_eq_true rfl, Nat.le_of_ble_eq_true rfl⟩ dX7_takeCall_60) (fun r_60 q_60 => ?_)
        obtain rfl : r_60 = nI (txN pn pt (tkS (txN pn pt) w 49 53 sp)) := q_60
        have htx_60 := tx_le hP (tkS (txN pn pt) w 49 53 sp)
        refine on_Si (run_S (As := [.int (nI (txN pn pt (tkS (txN pn pt) w 49 53 sp)))]) (rest := []) X (c_X7_suitBy l G hp_32 (nI (txN pn pt (tkS (txN pn pt) w 49 53 sp)))) (rp_blind _) (rp_at X hW.1 hW.2.2) mf_X7_suitBy tw_1128 tw_1129 ⟨rfl, rfl, Nat.le_of_ble_eq_true rfl, Nat.le_of_ble_eq_true rfl⟩ hl.1 rfl rfl (Nat.le_of_ble_eq_true rfl) ⟨Nat.le_of_ble_eq_true rfl, Nat.le_of_ble_eq_true rfl⟩ dX7_takeCall_63) (fun r_63 q_63 => ?_)
        obtain rfl : r_63 = (sbI (nI (txN pn pt (tkS (txN pn pt) w 49 53 sp)))) := q_63
        refine lv_istore_n (lv' := [(2, .int (sbI (nI (txN pn pt (tkS (txN pn pt) w 49 53 sp))))), (1, .int (nI (1 + (tkV (txN pn pt) w 49 53 sp)))), (0, .ref (M 0))]) X.1 X.2.1 dX7_takeCall_66 rfl hl (by decide) rfl (fun ls hl => ?_)
        refine lv_aload_n X.1 X.2.1 dX7_takeCall_67 rfl (lv_at hl 2 rfl) ?_
        refine lv_aload_n X.1 X.2.1 dX7_takeCall_68 rfl (lv_at hl 2 rfl) ?_
        refine r_get X hW.1 hM.1 (v := .int (bI (tkW (txN pn pt) w 49 53 sp))) (C := RX7) (T := TX7) (N := 19) rfl tin_X7 18 (by decide) tw_861 (fun _ h => h) rfl dX7_takeCall_69 ?_
        refine lv_if_ne (tgt := 79) X.1 X.2.1 dX7_takeCall_72 (by decide) (fun c_72 => ?_) (fun c_72 => ?_)
        · refine lv_iconst (v := 1) X.1 X.2.1 dX7_takeCall_79 (by decide) ?_
          refine lv_goto (tgt := 84) X.1 X.2.1 dX7_takeCall_80 (by decide) ?_
          refine r_put X hW hM.1 (v := .int 1) (C := RX7) (T := TX7) (N := 19) rfl tin_X7 tyX7_ok nmX7 18 (Nat.le_of_ble_eq_true rfl) tw_861 (fun _ h => h) rfl (by decide) rfl (Nat.le_of_ble_eq_true rfl) dX7_takeCall_84 (fun hp_33 H locs hW eh_34 => ?_)
          have hM := mr_sc6 hM eh_34
          refine lv_aload_n X.1 X.2.1 dX7_takeCall_87 rfl (lv_at hl 2 rfl) ?_
          refine lv_dup X.1 X.2.1 dX7_takeCall_88 rfl ?_
          refine r_get X hW.1 hM.1 (v := .int (nI (tkS (txN pn pt) w 49 53 sp))) (C := RX7) (T := TX7) (N := 19) rfl tin_X7 17 (by decide) tw_860 (fun _ h => h) rfl dX7_takeCall_89 ?_
          refine lv_aload_n X.1 X.2.1 dX7_takeCall_92 rfl (lv_at hl 2 rfl) ?_
          refine r_get X hW.1 hM.1 (v := .int 1) (C := RX7) (T := TX7) (N := 19) rfl tin_X7 18 (by decide) tw_861 (fun _ h => h) rfl dX7_takeCall_93 ?_
          refine lv_if_eq (tgt := 103) X.1 X.2.1 dX7_takeCall_96 (by decide) (fun c_96 => absurd c_96 (by decide)) (fun c_96 => ?_)
          refine lv_iconst (v := 0) X.1 X.2.1 dX7_takeCall_99 (by decide) ?_
          refine lv_goto (tgt := 104) X.1 X.2.1 dX7_takeCall_100 (by decide) ?_
          refine lv_iadd X.1 X.2.1 dX7_takeCall_104 ?_
          refine r_eqi (show (((nI (tkS (txN pn pt) w 49 53 sp)) + 0) : Int32) = nI (tkS (txN pn pt) w 49 53 sp) from nI_add (tkS (txN pn pt) w 49 53 sp) 0) ?_
          refine r_put X hW hM.1 (v := .int (nI (tkS (txN pn pt) w 49 53 sp))) (C := RX7) (T := TX7) (N := 19) rfl tin_X7 tyX7_ok nmX7 17 (Nat.le_of_ble_eq_true rfl) tw_860 (fun _ h => h) rfl rfl rfl (Nat.le_of_ble_eq_true rfl) dX7_takeCall_105 (fun hp_35 H locs hW eh_36 => ?_)
          have hM := mr_sc5 hM eh_36
          refine lv_aload_n X.1 X.2.1 dX7_takeCall_108 rfl (lv_at hl 2 rfl) ?_
          refine r_get X hW.1 hM.1 (v := .ref (M 11)) (C := RX7) (T := TX7) (N := 19) rfl tin_X7 14 (by decide) tw_857 (fun _ h => h) rfl dX7_takeCall_109 ?_
          refine lv_iconst (v := 1) X.1 X.2.1 dX7_takeCall_112 (by decide) ?_
          refine lv_iconst (v := 5) X.1 X.2.1 dX7_takeCall_113 (by decide) ?_
          refine lv_iload_n X.1 X.2.1 dX7_takeCall_114 rfl (lv_at hl 1 rfl) ?_
          refine lv_iconst (v := 1) X.1 X.2.1 dX7_takeCall_115 (by decide) ?_
          refine lv_isub X.1 X.2.1 dX7_takeCall_116 ?_
          refine r_eqi (show (((nI (1 + (tkV (txN pn pt) w 49 53 sp))) - 1) : Int32) = nI ((1 + (tkV (txN pn pt) w 49 53 sp)) - 1) from pk_sub (a := (1 + (tkV (txN pn pt) w 49 53 sp))) (b := 1) (by omega)) ?_
          refine lv_imul X.1 X.2.1 dX7_takeCall_117 ?_
          refine r_eqi (show (((5 : Int32) * (nI ((1 + (tkV (txN pn pt) w 49 53 sp)) - 1))) : Int32) = nI (5 * ((1 + (tkV (txN pn pt) w 49 53 sp)) - 1)) from pk_mul 5 ((1 + (tkV (txN pn pt) w 49 53 sp)) - 1)) ?_
          refine lv_iload_n X.1 X.2.1 dX7_takeCall_118 rfl (lv_at hl 0 rfl) ?_
          refine lv_iadd X.1 X.2.1 dX7_takeCall_119 ?_
          refine r_iast X hW (hM.2.1 10 (by decide)) (show vp_in (1) 14 from vp_in_nI (n := 1) (by omega) (by decide)) dX7_takeCall_120 (fun hp_37 H locs hW eh_38 => ?_)
          have hM := mr_ar hM 10 (by decide) eh_38
          have hc : caP (txN pn pt) w sp = false := by unfold caP; rw [decide_eq_false k_13, Bool.and_false]
          have htx9 : txN pn pt (tkS (txN pn pt) w 49 53 sp) ≤ 126 := tx_le hP _
          have hst : stN 110 (txN pn pt (tkS (txN pn pt) w 49 53 sp)) = suN (txN pn pt (tkS (txN pn pt) w 49 53 sp)) := if_neg k_52
          have hw : caW (txN pn pt) w sp = true := by rw [(ca_n hc).1, bI_1 c_72]; rfl
          exact wr_v X hr hlk hW ⟨_, (by rw [hw, (ca_n hc).2.1, if_pos hw]; exact mr_65 hM), f1_ne _ _, fun q => absurd (hw.symm.trans q) (by decide)⟩ (Nat.le_of_ble_eq_true rfl) (Nat.le_of_ble_eq_true rfl) dX7_takeCall_121
        · refine lv_iload_n X.1 X.2.1 dX7_takeCall_75 rfl (lv_at hl 0 rfl) ?_
          refine lv_if_ge (tgt := 83) X.1 X.2.1 dX7_takeCall_76 (by decide) (fun c_76 => ?_) (fun c_76 => ?_)
          · refine lv_iconst (v := 0) X.1 X.2.1 dX7_takeCall_83 (by decide) ?_
            refine r_put X hW hM.1 (v := .int 0) (C := RX7) (T := TX7) (N := 19) rfl tin_X7 tyX7_ok nmX7 18 (Nat.le_of_ble_eq_true rfl) tw_861 (fun _ h => h) rfl (by decide) rfl (Nat.le_of_ble_eq_true rfl) dX7_takeCall_84 (fun hp_39 H locs hW eh_40 => ?_)
            have hM := mr_sc6 hM eh_40
            refine lv_aload_n X.1 X.2.1 dX7_takeCall_87 rfl (lv_at hl 2 rfl) ?_
            refine lv_dup X.1 X.2.1 dX7_takeCall_88 rfl ?_
            refine r_get X hW.1 hM.1 (v := .int (nI (tkS (txN pn pt) w 49 53 sp))) (C := RX7) (T := TX7) (N := 19) rfl tin_X7 17 (by decide) tw_860 (fun _ h => h) rfl dX7_takeCall_89 ?_
            refine lv_aload_n X.1 X.2.1 dX7_takeCall_92 rfl (lv_at hl 2 rfl) ?_
            refine r_get X hW.1 hM.1 (v := .int 0) (C := RX7) (T := TX7) (N := 19) rfl tin_X7 18 (by decide) tw_861 (fun _ h => h) rfl dX7_takeCall_93 ?_
            refine lv_if_eq (tgt := 103) X.1 X.2.1 dX7_takeCall_96 (by decide) (fun c_96 => ?_) (fun c_96 => absurd (by decide) c_96)
            refine lv_iconst (v := 1) X.1 X.2.1 dX7_takeCall_103 (by decide) ?_
            refine lv_iadd X.1 X.2.1 dX7_takeCall_104 ?_
            refine r_eqi (show (((nI (tkS (txN pn pt) w 49 53 sp)) + 1) : Int32) = nI ((tkS (txN pn pt) w 49 53 sp) + 1) from nI_add (tkS (txN pn pt) w 49 53 sp) 1) ?_
            refine r_put X hW hM.1 (v := .int (nI ((tkS (txN pn pt) w 49 53 sp) + 1))) (C := RX7) (T := TX7) (N := 19) rfl tin_X7 tyX7_ok nmX7 17 (Nat.le_of_ble_eq_true rfl) tw_860 (fun _ h => h) rfl rfl rfl (Nat.le_of_ble_eq_true rfl) dX7_takeCall_105 (fun hp_41 H locs hW eh_42 => ?_)
            have hM := mr_sc5 hM eh_42
            refine lv_aload_n X.1 X.2.1 dX7_takeCall_108 rfl (lv_at hl 2 rfl) ?_
            refine r_get X hW.1 hM.1 (v := .ref (M 11)) (C := RX7) (T := TX7) (N := 19) rfl tin_X7 14 (by decide) tw_857 (fun _ h => h) rfl dX7_takeCall_109 ?_
            refine lv_iconst (v := 1) X.1 X.2.1 dX7_takeCall_112 (by decide) ?_
            refine lv_iconst (v := 5) X.1 X.2.1 dX7_takeCall_113 (by decide) ?_
            refine lv_iload_n X.1 X.2.1 dX7_takeCall_114 rfl (lv_at hl 1 rfl) ?_
            refine lv_iconst (v := 1) X.1 X.2.1 dX7_takeCall_115 (by decide) ?_
            refine lv_isub X.1 X.2.1 dX7_takeCall_116 ?_
            refine r_eqi (show (((nI (1 + (tkV (txN pn pt) w 49 53 sp))) - 1) : Int32) = nI ((1 + (tkV (txN pn pt) w 49 53 sp)) - 1) from pk_sub (a := (1 + (tkV (txN pn pt) w 49 53 sp))) (b := 1) (by omega)) ?_
            refine lv_imul X.1 X.2.1 dX7_takeCall_117 ?_
            refine r_eqi (show (((5 : Int32) * (nI ((1 + (tkV (txN pn pt) w 49 53 sp)) - 1))) : Int32) = nI (5 * ((1 + (tkV (txN pn pt) w 49 53 sp)) - 1)) from pk_mul 5 ((1 + (tkV (txN pn pt) w 49 53 sp)) - 1)) ?_
            refine lv_iload_n X.1 X.2.1 dX7_takeCall_118 rfl (lv_at hl 0 rfl) ?_
            refine lv_iadd X.1 X.2.1 dX7_takeCall_119 ?_
            refine r_iast X hW (hM.2.1 10 (by decide)) (show vp_in (1) 14 from vp_in_nI (n := 1) (by omega) (by decide)) dX7_takeCall_120 (fun hp_43 H locs hW eh_44 => ?_)
            have hM := mr_ar hM 10 (by decide) eh_44
            have hc : caP (txN pn pt) w sp = false := by unfold caP; rw [decide_eq_false k_13, Bool.and_false]
            have htx9 : txN pn pt (tkS (txN pn pt) w 49 53 sp) ≤ 126 := tx_le hP _
            have hst : stN 110 (txN pn pt (tkS (txN pn pt) w 49 53 sp)) = suN (txN pn pt (tkS (txN pn pt) w 49 53 sp)) := if_neg k_52
            have hsb := (sb_pos htx9 c_76).2
            have hsb1 := (sb_pos htx9 c_76).1
            have hw : caW (txN pn pt) w sp = false := by rw [(ca_n hc).1, hst, bI_0 c_72, decide_eq_false (show ¬ suN (txN pn pt (tkS (txN pn pt) w 49 53 sp)) = 9 by omega)]; rfl
            exact wr_v X hr hlk hW ⟨_, (by rw [hw, (ca_n hc).2.1, if_neg (fun q => absurd (hw.symm.trans q) (by decide))]; exact mr_65 hM), f1_ne _ _, fun _ => by rw [(ca_n hc).2.2, hst]; refine (f1_eq _ _).trans ?_; rw [Nat.add_sub_cancel_left]; rw [hsb]; exact nI_add _ _⟩ (Nat.le_of_ble_eq_true rfl) (Nat.le_of_ble_eq_true rfl) dX7_takeCall_121
          · refine lv_iconst (v := 1) X.1 X.2.1 dX7_takeCall_79 (by decide) ?_
            refine lv_goto (tgt := 84) X.1 X.2.1 dX7_takeCall_80 (by decide) ?_
            refine r_put X hW hM.1 (v := .int 1) (C := RX7) (T := TX7) (N := 19) rfl tin_X7 tyX7_ok nmX7 18 (Nat.le_of_ble_eq_true rfl) tw_861 (fun _ h => h) rfl (by decide) rfl (Nat.le_of_ble_eq_true rfl) dX7_takeCall_84 (fun hp_45 H locs hW eh_46 => ?_)
            have hM := mr_sc6 hM eh_46
            refine lv_aload_n X.1 X.2.1 dX7_takeCall_87 rfl (lv_at hl 2 rfl) ?_
            refine lv_dup X.1 X.2.1 dX7_takeCall_88 rfl ?_
            refine r_get X hW.1 hM.1 (v := .int (nI (tkS (txN pn pt) w 49 53 sp))) (C := RX7) (T := TX7) (N := 19) rfl tin_X7 17 (by decide) tw_860 (fun _ h => h) rfl dX7_takeCall_89 ?_
            refine lv_aload_n X.1 X.2.1 dX7_takeCall_92 rfl (lv_at hl 2 rfl) ?_
            refine r_get X hW.1 hM.1 (v := .int 1) (C := RX7) (T := TX7) (N := 19) rfl tin_X7 18 (by decide) tw_861 (fun _ h => h) rfl dX7_takeCall_93 ?_
            refine lv_if_eq (tgt := 103) X.1 X.2.1 dX7_takeCall_96 (by decide) (fun c_96 => absurd c_96 (by decide)) (fun c_96 => ?_)
            refine lv_iconst (v := 0) X.1 X.2.1 dX7_takeCall_99 (by decide) ?_
            refine lv_goto (tgt := 104) X.1 X.2.1 dX7_takeCall_100 (by decide) ?_
            refine lv_iadd X.1 X.2.1 dX7_takeCall_104 ?_
            refine r_eqi (show (((nI (tkS (txN pn pt) w 49 53 sp)) + 0) : Int32) = nI (tkS (txN pn pt) w 49 53 sp) from nI_add (tkS (txN pn pt) w 49 53 sp) 0) ?_
            refine r_put X hW hM.1 (v := .int (nI (tkS (txN pn pt) w 49 53 sp))) (C := RX7) (T := TX7) (N := 19) rfl tin_X7 tyX7_ok nmX7 17 (Nat.le_of_ble_eq_true rfl) tw_860 (fun _ h => h) rfl rfl rfl (Nat.le_of_ble_eq_true rfl) dX7_takeCall_105 (fun hp_47 H locs hW eh_48 => ?_)
            have hM := mr_sc5 hM eh_48
            refine lv_aload_n X.1 X.2.1 dX7_takeCall_108 rfl (lv_at hl 2 rfl) ?_
            refine r_get X hW.1 hM.1 (v := .ref (M 11)) (C := RX7) (T := TX7) (N := 19) rfl tin_X7 14 (by decide) tw_857 (fun _ h => h) rfl dX7_takeCall_109 ?_
            refine lv_iconst (v := 1) X.1 X.2.1 dX7_takeCall_112 (by decide) ?_
            refine lv_iconst (v := 5) X.1 X.2.1 dX7_takeCall_113 (by decide) ?_
            refine lv_iload_n X.1 X.2.1 dX7_takeCall_114 rfl (lv_at hl 1 rfl) ?_
            refine lv_iconst (v := 1) X.1 X.2.1 dX7_takeCall_115 (by decide) ?_
            refine lv_isub X.1 X.2.1 dX7_takeCall_116 ?_
            refine r_eqi (show (((nI (1 + (tkV (txN pn pt) w 49 53 sp))) - 1) : Int32) = nI ((1 + (tkV (txN pn pt) w 49 53 sp)) - 1) from pk_sub (a := (1 + (tkV (txN pn pt) w 49 53 sp))) (b := 1) (by omega)) ?_
            refine lv_imul X.1 X.2.1 dX7_takeCall_117 ?_
            refine r_eqi (show (((5 : Int32) * (nI ((1 + (tkV (txN pn pt) w 49 53 sp)) - 1))) : Int32) = nI (5 * ((1 + (tkV (txN pn pt) w 49 53 sp)) - 1)) from pk_mul 5 ((1 + (tkV (txN pn pt) w 49 53 sp)) - 1)) ?_
            refine lv_iload_n X.1 X.2.1 dX7_takeCall_118 rfl (lv_at hl 0 rfl) ?_
            refine lv_iadd X.1 X.2.1 dX7_takeCall_119 ?_
            refine r_iast X hW (hM.2.1 10 (by decide)) (show vp_in (1) 14 from vp_in_nI (n := 1) (by omega) (by decide)) dX7_takeCall_120 (fun hp_49 H locs hW eh_50 => ?_)
            have hM := mr_ar hM 10 (by decide) eh_50
            have hc : caP (txN pn pt) w sp = false := by unfold caP; rw [decide_eq_false k_13, Bool.and_false]
            have htx9 : txN pn pt (tkS (txN pn pt) w 49 53 sp) ≤ 126 := tx_le hP _
            have hst : stN 110 (txN pn pt (tkS (txN pn pt) w 49 53 sp)) = suN (txN pn pt (tkS (txN pn pt) w 49 53 sp)) := if_neg k_52
            have hw : caW (txN pn pt) w sp = true := by rw [(ca_n hc).1, hst, sb_neg htx9 c_76]; exact Bool.or_true _
            exact wr_v X hr hlk hW ⟨_, (by rw [hw, (ca_n hc).2.1, if_pos hw]; exact mr_65 hM), f1_ne _ _, fun q => absurd (hw.symm.trans q) (by decide)⟩ (Nat.le_of_ble_eq_true rfl) (Nat.le_of_ble_eq_true rfl) dX7_takeCall_121
      · have k_52 := k_eq (a := (txN pn pt (tkS (txN pn pt) w 49 53 sp))) (b := 110) (by omega) (by omega) c_52
        refine lv_iconst (v := 4) X.1 X.2.1 dX7_takeCall_55 (by decide) ?_
        refine lv_goto (tgt := 66) X.1 X.2.1 dX7_takeCall_56 (by decide) ?_
        refine lv_istore_n (lv' := [(2, .int 4), (1, .int (nI (1 + (tkV (txN pn pt) w 49 53 sp)))), (0, .ref (M 0))]) X.1 X.2.1 dX7_takeCall_66 rfl hl (by decide) rfl (fun ls hl => ?_)
        refine lv_aload_n X.1 X.2.1 dX7_takeCall_67 rfl (lv_at hl 2 rfl) ?_
        refine lv_aload_n X.1 X.2.1 dX7_takeCall_68 rfl (lv_at hl 2 rfl) ?_
        refine r_get X hW.1 hM.1 (v := .int (bI (tkW (txN pn pt) w 49 53 sp))) (C := RX7) (T := TX7) (N := 19) rfl tin_X7 18 (by decide) tw_861 (fun _ h => h) rfl dX7_takeCall_69 ?_
        refine lv_if_ne (tgt := 79) X.1 X.2.1 dX7_takeCall_72 (by decide) (fun c_72 => ?_) (fun c_72 => ?_)
        · refine lv_iconst (v := 1) X.1 X.2.1 dX7_takeCall_79 (by decide) ?_
          refine lv_goto (tgt := 84) X.1 X.2.1 dX7_takeCall_80 (by decide) ?_
          refine r_put X hW hM.1 (v := .int 1) (C := RX7) (T := TX7) (N := 19) rfl tin_X7 tyX7_ok nmX7 18 (Nat.le_of_ble_eq_true rfl) tw_861 (fun _ h => h) rfl (by decide) rfl (Nat.le_of_ble_eq_true rfl) dX7_takeCall_84 (fun hp_51 H locs hW eh_52 => ?_)
          have hM := mr_sc6 hM eh_52
          refine lv_aload_n X.1 X.2.1 dX7_takeCall_87 rfl (lv_at hl 2 rfl) ?_
          refine lv_dup X.1 X.2.1 dX7_takeCall_88 rfl ?_
          refine r_get X hW.1 hM.1 (v := .int (nI (tkS (txN pn pt) w 49 53 sp))) (C := RX7) (T := TX7) (N := 19) rfl tin_X7 17 (by decide) tw_860 (fun _ h => h) rfl dX7_takeCall_89 ?_
          refine lv_aload_n X.1 X.2.1 dX7_takeCall_92 rfl (lv_at hl 2 rfl) ?_
          refine r_get X hW.1 hM.1 (v := .int 1) (C := RX7) (T := TX7) (N := 19) rfl tin_X7 18 (by decide) tw_861 (fun _ h => h) rfl dX7_takeCall_93 ?_
          refine lv_if_eq (tgt := 103) X.1 X.2.1 dX7_takeCall_96 (by decide) (fun c_96 => absurd c_96 (by decide)) (fun c_96 => ?_)
          refine lv_iconst (v := 0) X.1 X.2.1 dX7_takeCall_99 (by decide) ?_
          refine lv_goto (tgt := 104) X.1 X.2.1 dX7_takeCall_100 (by decide) ?_
          refine lv_iadd X.1 X.2.1 dX7_takeCall_104 ?_
          refine r_eqi (show (((nI (tkS (txN pn pt) w 49 53 sp)) + 0) : Int32) = nI (tkS (txN pn pt) w 49 53 sp) from nI_add (tkS (txN pn pt) w 49 53 sp) 0) ?_
          refine r_put X hW hM.1 (v := .int (nI (tkS (txN pn pt) w 49 53 sp))) (C := RX7) (T := TX7) (N := 19) rfl tin_X7 tyX7_ok nmX7 17 (Nat.le_of_ble_eq_true rfl) tw_860 (fun _ h => h) rfl rfl rfl (Nat.le_of_ble_eq_true rfl) dX7_takeCall_105 (fun hp_53 H locs hW eh_54 => ?_)
          have hM := mr_sc5 hM eh_54
          refine lv_aload_n X.1 X.2.1 dX7_takeCall_108 rfl (lv_at hl 2 rfl) ?_
          refine r_get X hW.1 hM.1 (v := .ref (M 11)) (C := RX7) (T := TX7) (N := 19) rfl tin_X7 14 (by decide) tw_857 (fun _ h => h) rfl dX7_takeCall_109 ?_
          refine lv_iconst (v := 1) X.1 X.2.1 dX7_takeCall_112 (by decide) ?_
          refine lv_iconst (v := 5) X.1 X.2.1 dX7_takeCall_113 (by decide) ?_
          refine lv_iload_n X.1 X.2.1 dX7_takeCall_114 rfl (lv_at hl 1 rfl) ?_
          refine lv_iconst (v := 1) X.1 X.2.1 dX7_takeCall_115 (by decide) ?_
          refine lv_isub X.1 X.2.1 dX7_takeCall_116 ?_
          refine r_eqi (show (((nI (1 + (tkV (txN pn pt) w 49 53 sp))) - 1) : Int32) = nI ((1 + (tkV (txN pn pt) w 49 53 sp)) - 1) from pk_sub (a := (1 + (tkV (txN pn pt) w 49 53 sp))) (b := 1) (by omega)) ?_
          refine lv_imul X.1 X.2.1 dX7_takeCall_117 ?_
          refine r_eqi (show (((5 : Int32) * (nI ((1 + (tkV (txN pn pt) w 49 53 sp)) - 1))) : Int32) = nI (5 * ((1 + (tkV (txN pn pt) w 49 53 sp)) - 1)) from pk_mul 5 ((1 + (tkV (txN pn pt) w 49 53 sp)) - 1)) ?_
          refine lv_iload_n X.1 X.2.1 dX7_takeCall_118 rfl (lv_at hl 0 rfl) ?_
          refine lv_iadd X.1 X.2.1 dX7_takeCall_119 ?_
          refine r_eqi (show (((nI (5 * ((1 + (tkV (txN pn pt) w 49 53 sp)) - 1))) + 4) : Int32) = nI ((5 * ((1 + (tkV (txN pn pt) w 49 53 sp)) - 1)) + 4) from nI_add (5 * ((1 + (tkV (txN pn pt) w 49 53 sp)) - 1)) 4) ?_
          refine r_iast X hW (hM.2.1 10 (by decide)) (show vp_in (1) 14 from vp_in_nI (n := 1) (by omega) (by decide)) dX7_takeCall_120 (fun hp_55 H locs hW eh_56 => ?_)
          have hM := mr_ar hM 10 (by decide) eh_56
          have hc : caP (txN pn pt) w sp = false := by unfold caP; rw [decide_eq_false k_13, Bool.and_false]
          have htx9 : txN pn pt (tkS (txN pn pt) w 49 53 sp) ≤ 126 := tx_le hP _
          have hst : stN 110 (txN pn pt (tkS (txN pn pt) w 49 53 sp)) = 4 := if_pos k_52
          have hw : caW (txN pn pt) w sp = true := by rw [(ca_n hc).1, bI_1 c_72]; rfl
          exact wr_v X hr hlk hW ⟨_, (by rw [hw, (ca_n hc).2.1, if_pos hw]; exact mr_65 hM), f1_ne _ _, fun q => absurd (hw.symm.trans q) (by decide)⟩ (Nat.le_of_ble_eq_true rfl) (Nat.le_of_ble_eq_true rfl) dX7_takeCall_121
        · refine lv_iload_n X.1 X.2.1 dX7_takeCall_75 rfl (lv_at hl 0 rfl) ?_
          refine lv_if_ge (tgt := 83) X.1 X.2.1 dX7_takeCall_76 (by decide) (fun c_76 => ?_) (fun c_76 => absurd (by decide) c_76)
          refine lv_iconst (v := 0) X.1 X.2.1 dX7_takeCall_83 (by decide) ?_
          refine r_put X hW hM.1 (v := .int 0) (C := RX7) (T := TX7) (N := 19) rfl tin_X7 tyX7_ok nmX7 18 (Nat.le_of_ble_eq_true rfl) tw_861 (fun _ h => h) rfl (by decide) rfl (Nat.le_of_ble_eq_true rfl) dX7_takeCall_84 (fun hp_57 H locs hW eh_58 => ?_)
          have hM := mr_sc6 hM eh_58
          refine lv_aload_n X.1 X.2.1 dX7_takeCall_87 rfl (lv_at hl 2 rfl) ?_
          refine lv_dup X.1 X.2.1 dX7_takeCall_88 rfl ?_
          refine r_get X hW.1 hM.1 (v := .int (nI (tkS (txN pn pt) w 49 53 sp))) (C := RX7) (T := TX7) (N := 19) rfl tin_X7 17 (by decide) tw_860 (fun _ h => h) rfl dX7_takeCall_89 ?_
          refine lv_aload_n X.1 X.2.1 dX7_takeCall_92 rfl (lv_at hl 2 rfl) ?_
          refine r_get X hW.1 hM.1 (v := .int 0) (C := RX7) (T := TX7) (N := 19) rfl tin_X7 18 (by decide) tw_861 (fun _ h => h) rfl dX7_takeCall_93 ?_
          refine lv_if_eq (tgt := 103) X.1 X.2.1 dX7_takeCall_96 (by decide) (fun c_96 => ?_) (fun c_96 => absurd (by decide) c_96)
          refine lv_iconst (v := 1) X.1 X.2.1 dX7_takeCall_103 (by decide) ?_
          refine lv_iadd X.1 X.2.1 dX7_takeCall_104 ?_
          refine r_eqi (show (((nI (tkS (txN pn pt) w 49 53 sp)) + 1) : Int32) = nI ((tkS (txN pn pt) w 49 53 sp) + 1) from nI_add (tkS (txN pn pt) w 49 53 sp) 1) ?_
          refine r_put X hW hM.1 (v := .int (nI ((tkS (txN pn pt) w 49 53 sp) + 1))) (C := RX7) (T := TX7) (N := 19) rfl tin_X7 tyX7_ok nmX7 17 (Nat.le_of_ble_eq_true rfl) tw_860 (fun _ h => h) rfl rfl rfl (Nat.le_of_ble_eq_true rfl) dX7_takeCall_105 (fun hp_59 H locs hW eh_60 => ?_)
          have hM := mr_sc5 hM eh_60
          refine lv_aload_n X.1 X.2.1 dX7_takeCall_108 rfl (lv_at hl 2 rfl) ?_
          refine r_get X hW.1 hM.1 (v := .ref (M 11)) (C := RX7) (T := TX7) (N := 19) rfl tin_X7 14 (by decide) tw_857 (fun _ h => h) rfl dX7_takeCall_109 ?_
          refine lv_iconst (v := 1) X.1 X.2.1 dX7_takeCall_112 (by decide) ?_
          refine lv_iconst (v := 5) X.1 X.2.1 dX7_takeCall_113 (by decide) ?_
          refine lv_iload_n X.1 X.2.1 dX7_takeCall_114 rfl (lv_at hl 1 rfl) ?_
          refine lv_iconst (v := 1) X.1 X.2.1 dX7_takeCall_115 (by decide) ?_
          refine lv_isub X.1 X.2.1 dX7_takeCall_116 ?_
          refine r_eqi (show (((nI (1 + (tkV (txN pn pt) w 49 53 sp))) - 1) : Int32) = nI ((1 + (tkV (txN pn pt) w 49 53 sp)) - 1) from pk_sub (a := (1 + (tkV (txN pn pt) w 49 53 sp))) (b := 1) (by omega)) ?_
          refine lv_imul X.1 X.2.1 dX7_takeCall_117 ?_
          refine r_eqi (show (((5 : Int32) * (nI ((1 + (tkV (txN pn pt) w 49 53 sp)) - 1))) : Int32) = nI (5 * ((1 + (tkV (txN pn pt) w 49 53 sp)) - 1)) from pk_mul 5 ((1 + (tkV (txN pn pt) w 49 53 sp)) - 1)) ?_
          refine lv_iload_n X.1 X.2.1 dX7_takeCall_118 rfl (lv_at hl 0 rfl) ?_
          refine lv_iadd X.1 X.2.1 dX7_takeCall_119 ?_
          refine r_eqi (show (((nI (5 * ((1 + (tkV (txN pn pt) w 49 53 sp)) - 1))) + 4) : Int32) = nI ((5 * ((1 + (tkV (txN pn pt) w 49 53 sp)) - 1)) + 4) from nI_add (5 * ((1 + (tkV (txN pn pt) w 49 53 sp)) - 1)) 4) ?_
          refine r_iast X hW (hM.2.1 10 (by decide)) (show vp_in (1) 14 from vp_in_nI (n := 1) (by omega) (by decide)) dX7_takeCall_120 (fun hp_61 H locs hW eh_62 => ?_)
          have hM := mr_ar hM 10 (by decide) eh_62
          have hc : caP (txN pn pt) w sp = false := by unfold caP; rw [decide_eq_false k_13, Bool.and_false]
          have htx9 : txN pn pt (tkS (txN pn pt) w 49 53 sp) ≤ 126 := tx_le hP _
          have hst : stN 110 (txN pn pt (tkS (txN pn pt) w 49 53 sp)) = 4 := if_pos k_52
          have hw : caW (txN pn pt) w sp = false := by rw [(ca_n hc).1, hst, bI_0 c_72]; rfl
          exact wr_v X hr hlk hW ⟨_, (by rw [hw, (ca_n hc).2.1, if_neg (fun q => absurd (hw.symm.trans q) (by decide))]; exact mr_65 hM), f1_ne _ _, fun _ => by rw [(ca_n hc).2.2, hst]; refine (f1_eq _ _).trans ?_; rw [Nat.add_sub_cancel_left]⟩ (Nat.le_of_ble_eq_true rfl) (Nat.le_of_ble_eq_true rfl) dX7_takeCall_121
    · have k_13 := k_eq (a := (txN pn pt sp)) (b := 112) (by omega) (by omega) c_13
      refine lv_aload_n X.1 X.2.1 dX7_takeCall_16 rfl (lv_at hl 0 rfl) ?_
      refine lv_dup X.1 X.2.1 dX7_takeCall_17 rfl ?_
      refine r_get X hW.1 hM.1 (v := .int (sc 5)) (C := RX7) (T := TX7) (N := 19) rfl tin_X7 17 (by decide) tw_860 (fun _ h => h) rfl dX7_takeCall_18 ?_
      refine r_eqi (show ((sc 5) : Int32) = nI sp from hs5) ?_
      refine lv_iconst (v := 1) X.1 X.2.1 dX7_takeCall_21 (by decide) ?_
      refine lv_iadd X.1 X.2.1 dX7_takeCall_22 ?_
      refine r_eqi (show (((nI sp) + 1) : Int32) = nI (sp + 1) from nI_add sp 1) ?_
      refine r_put X hW hM.1 (v := .int (nI (sp + 1))) (C := RX7) (T := TX7) (N := 19) rfl tin_X7 tyX7_ok nmX7 17 (Nat.le_of_ble_eq_true rfl) tw_860 (fun _ h => h) rfl rfl rfl (Nat.le_of_ble_eq_true rfl) dX7_takeCall_23 (fun hp_63 H locs hW eh_64 => ?_)
      have hM := mr_sc5 hM eh_64
      refine lv_aload_n X.1 X.2.1 dX7_takeCall_26 rfl (lv_at hl 0 rfl) ?_
      refine r_get X hW.1 hM.1 (v := .ref (M 11)) (C := RX7) (T := TX7) (N := 19) rfl tin_X7 14 (by decide) tw_857 (fun _ h => h) rfl dX7_takeCall_27 ?_
      refine lv_iconst (v := 1) X.1 X.2.1 dX7_takeCall_30 (by decide) ?_
      refine lv_bipush (v := 25) X.1 X.2.1 dX7_takeCall_31 (by decide) ?_
      refine r_iast X hW (hM.2.1 10 (by decide)) (show vp_in (1) 14 from vp_in_nI (n := 1) (by omega) (by decide)) dX7_takeCall_33 (fun hp_65 H locs hW eh_66 => ?_)
      have hM := mr_ar hM 10 (by decide) eh_66
      have hc : caP (txN pn pt) w sp = true := by unfold caP; rw [bI_0 c_4, decide_eq_true k_13]; rfl
      exact wr_v X hr hlk hW ⟨_, (by rw [(ca_p hc).1, (ca_p hc).2.1, va_id6 hs6]; exact hM), f1_ne _ _, fun _ => by rw [(ca_p hc).2.2]; exact f1_eq _ _⟩ (Nat.le_of_ble_eq_true rfl) (Nat.le_of_ble_eq_true rfl) dX7_takeCall_34

