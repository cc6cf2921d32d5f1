/-! reading the text -/
/-- the code at a place; 0 behind the text -/
def txN (pn : Nat) (pt : Nat → Nat) (i : Nat) : Nat := if i < pn then pt i else 0
theorem tx_le {pn : Nat} {pt : Nat → Nat} {sc : Nat → Int32} {ar : Nat → Nat → Int32} (h : MP pn pt sc ar) (i : Nat) : txN pn pt i ≤ 126 := by
  unfold txN
  split
  · exact (h.2.2.2 i (by assumption)).2
  · omega
/-- a sign between lo and hi is taken: wrong behind it, the place behind it, its value -/
def tkW (tx : Nat → Nat) (w : Bool) (lo hi sp : Nat) : Bool := w || !(decide (lo ≤ tx sp ∧ tx sp ≤ hi))
def tkS (tx : Nat → Nat) (w : Bool) (lo hi sp : Nat) : Nat := if tkW tx w lo hi sp = true then sp else sp + 1
def tkV (tx : Nat → Nat) (w : Bool) (lo hi sp : Nat) : Nat := if tkW tx w lo hi sp = true then 0 else tx sp - lo
theorem tk_t {tx : Nat → Nat} {w : Bool} {lo hi sp : Nat} (h : tkW tx w lo hi sp = true) : tkS tx w lo hi sp = sp ∧ tkV tx w lo hi sp = 0 := ⟨if_pos h, if_pos h⟩
theorem tk_f {tx : Nat → Nat} {w : Bool} {lo hi sp : Nat} (h : ¬ tkW tx w lo hi sp = true) : tkS tx w lo hi sp = sp + 1 ∧ tkV tx w lo hi sp = tx sp - lo := ⟨if_neg h, if_neg h⟩
theorem tkS_le (tx : Nat → Nat) (w : Bool) (lo hi sp : Nat) : tkS tx w lo hi sp ≤ sp + 1 := by unfold tkS; split <;> omega
theorem tkW_w {tx : Nat → Nat} {w : Bool} {lo hi sp : Nat} (h : tkW tx w lo hi sp = false) : w = false ∧ lo ≤ tx sp ∧ tx sp ≤ hi := by
  unfold tkW at h
  rw [Bool.or_eq_false_iff] at h
  refine ⟨h.1, ?_⟩
  have := h.2
  simp at this
  exact this
set_option maxHeartbeats 4000000 in
set_option maxRecDepth 100000 in
theorem c_X7_next (l : Launch) (G : HG) (hp : HP) (M : Nat → Nat) (sc : Nat → Int32) (ar : Nat → Nat → Int32) (sm : Nat → Int64) (hM : MR G hp M sc ar sm) (pn : Nat) (pt : Nat → Nat) (hP : MP pn pt sc ar) (sp : Nat) (hs5 : sc 5 = nI sp) (hsp : sp < 2 ^ 30) : Met l yX7_next [.code yX7_next cX7_next 1 (some .int)] { frames := 0, cells := 0, slots := 0, locals := 0 } (va_Pc [.ref (M 0)] (RP G hp)) (vp_Si (fun r => r = nI (txN pn pt sp))) 0 0 (fun _ => False) := by
  refine ro_ofW (by decide) (Nat.le_of_ble_eq_true rfl) ?_
  intro p e s m args below meth c ls X hr hlk hH hl
  have hS : va_S (fun _ => False) s.heap s.heap [] := va_S.rf
  have hl : lv_has ls 1 [(0, .ref (M 0))] := hl
  have hpn := hP.2.1
  refine lv_aload_n X.1 X.2.1 dX7_next_0 rfl (lv_at hl 0 rfl) ?_
  refine r_get X hH hM.1 (v := .int (sc 5)) (C := RX7) (T := TX7) (N := 19) rfl tin_X7 17 (by decide) tw_860 (fun _ h => h) rfl dX7_next_1 ?_
  refine r_eqi (show ((sc 5) : Int32) = nI sp from hs5) ?_
  refine lv_aload_n X.1 X.2.1 dX7_next_4 rfl (lv_at hl 0 rfl) ?_
  refine r_get X hH hM.1 (v := .int (sc 3)) (C := RX7) (T := TX7) (N := 19) rfl tin_X7 13 (by decide) tw_856 (fun _ h => h) rfl dX7_next_5 ?_
  refine r_eqi (show ((sc 3) : Int32) = nI pn from hP.1) ?_
  refine lv_icmp_ge (tgt := 23) X.1 X.2.1 dX7_next_8 (by decide) (fun c_8 => ?_) (fun c_8 => ?_)
  · have k_8 := k_le (a := pn) (b := sp) (by omega) (by omega) c_8
    refine lv_iconst (v := 0) X.1 X.2.1 dX7_next_23 (by decide) ?_
    exact ro_i X hr hlk (by show nI 0 = nI (txN pn pt sp); unfold txN; rw [if_neg (show ¬ sp < pn by omega)]) dX7_next_24
  · have k_8 := k_nle (a := pn) (b := sp) (by omega) (by omega) c_8
    refine lv_aload_n X.1 X.2.1 dX7_next_11 rfl (lv_at hl 0 rfl) ?_
    refine r_get X hH hM.1 (v := .ref (M 10)) (C := RX7) (T := TX7) (N := 19) rfl tin_X7 12 (by decide) tw_855 (fun _ h => h) rfl dX7_next_12 ?_
    refine lv_aload_n X.1 X.2.1 dX7_next_15 rfl (lv_at hl 0 rfl) ?_
    refine r_get X hH hM.1 (v := .int (sc 5)) (C := RX7) (T := TX7) (N := 19) rfl tin_X7 17 (by decide) tw_860 (fun _ h => h) rfl dX7_next_16 ?_
    refine r_eqi (show ((sc 5) : Int32) = nI sp from hs5) ?_
    refine r_iald X hH (hM.2.1 9 (by decide)) (show vp_in ((nI sp)) 60 from vp_in_nI (n := sp) (by omega) (by decide)) dX7_next_19 ?_
    refine r_eqi (show (((ar 9) (nI sp).toNatClampNeg) : Int32) = nI (pt sp) from by rw [nI_clamp (by omega)]; exact hP.2.2.1 sp (by omega)) ?_
    refine lv_goto (tgt := 24) X.1 X.2.1 dX7_next_20 (by decide) ?_
    exact ro_i X hr hlk (by show nI (pt sp) = nI (txN pn pt sp); unfold txN; rw [if_pos (show sp < pn by omega)]) dX7_next_24

set_option maxHeartbeats 4000000 in
set_option maxRecDepth 100000 in
theorem c_X7_takeOne (l : Launch) (G : HG) (A : Nat → Prop) (hp : HP) (sz : Nat) (hA : ∀ q, sz ≤ q → A q) (hO : Ow A hp) (M : Nat → Nat) (sc : Nat → Int32) (ar : Nat → Nat → Int32) (sm : Nat → Int64) (hM : MR G hp M sc ar sm) (pn : Nat) (pt : Nat → Nat) (hP : MP pn pt sc ar) (sp : Nat) (hs5 : sc 5 = nI sp) (hsp : sp < 2 ^ 20) (w : Bool) (hs6 : sc 6 = bI w) (lo9 hi9 : Nat) (hlo : lo9 < 2 ^ 20) (hhi : hi9 < 2 ^ 20) : Met l yX7_takeOne [.code yX7_takeOne cX7_takeOne 4 (some .int)] { frames := 1, cells := 0, slots := 0, locals := 22 } (va_Pc [.ref (M 0), .int (nI lo9), .int (nI hi9)] (WP G A sz hp)) (va_Qi (fun r hp1 => r = nI (tkV (txN pn pt) w lo9 hi9 sp) ∧ MR G hp1 M (va_up (va_up sc 6 (bI (tkW (txN pn pt) w lo9 hi9 sp))) 5 (nI (tkS (txN pn pt) w lo9 hi9 sp))) ar sm) (WB G A) A) 0 0 A := by
  refine wr_ofW (by decide) (Nat.le_of_ble_eq_true rfl) hO ?_
  intro p e s m args below meth c ls X hr hlk hnm hsz hW hl
  have hA : ∀ q, s.heap.size ≤ q → A q := fun q h => hA q (by omega)
  have hl : lv_has ls 4 [(0, .ref (M 0)), (1, .int (nI lo9)), (2, .int (nI hi9))] := hl
  have hpn := hP.2.1
  refine lv_aload_n X.1 X.2.1 dX7_takeOne_0 rfl (lv_at hl 0 rfl) ?_
  refine lv_aload_n X.1 X.2.1 dX7_takeOne_1 rfl (lv_at hl 0 rfl) ?_
  refine r_get X hW.1 hM.1 (v := .int (sc 6)) (C := RX7) (T := TX7) (N := 19) rfl tin_X7 18 (by decide) tw_861 (fun _ h => h) rfl dX7_takeOne_2 ?_
  refine r_eqi (show ((sc 6) : Int32) = bI w from hs6) ?_
  refine lv_if_ne (tgt := 20) X.1 X.2.1 dX7_takeOne_5 (by decide) (fun c_5 => ?_) (fun c_5 => ?_)
  · refine lv_iconst (v := 1) X.1 X.2.1 dX7_takeOne_20 (by decide) ?_
    refine lv_goto (tgt := 25) X.1 X.2.1 dX7_takeOne_21 (by decide) ?_
    refine r_put X hW hM.1 (v := .int 1) (C := RX7) (T := TX7) (N := 19) rfl tin_X7 tyX7_ok nmX7 18 (Nat.le_of_ble_eq_true rfl) tw_861 (fun _ h => h) rfl (by decide) rfl (Nat.le_of_ble_eq_true rfl) dX7_takeOne_25 (fun hp_1 H locs hW eh_2 => ?_)
    have hM := mr_sc6 hM eh_2
    refine lv_aload_n X.1 X.2.1 dX7_takeOne_28 rfl (lv_at hl 0 rfl) ?_
    refine on_Si (run_V (C := RX7) (As := []) (rest := []) X (c_X7_next l G hp_1 M (va_up sc 6 1) ar sm hM pn pt hP sp (by first | rfl | exact hs5) (by omega)) (rp_blind _) (rp_at X hW.1 hW.2.2) (recv X hW.1 hM.1 (C := RX7) (T := TX7) (N := 19) rfl) mf_X7_next tw_1120 tw_1122 tw_50 ⟨rfl, rfl, Nat.le_of_ble_eq_true rfl, Nat.le_of_ble_eq_true rfl⟩ hl.1 rfl rfl (Nat.le_of_ble_eq_true rfl) ⟨Nat.le_of_ble_eq_true rfl, Nat.le_of_ble_eq_true rfl⟩ dX7_takeOne_29) (fun r_29 q_29 => ?_)
    obtain rfl : r_29 = nI (txN pn pt sp) := q_29
    have htx_29 := tx_le hP sp
    refine lv_iload_n X.1 X.2.1 dX7_takeOne_32 rfl (lv_at hl 1 rfl) ?_
    refine lv_isub X.1 X.2.1 dX7_takeOne_33 ?_
    refine lv_istore_n (lv' := [(3, .int ((nI (txN pn pt sp)) - (nI lo9))), (0, .ref (M 0)), (1, .int (nI lo9)), (2, .int (nI hi9))]) X.1 X.2.1 dX7_takeOne_34 rfl hl (by decide) rfl (fun ls hl => ?_)
    refine lv_aload_n X.1 X.2.1 dX7_takeOne_35 rfl (lv_at hl 1 rfl) ?_
    refine lv_dup X.1 X.2.1 dX7_takeOne_36 rfl ?_
    refine r_get X hW.1 hM.1 (v := .int (sc 5)) (C := RX7) (T := TX7) (N := 19) rfl tin_X7 17 (by decide) tw_860 (fun _ h => h) rfl dX7_takeOne_37 ?_
    refine r_eqi (show ((sc 5) : Int32) = nI sp from hs5) ?_
    refine lv_aload_n X.1 X.2.1 dX7_takeOne_40 rfl (lv_at hl 1 rfl) ?_
    refine r_get X hW.1 hM.1 (v := .int 1) (C := RX7) (T := TX7) (N := 19) rfl tin_X7 18 (by decide) tw_861 (fun _ h => h) rfl dX7_takeOne_41 ?_
    refine lv_if_eq (tgt := 51) X.1 X.2.1 dX7_takeOne_44 (by decide) (fun c_44 => absurd c_44 (by decide)) (fun c_44 => ?_)
    refine lv_iconst (v := 0) X.1 X.2.1 dX7_takeOne_47 (by decide) ?_
    refine lv_goto (tgt := 52) X.1 X.2.1 dX7_takeOne_48 (by decide) ?_
    refine lv_iadd X.1 X.2.1 dX7_takeOne_52 ?_
    refine r_eqi (show (((nI sp) + 0) : Int32) = nI sp from nI_add sp 0) ?_
    refine r_put X hW hM.1 (v := .int (nI sp)) (C := RX7) (T := TX7) (N := 19) rfl tin_X7 tyX7_ok nmX7 17 (Nat.le_of_ble_eq_true rfl) tw_860 (fun _ h => h) rfl rfl rfl (Nat.le_of_ble_eq_true rfl) dX7_takeOne_53 (fun hp_3 H locs hW eh_4 => ?_)
    have hM := mr_sc5 hM eh_4
    refine lv_aload_n X.1 X.2.1 dX7_takeOne_56 rfl (lv_at hl 1 rfl) ?_
    refine r_get X hW.1 hM.1 (v := .int 1) (C := RX7) (T := TX7) (N := 19) rfl tin_X7 18 (by decide) tw_861 (fun _ h => h) rfl dX7_takeOne_57 ?_
    refine lv_if_eq (tgt := 67) X.1 X.2.1 dX7_takeOne_60 (by decide) (fun c_60 => absurd c_60 (by decide)) (fun c_60 => ?_)
    refine lv_iconst (v := 0) X.1 X.2.1 dX7_takeOne_63 (by decide) ?_
    refine lv_goto (tgt := 68) X.1 X.2.1 dX7_takeOne_64 (by decide) ?_
    have hw : tkW (txN pn pt) w lo9 hi9 sp = true := by unfold tkW; rw [bI_1 c_5]; rfl
    exact wr_i X hr hlk hW ⟨congrArg nI (tk_t hw).2.symm, by rw [hw, (tk_t hw).1]; exact hM⟩ (Nat.le_of_ble_eq_true rfl) (Nat.le_of_ble_eq_true rfl) dX7_takeOne_68
  · have c5 := bI_0 c_5
    refine lv_aload_n X.1 X.2.1 dX7_takeOne_8 rfl (lv_at hl 0 rfl) ?_
    refine on_Si (run_V (C := RX7) (As := []) (rest := [.ref (M 0)]) X (c_X7_next l G hp M sc ar sm hM pn pt hP sp (by first | rfl | exact hs5) (by omega)) (rp_blind _) (rp_at X hW.1 hW.2.2) (recv X hW.1 hM.1 (C := RX7) (T := TX7) (N := 19) rfl) mf_X7_next tw_1120 tw_1122 tw_50 ⟨rfl, rfl, Nat.le_of_ble_eq_true rfl, Nat.le_of_ble_eq_true rfl⟩ hl.1 rfl rfl (Nat.le_of_ble_eq_true rfl) ⟨Nat.le_of_ble_eq_true rfl, Nat.le_of_ble_eq_true rfl⟩ dX7_takeOne_9) (fun r_9 q_9 => ?_)
    obtain rfl : r_9 = nI (txN pn pt sp) := q_9
    have htx_9 := tx_le hP sp
    refine lv_iload_n X.1 X.2.1 dX7_takeOne_12 rfl (lv_at hl 1 rfl) ?_
    refine lv_iload_n X.1 X.2.1 dX7_takeOne_13 rfl (lv_at hl 2 rfl) ?_
    refine on_Si (run_S (As := [.int (nI (txN pn pt sp)), .int (nI lo9), .int (nI hi9)]) (rest := [.ref (M 0)]) X (c_X7_in l G hp (nI (txN pn pt sp)) (nI lo9) (nI hi9)) (rp_blind _) (rp_at X hW.1 hW.2.2) mf_X7_in tw_907 tw_908 ⟨rfl, rfl, Nat.le_of_ble_eq_true rfl, Nat.le_of_ble_eq_true rfl⟩ hl.1 rfl rfl (Nat.le_of_ble_eq_true rfl) ⟨Nat.le_of_ble_eq_true rfl, Nat.le_of_ble_eq_true rfl⟩ dX7_takeOne_14) (fun r_14 q_14 => ?_)
    obtain rfl : r_14 = (inI (nI (txN pn pt sp)) (nI lo9).toInt (nI hi9).toInt) := q_14
    refine r_eqi (inI_n (x := (txN pn pt sp)) (a := lo9) (b := hi9) (by omega) (by omega) (by omega)) ?_
    refine lv_if_ne (tgt := 24) X.1 X.2.1 dX7_takeOne_17 (by decide) (fun c_17 => ?_) (fun c_17 => ?_)
    · refine lv_iconst (v := 0) X.1 X.2.1 dX7_takeOne_24 (by decide) ?_
      refine r_put X hW hM.1 (v := .int 0) (C := RX7) (T := TX7) (N := 19) rfl tin_X7 tyX7_ok nmX7 18 (Nat.le_of_ble_eq_true rfl) tw_861 (fun _ h => h) rfl (by decide) rfl (Nat.le_of_ble_eq_true rfl) dX7_takeOne_25 (fun hp_5 H locs hW eh_6 => ?_)
      have hM := mr_sc6 hM eh_6
      refine lv_aload_n X.1 X.2.1 dX7_takeOne_28 rfl (lv_at hl 0 rfl) ?_
      refine on_Si (run_V (C := RX7) (As := []) (rest := []) X (c_X7_next l G hp_5 M (va_up sc 6 0) ar sm hM pn pt hP sp (by first | rfl | exact hs5) (by omega)) (rp_blind _) (rp_at X hW.1 hW.2.2) (recv X hW.1 hM.1 (C := RX7) (T := TX7) (N := 19) rfl) mf_X7_next tw_1120 tw_1122 tw_50 ⟨rfl, rfl, Nat.le_of_ble_eq_true rfl, Nat.le_of_ble_eq_true rfl⟩ hl.1 rfl rfl (Nat.le_of_ble_eq_true rfl) ⟨Nat.le_of_ble_eq_true rfl, Nat.le_of_ble_eq_true rfl⟩ dX7_takeOne_29) (fun r_29 q_29 => ?_)
      obtain rfl : r_29 = nI (txN pn pt sp) := q_29
      have htx_29 := tx_le hP sp
      refine lv_iload_n X.1 X.2.1 dX7_takeOne_32 rfl (lv_at hl 1 rfl) ?_
      refine lv_isub X.1 X.2.1 dX7_takeOne_33 ?_
      refine r_eqi (show (((nI (txN pn pt sp)) - (nI lo9)) : Int32) = nI (txN pn pt sp - lo9) from pk_sub (by have q9 := of_decide_eq_true (bI_1 c_17); omega)) ?_
      refine lv_istore_n (lv' := [(3, .int (nI (txN pn pt sp - lo9))), (0, .ref (M 0)), (1, .int (nI lo9)), (2, .int (nI hi9))]) X.1 X.2.1 dX7_takeOne_34 rfl hl (by decide) rfl (fun ls hl => ?_)
      refine lv_aload_n X.1 X.2.1 dX7_takeOne_35 rfl (lv_at hl 1 rfl) ?_
      refine lv_dup X.1 X.2.1 dX7_takeOne_36 rfl ?_
      refine r_get X hW.1 hM.1 (v := .int (sc 5)) (C := RX7) (T := TX7) (N := 19) rfl tin_X7 17 (by decide) tw_860 (fun _ h => h) rfl dX7_takeOne_37 ?_
      refine r_eqi (show ((sc 5) : Int32) = nI sp from hs5) ?_
      refine lv_aload_n X.1 X.2.1 dX7_takeOne_40 rfl (lv_at hl 1 rfl) ?_
      refine r_get X hW.1 hM.1 (v := .int 0) (C := RX7) (T := TX7) (N := 19) rfl tin_X7 18 (by decide) tw_861 (fun _ h => h) rfl dX7_takeOne_41 ?_
      refine lv_if_eq (tgt := 51) X.1 X.2.1 dX7_takeOne_44 (by decide) (fun c_44 => ?_) (fun c_44 => absurd (by decide) c_44)
      refine lv_iconst (v := 1) X.1 X.2.1 dX7_takeOne_51 (by decide) ?_
      refine lv_iadd X.1 X.2.1 dX7_takeOne_52 ?_
      refine r_eqi (show (((nI sp) + 1) : Int32) = nI (sp + 1) from nI_add sp 1) ?_
      refine r_put X hW hM.1 (v := .int (nI (sp + 1))) (C := RX7) (T := TX7) (N := 19) rfl tin_X7 tyX7_ok nmX7 17 (Nat.le_of_ble_eq_true rfl) tw_860 (fun _ h => h) rfl rfl rfl (Nat.le_of_ble_eq_true rfl) dX7_takeOne_53 (fun hp_7 H locs hW eh_8 => ?_)
      have hM := mr_sc5 hM eh_8
      refine lv_aload_n X.1 X.2.1 dX7_takeOne_56 rfl (lv_at hl 1 rfl) ?_
      refine r_get X hW.1 hM.1 (v := .int 0) (C := RX7) (T := TX7) (N := 19) rfl tin_X7 18 (by decide) tw_861 (fun _ h => h) rfl dX7_takeOne_57 ?_
      refine lv_if_eq (tgt := 67) X.1 X.2.1 dX7_takeOne_60 (by decide) (fun c_60 => ?_) (fun c_60 => absurd (by decide) c_60)
      refine lv_iload_n X.1 X.2.1 dX7_takeOne_67 rfl (lv_at hl 0 rfl) ?_
      have hw : ¬ tkW (txN pn pt) w lo9 hi9 sp = true := by unfold tkW; rw [c5, decide_eq_true (of_decide_eq_true (bI_1 c_17))]; decide
      exact wr_i X hr hlk hW ⟨congrArg nI (tk_f hw).2.symm, by rw [Bool.eq_false_iff.mpr hw, (tk_f hw).1]; exact hM⟩ (Nat.le_of_ble_eq_true rfl) (Nat.le_of_ble_eq_true rfl) dX7_takeOne_68
    · refine lv_iconst (v := 1) X.1 X.2.1 dX7_takeOne_20 (by decide) ?_
      refine lv_goto (tgt := 25) X.1 X.2.1 dX7_takeOne_21 (by decide) ?_
      refine r_put X hW hM.1 (v := .int 1) (C := RX7) (T := TX7) (N := 19) rfl tin_X7 tyX7_ok nmX7 18 (Nat.le_of_ble_eq_true rfl) tw_861 (fun _ h => h) rfl (by decide) rfl (Nat.le_of_ble_eq_true rfl) dX7_takeOne_25 (fun hp_9 H locs hW eh_10 => ?_)
      have hM := mr_sc6 hM eh_10
      refine lv_aload_n X.1 X.2.1 dX7_takeOne_28 rfl (lv_at hl 0 rfl) ?_
      refine on_Si (run_V (C := RX7) (As := []) (rest := []) X (c_X7_next l G hp_9 M (va_up sc 6 1) ar sm hM pn pt hP sp (by first | rfl | exact hs5) (by omega)) (rp_blind _) (rp_at X hW.1 hW.2.2) (recv X hW.1 hM.1 (C := RX7) (T := TX7) (N := 19) rfl) mf_X7_next tw_1120 tw_1122 tw_50 ⟨rfl, rfl, Nat.le_of_ble_eq_true rfl, Nat.le_of_ble_eq_true rfl⟩ hl.1 rfl rfl (Nat.le_of_ble_eq_true rfl) ⟨Nat.le_of_ble_eq_true rfl, Nat.le_of_ble_eq_true rfl⟩ dX7_takeOne_29) (fun r_29 q_29 => ?_)
      obtain rfl : r_29 = nI (txN pn pt sp) := q_29
      have htx_29 := tx_le hP sp
      refine lv_iload_n X.1 X.2.1 dX7_takeOne_32 rfl (lv_at hl 1 rfl) ?_
      refine lv_isub X.1 X.2.1 dX7_takeOne_33 ?_
      refine lv_istore_n (lv' := [(3, .int ((nI (txN pn pt sp)) - (nI lo9))), (0, .ref (M 0)), (1, .int (nI lo9)), (2, .int (nI hi9))]) X.1 X.2.1 dX7_takeOne_34 rfl hl (by decide) rfl (fun ls hl => ?_)
      refine lv_aload_n X.1 X.2.1 dX7_takeOne_35 rfl (lv_at hl 1 rfl) ?_
      refine lv_dup X.1 X.2.1 dX7_takeOne_36 rfl ?_
      refine r_get X hW.1 hM.1 (v := .int (sc 5)) (C := RX7) (T := TX7) (N := 19) rfl tin_X7 17 (by decide) tw_860 (fun _ h => h) rfl dX7_takeOne_37 ?_
      refine r_eqi (show ((sc 5) : Int32) = nI sp from hs5) ?_
      refine lv_aload_n X.1 X.2.1 dX7_takeOne_40 rfl (lv_at hl 1 rfl) ?_
      refine r_get X hW.1 hM.1 (v := .int 1) (C := RX7) (T := TX7) (N := 19) rfl tin_X7 18 (by decide) tw_861 (fun _ h => h) rfl dX7_takeOne_41 ?_
      refine lv_if_eq (tgt := 51) X.1 X.2.1 dX7_takeOne_44 (by decide) (fun c_44 => absurd c_44 (by decide)) (fun c_44 => ?_)
      refine lv_iconst (v := 0) X.1 X.2.1 dX7_takeOne_47 (by decide) ?_
      refine lv_goto (tgt := 52) X.1 X.2.1 dX7_takeOne_48 (by decide) ?_
      refine lv_iadd X.1 X.2.1 dX7_takeOne_52 ?_
      refine r_eqi (show (((nI sp) + 0) : Int32) = nI sp from nI_add sp 0) ?_
      refine r_put X hW hM.1 (v := .int (nI sp)) (C := RX7) (T := TX7) (N := 19) rfl tin_X7 tyX7_ok nmX7 17 (Nat.le_of_ble_eq_true rfl) tw_860 (fun _ h => h) rfl rfl rfl (Nat.le_of_ble_eq_true rfl) dX7_takeOne_53 (fun hp_11 H locs hW eh_12 => ?_)
      have hM := mr_sc5 hM eh_12
      refine lv_aload_n X.1 X.2.1 dX7_takeOne_56 rfl (lv_at hl 1 rfl) ?_
      refine r_get X hW.1 hM.1 (v := .int 1) (C := RX7) (T := TX7) (N := 19) rfl tin_X7 18 (by decide) tw_861 (fun _ h => h) rfl dX7_takeOne_57 ?_
      refine lv_if_eq (tgt := 67) X.1 X.2.1 dX7_takeOne_60 (by decide) (fun c_60 => absurd c_60 (by decide)) (fun c_60 => ?_)
      refine lv_iconst (v := 0) X.1 X.2.1 dX7_takeOne_63 (by decide) ?_
      refine lv_goto (tgt := 68) X.1 X.2.1 dX7_takeOne_64 (by decide) ?_
      have hw : tkW (txN pn pt) w lo9 hi9 sp = true := by unfold tkW; rw [c5, bI_0 c_17]; rfl
      exact wr_i X hr hlk hW ⟨congrArg nI (tk_t hw).2.symm, by rw [hw, (tk_t hw).1]; exact hM⟩ (Nat.le_of_ble_eq_true rfl) (Nat.le_of_ble_eq_true rfl) dX7_takeOne_68

