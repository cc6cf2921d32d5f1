/-! the reader of a rule's text -/
def rdE (pa rr : Nat) (sp lim : Nat) : va_E := .inr (6, [.ref pa, .ref rr, .int (nI sp), .int (nI lim)])
def XF (hp hp1 : HP) (rd : Nat) : Prop := ∀ q, q ≠ rd → hp1 q = hp q
theorem XF.rf {hp : HP} {rd : Nat} : XF hp hp rd := fun _ _ => rfl
theorem XF.up {hp h1 h2 : HP} {rd : Nat} {e : Option va_E} (h : XF hp h1 rd) (eh : h2 = va_up h1 rd e) : XF hp h2 rd := fun q hq => by rw [eh, va_up_ne _ _ hq]; exact h q hq
theorem XF.tr {hp h1 h2 : HP} {rd : Nat} (h : XF hp h1 rd) (h' : XF h1 h2 rd) : XF hp h2 rd := fun q hq => (h' q hq).trans (h q hq)
theorem SBp.xf {G : HG} {hp hp1 : HP} {pa vb cv : Nat} {ml : Bool} {fb : Nat → Int32} {pn : Nat} {pt : Nat → Nat} {rd ci : Nat} {vs : List Value} (h : SBp G hp pa vb cv ml fb pn pt) (hF : XF hp hp1 rd) (hr : hp rd = some (.inr (ci, vs))) (hci : ci ≠ 0) : SBp G hp1 pa vb cv ml fb pn pt := h.fr (fun e he => by rw [hF _ (ne_look h.1 hr (by simp; omega))]; exact he) (fun e he => by rw [hF _ (ne_look h.2.1 hr (by simp))]; exact he)
def sgI (t : Nat) : Int32 := if t = 0 then -1 else nI t
theorem sg_in {pn : Nat} {pt : Nat → Nat} {sp : Nat} (h : sp < pn) (hp : 33 ≤ pt sp) : sgI (txN pn pt sp) = nI (pt sp) := by
  unfold sgI txN
  rw [if_pos h, if_neg (by omega)]
theorem sg_out {pn : Nat} {pt : Nat → Nat} {sp : Nat} (h : ¬ sp < pn) : sgI (txN pn pt sp) = -1 := by
  unfold sgI txN
  rw [if_neg h, if_pos rfl]
theorem tx_pn {pn : Nat} {pt : Nat → Nat} {i : Nat} (h : ¬ txN pn pt i = 0) : i < pn := by
  apply Nat.lt_of_not_le
  intro z
  exact h (tx_0 z)
theorem tx_126 {pn : Nat} {pt : Nat → Nat} (h : ∀ i, i < pn → 33 ≤ pt i ∧ pt i ≤ 126) (i : Nat) : txN pn pt i ≤ 126 := by
  unfold txN
  split
  · exact (h i (by assumption)).2
  · omega
theorem sg_eq {t d : Nat} (ht : t ≤ 126) (hd : 1 ≤ d ∧ d ≤ 126) : sgI t = nI d ↔ (d ≤ t ∧ t ≤ d) := by
  unfold sgI
  by_cases c : t = 0
  · rw [if_pos c]
    constructor
    · intro h
      have := congrArg Int32.toInt h
      rw [nI_toInt (by omega)] at this
      have z : (-1 : Int32).toInt = -1 := rfl
      omega
    · intro h; omega
  · rw [if_neg c, nI_eq (by omega) (by omega)]
    omega
set_option maxHeartbeats 4000000 in
set_option maxRecDepth 100000 in
theorem c_X5_sign (l : Launch) (G : HG) (hp : HP) (pa vb cv : Nat) (ml : Bool) (fb : Nat → Int32) (pn : Nat) (pt : Nat → Nat) (hSB : SBp G hp pa vb cv ml fb pn pt) (rd rr sp lim : Nat) (hrd : hp rd = some (rdE pa rr sp lim)) (hsp : sp ≤ 100) : Met l yX5_sign [.code yX5_sign cX5_sign 1 (some .int)] { frames := 4, cells := 0, slots := 0, locals := 88 } (va_Pc [.ref rd] (RP G hp)) (vp_Si (fun r => r = sgI ((txN pn pt) sp))) 0 0 (fun _ => False) := by
  refine ro_ofW (by decide) (Nat.le_of_ble_eq_true rfl) ?_
  intro p e s m args below meth c ls X hr hlk hH hl
  have hS : va_S (fun _ => False) s.heap s.heap [] := va_S.rf
  have hl : lv_has ls 1 [(0, .ref rd)] := hl
  have hpn := hSB.2.2.1
  have hcv := hSB.2.2.2.1
  have hcv2 := hSB.2.2.2.2.2.1
  have hcv1 := hSB.2.2.2.2.1
  refine lv_aload_n X.1 X.2.1 dX5_sign_0 rfl (lv_at hl 0 rfl) ?_
  refine r_get X hH hrd (v := .int (nI sp)) (C := RX5) (T := TX5) (N := 4) rfl tin_X5 2 (by decide) tw_761 (fun _ h => h) rfl dX5_sign_1 ?_
  refine lv_if_lt (tgt := 21) X.1 X.2.1 dX5_sign_4 (by decide) (fun c_4 => absurd c_4 (Int32.not_lt.mpr (nI_pos' (by omega)))) (fun c_4 => ?_)
  refine lv_aload_n X.1 X.2.1 dX5_sign_7 rfl (lv_at hl 0 rfl) ?_
  refine r_get X hH hrd (v := .int (nI sp)) (C := RX5) (T := TX5) (N := 4) rfl tin_X5 2 (by decide) tw_761 (fun _ h => h) rfl dX5_sign_8 ?_
  refine lv_aload_n X.1 X.2.1 dX5_sign_11 rfl (lv_at hl 0 rfl) ?_
  refine r_get X hH hrd (v := .ref pa) (C := RX5) (T := TX5) (N := 4) rfl tin_X5 0 (by decide) tw_758 (fun _ h => h) rfl dX5_sign_12 ?_
  refine on_Si (run_V (C := RJ4) (As := []) (rest := [.int (nI sp)]) X (c_J4_length_8abf5 l G hp pa vb cv ml fb pn pt hSB) (rp_blind _) (rp_at X hH hS) (recv X hH hSB.1 (C := RJ4) (T := TJ4) (N := 4) rfl) mf_J4_length_8abf5 tw_789 tw_548 tw_549 ⟨rfl, rfl, Nat.le_of_ble_eq_true rfl, Nat.le_of_ble_eq_true rfl⟩ hl.1 rfl rfl (Nat.le_of_ble_eq_true rfl) ⟨Nat.le_of_ble_eq_true rfl, Nat.le_of_ble_eq_true rfl⟩ dX5_sign_15) (fun r_15 q_15 => ?_)
  obtain rfl : r_15 = (nI pn) := q_15
  refine lv_icmp_lt (tgt := 23) X.1 X.2.1 dX5_sign_18 (by decide) (fun c_18 => ?_) (fun c_18 => ?_)
  · have k_18 := k_lt (a := sp) (b := pn) (by omega) (by omega) c_18
    refine lv_aload_n X.1 X.2.1 dX5_sign_23 rfl (lv_at hl 0 rfl) ?_
    refine r_get X hH hrd (v := .ref pa) (C := RX5) (T := TX5) (N := 4) rfl tin_X5 0 (by decide) tw_758 (fun _ h => h) rfl dX5_sign_24 ?_
    refine lv_aload_n X.1 X.2.1 dX5_sign_27 rfl (lv_at hl 0 rfl) ?_
    refine r_get X hH hrd (v := .int (nI sp)) (C := RX5) (T := TX5) (N := 4) rfl tin_X5 2 (by decide) tw_761 (fun _ h => h) rfl dX5_sign_28 ?_
    refine on_Si (run_V (C := RJ4) (As := [.int (nI sp)]) (rest := []) X (c_J4_charAt_5068e l G hp pa vb cv ml fb pn pt hSB sp (by omega)) (rp_blind _) (rp_at X hH hS) (recv X hH hSB.1 (C := RJ4) (T := TJ4) (N := 4) rfl) mf_J4_charAt_5068e tw_790 tw_791 tw_792 ⟨rfl, rfl, Nat.le_of_ble_eq_true rfl, Nat.le_of_ble_eq_true rfl⟩ hl.1 rfl rfl (Nat.le_of_ble_eq_true rfl) ⟨Nat.le_of_ble_eq_true rfl, Nat.le_of_ble_eq_true rfl⟩ dX5_sign_31) (fun r_31 q_31 => ?_)
    obtain rfl : r_31 = (nI (pt sp)) := q_31
    exact ro_i X hr hlk (sg_in k_18 (hSB.2.2.2.2.2.2.2.2 sp k_18).1).symm dX5_sign_34
  · have k_18 := k_nlt (a := sp) (b := pn) (by omega) (by omega) c_18
    refine lv_iconst (v := (-1)) X.1 X.2.1 dX5_sign_21 (by decide) ?_
    exact ro_i X hr hlk (sg_out (by omega)).symm dX5_sign_22

set_option maxHeartbeats 4000000 in
set_option maxRecDepth 100000 in
theorem c_X5_reads (l : Launch) (G : HG) (A : Nat → Prop) (hp : HP) (sz : Nat) (hA : ∀ q, sz ≤ q → A q) (hO : Ow A hp) (pa vb cv : Nat) (ml : Bool) (fb : Nat → Int32) (pn : Nat) (pt : Nat → Nat) (hSB : SBp G hp pa vb cv ml fb pn pt) (rd rr sp lim : Nat) (hrd : hp rd = some (rdE pa rr sp lim)) (hsp : sp ≤ 100) (d9 : Nat) (hd9 : 1 ≤ d9 ∧ d9 ≤ 126) : Met l yX5_reads [.code yX5_reads cX5_reads 2 (some .boolean)] { frames := 5, cells := 0, slots := 0, locals := 108 } (va_Pc [.ref rd, .int (nI d9)] (WP G A sz hp)) (va_Qi (fun r hp1 => r = bI (!(tkW (txN pn pt) false d9 d9 sp)) ∧ hp1 rd = some (rdE pa rr (tkS (txN pn pt) false d9 d9 sp) lim) ∧ XF hp hp1 rd) (WB G A) A) 0 0 A := by
  refine wr_ofW (by decide) (Nat.le_of_ble_eq_true rfl) hO ?_
  intro p e s m args below meth c ls X hr hlk hnm hsz hW hl
  have hA : ∀ q, s.heap.size ≤ q → A q := fun q h => hA q (by omega)
  have hl : lv_has ls 2 [(0, .ref rd), (1, .int (nI d9))] := hl
  have hpn := hSB.2.2.1
  have hcv := hSB.2.2.2.1
  have hcv2 := hSB.2.2.2.2.2.1
  have hcv1 := hSB.2.2.2.2.1
  have ht := tx_126 hSB.2.2.2.2.2.2.2.2 sp
  refine lv_aload_n X.1 X.2.1 dX5_reads_0 rfl (lv_at hl 0 rfl) ?_
  refine on_Si (run_V (C := RX5) (As := []) (rest := []) X (c_X5_sign l G hp pa vb cv ml fb pn pt hSB rd rr sp lim hrd (by omega)) (rp_blind _) (rp_at X hW.1 hW.2.2) (recv X hW.1 hrd (C := RX5) (T := TX5) (N := 4) rfl) mf_X5_sign tw_785 tw_787 tw_19 ⟨rfl, rfl, Nat.le_of_ble_eq_true rfl, Nat.le_of_ble_eq_true rfl⟩ hl.1 rfl rfl (Nat.le_of_ble_eq_true rfl) ⟨Nat.le_of_ble_eq_true rfl, Nat.le_of_ble_eq_true rfl⟩ dX5_reads_1) (fun r_1 q_1 => ?_)
  obtain rfl : r_1 = (sgI ((txN pn pt) sp)) := q_1
  refine lv_iload_n X.1 X.2.1 dX5_reads_4 rfl (lv_at hl 1 rfl) ?_
  refine lv_icmp_eq (tgt := 10) X.1 X.2.1 dX5_reads_5 (by decide) (fun c_5 => ?_) (fun c_5 => ?_)
  · have hyes : tkW (txN pn pt) false d9 d9 sp = false := by unfold tkW; rw [decide_eq_true ((sg_eq ht hd9).mp c_5)]; rfl
    refine lv_aload_n X.1 X.2.1 dX5_reads_10 rfl (lv_at hl 0 rfl) ?_
    refine lv_dup X.1 X.2.1 dX5_reads_11 rfl ?_
    refine r_get X hW.1 hrd (v := .int (nI sp)) (C := RX5) (T := TX5) (N := 4) rfl tin_X5 2 (by decide) tw_761 (fun _ h => h) rfl dX5_reads_12 ?_
    refine lv_iconst (v := 1) X.1 X.2.1 dX5_reads_15 (by decide) ?_
    refine lv_iadd X.1 X.2.1 dX5_reads_16 ?_
    refine r_eqi (show (((nI sp) + 1) : Int32) = nI (sp + 1) from nI_add sp 1) ?_
    refine r_put X hW hrd (v := .int (nI (sp + 1))) (C := RX5) (T := TX5) (N := 4) rfl tin_X5 tyX5_ok nmX5 2 (Nat.le_of_ble_eq_true rfl) tw_761 (fun _ h => h) rfl rfl rfl (Nat.le_of_ble_eq_true rfl) dX5_reads_17 (fun hp_1 H locs hW eh_2 => ?_)
    have f_3 : hp_1 rd = some (.inr (6, [.ref pa, .ref rr, .int (nI (sp + 1)), .int (nI lim)])) := by rw [eh_2]; exact va_up_self _ _ _
    refine lv_iconst (v := 1) X.1 X.2.1 dX5_reads_20 (by decide) ?_
    exact wr_z X hr hlk rfl hW ⟨(by show (1 : Int32) = bI _; rw [hyes]; rfl), (by rw [(tk_f (fun z => Bool.false_ne_true (hyes.symm.trans z))).1]; exact f_3), XF.up XF.rf eh_2⟩ (Nat.le_of_ble_eq_true rfl) (Nat.le_of_ble_eq_true rfl) dX5_reads_21
  · have hno : tkW (txN pn pt) false d9 d9 sp = true := by unfold tkW; rw [decide_eq_false (fun z => c_5 ((sg_eq ht hd9).mpr z))]; rfl
    refine lv_iconst (v := 0) X.1 X.2.1 dX5_reads_8 (by decide) ?_
    exact wr_z X hr hlk rfl hW ⟨(by show (0 : Int32) = bI _; rw [hno]; rfl), (by rw [(tk_t hno).1]; exact hrd), XF.rf⟩ (Nat.le_of_ble_eq_true rfl) (Nat.le_of_ble_eq_true rfl) dX5_reads_9

theorem dg_lo {t lo : Nat} (ht : t ≤ 126) (hl : lo ≤ 9) : sgI t - 48 < nI lo ↔ t < 48 + lo := by
  have k : ∀ t, t < 127 → ∀ lo, lo < 10 → (sgI t - 48 < nI lo ↔ t < 48 + lo) := by decide +kernel
  exact k t (by omega) lo (by omega)
theorem dg_hi {t h : Nat} (ht : t ≤ 126) (hl : h ≤ 9) (h48 : 48 ≤ t) : sgI t - 48 ≤ nI h ↔ t ≤ 48 + h := by
  have k : ∀ t, t < 127 → ∀ h, h < 10 → 48 ≤ t → (sgI t - 48 ≤ nI h ↔ t ≤ 48 + h) := by decide +kernel
  exact k t (by omega) h (by omega) h48
theorem dg_v {t : Nat} (ht : t ≤ 126) (h48 : 48 ≤ t) : sgI t - 48 = nI (t - 48) := by
  have k : ∀ t, t < 127 → 48 ≤ t → sgI t - 48 = nI (t - 48) := by decide +kernel
  exact k t (by omega) h48
set_option maxHeartbeats 4000000 in
set_option maxRecDepth 100000 in
theorem c_X5_readDigit (l : Launch) (G : HG) (A : Nat → Prop) (hp : HP) (sz : Nat) (hA : ∀ q, sz ≤ q → A q) (hO : Ow A hp) (pa vb cv : Nat) (ml : Bool) (fb : Nat → Int32) (pn : Nat) (pt : Nat → Nat) (hSB : SBp G hp pa vb cv ml fb pn pt) (rd rr sp lim : Nat) (hrd : hp rd = some (rdE pa rr sp lim)) (hsp : sp ≤ 100) (lo9 h9 : Nat) (hlo : lo9 ≤ 9) (hh9 : h9 ≤ 9) : Met l yX5_readDigit [.code yX5_readDigit cX5_readDigit 4 (some .int)] { frames := 5, cells := 0, slots := 0, locals := 108 } (va_Pc [.ref rd, .int (nI lo9), .int (nI h9)] (WP G A sz hp)) (va_Qi (fun r hp1 => r = (if tkW (txN pn pt) false (48 + lo9) (48 + h9) sp = true then -1 else nI ((txN pn pt) sp - 48)) ∧ hp1 rd = some (rdE pa rr (tkS (txN pn pt) false (48 + lo9) (48 + h9) sp) lim) ∧ XF hp hp1 rd) (WB G A) A) 0 0 A := by
  refine wr_ofW (by decide) (Nat.le_of_ble_eq_true rfl) hO ?_
  intro p e s m args below meth c ls X hr hlk hnm hsz hW hl
  have hA : ∀ q, s.heap.size ≤ q → A q := fun q h => hA q (by omega)
  have hl : lv_has ls 4 [(0, .ref rd), (1, .int (nI lo9)), (2, .int (nI h9))] := hl
  have hpn := hSB.2.2.1
  have hcv := hSB.2.2.2.1
  have hcv2 := hSB.2.2.2.2.2.1
  have hcv1 := hSB.2.2.2.2.1
  have ht := tx_126 hSB.2.2.2.2.2.2.2.2 sp
  refine lv_aload_n X.1 X.2.1 dX5_readDigit_0 rfl (lv_at hl 0 rfl) ?_
  refine on_Si (run_V (C := RX5) (As := []) (rest := []) X (c_X5_sign l G hp pa vb cv ml fb pn pt hSB rd rr sp lim hrd (by omega)) (rp_blind _) (rp_at X hW.1 hW.2.2) (recv X hW.1 hrd (C := RX5) (T := TX5) (N := 4) rfl) mf_X5_sign tw_785 tw_787 tw_19 ⟨rfl, rfl, Nat.le_of_ble_eq_true rfl, Nat.le_of_ble_eq_true rfl⟩ hl.1 rfl rfl (Nat.le_of_ble_eq_true rfl) ⟨Nat.le_of_ble_eq_true rfl, Nat.le_of_ble_eq_true rfl⟩ dX5_readDigit_1) (fun r_1 q_1 => ?_)
  obtain rfl : r_1 = (sgI ((txN pn pt) sp)) := q_1
  refine lv_bipush (v := 48) X.1 X.2.1 dX5_readDigit_4 (by decide) ?_
  refine lv_isub X.1 X.2.1 dX5_readDigit_6 ?_
  refine lv_istore_n (lv' := [(3, .int ((sgI ((txN pn pt) sp)) - 48)), (0, .ref rd), (1, .int (nI lo9)), (2, .int (nI h9))]) X.1 X.2.1 dX5_readDigit_7 rfl hl (by decide) rfl (fun ls hl => ?_)
  refine lv_iload_n X.1 X.2.1 dX5_readDigit_8 rfl (lv_at hl 0 rfl) ?_
  refine lv_iload_n X.1 X.2.1 dX5_readDigit_9 rfl (lv_at hl 2 rfl) ?_
  refine lv_icmp_lt (tgt := 18) X.1 X.2.1 dX5_readDigit_10 (by decide) (fun c_10 => ?_) (fun c_10 => ?_)
  · have d10 := (dg_lo ht hlo).mp c_10
    have hno : tkW (txN pn pt) false (48 + lo9) (48 + h9) sp = true := by unfold tkW; rw [decide_eq_false (fun z => absurd z.1 (by omega))]; rfl
    refine lv_iconst (v := (-1)) X.1 X.2.1 dX5_readDigit_18 (by decide) ?_
    exact wr_i X hr hlk hW ⟨(if_pos hno).symm, (by rw [(tk_t hno).1]; exact hrd), XF.rf⟩ (Nat.le_of_ble_eq_true rfl) (Nat.le_of_ble_eq_true rfl) dX5_readDigit_19
  · have d10 : ¬ (txN pn pt) sp < 48 + lo9 := fun z => c_10 ((dg_lo ht hlo).mpr z)
    refine lv_iload_n X.1 X.2.1 dX5_readDigit_13 rfl (lv_at hl 0 rfl) ?_
    refine lv_iload_n X.1 X.2.1 dX5_readDigit_14 rfl (lv_at hl 3 rfl) ?_
    refine lv_icmp_le (tgt := 20) X.1 X.2.1 dX5_readDigit_15 (by decide) (fun c_15 => ?_) (fun c_15 => ?_)
    · have d15 := (dg_hi ht hh9 (by omega)).mp c_15
      have hyes : tkW (txN pn pt) false (48 + lo9) (48 + h9) sp = false := by unfold tkW; rw [decide_eq_true (show 48 + lo9 ≤ (txN pn pt) sp ∧ (txN pn pt) sp ≤ 48 + h9 from ⟨by omega, d15⟩)]; rfl
      refine lv_aload_n X.1 X.2.1 dX5_readDigit_20 rfl (lv_at hl 1 rfl) ?_
      refine lv_dup X.1 X.2.1 dX5_readDigit_21 rfl ?_
      refine r_get X hW.1 hrd (v := .int (nI sp)) (C := RX5) (T := TX5) (N := 4) rfl tin_X5 2 (by decide) tw_761 (fun _ h => h) rfl dX5_readDigit_22 ?_
      refine lv_iconst (v := 1) X.1 X.2.1 dX5_readDigit_25 (by decide) ?_
      refine lv_iadd X.1 X.2.1 dX5_readDigit_26 ?_
      refine r_eqi (show (((nI sp) + 1) : Int32) = nI (sp + 1) from nI_add sp 1) ?_
      refine r_put X hW hrd (v := .int (nI (sp + 1))) (C := RX5) (T := TX5) (N := 4) rfl tin_X5 tyX5_ok nmX5 2 (Nat.le_of_ble_eq_true rfl) tw_761 (fun _ h => h) rfl rfl rfl (Nat.le_of_ble_eq_true rfl) dX5_readDigit_27 (fun hp_1 H locs hW eh_2 => ?_)
      have f_3 : hp_1 rd = some (.inr (6, [.ref pa, .ref rr, .int (nI (sp + 1)), .int (nI lim)])) := by rw [eh_2]; exact va_up_self _ _ _
      refine lv_iload_n X.1 X.2.1 dX5_readDigit_30 rfl (lv_at hl 0 rfl) ?_
      exact wr_i X hr hlk hW ⟨((if_neg (fun z => Bool.false_ne_true (hyes.symm.trans z))).trans (dg_v ht (by omega)).symm).symm, (by rw [(tk_f (fun z => Bool.false_ne_true (hyes.symm.trans z))).1]; exact f_3), XF.up XF.rf eh_2⟩ (Nat.le_of_ble_eq_true rfl) (Nat.le_of_ble_eq_true rfl) dX5_readDigit_31
    · have d15 : ¬ (txN pn pt) sp ≤ 48 + h9 := fun z => c_15 ((dg_hi ht hh9 (by omega)).mpr z)
      have hno : tkW (txN pn pt) false (48 + lo9) (48 + h9) sp = true := by unfold tkW; rw [decide_eq_false (fun z => absurd z.2 d15)]; rfl
      refine lv_iconst (v := (-1)) X.1 X.2.1 dX5_readDigit_18 (by decide) ?_
      exact wr_i X hr hlk hW ⟨(if_pos hno).symm, (by rw [(tk_t hno).1]; exact hrd), XF.rf⟩ (Nat.le_of_ble_eq_true rfl) (Nat.le_of_ble_eq_true rfl) dX5_readDigit_19

theorem dg_neg {t : Nat} {b : Int32} (ht : t ≤ 126) (h : ¬ sgI t - 48 < 0) (hb : b < 0) : ¬ sgI t - 48 ≤ b := fun z => h (Int32.lt_iff_toInt_lt.mpr (by
  have h1 := Int32.le_iff_toInt_le.mp z
  have h2 := Int32.lt_iff_toInt_lt.mp hb
  omega))
set_option maxHeartbeats 4000000 in
set_option maxRecDepth 100000 in
theorem c_X5_readDigit_n (l : Launch) (G : HG) (A : Nat → Prop) (hp : HP) (sz : Nat) (hA : ∀ q, sz ≤ q → A q) (hO : Ow A hp) (pa vb cv : Nat) (ml : Bool) (fb : Nat → Int32) (pn : Nat) (pt : Nat → Nat) (hSB : SBp G hp pa vb cv ml fb pn pt) (rd rr sp lim : Nat) (hrd : hp rd = some (rdE pa rr sp lim)) (hsp : sp ≤ 100) (b9 : Int32) (hb9 : b9 < 0) : Met l yX5_readDigit [.code yX5_readDigit cX5_readDigit 4 (some .int)] { frames := 5, cells := 0, slots := 0, locals := 108 } (va_Pc [.ref rd, .int 0, .int b9] (WP G A sz hp)) (va_Qi (fun r hp1 => r = -1 ∧ hp1 rd = some (rdE pa rr sp lim) ∧ XF hp hp1 rd) (WB G A) A) 0 0 A := by
  refine wr_ofW (by decide) (Nat.le_of_ble_eq_true rfl) hO ?_
  intro p e s m args below meth c ls X hr hlk hnm hsz hW hl
  have hA : ∀ q, s.heap.size ≤ q → A q := fun q h => hA q (by omega)
  have hl : lv_has ls 4 [(0, .ref rd), (1, .int 0), (2, .int b9)] := hl
  have hpn := hSB.2.2.1
  have hcv := hSB.2.2.2.1
  have hcv2 := hSB.2.2.2.2.2.1
  have hcv1 := hSB.2.2.2.2.1
  have ht := tx_126 hSB.2.2.2.2.2.2.2.2 sp
  refine lv_aload_n X.1 X.2.1 dX5_readDigit_0 rfl (lv_at hl 0 rfl) ?_
  refine on_Si (run_V (C := RX5) (As := []) (rest := []) X (c_X5_sign l G hp pa vb cv ml fb pn pt hSB rd rr sp lim hrd (by omega)) (rp_blind _) (rp_at X hW.1 hW.2.2) (recv X hW.1 hrd (C := RX5) (T := TX5) (N := 4) rfl) mf_X5_sign tw_785 tw_787 tw_19 ⟨rfl, rfl, Nat.le_of_ble_eq_true rfl, Nat.le_of_ble_eq_true rfl⟩ hl.1 rfl rfl (Nat.le_of_ble_eq_true rfl) ⟨Nat.le_of_ble_eq_true rfl, Nat.le_of_ble_eq_true rfl⟩ dX5_readDigit_1) (fun r_1 q_1 => ?_)
  obtain rfl : r_1 = (sgI ((txN pn pt) sp)) := q_1
  refine lv_bipush (v := 48) X.1 X.2.1 dX5_readDigit_4 (by decide) ?_
  refine lv_isub X.1 X.2.1 dX5_readDigit_6 ?_
  refine lv_istore_n (lv' := [(3, .int ((sgI ((txN pn pt) sp)) - 48)), (0, .ref rd), (1, .int 0), (2, .int b9)]) X.1 X.2.1 dX5_readDigit_7 rfl hl (by decide) rfl (fun ls hl => ?_)
  refine lv_iload_n X.1 X.2.1 dX5_readDigit_8 rfl (lv_at hl 0 rfl) ?_
  refine lv_iload_n X.1 X.2.1 dX5_readDigit_9 rfl (lv_at hl 2 rfl) ?_
  refine lv_icmp_lt (tgt := 18) X.1 X.2.1 dX5_readDigit_10 (by decide) (fun c_10 => ?_) (fun c_10 => ?_)
  · refine lv_iconst (v := (-1)) X.1 X.2.1 dX5_readDigit_18 (by decide) ?_
    exact wr_i X hr hlk hW ⟨rfl, hrd, XF.rf⟩ (Nat.le_of_ble_eq_true rfl) (Nat.le_of_ble_eq_true rfl) dX5_readDigit_19
  · refine lv_iload_n X.1 X.2.1 dX5_readDigit_13 rfl (lv_at hl 0 rfl) ?_
    refine lv_iload_n X.1 X.2.1 dX5_readDigit_14 rfl (lv_at hl 3 rfl) ?_
    refine lv_icmp_le (tgt := 20) X.1 X.2.1 dX5_readDigit_15 (by decide) (fun c_15 => absurd c_15 (dg_neg ht c_10 hb9)) (fun c_15 => ?_)
    refine lv_iconst (v := (-1)) X.1 X.2.1 dX5_readDigit_18 (by decide) ?_
    exact wr_i X hr hlk hW ⟨rfl, hrd, XF.rf⟩ (Nat.le_of_ble_eq_true rfl) (Nat.le_of_ble_eq_true rfl) dX5_readDigit_19

