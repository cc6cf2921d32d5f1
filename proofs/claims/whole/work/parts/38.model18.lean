/-! a condition -/
theorem tkS_ge (tx : Nat → Nat) (w : Bool) (lo hi sp : Nat) : sp ≤ tkS tx w lo hi sp := by unfold tkS; split <;> omega
theorem nmS_ge (tx : Nat → Nat) (w : Bool) (m h sp : Nat) : sp ≤ nmS tx w m h sp := by
  have := tkS_ge tx w 48 h sp
  unfold nmS
  split <;> omega
def whN (tx : Nat → Nat) (sp : Nat) : Nat := stN 43 (tx sp)
def mmN (u : Nat) : Nat := if u = 4 then 20 else 5
def mhN (u : Nat) : Nat := if u = 4 then 57 else 53
/-- refused at once -/
def cdX (tx : Nat → Nat) (h sp : Nat) : Bool := decide (whN tx sp = 9) || decide (h / 2 ^ whN tx sp % 2 = 1)
def cA (tx : Nat → Nat) (u sp : Nat) : Bool := tkW tx false 48 (mhN u) (sp + 1)
def c1 (tx : Nat → Nat) (u sp : Nat) : Nat := nmS tx false (mmN u) (mhN u) (sp + 1)
def cB (tx : Nat → Nat) (u sp : Nat) : Bool := tkW tx (cA tx u sp) 45 45 (c1 tx u sp)
def c2 (tx : Nat → Nat) (u sp : Nat) : Nat := tkS tx (cA tx u sp) 45 45 (c1 tx u sp)
def cC (tx : Nat → Nat) (u sp : Nat) : Bool := tkW tx (cB tx u sp) 48 (mhN u) (c2 tx u sp)
def c3 (tx : Nat → Nat) (u sp : Nat) : Nat := nmS tx (cB tx u sp) (mmN u) (mhN u) (c2 tx u sp)
def cL (tx : Nat → Nat) (u sp : Nat) : Nat := nmV tx false (mmN u) (mhN u) (sp + 1)
def cH (tx : Nat → Nat) (u sp : Nat) : Nat := nmV tx (cB tx u sp) (mmN u) (mhN u) (c2 tx u sp)
def cdY (tx : Nat → Nat) (u sp : Nat) : Bool := !(cC tx u sp) && decide (cH tx u sp < cL tx u sp)
def cdW (tx : Nat → Nat) (h sp : Nat) : Bool := cdX tx h sp || (cC tx (whN tx sp) sp || cdY tx (whN tx sp) sp)
def cdS (tx : Nat → Nat) (h sp : Nat) : Nat := if cdX tx h sp = true then sp else if cdY tx (whN tx sp) sp = true then c3 tx (whN tx sp) sp - 1 else c3 tx (whN tx sp) sp
def cdB (tx : Nat → Nat) (h sp : Nat) : Nat := if cdX tx h sp = true then h else h ||| 2 ^ whN tx sp
theorem cd_x {tx : Nat → Nat} {h sp : Nat} (q : cdX tx h sp = true) : cdW tx h sp = true ∧ cdS tx h sp = sp ∧ cdB tx h sp = h := ⟨by unfold cdW; rw [q]; rfl, if_pos q, if_pos q⟩
theorem cd_n {tx : Nat → Nat} {h sp u : Nat} (q : cdX tx h sp = false) (hu : whN tx sp = u) : cdW tx h sp = (cC tx u sp || cdY tx u sp) ∧ cdS tx h sp = (if cdY tx u sp = true then c3 tx u sp - 1 else c3 tx u sp) ∧ cdB tx h sp = h ||| 2 ^ u := by
  subst hu
  exact ⟨by unfold cdW; rw [q]; rfl, if_neg (fun e => Bool.false_ne_true (q.symm.trans e)), if_neg (fun e => Bool.false_ne_true (q.symm.trans e))⟩
theorem cd_xf {tx : Nat → Nat} {h sp u : Nat} (hu : whN tx sp = u) (h9 : ¬ u = 9) (hb : ¬ h / 2 ^ u % 2 = 1) : cdX tx h sp = false := by
  unfold cdX
  rw [hu, decide_eq_false h9, decide_eq_false hb]; rfl
theorem f2_ok {f : Nat → Int32} {u : Nat} (hu : u ≤ 4) (a b : Int32) : ∀ j, upd (upd f (nI (4 + 2 * u)).toNatClampNeg a) (nI (4 + 2 * u + 1)).toNatClampNeg b j = if j = 5 + 2 * u then b else if j = 4 + 2 * u then a else f j := by
  intro j
  rw [nI_clamp (by omega), nI_clamp (by omega)]
  unfold upd
  by_cases c : j = 5 + 2 * u
  · rw [if_pos (by omega), if_pos c]
  · rw [if_neg (by omega), if_neg c]
theorem bI_e {a b : Bool} (h : a = b) : bI a = bI b := by rw [h]
theorem mr_5 {G : HG} {hp : HP} {M : Nat → Nat} {sc : Nat → Int32} {ar : Nat → Nat → Int32} {sm : Nat → Int64} {a v : Int32} (h5 : sc 5 = v) (h : MR G hp M (va_up sc 6 a) ar sm) : MR G hp M (va_up (va_up sc 6 a) 5 v) ar sm := by
  have e : va_up (va_up sc 6 a) 5 v = va_up sc 6 a := va_id6 (show va_up sc 6 a 5 = v from h5)
  rw [e]
  exact h
set_option maxHeartbeats 4000000 in
set_option maxRecDepth 100000 in
theorem c_X7_takeCondition (l : Launch) (G : HG) (A : Nat → Prop) (hp : HP) (sz : Nat) (hA : ∀ q, sz ≤ q → A q) (hO : Ow A hp) (M : Nat → Nat) (sc : Nat → Int32) (ar : Nat → Nat → Int32) (sm : Nat → Int64) (hM : MR G hp M sc ar sm) (pn : Nat) (pt : Nat → Nat) (hP : MP pn pt sc ar) (sp : Nat) (hs5 : sc 5 = nI sp) (hsp : sp < 2 ^ 18) (hs6 : sc 6 = bI false) (h9 : Nat) (hh9 : h9 < 32) : Met l yX7_takeCondition [.code yX7_takeCondition cX7_takeCondition 7 (some .int)] { frames := 3, cells := 0, slots := 0, locals := 67 } (va_Pc [.ref (M 0), .int (nI h9)] (WP G A sz hp)) (va_Qi (fun r hp1 => ∃ f1, r = nI (cdB (txN pn pt) h9 sp) ∧ MR G hp1 M (va_up (va_up sc 6 (bI (cdW (txN pn pt) h9 sp))) 5 (nI (cdS (txN pn pt) h9 sp))) (va_up ar 10 f1) sm ∧ (cdW (txN pn pt) h9 sp = false → ∀ j, f1 j = if j = 5 + 2 * whN (txN pn pt) sp then nI (cH (txN pn pt) (whN (txN pn pt) sp) sp) else if j = 4 + 2 * whN (txN pn pt) sp then nI (cL (txN pn pt) (whN (txN pn pt) sp) sp) else ar 10 j)) (WB G A) A) 0 0 A := by
  refine wr_ofW (by decide) (Nat.le_of_ble_eq_true rfl) hO ?_
  intro p e s m args below meth c ls X hr hlk hnm hsz hW hl
  have hA : ∀ q, s.heap.size ≤ q → A q := fun q h => hA q (by omega)
  have hl : lv_has ls 7 [(0, .ref (M 0)), (1, .int (nI h9))] := hl
  have hpn := hP.2.1
  refine lv_aload_n X.1 X.2.1 dX7_takeCondition_0 rfl (lv_at hl 0 rfl) ?_
  refine on_Si (run_V (C := RX7) (As := []) (rest := []) X (c_X7_next l G hp M sc ar sm hM pn pt hP sp (by first | rfl | exact hs5) (by omega)) (rp_blind _) (rp_at X hW.1 hW.2.2) (recv X hW.1 hM.1 (C := RX7) (T := TX7) (N := 19) rfl) mf_X7_next tw_1120 tw_1122 tw_50 ⟨rfl, rfl, Nat.le_of_ble_eq_true rfl, Nat.le_of_ble_eq_true rfl⟩ hl.1 rfl rfl (Nat.le_of_ble_eq_true rfl) ⟨Nat.le_of_ble_eq_true rfl, Nat.le_of_ble_eq_true rfl⟩ dX7_takeCondition_1) (fun r_1 q_1 => ?_)
  obtain rfl : r_1 = nI (txN pn pt sp) := q_1
  have htx_1 := tx_le hP sp
  refine lv_bipush (v := 43) X.1 X.2.1 dX7_takeCondition_4 (by decide) ?_
  refine lv_icmp_ne (tgt := 13) X.1 X.2.1 dX7_takeCondition_6 (by decide) (fun c_6 => ?_) (fun c_6 => ?_)
  · have k_6 := k_ne (a := (txN pn pt sp)) (b := 43) (by omega) (by omega) c_6
    refine lv_aload_n X.1 X.2.1 dX7_takeCondition_13 rfl (lv_at hl 0 rfl) ?_
    refine on_Si (run_V (C := RX7) (As := []) (rest := []) X (c_X7_next l G hp M sc ar sm hM pn pt hP sp (by first | rfl | exact hs5) (by omega)) (rp_blind _) (rp_at X hW.1 hW.2.2) (recv X hW.1 hM.1 (C := RX7) (T := TX7) (N := 19) rfl) mf_X7_next tw_1120 tw_1122 tw_50 ⟨rfl, rfl, Nat.le_of_ble_eq_true rfl, Nat.le_of_ble_eq_true rfl⟩ hl.1 rfl rfl (Nat.le_of_ble_eq_true rfl) ⟨Nat.le_of_ble_eq_true rfl, Nat.le_of_ble_eq_true rfl⟩ dX7_takeCondition_14) (fun r_14 q_14 => ?_)
    obtain rfl : r_14 = nI (txN pn pt sp) := q_14
    have htx_14 := tx_le hP sp
    refine on_Si (run_S (As := [.int (nI (txN pn pt sp))]) (rest := []) X (c_X7_suitBy l G hp (nI (txN pn pt sp))) (rp_blind _) (rp_at X hW.1 hW.2.2) mf_X7_suitBy tw_1128 tw_1129 ⟨rfl, rfl, Nat.le_of_ble_eq_true rfl, Nat.le_of_ble_eq_true rfl⟩ hl.1 rfl rfl (Nat.le_of_ble_eq_true rfl) ⟨Nat.le_of_ble_eq_true rfl, Nat.le_of_ble_eq_true rfl⟩ dX7_takeCondition_17) (fun r_17 q_17 => ?_)
    obtain rfl : r_17 = (sbI (nI (txN pn pt sp))) := q_17
    refine lv_istore_n (lv' := [(2, .int (sbI (nI (txN pn pt sp)))), (0, .ref (M 0)), (1, .int (nI h9))]) X.1 X.2.1 dX7_takeCondition_20 rfl hl (by decide) rfl (fun ls hl => ?_)
    refine lv_aload_n X.1 X.2.1 dX7_takeCondition_21 rfl (lv_at hl 1 rfl) ?_
    refine lv_aload_n X.1 X.2.1 dX7_takeCondition_22 rfl (lv_at hl 1 rfl) ?_
    refine r_get X hW.1 hM.1 (v := .int (sc 6)) (C := RX7) (T := TX7) (N := 19) rfl tin_X7 18 (by decide) tw_861 (fun _ h => h) rfl dX7_takeCondition_23 ?_
    refine r_eqi (show ((sc 6) : Int32) = 0 from hs6) ?_
    refine lv_if_ne (tgt := 42) X.1 X.2.1 dX7_takeCondition_26 (by decide) (fun c_26 => absurd (by decide) c_26) (fun c_26 => ?_)
    refine lv_iload_n X.1 X.2.1 dX7_takeCondition_29 rfl (lv_at hl 0 rfl) ?_
    refine lv_if_lt (tgt := 42) X.1 X.2.1 dX7_takeCondition_30 (by decide) (fun c_30 => ?_) (fun c_30 => ?_)
    · refine lv_iconst (v := 1) X.1 X.2.1 dX7_takeCondition_42 (by decide) ?_
      refine lv_goto (tgt := 47) X.1 X.2.1 dX7_takeCondition_43 (by decide) ?_
      refine r_put X hW hM.1 (v := .int 1) (C := RX7) (T := TX7) (N := 19) rfl tin_X7 tyX7_ok nmX7 18 (Nat.le_of_ble_eq_true rfl) tw_861 (fun _ h => h) rfl (by decide) rfl (Nat.le_of_ble_eq_true rfl) dX7_takeCondition_47 (fun hp_1 H locs hW eh_2 => ?_)
      have hM := mr_sc6 hM eh_2
      refine lv_aload_n X.1 X.2.1 dX7_takeCondition_50 rfl (lv_at hl 1 rfl) ?_
      refine r_get X hW.1 hM.1 (v := .int 1) (C := RX7) (T := TX7) (N := 19) rfl tin_X7 18 (by decide) tw_861 (fun _ h => h) rfl dX7_takeCondition_51 ?_
      refine lv_if_eq (tgt := 59) X.1 X.2.1 dX7_takeCondition_54 (by decide) (fun c_54 => absurd c_54 (by decide)) (fun c_54 => ?_)
      refine lv_iload_n X.1 X.2.1 dX7_takeCondition_57 rfl (lv_at hl 2 rfl) ?_
      have hu : whN (txN pn pt) sp = (suN (txN pn pt sp)) := if_neg k_6
      have hx : cdX (txN pn pt) h9 sp = true := by unfold cdX; rw [hu, sb_neg htx_1 (Int32.not_le.mpr c_30)]; rfl
      exact wr_i X hr hlk hW ⟨ar 10, congrArg nI (cd_x hx).2.2.symm, (by rw [(cd_x hx).1, (cd_x hx).2.1]; exact mr_id 10 (mr_5 hs5 hM)), fun q => absurd ((cd_x hx).1.symm.trans q) (by decide)⟩ (Nat.le_of_ble_eq_true rfl) (Nat.le_of_ble_eq_true rfl) dX7_takeCondition_58
    · obtain ⟨hs3, hsv⟩ := sb_pos htx_1 (Int32.not_lt.mp c_30)
      rw [hsv] at hl
      refine lv_iload_n X.1 X.2.1 dX7_takeCondition_33 rfl (lv_at hl 2 rfl) ?_
      refine lv_iload_n X.1 X.2.1 dX7_takeCondition_34 rfl (lv_at hl 0 rfl) ?_
      refine lv_ishr X.1 X.2.1 dX7_takeCondition_35 ?_
      refine r_eqi (show (((nI h9) >>> ((nI (suN (txN pn pt sp))) &&& 31)) : Int32) = nI (h9 / 2 ^ (suN (txN pn pt sp))) from shrV h9 _ (by omega) (by omega)) ?_
      refine lv_iconst (v := 1) X.1 X.2.1 dX7_takeCondition_36 (by decide) ?_
      refine lv_iand X.1 X.2.1 dX7_takeCondition_37 ?_
      refine r_eqi (show (((nI (h9 / 2 ^ (suN (txN pn pt sp)))) &&& 1) : Int32) = nI ((h9 / 2 ^ (suN (txN pn pt sp))) % 2) from n_and1 (h9 / 2 ^ (suN (txN pn pt sp)))) ?_
      refine lv_iconst (v := 1) X.1 X.2.1 dX7_takeCondition_38 (by decide) ?_
      refine lv_icmp_ne (tgt := 46) X.1 X.2.1 dX7_takeCondition_39 (by decide) (fun c_39 => ?_) (fun c_39 => ?_)
      · have k_39 := k_ne (a := ((h9 / 2 ^ (suN (txN pn pt sp))) % 2)) (b := 1) (by omega) (by omega) c_39
        refine lv_iconst (v := 0) X.1 X.2.1 dX7_takeCondition_46 (by decide) ?_
        refine r_put X hW hM.1 (v := .int 0) (C := RX7) (T := TX7) (N := 19) rfl tin_X7 tyX7_ok nmX7 18 (Nat.le_of_ble_eq_true rfl) tw_861 (fun _ h => h) rfl (by decide) rfl (Nat.le_of_ble_eq_true rfl) dX7_takeCondition_47 (fun hp_3 H locs hW eh_4 => ?_)
        have hM := mr_sc6 hM eh_4
        refine lv_aload_n X.1 X.2.1 dX7_takeCondition_50 rfl (lv_at hl 1 rfl) ?_
        refine r_get X hW.1 hM.1 (v := .int 0) (C := RX7) (T := TX7) (N := 19) rfl tin_X7 18 (by decide) tw_861 (fun _ h => h) rfl dX7_takeCondition_51 ?_
        refine lv_if_eq (tgt := 59) X.1 X.2.1 dX7_takeCondition_54 (by decide) (fun c_54 => ?_) (fun c_54 => absurd (by decide) c_54)
        refine lv_aload_n X.1 X.2.1 dX7_takeCondition_59 rfl (lv_at hl 1 rfl) ?_
        refine lv_dup X.1 X.2.1 dX7_takeCondition_60 rfl ?_
        refine r_get X hW.1 hM.1 (v := .int (sc 5)) (C := RX7) (T := TX7) (N := 19) rfl tin_X7 17 (by decide) tw_860 (fun _ h => h) rfl dX7_takeCondition_61 ?_
        refine r_eqi (show ((sc 5) : Int32) = nI sp from hs5) ?_
        refine lv_iconst (v := 1) X.1 X.2.1 dX7_takeCondition_64 (by decide) ?_
        refine lv_iadd X.1 X.2.1 dX7_takeCondition_65 ?_
        refine r_eqi (show (((nI sp) + 1) : Int32) = nI (sp + 1) from nI_add sp 1) ?_
        refine r_put X hW hM.1 (v := .int (nI (sp + 1))) (C := RX7) (T := TX7) (N := 19) rfl tin_X7 tyX7_ok nmX7 17 (Nat.le_of_ble_eq_true rfl) tw_860 (fun _ h => h) rfl rfl rfl (Nat.le_of_ble_eq_true rfl) dX7_takeCondition_66 (fun hp_5 H locs hW eh_6 => ?_)
        have hM := mr_sc5 hM eh_6
        refine lv_iload_n X.1 X.2.1 dX7_takeCondition_69 rfl (lv_at hl 0 rfl) ?_
        refine lv_iconst (v := 4) X.1 X.2.1 dX7_takeCondition_70 (by decide) ?_
        refine lv_icmp_ne (tgt := 79) X.1 X.2.1 dX7_takeCondition_71 (by decide) (fun c_71 => ?_) (fun c_71 => absurd c_71 (fun q9 => absurd ((nI_eq (b := 4) (by omega) (by decide)).mp q9) (by omega)))
        refine lv_iconst (v := 5) X.1 X.2.1 dX7_takeCondition_79 (by decide) ?_
        refine lv_istore_n (lv' := [(3, .int 5), (2, .int (nI (suN (txN pn pt sp)))), (0, .ref (M 0)), (1, .int (nI h9))]) X.1 X.2.1 dX7_takeCondition_80 rfl hl (by decide) rfl (fun ls hl => ?_)
        refine lv_aload_n X.1 X.2.1 dX7_takeCondition_81 rfl (lv_at hl 2 rfl) ?_
        refine lv_iload_n X.1 X.2.1 dX7_takeCondition_82 rfl (lv_at hl 0 rfl) ?_
        refine on_Wi (k' := 0) (n' := 0) (run_V (C := RX7) (As := [.int 5]) (rest := []) X (c_X7_takeNumber_5 l G A hp_5 _ (fun q h => hA q (Nat.le_trans hW.2.2.1 h)) hW.2.1 M (va_up (va_up sc 6 0) 5 (nI (sp + 1))) ar sm hM pn pt hP (sp + 1) (by first | rfl | exact hs5) (by omega) false (by first | rfl | exact hs6)) (wp_blind _) (wp_at X hW.1 hW.2.2) (recv X hW.1 hM.1 (C := RX7) (T := TX7) (N := 19) rfl) mf_X7_takeNumber tw_1135 tw_1137 tw_53 ⟨rfl, rfl, Nat.le_of_ble_eq_true rfl, Nat.le_of_ble_eq_true rfl⟩ hl.1 rfl rfl (Nat.le_of_ble_eq_true rfl) ⟨Nat.le_of_ble_eq_true rfl, Nat.le_of_ble_eq_true rfl⟩ dX7_takeCondition_83) hW (by omega) (by omega) (fun r_83 hp_7 H locs q_83 hW => ?_)
        obtain ⟨rfl, hM⟩ := q_83
        have := nmS_ge (txN pn pt) false 5 53 (sp + 1)
        have := nmS_le (txN pn pt) false 5 53 (sp + 1)
        have := @nmV_le (txN pn pt) false 5 53 (sp + 1) (by decide)
        refine lv_istore (lv' := [(4, .int (nI (nmV (txN pn pt) false 5 53 (sp + 1)))), (3, .int 5), (2, .int (nI (suN (txN pn pt sp)))), (0, .ref (M 0)), (1, .int (nI h9))]) X.1 X.2.1 dX7_takeCondition_86 hl (by decide) rfl (fun ls hl => ?_)
        refine lv_aload_n X.1 X.2.1 dX7_takeCondition_88 rfl (lv_at hl 3 rfl) ?_
        refine lv_bipush (v := 45) X.1 X.2.1 dX7_takeCondition_89 (by decide) ?_
        refine lv_bipush (v := 45) X.1 X.2.1 dX7_takeCondition_91 (by decide) ?_
        refine on_Wi (k' := 0) (n' := 0) (run_V (C := RX7) (As := [.int 45, .int 45]) (rest := []) X (c_X7_takeOne l G A hp_7 _ (fun q h => hA q (Nat.le_trans hW.2.2.1 h)) hW.2.1 M (va_up (va_up (va_up (va_up sc 6 0) 5 (nI (sp + 1))) 6 (bI (tkW (txN pn pt) false 48 53 (sp + 1)))) 5 (nI (nmS (txN pn pt) false 5 53 (sp + 1)))) ar sm hM pn pt hP (nmS (txN pn pt) false 5 53 (sp + 1)) (by first | rfl | exact hs5) (by omega) (tkW (txN pn pt) false 48 53 (sp + 1)) (by first | rfl | exact hs6) 45 45 (by omega) (by omega)) (wp_blind _) (wp_at X hW.1 hW.2.2) (recv X hW.1 hM.1 (C := RX7) (T := TX7) (N := 19) rfl) mf_X7_takeOne tw_1116 tw_1118 tw_49 ⟨rfl, rfl, Nat.le_of_ble_eq_true rfl, Nat.le_of_ble_eq_true rfl⟩ hl.1 rfl rfl (Nat.le_of_ble_eq_true rfl) ⟨Nat.le_of_ble_eq_true rfl, Nat.le_of_ble_eq_true rfl⟩ dX7_takeCondition_93) hW (by omega) (by omega) (fun r_93 hp_8 H locs q_93 hW => ?_)
        obtain ⟨rfl, hM⟩ := q_93
        have := tkS_le (txN pn pt) (tkW (txN pn pt) false 48 53 (sp + 1)) 45 45 (nmS (txN pn pt) false 5 53 (sp + 1))
        have := tkS_ge (txN pn pt) (tkW (txN pn pt) false 48 53 (sp + 1)) 45 45 (nmS (txN pn pt) false 5 53 (sp + 1))
        refine lv_istore (lv' := [(5, .int (nI (tkV (txN pn pt) (tkW (txN pn pt) false 48 53 (sp + 1)) 45 45 (nmS (txN pn pt) false 5 53 (sp + 1))))), (4, .int (nI (nmV (txN pn pt) false 5 53 (sp + 1)))), (3, .int 5), (2, .int (nI (suN (txN pn pt sp)))), (0, .ref (M 0)), (1, .int (nI h9))]) X.1 X.2.1 dX7_takeCondition_96 hl (by decide) rfl (fun ls hl => ?_)
        refine lv_aload_n X.1 X.2.1 dX7_takeCondition_98 rfl (lv_at hl 4 rfl) ?_
        refine lv_iload_n X.1 X.2.1 dX7_takeCondition_99 rfl (lv_at hl 2 rfl) ?_
        refine on_Wi (k' := 0) (n' := 0) (run_V (C := RX7) (As := [.int 5]) (rest := []) X (c_X7_takeNumber_5 l G A hp_8 _ (fun q h => hA q (Nat.le_trans hW.2.2.1 h)) hW.2.1 M (va_up (va_up (va_up (va_up (va_up (va_up sc 6 0) 5 (nI (sp + 1))) 6 (bI (tkW (txN pn pt) false 48 53 (sp + 1)))) 5 (nI (nmS (txN pn pt) false 5 53 (sp + 1)))) 6 (bI (tkW (txN pn pt) (tkW (txN pn pt) false 48 53 (sp + 1)) 45 45 (nmS (txN pn pt) false 5 53 (sp + 1))))) 5 (nI (tkS (txN pn pt) (tkW (txN pn pt) false 48 53 (sp + 1)) 45 45 (nmS (txN pn pt) false 5 53 (sp + 1))))) ar sm hM pn pt hP (tkS (txN pn pt) (tkW (txN pn pt) false 48 53 (sp + 1)) 45 45 (nmS (txN pn pt) false 5 53 (sp + 1))) (by first | rfl | exact hs5) (by omega) (tkW (txN pn pt) (tkW (txN pn pt) false 48 53 (sp + 1)) 45 45 (nmS (txN pn pt) false 5 53 (sp + 1))) (by first | rfl | exact hs6)) (wp_blind _) (wp_at X hW.1 hW.2.2) (recv X hW.1 hM.1 (C := RX7) (T := TX7) (N := 19) rfl) mf_X7_takeNumber tw_1135 tw_1137 tw_53 ⟨rfl, rfl, Nat.le_of_ble_eq_true rfl, Nat.le_of_ble_eq_true rfl⟩ hl.1 rfl rfl (Nat.le_of_ble_eq_true rfl) ⟨Nat.le_of_ble_eq_true rfl, Nat.le_of_ble_eq_true rfl⟩ dX7_takeCondition_100) hW (by omega) (by omega) (fun r_100 hp_9 H locs q_100 hW => ?_)
        obtain ⟨rfl, hM⟩ := q_100
        have := nmS_ge (txN pn pt) (tkW (txN pn pt) (tkW (txN pn pt) false 48 53 (sp + 1)) 45 45 (nmS (txN pn pt) false 5 53 (sp + 1))) 5 53 (tkS (txN pn pt) (tkW (txN pn pt) false 48 53 (sp + 1)) 45 45 (nmS (txN pn pt) false 5 53 (sp + 1)))
        have := nmS_le (txN pn pt) (tkW (txN pn pt) (tkW (txN pn pt) false 48 53 (sp + 1)) 45 45 (nmS (txN pn pt) false 5 53 (sp + 1))) 5 53 (tkS (txN pn pt) (tkW (txN pn pt) false 48 53 (sp + 1)) 45 45 (nmS (txN pn pt) false 5 53 (sp + 1)))
        have := @nmV_le (txN pn pt) (tkW (txN pn pt) (tkW (txN pn pt) false 48 53 (sp + 1)) 45 45 (nmS (txN pn pt) false 5 53 (sp + 1))) 5 53 (tkS (txN pn pt) (tkW (txN pn pt) false 48 53 (sp + 1)) 45 45 (nmS (txN pn pt) false 5 53 (sp + 1))) (by decide)
        refine lv_istore (lv' := [(6, .int (nI (nmV (txN pn pt) (tkW (txN pn pt) (tkW (txN pn pt) false 48 53 (sp + 1)) 45 45 (nmS (txN pn pt) false 5 53 (sp + 1))) 5 53 (tkS (txN pn pt) (tkW (txN pn pt) false 48 53 (sp + 1)) 45 45 (nmS (txN pn pt) false 5 53 (sp + 1)))))), (5, .int (nI (tkV (txN pn pt) (tkW (txN pn pt) false 48 53 (sp + 1)) 45 45 (nmS (txN pn pt) false 5 53 (sp + 1))))), (4, .int (nI (nmV (txN pn pt) false 5 53 (sp + 1)))), (3, .int 5), (2, .int (nI (suN (txN pn pt sp)))), (0, .ref (M 0)), (1, .int (nI h9))]) X.1 X.2.1 dX7_takeCondition_103 hl (by decide) rfl (fun ls hl => ?_)
        refine lv_aload_n X.1 X.2.1 dX7_takeCondition_105 rfl (lv_at hl 5 rfl) ?_
        refine r_get X hW.1 hM.1 (v := .int (bI (tkW (txN pn pt) (tkW (txN pn pt) (tkW (txN pn pt) false 48 53 (sp + 1)) 45 45 (nmS (txN pn pt) false 5 53 (sp + 1))) 48 53 (tkS (txN pn pt) (tkW (txN pn pt) false 48 53 (sp + 1)) 45 45 (nmS (txN pn pt) false 5 53 (sp + 1)))))) (C := RX7) (T := TX7) (N := 19) rfl tin_X7 18 (by decide) tw_861 (fun _ h => h) rfl dX7_takeCondition_106 ?_
        refine lv_if_ne (tgt := 134) X.1 X.2.1 dX7_takeCondition_109 (by decide) (fun c_109 => ?_) (fun c_109 => ?_)
        · refine lv_aload_n X.1 X.2.1 dX7_takeCondition_134 rfl (lv_at hl 5 rfl) ?_
          refine r_get X hW.1 hM.1 (v := .ref (M 11)) (C := RX7) (T := TX7) (N := 19) rfl tin_X7 14 (by decide) tw_857 (fun _ h => h) rfl dX7_takeCondition_135 ?_
          refine lv_iconst (v := 4) X.1 X.2.1 dX7_takeCondition_138 (by decide) ?_
          refine lv_iconst (v := 2) X.1 X.2.1 dX7_takeCondition_139 (by decide) ?_
          refine lv_iload_n X.1 X.2.1 dX7_takeCondition_140 rfl (lv_at hl 4 rfl) ?_
          refine lv_imul X.1 X.2.1 dX7_takeCondition_141 ?_
          refine r_eqi (show ((2 * (nI (suN (txN pn pt sp)))) : Int32) = nI (2 * (suN (txN pn pt sp))) from pk_mul 2 (suN (txN pn pt sp))) ?_
          refine lv_iadd X.1 X.2.1 dX7_takeCondition_142 ?_
          refine r_eqi (show ((4 + (nI (2 * (suN (txN pn pt sp))))) : Int32) = nI (4 + 2 * (suN (txN pn pt sp))) from nI_add 4 (2 * (suN (txN pn pt sp)))) ?_
          refine lv_iload X.1 X.2.1 dX7_takeCondition_143 (lv_at hl 2 rfl) ?_
          refine r_iast X hW (hM.2.1 10 (by decide)) (show vp_in ((nI (4 + 2 * (suN (txN pn pt sp))))) 14 from vp_in_nI (n := (4 + 2 * (suN (txN pn pt sp)))) (by omega) (by decide)) dX7_takeCondition_145 (fun hp_10 H locs hW eh_11 => ?_)
          have hM := mr_ar hM 10 (by decide) eh_11
          refine lv_aload_n X.1 X.2.1 dX7_takeCondition_146 rfl (lv_at hl 5 rfl) ?_
          refine r_get X hW.1 hM.1 (v := .ref (M 11)) (C := RX7) (T := TX7) (N := 19) rfl tin_X7 14 (by decide) tw_857 (fun _ h => h) rfl dX7_takeCondition_147 ?_
          refine lv_iconst (v := 4) X.1 X.2.1 dX7_takeCondition_150 (by decide) ?_
          refine lv_iconst (v := 2) X.1 X.2.1 dX7_takeCondition_151 (by decide) ?_
          refine lv_iload_n X.1 X.2.1 dX7_takeCondition_152 rfl (lv_at hl 4 rfl) ?_
          refine lv_imul X.1 X.2.1 dX7_takeCondition_153 ?_
          refine r_eqi (show ((2 * (nI (suN (txN pn pt sp)))) : Int32) = nI (2 * (suN (txN pn pt sp))) from pk_mul 2 (suN (txN pn pt sp))) ?_
          refine lv_iadd X.1 X.2.1 dX7_takeCondition_154 ?_
          refine r_eqi (show ((4 + (nI (2 * (suN (txN pn pt sp))))) : Int32) = nI (4 + 2 * (suN (txN pn pt sp))) from nI_add 4 (2 * (suN (txN pn pt sp)))) ?_
          refine lv_iconst (v := 1) X.1 X.2.1 dX7_takeCondition_155 (by decide) ?_
          refine lv_iadd X.1 X.2.1 dX7_takeCondition_156 ?_
          refine r_eqi (show (((nI (4 + 2 * (suN (txN pn pt sp)))) + 1) : Int32) = nI (4 + 2 * (suN (txN pn pt sp)) + 1) from nI_add (4 + 2 * (suN (txN pn pt sp))) 1) ?_
          refine lv_iload X.1 X.2.1 dX7_takeCondition_157 (lv_at hl 0 rfl) ?_
          refine lv_iload X.1 X.2.1 dX7_takeCondition_159 (lv_at hl 1 rfl) ?_
          refine lv_iadd X.1 X.2.1 dX7_takeCondition_161 ?_
          refine r_eqi (show (((nI (nmV (txN pn pt) (tkW (txN pn pt) (tkW (txN pn pt) false 48 53 (sp + 1)) 45 45 (nmS (txN pn pt) false 5 53 (sp + 1))) 5 53 (tkS (txN pn pt) (tkW (txN pn pt) false 48 53 (sp + 1)) 45 45 (nmS (txN pn pt) false 5 53 (sp + 1))))) + (nI (tkV (txN pn pt) (tkW (txN pn pt) false 48 53 (sp + 1)) 45 45 (nmS (txN pn pt) false 5 53 (sp + 1))))) : Int32) = nI ((nmV (txN pn pt) (tkW (txN pn pt) (tkW (txN pn pt) false 48 53 (sp + 1)) 45 45 (nmS (txN pn pt) false 5 53 (sp + 1))) 5 53 (tkS (txN pn pt) (tkW (txN pn pt) false 48 53 (sp + 1)) 45 45 (nmS (txN pn pt) false 5 53 (sp + 1)))) + (tkV (txN pn pt) (tkW (txN pn pt) false 48 53 (sp + 1)) 45 45 (nmS (txN pn pt) false 5 53 (sp + 1)))) from nI_add (nmV (txN pn pt) (tkW (txN pn pt) (tkW (txN pn pt) false 48 53 (sp + 1)) 45 45 (nmS (txN pn pt) false 5 53 (sp + 1))) 5 53 (tkS (txN pn pt) (tkW (txN pn pt) false 48 53 (sp + 1)) 45 45 (nmS (txN pn pt) false 5 53 (sp + 1)))) (tkV (txN pn pt) (tkW (txN pn pt) false 48 53 (sp + 1)) 45 45 (nmS (txN pn pt) false 5 53 (sp + 1)))) ?_
          refine r_iast X hW (hM.2.1 10 (by decide)) (show vp_in ((nI (4 + 2 * (suN (txN pn pt sp)) + 1))) 14 from vp_in_nI (n := (4 + 2 * (suN (txN pn pt sp)) + 1)) (by omega) (by decide)) dX7_takeCondition_162 (fun hp_12 H locs hW eh_13 => ?_)
          have hM := mr_ar hM 10 (by decide) eh_13
          refine lv_iload_n X.1 X.2.1 dX7_takeCondition_163 rfl (lv_at hl 6 rfl) ?_
          refine lv_iconst (v := 1) X.1 X.2.1 dX7_takeCondition_164 (by decide) ?_
          refine lv_iload_n X.1 X.2.1 dX7_takeCondition_165 rfl (lv_at hl 4 rfl) ?_
          refine lv_ishl X.1 X.2.1 dX7_takeCondition_166 ?_
          refine r_eqi (show ((1 <<< ((nI (suN (txN pn pt sp))) &&& 31)) : Int32) = nI (2 ^ (suN (txN pn pt sp))) from shlV (suN (txN pn pt sp)) (by omega)) ?_
          refine lv_ior X.1 X.2.1 dX7_takeCondition_167 ?_
          refine r_eqi (show (((nI h9) ||| (nI (2 ^ (suN (txN pn pt sp))))) : Int32) = nI (h9 ||| (2 ^ (suN (txN pn pt sp)))) from n_or h9 (2 ^ (suN (txN pn pt sp)))) ?_
          have hu : whN (txN pn pt) sp = (suN (txN pn pt sp)) := if_neg k_6
          have hx : cdX (txN pn pt) h9 sp = false := cd_xf hu (by omega) k_39
          have hmm : mmN (suN (txN pn pt sp)) = 5 ∧ mhN (suN (txN pn pt sp)) = 53 := ⟨if_neg (by omega), if_neg (by omega)⟩
          have eA : cA (txN pn pt) (suN (txN pn pt sp)) sp = tkW (txN pn pt) false 48 53 (sp + 1) := by unfold cA; rw [hmm.2]
          have e1 : c1 (txN pn pt) (suN (txN pn pt sp)) sp = nmS (txN pn pt) false 5 53 (sp + 1) := by unfold c1; rw [hmm.1, hmm.2]
          have eL : cL (txN pn pt) (suN (txN pn pt sp)) sp = nmV (txN pn pt) false 5 53 (sp + 1) := by unfold cL; rw [hmm.1, hmm.2]
          have eB : cB (txN pn pt) (suN (txN pn pt sp)) sp = tkW (txN pn pt) (tkW (txN pn pt) false 48 53 (sp + 1)) 45 45 (nmS (txN pn pt) false 5 53 (sp + 1)) := by unfold cB; rw [eA, e1]
          have e2 : c2 (txN pn pt) (suN (txN pn pt sp)) sp = tkS (txN pn pt) (tkW (txN pn pt) false 48 53 (sp + 1)) 45 45 (nmS (txN pn pt) false 5 53 (sp + 1)) := by unfold c2; rw [eA, e1]
          have eC : cC (txN pn pt) (suN (txN pn pt sp)) sp = tkW (txN pn pt) (tkW (txN pn pt) (tkW (txN pn pt) false 48 53 (sp + 1)) 45 45 (nmS (txN pn pt) false 5 53 (sp + 1))) 48 53 (tkS (txN pn pt) (tkW (txN pn pt) false 48 53 (sp + 1)) 45 45 (nmS (txN pn pt) false 5 53 (sp + 1))) := by unfold cC; rw [eB, e2, hmm.2]
          have e3 : c3 (txN pn pt) (suN (txN pn pt sp)) sp = nmS (txN pn pt) (tkW (txN pn pt) (tkW (txN pn pt) false 48 53 (sp + 1)) 45 45 (nmS (txN pn pt) false 5 53 (sp + 1))) 5 53 (tkS (txN pn pt) (tkW (txN pn pt) false 48 53 (sp + 1)) 45 45 (nmS (txN pn pt) false 5 53 (sp + 1))) := by unfold c3; rw [eB, e2, hmm.1, hmm.2]
          have eH : cH (txN pn pt) (suN (txN pn pt sp)) sp = nmV (txN pn pt) (tkW (txN pn pt) (tkW (txN pn pt) false 48 53 (sp + 1)) 45 45 (nmS (txN pn pt) false 5 53 (sp + 1))) 5 53 (tkS (txN pn pt) (tkW (txN pn pt) false 48 53 (sp + 1)) 45 45 (nmS (txN pn pt) false 5 53 (sp + 1))) := by unfold cH; rw [eB, e2, hmm.1, hmm.2]
          have hd0 := @tkV_le (txN pn pt) (tkW (txN pn pt) false 48 53 (sp + 1)) 45 45 (nmS (txN pn pt) false 5 53 (sp + 1))
          have hy : cdY (txN pn pt) (suN (txN pn pt sp)) sp = false := by unfold cdY; rw [eC, bI_1 c_109]; rfl
          have hw : cdW (txN pn pt) h9 sp = true := by rw [(cd_n hx hu).1, eC, bI_1 c_109]; rfl
          have hs : cdS (txN pn pt) h9 sp = nmS (txN pn pt) (tkW (txN pn pt) (tkW (txN pn pt) false 48 53 (sp + 1)) 45 45 (nmS (txN pn pt) false 5 53 (sp + 1))) 5 53 (tkS (txN pn pt) (tkW (txN pn pt) false 48 53 (sp + 1)) 45 45 (nmS (txN pn pt) false 5 53 (sp + 1))) := by rw [(cd_n hx hu).2.1, if_neg (fun q => Bool.false_ne_true (hy.symm.trans q)), e3]
          exact wr_i X hr hlk hW ⟨_, congrArg nI (cd_n hx hu).2.2.symm, (by rw [hw, hs]; have hM9 := (mr_uu (mr_65 (mr_65 (mr_65 hM)))); rw [bI_e (bI_1 c_109)] at hM9; exact hM9), fun q => absurd (hw.symm.trans q) (by decide)⟩ (Nat.le_of_ble_eq_true rfl) (Nat.le_of_ble_eq_true rfl) dX7_takeCondition_168
        · refine lv_iload X.1 X.2.1 dX7_takeCondition_112 (lv_at hl 0 rfl) ?_
          refine lv_iload X.1 X.2.1 dX7_takeCondition_114 (lv_at hl 2 rfl) ?_
          refine lv_icmp_ge (tgt := 134) X.1 X.2.1 dX7_takeCondition_116 (by decide) (fun c_116 => ?_) (fun c_116 => ?_)
          · have k_116 := k_le (a := (nmV (txN pn pt) false 5 53 (sp + 1))) (b := (nmV (txN pn pt) (tkW (txN pn pt) (tkW (txN pn pt) false 48 53 (sp + 1)) 45 45 (nmS (txN pn pt) false 5 53 (sp + 1))) 5 53 (tkS (txN pn pt) (tkW (txN pn pt) false 48 53 (sp + 1)) 45 45 (nmS (txN pn pt) false 5 53 (sp + 1))))) (by omega) (by omega) c_116
            refine lv_aload_n X.1 X.2.1 dX7_takeCondition_134 rfl (lv_at hl 5 rfl) ?_
            refine r_get X hW.1 hM.1 (v := .ref (M 11)) (C := RX7) (T := TX7) (N := 19) rfl tin_X7 14 (by decide) tw_857 (fun _ h => h) rfl dX7_takeCondition_135 ?_
            refine lv_iconst (v := 4) X.1 X.2.1 dX7_takeCondition_138 (by decide) ?_
            refine lv_iconst (v := 2) X.1 X.2.1 dX7_takeCondition_139 (by decide) ?_
            refine lv_iload_n X.1 X.2.1 dX7_takeCondition_140 rfl (lv_at hl 4 rfl) ?_
            refine lv_imul X.1 X.2.1 dX7_takeCondition_141 ?_
            refine r_eqi (show ((2 * (nI (suN (txN pn pt sp)))) : Int32) = nI (2 * (suN (txN pn pt sp))) from pk_mul 2 (suN (txN pn pt sp))) ?_
            refine lv_iadd X.1 X.2.1 dX7_takeCondition_142 ?_
            refine r_eqi (show ((4 + (nI (2 * (suN (txN pn pt sp))))) : Int32) = nI (4 + 2 * (suN (txN pn pt sp))) from nI_add 4 (2 * (suN (txN pn pt sp)))) ?_
            refine lv_iload X.1 X.2.1 dX7_takeCondition_143 (lv_at hl 2 rfl) ?_
            refine r_iast X hW (hM.2.1 10 (by decide)) (show vp_in ((nI (4 + 2 * (suN (txN pn pt sp))))) 14 from vp_in_nI (n := (4 + 2 * (suN (txN pn pt sp)))) (by omega) (by decide)) dX7_takeCondition_145 (fun hp_14 H locs hW eh_15 => ?_)
            have hM := mr_ar hM 10 (by decide) eh_15
            refine lv_aload_n X.1 X.2.1 dX7_takeCondition_146 rfl (lv_at hl 5 rfl) ?_
            refine r_get X hW.1 hM.1 (v := .ref (M 11)) (C := RX7) (T := TX7) (N := 19) rfl tin_X7 14 (by decide) tw_857 (fun _ h => h) rfl dX7_takeCondition_147 ?_
            refine lv_iconst (v := 4) X.1 X.2.1 dX7_takeCondition_150 (by decide) ?_
            refine lv_iconst (v := 2) X.1 X.2.1 dX7_takeCondition_151 (by decide) ?_
            refine lv_iload_n X.1 X.2.1 dX7_takeCondition_152 rfl (lv_at hl 4 rfl) ?_
            refine lv_imul X.1 X.2.1 dX7_takeCondition_153 ?_
            refine r_eqi (show ((2 * (nI (suN (txN pn pt sp)))) : Int32) = nI (2 * (suN (txN pn pt sp))) from pk_mul 2 (suN (txN pn pt sp))) ?_
            refine lv_iadd X.1 X.2.1 dX7_takeCondition_154 ?_
            refine r_eqi (show ((4 + (nI (2 * (suN (txN pn pt sp))))) : Int32) = nI (4 + 2 * (suN (txN pn pt sp))) from nI_add 4 (2 * (suN (txN pn pt sp)))) ?_
            refine lv_iconst (v := 1) X.1 X.2.1 dX7_takeCondition_155 (by decide) ?_
            refine lv_iadd X.1 X.2.1 dX7_takeCondition_156 ?_
            refine r_eqi (show (((nI (4 + 2 * (suN (txN pn pt sp)))) + 1) : Int32) = nI (4 + 2 * (suN (txN pn pt sp)) + 1) from nI_add (4 + 2 * (suN (txN pn pt sp))) 1) ?_
            refine lv_iload X.1 X.2.1 dX7_takeCondition_157 (lv_at hl 0 rfl) ?_
            refine lv_iload X.1 X.2.1 dX7_takeCondition_159 (lv_at hl 1 rfl) ?_
            refine lv_iadd X.1 X.2.1 dX7_takeCondition_161 ?_
            refine r_eqi (show (((nI (nmV (txN pn pt) (tkW (txN pn pt) (tkW (txN pn pt) false 48 53 (sp + 1)) 45 45 (nmS (txN pn pt) false 5 53 (sp + 1))) 5 53 (tkS (txN pn pt) (tkW (txN pn pt) false 48 53 (sp + 1)) 45 45 (nmS (txN pn pt) false 5 53 (sp + 1))))) + (nI (tkV (txN pn pt) (tkW (txN pn pt) false 48 53 (sp + 1)) 45 45 (nmS (txN pn pt) false 5 53 (sp + 1))))) : Int32) = nI ((nmV (txN pn pt) (tkW (txN pn pt) (tkW (txN pn pt) false 48 53 (sp + 1)) 45 45 (nmS (txN pn pt) false 5 53 (sp + 1))) 5 53 (tkS (txN pn pt) (tkW (txN pn pt) false 48 53 (sp + 1)) 45 45 (nmS (txN pn pt) false 5 53 (sp + 1)))) + (tkV (txN pn pt) (tkW (txN pn pt) false 48 53 (sp + 1)) 45 45 (nmS (txN pn pt) false 5 53 (sp + 1)))) from nI_add (nmV (txN pn pt) (tkW (txN pn pt) (tkW (txN pn pt) false 48 53 (sp + 1)) 45 45 (nmS (txN pn pt) false 5 53 (sp + 1))) 5 53 (tkS (txN pn pt) (tkW (txN pn pt) false 48 53 (sp + 1)) 45 45 (nmS (txN pn pt) false 5 53 (sp + 1)))) (tkV (txN pn pt) (tkW (txN pn pt) false 48 53 (sp + 1)) 45 45 (nmS (txN pn pt) false 5 53 (sp + 1)))) ?_
            refine r_iast X hW (hM.2.1 10 (by decide)) (show vp_in ((nI (4 + 2 * (suN (txN pn pt sp)) + 1))) 14 from vp_in_nI (n := (4 + 2 * (suN (txN pn pt sp)) + 1)) (by omega) (by decide)) dX7_takeCondition_162 (fun hp_16 H locs hW eh_17 => ?_)
            have hM := mr_ar hM 10 (by decide) eh_17
            refine lv_iload_n X.1 X.2.1 dX7_takeCondition_163 rfl (lv_at hl 6 rfl) ?_
            refine lv_iconst (v := 1) X.1 X.2.1 dX7_takeCondition_164 (by decide) ?_
            refine lv_iload_n X.1 X.2.1 dX7_takeCondition_165 rfl (lv_at hl 4 rfl) ?_
            refine lv_ishl X.1 X.2.1 dX7_takeCondition_166 ?_
            refine r_eqi (show ((1 <<< ((nI (suN (txN pn pt sp))) &&& 31)) : Int32) = nI (2 ^ (suN (txN pn pt sp))) from shlV (suN (txN pn pt sp)) (by omega)) ?_
            refine lv_ior X.1 X.2.1 dX7_takeCondition_167 ?_
            refine r_eqi (show (((nI h9) ||| (nI (2 ^ (suN (txN pn pt sp))))) : Int32) = nI (h9 ||| (2 ^ (suN (txN pn pt sp)))) from n_or h9 (2 ^ (suN (txN pn pt sp)))) ?_
            have hu : whN (txN pn pt) sp = (suN (txN pn pt sp)) := if_neg k_6
            have hx : cdX (txN pn pt) h9 sp = false := cd_xf hu (by omega) k_39
            have hmm : mmN (suN (txN pn pt sp)) = 5 ∧ mhN (suN (txN pn pt sp)) = 53 := ⟨if_neg (by omega), if_neg (by omega)⟩
            have eA : cA (txN pn pt) (suN (txN pn pt sp)) sp = tkW (txN pn pt) false 48 53 (sp + 1) := by unfold cA; rw [hmm.2]
            have e1 : c1 (txN pn pt) (suN (txN pn pt sp)) sp = nmS (txN pn pt) false 5 53 (sp + 1) := by unfold c1; rw [hmm.1, hmm.2]
            have eL : cL (txN pn pt) (suN (txN pn pt sp)) sp = nmV (txN pn pt) false 5 53 (sp + 1) := by unfold cL; rw [hmm.1, hmm.2]
            have eB : cB (txN pn pt) (suN (txN pn pt sp)) sp = tkW (txN pn pt) (tkW (txN pn pt) false 48 53 (sp + 1)) 45 45 (nmS (txN pn pt) false 5 53 (sp + 1)) := by unfold cB; rw [eA, e1]
            have e2 : c2 (txN pn pt) (suN (txN pn pt sp)) sp = tkS (txN pn pt) (tkW (txN pn pt) false 48 53 (sp + 1)) 45 45 (nmS (txN pn pt) false 5 53 (sp + 1)) := by unfold c2; rw [eA, e1]
            have eC : cC (txN pn pt) (suN (txN pn pt sp)) sp = tkW (txN pn pt) (tkW (txN pn pt) (tkW (txN pn pt) false 48 53 (sp + 1)) 45 45 (nmS (txN pn pt) false 5 53 (sp + 1))) 48 53 (tkS (txN pn pt) (tkW (txN pn pt) false 48 53 (sp + 1)) 45 45 (nmS (txN pn pt) false 5 53 (sp + 1))) := by unfold cC; rw [eB, e2, hmm.2]
            have e3 : c3 (txN pn pt) (suN (txN pn pt sp)) sp = nmS (txN pn pt) (tkW (txN pn pt) (tkW (txN pn pt) false 48 53 (sp + 1)) 45 45 (nmS (txN pn pt) false 5 53 (sp + 1))) 5 53 (tkS (txN pn pt) (tkW (txN pn pt) false 48 53 (sp + 1)) 45 45 (nmS (txN pn pt) false 5 53 (sp + 1))) := by unfold c3; rw [eB, e2, hmm.1, hmm.2]
            have eH : cH (txN pn pt) (suN (txN pn pt sp)) sp = nmV (txN pn pt) (tkW (txN pn pt) (tkW (txN pn pt) false 48 53 (sp + 1)) 45 45 (nmS (txN pn pt) false 5 53 (sp + 1))) 5 53 (tkS (txN pn pt) (tkW (txN pn pt) false 48 53 (sp + 1)) 45 45 (nmS (txN pn pt) false 5 53 (sp + 1))) := by unfold cH; rw [eB, e2, hmm.1, hmm.2]
            have hd0 := @tkV_le (txN pn pt) (tkW (txN pn pt) false 48 53 (sp + 1)) 45 45 (nmS (txN pn pt) false 5 53 (sp + 1))
            have hy : cdY (txN pn pt) (suN (txN pn pt sp)) sp = false := by unfold cdY; rw [eH, eL, decide_eq_false (by omega), Bool.and_false]
            have hw : cdW (txN pn pt) h9 sp = false := by rw [(cd_n hx hu).1, hy, eC, bI_0 c_109]; rfl
            have hs : cdS (txN pn pt) h9 sp = nmS (txN pn pt) (tkW (txN pn pt) (tkW (txN pn pt) false 48 53 (sp + 1)) 45 45 (nmS (txN pn pt) false 5 53 (sp + 1))) 5 53 (tkS (txN pn pt) (tkW (txN pn pt) false 48 53 (sp + 1)) 45 45 (nmS (txN pn pt) false 5 53 (sp + 1))) := by rw [(cd_n hx hu).2.1, if_neg (fun q => Bool.false_ne_true (hy.symm.trans q)), e3]
            exact wr_i X hr hlk hW ⟨_, congrArg nI (cd_n hx hu).2.2.symm, (by rw [hw, hs]; have hM9 := (mr_uu (mr_65 (mr_65 (mr_65 hM)))); rw [bI_e (bI_0 c_109)] at hM9; exact hM9), fun _ j => by rw [hu, eL, eH]; refine (f2_ok (u := (suN (txN pn pt sp))) (by omega) _ _ j).trans ?_; rw [show nmV (txN pn pt) (tkW (txN pn pt) (tkW (txN pn pt) false 48 53 (sp + 1)) 45 45 (nmS (txN pn pt) false 5 53 (sp + 1))) 5 53 (tkS (txN pn pt) (tkW (txN pn pt) false 48 53 (sp + 1)) 45 45 (nmS (txN pn pt) false 5 53 (sp + 1))) + tkV (txN pn pt) (tkW (txN pn pt) false 48 53 (sp + 1)) 45 45 (nmS (txN pn pt) false 5 53 (sp + 1)) = nmV (txN pn pt) (tkW (txN pn pt) (tkW (txN pn pt) false 48 53 (sp + 1)) 45 45 (nmS (txN pn pt) false 5 53 (sp + 1))) 5 53 (tkS (txN pn pt) (tkW (txN pn pt) false 48 53 (sp + 1)) 45 45 (nmS (txN pn pt) false 5 53 (sp + 1))) by omega]⟩ (Nat.le_of_ble_eq_true rfl) (Nat.le_of_ble_eq_true rfl) dX7_takeCondition_168
          · have k_116 := k_nle (a := (nmV (txN pn pt) false 5 53 (sp + 1))) (b := (nmV (txN pn pt) (tkW (txN pn pt) (tkW (txN pn pt) false 48 53 (sp + 1)) 45 45 (nmS (txN pn pt) false 5 53 (sp + 1))) 5 53 (tkS (txN pn pt) (tkW (txN pn pt) false 48 53 (sp + 1)) 45 45 (nmS (txN pn pt) false 5 53 (sp + 1))))) (by omega) (by omega) c_116
            refine lv_aload_n X.1 X.2.1 dX7_takeCondition_119 rfl (lv_at hl 5 rfl) ?_
            refine lv_iconst (v := 1) X.1 X.2.1 dX7_takeCondition_120 (by decide) ?_
            refine r_put X hW hM.1 (v := .int 1) (C := RX7) (T := TX7) (N := 19) rfl tin_X7 tyX7_ok nmX7 18 (Nat.le_of_ble_eq_true rfl) tw_861 (fun _ h => h) rfl (by decide) rfl (Nat.le_of_ble_eq_true rfl) dX7_takeCondition_121 (fun hp_18 H locs hW eh_19 => ?_)
            have hM := mr_sc6 hM eh_19
            refine lv_aload_n X.1 X.2.1 dX7_takeCondition_124 rfl (lv_at hl 5 rfl) ?_
            refine lv_dup X.1 X.2.1 dX7_takeCondition_125 rfl ?_
            refine r_get X hW.1 hM.1 (v := .int (nI (nmS (txN pn pt) (tkW (txN pn pt) (tkW (txN pn pt) false 48 53 (sp + 1)) 45 45 (nmS (txN pn pt) false 5 53 (sp + 1))) 5 53 (tkS (txN pn pt) (tkW (txN pn pt) false 48 53 (sp + 1)) 45 45 (nmS (txN pn pt) false 5 53 (sp + 1)))))) (C := RX7) (T := TX7) (N := 19) rfl tin_X7 17 (by decide) tw_860 (fun _ h => h) rfl dX7_takeCondition_126 ?_
            refine lv_iconst (v := 1) X.1 X.2.1 dX7_takeCondition_129 (by decide) ?_
            refine lv_isub X.1 X.2.1 dX7_takeCondition_130 ?_
            refine r_eqi (show (((nI (nmS (txN pn pt) (tkW (txN pn pt) (tkW (txN pn pt) false 48 53 (sp + 1)) 45 45 (nmS (txN pn pt) false 5 53 (sp + 1))) 5 53 (tkS (txN pn pt) (tkW (txN pn pt) false 48 53 (sp + 1)) 45 45 (nmS (txN pn pt) false 5 53 (sp + 1))))) - 1) : Int32) = nI ((nmS (txN pn pt) (tkW (txN pn pt) (tkW (txN pn pt) false 48 53 (sp + 1)) 45 45 (nmS (txN pn pt) false 5 53 (sp + 1))) 5 53 (tkS (txN pn pt) (tkW (txN pn pt) false 48 53 (sp + 1)) 45 45 (nmS (txN pn pt) false 5 53 (sp + 1)))) - 1) from pk_sub (a := (nmS (txN pn pt) (tkW (txN pn pt) (tkW (txN pn pt) false 48 53 (sp + 1)) 45 45 (nmS (txN pn pt) false 5 53 (sp + 1))) 5 53 (tkS (txN pn pt) (tkW (txN pn pt) false 48 53 (sp + 1)) 45 45 (nmS (txN pn pt) false 5 53 (sp + 1))))) (b := 1) (by omega)) ?_
            refine r_put X hW hM.1 (v := .int (nI ((nmS (txN pn pt) (tkW (txN pn pt) (tkW (txN pn pt) false 48 53 (sp + 1)) 45 45 (nmS (txN pn pt) false 5 53 (sp + 1))) 5 53 (tkS (txN pn pt) (tkW (txN pn pt) false 48 53 (sp + 1)) 45 45 (nmS (txN pn pt) false 5 53 (sp + 1)))) - 1))) (C := RX7) (T := TX7) (N := 19) rfl tin_X7 tyX7_ok nmX7 17 (Nat.le_of_ble_eq_true rfl) tw_860 (fun _ h => h) rfl rfl rfl (Nat.le_of_ble_eq_true rfl) dX7_takeCondition_131 (fun hp_20 H locs hW eh_21 => ?_)
            have hM := mr_sc5 hM eh_21
            refine lv_aload_n X.1 X.2.1 dX7_takeCondition_134 rfl (lv_at hl 5 rfl) ?_
            refine r_get X hW.1 hM.1 (v := .ref (M 11)) (C := RX7) (T := TX7) (N := 19) rfl tin_X7 14 (by decide) tw_857 (fun _ h => h) rfl dX7_takeCondition_135 ?_
            refine lv_iconst (v := 4) X.1 X.2.1 dX7_takeCondition_138 (by decide) ?_
            refine lv_iconst (v := 2) X.1 X.2.1 dX7_takeCondition_139 (by decide) ?_
            refine lv_iload_n X.1 X.2.1 dX7_takeCondition_140 rfl (lv_at hl 4 rfl) ?_
            refine lv_imul X.1 X.2.1 dX7_takeCondition_141 ?_
            refine r_eqi (show ((2 * (nI (suN (txN pn pt sp)))) : Int32) = nI (2 * (suN (txN pn pt sp))) from pk_mul 2 (suN (txN pn pt sp))) ?_
            refine lv_iadd X.1 X.2.1 dX7_takeCondition_142 ?_
            refine r_eqi (show ((4 + (nI (2 * (suN (txN pn pt sp))))) : Int32) = nI (4 + 2 * (suN (txN pn pt sp))) from nI_add 4 (2 * (suN (txN pn pt sp)))) ?_
            refine lv_iload X.1 X.2.1 dX7_takeCondition_143 (lv_at hl 2 rfl) ?_
            refine r_iast X hW (hM.2.1 10 (by decide)) (show vp_in ((nI (4 + 2 * (suN (txN pn pt sp))))) 14 from vp_in_nI (n := (4 + 2 * (suN (txN pn pt sp)))) (by omega) (by decide)) dX7_takeCondition_145 (fun hp_22 H locs hW eh_23 => ?_)
            have hM := mr_ar hM 10 (by decide) eh_23
            refine lv_aload_n X.1 X.2.1 dX7_takeCondition_146 rfl (lv_at hl 5 rfl) ?_
            refine r_get X hW.1 hM.1 (v := .ref (M 11)) (C := RX7) (T := TX7) (N := 19) rfl tin_X7 14 (by decide) tw_857 (fun _ h => h) rfl dX7_takeCondition_147 ?_
            refine lv_iconst (v := 4) X.1 X.2.1 dX7_takeCondition_150 (by decide) ?_
            refine lv_iconst (v := 2) X.1 X.2.1 dX7_takeCondition_151 (by decide) ?_
            refine lv_iload_n X.1 X.2.1 dX7_takeCondition_152 rfl (lv_at hl 4 rfl) ?_
            refine lv_imul X.1 X.2.1 dX7_takeCondition_153 ?_
            refine r_eqi (show ((2 * (nI (suN (txN pn pt sp)))) : Int32) = nI (2 * (suN (txN pn pt sp))) from pk_mul 2 (suN (txN pn pt sp))) ?_
            refine lv_iadd X.1 X.2.1 dX7_takeCondition_154 ?_
            refine r_eqi (show ((4 + (nI (2 * (suN (txN pn pt sp))))) : Int32) = nI (4 + 2 * (suN (txN pn pt sp))) from nI_add 4 (2 * (suN (txN pn pt sp)))) ?_
            refine lv_iconst (v := 1) X.1 X.2.1 dX7_takeCondition_155 (by decide) ?_
            refine lv_iadd X.1 X.2.1 dX7_takeCondition_156 ?_
            refine r_eqi (show (((nI (4 + 2 * (suN (txN pn pt sp)))) + 1) : Int32) = nI (4 + 2 * (suN (txN pn pt sp)) + 1) from nI_add (4 + 2 * (suN (txN pn pt sp))) 1) ?_
            refine lv_iload X.1 X.2.1 dX7_takeCondition_157 (lv_at hl 0 rfl) ?_
            refine lv_iload X.1 X.2.1 dX7_takeCondition_159 (lv_at hl 1 rfl) ?_
            refine lv_iadd X.1 X.2.1 dX7_takeCondition_161 ?_
            refine r_eqi (show (((nI (nmV (txN pn pt) (tkW (txN pn pt) (tkW (txN pn pt) false 48 53 (sp + 1)) 45 45 (nmS (txN pn pt) false 5 53 (sp + 1))) 5 53 (tkS (txN pn pt) (tkW (txN pn pt) false 48 53 (sp + 1)) 45 45 (nmS (txN pn pt) false 5 53 (sp + 1))))) + (nI (tkV (txN pn pt) (tkW (txN pn pt) false 48 53 (sp + 1)) 45 45 (nmS (txN pn pt) false 5 53 (sp + 1))))) : Int32) = nI ((nmV (txN pn pt) (tkW (txN pn pt) (tkW (txN pn pt) false 48 53 (sp + 1)) 45 45 (nmS (txN pn pt) false 5 53 (sp + 1))) 5 53 (tkS (txN pn pt) (tkW (txN pn pt) false 48 53 (sp + 1)) 45 45 (nmS (txN pn pt) false 5 53 (sp + 1)))) + (tkV (txN pn pt) (tkW (txN pn pt) false 48 53 (sp + 1)) 45 45 (nmS (txN pn pt) false 5 53 (sp + 1)))) from nI_add (nmV (txN pn pt) (tkW (txN pn pt) (tkW (txN pn pt) false 48 53 (sp + 1)) 45 45 (nmS (txN pn pt) false 5 53 (sp + 1))) 5 53 (tkS (txN pn pt) (tkW (txN pn pt) false 48 53 (sp + 1)) 45 45 (nmS (txN pn pt) false 5 53 (sp + 1)))) (tkV (txN pn pt) (tkW (txN pn pt) false 48 53 (sp + 1)) 45 45 (nmS (txN pn pt) false 5 53 (sp + 1)))) ?_
            refine r_iast X hW (hM.2.1 10 (by decide)) (show vp_in ((nI (4 + 2 * (suN (txN pn pt sp)) + 1))) 14 from vp_in_nI (n := (4 + 2 * (suN (txN pn pt sp)) + 1)) (by omega) (by decide)) dX7_takeCondition_162 (fun hp_24 H locs hW eh_25 => ?_)
            have hM := mr_ar hM 10 (by decide) eh_25
            refine lv_iload_n X.1 X.2.1 dX7_takeCondition_163 rfl (lv_at hl 6 rfl) ?_
            refine lv_iconst (v := 1) X.1 X.2.1 dX7_takeCondition_164 (by decide) ?_
            refine lv_iload_n X.1 X.2.1 dX7_takeCondition_165 rfl (lv_at hl 4 rfl) ?_
            refine lv_ishl X.1 X.2.1 dX7_takeCondition_166 ?_
            refine r_eqi (show ((1 <<< ((nI (suN (txN pn pt sp))) &&& 31)) : Int32) = nI (2 ^ (suN (txN pn pt sp))) from shlV (suN (txN pn pt sp)) (by omega)) ?_
            refine lv_ior X.1 X.2.1 dX7_takeCondition_167 ?_
            refine r_eqi (show (((nI h9) ||| (nI (2 ^ (suN (txN pn pt sp))))) : Int32) = nI (h9 ||| (2 ^ (suN (txN pn pt sp)))) from n_or h9 (2 ^ (suN (txN pn pt sp)))) ?_
            have hu : whN (txN pn pt) sp = (suN (txN pn pt sp)) := if_neg k_6
            have hx : cdX (txN pn pt) h9 sp = false := cd_xf hu (by omega) k_39
            have hmm : mmN (suN (txN pn pt sp)) = 5 ∧ mhN (suN (txN pn pt sp)) = 53 := ⟨if_neg (by omega), if_neg (by omega)⟩
            have eA : cA (txN pn pt) (suN (txN pn pt sp)) sp = tkW (txN pn pt) false 48 53 (sp + 1) := by unfold cA; rw [hmm.2]
            have e1 : c1 (txN pn pt) (suN (txN pn pt sp)) sp = nmS (txN pn pt) false 5 53 (sp + 1) := by unfold c1; rw [hmm.1, hmm.2]
            have eL : cL (txN pn pt) (suN (txN pn pt sp)) sp = nmV (txN pn pt) false 5 53 (sp + 1) := by unfold cL; rw [hmm.1, hmm.2]
            have eB : cB (txN pn pt) (suN (txN pn pt sp)) sp = tkW (txN pn pt) (tkW (txN pn pt) false 48 53 (sp + 1)) 45 45 (nmS (txN pn pt) false 5 53 (sp + 1)) := by unfold cB; rw [eA, e1]
            have e2 : c2 (txN pn pt) (suN (txN pn pt sp)) sp = tkS (txN pn pt) (tkW (txN pn pt) false 48 53 (sp + 1)) 45 45 (nmS (txN pn pt) false 5 53 (sp + 1)) := by unfold c2; rw [eA, e1]
            have eC : cC (txN pn pt) (suN (txN pn pt sp)) sp = tkW (txN pn pt) (tkW (txN pn pt) (tkW (txN pn pt) false 48 53 (sp + 1)) 45 45 (nmS (txN pn pt) false 5 53 (sp + 1))) 48 53 (tkS (txN pn pt) (tkW (txN pn pt) false 48 53 (sp + 1)) 45 45 (nmS (txN pn pt) false 5 53 (sp + 1))) := by unfold cC; rw [eB, e2, hmm.2]
            have e3 : c3 (txN pn pt) (suN (txN pn pt sp)) sp = nmS (txN pn pt) (tkW (txN pn pt) (tkW (txN pn pt) false 48 53 (sp + 1)) 45 45 (nmS (txN pn pt) false 5 53 (sp + 1))) 5 53 (tkS (txN pn pt) (tkW (txN pn pt) false 48 53 (sp + 1)) 45 45 (nmS (txN pn pt) false 5 53 (sp + 1))) := by unfold c3; rw [eB, e2, hmm.1, hmm.2]
            have eH : cH (txN pn pt) (suN (txN pn pt sp)) sp = nmV (txN pn pt) (tkW (txN pn pt) (tkW (txN pn pt) false 48 53 (sp + 1)) 45 45 (nmS (txN pn pt) false 5 53 (sp + 1))) 5 53 (tkS (txN pn pt) (tkW (txN pn pt) false 48 53 (sp + 1)) 45 45 (nmS (txN pn pt) false 5 53 (sp + 1))) := by unfold cH; rw [eB, e2, hmm.1, hmm.2]
            have hd0 := @tkV_le (txN pn pt) (tkW (txN pn pt) false 48 53 (sp + 1)) 45 45 (nmS (txN pn pt) false 5 53 (sp + 1))
            have hy : cdY (txN pn pt) (suN (txN pn pt sp)) sp = true := by unfold cdY; rw [eH, eL, eC, bI_0 c_109, decide_eq_true (by omega)]; rfl
            have hw : cdW (txN pn pt) h9 sp = true := by rw [(cd_n hx hu).1, hy, Bool.or_true]
            have hs : cdS (txN pn pt) h9 sp = nmS (txN pn pt) (tkW (txN pn pt) (tkW (txN pn pt) false 48 53 (sp + 1)) 45 45 (nmS (txN pn pt) false 5 53 (sp + 1))) 5 53 (tkS (txN pn pt) (tkW (txN pn pt) false 48 53 (sp + 1)) 45 45 (nmS (txN pn pt) false 5 53 (sp + 1))) - 1 := by rw [(cd_n hx hu).2.1, if_pos hy, e3]
            exact wr_i X hr hlk hW ⟨_, congrArg nI (cd_n hx hu).2.2.symm, (by rw [hw, hs]; have hM9 := (mr_uu (mr_65 (mr_65 (mr_65 (mr_65 hM))))); exact hM9), fun q => absurd (hw.symm.trans q) (by decide)⟩ (Nat.le_of_ble_eq_true rfl) (Nat.le_of_ble_eq_true rfl) dX7_takeCondition_168
      · have k_39 := k_eq (a := ((h9 / 2 ^ (suN (txN pn pt sp))) % 2)) (b := 1) (by omega) (by omega) c_39
        refine lv_iconst (v := 1) X.1 X.2.1 dX7_takeCondition_42 (by decide) ?_
        refine lv_goto (tgt := 47) X.1 X.2.1 dX7_takeCondition_43 (by decide) ?_
        refine r_put X hW hM.1 (v := .int 1) (C := RX7) (T := TX7) (N := 19) rfl tin_X7 tyX7_ok nmX7 18 (Nat.le_of_ble_eq_true rfl) tw_861 (fun _ h => h) rfl (by decide) rfl (Nat.le_of_ble_eq_true rfl) dX7_takeCondition_47 (fun hp_26 H locs hW eh_27 => ?_)
        have hM := mr_sc6 hM eh_27
        refine lv_aload_n X.1 X.2.1 dX7_takeCondition_50 rfl (lv_at hl 1 rfl) ?_
        refine r_get X hW.1 hM.1 (v := .int 1) (C := RX7) (T := TX7) (N := 19) rfl tin_X7 18 (by decide) tw_861 (fun _ h => h) rfl dX7_takeCondition_51 ?_
        refine lv_if_eq (tgt := 59) X.1 X.2.1 dX7_takeCondition_54 (by decide) (fun c_54 => absurd c_54 (by decide)) (fun c_54 => ?_)
        refine lv_iload_n X.1 X.2.1 dX7_takeCondition_57 rfl (lv_at hl 2 rfl) ?_
        have hu : whN (txN pn pt) sp = (suN (txN pn pt sp)) := if_neg k_6
        have hx : cdX (txN pn pt) h9 sp = true := by unfold cdX; rw [hu, decide_eq_true (show h9 / 2 ^ (suN (txN pn pt sp)) % 2 = 1 from k_39), Bool.or_true]
        exact wr_i X hr hlk hW ⟨ar 10, congrArg nI (cd_x hx).2.2.symm, (by rw [(cd_x hx).1, (cd_x hx).2.1]; exact mr_id 10 (mr_5 hs5 hM)), fun q => absurd ((cd_x hx).1.symm.trans q) (by decide)⟩ (Nat.le_of_ble_eq_true rfl) (Nat.le_of_ble_eq_true rfl) dX7_takeCondition_58
  · have k_6 := k_eq (a := (txN pn pt sp)) (b := 43) (by omega) (by omega) c_6
    refine lv_iconst (v := 4) X.1 X.2.1 dX7_takeCondition_9 (by decide) ?_
    refine lv_goto (tgt := 20) X.1 X.2.1 dX7_takeCondition_10 (by decide) ?_
    refine lv_istore_n (lv' := [(2, .int 4), (0, .ref (M 0)), (1, .int (nI h9))]) X.1 X.2.1 dX7_takeCondition_20 rfl hl (by decide) rfl (fun ls hl => ?_)
    refine lv_aload_n X.1 X.2.1 dX7_takeCondition_21 rfl (lv_at hl 1 rfl) ?_
    refine lv_aload_n X.1 X.2.1 dX7_takeCondition_22 rfl (lv_at hl 1 rfl) ?_
    refine r_get X hW.1 hM.1 (v := .int (sc 6)) (C := RX7) (T := TX7) (N := 19) rfl tin_X7 18 (by decide) tw_861 (fun _ h => h) rfl dX7_takeCondition_23 ?_
    refine r_eqi (show ((sc 6) : Int32) = 0 from hs6) ?_
    refine lv_if_ne (tgt := 42) X.1 X.2.1 dX7_takeCondition_26 (by decide) (fun c_26 => absurd (by decide) c_26) (fun c_26 => ?_)
    refine lv_iload_n X.1 X.2.1 dX7_takeCondition_29 rfl (lv_at hl 0 rfl) ?_
    refine lv_if_lt (tgt := 42) X.1 X.2.1 dX7_takeCondition_30 (by decide) (fun c_30 => absurd c_30 (by decide)) (fun c_30 => ?_)
    refine lv_iload_n X.1 X.2.1 dX7_takeCondition_33 rfl (lv_at hl 2 rfl) ?_
    refine lv_iload_n X.1 X.2.1 dX7_takeCondition_34 rfl (lv_at hl 0 rfl) ?_
    refine lv_ishr X.1 X.2.1 dX7_takeCondition_35 ?_
    refine r_eqi (show (((nI h9) >>> (4 &&& 31)) : Int32) = nI (h9 / 2 ^ 4) from shrV h9 4 (by omega) (by decide)) ?_
    refine lv_iconst (v := 1) X.1 X.2.1 dX7_takeCondition_36 (by decide) ?_
    refine lv_iand X.1 X.2.1 dX7_takeCondition_37 ?_
    refine r_eqi (show (((nI (h9 / 2 ^ 4)) &&& 1) : Int32) = nI ((h9 / 2 ^ 4) % 2) from n_and1 (h9 / 2 ^ 4)) ?_
    refine lv_iconst (v := 1) X.1 X.2.1 dX7_takeCondition_38 (by decide) ?_
    refine lv_icmp_ne (tgt := 46) X.1 X.2.1 dX7_takeCondition_39 (by decide) (fun c_39 => ?_) (fun c_39 => ?_)
    · have k_39 := k_ne (a := ((h9 / 2 ^ 4) % 2)) (b := 1) (by omega) (by omega) c_39
      refine lv_iconst (v := 0) X.1 X.2.1 dX7_takeCondition_46 (by decide) ?_
      refine r_put X hW hM.1 (v := .int 0) (C := RX7) (T := TX7) (N := 19) rfl tin_X7 tyX7_ok nmX7 18 (Nat.le_of_ble_eq_true rfl) tw_861 (fun _ h => h) rfl (by decide) rfl (Nat.le_of_ble_eq_true rfl) dX7_takeCondition_47 (fun hp_28 H locs hW eh_29 => ?_)
      have hM := mr_sc6 hM eh_29
      refine lv_aload_n X.1 X.2.1 dX7_takeCondition_50 rfl (lv_at hl 1 rfl) ?_
      refine r_get X hW.1 hM.1 (v := .int 0) (C := RX7) (T := TX7) (N := 19) rfl tin_X7 18 (by decide) tw_861 (fun _ h => h) rfl dX7_takeCondition_51 ?_
      refine lv_if_eq (tgt := 59) X.1 X.2.1 dX7_takeCondition_54 (by decide) (fun c_54 => ?_) (fun c_54 => absurd (by decide) c_54)
      refine lv_aload_n X.1 X.2.1 dX7_takeCondition_59 rfl (lv_at hl 1 rfl) ?_
      refine lv_dup X.1 X.2.1 dX7_takeCondition_60 rfl ?_
      refine r_get X hW.1 hM.1 (v := .int (sc 5)) (C := RX7) (T := TX7) (N := 19) rfl tin_X7 17 (by decide) tw_860 (fun _ h => h) rfl dX7_takeCondition_61 ?_
      refine r_eqi (show ((sc 5) : Int32) = nI sp from hs5) ?_
      refine lv_iconst (v := 1) X.1 X.2.1 dX7_takeCondition_64 (by decide) ?_
      refine lv_iadd X.1 X.2.1 dX7_takeCondition_65 ?_
      refine r_eqi (show (((nI sp) + 1) : Int32) = nI (sp + 1) from nI_add sp 1) ?_
      refine r_put X hW hM.1 (v := .int (nI (sp + 1))) (C := RX7) (T := TX7) (N := 19) rfl tin_X7 tyX7_ok nmX7 17 (Nat.le_of_ble_eq_true rfl) tw_860 (fun _ h => h) rfl rfl rfl (Nat.le_of_ble_eq_true rfl) dX7_takeCondition_66 (fun hp_30 H locs hW eh_31 => ?_)
      have hM := mr_sc5 hM eh_31
      refine lv_iload_n X.1 X.2.1 dX7_takeCondition_69 rfl (lv_at hl 0 rfl) ?_
      refine lv_iconst (v := 4) X.1 X.2.1 dX7_takeCondition_70 (by decide) ?_
      refine lv_icmp_ne (tgt := 79) X.1 X.2.1 dX7_takeCondition_71 (by decide) (fun c_71 => absurd (by decide) c_71) (fun c_71 => ?_)
      refine lv_bipush (v := 20) X.1 X.2.1 dX7_takeCondition_74 (by decide) ?_
      refine lv_goto (tgt := 80) X.1 X.2.1 dX7_takeCondition_76 (by decide) ?_
      refine lv_istore_n (lv' := [(3, .int 20), (2, .int 4), (0, .ref (M 0)), (1, .int (nI h9))]) X.1 X.2.1 dX7_takeCondition_80 rfl hl (by decide) rfl (fun ls hl => ?_)
      refine lv_aload_n X.1 X.2.1 dX7_takeCondition_81 rfl (lv_at hl 2 rfl) ?_
      refine lv_iload_n X.1 X.2.1 dX7_takeCondition_82 rfl (lv_at hl 0 rfl) ?_
      refine on_Wi (k' := 0) (n' := 0) (run_V (C := RX7) (As := [.int 20]) (rest := []) X (c_X7_takeNumber_20 l G A hp_30 _ (fun q h => hA q (Nat.le_trans hW.2.2.1 h)) hW.2.1 M (va_up (va_up sc 6 0) 5 (nI (sp + 1))) ar sm hM pn pt hP (sp + 1) (by first | rfl | exact hs5) (by omega) false (by first | rfl | exact hs6)) (wp_blind _) (wp_at X hW.1 hW.2.2) (recv X hW.1 hM.1 (C := RX7) (T := TX7) (N := 19) rfl) mf_X7_takeNumber tw_1135 tw_1137 tw_53 ⟨rfl, rfl, Nat.le_of_ble_eq_true rfl, Nat.le_of_ble_eq_true rfl⟩ hl.1 rfl rfl (Nat.le_of_ble_eq_true rfl) ⟨Nat.le_of_ble_eq_true rfl, Nat.le_of_ble_eq_true rfl⟩ dX7_takeCondition_83) hW (by omega) (by omega) (fun r_83 hp_32 H locs q_83 hW => ?_)
      obtain ⟨rfl, hM⟩ := q_83
      have := nmS_ge (txN pn pt) false 20 57 (sp + 1)
      have := nmS_le (txN pn pt) false 20 57 (sp + 1)
      have := @nmV_le (txN pn pt) false 20 57 (sp + 1) (by decide)
      refine lv_istore (lv' := [(4, .int (nI (nmV (txN pn pt) false 20 57 (sp + 1)))), (3, .int 20), (2, .int 4), (0, .ref (M 0)), (1, .int (nI h9))]) X.1 X.2.1 dX7_takeCondition_86 hl (by decide) rfl (fun ls hl => ?_)
      refine lv_aload_n X.1 X.2.1 dX7_takeCondition_88 rfl (lv_at hl 3 rfl) ?_
      refine lv_bipush (v := 45) X.1 X.2.1 dX7_takeCondition_89 (by decide) ?_
      refine lv_bipush (v := 45) X.1 X.2.1 dX7_takeCondition_91 (by decide) ?_
      refine on_Wi (k' := 0) (n' := 0) (run_V (C := RX7) (As := [.int 45, .int 45]) (rest := []) X (c_X7_takeOne l G A hp_32 _ (fun q h => hA q (Nat.le_trans hW.2.2.1 h)) hW.2.1 M (va_up (va_up (va_up (va_up sc 6 0) 5 (nI (sp + 1))) 6 (bI (tkW (txN pn pt) false 48 57 (sp + 1)))) 5 (nI (nmS (txN pn pt) false 20 57 (sp + 1)))) ar sm hM pn pt hP (nmS (txN pn pt) false 20 57 (sp + 1)) (by first | rfl | exact hs5) (by omega) (tkW (txN pn pt) false 48 57 (sp + 1)) (by first | rfl | exact hs6) 45 45 (by omega) (by omega)) (wp_blind _) (wp_at X hW.1 hW.2.2) (recv X hW.1 hM.1 (C := RX7) (T := TX7) (N := 19) rfl) mf_X7_takeOne tw_1116 tw_1118 tw_49 ⟨rfl, rfl, Nat.le_of_ble_eq_true rfl, Nat.le_of_ble_eq_true rfl⟩ hl.1 rfl rfl (Nat.le_of_ble_eq_true rfl) ⟨Nat.le_of_ble_eq_true rfl, Nat.le_of_ble_eq_true rfl⟩ dX7_takeCondition_93) hW (by omega) (by omega) (fun r_93 hp_33 H locs q_93 hW => ?_)
      obtain ⟨rfl, hM⟩ := q_93
      have := tkS_le (txN pn pt) (tkW (txN pn pt) false 48 57 (sp + 1)) 45 45 (nmS (txN pn pt) false 20 57 (sp + 1))
      have := tkS_ge (txN pn pt) (tkW (txN pn pt) false 48 57 (sp + 1)) 45 45 (nmS (txN pn pt) false 20 57 (sp + 1))
      refine lv_istore (lv' := [(5, .int (nI (tkV (txN pn pt) (tkW (txN pn pt) false 48 57 (sp + 1)) 45 45 (nmS (txN pn pt) false 20 57 (sp + 1))))), (4, .int (nI (nmV (txN pn pt) false 20 57 (sp + 1)))), (3, .int 20), (2, .int 4), (0, .ref (M 0)), (1, .int (nI h9))]) X.1 X.2.1 dX7_takeCondition_96 hl (by decide) rfl (fun ls hl => ?_)
      refine lv_aload_n X.1 X.2.1 dX7_takeCondition_98 rfl (lv_at hl 4 rfl) ?_
      refine lv_iload_n X.1 X.2.1 dX7_takeCondition_99 rfl (lv_at hl 2 rfl) ?_
      refine on_Wi (k' := 0) (n' := 0) (run_V (C := RX7) (As := [.int 20]) (rest := []) X (c_X7_takeNumber_20 l G A hp_33 _ (fun q h => hA q (Nat.le_trans hW.2.2.1 h)) hW.2.1 M (va_up (va_up (va_up (va_up (va_up (va_up sc 6 0) 5 (nI (sp + 1))) 6 (bI (tkW (txN pn pt) false 48 57 (sp + 1)))) 5 (nI (nmS (txN pn pt) false 20 57 (sp + 1)))) 6 (bI (tkW (txN pn pt) (tkW (txN pn pt) false 48 57 (sp + 1)) 45 45 (nmS (txN pn pt) false 20 57 (sp + 1))))) 5 (nI (tkS (txN pn pt) (tkW (txN pn pt) false 48 57 (sp + 1)) 45 45 (nmS (txN pn pt) false 20 57 (sp + 1))))) ar sm hM pn pt hP (tkS (txN pn pt) (tkW (txN pn pt) false 48 57 (sp + 1)) 45 45 (nmS (txN pn pt) false 20 57 (sp + 1))) (by first | rfl | exact hs5) (by omega) (tkW (txN pn pt) (tkW (txN pn pt) false 48 57 (sp + 1)) 45 45 (nmS (txN pn pt) false 20 57 (sp + 1))) (by first | rfl | exact hs6)) (wp_blind _) (wp_at X hW.1 hW.2.2) (recv X hW.1 hM.1 (C := RX7) (T := TX7) (N := 19) rfl) mf_X7_takeNumber tw_1135 tw_1137 tw_53 ⟨rfl, rfl, Nat.le_of_ble_eq_true rfl, Nat.le_of_ble_eq_true rfl⟩ hl.1 rfl rfl (Nat.le_of_ble_eq_true rfl) ⟨Nat.le_of_ble_eq_true rfl, Nat.le_of_ble_eq_true rfl⟩ dX7_takeCondition_100) hW (by omega) (by omega) (fun r_100 hp_34 H locs q_100 hW => ?_)
      obtain ⟨rfl, hM⟩ := q_100
      have := nmS_ge (txN pn pt) (tkW (txN pn pt) (tkW (txN pn pt) false 48 57 (sp + 1)) 45 45 (nmS (txN pn pt) false 20 57 (sp + 1))) 20 57 (tkS (txN pn pt) (tkW (txN pn pt) false 48 57 (sp + 1)) 45 45 (nmS (txN pn pt) false 20 57 (sp + 1)))
      have := nmS_le (txN pn pt) (tkW (txN pn pt) (tkW (txN pn pt) false 48 57 (sp + 1)) 45 45 (nmS (txN pn pt) false 20 57 (sp + 1))) 20 57 (tkS (txN pn pt) (tkW (txN pn pt) false 48 57 (sp + 1)) 45 45 (nmS (txN pn pt) false 20 57 (sp + 1)))
      have := @nmV_le (txN pn pt) (tkW (txN pn pt) (tkW (txN pn pt) false 48 57 (sp + 1)) 45 45 (nmS (txN pn pt) false 20 57 (sp + 1))) 20 57 (tkS (txN pn pt) (tkW (txN pn pt) false 48 57 (sp + 1)) 45 45 (nmS (txN pn pt) false 20 57 (sp + 1))) (by decide)
      refine lv_istore (lv' := [(6, .int (nI (nmV (txN pn pt) (tkW (txN pn pt) (tkW (txN pn pt) false 48 57 (sp + 1)) 45 45 (nmS (txN pn pt) false 20 57 (sp + 1))) 20 57 (tkS (txN pn pt) (tkW (txN pn pt) false 48 57 (sp + 1)) 45 45 (nmS (txN pn pt) false 20 57 (sp + 1)))))), (5, .int (nI (tkV (txN pn pt) (tkW (txN pn pt) false 48 57 (sp + 1)) 45 45 (nmS (txN pn pt) false 20 57 (sp + 1))))), (4, .int (nI (nmV (txN pn pt) false 20 57 (sp + 1)))), (3, .int 20), (2, .int 4), (0, .ref (M 0)), (1, .int (nI h9))]) X.1 X.2.1 dX7_takeCondition_103 hl (by decide) rfl (fun ls hl => ?_)
      refine lv_aload_n X.1 X.2.1 dX7_takeCondition_105 rfl (lv_at hl 5 rfl) ?_
      refine r_get X hW.1 hM.1 (v := .int (bI (tkW (txN pn pt) (tkW (txN pn pt) (tkW (txN pn pt) false 48 57 (sp + 1)) 45 45 (nmS (txN pn pt) false 20 57 (sp + 1))) 48 57 (tkS (txN pn pt) (tkW (txN pn pt) false 48 57 (sp + 1)) 45 45 (nmS (txN pn pt) false 20 57 (sp + 1)))))) (C := RX7) (T := TX7) (N := 19) rfl tin_X7 18 (by decide) tw_861 (fun _ h => h) rfl dX7_takeCondition_106 ?_
      refine lv_if_ne (tgt := 134) X.1 X.2.1 dX7_takeCondition_109 (by decide) (fun c_109 => ?_) (fun c_109 => ?_)
      · refine lv_aload_n X.1 X.2.1 dX7_takeCondition_134 rfl (lv_at hl 5 rfl) ?_
        refine r_get X hW.1 hM.1 (v := .ref (M 11)) (C := RX7) (T := TX7) (N := 19) rfl tin_X7 14 (by decide) tw_857 (fun _ h => h) rfl dX7_takeCondition_135 ?_
        refine lv_iconst (v := 4) X.1 X.2.1 dX7_takeCondition_138 (by decide) ?_
        refine lv_iconst (v := 2) X.1 X.2.1 dX7_takeCondition_139 (by decide) ?_
        refine lv_iload_n X.1 X.2.1 dX7_takeCondition_140 rfl (lv_at hl 4 rfl) ?_
        refine lv_imul X.1 X.2.1 dX7_takeCondition_141 ?_
        refine r_eqi (show ((2 * 4) : Int32) = nI (2 * 4) from pk_mul 2 4) ?_
        refine lv_iadd X.1 X.2.1 dX7_takeCondition_142 ?_
        refine r_eqi (show ((4 + (nI (2 * 4))) : Int32) = nI (4 + 2 * 4) from nI_add 4 (2 * 4)) ?_
        refine lv_iload X.1 X.2.1 dX7_takeCondition_143 (lv_at hl 2 rfl) ?_
        refine r_iast X hW (hM.2.1 10 (by decide)) (show vp_in ((nI (4 + 2 * 4))) 14 from vp_in_nI (n := (4 + 2 * 4)) (by omega) (by decide)) dX7_takeCondition_145 (fun hp_35 H locs hW eh_36 => ?_)
        have hM := mr_ar hM 10 (by decide) eh_36
        refine lv_aload_n X.1 X.2.1 dX7_takeCondition_146 rfl (lv_at hl 5 rfl) ?_
        refine r_get X hW.1 hM.1 (v := .ref (M 11)) (C := RX7) (T := TX7) (N := 19) rfl tin_X7 14 (by decide) tw_857 (fun _ h => h) rfl dX7_takeCondition_147 ?_
        refine lv_iconst (v := 4) X.1 X.2.1 dX7_takeCondition_150 (by decide) ?_
        refine lv_iconst (v := 2) X.1 X.2.1 dX7_takeCondition_151 (by decide) ?_
        refine lv_iload_n X.1 X.2.1 dX7_takeCondition_152 rfl (lv_at hl 4 rfl) ?_
        refine lv_imul X.1 X.2.1 dX7_takeCondition_153 ?_
        refine r_eqi (show ((2 * 4) : Int32) = nI (2 * 4) from pk_mul 2 4) ?_
        refine lv_iadd X.1 X.2.1 dX7_takeCondition_154 ?_
        refine r_eqi (show ((4 + (nI (2 * 4))) : Int32) = nI (4 + 2 * 4) from nI_add 4 (2 * 4)) ?_
        refine lv_iconst (v := 1) X.1 X.2.1 dX7_takeCondition_155 (by decide) ?_
        refine lv_iadd X.1 X.2.1 dX7_takeCondition_156 ?_
        refine r_eqi (show (((nI (4 + 2 * 4)) + 1) : Int32) = nI (4 + 2 * 4 + 1) from nI_add (4 + 2 * 4) 1) ?_
        refine lv_iload X.1 X.2.1 dX7_takeCondition_157 (lv_at hl 0 rfl) ?_
        refine lv_iload X.1 X.2.1 dX7_takeCondition_159 (lv_at hl 1 rfl) ?_
        refine lv_iadd X.1 X.2.1 dX7_takeCondition_161 ?_
        refine r_eqi (show (((nI (nmV (txN pn pt) (tkW (txN pn pt) (tkW (txN pn pt) false 48 57 (sp + 1)) 45 45 (nmS (txN pn pt) false 20 57 (sp + 1))) 20 57 (tkS (txN pn pt) (tkW (txN pn pt) false 48 57 (sp + 1)) 45 45 (nmS (txN pn pt) false 20 57 (sp + 1))))) + (nI (tkV (txN pn pt) (tkW (txN pn pt) false 48 57 (sp + 1)) 45 45 (nmS (txN pn pt) false 20 57 (sp + 1))))) : Int32) = nI ((nmV (txN pn pt) (tkW (txN pn pt) (tkW (txN pn pt) false 48 57 (sp + 1)) 45 45 (nmS (txN pn pt) false 20 57 (sp + 1))) 20 57 (tkS (txN pn pt) (tkW (txN pn pt) false 48 57 (sp + 1)) 45 45 (nmS (txN pn pt) false 20 57 (sp + 1)))) + (tkV (txN pn pt) (tkW (txN pn pt) false 48 57 (sp + 1)) 45 45 (nmS (txN pn pt) false 20 57 (sp + 1)))) from nI_add (nmV (txN pn pt) (tkW (txN pn pt) (tkW (txN pn pt) false 48 57 (sp + 1)) 45 45 (nmS (txN pn pt) false 20 57 (sp + 1))) 20 57 (tkS (txN pn pt) (tkW (txN pn pt) false 48 57 (sp + 1)) 45 45 (nmS (txN pn pt) false 20 57 (sp + 1)))) (tkV (txN pn pt) (tkW (txN pn pt) false 48 57 (sp + 1)) 45 45 (nmS (txN pn pt) false 20 57 (sp + 1)))) ?_
        refine r_iast X hW (hM.2.1 10 (by decide)) (show vp_in ((nI (4 + 2 * 4 + 1))) 14 from vp_in_nI (n := (4 + 2 * 4 + 1)) (by omega) (by decide)) dX7_takeCondition_162 (fun hp_37 H locs hW eh_38 => ?_)
        have hM := mr_ar hM 10 (by decide) eh_38
        refine lv_iload_n X.1 X.2.1 dX7_takeCondition_163 rfl (lv_at hl 6 rfl) ?_
        refine lv_iconst (v := 1) X.1 X.2.1 dX7_takeCondition_164 (by decide) ?_
        refine lv_iload_n X.1 X.2.1 dX7_takeCondition_165 rfl (lv_at hl 4 rfl) ?_
        refine lv_ishl X.1 X.2.1 dX7_takeCondition_166 ?_
        refine r_eqi (show (((1 : Int32) <<< (4 &&& 31)) : Int32) = 16 from (by decide)) ?_
        refine lv_ior X.1 X.2.1 dX7_takeCondition_167 ?_
        refine r_eqi (show (((nI h9) ||| 16) : Int32) = nI (h9 ||| 16) from n_or h9 16) ?_
        have hu : whN (txN pn pt) sp = 4 := if_pos k_6
        have hx : cdX (txN pn pt) h9 sp = false := cd_xf hu (by omega) k_39
        have hmm : mmN 4 = 20 ∧ mhN 4 = 57 := ⟨rfl, rfl⟩
        have eA : cA (txN pn pt) 4 sp = tkW (txN pn pt) false 48 57 (sp + 1) := by unfold cA; rw [hmm.2]
        have e1 : c1 (txN pn pt) 4 sp = nmS (txN pn pt) false 20 57 (sp + 1) := by unfold c1; rw [hmm.1, hmm.2]
        have eL : cL (txN pn pt) 4 sp = nmV (txN pn pt) false 20 57 (sp + 1) := by unfold cL; rw [hmm.1, hmm.2]
        have eB : cB (txN pn pt) 4 sp = tkW (txN pn pt) (tkW (txN pn pt) false 48 57 (sp + 1)) 45 45 (nmS (txN pn pt) false 20 57 (sp + 1)) := by unfold cB; rw [eA, e1]
        have e2 : c2 (txN pn pt) 4 sp = tkS (txN pn pt) (tkW (txN pn pt) false 48 57 (sp + 1)) 45 45 (nmS (txN pn pt) false 20 57 (sp + 1)) := by unfold c2; rw [eA, e1]
        have eC : cC (txN pn pt) 4 sp = tkW (txN pn pt) (tkW (txN pn pt) (tkW (txN pn pt) false 48 57 (sp + 1)) 45 45 (nmS (txN pn pt) false 20 57 (sp + 1))) 48 57 (tkS (txN pn pt) (tkW (txN pn pt) false 48 57 (sp + 1)) 45 45 (nmS (txN pn pt) false 20 57 (sp + 1))) := by unfold cC; rw [eB, e2, hmm.2]
        have e3 : c3 (txN pn pt) 4 sp = nmS (txN pn pt) (tkW (txN pn pt) (tkW (txN pn pt) false 48 57 (sp + 1)) 45 45 (nmS (txN pn pt) false 20 57 (sp + 1))) 20 57 (tkS (txN pn pt) (tkW (txN pn pt) false 48 57 (sp + 1)) 45 45 (nmS (txN pn pt) false 20 57 (sp + 1))) := by unfold c3; rw [eB, e2, hmm.1, hmm.2]
        have eH : cH (txN pn pt) 4 sp = nmV (txN pn pt) (tkW (txN pn pt) (tkW (txN pn pt) false 48 57 (sp + 1)) 45 45 (nmS (txN pn pt) false 20 57 (sp + 1))) 20 57 (tkS (txN pn pt) (tkW (txN pn pt) false 48 57 (sp + 1)) 45 45 (nmS (txN pn pt) false 20 57 (sp + 1))) := by unfold cH; rw [eB, e2, hmm.1, hmm.2]
        have hd0 := @tkV_le (txN pn pt) (tkW (txN pn pt) false 48 57 (sp + 1)) 45 45 (nmS (txN pn pt) false 20 57 (sp + 1))
        have hy : cdY (txN pn pt) 4 sp = false := by unfold cdY; rw [eC, bI_1 c_109]; rfl
        have hw : cdW (txN pn pt) h9 sp = true := by rw [(cd_n hx hu).1, eC, bI_1 c_109]; rfl
        have hs : cdS (txN pn pt) h9 sp = nmS (txN pn pt) (tkW (txN pn pt) (tkW (txN pn pt) false 48 57 (sp + 1)) 45 45 (nmS (txN pn pt) false 20 57 (sp + 1))) 20 57 (tkS (txN pn pt) (tkW (txN pn pt) false 48 57 (sp + 1)) 45 45 (nmS (txN pn pt) false 20 57 (sp + 1))) := by rw [(cd_n hx hu).2.1, if_neg (fun q => Bool.false_ne_true (hy.symm.trans q)), e3]
        exact wr_i X hr hlk hW ⟨_, congrArg nI (cd_n hx hu).2.2.symm, (by rw [hw, hs]; have hM9 := (mr_uu (mr_65 (mr_65 (mr_65 hM)))); rw [bI_e (bI_1 c_109)] at hM9; exact hM9), fun q => absurd (hw.symm.trans q) (by decide)⟩ (Nat.le_of_ble_eq_true rfl) (Nat.le_of_ble_eq_true rfl) dX7_takeCondition_168
      · refine lv_iload X.1 X.2.1 dX7_takeCondition_112 (lv_at hl 0 rfl) ?_
        refine lv_iload X.1 X.2.1 dX7_takeCondition_114 (lv_at hl 2 rfl) ?_
        refine lv_icmp_ge (tgt := 134) X.1 X.2.1 dX7_takeCondition_116 (by decide) (fun c_116 => ?_) (fun c_116 => ?_)
        · have k_116 := k_le (a := (nmV (txN pn pt) false 20 57 (sp + 1))) (b := (nmV (txN pn pt) (tkW (txN pn pt) (tkW (txN pn pt) false 48 57 (sp + 1)) 45 45 (nmS (txN pn pt) false 20 57 (sp + 1))) 20 57 (tkS (txN pn pt) (tkW (txN pn pt) false 48 57 (sp + 1)) 45 45 (nmS (txN pn pt) false 20 57 (sp + 1))))) (by omega) (by omega) c_116
          refine lv_aload_n X.1 X.2.1 dX7_takeCondition_134 rfl (lv_at hl 5 rfl) ?_
          refine r_get X hW.1 hM.1 (v := .ref (M 11)) (C := RX7) (T := TX7) (N := 19) rfl tin_X7 14 (by decide) tw_857 (fun _ h => h) rfl dX7_takeCondition_135 ?_
          refine lv_iconst (v := 4) X.1 X.2.1 dX7_takeCondition_138 (by decide) ?_
          refine lv_iconst (v := 2) X.1 X.2.1 dX7_takeCondition_139 (by decide) ?_
          refine lv_iload_n X.1 X.2.1 dX7_takeCondition_140 rfl (lv_at hl 4 rfl) ?_
          refine lv_imul X.1 X.2.1 dX7_takeCondition_141 ?_
          refine r_eqi (show ((2 * 4) : Int32) = nI (2 * 4) from pk_mul 2 4) ?_
          refine lv_iadd X.1 X.2.1 dX7_takeCondition_142 ?_
          refine r_eqi (show ((4 + (nI (2 * 4))) : Int32) = nI (4 + 2 * 4) from nI_add 4 (2 * 4)) ?_
          refine lv_iload X.1 X.2.1 dX7_takeCondition_143 (lv_at hl 2 rfl) ?_
          refine r_iast X hW (hM.2.1 10 (by decide)) (show vp_in ((nI (4 + 2 * 4))) 14 from vp_in_nI (n := (4 + 2 * 4)) (by omega) (by decide)) dX7_takeCondition_145 (fun hp_39 H locs hW eh_40 => ?_)
          have hM := mr_ar hM 10 (by decide) eh_40
          refine lv_aload_n X.1 X.2.1 dX7_takeCondition_146 rfl (lv_at hl 5 rfl) ?_
          refine r_get X hW.1 hM.1 (v := .ref (M 11)) (C := RX7) (T := TX7) (N := 19) rfl tin_X7 14 (by decide) tw_857 (fun _ h => h) rfl dX7_takeCondition_147 ?_
          refine lv_iconst (v := 4) X.1 X.2.1 dX7_takeCondition_150 (by decide) ?_
          refine lv_iconst (v := 2) X.1 X.2.1 dX7_takeCondition_151 (by decide) ?_
          refine lv_iload_n X.1 X.2.1 dX7_takeCondition_152 rfl (lv_at hl 4 rfl) ?_
          refine lv_imul X.1 X.2.1 dX7_takeCondition_153 ?_
          refine r_eqi (show ((2 * 4) : Int32) = nI (2 * 4) from pk_mul 2 4) ?_
          refine lv_iadd X.1 X.2.1 dX7_takeCondition_154 ?_
          refine r_eqi (show ((4 + (nI (2 * 4))) : Int32) = nI (4 + 2 * 4) from nI_add 4 (2 * 4)) ?_
          refine lv_iconst (v := 1) X.1 X.2.1 dX7_takeCondition_155 (by decide) ?_
          refine lv_iadd X.1 X.2.1 dX7_takeCondition_156 ?_
          refine r_eqi (show (((nI (4 + 2 * 4)) + 1) : Int32) = nI (4 + 2 * 4 + 1) from nI_add (4 + 2 * 4) 1) ?_
          refine lv_iload X.1 X.2.1 dX7_takeCondition_157 (lv_at hl 0 rfl) ?_
          refine lv_iload X.1 X.2.1 dX7_takeCondition_159 (lv_at hl 1 rfl) ?_
          refine lv_iadd X.1 X.2.1 dX7_takeCondition_161 ?_
          refine r_eqi (show (((nI (nmV (txN pn pt) (tkW (txN pn pt) (tkW (txN pn pt) false 48 57 (sp + 1)) 45 45 (nmS (txN pn pt) false 20 57 (sp + 1))) 20 57 (tkS (txN pn pt) (tkW (txN pn pt) false 48 57 (sp + 1)) 45 45 (nmS (txN pn pt) false 20 57 (sp + 1))))) + (nI (tkV (txN pn pt) (tkW (txN pn pt) false 48 57 (sp + 1)) 45 45 (nmS (txN pn pt) false 20 57 (sp + 1))))) : Int32) = nI ((nmV (txN pn pt) (tkW (txN pn pt) (tkW (txN pn pt) false 48 57 (sp + 1)) 45 45 (nmS (txN pn pt) false 20 57 (sp + 1))) 20 57 (tkS (txN pn pt) (tkW (txN pn pt) false 48 57 (sp + 1)) 45 45 (nmS (txN pn pt) false 20 57 (sp + 1)))) + (tkV (txN pn pt) (tkW (txN pn pt) false 48 57 (sp + 1)) 45 45 (nmS (txN pn pt) false 20 57 (sp + 1)))) from nI_add (nmV (txN pn pt) (tkW (txN pn pt) (tkW (txN pn pt) false 48 57 (sp + 1)) 45 45 (nmS (txN pn pt) false 20 57 (sp + 1))) 20 57 (tkS (txN pn pt) (tkW (txN pn pt) false 48 57 (sp + 1)) 45 45 (nmS (txN pn pt) false 20 57 (sp + 1)))) (tkV (txN pn pt) (tkW (txN pn pt) false 48 57 (sp + 1)) 45 45 (nmS (txN pn pt) false 20 57 (sp + 1)))) ?_
          refine r_iast X hW (hM.2.1 10 (by decide)) (show vp_in ((nI (4 + 2 * 4 + 1))) 14 from vp_in_nI (n := (4 + 2 * 4 + 1)) (by omega) (by decide)) dX7_takeCondition_162 (fun hp_41 H locs hW eh_42 => ?_)
          have hM := mr_ar hM 10 (by decide) eh_42
          refine lv_iload_n X.1 X.2.1 dX7_takeCondition_163 rfl (lv_at hl 6 rfl) ?_
          refine lv_iconst (v := 1) X.1 X.2.1 dX7_takeCondition_164 (by decide) ?_
          refine lv_iload_n X.1 X.2.1 dX7_takeCondition_165 rfl (lv_at hl 4 rfl) ?_
          refine lv_ishl X.1 X.2.1 dX7_takeCondition_166 ?_
          refine r_eqi (show (((1 : Int32) <<< (4 &&& 31)) : Int32) = 16 from (by decide)) ?_
          refine lv_ior X.1 X.2.1 dX7_takeCondition_167 ?_
          refine r_eqi (show (((nI h9) ||| 16) : Int32) = nI (h9 ||| 16) from n_or h9 16) ?_
          have hu : whN (txN pn pt) sp = 4 := if_pos k_6
          have hx : cdX (txN pn pt) h9 sp = false := cd_xf hu (by omega) k_39
          have hmm : mmN 4 = 20 ∧ mhN 4 = 57 := ⟨rfl, rfl⟩
          have eA : cA (txN pn pt) 4 sp = tkW (txN pn pt) false 48 57 (sp + 1) := by unfold cA; rw [hmm.2]
          have e1 : c1 (txN pn pt) 4 sp = nmS (txN pn pt) false 20 57 (sp + 1) := by unfold c1; rw [hmm.1, hmm.2]
          have eL : cL (txN pn pt) 4 sp = nmV (txN pn pt) false 20 57 (sp + 1) := by unfold cL; rw [hmm.1, hmm.2]
          have eB : cB (txN pn pt) 4 sp = tkW (txN pn pt) (tkW (txN pn pt) false 48 57 (sp + 1)) 45 45 (nmS (txN pn pt) false 20 57 (sp + 1)) := by unfold cB; rw [eA, e1]
          have e2 : c2 (txN pn pt) 4 sp = tkS (txN pn pt) (tkW (txN pn pt) false 48 57 (sp + 1)) 45 45 (nmS (txN pn pt) false 20 57 (sp + 1)) := by unfold c2; rw [eA, e1]
          have eC : cC (txN pn pt) 4 sp = tkW (txN pn pt) (tkW (txN pn pt) (tkW (txN pn pt) false 48 57 (sp + 1)) 45 45 (nmS (txN pn pt) false 20 57 (sp + 1))) 48 57 (tkS (txN pn pt) (tkW (txN pn pt) false 48 57 (sp + 1)) 45 45 (nmS (txN pn pt) false 20 57 (sp + 1))) := by unfold cC; rw [eB, e2, hmm.2]
          have e3 : c3 (txN pn pt) 4 sp = nmS (txN pn pt) (tkW (txN pn pt) (tkW (txN pn pt) false 48 57 (sp + 1)) 45 45 (nmS (txN pn pt) false 20 57 (sp + 1))) 20 57 (tkS (txN pn pt) (tkW (txN pn pt) false 48 57 (sp + 1)) 45 45 (nmS (txN pn pt) false 20 57 (sp + 1))) := by unfold c3; rw [eB, e2, hmm.1, hmm.2]
          have eH : cH (txN pn pt) 4 sp = nmV (txN pn pt) (tkW (txN pn pt) (tkW (txN pn pt) false 48 57 (sp + 1)) 45 45 (nmS (txN pn pt) false 20 57 (sp + 1))) 20 57 (tkS (txN pn pt) (tkW (txN pn pt) false 48 57 (sp + 1)) 45 45 (nmS (txN pn pt) false 20 57 (sp + 1))) := by unfold cH; rw [eB, e2, hmm.1, hmm.2]
          have hd0 := @tkV_le (txN pn pt) (tkW (txN pn pt) false 48 57 (sp + 1)) 45 45 (nmS (txN pn pt) false 20 57 (sp + 1))
          have hy : cdY (txN pn pt) 4 sp = false := by unfold cdY; rw [eH, eL, decide_eq_false (by omega), Bool.and_false]
          have hw : cdW (txN pn pt) h9 sp = false := by rw [(cd_n hx hu).1, hy, eC, bI_0 c_109]; rfl
          have hs : cdS (txN pn pt) h9 sp = nmS (txN pn pt) (tkW (txN pn pt) (tkW (txN pn pt) false 48 57 (sp + 1)) 45 45 (nmS (txN pn pt) false 20 57 (sp + 1))) 20 57 (tkS (txN pn pt) (tkW (txN pn pt) false 48 57 (sp + 1)) 45 45 (nmS (txN pn pt) false 20 57 (sp + 1))) := by rw [(cd_n hx hu).2.1, if_neg (fun q => Bool.false_ne_true (hy.symm.trans q)), e3]
          exact wr_i X hr hlk hW ⟨_, congrArg nI (cd_n hx hu).2.2.symm, (by rw [hw, hs]; have hM9 := (mr_uu (mr_65 (mr_65 (mr_65 hM)))); rw [bI_e (bI_0 c_109)] at hM9; exact hM9), fun _ j => by rw [hu, eL, eH]; refine (f2_ok (u := 4) (by omega) _ _ j).trans ?_; rw [show nmV (txN pn pt) (tkW (txN pn pt) (tkW (txN pn pt) false 48 57 (sp + 1)) 45 45 (nmS (txN pn pt) false 20 57 (sp + 1))) 20 57 (tkS (txN pn pt) (tkW (txN pn pt) false 48 57 (sp + 1)) 45 45 (nmS (txN pn pt) false 20 57 (sp + 1))) + tkV (txN pn pt) (tkW (txN pn pt) false 48 57 (sp + 1)) 45 45 (nmS (txN pn pt) false 20 57 (sp + 1)) = nmV (txN pn pt) (tkW (txN pn pt) (tkW (txN pn pt) false 48 57 (sp + 1)) 45 45 (nmS (txN pn pt) false 20 57 (sp + 1))) 20 57 (tkS (txN pn pt) (tkW (txN pn pt) false 48 57 (sp + 1)) 45 45 (nmS (txN pn pt) false 20 57 (sp + 1))) by omega]⟩ (Nat.le_of_ble_eq_true rfl) (Nat.le_of_ble_eq_true rfl) dX7_takeCondition_168
        · have k_116 := k_nle (a := (nmV (txN pn pt) false 20 57 (sp + 1))) (b := (nmV (txN pn pt) (tkW (txN pn pt) (tkW (txN pn pt) false 48 57 (sp + 1)) 45 45 (nmS (txN pn pt) false 20 57 (sp + 1))) 20 57 (tkS (txN pn pt) (tkW (txN pn pt) false 48 57 (sp + 1)) 45 45 (nmS (txN pn pt) false 20 57 (sp + 1))))) (by omega) (by omega) c_116
          refine lv_aload_n X.1 X.2.1 dX7_takeCondition_119 rfl (lv_at hl 5 rfl) ?_
          refine lv_iconst (v := 1) X.1 X.2.1 dX7_takeCondition_120 (by decide) ?_
          refine r_put X hW hM.1 (v := .int 1) (C := RX7) (T := TX7) (N := 19) rfl tin_X7 tyX7_ok nmX7 18 (Nat.le_of_ble_eq_true rfl) tw_861 (fun _ h => h) rfl (by decide) rfl (Nat.le_of_ble_eq_true rfl) dX7_takeCondition_121 (fun hp_43 H locs hW eh_44 => ?_)
          have hM := mr_sc6 hM eh_44
          refine lv_aload_n X.1 X.2.1 dX7_takeCondition_124 rfl (lv_at hl 5 rfl) ?_
          refine lv_dup X.1 X.2.1 dX7_takeCondition_125 rfl ?_
          refine r_get X hW.1 hM.1 (v := .int (nI (nmS (txN pn pt) (tkW (txN pn pt) (tkW (txN pn pt) false 48 57 (sp + 1)) 45 45 (nmS (txN pn pt) false 20 57 (sp + 1))) 20 57 (tkS (txN pn pt) (tkW (txN pn pt) false 48 57 (sp + 1)) 45 45 (nmS (txN pn pt) false 20 57 (sp + 1)))))) (C := RX7) (T := TX7) (N := 19) rfl tin_X7 17 (by decide) tw_860 (fun _ h => h) rfl dX7_takeCondition_126 ?_
          refine lv_iconst (v := 1) X.1 X.2.1 dX7_takeCondition_129 (by decide) ?_
          refine lv_isub X.1 X.2.1 dX7_takeCondition_130 ?_
          refine r_eqi (show (((nI (nmS (txN pn pt) (tkW (txN pn pt) (tkW (txN pn pt) false 48 57 (sp + 1)) 45 45 (nmS (txN pn pt) false 20 57 (sp + 1))) 20 57 (tkS (txN pn pt) (tkW (txN pn pt) false 48 57 (sp + 1)) 45 45 (nmS (txN pn pt) false 20 57 (sp + 1))))) - 1) : Int32) = nI ((nmS (txN pn pt) (tkW (txN pn pt) (tkW (txN pn pt) false 48 57 (sp + 1)) 45 45 (nmS (txN pn pt) false 20 57 (sp + 1))) 20 57 (tkS (txN pn pt) (tkW (txN pn pt) false 48 57 (sp + 1)) 45 45 (nmS (txN pn pt) false 20 57 (sp + 1)))) - 1) from pk_sub (a := (nmS (txN pn pt) (tkW (txN pn pt) (tkW (txN pn pt) false 48 57 (sp + 1)) 45 45 (nmS (txN pn pt) false 20 57 (sp + 1))) 20 57 (tkS (txN pn pt) (tkW (txN pn pt) false 48 57 (sp + 1)) 45 45 (nmS (txN pn pt) false 20 57 (sp + 1))))) (b := 1) (by omega)) ?_
          refine r_put X hW hM.1 (v := .int (nI ((nmS (txN pn pt) (tkW (txN pn pt) (tkW (txN pn pt) false 48 57 (sp + 1)) 45 45 (nmS (txN pn pt) false 20 57 (sp + 1))) 20 57 (tkS (txN pn pt) (tkW (txN pn pt) false 48 57 (sp + 1)) 45 45 (nmS (txN pn pt) false 20 57 (sp + 1)))) - 1))) (C := RX7) (T := TX7) (N := 19) rfl tin_X7 tyX7_ok nmX7 17 (Nat.le_of_ble_eq_true rfl) tw_860 (fun _ h => h) rfl rfl rfl (Nat.le_of_ble_eq_true rfl) dX7_takeCondition_131 (fun hp_45 H locs hW eh_46 => ?_)
          have hM := mr_sc5 hM eh_46
          refine lv_aload_n X.1 X.2.1 dX7_takeCondition_134 rfl (lv_at hl 5 rfl) ?_
          refine r_get X hW.1 hM.1 (v := .ref (M 11)) (C := RX7) (T := TX7) (N := 19) rfl tin_X7 14 (by decide) tw_857 (fun _ h => h) rfl dX7_takeCondition_135 ?_
          refine lv_iconst (v := 4) X.1 X.2.1 dX7_takeCondition_138 (by decide) ?_
          refine lv_iconst (v := 2) X.1 X.2.1 dX7_takeCondition_139 (by decide) ?_
          refine lv_iload_n X.1 X.2.1 dX7_takeCondition_140 rfl (lv_at hl 4 rfl) ?_
          refine lv_imul X.1 X.2.1 dX7_takeCondition_141 ?_
          refine r_eqi (show ((2 * 4) : Int32) = nI (2 * 4) from pk_mul 2 4) ?_
          refine lv_iadd X.1 X.2.1 dX7_takeCondition_142 ?_
          refine r_eqi (show ((4 + (nI (2 * 4))) : Int32) = nI (4 + 2 * 4) from nI_add 4 (2 * 4)) ?_
          refine lv_iload X.1 X.2.1 dX7_takeCondition_143 (lv_at hl 2 rfl) ?_
          refine r_iast X hW (hM.2.1 10 (by decide)) (show vp_in ((nI (4 + 2 * 4))) 14 from vp_in_nI (n := (4 + 2 * 4)) (by omega) (by decide)) dX7_takeCondition_145 (fun hp_47 H locs hW eh_48 => ?_)
          have hM := mr_ar hM 10 (by decide) eh_48
          refine lv_aload_n X.1 X.2.1 dX7_takeCondition_146 rfl (lv_at hl 5 rfl) ?_
          refine r_get X hW.1 hM.1 (v := .ref (M 11)) (C := RX7) (T := TX7) (N := 19) rfl tin_X7 14 (by decide) tw_857 (fun _ h => h) rfl dX7_takeCondition_147 ?_
          refine lv_iconst (v := 4) X.1 X.2.1 dX7_takeCondition_150 (by decide) ?_
          refine lv_iconst (v := 2) X.1 X.2.1 dX7_takeCondition_151 (by decide) ?_
          refine lv_iload_n X.1 X.2.1 dX7_takeCondition_152 rfl (lv_at hl 4 rfl) ?_
          refine lv_imul X.1 X.2.1 dX7_takeCondition_153 ?_
          refine r_eqi (show ((2 * 4) : Int32) = nI (2 * 4) from pk_mul 2 4) ?_
          refine lv_iadd X.1 X.2.1 dX7_takeCondition_154 ?_
          refine r_eqi (show ((4 + (nI (2 * 4))) : Int32) = nI (4 + 2 * 4) from nI_add 4 (2 * 4)) ?_
          refine lv_iconst (v := 1) X.1 X.2.1 dX7_takeCondition_155 (by decide) ?_
          refine lv_iadd X.1 X.2.1 dX7_takeCondition_156 ?_
          refine r_eqi (show (((nI (4 + 2 * 4)) + 1) : Int32) = nI (4 + 2 * 4 + 1) from nI_add (4 + 2 * 4) 1) ?_
          refine lv_iload X.1 X.2.1 dX7_takeCondition_157 (lv_at hl 0 rfl) ?_
          refine lv_iload X.1 X.2.1 dX7_takeCondition_159 (lv_at hl 1 rfl) ?_
          refine lv_iadd X.1 X.2.1 dX7_takeCondition_161 ?_
          refine r_eqi (show (((nI (nmV (txN pn pt) (tkW (txN pn pt) (tkW (txN pn pt) false 48 57 (sp + 1)) 45 45 (nmS (txN pn pt) false 20 57 (sp + 1))) 20 57 (tkS (txN pn pt) (tkW (txN pn pt) false 48 57 (sp + 1)) 45 45 (nmS (txN pn pt) false 20 57 (sp + 1))))) + (nI (tkV (txN pn pt) (tkW (txN pn pt) false 48 57 (sp + 1)) 45 45 (nmS (txN pn pt) false 20 57 (sp + 1))))) : Int32) = nI ((nmV (txN pn pt) (tkW (txN pn pt) (tkW (txN pn pt) false 48 57 (sp + 1)) 45 45 (nmS (txN pn pt) false 20 57 (sp + 1))) 20 57 (tkS (txN pn pt) (tkW (txN pn pt) false 48 57 (sp + 1)) 45 45 (nmS (txN pn pt) false 20 57 (sp + 1)))) + (tkV (txN pn pt) (tkW (txN pn pt) false 48 57 (sp + 1)) 45 45 (nmS (txN pn pt) false 20 57 (sp + 1)))) from nI_add (nmV (txN pn pt) (tkW (txN pn pt) (tkW (txN pn pt) false 48 57 (sp + 1)) 45 45 (nmS (txN pn pt) false 20 57 (sp + 1))) 20 57 (tkS (txN pn pt) (tkW (txN pn pt) false 48 57 (sp + 1)) 45 45 (nmS (txN pn pt) false 20 57 (sp + 1)))) (tkV (txN pn pt) (tkW (txN pn pt) false 48 57 (sp + 1)) 45 45 (nmS (txN pn pt) false 20 57 (sp + 1)))) ?_
          refine r_iast X hW (hM.2.1 10 (by decide)) (show vp_in ((nI (4 + 2 * 4 + 1))) 14 from vp_in_nI (n := (4 + 2 * 4 + 1)) (by omega) (by decide)) dX7_takeCondition_162 (fun hp_49 H locs hW eh_50 => ?_)
          have hM := mr_ar hM 10 (by decide) eh_50
          refine lv_iload_n X.1 X.2.1 dX7_takeCondition_163 rfl (lv_at hl 6 rfl) ?_
          refine lv_iconst (v := 1) X.1 X.2.1 dX7_takeCondition_164 (by decide) ?_
          refine lv_iload_n X.1 X.2.1 dX7_takeCondition_165 rfl (lv_at hl 4 rfl) ?_
          refine lv_ishl X.1 X.2.1 dX7_takeCondition_166 ?_
          refine r_eqi (show (((1 : Int32) <<< (4 &&& 31)) : Int32) = 16 from (by decide)) ?_
          refine lv_ior X.1 X.2.1 dX7_takeCondition_167 ?_
          refine r_eqi (show (((nI h9) ||| 16) : Int32) = nI (h9 ||| 16) from n_or h9 16) ?_
          have hu : whN (txN pn pt) sp = 4 := if_pos k_6
          have hx : cdX (txN pn pt) h9 sp = false := cd_xf hu (by omega) k_39
          have hmm : mmN 4 = 20 ∧ mhN 4 = 57 := ⟨rfl, rfl⟩
          have eA : cA (txN pn pt) 4 sp = tkW (txN pn pt) false 48 57 (sp + 1) := by unfold cA; rw [hmm.2]
          have e1 : c1 (txN pn pt) 4 sp = nmS (txN pn pt) false 20 57 (sp + 1) := by unfold c1; rw [hmm.1, hmm.2]
          have eL : cL (txN pn pt) 4 sp = nmV (txN pn pt) false 20 57 (sp + 1) := by unfold cL; rw [hmm.1, hmm.2]
          have eB : cB (txN pn pt) 4 sp = tkW (txN pn pt) (tkW (txN pn pt) false 48 57 (sp + 1)) 45 45 (nmS (txN pn pt) false 20 57 (sp + 1)) := by unfold cB; rw [eA, e1]
          have e2 : c2 (txN pn pt) 4 sp = tkS (txN pn pt) (tkW (txN pn pt) false 48 57 (sp + 1)) 45 45 (nmS (txN pn pt) false 20 57 (sp + 1)) := by unfold c2; rw [eA, e1]
          have eC : cC (txN pn pt) 4 sp = tkW (txN pn pt) (tkW (txN pn pt) (tkW (txN pn pt) false 48 57 (sp + 1)) 45 45 (nmS (txN pn pt) false 20 57 (sp + 1))) 48 57 (tkS (txN pn pt) (tkW (txN pn pt) false 48 57 (sp + 1)) 45 45 (nmS (txN pn pt) false 20 57 (sp + 1))) := by unfold cC; rw [eB, e2, hmm.2]
          have e3 : c3 (txN pn pt) 4 sp = nmS (txN pn pt) (tkW (txN pn pt) (tkW (txN pn pt) false 48 57 (sp + 1)) 45 45 (nmS (txN pn pt) false 20 57 (sp + 1))) 20 57 (tkS (txN pn pt) (tkW (txN pn pt) false 48 57 (sp + 1)) 45 45 (nmS (txN pn pt) false 20 57 (sp + 1))) := by unfold c3; rw [eB, e2, hmm.1, hmm.2]
          have eH : cH (txN pn pt) 4 sp = nmV (txN pn pt) (tkW (txN pn pt) (tkW (txN pn pt) false 48 57 (sp + 1)) 45 45 (nmS (txN pn pt) false 20 57 (sp + 1))) 20 57 (tkS (txN pn pt) (tkW (txN pn pt) false 48 57 (sp + 1)) 45 45 (nmS (txN pn pt) false 20 57 (sp + 1))) := by unfold cH; rw [eB, e2, hmm.1, hmm.2]
          have hd0 := @tkV_le (txN pn pt) (tkW (txN pn pt) false 48 57 (sp + 1)) 45 45 (nmS (txN pn pt) false 20 57 (sp + 1))
          have hy : cdY (txN pn pt) 4 sp = true := by unfold cdY; rw [eH, eL, eC, bI_0 c_109, decide_eq_true (by omega)]; rfl
          have hw : cdW (txN pn pt) h9 sp = true := by rw [(cd_n hx hu).1, hy, Bool.or_true]
          have hs : cdS (txN pn pt) h9 sp = nmS (txN pn pt) (tkW (txN pn pt) (tkW (txN pn pt) false 48 57 (sp + 1)) 45 45 (nmS (txN pn pt) false 20 57 (sp + 1))) 20 57 (tkS (txN pn pt) (tkW (txN pn pt) false 48 57 (sp + 1)) 45 45 (nmS (txN pn pt) false 20 57 (sp + 1))) - 1 := by rw [(cd_n hx hu).2.1, if_pos hy, e3]
          exact wr_i X hr hlk hW ⟨_, congrArg nI (cd_n hx hu).2.2.symm, (by rw [hw, hs]; have hM9 := (mr_uu (mr_65 (mr_65 (mr_65 (mr_65 hM))))); exact hM9), fun q => absurd (hw.symm.trans q) (by decide)⟩ (Nat.le_of_ble_eq_true rfl) (Nat.le_of_ble_eq_true rfl) dX7_takeCondition_168
    · have k_39 := k_eq (a := ((h9 / 2 ^ 4) % 2)) (b := 1) (by omega) (by omega) c_39
      refine lv_iconst (v := 1) X.1 X.2.1 dX7_takeCondition_42 (by decide) ?_
      refine lv_goto (tgt := 47) X.1 X.2.1 dX7_takeCondition_43 (by decide) ?_
      refine r_put X hW hM.1 (v := .int 1) (C := RX7) (T := TX7) (N := 19) rfl tin_X7 tyX7_ok nmX7 18 (Nat.le_of_ble_eq_true rfl) tw_861 (fun _ h => h) rfl (by decide) rfl (Nat.le_of_ble_eq_true rfl) dX7_takeCondition_47 (fun hp_51 H locs hW eh_52 => ?_)
      have hM := mr_sc6 hM eh_52
      refine lv_aload_n X.1 X.2.1 dX7_takeCondition_50 rfl (lv_at hl 1 rfl) ?_
      refine r_get X hW.1 hM.1 (v := .int 1) (C := RX7) (T := TX7) (N := 19) rfl tin_X7 18 (by decide) tw_861 (fun _ h => h) rfl dX7_takeCondition_51 ?_
      refine lv_if_eq (tgt := 59) X.1 X.2.1 dX7_takeCondition_54 (by decide) (fun c_54 => absurd c_54 (by decide)) (fun c_54 => ?_)
      refine lv_iload_n X.1 X.2.1 dX7_takeCondition_57 rfl (lv_at hl 2 rfl) ?_
      have hu : whN (txN pn pt) sp = 4 := if_pos k_6
      have hx : cdX (txN pn pt) h9 sp = true := by unfold cdX; rw [hu, decide_eq_true (show h9 / 2 ^ 4 % 2 = 1 from k_39), Bool.or_true]
      exact wr_i X hr hlk hW ⟨ar 10, congrArg nI (cd_x hx).2.2.symm, (by rw [(cd_x hx).1, (cd_x hx).2.1]; exact mr_id 10 (mr_5 hs5 hM)), fun q => absurd ((cd_x hx).1.symm.trans q) (by decide)⟩ (Nat.le_of_ble_eq_true rfl) (Nat.le_of_ble_eq_true rfl) dX7_takeCondition_58

