/-! the whole text -/
theorem tx_0 {pn : Nat} {pt : Nat → Nat} {i : Nat} (h : pn ≤ i) : txN pn pt i = 0 := if_neg (by omega)
theorem cdS_ge (tx : Nat → Nat) (h sp : Nat) : sp ≤ cdS tx h sp := by
  have a1 := nmS_ge tx false (mmN (whN tx sp)) (mhN (whN tx sp)) (sp + 1)
  have a2 := tkS_ge tx (cA tx (whN tx sp) sp) 45 45 (c1 tx (whN tx sp) sp)
  have a3 := nmS_ge tx (cB tx (whN tx sp) sp) (mmN (whN tx sp)) (mhN (whN tx sp)) (c2 tx (whN tx sp) sp)
  have e1 : c1 tx (whN tx sp) sp = nmS tx false (mmN (whN tx sp)) (mhN (whN tx sp)) (sp + 1) := rfl
  have e2 : c2 tx (whN tx sp) sp = tkS tx (cA tx (whN tx sp) sp) 45 45 (c1 tx (whN tx sp) sp) := rfl
  have e3 : c3 tx (whN tx sp) sp = nmS tx (cB tx (whN tx sp) sp) (mmN (whN tx sp)) (mhN (whN tx sp)) (c2 tx (whN tx sp) sp) := rfl
  unfold cdS
  split
  · omega
  · split <;> omega
theorem cdS_le (tx : Nat → Nat) (h sp : Nat) : cdS tx h sp ≤ sp + 6 := by
  have a1 := nmS_le tx false (mmN (whN tx sp)) (mhN (whN tx sp)) (sp + 1)
  have a2 := tkS_le tx (cA tx (whN tx sp) sp) 45 45 (c1 tx (whN tx sp) sp)
  have a3 := nmS_le tx (cB tx (whN tx sp) sp) (mmN (whN tx sp)) (mhN (whN tx sp)) (c2 tx (whN tx sp) sp)
  have e1 : c1 tx (whN tx sp) sp = nmS tx false (mmN (whN tx sp)) (mhN (whN tx sp)) (sp + 1) := rfl
  have e2 : c2 tx (whN tx sp) sp = tkS tx (cA tx (whN tx sp) sp) 45 45 (c1 tx (whN tx sp) sp) := rfl
  have e3 : c3 tx (whN tx sp) sp = nmS tx (cB tx (whN tx sp) sp) (mmN (whN tx sp)) (mhN (whN tx sp)) (c2 tx (whN tx sp) sp) := rfl
  unfold cdS
  split
  · omega
  · split <;> omega
theorem suN_le (c : Nat) : suN c ≤ 3 ∨ suN c = 9 := by
  unfold suN
  split
  · omega
  · split
    · omega
    · split
      · omega
      · split <;> omega
theorem whN_le (tx : Nat → Nat) (sp : Nat) : whN tx sp ≤ 4 ∨ whN tx sp = 9 := by
  have := suN_le (tx sp)
  unfold whN stN
  split <;> omega
theorem cdB_lt {tx : Nat → Nat} {h sp : Nat} (hh : h < 32) : cdB tx h sp < 32 := by
  unfold cdB
  by_cases c : cdX tx h sp = true
  · rw [if_pos c]; exact hh
  · rw [if_neg c]
    have hx := Bool.eq_false_iff.mpr c
    unfold cdX at hx
    rw [Bool.or_eq_false_iff] at hx
    have h9 := of_decide_eq_false hx.1
    have := whN_le tx sp
    exact Nat.or_lt_two_pow (n := 5) hh (Nat.pow_lt_pow_right (by decide) (by omega))
/-- the numbers that a condition lays -/
def cdQ (tx : Nat → Nat) (sp : Nat) (q : Nat → Nat) : Nat → Nat := fun j => if j = 5 + 2 * whN tx sp then cH tx (whN tx sp) sp else if j = 4 + 2 * whN tx sp then cL tx (whN tx sp) sp else q j
theorem mm_le (u : Nat) : mhN u - 48 ≤ mmN u ∧ mmN u ≤ 20 := by
  unfold mhN mmN
  by_cases c : u = 4
  · rw [if_pos c, if_pos c]; decide
  · rw [if_neg c, if_neg c]; decide
theorem cdQ_le {tx : Nat → Nat} {sp : Nat} {q : Nat → Nat} (h : ∀ j, j < 14 → q j ≤ 25) : ∀ j, j < 14 → cdQ tx sp q j ≤ 25 := by
  intro j hj
  have hm := mm_le (whN tx sp)
  have a : cH tx (whN tx sp) sp ≤ mmN (whN tx sp) := nmV_le hm.1
  have b : cL tx (whN tx sp) sp ≤ mmN (whN tx sp) := nmV_le hm.1
  have := h j hj
  unfold cdQ
  split
  · omega
  · split <;> omega
/-- the conditions: wrong, the place, what is limited, the numbers -/
def lpF (tx : Nat → Nat) : Nat → Bool → Nat → Nat → (Nat → Nat) → Bool × Nat × (Nat → Nat)
  | 0, w, s, _, q => (w, s, q)
  | f + 1, w, s, h, q => if w = false ∧ tx s = 44 then lpF tx f (cdW tx h (s + 1)) (cdS tx h (s + 1)) (cdB tx h (s + 1)) (cdQ tx (s + 1) q) else (w, s, q)
theorem lp_st {tx : Nat → Nat} {f : Nat} {w : Bool} {s h : Nat} {q : Nat → Nat} (hw : w = false) (ht : tx s = 44) : lpF tx (f + 1) w s h q = lpF tx f (cdW tx h (s + 1)) (cdS tx h (s + 1)) (cdB tx h (s + 1)) (cdQ tx (s + 1) q) := if_pos ⟨hw, ht⟩
theorem lp_end {tx : Nat → Nat} {f : Nat} {w : Bool} {s h : Nat} {q : Nat → Nat} (hc : ¬ (w = false ∧ tx s = 44)) : lpF tx f w s h q = (w, s, q) := by
  cases f
  · rfl
  · exact if_neg hc
/-- the head of a rule: wrong and the place behind each part -/
def h1W (tx : Nat → Nat) : Bool := tkW tx false 48 55 0
def h1S (tx : Nat → Nat) : Nat := tkS tx false 48 55 0
def h2W (tx : Nat → Nat) : Bool := tkW tx (h1W tx) 58 58 (h1S tx)
def h2S (tx : Nat → Nat) : Nat := tkS tx (h1W tx) 58 58 (h1S tx)
def h3W (tx : Nat → Nat) : Bool := caW tx (h2W tx) (h2S tx)
def h3S (tx : Nat → Nat) : Nat := caS tx (h2W tx) (h2S tx)
def h4W (tx : Nat → Nat) : Bool := tkW tx (h3W tx) 62 62 (h3S tx)
def h4S (tx : Nat → Nat) : Nat := tkS tx (h3W tx) 62 62 (h3S tx)
def h5W (tx : Nat → Nat) : Bool := tkW tx (h4W tx) 48 55 (h4S tx)
def h5S (tx : Nat → Nat) : Nat := tkS tx (h4W tx) 48 55 (h4S tx)
def hFo (tx : Nat → Nat) : Nat := if h5W tx = false ∧ tx (h5S tx) = 33 then 1 else 0
def hQ (tx : Nat → Nat) : Nat → Nat := rwN (tkV tx false 48 55 0) (caV tx (h2W tx) (h2S tx)) (tkV tx (h4W tx) 48 55 (h4S tx)) (hFo tx)
/-- the text read: wrong, the place, the numbers -/
def rdF (tx : Nat → Nat) : Bool × Nat × (Nat → Nat) := lpF tx 61 (h5W tx) (h5S tx + hFo tx) 0 (hQ tx)
def fFault (z : ST) : Int32 := if (rdF (txN z.2.2.2.2.2.2.1 z.2.2.2.2.2.2.2)).1 = true ∨ (rdF (txN z.2.2.2.2.2.2.1 z.2.2.2.2.2.2.2)).2.1 < z.2.2.2.2.2.2.1 then nI (rdF (txN z.2.2.2.2.2.2.1 z.2.2.2.2.2.2.2)).2.1 else -6
def fLoad (z : ST) : Int32 := if fFault z = -6 then fAdd z (rdF (txN z.2.2.2.2.2.2.1 z.2.2.2.2.2.2.2)).2.2 else -3
def gLoad (z : ST) : ST := if fFault z = -6 then (if fAdd z (rdF (txN z.2.2.2.2.2.2.1 z.2.2.2.2.2.2.2)).2.2 < 0 then gAdd z (rdF (txN z.2.2.2.2.2.2.1 z.2.2.2.2.2.2.2)).2.2 else gPad (gAdd z (rdF (txN z.2.2.2.2.2.2.1 z.2.2.2.2.2.2.2)).2.2) 0 z.2.2.2.2.2.2.2) else z
theorem mr_cg {G : HG} {hp : HP} {M : Nat → Nat} {sc1 sc2 : Nat → Int32} {ar1 ar2 : Nat → Nat → Int32} {sm : Nat → Int64} (h : MR G hp M sc1 ar1 sm) (e1 : ∀ j, sc1 j = sc2 j) (e2 : ∀ j, ar1 j = ar2 j) : MR G hp M sc2 ar2 sm := by
  rw [← funext e1, ← funext e2]
  exact h
theorem cd_row {tx : Nat → Nat} {sp : Nat} {q : Nat → Nat} {g f1 : Nat → Int32} (h : ∀ j, j < 14 → g j = nI (q j) ∧ q j ≤ 25) (hf : ∀ j, f1 j = if j = 5 + 2 * whN tx sp then nI (cH tx (whN tx sp) sp) else if j = 4 + 2 * whN tx sp then nI (cL tx (whN tx sp) sp) else g j) : ∀ j, j < 14 → f1 j = nI (cdQ tx sp q j) ∧ cdQ tx sp q j ≤ 25 := by
  intro j hj
  refine ⟨?_, cdQ_le (fun j hj => (h j hj).2) j hj⟩
  rw [hf j]
  unfold cdQ
  by_cases u1 : j = 5 + 2 * whN tx sp
  · rw [if_pos u1, if_pos u1]
  · rw [if_neg u1, if_neg u1]
    by_cases u2 : j = 4 + 2 * whN tx sp
    · rw [if_pos u2, if_pos u2]
    · rw [if_neg u2, if_neg u2]
      exact (h j hj).1
theorem fa_t {n : Nat} {R : Nat → Nat → Nat} {hd : Nat → Nat} {k : Nat} {cs : Nat → Nat → Int32} {sk : Bool} {pn : Nat} {pt : Nat → Nat} {w : Bool} {s : Nat} {q : Nat → Nat} (h : rdF (txN pn pt) = (w, s, q)) (c : w = true ∨ s < pn) : nI s = fFault (n, R, hd, k, cs, sk, pn, pt) := by
  unfold fFault
  rw [h]
  exact (if_pos c).symm
theorem fa_n {n : Nat} {R : Nat → Nat → Nat} {hd : Nat → Nat} {k : Nat} {cs : Nat → Nat → Int32} {sk : Bool} {pn : Nat} {pt : Nat → Nat} {s : Nat} {q : Nat → Nat} (h : rdF (txN pn pt) = (false, s, q)) (c : ¬ s < pn) : -6 = fFault (n, R, hd, k, cs, sk, pn, pt) := by
  unfold fFault
  rw [h]
  exact (if_neg (fun z => Or.elim z Bool.false_ne_true c)).symm
theorem nI_m6 {s : Nat} (h : s < 2 ^ 31) : ¬ nI s = -6 := fun q => by
  have := congrArg Int32.toInt q
  rw [nI_toInt h] at this
  have e : (-6 : Int32).toInt = -6 := by decide
  omega
theorem hd_row {g f3 fc : Nat → Int32} {a b d q : Nat} (hg : ∀ j, 4 ≤ j → j < 14 → g j = nI (frN j)) (hn : ∀ j, ¬ j = 1 → fc j = upd g (0 : Int32).toNatClampNeg (nI a) j) (hv : fc 1 = nI b) (e : f3 = upd (upd fc (2 : Int32).toNatClampNeg (nI d)) (3 : Int32).toNatClampNeg (nI q)) (ha : a ≤ 7) (hb : b ≤ 25) (hd : d ≤ 7) (hq : q ≤ 1) : ∀ j, j < 14 → f3 j = nI (rwN a b d q j) ∧ rwN a b d q j ≤ 25 := by
  intro j hj
  have h0 := rw_ok hg ha hb hd hq j hj
  refine ⟨?_, h0.2⟩
  rw [← h0.1, e]
  show upd (upd fc 2 (nI d)) 3 (nI q) j = upd (upd (upd (upd g 0 (nI a)) 1 (nI b)) 2 (nI d)) 3 (nI q) j
  unfold upd
  by_cases c3 : j = 3
  · rw [if_pos c3, if_pos c3]
  · rw [if_neg c3, if_neg c3]
    by_cases c2 : j = 2
    · rw [if_pos c2, if_pos c2]
    · rw [if_neg c2, if_neg c2]
      by_cases c1 : j = 1
      · rw [if_pos c1, c1, hv]
      · rw [if_neg c1]
        exact hn j c1
theorem ca_le {tx : Nat → Nat} {w : Bool} {sp : Nat} (h : caW tx w sp = false) : caV tx w sp ≤ 25 := by
  by_cases c : caP tx w sp = true
  · rw [(ca_p c).2.2]; decide
  · have hn := ca_n (Bool.eq_false_iff.mpr c)
    rw [hn.1, Bool.or_eq_false_iff] at h
    have h9 := of_decide_eq_false h.2
    have := @tkV_le tx w 49 53 sp
    have := suN_le (tx (tkS tx w 49 53 sp))
    rw [hn.2.2]
    unfold stN at *
    split at h9 <;> split <;> omega
set_option maxHeartbeats 4000000 in
set_option maxRecDepth 100000 in
theorem c_X7_fault (l : Launch) (G : HG) (A : Nat → Prop) (hp : HP) (sz : Nat) (hA : ∀ q, sz ≤ q → A q) (hO : Ow A hp) (M : Nat → Nat) (sc : Nat → Int32) (ar : Nat → Nat → Int32) (sm : Nat → Int64) (hM : MR G hp M sc ar sm) (n : Nat) (R : Nat → Nat → Nat) (hd : Nat → Nat) (k : Nat) (cs : Nat → Nat → Int32) (sk : Bool) (pn : Nat) (pt : Nat → Nat) (hz : MST (n, R, hd, k, cs, sk, pn, pt) sc ar) : Met l yX7_fault [.code yX7_fault cX7_fault 3 (some .int)] { frames := 4, cells := 0, slots := 0, locals := 93 } (va_Pc [.ref (M 0)] (WP G A sz hp)) (va_Qi (fun r hp1 => r = fFault (n, R, hd, k, cs, sk, pn, pt) ∧ ∃ sc1 ar1 sm1, MR G hp1 M sc1 ar1 sm1 ∧ MST (n, R, hd, k, cs, sk, pn, pt) sc1 ar1 ∧ (fFault (n, R, hd, k, cs, sk, pn, pt) = -6 → ∀ j, j < 14 → ar1 10 j = nI ((rdF (txN pn pt)).2.2 j) ∧ (rdF (txN pn pt)).2.2 j ≤ 25)) (WB G A) A) 0 0 A := by
  refine wr_ofW (by decide) (Nat.le_of_ble_eq_true rfl) hO ?_
  intro p e s m args below meth c ls X hr hlk hnm hsz hW hl
  have hA : ∀ q, s.heap.size ≤ q → A q := fun q h => hA q (by omega)
  have hl : lv_has ls 3 [(0, .ref (M 0))] := hl
  have hT : MT ar := hz.1
  have hU : MU n R sc ar := hz.2.1
  have hH2 : MH hd ar := hz.2.2.1
  have hau : MAu k cs sk sc ar := hz.2.2.2.1
  have hP : MP pn pt sc ar := hz.2.2.2.2
  have hn := hU.2.1
  have hk := hau.2.1
  have hpn := hP.2.1
  refine lv_aload_n X.1 X.2.1 dX7_fault_0 rfl (lv_at hl 0 rfl) ?_
  refine lv_iconst (v := 0) X.1 X.2.1 dX7_fault_1 (by decide) ?_
  refine r_put X hW hM.1 (v := .int 0) (C := RX7) (T := TX7) (N := 19) rfl tin_X7 tyX7_ok nmX7 17 (Nat.le_of_ble_eq_true rfl) tw_860 (fun _ h => h) rfl rfl rfl (Nat.le_of_ble_eq_true rfl) dX7_fault_2 (fun hp_1 H locs hW eh_2 => ?_)
  have hM := mr_sc5 hM eh_2
  refine lv_aload_n X.1 X.2.1 dX7_fault_5 rfl (lv_at hl 0 rfl) ?_
  refine lv_iconst (v := 0) X.1 X.2.1 dX7_fault_6 (by decide) ?_
  refine r_put X hW hM.1 (v := .int 0) (C := RX7) (T := TX7) (N := 19) rfl tin_X7 tyX7_ok nmX7 18 (Nat.le_of_ble_eq_true rfl) tw_861 (fun _ h => h) rfl (by decide) rfl (Nat.le_of_ble_eq_true rfl) dX7_fault_7 (fun hp_3 H locs hW eh_4 => ?_)
  have hM := mr_sc6 hM eh_4
  refine lv_aload_n X.1 X.2.1 dX7_fault_10 rfl (lv_at hl 0 rfl) ?_
  refine on_Wv (k' := 0) (n' := 0) (run_V (C := RX7) (As := []) (rest := []) X (c_X7_clearFresh l G A hp_3 _ (fun q h => hA q (Nat.le_trans hW.2.2.1 h)) hW.2.1 M (va_up (va_up sc 5 0) 6 0) ar sm hM) (wp_blind _) (wp_at X hW.1 hW.2.2) (recv X hW.1 hM.1 (C := RX7) (T := TX7) (N := 19) rfl) mf_X7_clearFresh tw_910 tw_912 tw_27 ⟨rfl, rfl, Nat.le_of_ble_eq_true rfl, Nat.le_of_ble_eq_true rfl⟩ hl.1 rfl rfl (Nat.le_of_ble_eq_true rfl) ⟨Nat.le_of_ble_eq_true rfl, Nat.le_of_ble_eq_true rfl⟩ dX7_fault_11) hW (by omega) (by omega) (fun hp_5 H locs q_11 hW => ?_)
  obtain ⟨g, hM, hg⟩ := q_11
  refine lv_aload_n X.1 X.2.1 dX7_fault_14 rfl (lv_at hl 0 rfl) ?_
  refine r_get X hW.1 hM.1 (v := .ref (M 11)) (C := RX7) (T := TX7) (N := 19) rfl tin_X7 14 (by decide) tw_857 (fun _ h => h) rfl dX7_fault_15 ?_
  refine lv_iconst (v := 0) X.1 X.2.1 dX7_fault_18 (by decide) ?_
  refine lv_aload_n X.1 X.2.1 dX7_fault_19 rfl (lv_at hl 0 rfl) ?_
  refine lv_bipush (v := 48) X.1 X.2.1 dX7_fault_20 (by decide) ?_
  refine lv_bipush (v := 55) X.1 X.2.1 dX7_fault_22 (by decide) ?_
  refine on_Wi (k' := 0) (n' := 0) (run_V (C := RX7) (As := [.int 48, .int 55]) (rest := [.int 0, .ref (M 11)]) X (c_X7_takeOne l G A hp_5 _ (fun q h => hA q (Nat.le_trans hW.2.2.1 h)) hW.2.1 M (va_up (va_up sc 5 0) 6 0) (va_up ar 10 g) sm hM pn pt hP 0 (by first | rfl | exact hs5) (by omega) false (by first | rfl | exact hs6) 48 55 (by omega) (by omega)) (wp_blind _) (wp_at X hW.1 hW.2.2) (recv X hW.1 hM.1 (C := RX7) (T := TX7) (N := 19) rfl) mf_X7_takeOne tw_1116 tw_1118 tw_49 ⟨rfl, rfl, Nat.le_of_ble_eq_true rfl, Nat.le_of_ble_eq_true rfl⟩ hl.1 rfl rfl (Nat.le_of_ble_eq_true rfl) ⟨Nat.le_of_ble_eq_true rfl, Nat.le_of_ble_eq_true rfl⟩ dX7_fault_24) hW (by omega) (by omega) (fun r_24 hp_6 H locs q_24 hW => ?_)
  obtain ⟨rfl, hM⟩ := q_24
  have := tkS_le (txN pn pt) false 48 55 0
  have := tkS_ge (txN pn pt) false 48 55 0
  refine r_iast X hW (hM.2.1 10 (by decide)) (show vp_in (0) 14 from vp_in_nI (n := 0) (by omega) (by decide)) dX7_fault_27 (fun hp_7 H locs hW eh_8 => ?_)
  have hM := mr_ar hM 10 (by decide) eh_8
  refine lv_aload_n X.1 X.2.1 dX7_fault_28 rfl (lv_at hl 0 rfl) ?_
  refine lv_bipush (v := 58) X.1 X.2.1 dX7_fault_29 (by decide) ?_
  refine lv_bipush (v := 58) X.1 X.2.1 dX7_fault_31 (by decide) ?_
  refine on_Wi (k' := 0) (n' := 0) (run_V (C := RX7) (As := [.int 58, .int 58]) (rest := []) X (c_X7_takeOne l G A hp_7 _ (fun q h => hA q (Nat.le_trans hW.2.2.1 h)) hW.2.1 M (va_up (va_up (va_up (va_up sc 5 0) 6 0) 6 (bI (tkW (txN pn pt) false 48 55 0))) 5 (nI (tkS (txN pn pt) false 48 55 0))) (va_up (va_up ar 10 g) 10 (upd g (0 : Int32).toNatClampNeg (nI (tkV (txN pn pt) false 48 55 0)))) sm hM pn pt hP (tkS (txN pn pt) false 48 55 0) (by first | rfl | exact hs5) (by omega) (tkW (txN pn pt) false 48 55 0) (by first | rfl | exact hs6) 58 58 (by omega) (by omega)) (wp_blind _) (wp_at X hW.1 hW.2.2) (recv X hW.1 hM.1 (C := RX7) (T := TX7) (N := 19) rfl) mf_X7_takeOne tw_1116 tw_1118 tw_49 ⟨rfl, rfl, Nat.le_of_ble_eq_true rfl, Nat.le_of_ble_eq_true rfl⟩ hl.1 rfl rfl (Nat.le_of_ble_eq_true rfl) ⟨Nat.le_of_ble_eq_true rfl, Nat.le_of_ble_eq_true rfl⟩ dX7_fault_33) hW (by omega) (by omega) (fun r_33 hp_9 H locs q_33 hW => ?_)
  obtain ⟨rfl, hM⟩ := q_33
  have := tkS_le (txN pn pt) (tkW (txN pn pt) false 48 55 0) 58 58 (tkS (txN pn pt) false 48 55 0)
  have := tkS_ge (txN pn pt) (tkW (txN pn pt) false 48 55 0) 58 58 (tkS (txN pn pt) false 48 55 0)
  refine lv_istore_n (lv' := [(1, .int (nI (tkV (txN pn pt) (tkW (txN pn pt) false 48 55 0) 58 58 (tkS (txN pn pt) false 48 55 0)))), (0, .ref (M 0))]) X.1 X.2.1 dX7_fault_36 rfl hl (by decide) rfl (fun ls hl => ?_)
  refine lv_aload_n X.1 X.2.1 dX7_fault_37 rfl (lv_at hl 1 rfl) ?_
  refine on_Wv (k' := 0) (n' := 0) (run_V (C := RX7) (As := []) (rest := []) X (c_X7_takeCall l G A hp_9 _ (fun q h => hA q (Nat.le_trans hW.2.2.1 h)) hW.2.1 M (va_up (va_up (va_up (va_up (va_up (va_up sc 5 0) 6 0) 6 (bI (tkW (txN pn pt) false 48 55 0))) 5 (nI (tkS (txN pn pt) false 48 55 0))) 6 (bI (tkW (txN pn pt) (tkW (txN pn pt) false 48 55 0) 58 58 (tkS (txN pn pt) false 48 55 0)))) 5 (nI (tkS (txN pn pt) (tkW (txN pn pt) false 48 55 0) 58 58 (tkS (txN pn pt) false 48 55 0)))) (va_up (va_up ar 10 g) 10 (upd g (0 : Int32).toNatClampNeg (nI (tkV (txN pn pt) false 48 55 0)))) sm hM pn pt hP (tkS (txN pn pt) (tkW (txN pn pt) false 48 55 0) 58 58 (tkS (txN pn pt) false 48 55 0)) (by first | rfl | exact hs5) (by omega) (tkW (txN pn pt) (tkW (txN pn pt) false 48 55 0) 58 58 (tkS (txN pn pt) false 48 55 0)) (by first | rfl | exact hs6)) (wp_blind _) (wp_at X hW.1 hW.2.2) (recv X hW.1 hM.1 (C := RX7) (T := TX7) (N := 19) rfl) mf_X7_takeCall tw_1124 tw_1126 tw_51 ⟨rfl, rfl, Nat.le_of_ble_eq_true rfl, Nat.le_of_ble_eq_true rfl⟩ hl.1 rfl rfl (Nat.le_of_ble_eq_true rfl) ⟨Nat.le_of_ble_eq_true rfl, Nat.le_of_ble_eq_true rfl⟩ dX7_fault_38) hW (by omega) (by omega) (fun hp_10 H locs q_38 hW => ?_)
  obtain ⟨fc6, hM, hfc6n, hfc6v⟩ := q_38
  have := caS_le (txN pn pt) (tkW (txN pn pt) (tkW (txN pn pt) false 48 55 0) 58 58 (tkS (txN pn pt) false 48 55 0)) (tkS (txN pn pt) (tkW (txN pn pt) false 48 55 0) 58 58 (tkS (txN pn pt) false 48 55 0))
  refine lv_aload_n X.1 X.2.1 dX7_fault_41 rfl (lv_at hl 1 rfl) ?_
  refine lv_bipush (v := 62) X.1 X.2.1 dX7_fault_42 (by decide) ?_
  refine lv_bipush (v := 62) X.1 X.2.1 dX7_fault_44 (by decide) ?_
  refine on_Wi (k' := 0) (n' := 0) (run_V (C := RX7) (As := [.int 62, .int 62]) (rest := []) X (c_X7_takeOne l G A hp_10 _ (fun q h => hA q (Nat.le_trans hW.2.2.1 h)) hW.2.1 M (va_up (va_up (va_up (va_up (va_up (va_up (va_up (va_up sc 5 0) 6 0) 6 (bI (tkW (txN pn pt) false 48 55 0))) 5 (nI (tkS (txN pn pt) false 48 55 0))) 6 (bI (tkW (txN pn pt) (tkW (txN pn pt) false 48 55 0) 58 58 (tkS (txN pn pt) false 48 55 0)))) 5 (nI (tkS (txN pn pt) (tkW (txN pn pt) false 48 55 0) 58 58 (tkS (txN pn pt) false 48 55 0)))) 6 (bI (caW (txN pn pt) (tkW (txN pn pt) (tkW (txN pn pt) false 48 55 0) 58 58 (tkS (txN pn pt) false 48 55 0)) (tkS (txN pn pt) (tkW (txN pn pt) false 48 55 0) 58 58 (tkS (txN pn pt) false 48 55 0))))) 5 (nI (caS (txN pn pt) (tkW (txN pn pt) (tkW (txN pn pt) false 48 55 0) 58 58 (tkS (txN pn pt) false 48 55 0)) (tkS (txN pn pt) (tkW (txN pn pt) false 48 55 0) 58 58 (tkS (txN pn pt) false 48 55 0))))) (va_up (va_up (va_up ar 10 g) 10 (upd g (0 : Int32).toNatClampNeg (nI (tkV (txN pn pt) false 48 55 0)))) 10 fc6) sm hM pn pt hP (caS (txN pn pt) (tkW (txN pn pt) (tkW (txN pn pt) false 48 55 0) 58 58 (tkS (txN pn pt) false 48 55 0)) (tkS (txN pn pt) (tkW (txN pn pt) false 48 55 0) 58 58 (tkS (txN pn pt) false 48 55 0))) (by first | rfl | exact hs5) (by omega) (caW (txN pn pt) (tkW (txN pn pt) (tkW (txN pn pt) false 48 55 0) 58 58 (tkS (txN pn pt) false 48 55 0)) (tkS (txN pn pt) (tkW (txN pn pt) false 48 55 0) 58 58 (tkS (txN pn pt) false 48 55 0))) (by first | rfl | exact hs6) 62 62 (by omega) (by omega)) (wp_blind _) (wp_at X hW.1 hW.2.2) (recv X hW.1 hM.1 (C := RX7) (T := TX7) (N := 19) rfl) mf_X7_takeOne tw_1116 tw_1118 tw_49 ⟨rfl, rfl, Nat.le_of_ble_eq_true rfl, Nat.le_of_ble_eq_true rfl⟩ hl.1 rfl rfl (Nat.le_of_ble_eq_true rfl) ⟨Nat.le_of_ble_eq_true rfl, Nat.le_of_ble_eq_true rfl⟩ dX7_fault_46) hW (by omega) (by omega) (fun r_46 hp_11 H locs q_46 hW => ?_)
  obtain ⟨rfl, hM⟩ := q_46
  have := tkS_le (txN pn pt) (caW (txN pn pt) (tkW (txN pn pt) (tkW (txN pn pt) false 48 55 0) 58 58 (tkS (txN pn pt) false 48 55 0)) (tkS (txN pn pt) (tkW (txN pn pt) false 48 55 0) 58 58 (tkS (txN pn pt) false 48 55 0))) 62 62 (caS (txN pn pt) (tkW (txN pn pt) (tkW (txN pn pt) false 48 55 0) 58 58 (tkS (txN pn pt) false 48 55 0)) (tkS (txN pn pt) (tkW (txN pn pt) false 48 55 0) 58 58 (tkS (txN pn pt) false 48 55 0)))
  have := tkS_ge (txN pn pt) (caW (txN pn pt) (tkW (txN pn pt) (tkW (txN pn pt) false 48 55 0) 58 58 (tkS (txN pn pt) false 48 55 0)) (tkS (txN pn pt) (tkW (txN pn pt) false 48 55 0) 58 58 (tkS (txN pn pt) false 48 55 0))) 62 62 (caS (txN pn pt) (tkW (txN pn pt) (tkW (txN pn pt) false 48 55 0) 58 58 (tkS (txN pn pt) false 48 55 0)) (tkS (txN pn pt) (tkW (txN pn pt) false 48 55 0) 58 58 (tkS (txN pn pt) false 48 55 0)))
  refine lv_istore_n (lv' := [(1, .int (nI (tkV (txN pn pt) (caW (txN pn pt) (tkW (txN pn pt) (tkW (txN pn pt) false 48 55 0) 58 58 (tkS (txN pn pt) false 48 55 0)) (tkS (txN pn pt) (tkW (txN pn pt) false 48 55 0) 58 58 (tkS (txN pn pt) false 48 55 0))) 62 62 (caS (txN pn pt) (tkW (txN pn pt) (tkW (txN pn pt) false 48 55 0) 58 58 (tkS (txN pn pt) false 48 55 0)) (tkS (txN pn pt) (tkW (txN pn pt) false 48 55 0) 58 58 (tkS (txN pn pt) false 48 55 0)))))), (0, .ref (M 0))]) X.1 X.2.1 dX7_fault_49 rfl hl (by decide) rfl (fun ls hl => ?_)
  refine lv_aload_n X.1 X.2.1 dX7_fault_50 rfl (lv_at hl 1 rfl) ?_
  refine r_get X hW.1 hM.1 (v := .ref (M 11)) (C := RX7) (T := TX7) (N := 19) rfl tin_X7 14 (by decide) tw_857 (fun _ h => h) rfl dX7_fault_51 ?_
  refine lv_iconst (v := 2) X.1 X.2.1 dX7_fault_54 (by decide) ?_
  refine lv_aload_n X.1 X.2.1 dX7_fault_55 rfl (lv_at hl 1 rfl) ?_
  refine lv_bipush (v := 48) X.1 X.2.1 dX7_fault_56 (by decide) ?_
  refine lv_bipush (v := 55) X.1 X.2.1 dX7_fault_58 (by decide) ?_
  refine on_Wi (k' := 0) (n' := 0) (run_V (C := RX7) (As := [.int 48, .int 55]) (rest := [.int 2, .ref (M 11)]) X (c_X7_takeOne l G A hp_11 _ (fun q h => hA q (Nat.le_trans hW.2.2.1 h)) hW.2.1 M (va_up (va_up (va_up (va_up (va_up (va_up (va_up (va_up (va_up (va_up sc 5 0) 6 0) 6 (bI (tkW (txN pn pt) false 48 55 0))) 5 (nI (tkS (txN pn pt) false 48 55 0))) 6 (bI (tkW (txN pn pt) (tkW (txN pn pt) false 48 55 0) 58 58 (tkS (txN pn pt) false 48 55 0)))) 5 (nI (tkS (txN pn pt) (tkW (txN pn pt) false 48 55 0) 58 58 (tkS (txN pn pt) false 48 55 0)))) 6 (bI (caW (txN pn pt) (tkW (txN pn pt) (tkW (txN pn pt) false 48 55 0) 58 58 (tkS (txN pn pt) false 48 55 0)) (tkS (txN pn pt) (tkW (txN pn pt) false 48 55 0) 58 58 (tkS (txN pn pt) false 48 55 0))))) 5 (nI (caS (txN pn pt) (tkW (txN pn pt) (tkW (txN pn pt) false 48 55 0) 58 58 (tkS (txN pn pt) false 48 55 0)) (tkS (txN pn pt) (tkW (txN pn pt) false 48 55 0) 58 58 (tkS (txN pn pt) false 48 55 0))))) 6 (bI (tkW (txN pn pt) (caW (txN pn pt) (tkW (txN pn pt) (tkW (txN pn pt) false 48 55 0) 58 58 (tkS (txN pn pt) false 48 55 0)) (tkS (txN pn pt) (tkW (txN pn pt) false 48 55 0) 58 58 (tkS (txN pn pt) false 48 55 0))) 62 62 (caS (txN pn pt) (tkW (txN pn pt) (tkW (txN pn pt) false 48 55 0) 58 58 (tkS (txN pn pt) false 48 55 0)) (tkS (txN pn pt) (tkW (txN pn pt) false 48 55 0) 58 58 (tkS (txN pn pt) false 48 55 0)))))) 5 (nI (tkS (txN pn pt) (caW (txN pn pt) (tkW (txN pn pt) (tkW (txN pn pt) false 48 55 0) 58 58 (tkS (txN pn pt) false 48 55 0)) (tkS (txN pn pt) (tkW (txN pn pt) false 48 55 0) 58 58 (tkS (txN pn pt) false 48 55 0))) 62 62 (caS (txN pn pt) (tkW (txN pn pt) (tkW (txN pn pt) false 48 55 0) 58 58 (tkS (txN pn pt) false 48 55 0)) (tkS (txN pn pt) (tkW (txN pn pt) false 48 55 0) 58 58 (tkS (txN pn pt) false 48 55 0)))))) (va_up (va_up (va_up ar 10 g) 10 (upd g (0 : Int32).toNatClampNeg (nI (tkV (txN pn pt) false 48 55 0)))) 10 fc6) sm hM pn pt hP (tkS (txN pn pt) (caW (txN pn pt) (tkW (txN pn pt) (tkW (txN pn pt) false 48 55 0) 58 58 (tkS (txN pn pt) false 48 55 0)) (tkS (txN pn pt) (tkW (txN pn pt) false 48 55 0) 58 58 (tkS (txN pn pt) false 48 55 0))) 62 62 (caS (txN pn pt) (tkW (txN pn pt) (tkW (txN pn pt) false 48 55 0) 58 58 (tkS (txN pn pt) false 48 55 0)) (tkS (txN pn pt) (tkW (txN pn pt) false 48 55 0) 58 58 (tkS (txN pn pt) false 48 55 0)))) (by first | rfl | exact hs5) (by omega) (tkW (txN pn pt) (caW (txN pn pt) (tkW (txN pn pt) (tkW (txN pn pt) false 48 55 0) 58 58 (tkS (txN pn pt) false 48 55 0)) (tkS (txN pn pt) (tkW (txN pn pt) false 48 55 0) 58 58 (tkS (txN pn pt) false 48 55 0))) 62 62 (caS (txN pn pt) (tkW (txN pn pt) (tkW (txN pn pt) false 48 55 0) 58 58 (tkS (txN pn pt) false 48 55 0)) (tkS (txN pn pt) (tkW (txN pn pt) false 48 55 0) 58 58 (tkS (txN pn pt) false 48 55 0)))) (by first | rfl | exact hs6) 48 55 (by omega) (by omega)) (wp_blind _) (wp_at X hW.1 hW.2.2) (recv X hW.1 hM.1 (C := RX7) (T := TX7) (N := 19) rfl) mf_X7_takeOne tw_1116 tw_1118 tw_49 ⟨rfl, rfl, Nat.le_of_ble_eq_true rfl, Nat.le_of_ble_eq_true rfl⟩ hl.1 rfl rfl (Nat.le_of_ble_eq_true rfl) ⟨Nat.le_of_ble_eq_true rfl, Nat.le_of_ble_eq_true rfl⟩ dX7_fault_60) hW (by omega) (by omega) (fun r_60 hp_12 H locs q_60 hW => ?_)
  obtain ⟨rfl, hM⟩ := q_60
  have := tkS_le (txN pn pt) (tkW (txN pn pt) (caW (txN pn pt) (tkW (txN pn pt) (tkW (txN pn pt) false 48 55 0) 58 58 (tkS (txN pn pt) false 48 55 0)) (tkS (txN pn pt) (tkW (txN pn pt) false 48 55 0) 58 58 (tkS (txN pn pt) false 48 55 0))) 62 62 (caS (txN pn pt) (tkW (txN pn pt) (tkW (txN pn pt) false 48 55 0) 58 58 (tkS (txN pn pt) false 48 55 0)) (tkS (txN pn pt) (tkW (txN pn pt) false 48 55 0) 58 58 (tkS (txN pn pt) false 48 55 0)))) 48 55 (tkS (txN pn pt) (caW (txN pn pt) (tkW (txN pn pt) (tkW (txN pn pt) false 48 55 0) 58 58 (tkS (txN pn pt) false 48 55 0)) (tkS (txN pn pt) (tkW (txN pn pt) false 48 55 0) 58 58 (tkS (txN pn pt) false 48 55 0))) 62 62 (caS (txN pn pt) (tkW (txN pn pt) (tkW (txN pn pt) false 48 55 0) 58 58 (tkS (txN pn pt) false 48 55 0)) (tkS (txN pn pt) (tkW (txN pn pt) false 48 55 0) 58 58 (tkS (txN pn pt) false 48 55 0))))
  have := tkS_ge (txN pn pt) (tkW (txN pn pt) (caW (txN pn pt) (tkW (txN pn pt) (tkW (txN pn pt) false 48 55 0) 58 58 (tkS (txN pn pt) false 48 55 0)) (tkS (txN pn pt) (tkW (txN pn pt) false 48 55 0) 58 58 (tkS (txN pn pt) false 48 55 0))) 62 62 (caS (txN pn pt) (tkW (txN pn pt) (tkW (txN pn pt) false 48 55 0) 58 58 (tkS (txN pn pt) false 48 55 0)) (tkS (txN pn pt) (tkW (txN pn pt) false 48 55 0) 58 58 (tkS (txN pn pt) false 48 55 0)))) 48 55 (tkS (txN pn pt) (caW (txN pn pt) (tkW (txN pn pt) (tkW (txN pn pt) false 48 55 0) 58 58 (tkS (txN pn pt) false 48 55 0)) (tkS (txN pn pt) (tkW (txN pn pt) false 48 55 0) 58 58 (tkS (txN pn pt) false 48 55 0))) 62 62 (caS (txN pn pt) (tkW (txN pn pt) (tkW (txN pn pt) false 48 55 0) 58 58 (tkS (txN pn pt) false 48 55 0)) (tkS (txN pn pt) (tkW (txN pn pt) false 48 55 0) 58 58 (tkS (txN pn pt) false 48 55 0))))
  refine r_iast X hW (hM.2.1 10 (by decide)) (show vp_in (2) 14 from vp_in_nI (n := 2) (by omega) (by decide)) dX7_fault_63 (fun hp_13 H locs hW eh_14 => ?_)
  have hM := mr_ar hM 10 (by decide) eh_14
  refine lv_aload_n X.1 X.2.1 dX7_fault_64 rfl (lv_at hl 1 rfl) ?_
  refine r_get X hW.1 hM.1 (v := .ref (M 11)) (C := RX7) (T := TX7) (N := 19) rfl tin_X7 14 (by decide) tw_857 (fun _ h => h) rfl dX7_fault_65 ?_
  refine lv_iconst (v := 3) X.1 X.2.1 dX7_fault_68 (by decide) ?_
  refine lv_aload_n X.1 X.2.1 dX7_fault_69 rfl (lv_at hl 1 rfl) ?_
  refine r_get X hW.1 hM.1 (v := .int (bI (tkW (txN pn pt) (tkW (txN pn pt) (caW (txN pn pt) (tkW (txN pn pt) (tkW (txN pn pt) false 48 55 0) 58 58 (tkS (txN pn pt) false 48 55 0)) (tkS (txN pn pt) (tkW (txN pn pt) false 48 55 0) 58 58 (tkS (txN pn pt) false 48 55 0))) 62 62 (caS (txN pn pt) (tkW (txN pn pt) (tkW (txN pn pt) false 48 55 0) 58 58 (tkS (txN pn pt) false 48 55 0)) (tkS (txN pn pt) (tkW (txN pn pt) false 48 55 0) 58 58 (tkS (txN pn pt) false 48 55 0)))) 48 55 (tkS (txN pn pt) (caW (txN pn pt) (tkW (txN pn pt) (tkW (txN pn pt) false 48 55 0) 58 58 (tkS (txN pn pt) false 48 55 0)) (tkS (txN pn pt) (tkW (txN pn pt) false 48 55 0) 58 58 (tkS (txN pn pt) false 48 55 0))) 62 62 (caS (txN pn pt) (tkW (txN pn pt) (tkW (txN pn pt) false 48 55 0) 58 58 (tkS (txN pn pt) false 48 55 0)) (tkS (txN pn pt) (tkW (txN pn pt) false 48 55 0) 58 58 (tkS (txN pn pt) false 48 55 0))))))) (C := RX7) (T := TX7) (N := 19) rfl tin_X7 18 (by decide) tw_861 (fun _ h => h) rfl dX7_fault_70 ?_
  refine lv_if_ne (tgt := 89) X.1 X.2.1 dX7_fault_73 (by decide) (fun c_73 => ?_) (fun c_73 => ?_)
  · refine lv_iconst (v := 0) X.1 X.2.1 dX7_fault_89 (by decide) ?_
    refine r_iast X hW (hM.2.1 10 (by decide)) (show vp_in (3) 14 from vp_in_nI (n := 3) (by omega) (by decide)) dX7_fault_90 (fun hp_15 H locs hW eh_16 => ?_)
    have hM := mr_ar hM 10 (by decide) eh_16
    refine lv_aload_n X.1 X.2.1 dX7_fault_91 rfl (lv_at hl 1 rfl) ?_
    refine lv_dup X.1 X.2.1 dX7_fault_92 rfl ?_
    refine r_get X hW.1 hM.1 (v := .int (nI (tkS (txN pn pt) (tkW (txN pn pt) (caW (txN pn pt) (tkW (txN pn pt) (tkW (txN pn pt) false 48 55 0) 58 58 (tkS (txN pn pt) false 48 55 0)) (tkS (txN pn pt) (tkW (txN pn pt) false 48 55 0) 58 58 (tkS (txN pn pt) false 48 55 0))) 62 62 (caS (txN pn pt) (tkW (txN pn pt) (tkW (txN pn pt) false 48 55 0) 58 58 (tkS (txN pn pt) false 48 55 0)) (tkS (txN pn pt) (tkW (txN pn pt) false 48 55 0) 58 58 (tkS (txN pn pt) false 48 55 0)))) 48 55 (tkS (txN pn pt) (caW (txN pn pt) (tkW (txN pn pt) (tkW (txN pn pt) false 48 55 0) 58 58 (tkS (txN pn pt) false 48 55 0)) (tkS (txN pn pt) (tkW (txN pn pt) false 48 55 0) 58 58 (tkS (txN pn pt) false 48 55 0))) 62 62 (caS (txN pn pt) (tkW (txN pn pt) (tkW (txN pn pt) false 48 55 0) 58 58 (tkS (txN pn pt) false 48 55 0)) (tkS (txN pn pt) (tkW (txN pn pt) false 48 55 0) 58 58 (tkS (txN pn pt) false 48 55 0))))))) (C := RX7) (T := TX7) (N := 19) rfl tin_X7 17 (by decide) tw_860 (fun _ h => h) rfl dX7_fault_93 ?_
    refine lv_aload_n X.1 X.2.1 dX7_fault_96 rfl (lv_at hl 1 rfl) ?_
    refine r_get X hW.1 hM.1 (v := .ref (M 11)) (C := RX7) (T := TX7) (N := 19) rfl tin_X7 14 (by decide) tw_857 (fun _ h => h) rfl dX7_fault_97 ?_
    refine lv_iconst (v := 3) X.1 X.2.1 dX7_fault_100 (by decide) ?_
    refine r_iald X hW.1 (hM.2.1 10 (by decide)) (show vp_in (3) 14 from vp_in_nI (n := 3) (by omega) (by decide)) dX7_fault_101 ?_
    refine r_eqi (show (((upd (upd fc6 (2 : Int32).toNatClampNeg (nI (tkV (txN pn pt) (tkW (txN pn pt) (caW (txN pn pt) (tkW (txN pn pt) (tkW (txN pn pt) false 48 55 0) 58 58 (tkS (txN pn pt) false 48 55 0)) (tkS (txN pn pt) (tkW (txN pn pt) false 48 55 0) 58 58 (tkS (txN pn pt) false 48 55 0))) 62 62 (caS (txN pn pt) (tkW (txN pn pt) (tkW (txN pn pt) false 48 55 0) 58 58 (tkS (txN pn pt) false 48 55 0)) (tkS (txN pn pt) (tkW (txN pn pt) false 48 55 0) 58 58 (tkS (txN pn pt) false 48 55 0)))) 48 55 (tkS (txN pn pt) (caW (txN pn pt) (tkW (txN pn pt) (tkW (txN pn pt) false 48 55 0) 58 58 (tkS (txN pn pt) false 48 55 0)) (tkS (txN pn pt) (tkW (txN pn pt) false 48 55 0) 58 58 (tkS (txN pn pt) false 48 55 0))) 62 62 (caS (txN pn pt) (tkW (txN pn pt) (tkW (txN pn pt) false 48 55 0) 58 58 (tkS (txN pn pt) false 48 55 0)) (tkS (txN pn pt) (tkW (txN pn pt) false 48 55 0) 58 58 (tkS (txN pn pt) false 48 55 0))))))) (3 : Int32).toNatClampNeg 0) (3 : Int32).toNatClampNeg) : Int32) = 0 from if_pos rfl) ?_
    refine lv_iadd X.1 X.2.1 dX7_fault_102 ?_
    refine r_eqi (show (((nI (tkS (txN pn pt) (tkW (txN pn pt) (caW (txN pn pt) (tkW (txN pn pt) (tkW (txN pn pt) false 48 55 0) 58 58 (tkS (txN pn pt) false 48 55 0)) (tkS (txN pn pt) (tkW (txN pn pt) false 48 55 0) 58 58 (tkS (txN pn pt) false 48 55 0))) 62 62 (caS (txN pn pt) (tkW (txN pn pt) (tkW (txN pn pt) false 48 55 0) 58 58 (tkS (txN pn pt) false 48 55 0)) (tkS (txN pn pt) (tkW (txN pn pt) false 48 55 0) 58 58 (tkS (txN pn pt) false 48 55 0)))) 48 55 (tkS (txN pn pt) (caW (txN pn pt) (tkW (txN pn pt) (tkW (txN pn pt) false 48 55 0) 58 58 (tkS (txN pn pt) false 48 55 0)) (tkS (txN pn pt) (tkW (txN pn pt) false 48 55 0) 58 58 (tkS (txN pn pt) false 48 55 0))) 62 62 (caS (txN pn pt) (tkW (txN pn pt) (tkW (txN pn pt) false 48 55 0) 58 58 (tkS (txN pn pt) false 48 55 0)) (tkS (txN pn pt) (tkW (txN pn pt) false 48 55 0) 58 58 (tkS (txN pn pt) false 48 55 0)))))) + 0) : Int32) = nI (tkS (txN pn pt) (tkW (txN pn pt) (caW (txN pn pt) (tkW (txN pn pt) (tkW (txN pn pt) false 48 55 0) 58 58 (tkS (txN pn pt) false 48 55 0)) (tkS (txN pn pt) (tkW (txN pn pt) false 48 55 0) 58 58 (tkS (txN pn pt) false 48 55 0))) 62 62 (caS (txN pn pt) (tkW (txN pn pt) (tkW (txN pn pt) false 48 55 0) 58 58 (tkS (txN pn pt) false 48 55 0)) (tkS (txN pn pt) (tkW (txN pn pt) false 48 55 0) 58 58 (tkS (txN pn pt) false 48 55 0)))) 48 55 (tkS (txN pn pt) (caW (txN pn pt) (tkW (txN pn pt) (tkW (txN pn pt) false 48 55 0) 58 58 (tkS (txN pn pt) false 48 55 0)) (tkS (txN pn pt) (tkW (txN pn pt) false 48 55 0) 58 58 (tkS (txN pn pt) false 48 55 0))) 62 62 (caS (txN pn pt) (tkW (txN pn pt) (tkW (txN pn pt) false 48 55 0) 58 58 (tkS (txN pn pt) false 48 55 0)) (tkS (txN pn pt) (tkW (txN pn pt) false 48 55 0) 58 58 (tkS (txN pn pt) false 48 55 0))))) from nI_add (tkS (txN pn pt) (tkW (txN pn pt) (caW (txN pn pt) (tkW (txN pn pt) (tkW (txN pn pt) false 48 55 0) 58 58 (tkS (txN pn pt) false 48 55 0)) (tkS (txN pn pt) (tkW (txN pn pt) false 48 55 0) 58 58 (tkS (txN pn pt) false 48 55 0))) 62 62 (caS (txN pn pt) (tkW (txN pn pt) (tkW (txN pn pt) false 48 55 0) 58 58 (tkS (txN pn pt) false 48 55 0)) (tkS (txN pn pt) (tkW (txN pn pt) false 48 55 0) 58 58 (tkS (txN pn pt) false 48 55 0)))) 48 55 (tkS (txN pn pt) (caW (txN pn pt) (tkW (txN pn pt) (tkW (txN pn pt) false 48 55 0) 58 58 (tkS (txN pn pt) false 48 55 0)) (tkS (txN pn pt) (tkW (txN pn pt) false 48 55 0) 58 58 (tkS (txN pn pt) false 48 55 0))) 62 62 (caS (txN pn pt) (tkW (txN pn pt) (tkW (txN pn pt) false 48 55 0) 58 58 (tkS (txN pn pt) false 48 55 0)) (tkS (txN pn pt) (tkW (txN pn pt) false 48 55 0) 58 58 (tkS (txN pn pt) false 48 55 0))))) 0) ?_
    refine r_put X hW hM.1 (v := .int (nI (tkS (txN pn pt) (tkW (txN pn pt) (caW (txN pn pt) (tkW (txN pn pt) (tkW (txN pn pt) false 48 55 0) 58 58 (tkS (txN pn pt) false 48 55 0)) (tkS (txN pn pt) (tkW (txN pn pt) false 48 55 0) 58 58 (tkS (txN pn pt) false 48 55 0))) 62 62 (caS (txN pn pt) (tkW (txN pn pt) (tkW (txN pn pt) false 48 55 0) 58 58 (tkS (txN pn pt) false 48 55 0)) (tkS (txN pn pt) (tkW (txN pn pt) false 48 55 0) 58 58 (tkS (txN pn pt) false 48 55 0)))) 48 55 (tkS (txN pn pt) (caW (txN pn pt) (tkW (txN pn pt) (tkW (txN pn pt) false 48 55 0) 58 58 (tkS (txN pn pt) false 48 55 0)) (tkS (txN pn pt) (tkW (txN pn pt) false 48 55 0) 58 58 (tkS (txN pn pt) false 48 55 0))) 62 62 (caS (txN pn pt) (tkW (txN pn pt) (tkW (txN pn pt) false 48 55 0) 58 58 (tkS (txN pn pt) false 48 55 0)) (tkS (txN pn pt) (tkW (txN pn pt) false 48 55 0) 58 58 (tkS (txN pn pt) false 48 55 0))))))) (C := RX7) (T := TX7) (N := 19) rfl tin_X7 tyX7_ok nmX7 17 (Nat.le_of_ble_eq_true rfl) tw_860 (fun _ h => h) rfl rfl rfl (Nat.le_of_ble_eq_true rfl) dX7_fault_103 (fun hp_17 H locs hW eh_18 => ?_)
    have hM := mr_sc5 hM eh_18
    refine lv_iload_n X.1 X.2.1 dX7_fault_106 rfl (lv_at hl 0 rfl) ?_
    refine r_eqi (show ((nI (tkV (txN pn pt) (caW (txN pn pt) (tkW (txN pn pt) (tkW (txN pn pt) false 48 55 0) 58 58 (tkS (txN pn pt) false 48 55 0)) (tkS (txN pn pt) (tkW (txN pn pt) false 48 55 0) 58 58 (tkS (txN pn pt) false 48 55 0))) 62 62 (caS (txN pn pt) (tkW (txN pn pt) (tkW (txN pn pt) false 48 55 0) 58 58 (tkS (txN pn pt) false 48 55 0)) (tkS (txN pn pt) (tkW (txN pn pt) false 48 55 0) 58 58 (tkS (txN pn pt) false 48 55 0))))) : Int32) = 0 from congrArg nI (Nat.le_zero.mp tkV_le)) ?_
    refine lv_istore_n (lv' := [(2, .int 0), (1, .int (nI (tkV (txN pn pt) (caW (txN pn pt) (tkW (txN pn pt) (tkW (txN pn pt) false 48 55 0) 58 58 (tkS (txN pn pt) false 48 55 0)) (tkS (txN pn pt) (tkW (txN pn pt) false 48 55 0) 58 58 (tkS (txN pn pt) false 48 55 0))) 62 62 (caS (txN pn pt) (tkW (txN pn pt) (tkW (txN pn pt) false 48 55 0) 58 58 (tkS (txN pn pt) false 48 55 0)) (tkS (txN pn pt) (tkW (txN pn pt) false 48 55 0) 58 58 (tkS (txN pn pt) false 48 55 0)))))), (0, .ref (M 0))]) X.1 X.2.1 dX7_fault_107 rfl hl (by decide) rfl (fun ls hl => ?_)
    have hs5b : h5S (txN pn pt) ≤ 20 := by
      have b1 := tkS_le (txN pn pt) false 48 55 0
      have b2 := tkS_le (txN pn pt) (h1W (txN pn pt)) 58 58 (h1S (txN pn pt))
      have b3 := caS_le (txN pn pt) (h2W (txN pn pt)) (h2S (txN pn pt))
      have b4 := tkS_le (txN pn pt) (h3W (txN pn pt)) 62 62 (h3S (txN pn pt))
      have b5 := tkS_le (txN pn pt) (h4W (txN pn pt)) 48 55 (h4S (txN pn pt))
      show tkS (txN pn pt) (h4W (txN pn pt)) 48 55 (h4S (txN pn pt)) ≤ 20
      have e4 : h4S (txN pn pt) = tkS (txN pn pt) (h3W (txN pn pt)) 62 62 (h3S (txN pn pt)) := rfl
      have e3 : h3S (txN pn pt) = caS (txN pn pt) (h2W (txN pn pt)) (h2S (txN pn pt)) := rfl
      have e2 : h2S (txN pn pt) = tkS (txN pn pt) (h1W (txN pn pt)) 58 58 (h1S (txN pn pt)) := rfl
      have e1 : h1S (txN pn pt) = tkS (txN pn pt) false 48 55 0 := rfl
      omega
    have hfo : hFo (txN pn pt) = 0 := if_neg (fun z => c_73 (congrArg bI z.1))
    have hrow : h5W (txN pn pt) = false → ∀ j, j < 14 → (upd (upd fc6 (2 : Int32).toNatClampNeg (nI (tkV (txN pn pt) (tkW (txN pn pt) (caW (txN pn pt) (tkW (txN pn pt) (tkW (txN pn pt) false 48 55 0) 58 58 (tkS (txN pn pt) false 48 55 0)) (tkS (txN pn pt) (tkW (txN pn pt) false 48 55 0) 58 58 (tkS (txN pn pt) false 48 55 0))) 62 62 (caS (txN pn pt) (tkW (txN pn pt) (tkW (txN pn pt) false 48 55 0) 58 58 (tkS (txN pn pt) false 48 55 0)) (tkS (txN pn pt) (tkW (txN pn pt) false 48 55 0) 58 58 (tkS (txN pn pt) false 48 55 0)))) 48 55 (tkS (txN pn pt) (caW (txN pn pt) (tkW (txN pn pt) (tkW (txN pn pt) false 48 55 0) 58 58 (tkS (txN pn pt) false 48 55 0)) (tkS (txN pn pt) (tkW (txN pn pt) false 48 55 0) 58 58 (tkS (txN pn pt) false 48 55 0))) 62 62 (caS (txN pn pt) (tkW (txN pn pt) (tkW (txN pn pt) false 48 55 0) 58 58 (tkS (txN pn pt) false 48 55 0)) (tkS (txN pn pt) (tkW (txN pn pt) false 48 55 0) 58 58 (tkS (txN pn pt) false 48 55 0))))))) (3 : Int32).toNatClampNeg 0) j = nI (hQ (txN pn pt) j) ∧ hQ (txN pn pt) j ≤ 25 := fun z => absurd (congrArg bI z) c_73
    have L108 : ∀ (f : Nat) (w9 : Bool) (s9 : Nat) (h9 : Nat) (q9 : Nat → Nat) (hpL : HP) (H : Heap) (locs : List Loc) (g9 : Nat → Int32), MR G hpL M (va_up (va_up sc 6 (bI w9)) 5 (nI s9)) (va_up ar 10 g9) sm → WS s G A hpL H locs → (pn ≤ s9 + f) → (s9 + 7 * f ≤ 1000) → (h9 < 32) → (w9 = false → ∀ j, j < 14 → g9 j = nI (q9 j) ∧ q9 j ≤ 25) → (lpF (txN pn pt) f w9 s9 h9 q9 = rdF (txN pn pt)) → ∀ ls, lv_has ls 3 [(0, .ref (M 0)), (2, .int (nI h9))] → W p l e ({ frames := 4, cells := 0, slots := 0, locals := 93 } : Room) s m args below meth c H locs 0 0 (MQ below (va_Qi (fun r hp1 => r = fFault (n, R, hd, k, cs, sk, pn, pt) ∧ ∃ sc1 ar1 sm1, MR G hp1 M sc1 ar1 sm1 ∧ MST (n, R, hd, k, cs, sk, pn, pt) sc1 ar1 ∧ (fFault (n, R, hd, k, cs, sk, pn, pt) = -6 → ∀ j, j < 14 → ar1 10 j = nI ((rdF (txN pn pt)).2.2 j) ∧ (rdF (txN pn pt)).2.2 j ≤ 25)) (WB G A) A) args s 0 0 A) (F0 m 108 ls []) := by
      intro f
      induction f with
      | zero =>
        intro w9 s9 h9 q9 hpL H locs g9 hM hW h0 h1 h2 h3 h4 ls hl
        refine lv_aload_n X.1 X.2.1 dX7_fault_108 rfl (lv_at hl 0 rfl) ?_
        refine r_get X hW.1 hM.1 (v := .int (bI w9)) (C := RX7) (T := TX7) (N := 19) rfl tin_X7 18 (by decide) tw_861 (fun _ h => h) rfl dX7_fault_109 ?_
        refine lv_if_ne (tgt := 143) X.1 X.2.1 dX7_fault_112 (by decide) (fun c_112 => ?_) (fun c_112 => ?_)
        · refine lv_aload_n X.1 X.2.1 dX7_fault_143 rfl (lv_at hl 0 rfl) ?_
          refine r_get X hW.1 hM.1 (v := .int (bI w9)) (C := RX7) (T := TX7) (N := 19) rfl tin_X7 18 (by decide) tw_861 (fun _ h => h) rfl dX7_fault_144 ?_
          refine lv_if_ne (tgt := 161) X.1 X.2.1 dX7_fault_147 (by decide) (fun c_147 => ?_) (fun c_147 => absurd c_147 c_112)
          refine lv_aload_n X.1 X.2.1 dX7_fault_161 rfl (lv_at hl 0 rfl) ?_
          refine r_get X hW.1 hM.1 (v := .int (nI s9)) (C := RX7) (T := TX7) (N := 19) rfl tin_X7 17 (by decide) tw_860 (fun _ h => h) rfl dX7_fault_162 ?_
          refine lv_goto (tgt := 170) X.1 X.2.1 dX7_fault_165 (by decide) ?_
          have hrd : rdF (txN pn pt) = (w9, s9, q9) := by rw [← h4]; exact lp_end (fun z => c_112 (congrArg bI z.1))
          have hff := fa_t (n := n) (R := R) (hd := hd) (k := k) (cs := cs) (sk := sk) hrd (Or.inl (bI_1 c_112))
          exact wr_i X hr hlk hW ⟨hff, _, _, _, hM, ⟨hT, hU, hH2, hau, hP⟩, fun z => absurd (hff.trans z) (nI_m6 (by omega))⟩ (Nat.le_of_ble_eq_true rfl) (Nat.le_of_ble_eq_true rfl) dX7_fault_170
        · have hw9 := bI_0 c_112
          refine lv_aload_n X.1 X.2.1 dX7_fault_115 rfl (lv_at hl 0 rfl) ?_
          refine on_Si (run_V (C := RX7) (As := []) (rest := []) X (c_X7_next l G hpL M (va_up (va_up sc 6 (bI w9)) 5 (nI s9)) (va_up ar 10 g9) sm hM pn pt hP s9 (by first | rfl | exact hs5) (by omega)) (rp_blind _) (rp_at X hW.1 hW.2.2) (recv X hW.1 hM.1 (C := RX7) (T := TX7) (N := 19) rfl) mf_X7_next tw_1120 tw_1122 tw_50 ⟨rfl, rfl, Nat.le_of_ble_eq_true rfl, Nat.le_of_ble_eq_true rfl⟩ hl.1 rfl rfl (Nat.le_of_ble_eq_true rfl) ⟨Nat.le_of_ble_eq_true rfl, Nat.le_of_ble_eq_true rfl⟩ dX7_fault_116) (fun r_116 q_116 => ?_)
          obtain rfl : r_116 = nI (txN pn pt s9) := q_116
          have htx_116 := tx_le hP s9
          refine lv_bipush (v := 44) X.1 X.2.1 dX7_fault_119 (by decide) ?_
          refine lv_icmp_ne (tgt := 143) X.1 X.2.1 dX7_fault_121 (by decide) (fun c_121 => ?_) (fun c_121 => absurd c_121 (by rw [tx_0 (by omega)]; decide))
          refine lv_aload_n X.1 X.2.1 dX7_fault_143 rfl (lv_at hl 0 rfl) ?_
          refine r_get X hW.1 hM.1 (v := .int (bI w9)) (C := RX7) (T := TX7) (N := 19) rfl tin_X7 18 (by decide) tw_861 (fun _ h => h) rfl dX7_fault_144 ?_
          refine lv_if_ne (tgt := 161) X.1 X.2.1 dX7_fault_147 (by decide) (fun c_147 => absurd c_112 c_147) (fun c_147 => ?_)
          refine lv_aload_n X.1 X.2.1 dX7_fault_150 rfl (lv_at hl 0 rfl) ?_
          refine r_get X hW.1 hM.1 (v := .int (nI s9)) (C := RX7) (T := TX7) (N := 19) rfl tin_X7 17 (by decide) tw_860 (fun _ h => h) rfl dX7_fault_151 ?_
          refine lv_aload_n X.1 X.2.1 dX7_fault_154 rfl (lv_at hl 0 rfl) ?_
          refine r_get X hW.1 hM.1 (v := .int (sc 3)) (C := RX7) (T := TX7) (N := 19) rfl tin_X7 13 (by decide) tw_856 (fun _ h => h) rfl dX7_fault_155 ?_
          refine r_eqi (show ((sc 3) : Int32) = nI pn from hP.1) ?_
          refine lv_icmp_ge (tgt := 168) X.1 X.2.1 dX7_fault_158 (by decide) (fun c_158 => ?_) (fun c_158 => ?_)
          · have k_158 := k_le (a := pn) (b := s9) (by omega) (by omega) c_158
            refine lv_bipush (v := (-6)) X.1 X.2.1 dX7_fault_168 (by decide) ?_
            have hrd : rdF (txN pn pt) = (w9, s9, q9) := by rw [← h4]; exact lp_end (fun z => absurd (z.2.symm.trans (tx_0 (by omega))) (by decide))
            obtain rfl : w9 = false := bI_0 c_112
            exact wr_i X hr hlk hW ⟨fa_n hrd (by omega), _, _, _, hM, ⟨hT, hU, hH2, hau, hP⟩, fun _ j hj => by rw [hrd]; exact h3 rfl j hj⟩ (Nat.le_of_ble_eq_true rfl) (Nat.le_of_ble_eq_true rfl) dX7_fault_170
          · have k_158 := k_nle (a := pn) (b := s9) (by omega) (by omega) c_158
            refine lv_aload_n X.1 X.2.1 dX7_fault_161 rfl (lv_at hl 0 rfl) ?_
            refine r_get X hW.1 hM.1 (v := .int (nI s9)) (C := RX7) (T := TX7) (N := 19) rfl tin_X7 17 (by decide) tw_860 (fun _ h => h) rfl dX7_fault_162 ?_
            refine lv_goto (tgt := 170) X.1 X.2.1 dX7_fault_165 (by decide) ?_
            have hrd : rdF (txN pn pt) = (w9, s9, q9) := by rw [← h4]; exact lp_end (fun z => absurd (z.2.symm.trans (tx_0 (by omega))) (by decide))
            have hff := fa_t (n := n) (R := R) (hd := hd) (k := k) (cs := cs) (sk := sk) hrd (Or.inr (by omega))
            exact wr_i X hr hlk hW ⟨hff, _, _, _, hM, ⟨hT, hU, hH2, hau, hP⟩, fun z => absurd (hff.trans z) (nI_m6 (by omega))⟩ (Nat.le_of_ble_eq_true rfl) (Nat.le_of_ble_eq_true rfl) dX7_fault_170
      | succ f ih =>
        intro w9 s9 h9 q9 hpL H locs g9 hM hW h0 h1 h2 h3 h4 ls hl
        refine lv_aload_n X.1 X.2.1 dX7_fault_108 rfl (lv_at hl 0 rfl) ?_
        refine r_get X hW.1 hM.1 (v := .int (bI w9)) (C := RX7) (T := TX7) (N := 19) rfl tin_X7 18 (by decide) tw_861 (fun _ h => h) rfl dX7_fault_109 ?_
        refine lv_if_ne (tgt := 143) X.1 X.2.1 dX7_fault_112 (by decide) (fun c_112 => ?_) (fun c_112 => ?_)
        · refine lv_aload_n X.1 X.2.1 dX7_fault_143 rfl (lv_at hl 0 rfl) ?_
          refine r_get X hW.1 hM.1 (v := .int (bI w9)) (C := RX7) (T := TX7) (N := 19) rfl tin_X7 18 (by decide) tw_861 (fun _ h => h) rfl dX7_fault_144 ?_
          refine lv_if_ne (tgt := 161) X.1 X.2.1 dX7_fault_147 (by decide) (fun c_147 => ?_) (fun c_147 => absurd c_147 c_112)
          refine lv_aload_n X.1 X.2.1 dX7_fault_161 rfl (lv_at hl 0 rfl) ?_
          refine r_get X hW.1 hM.1 (v := .int (nI s9)) (C := RX7) (T := TX7) (N := 19) rfl tin_X7 17 (by decide) tw_860 (fun _ h => h) rfl dX7_fault_162 ?_
          refine lv_goto (tgt := 170) X.1 X.2.1 dX7_fault_165 (by decide) ?_
          have hrd : rdF (txN pn pt) = (w9, s9, q9) := by rw [← h4]; exact lp_end (fun z => c_112 (congrArg bI z.1))
          have hff := fa_t (n := n) (R := R) (hd := hd) (k := k) (cs := cs) (sk := sk) hrd (Or.inl (bI_1 c_112))
          exact wr_i X hr hlk hW ⟨hff, _, _, _, hM, ⟨hT, hU, hH2, hau, hP⟩, fun z => absurd (hff.trans z) (nI_m6 (by omega))⟩ (Nat.le_of_ble_eq_true rfl) (Nat.le_of_ble_eq_true rfl) dX7_fault_170
        · have hw9 := bI_0 c_112
          refine lv_aload_n X.1 X.2.1 dX7_fault_115 rfl (lv_at hl 0 rfl) ?_
          refine on_Si (run_V (C := RX7) (As := []) (rest := []) X (c_X7_next l G hpL M (va_up (va_up sc 6 (bI w9)) 5 (nI s9)) (va_up ar 10 g9) sm hM pn pt hP s9 (by first | rfl | exact hs5) (by omega)) (rp_blind _) (rp_at X hW.1 hW.2.2) (recv X hW.1 hM.1 (C := RX7) (T := TX7) (N := 19) rfl) mf_X7_next tw_1120 tw_1122 tw_50 ⟨rfl, rfl, Nat.le_of_ble_eq_true rfl, Nat.le_of_ble_eq_true rfl⟩ hl.1 rfl rfl (Nat.le_of_ble_eq_true rfl) ⟨Nat.le_of_ble_eq_true rfl, Nat.le_of_ble_eq_true rfl⟩ dX7_fault_116) (fun r_116 q_116 => ?_)
          obtain rfl : r_116 = nI (txN pn pt s9) := q_116
          have htx_116 := tx_le hP s9
          refine lv_bipush (v := 44) X.1 X.2.1 dX7_fault_119 (by decide) ?_
          refine lv_icmp_ne (tgt := 143) X.1 X.2.1 dX7_fault_121 (by decide) (fun c_121 => ?_) (fun c_121 => ?_)
          · have k_121 := k_ne (a := (txN pn pt s9)) (b := 44) (by omega) (by omega) c_121
            refine lv_aload_n X.1 X.2.1 dX7_fault_143 rfl (lv_at hl 0 rfl) ?_
            refine r_get X hW.1 hM.1 (v := .int (bI w9)) (C := RX7) (T := TX7) (N := 19) rfl tin_X7 18 (by decide) tw_861 (fun _ h => h) rfl dX7_fault_144 ?_
            refine lv_if_ne (tgt := 161) X.1 X.2.1 dX7_fault_147 (by decide) (fun c_147 => absurd c_112 c_147) (fun c_147 => ?_)
            refine lv_aload_n X.1 X.2.1 dX7_fault_150 rfl (lv_at hl 0 rfl) ?_
            refine r_get X hW.1 hM.1 (v := .int (nI s9)) (C := RX7) (T := TX7) (N := 19) rfl tin_X7 17 (by decide) tw_860 (fun _ h => h) rfl dX7_fault_151 ?_
            refine lv_aload_n X.1 X.2.1 dX7_fault_154 rfl (lv_at hl 0 rfl) ?_
            refine r_get X hW.1 hM.1 (v := .int (sc 3)) (C := RX7) (T := TX7) (N := 19) rfl tin_X7 13 (by decide) tw_856 (fun _ h => h) rfl dX7_fault_155 ?_
            refine r_eqi (show ((sc 3) : Int32) = nI pn from hP.1) ?_
            refine lv_icmp_ge (tgt := 168) X.1 X.2.1 dX7_fault_158 (by decide) (fun c_158 => ?_) (fun c_158 => ?_)
            · have k_158 := k_le (a := pn) (b := s9) (by omega) (by omega) c_158
              refine lv_bipush (v := (-6)) X.1 X.2.1 dX7_fault_168 (by decide) ?_
              have hrd : rdF (txN pn pt) = (w9, s9, q9) := by rw [← h4]; exact lp_end (fun z => k_121 z.2)
              obtain rfl : w9 = false := bI_0 c_112
              exact wr_i X hr hlk hW ⟨fa_n hrd (by omega), _, _, _, hM, ⟨hT, hU, hH2, hau, hP⟩, fun _ j hj => by rw [hrd]; exact h3 rfl j hj⟩ (Nat.le_of_ble_eq_true rfl) (Nat.le_of_ble_eq_true rfl) dX7_fault_170
            · have k_158 := k_nle (a := pn) (b := s9) (by omega) (by omega) c_158
              refine lv_aload_n X.1 X.2.1 dX7_fault_161 rfl (lv_at hl 0 rfl) ?_
              refine r_get X hW.1 hM.1 (v := .int (nI s9)) (C := RX7) (T := TX7) (N := 19) rfl tin_X7 17 (by decide) tw_860 (fun _ h => h) rfl dX7_fault_162 ?_
              refine lv_goto (tgt := 170) X.1 X.2.1 dX7_fault_165 (by decide) ?_
              have hrd : rdF (txN pn pt) = (w9, s9, q9) := by rw [← h4]; exact lp_end (fun z => k_121 z.2)
              have hff := fa_t (n := n) (R := R) (hd := hd) (k := k) (cs := cs) (sk := sk) hrd (Or.inr (by omega))
              exact wr_i X hr hlk hW ⟨hff, _, _, _, hM, ⟨hT, hU, hH2, hau, hP⟩, fun z => absurd (hff.trans z) (nI_m6 (by omega))⟩ (Nat.le_of_ble_eq_true rfl) (Nat.le_of_ble_eq_true rfl) dX7_fault_170
          · have k_121 := k_eq (a := (txN pn pt s9)) (b := 44) (by omega) (by omega) c_121
            refine lv_aload_n X.1 X.2.1 dX7_fault_124 rfl (lv_at hl 0 rfl) ?_
            refine lv_dup X.1 X.2.1 dX7_fault_125 rfl ?_
            refine r_get X hW.1 hM.1 (v := .int (nI s9)) (C := RX7) (T := TX7) (N := 19) rfl tin_X7 17 (by decide) tw_860 (fun _ h => h) rfl dX7_fault_126 ?_
            refine lv_iconst (v := 1) X.1 X.2.1 dX7_fault_129 (by decide) ?_
            refine lv_iadd X.1 X.2.1 dX7_fault_130 ?_
            refine r_eqi (show (((nI s9) + 1) : Int32) = nI (s9 + 1) from nI_add s9 1) ?_
            refine r_put X hW hM.1 (v := .int (nI (s9 + 1))) (C := RX7) (T := TX7) (N := 19) rfl tin_X7 tyX7_ok nmX7 17 (Nat.le_of_ble_eq_true rfl) tw_860 (fun _ h => h) rfl rfl rfl (Nat.le_of_ble_eq_true rfl) dX7_fault_131 (fun hp_19 H locs hW eh_20 => ?_)
            have hM := mr_sc5 hM eh_20
            refine lv_aload_n X.1 X.2.1 dX7_fault_134 rfl (lv_at hl 0 rfl) ?_
            refine lv_iload_n X.1 X.2.1 dX7_fault_135 rfl (lv_at hl 1 rfl) ?_
            refine on_Wi (k' := 0) (n' := 0) (run_V (C := RX7) (As := [.int (nI h9)]) (rest := []) X (c_X7_takeCondition l G A hp_19 _ (fun q h => hA q (Nat.le_trans hW.2.2.1 h)) hW.2.1 M (va_up (va_up (va_up sc 6 (bI w9)) 5 (nI s9)) 5 (nI (s9 + 1))) (va_up ar 10 g9) sm hM pn pt hP (s9 + 1) rfl (by omega) (congrArg bI hw9) h9 h2) (wp_blind _) (wp_at X hW.1 hW.2.2) (recv X hW.1 hM.1 (C := RX7) (T := TX7) (N := 19) rfl) mf_X7_takeCondition tw_1131 tw_1133 tw_52 ⟨rfl, rfl, Nat.le_of_ble_eq_true rfl, Nat.le_of_ble_eq_true rfl⟩ hl.1 rfl rfl (Nat.le_of_ble_eq_true rfl) ⟨Nat.le_of_ble_eq_true rfl, Nat.le_of_ble_eq_true rfl⟩ dX7_fault_136) hW (by omega) (by omega) (fun r_136 hp_21 H locs q_136 hW => ?_)
            obtain ⟨f1, rfl, hM, hf1⟩ := q_136
            have := cdS_le (txN pn pt) h9 (s9 + 1)
            have hsg := cdS_ge (txN pn pt) h9 (s9 + 1)
            refine lv_istore_n (lv' := [(2, .int (nI (cdB (txN pn pt) h9 (s9 + 1)))), (0, .ref (M 0))]) X.1 X.2.1 dX7_fault_139 rfl hl (by decide) rfl (fun ls hl => ?_)
            refine lv_goto (tgt := 108) X.1 X.2.1 dX7_fault_140 (by decide) ?_
            exact ih (cdW (txN pn pt) h9 (s9 + 1)) (cdS (txN pn pt) h9 (s9 + 1)) (cdB (txN pn pt) h9 (s9 + 1)) (cdQ (txN pn pt) (s9 + 1) q9) _ _ _ f1 (mr_cg hM (fun j => by by_cases h5 : j = 5 <;> by_cases h6 : j = 6 <;> simp [va_up, h5, h6] <;> rfl) (fun j => by by_cases h9 : j = 10 <;> simp [va_up, h9])) hW (by omega) (by omega) (cdB_lt h2) (fun hw => cd_row (h3 hw9) (hf1 hw)) (by rw [← h4]; exact (lp_st hw9 k_121).symm) ls (lv_sub hl [1, 0] rfl)
    exact L108 61 (h5W (txN pn pt)) (h5S (txN pn pt) + hFo (txN pn pt)) 0 (hQ (txN pn pt)) _ _ _ _ (by rw [hfo]; exact (mr_cg hM (fun j => by by_cases h5 : j = 5 <;> by_cases h6 : j = 6 <;> simp [va_up, h5, h6] <;> rfl) (fun j => by by_cases h9 : j = 10 <;> simp [va_up, h9]))) hW (by omega) (by rw [hfo]; have := hs5b; omega) (by decide) hrow rfl ls (lv_sub hl [2, 0] rfl)
  · refine lv_aload_n X.1 X.2.1 dX7_fault_76 rfl (lv_at hl 1 rfl) ?_
    refine on_Si (run_V (C := RX7) (As := []) (rest := [.int 3, .ref (M 11)]) X (c_X7_next l G hp_13 M (va_up (va_up (va_up (va_up (va_up (va_up (va_up (va_up (va_up (va_up (va_up (va_up sc 5 0) 6 0) 6 (bI (tkW (txN pn pt) false 48 55 0))) 5 (nI (tkS (txN pn pt) false 48 55 0))) 6 (bI (tkW (txN pn pt) (tkW (txN pn pt) false 48 55 0) 58 58 (tkS (txN pn pt) false 48 55 0)))) 5 (nI (tkS (txN pn pt) (tkW (txN pn pt) false 48 55 0) 58 58 (tkS (txN pn pt) false 48 55 0)))) 6 (bI (caW (txN pn pt) (tkW (txN pn pt) (tkW (txN pn pt) false 48 55 0) 58 58 (tkS (txN pn pt) false 48 55 0)) (tkS (txN pn pt) (tkW (txN pn pt) false 48 55 0) 58 58 (tkS (txN pn pt) false 48 55 0))))) 5 (nI (caS (txN pn pt) (tkW (txN pn pt) (tkW (txN pn pt) false 48 55 0) 58 58 (tkS (txN pn pt) false 48 55 0)) (tkS (txN pn pt) (tkW (txN pn pt) false 48 55 0) 58 58 (tkS (txN pn pt) false 48 55 0))))) 6 (bI (tkW (txN pn pt) (caW (txN pn pt) (tkW (txN pn pt) (tkW (txN pn pt) false 48 55 0) 58 58 (tkS (txN pn pt) false 48 55 0)) (tkS (txN pn pt) (tkW (txN pn pt) false 48 55 0) 58 58 (tkS (txN pn pt) false 48 55 0))) 62 62 (caS (txN pn pt) (tkW (txN pn pt) (tkW (txN pn pt) false 48 55 0) 58 58 (tkS (txN pn pt) false 48 55 0)) (tkS (txN pn pt) (tkW (txN pn pt) false 48 55 0) 58 58 (tkS (txN pn pt) false 48 55 0)))))) 5 (nI (tkS (txN pn pt) (caW (txN pn pt) (tkW (txN pn pt) (tkW (txN pn pt) false 48 55 0) 58 58 (tkS (txN pn pt) false 48 55 0)) (tkS (txN pn pt) (tkW (txN pn pt) false 48 55 0) 58 58 (tkS (txN pn pt) false 48 55 0))) 62 62 (caS (txN pn pt) (tkW (txN pn pt) (tkW (txN pn pt) false 48 55 0) 58 58 (tkS (txN pn pt) false 48 55 0)) (tkS (txN pn pt) (tkW (txN pn pt) false 48 55 0) 58 58 (tkS (txN pn pt) false 48 55 0)))))) 6 (bI (tkW (txN pn pt) (tkW (txN pn pt) (caW (txN pn pt) (tkW (txN pn pt) (tkW (txN pn pt) false 48 55 0) 58 58 (tkS (txN pn pt) false 48 55 0)) (tkS (txN pn pt) (tkW (txN pn pt) false 48 55 0) 58 58 (tkS (txN pn pt) false 48 55 0))) 62 62 (caS (txN pn pt) (tkW (txN pn pt) (tkW (txN pn pt) false 48 55 0) 58 58 (tkS (txN pn pt) false 48 55 0)) (tkS (txN pn pt) (tkW (txN pn pt) false 48 55 0) 58 58 (tkS (txN pn pt) false 48 55 0)))) 48 55 (tkS (txN pn pt) (caW (txN pn pt) (tkW (txN pn pt) (tkW (txN pn pt) false 48 55 0) 58 58 (tkS (txN pn pt) false 48 55 0)) (tkS (txN pn pt) (tkW (txN pn pt) false 48 55 0) 58 58 (tkS (txN pn pt) false 48 55 0))) 62 62 (caS (txN pn pt) (tkW (txN pn pt) (tkW (txN pn pt) false 48 55 0) 58 58 (tkS (txN pn pt) false 48 55 0)) (tkS (txN pn pt) (tkW (txN pn pt) false 48 55 0) 58 58 (tkS (txN pn pt) false 48 55 0))))))) 5 (nI (tkS (txN pn pt) (tkW (txN pn pt) (caW (txN pn pt) (tkW (txN pn pt) (tkW (txN pn pt) false 48 55 0) 58 58 (tkS (txN pn pt) false 48 55 0)) (tkS (txN pn pt) (tkW (txN pn pt) false 48 55 0) 58 58 (tkS (txN pn pt) false 48 55 0))) 62 62 (caS (txN pn pt) (tkW (txN pn pt) (tkW (txN pn pt) false 48 55 0) 58 58 (tkS (txN pn pt) false 48 55 0)) (tkS (txN pn pt) (tkW (txN pn pt) false 48 55 0) 58 58 (tkS (txN pn pt) false 48 55 0)))) 48 55 (tkS (txN pn pt) (caW (txN pn pt) (tkW (txN pn pt) (tkW (txN pn pt) false 48 55 0) 58 58 (tkS (txN pn pt) false 48 55 0)) (tkS (txN pn pt) (tkW (txN pn pt) false 48 55 0) 58 58 (tkS (txN pn pt) false 48 55 0))) 62 62 (caS (txN pn pt) (tkW (txN pn pt) (tkW (txN pn pt) false 48 55 0) 58 58 (tkS (txN pn pt) false 48 55 0)) (tkS (txN pn pt) (tkW (txN pn pt) false 48 55 0) 58 58 (tkS (txN pn pt) false 48 55 0))))))) (va_up (va_up (va_up (va_up ar 10 g) 10 (upd g (0 : Int32).toNatClampNeg (nI (tkV (txN pn pt) false 48 55 0)))) 10 fc6) 10 (upd fc6 (2 : Int32).toNatClampNeg (nI (tkV (txN pn pt) (tkW (txN pn pt) (caW (txN pn pt) (tkW (txN pn pt) (tkW (txN pn pt) false 48 55 0) 58 58 (tkS (txN pn pt) false 48 55 0)) (tkS (txN pn pt) (tkW (txN pn pt) false 48 55 0) 58 58 (tkS (txN pn pt) false 48 55 0))) 62 62 (caS (txN pn pt) (tkW (txN pn pt) (tkW (txN pn pt) false 48 55 0) 58 58 (tkS (txN pn pt) false 48 55 0)) (tkS (txN pn pt) (tkW (txN pn pt) false 48 55 0) 58 58 (tkS (txN pn pt) false 48 55 0)))) 48 55 (tkS (txN pn pt) (caW (txN pn pt) (tkW (txN pn pt) (tkW (txN pn pt) false 48 55 0) 58 58 (tkS (txN pn pt) false 48 55 0)) (tkS (txN pn pt) (tkW (txN pn pt) false 48 55 0) 58 58 (tkS (txN pn pt) false 48 55 0))) 62 62 (caS (txN pn pt) (tkW (txN pn pt) (tkW (txN pn pt) false 48 55 0) 58 58 (tkS (txN pn pt) false 48 55 0)) (tkS (txN pn pt) (tkW (txN pn pt) false 48 55 0) 58 58 (tkS (txN pn pt) false 48 55 0)))))))) sm hM pn pt hP (tkS (txN pn pt) (tkW (txN pn pt) (caW (txN pn pt) (tkW (txN pn pt) (tkW (txN pn pt) false 48 55 0) 58 58 (tkS (txN pn pt) false 48 55 0)) (tkS (txN pn pt) (tkW (txN pn pt) false 48 55 0) 58 58 (tkS (txN pn pt) false 48 55 0))) 62 62 (caS (txN pn pt) (tkW (txN pn pt) (tkW (txN pn pt) false 48 55 0) 58 58 (tkS (txN pn pt) false 48 55 0)) (tkS (txN pn pt) (tkW (txN pn pt) false 48 55 0) 58 58 (tkS (txN pn pt) false 48 55 0)))) 48 55 (tkS (txN pn pt) (caW (txN pn pt) (tkW (txN pn pt) (tkW (txN pn pt) false 48 55 0) 58 58 (tkS (txN pn pt) false 48 55 0)) (tkS (txN pn pt) (tkW (txN pn pt) false 48 55 0) 58 58 (tkS (txN pn pt) false 48 55 0))) 62 62 (caS (txN pn pt) (tkW (txN pn pt) (tkW (txN pn pt) false 48 55 0) 58 58 (tkS (txN pn pt) false 48 55 0)) (tkS (txN pn pt) (tkW (txN pn pt) false 48 55 0) 58 58 (tkS (txN pn pt) false 48 55 0))))) (by first | rfl | exact hs5) (by omega)) (rp_blind _) (rp_at X hW.1 hW.2.2) (recv X hW.1 hM.1 (C := RX7) (T := TX7) (N := 19) rfl) mf_X7_next tw_1120 tw_1122 tw_50 ⟨rfl, rfl, Nat.le_of_ble_eq_true rfl, Nat.le_of_ble_eq_true rfl⟩ hl.1 rfl rfl (Nat.le_of_ble_eq_true rfl) ⟨Nat.le_of_ble_eq_true rfl, Nat.le_of_ble_eq_true rfl⟩ dX7_fault_77) (fun r_77 q_77 => ?_)
    obtain rfl : r_77 = nI (txN pn pt (tkS (txN pn pt) (tkW (txN pn pt) (caW (txN pn pt) (tkW (txN pn pt) (tkW (txN pn pt) false 48 55 0) 58 58 (tkS (txN pn pt) false 48 55 0)) (tkS (txN pn pt) (tkW (txN pn pt) false 48 55 0) 58 58 (tkS (txN pn pt) false 48 55 0))) 62 62 (caS (txN pn pt) (tkW (txN pn pt) (tkW (txN pn pt) false 48 55 0) 58 58 (tkS (txN pn pt) false 48 55 0)) (tkS (txN pn pt) (tkW (txN pn pt) false 48 55 0) 58 58 (tkS (txN pn pt) false 48 55 0)))) 48 55 (tkS (txN pn pt) (caW (txN pn pt) (tkW (txN pn pt) (tkW (txN pn pt) false 48 55 0) 58 58 (tkS (txN pn pt) false 48 55 0)) (tkS (txN pn pt) (tkW (txN pn pt) false 48 55 0) 58 58 (tkS (txN pn pt) false 48 55 0))) 62 62 (caS (txN pn pt) (tkW (txN pn pt) (tkW (txN pn pt) false 48 55 0) 58 58 (tkS (txN pn pt) false 48 55 0)) (tkS (txN pn pt) (tkW (txN pn pt) false 48 55 0) 58 58 (tkS (txN pn pt) false 48 55 0)))))) := q_77
    have htx_77 := tx_le hP (tkS (txN pn pt) (tkW (txN pn pt) (caW (txN pn pt) (tkW (txN pn pt) (tkW (txN pn pt) false 48 55 0) 58 58 (tkS (txN pn pt) false 48 55 0)) (tkS (txN pn pt) (tkW (txN pn pt) false 48 55 0) 58 58 (tkS (txN pn pt) false 48 55 0))) 62 62 (caS (txN pn pt) (tkW (txN pn pt) (tkW (txN pn pt) false 48 55 0) 58 58 (tkS (txN pn pt) false 48 55 0)) (tkS (txN pn pt) (tkW (txN pn pt) false 48 55 0) 58 58 (tkS (txN pn pt) false 48 55 0)))) 48 55 (tkS (txN pn pt) (caW (txN pn pt) (tkW (txN pn pt) (tkW (txN pn pt) false 48 55 0) 58 58 (tkS (txN pn pt) false 48 55 0)) (tkS (txN pn pt) (tkW (txN pn pt) false 48 55 0) 58 58 (tkS (txN pn pt) false 48 55 0))) 62 62 (caS (txN pn pt) (tkW (txN pn pt) (tkW (txN pn pt) false 48 55 0) 58 58 (tkS (txN pn pt) false 48 55 0)) (tkS (txN pn pt) (tkW (txN pn pt) false 48 55 0) 58 58 (tkS (txN pn pt) false 48 55 0)))))
    refine lv_bipush (v := 33) X.1 X.2.1 dX7_fault_80 (by decide) ?_
    refine lv_icmp_ne (tgt := 89) X.1 X.2.1 dX7_fault_82 (by decide) (fun c_82 => ?_) (fun c_82 => ?_)
    · have k_82 := k_ne (a := (txN pn pt (tkS (txN pn pt) (tkW (txN pn pt) (caW (txN pn pt) (tkW (txN pn pt) (tkW (txN pn pt) false 48 55 0) 58 58 (tkS (txN pn pt) false 48 55 0)) (tkS (txN pn pt) (tkW (txN pn pt) false 48 55 0) 58 58 (tkS (txN pn pt) false 48 55 0))) 62 62 (caS (txN pn pt) (tkW (txN pn pt) (tkW (txN pn pt) false 48 55 0) 58 58 (tkS (txN pn pt) false 48 55 0)) (tkS (txN pn pt) (tkW (txN pn pt) false 48 55 0) 58 58 (tkS (txN pn pt) false 48 55 0)))) 48 55 (tkS (txN pn pt) (caW (txN pn pt) (tkW (txN pn pt) (tkW (txN pn pt) false 48 55 0) 58 58 (tkS (txN pn pt) false 48 55 0)) (tkS (txN pn pt) (tkW (txN pn pt) false 48 55 0) 58 58 (tkS (txN pn pt) false 48 55 0))) 62 62 (caS (txN pn pt) (tkW (txN pn pt) (tkW (txN pn pt) false 48 55 0) 58 58 (tkS (txN pn pt) false 48 55 0)) (tkS (txN pn pt) (tkW (txN pn pt) false 48 55 0) 58 58 (tkS (txN pn pt) false 48 55 0))))))) (b := 33) (by omega) (by omega) c_82
      refine lv_iconst (v := 0) X.1 X.2.1 dX7_fault_89 (by decide) ?_
      refine r_iast X hW (hM.2.1 10 (by decide)) (show vp_in (3) 14 from vp_in_nI (n := 3) (by omega) (by decide)) dX7_fault_90 (fun hp_22 H locs hW eh_23 => ?_)
      have hM := mr_ar hM 10 (by decide) eh_23
      refine lv_aload_n X.1 X.2.1 dX7_fault_91 rfl (lv_at hl 1 rfl) ?_
      refine lv_dup X.1 X.2.1 dX7_fault_92 rfl ?_
      refine r_get X hW.1 hM.1 (v := .int (nI (tkS (txN pn pt) (tkW (txN pn pt) (caW (txN pn pt) (tkW (txN pn pt) (tkW (txN pn pt) false 48 55 0) 58 58 (tkS (txN pn pt) false 48 55 0)) (tkS (txN pn pt) (tkW (txN pn pt) false 48 55 0) 58 58 (tkS (txN pn pt) false 48 55 0))) 62 62 (caS (txN pn pt) (tkW (txN pn pt) (tkW (txN pn pt) false 48 55 0) 58 58 (tkS (txN pn pt) false 48 55 0)) (tkS (txN pn pt) (tkW (txN pn pt) false 48 55 0) 58 58 (tkS (txN pn pt) false 48 55 0)))) 48 55 (tkS (txN pn pt) (caW (txN pn pt) (tkW (txN pn pt) (tkW (txN pn pt) false 48 55 0) 58 58 (tkS (txN pn pt) false 48 55 0)) (tkS (txN pn pt) (tkW (txN pn pt) false 48 55 0) 58 58 (tkS (txN pn pt) false 48 55 0))) 62 62 (caS (txN pn pt) (tkW (txN pn pt) (tkW (txN pn pt) false 48 55 0) 58 58 (tkS (txN pn pt) false 48 55 0)) (tkS (txN pn pt) (tkW (txN pn pt) false 48 55 0) 58 58 (tkS (txN pn pt) false 48 55 0))))))) (C := RX7) (T := TX7) (N := 19) rfl tin_X7 17 (by decide) tw_860 (fun _ h => h) rfl dX7_fault_93 ?_
      refine lv_aload_n X.1 X.2.1 dX7_fault_96 rfl (lv_at hl 1 rfl) ?_
      refine r_get X hW.1 hM.1 (v := .ref (M 11)) (C := RX7) (T := TX7) (N := 19) rfl tin_X7 14 (by decide) tw_857 (fun _ h => h) rfl dX7_fault_97 ?_
      refine lv_iconst (v := 3) X.1 X.2.1 dX7_fault_100 (by decide) ?_
      refine r_iald X hW.1 (hM.2.1 10 (by decide)) (show vp_in (3) 14 from vp_in_nI (n := 3) (by omega) (by decide)) dX7_fault_101 ?_
      refine r_eqi (show (((upd (upd fc6 (2 : Int32).toNatClampNeg (nI (tkV (txN pn pt) (tkW (txN pn pt) (caW (txN pn pt) (tkW (txN pn pt) (tkW (txN pn pt) false 48 55 0) 58 58 (tkS (txN pn pt) false 48 55 0)) (tkS (txN pn pt) (tkW (txN pn pt) false 48 55 0) 58 58 (tkS (txN pn pt) false 48 55 0))) 62 62 (caS (txN pn pt) (tkW (txN pn pt) (tkW (txN pn pt) false 48 55 0) 58 58 (tkS (txN pn pt) false 48 55 0)) (tkS (txN pn pt) (tkW (txN pn pt) false 48 55 0) 58 58 (tkS (txN pn pt) false 48 55 0)))) 48 55 (tkS (txN pn pt) (caW (txN pn pt) (tkW (txN pn pt) (tkW (txN pn pt) false 48 55 0) 58 58 (tkS (txN pn pt) false 48 55 0)) (tkS (txN pn pt) (tkW (txN pn pt) false 48 55 0) 58 58 (tkS (txN pn pt) false 48 55 0))) 62 62 (caS (txN pn pt) (tkW (txN pn pt) (tkW (txN pn pt) false 48 55 0) 58 58 (tkS (txN pn pt) false 48 55 0)) (tkS (txN pn pt) (tkW (txN pn pt) false 48 55 0) 58 58 (tkS (txN pn pt) false 48 55 0))))))) (3 : Int32).toNatClampNeg 0) (3 : Int32).toNatClampNeg) : Int32) = 0 from if_pos rfl) ?_
      refine lv_iadd X.1 X.2.1 dX7_fault_102 ?_
      refine r_eqi (show (((nI (tkS (txN pn pt) (tkW (txN pn pt) (caW (txN pn pt) (tkW (txN pn pt) (tkW (txN pn pt) false 48 55 0) 58 58 (tkS (txN pn pt) false 48 55 0)) (tkS (txN pn pt) (tkW (txN pn pt) false 48 55 0) 58 58 (tkS (txN pn pt) false 48 55 0))) 62 62 (caS (txN pn pt) (tkW (txN pn pt) (tkW (txN pn pt) false 48 55 0) 58 58 (tkS (txN pn pt) false 48 55 0)) (tkS (txN pn pt) (tkW (txN pn pt) false 48 55 0) 58 58 (tkS (txN pn pt) false 48 55 0)))) 48 55 (tkS (txN pn pt) (caW (txN pn pt) (tkW (txN pn pt) (tkW (txN pn pt) false 48 55 0) 58 58 (tkS (txN pn pt) false 48 55 0)) (tkS (txN pn pt) (tkW (txN pn pt) false 48 55 0) 58 58 (tkS (txN pn pt) false 48 55 0))) 62 62 (caS (txN pn pt) (tkW (txN pn pt) (tkW (txN pn pt) false 48 55 0) 58 58 (tkS (txN pn pt) false 48 55 0)) (tkS (txN pn pt) (tkW (txN pn pt) false 48 55 0) 58 58 (tkS (txN pn pt) false 48 55 0)))))) + 0) : Int32) = nI (tkS (txN pn pt) (tkW (txN pn pt) (caW (txN pn pt) (tkW (txN pn pt) (tkW (txN pn pt) false 48 55 0) 58 58 (tkS (txN pn pt) false 48 55 0)) (tkS (txN pn pt) (tkW (txN pn pt) false 48 55 0) 58 58 (tkS (txN pn pt) false 48 55 0))) 62 62 (caS (txN pn pt) (tkW (txN pn pt) (tkW (txN pn pt) false 48 55 0) 58 58 (tkS (txN pn pt) false 48 55 0)) (tkS (txN pn pt) (tkW (txN pn pt) false 48 55 0) 58 58 (tkS (txN pn pt) false 48 55 0)))) 48 55 (tkS (txN pn pt) (caW (txN pn pt) (tkW (txN pn pt) (tkW (txN pn pt) false 48 55 0) 58 58 (tkS (txN pn pt) false 48 55 0)) (tkS (txN pn pt) (tkW (txN pn pt) false 48 55 0) 58 58 (tkS (txN pn pt) false 48 55 0))) 62 62 (caS (txN pn pt) (tkW (txN pn pt) (tkW (txN pn pt) false 48 55 0) 58 58 (tkS (txN pn pt) false 48 55 0)) (tkS (txN pn pt) (tkW (txN pn pt) false 48 55 0) 58 58 (tkS (txN pn pt) false 48 55 0))))) from nI_add (tkS (txN pn pt) (tkW (txN pn pt) (caW (txN pn pt) (tkW (txN pn pt) (tkW (txN pn pt) false 48 55 0) 58 58 (tkS (txN pn pt) false 48 55 0)) (tkS (txN pn pt) (tkW (txN pn pt) false 48 55 0) 58 58 (tkS (txN pn pt) false 48 55 0))) 62 62 (caS (txN pn pt) (tkW (txN pn pt) (tkW (txN pn pt) false 48 55 0) 58 58 (tkS (txN pn pt) false 48 55 0)) (tkS (txN pn pt) (tkW (txN pn pt) false 48 55 0) 58 58 (tkS (txN pn pt) false 48 55 0)))) 48 55 (tkS (txN pn pt) (caW (txN pn pt) (tkW (txN pn pt) (tkW (txN pn pt) false 48 55 0) 58 58 (tkS (txN pn pt) false 48 55 0)) (tkS (txN pn pt) (tkW (txN pn pt) false 48 55 0) 58 58 (tkS (txN pn pt) false 48 55 0))) 62 62 (caS (txN pn pt) (tkW (txN pn pt) (tkW (txN pn pt) false 48 55 0) 58 58 (tkS (txN pn pt) false 48 55 0)) (tkS (txN pn pt) (tkW (txN pn pt) false 48 55 0) 58 58 (tkS (txN pn pt) false 48 55 0))))) 0) ?_
      refine r_put X hW hM.1 (v := .int (nI (tkS (txN pn pt) (tkW (txN pn pt) (caW (txN pn pt) (tkW (txN pn pt) (tkW (txN pn pt) false 48 55 0) 58 58 (tkS (txN pn pt) false 48 55 0)) (tkS (txN pn pt) (tkW (txN pn pt) false 48 55 0) 58 58 (tkS (txN pn pt) false 48 55 0))) 62 62 (caS (txN pn pt) (tkW (txN pn pt) (tkW (txN pn pt) false 48 55 0) 58 58 (tkS (txN pn pt) false 48 55 0)) (tkS (txN pn pt) (tkW (txN pn pt) false 48 55 0) 58 58 (tkS (txN pn pt) false 48 55 0)))) 48 55 (tkS (txN pn pt) (caW (txN pn pt) (tkW (txN pn pt) (tkW (txN pn pt) false 48 55 0) 58 58 (tkS (txN pn pt) false 48 55 0)) (tkS (txN pn pt) (tkW (txN pn pt) false 48 55 0) 58 58 (tkS (txN pn pt) false 48 55 0))) 62 62 (caS (txN pn pt) (tkW (txN pn pt) (tkW (txN pn pt) false 48 55 0) 58 58 (tkS (txN pn pt) false 48 55 0)) (tkS (txN pn pt) (tkW (txN pn pt) false 48 55 0) 58 58 (tkS (txN pn pt) false 48 55 0))))))) (C := RX7) (T := TX7) (N := 19) rfl tin_X7 tyX7_ok nmX7 17 (Nat.le_of_ble_eq_true rfl) tw_860 (fun _ h => h) rfl rfl rfl (Nat.le_of_ble_eq_true rfl) dX7_fault_103 (fun hp_24 H locs hW eh_25 => ?_)
      have hM := mr_sc5 hM eh_25
      refine lv_iload_n X.1 X.2.1 dX7_fault_106 rfl (lv_at hl 0 rfl) ?_
      refine r_eqi (show ((nI (tkV (txN pn pt) (caW (txN pn pt) (tkW (txN pn pt) (tkW (txN pn pt) false 48 55 0) 58 58 (tkS (txN pn pt) false 48 55 0)) (tkS (txN pn pt) (tkW (txN pn pt) false 48 55 0) 58 58 (tkS (txN pn pt) false 48 55 0))) 62 62 (caS (txN pn pt) (tkW (txN pn pt) (tkW (txN pn pt) false 48 55 0) 58 58 (tkS (txN pn pt) false 48 55 0)) (tkS (txN pn pt) (tkW (txN pn pt) false 48 55 0) 58 58 (tkS (txN pn pt) false 48 55 0))))) : Int32) = 0 from congrArg nI (Nat.le_zero.mp tkV_le)) ?_
      refine lv_istore_n (lv' := [(2, .int 0), (1, .int (nI (tkV (txN pn pt) (caW (txN pn pt) (tkW (txN pn pt) (tkW (txN pn pt) false 48 55 0) 58 58 (tkS (txN pn pt) false 48 55 0)) (tkS (txN pn pt) (tkW (txN pn pt) false 48 55 0) 58 58 (tkS (txN pn pt) false 48 55 0))) 62 62 (caS (txN pn pt) (tkW (txN pn pt) (tkW (txN pn pt) false 48 55 0) 58 58 (tkS (txN pn pt) false 48 55 0)) (tkS (txN pn pt) (tkW (txN pn pt) false 48 55 0) 58 58 (tkS (txN pn pt) false 48 55 0)))))), (0, .ref (M 0))]) X.1 X.2.1 dX7_fault_107 rfl hl (by decide) rfl (fun ls hl => ?_)
      have hs5b : h5S (txN pn pt) ≤ 20 := by
        have b1 := tkS_le (txN pn pt) false 48 55 0
        have b2 := tkS_le (txN pn pt) (h1W (txN pn pt)) 58 58 (h1S (txN pn pt))
        have b3 := caS_le (txN pn pt) (h2W (txN pn pt)) (h2S (txN pn pt))
        have b4 := tkS_le (txN pn pt) (h3W (txN pn pt)) 62 62 (h3S (txN pn pt))
        have b5 := tkS_le (txN pn pt) (h4W (txN pn pt)) 48 55 (h4S (txN pn pt))
        show tkS (txN pn pt) (h4W (txN pn pt)) 48 55 (h4S (txN pn pt)) ≤ 20
        have e4 : h4S (txN pn pt) = tkS (txN pn pt) (h3W (txN pn pt)) 62 62 (h3S (txN pn pt)) := rfl
        have e3 : h3S (txN pn pt) = caS (txN pn pt) (h2W (txN pn pt)) (h2S (txN pn pt)) := rfl
        have e2 : h2S (txN pn pt) = tkS (txN pn pt) (h1W (txN pn pt)) 58 58 (h1S (txN pn pt)) := rfl
        have e1 : h1S (txN pn pt) = tkS (txN pn pt) false 48 55 0 := rfl
        omega
      have hfo : hFo (txN pn pt) = 0 := if_neg (fun z => k_82 z.2)
      have hrow : h5W (txN pn pt) = false → ∀ j, j < 14 → (upd (upd fc6 (2 : Int32).toNatClampNeg (nI (tkV (txN pn pt) (tkW (txN pn pt) (caW (txN pn pt) (tkW (txN pn pt) (tkW (txN pn pt) false 48 55 0) 58 58 (tkS (txN pn pt) false 48 55 0)) (tkS (txN pn pt) (tkW (txN pn pt) false 48 55 0) 58 58 (tkS (txN pn pt) false 48 55 0))) 62 62 (caS (txN pn pt) (tkW (txN pn pt) (tkW (txN pn pt) false 48 55 0) 58 58 (tkS (txN pn pt) false 48 55 0)) (tkS (txN pn pt) (tkW (txN pn pt) false 48 55 0) 58 58 (tkS (txN pn pt) false 48 55 0)))) 48 55 (tkS (txN pn pt) (caW (txN pn pt) (tkW (txN pn pt) (tkW (txN pn pt) false 48 55 0) 58 58 (tkS (txN pn pt) false 48 55 0)) (tkS (txN pn pt) (tkW (txN pn pt) false 48 55 0) 58 58 (tkS (txN pn pt) false 48 55 0))) 62 62 (caS (txN pn pt) (tkW (txN pn pt) (tkW (txN pn pt) false 48 55 0) 58 58 (tkS (txN pn pt) false 48 55 0)) (tkS (txN pn pt) (tkW (txN pn pt) false 48 55 0) 58 58 (tkS (txN pn pt) false 48 55 0))))))) (3 : Int32).toNatClampNeg 0) j = nI (hQ (txN pn pt) j) ∧ hQ (txN pn pt) j ≤ 25 := by
        intro z
        have z5 := tkW_w z
        have z4 := tkW_w z5.1
        have hv := hfc6v z4.1
        have a1 := @tkV_le (txN pn pt) false 48 55 0
        have a2 := @tkV_le (txN pn pt) (h4W (txN pn pt)) 48 55 (h4S (txN pn pt))
        have a3 : caV (txN pn pt) (h2W (txN pn pt)) (h2S (txN pn pt)) ≤ 25 := ca_le z4.1
        unfold hQ
        rw [hfo]
        exact hd_row hg hfc6n hv rfl (by omega) a3 (by omega) (by omega)
      have L108 : ∀ (f : Nat) (w9 : Bool) (s9 : Nat) (h9 : Nat) (q9 : Nat → Nat) (hpL : HP) (H : Heap) (locs : List Loc) (g9 : Nat → Int32), MR G hpL M (va_up (va_up sc 6 (bI w9)) 5 (nI s9)) (va_up ar 10 g9) sm → WS s G A hpL H locs → (pn ≤ s9 + f) → (s9 + 7 * f ≤ 1000) → (h9 < 32) → (w9 = false → ∀ j, j < 14 → g9 j = nI (q9 j) ∧ q9 j ≤ 25) → (lpF (txN pn pt) f w9 s9 h9 q9 = rdF (txN pn pt)) → ∀ ls, lv_has ls 3 [(0, .ref (M 0)), (2, .int (nI h9))] → W p l e ({ frames := 4, cells := 0, slots := 0, locals := 93 } : Room) s m args below meth c H locs 0 0 (MQ below (va_Qi (fun r hp1 => r = fFault (n, R, hd, k, cs, sk, pn, pt) ∧ ∃ sc1 ar1 sm1, MR G hp1 M sc1 ar1 sm1 ∧ MST (n, R, hd, k, cs, sk, pn, pt) sc1 ar1 ∧ (fFault (n, R, hd, k, cs, sk, pn, pt) = -6 → ∀ j, j < 14 → ar1 10 j = nI ((rdF (txN pn pt)).2.2 j) ∧ (rdF (txN pn pt)).2.2 j ≤ 25)) (WB G A) A) args s 0 0 A) (F0 m 108 ls []) := by
        intro f
        induction f with
        | zero =>
          intro w9 s9 h9 q9 hpL H locs g9 hM hW h0 h1 h2 h3 h4 ls hl
          refine lv_aload_n X.1 X.2.1 dX7_fault_108 rfl (lv_at hl 0 rfl) ?_
          refine r_get X hW.1 hM.1 (v := .int (bI w9)) (C := RX7) (T := TX7) (N := 19) rfl tin_X7 18 (by decide) tw_861 (fun _ h => h) rfl dX7_fault_109 ?_
          refine lv_if_ne (tgt := 143) X.1 X.2.1 dX7_fault_112 (by decide) (fun c_112 => ?_) (fun c_112 => ?_)
          · refine lv_aload_n X.1 X.2.1 dX7_fault_143 rfl (lv_at hl 0 rfl) ?_
            refine r_get X hW.1 hM.1 (v := .int (bI w9)) (C := RX7) (T := TX7) (N := 19) rfl tin_X7 18 (by decide) tw_861 (fun _ h => h) rfl dX7_fault_144 ?_
            refine lv_if_ne (tgt := 161) X.1 X.2.1 dX7_fault_147 (by decide) (fun c_147 => ?_) (fun c_147 => absurd c_147 c_112)
            refine lv_aload_n X.1 X.2.1 dX7_fault_161 rfl (lv_at hl 0 rfl) ?_
            refine r_get X hW.1 hM.1 (v := .int (nI s9)) (C := RX7) (T := TX7) (N := 19) rfl tin_X7 17 (by decide) tw_860 (fun _ h => h) rfl dX7_fault_162 ?_
            refine lv_goto (tgt := 170) X.1 X.2.1 dX7_fault_165 (by decide) ?_
            have hrd : rdF (txN pn pt) = (w9, s9, q9) := by rw [← h4]; exact lp_end (fun z => c_112 (congrArg bI z.1))
            have hff := fa_t (n := n) (R := R) (hd := hd) (k := k) (cs := cs) (sk := sk) hrd (Or.inl (bI_1 c_112))
            exact wr_i X hr hlk hW ⟨hff, _, _, _, hM, ⟨hT, hU, hH2, hau, hP⟩, fun z => absurd (hff.trans z) (nI_m6 (by omega))⟩ (Nat.le_of_ble_eq_true rfl) (Nat.le_of_ble_eq_true rfl) dX7_fault_170
          · have hw9 := bI_0 c_112
            refine lv_aload_n X.1 X.2.1 dX7_fault_115 rfl (lv_at hl 0 rfl) ?_
            refine on_Si (run_V (C := RX7) (As := []) (rest := []) X (c_X7_next l G hpL M (va_up (va_up sc 6 (bI w9)) 5 (nI s9)) (va_up ar 10 g9) sm hM pn pt hP s9 (by first | rfl | exact hs5) (by omega)) (rp_blind _) (rp_at X hW.1 hW.2.2) (recv X hW.1 hM.1 (C := RX7) (T := TX7) (N := 19) rfl) mf_X7_next tw_1120 tw_1122 tw_50 ⟨rfl, rfl, Nat.le_of_ble_eq_true rfl, Nat.le_of_ble_eq_true rfl⟩ hl.1 rfl rfl (Nat.le_of_ble_eq_true rfl) ⟨Nat.le_of_ble_eq_true rfl, Nat.le_of_ble_eq_true rfl⟩ dX7_fault_116) (fun r_116 q_116 => ?_)
            obtain rfl : r_116 = nI (txN pn pt s9) := q_116
            have htx_116 := tx_le hP s9
            refine lv_bipush (v := 44) X.1 X.2.1 dX7_fault_119 (by decide) ?_
            refine lv_icmp_ne (tgt := 143) X.1 X.2.1 dX7_fault_121 (by decide) (fun c_121 => ?_) (fun c_121 => absurd c_121 (by rw [tx_0 (by omega)]; decide))
            refine lv_aload_n X.1 X.2.1 dX7_fault_143 rfl (lv_at hl 0 rfl) ?_
            refine r_get X hW.1 hM.1 (v := .int (bI w9)) (C := RX7) (T := TX7) (N := 19) rfl tin_X7 18 (by decide) tw_861 (fun _ h => h) rfl dX7_fault_144 ?_
            refine lv_if_ne (tgt := 161) X.1 X.2.1 dX7_fault_147 (by decide) (fun c_147 => absurd c_112 c_147) (fun c_147 => ?_)
            refine lv_aload_n X.1 X.2.1 dX7_fault_150 rfl (lv_at hl 0 rfl) ?_
            refine r_get X hW.1 hM.1 (v := .int (nI s9)) (C := RX7) (T := TX7) (N := 19) rfl tin_X7 17 (by decide) tw_860 (fun _ h => h) rfl dX7_fault_151 ?_
            refine lv_aload_n X.1 X.2.1 dX7_fault_154 rfl (lv_at hl 0 rfl) ?_
            refine r_get X hW.1 hM.1 (v := .int (sc 3)) (C := RX7) (T := TX7) (N := 19) rfl tin_X7 13 (by decide) tw_856 (fun _ h => h) rfl dX7_fault_155 ?_
            refine r_eqi (show ((sc 3) : Int32) = nI pn from hP.1) ?_
            refine lv_icmp_ge (tgt := 168) X.1 X.2.1 dX7_fault_158 (by decide) (fun c_158 => ?_) (fun c_158 => ?_)
            · have k_158 := k_le (a := pn) (b := s9) (by omega) (by omega) c_158
              refine lv_bipush (v := (-6)) X.1 X.2.1 dX7_fault_168 (by decide) ?_
              have hrd : rdF (txN pn pt) = (w9, s9, q9) := by rw [← h4]; exact lp_end (fun z => absurd (z.2.symm.trans (tx_0 (by omega))) (by decide))
              obtain rfl : w9 = false := bI_0 c_112
              exact wr_i X hr hlk hW ⟨fa_n hrd (by omega), _, _, _, hM, ⟨hT, hU, hH2, hau, hP⟩, fun _ j hj => by rw [hrd]; exact h3 rfl j hj⟩ (Nat.le_of_ble_eq_true rfl) (Nat.le_of_ble_eq_true rfl) dX7_fault_170
            · have k_158 := k_nle (a := pn) (b := s9) (by omega) (by omega) c_158
              refine lv_aload_n X.1 X.2.1 dX7_fault_161 rfl (lv_at hl 0 rfl) ?_
              refine r_get X hW.1 hM.1 (v := .int (nI s9)) (C := RX7) (T := TX7) (N := 19) rfl tin_X7 17 (by decide) tw_860 (fun _ h => h) rfl dX7_fault_162 ?_
              refine lv_goto (tgt := 170) X.1 X.2.1 dX7_fault_165 (by decide) ?_
              have hrd : rdF (txN pn pt) = (w9, s9, q9) := by rw [← h4]; exact lp_end (fun z => absurd (z.2.symm.trans (tx_0 (by omega))) (by decide))
              have hff := fa_t (n := n) (R := R) (hd := hd) (k := k) (cs := cs) (sk := sk) hrd (Or.inr (by omega))
              exact wr_i X hr hlk hW ⟨hff, _, _, _, hM, ⟨hT, hU, hH2, hau, hP⟩, fun z => absurd (hff.trans z) (nI_m6 (by omega))⟩ (Nat.le_of_ble_eq_true rfl) (Nat.le_of_ble_eq_true rfl) dX7_fault_170
        | succ f ih =>
          intro w9 s9 h9 q9 hpL H locs g9 hM hW h0 h1 h2 h3 h4 ls hl
          refine lv_aload_n X.1 X.2.1 dX7_fault_108 rfl (lv_at hl 0 rfl) ?_
          refine r_get X hW.1 hM.1 (v := .int (bI w9)) (C := RX7) (T := TX7) (N := 19) rfl tin_X7 18 (by decide) tw_861 (fun _ h => h) rfl dX7_fault_109 ?_
          refine lv_if_ne (tgt := 143) X.1 X.2.1 dX7_fault_112 (by decide) (fun c_112 => ?_) (fun c_112 => ?_)
          · refine lv_aload_n X.1 X.2.1 dX7_fault_143 rfl (lv_at hl 0 rfl) ?_
            refine r_get X hW.1 hM.1 (v := .int (bI w9)) (C := RX7) (T := TX7) (N := 19) rfl tin_X7 18 (by decide) tw_861 (fun _ h => h) rfl dX7_fault_144 ?_
            refine lv_if_ne (tgt := 161) X.1 X.2.1 dX7_fault_147 (by decide) (fun c_147 => ?_) (fun c_147 => absurd c_147 c_112)
            refine lv_aload_n X.1 X.2.1 dX7_fault_161 rfl (lv_at hl 0 rfl) ?_
            refine r_get X hW.1 hM.1 (v := .int (nI s9)) (C := RX7) (T := TX7) (N := 19) rfl tin_X7 17 (by decide) tw_860 (fun _ h => h) rfl dX7_fault_162 ?_
            refine lv_goto (tgt := 170) X.1 X.2.1 dX7_fault_165 (by decide) ?_
            have hrd : rdF (txN pn pt) = (w9, s9, q9) := by rw [← h4]; exact lp_end (fun z => c_112 (congrArg bI z.1))
            have hff := fa_t (n := n) (R := R) (hd := hd) (k := k) (cs := cs) (sk := sk) hrd (Or.inl (bI_1 c_112))
            exact wr_i X hr hlk hW ⟨hff, _, _, _, hM, ⟨hT, hU, hH2, hau, hP⟩, fun z => absurd (hff.trans z) (nI_m6 (by omega))⟩ (Nat.le_of_ble_eq_true rfl) (Nat.le_of_ble_eq_true rfl) dX7_fault_170
          · have hw9 := bI_0 c_112
            refine lv_aload_n X.1 X.2.1 dX7_fault_115 rfl (lv_at hl 0 rfl) ?_
            refine on_Si (run_V (C := RX7) (As := []) (rest := []) X (c_X7_next l G hpL M (va_up (va_up sc 6 (bI w9)) 5 (nI s9)) (va_up ar 10 g9) sm hM pn pt hP s9 (by first | rfl | exact hs5) (by omega)) (rp_blind _) (rp_at X hW.1 hW.2.2) (recv X hW.1 hM.1 (C := RX7) (T := TX7) (N := 19) rfl) mf_X7_next tw_1120 tw_1122 tw_50 ⟨rfl, rfl, Nat.le_of_ble_eq_true rfl, Nat.le_of_ble_eq_true rfl⟩ hl.1 rfl rfl (Nat.le_of_ble_eq_true rfl) ⟨Nat.le_of_ble_eq_true rfl, Nat.le_of_ble_eq_true rfl⟩ dX7_fault_116) (fun r_116 q_116 => ?_)
            obtain rfl : r_116 = nI (txN pn pt s9) := q_116
            have htx_116 := tx_le hP s9
            refine lv_bipush (v := 44) X.1 X.2.1 dX7_fault_119 (by decide) ?_
            refine lv_icmp_ne (tgt := 143) X.1 X.2.1 dX7_fault_121 (by decide) (fun c_121 => ?_) (fun c_121 => ?_)
            · have k_121 := k_ne (a := (txN pn pt s9)) (b := 44) (by omega) (by omega) c_121
              refine lv_aload_n X.1 X.2.1 dX7_fault_143 rfl (lv_at hl 0 rfl) ?_
              refine r_get X hW.1 hM.1 (v := .int (bI w9)) (C := RX7) (T := TX7) (N := 19) rfl tin_X7 18 (by decide) tw_861 (fun _ h => h) rfl dX7_fault_144 ?_
              refine lv_if_ne (tgt := 161) X.1 X.2.1 dX7_fault_147 (by decide) (fun c_147 => absurd c_112 c_147) (fun c_147 => ?_)
              refine lv_aload_n X.1 X.2.1 dX7_fault_150 rfl (lv_at hl 0 rfl) ?_
              refine r_get X hW.1 hM.1 (v := .int (nI s9)) (C := RX7) (T := TX7) (N := 19) rfl tin_X7 17 (by decide) tw_860 (fun _ h => h) rfl dX7_fault_151 ?_
              refine lv_aload_n X.1 X.2.1 dX7_fault_154 rfl (lv_at hl 0 rfl) ?_
              refine r_get X hW.1 hM.1 (v := .int (sc 3)) (C := RX7) (T := TX7) (N := 19) rfl tin_X7 13 (by decide) tw_856 (fun _ h => h) rfl dX7_fault_155 ?_
              refine r_eqi (show ((sc 3) : Int32) = nI pn from hP.1) ?_
              refine lv_icmp_ge (tgt := 168) X.1 X.2.1 dX7_fault_158 (by decide) (fun c_158 => ?_) (fun c_158 => ?_)
              · have k_158 := k_le (a := pn) (b := s9) (by omega) (by omega) c_158
                refine lv_bipush (v := (-6)) X.1 X.2.1 dX7_fault_168 (by decide) ?_
                have hrd : rdF (txN pn pt) = (w9, s9, q9) := by rw [← h4]; exact lp_end (fun z => k_121 z.2)
                obtain rfl : w9 = false := bI_0 c_112
                exact wr_i X hr hlk hW ⟨fa_n hrd (by omega), _, _, _, hM, ⟨hT, hU, hH2, hau, hP⟩, fun _ j hj => by rw [hrd]; exact h3 rfl j hj⟩ (Nat.le_of_ble_eq_true rfl) (Nat.le_of_ble_eq_true rfl) dX7_fault_170
              · have k_158 := k_nle (a := pn) (b := s9) (by omega) (by omega) c_158
                refine lv_aload_n X.1 X.2.1 dX7_fault_161 rfl (lv_at hl 0 rfl) ?_
                refine r_get X hW.1 hM.1 (v := .int (nI s9)) (C := RX7) (T := TX7) (N := 19) rfl tin_X7 17 (by decide) tw_860 (fun _ h => h) rfl dX7_fault_162 ?_
                refine lv_goto (tgt := 170) X.1 X.2.1 dX7_fault_165 (by decide) ?_
                have hrd : rdF (txN pn pt) = (w9, s9, q9) := by rw [← h4]; exact lp_end (fun z => k_121 z.2)
                have hff := fa_t (n := n) (R := R) (hd := hd) (k := k) (cs := cs) (sk := sk) hrd (Or.inr (by omega))
                exact wr_i X hr hlk hW ⟨hff, _, _, _, hM, ⟨hT, hU, hH2, hau, hP⟩, fun z => absurd (hff.trans z) (nI_m6 (by omega))⟩ (Nat.le_of_ble_eq_true rfl) (Nat.le_of_ble_eq_true rfl) dX7_fault_170
            · have k_121 := k_eq (a := (txN pn pt s9)) (b := 44) (by omega) (by omega) c_121
              refine lv_aload_n X.1 X.2.1 dX7_fault_124 rfl (lv_at hl 0 rfl) ?_
              refine lv_dup X.1 X.2.1 dX7_fault_125 rfl ?_
              refine r_get X hW.1 hM.1 (v := .int (nI s9)) (C := RX7) (T := TX7) (N := 19) rfl tin_X7 17 (by decide) tw_860 (fun _ h => h) rfl dX7_fault_126 ?_
              refine lv_iconst (v := 1) X.1 X.2.1 dX7_fault_129 (by decide) ?_
              refine lv_iadd X.1 X.2.1 dX7_fault_130 ?_
              refine r_eqi (show (((nI s9) + 1) : Int32) = nI (s9 + 1) from nI_add s9 1) ?_
              refine r_put X hW hM.1 (v := .int (nI (s9 + 1))) (C := RX7) (T := TX7) (N := 19) rfl tin_X7 tyX7_ok nmX7 17 (Nat.le_of_ble_eq_true rfl) tw_860 (fun _ h => h) rfl rfl rfl (Nat.le_of_ble_eq_true rfl) dX7_fault_131 (fun hp_26 H locs hW eh_27 => ?_)
              have hM := mr_sc5 hM eh_27
              refine lv_aload_n X.1 X.2.1 dX7_fault_134 rfl (lv_at hl 0 rfl) ?_
              refine lv_iload_n X.1 X.2.1 dX7_fault_135 rfl (lv_at hl 1 rfl) ?_
              refine on_Wi (k' := 0) (n' := 0) (run_V (C := RX7) (As := [.int (nI h9)]) (rest := []) X (c_X7_takeCondition l G A hp_26 _ (fun q h => hA q (Nat.le_trans hW.2.2.1 h)) hW.2.1 M (va_up (va_up (va_up sc 6 (bI w9)) 5 (nI s9)) 5 (nI (s9 + 1))) (va_up ar 10 g9) sm hM pn pt hP (s9 + 1) rfl (by omega) (congrArg bI hw9) h9 h2) (wp_blind _) (wp_at X hW.1 hW.2.2) (recv X hW.1 hM.1 (C := RX7) (T := TX7) (N := 19) rfl) mf_X7_takeCondition tw_1131 tw_1133 tw_52 ⟨rfl, rfl, Nat.le_of_ble_eq_true rfl, Nat.le_of_ble_eq_true rfl⟩ hl.1 rfl rfl (Nat.le_of_ble_eq_true rfl) ⟨Nat.le_of_ble_eq_true rfl, Nat.le_of_ble_eq_true rfl⟩ dX7_fault_136) hW (by omega) (by omega) (fun r_136 hp_28 H locs q_136 hW => ?_)
              obtain ⟨f1, rfl, hM, hf1⟩ := q_136
              have := cdS_le (txN pn pt) h9 (s9 + 1)
              have hsg := cdS_ge (txN pn pt) h9 (s9 + 1)
              refine lv_istore_n (lv' := [(2, .int (nI (cdB (txN pn pt) h9 (s9 + 1)))), (0, .ref (M 0))]) X.1 X.2.1 dX7_fault_139 rfl hl (by decide) rfl (fun ls hl => ?_)
              refine lv_goto (tgt := 108) X.1 X.2.1 dX7_fault_140 (by decide) ?_
              exact ih (cdW (txN pn pt) h9 (s9 + 1)) (cdS (txN pn pt) h9 (s9 + 1)) (cdB (txN pn pt) h9 (s9 + 1)) (cdQ (txN pn pt) (s9 + 1) q9) _ _ _ f1 (mr_cg hM (fun j => by by_cases h5 : j = 5 <;> by_cases h6 : j = 6 <;> simp [va_up, h5, h6] <;> rfl) (fun j => by by_cases h9 : j = 10 <;> simp [va_up, h9])) hW (by omega) (by omega) (cdB_lt h2) (fun hw => cd_row (h3 hw9) (hf1 hw)) (by rw [← h4]; exact (lp_st hw9 k_121).symm) ls (lv_sub hl [1, 0] rfl)
      exact L108 61 (h5W (txN pn pt)) (h5S (txN pn pt) + hFo (txN pn pt)) 0 (hQ (txN pn pt)) _ _ _ _ (by rw [hfo]; exact (mr_cg hM (fun j => by by_cases h5 : j = 5 <;> by_cases h6 : j = 6 <;> simp [va_up, h5, h6] <;> rfl) (fun j => by by_cases h9 : j = 10 <;> simp [va_up, h9]))) hW (by omega) (by rw [hfo]; have := hs5b; omega) (by decide) hrow rfl ls (lv_sub hl [2, 0] rfl)
    · have k_82 := k_eq (a := (txN pn pt (tkS (txN pn pt) (tkW (txN pn pt) (caW (txN pn pt) (tkW (txN pn pt) (tkW (txN pn pt) false 48 55 0) 58 58 (tkS (txN pn pt) false 48 55 0)) (tkS (txN pn pt) (tkW (txN pn pt) false 48 55 0) 58 58 (tkS (txN pn pt) false 48 55 0))) 62 62 (caS (txN pn pt) (tkW (txN pn pt) (tkW (txN pn pt) false 48 55 0) 58 58 (tkS (txN pn pt) false 48 55 0)) (tkS (txN pn pt) (tkW (txN pn pt) false 48 55 0) 58 58 (tkS (txN pn pt) false 48 55 0)))) 48 55 (tkS (txN pn pt) (caW (txN pn pt) (tkW (txN pn pt) (tkW (txN pn pt) false 48 55 0) 58 58 (tkS (txN pn pt) false 48 55 0)) (tkS (txN pn pt) (tkW (txN pn pt) false 48 55 0) 58 58 (tkS (txN pn pt) false 48 55 0))) 62 62 (caS (txN pn pt) (tkW (txN pn pt) (tkW (txN pn pt) false 48 55 0) 58 58 (tkS (txN pn pt) false 48 55 0)) (tkS (txN pn pt) (tkW (txN pn pt) false 48 55 0) 58 58 (tkS (txN pn pt) false 48 55 0))))))) (b := 33) (by omega) (by omega) c_82
      refine lv_iconst (v := 1) X.1 X.2.1 dX7_fault_85 (by decide) ?_
      refine lv_goto (tgt := 90) X.1 X.2.1 dX7_fault_86 (by decide) ?_
      refine r_iast X hW (hM.2.1 10 (by decide)) (show vp_in (3) 14 from vp_in_nI (n := 3) (by omega) (by decide)) dX7_fault_90 (fun hp_29 H locs hW eh_30 => ?_)
      have hM := mr_ar hM 10 (by decide) eh_30
      refine lv_aload_n X.1 X.2.1 dX7_fault_91 rfl (lv_at hl 1 rfl) ?_
      refine lv_dup X.1 X.2.1 dX7_fault_92 rfl ?_
      refine r_get X hW.1 hM.1 (v := .int (nI (tkS (txN pn pt) (tkW (txN pn pt) (caW (txN pn pt) (tkW (txN pn pt) (tkW (txN pn pt) false 48 55 0) 58 58 (tkS (txN pn pt) false 48 55 0)) (tkS (txN pn pt) (tkW (txN pn pt) false 48 55 0) 58 58 (tkS (txN pn pt) false 48 55 0))) 62 62 (caS (txN pn pt) (tkW (txN pn pt) (tkW (txN pn pt) false 48 55 0) 58 58 (tkS (txN pn pt) false 48 55 0)) (tkS (txN pn pt) (tkW (txN pn pt) false 48 55 0) 58 58 (tkS (txN pn pt) false 48 55 0)))) 48 55 (tkS (txN pn pt) (caW (txN pn pt) (tkW (txN pn pt) (tkW (txN pn pt) false 48 55 0) 58 58 (tkS (txN pn pt) false 48 55 0)) (tkS (txN pn pt) (tkW (txN pn pt) false 48 55 0) 58 58 (tkS (txN pn pt) false 48 55 0))) 62 62 (caS (txN pn pt) (tkW (txN pn pt) (tkW (txN pn pt) false 48 55 0) 58 58 (tkS (txN pn pt) false 48 55 0)) (tkS (txN pn pt) (tkW (txN pn pt) false 48 55 0) 58 58 (tkS (txN pn pt) false 48 55 0))))))) (C := RX7) (T := TX7) (N := 19) rfl tin_X7 17 (by decide) tw_860 (fun _ h => h) rfl dX7_fault_93 ?_
      refine lv_aload_n X.1 X.2.1 dX7_fault_96 rfl (lv_at hl 1 rfl) ?_
      refine r_get X hW.1 hM.1 (v := .ref (M 11)) (C := RX7) (T := TX7) (N := 19) rfl tin_X7 14 (by decide) tw_857 (fun _ h => h) rfl dX7_fault_97 ?_
      refine lv_iconst (v := 3) X.1 X.2.1 dX7_fault_100 (by decide) ?_
      refine r_iald X hW.1 (hM.2.1 10 (by decide)) (show vp_in (3) 14 from vp_in_nI (n := 3) (by omega) (by decide)) dX7_fault_101 ?_
      refine r_eqi (show (((upd (upd fc6 (2 : Int32).toNatClampNeg (nI (tkV (txN pn pt) (tkW (txN pn pt) (caW (txN pn pt) (tkW (txN pn pt) (tkW (txN pn pt) false 48 55 0) 58 58 (tkS (txN pn pt) false 48 55 0)) (tkS (txN pn pt) (tkW (txN pn pt) false 48 55 0) 58 58 (tkS (txN pn pt) false 48 55 0))) 62 62 (caS (txN pn pt) (tkW (txN pn pt) (tkW (txN pn pt) false 48 55 0) 58 58 (tkS (txN pn pt) false 48 55 0)) (tkS (txN pn pt) (tkW (txN pn pt) false 48 55 0) 58 58 (tkS (txN pn pt) false 48 55 0)))) 48 55 (tkS (txN pn pt) (caW (txN pn pt) (tkW (txN pn pt) (tkW (txN pn pt) false 48 55 0) 58 58 (tkS (txN pn pt) false 48 55 0)) (tkS (txN pn pt) (tkW (txN pn pt) false 48 55 0) 58 58 (tkS (txN pn pt) false 48 55 0))) 62 62 (caS (txN pn pt) (tkW (txN pn pt) (tkW (txN pn pt) false 48 55 0) 58 58 (tkS (txN pn pt) false 48 55 0)) (tkS (txN pn pt) (tkW (txN pn pt) false 48 55 0) 58 58 (tkS (txN pn pt) false 48 55 0))))))) (3 : Int32).toNatClampNeg 1) (3 : Int32).toNatClampNeg) : Int32) = 1 from if_pos rfl) ?_
      refine lv_iadd X.1 X.2.1 dX7_fault_102 ?_
      refine r_eqi (show (((nI (tkS (txN pn pt) (tkW (txN pn pt) (caW (txN pn pt) (tkW (txN pn pt) (tkW (txN pn pt) false 48 55 0) 58 58 (tkS (txN pn pt) false 48 55 0)) (tkS (txN pn pt) (tkW (txN pn pt) false 48 55 0) 58 58 (tkS (txN pn pt) false 48 55 0))) 62 62 (caS (txN pn pt) (tkW (txN pn pt) (tkW (txN pn pt) false 48 55 0) 58 58 (tkS (txN pn pt) false 48 55 0)) (tkS (txN pn pt) (tkW (txN pn pt) false 48 55 0) 58 58 (tkS (txN pn pt) false 48 55 0)))) 48 55 (tkS (txN pn pt) (caW (txN pn pt) (tkW (txN pn pt) (tkW (txN pn pt) false 48 55 0) 58 58 (tkS (txN pn pt) false 48 55 0)) (tkS (txN pn pt) (tkW (txN pn pt) false 48 55 0) 58 58 (tkS (txN pn pt) false 48 55 0))) 62 62 (caS (txN pn pt) (tkW (txN pn pt) (tkW (txN pn pt) false 48 55 0) 58 58 (tkS (txN pn pt) false 48 55 0)) (tkS (txN pn pt) (tkW (txN pn pt) false 48 55 0) 58 58 (tkS (txN pn pt) false 48 55 0)))))) + 1) : Int32) = nI ((tkS (txN pn pt) (tkW (txN pn pt) (caW (txN pn pt) (tkW (txN pn pt) (tkW (txN pn pt) false 48 55 0) 58 58 (tkS (txN pn pt) false 48 55 0)) (tkS (txN pn pt) (tkW (txN pn pt) false 48 55 0) 58 58 (tkS (txN pn pt) false 48 55 0))) 62 62 (caS (txN pn pt) (tkW (txN pn pt) (tkW (txN pn pt) false 48 55 0) 58 58 (tkS (txN pn pt) false 48 55 0)) (tkS (txN pn pt) (tkW (txN pn pt) false 48 55 0) 58 58 (tkS (txN pn pt) false 48 55 0)))) 48 55 (tkS (txN pn pt) (caW (txN pn pt) (tkW (txN pn pt) (tkW (txN pn pt) false 48 55 0) 58 58 (tkS (txN pn pt) false 48 55 0)) (tkS (txN pn pt) (tkW (txN pn pt) false 48 55 0) 58 58 (tkS (txN pn pt) false 48 55 0))) 62 62 (caS (txN pn pt) (tkW (txN pn pt) (tkW (txN pn pt) false 48 55 0) 58 58 (tkS (txN pn pt) false 48 55 0)) (tkS (txN pn pt) (tkW (txN pn pt) false 48 55 0) 58 58 (tkS (txN pn pt) false 48 55 0))))) + 1) from nI_add (tkS (txN pn pt) (tkW (txN pn pt) (caW (txN pn pt) (tkW (txN pn pt) (tkW (txN pn pt) false 48 55 0) 58 58 (tkS (txN pn pt) false 48 55 0)) (tkS (txN pn pt) (tkW (txN pn pt) false 48 55 0) 58 58 (tkS (txN pn pt) false 48 55 0))) 62 62 (caS (txN pn pt) (tkW (txN pn pt) (tkW (txN pn pt) false 48 55 0) 58 58 (tkS (txN pn pt) false 48 55 0)) (tkS (txN pn pt) (tkW (txN pn pt) false 48 55 0) 58 58 (tkS (txN pn pt) false 48 55 0)))) 48 55 (tkS (txN pn pt) (caW (txN pn pt) (tkW (txN pn pt) (tkW (txN pn pt) false 48 55 0) 58 58 (tkS (txN pn pt) false 48 55 0)) (tkS (txN pn pt) (tkW (txN pn pt) false 48 55 0) 58 58 (tkS (txN pn pt) false 48 55 0))) 62 62 (caS (txN pn pt) (tkW (txN pn pt) (tkW (txN pn pt) false 48 55 0) 58 58 (tkS (txN pn pt) false 48 55 0)) (tkS (txN pn pt) (tkW (txN pn pt) false 48 55 0) 58 58 (tkS (txN pn pt) false 48 55 0))))) 1) ?_
      refine r_put X hW hM.1 (v := .int (nI ((tkS (txN pn pt) (tkW (txN pn pt) (caW (txN pn pt) (tkW (txN pn pt) (tkW (txN pn pt) false 48 55 0) 58 58 (tkS (txN pn pt) false 48 55 0)) (tkS (txN pn pt) (tkW (txN pn pt) false 48 55 0) 58 58 (tkS (txN pn pt) false 48 55 0))) 62 62 (caS (txN pn pt) (tkW (txN pn pt) (tkW (txN pn pt) false 48 55 0) 58 58 (tkS (txN pn pt) false 48 55 0)) (tkS (txN pn pt) (tkW (txN pn pt) false 48 55 0) 58 58 (tkS (txN pn pt) false 48 55 0)))) 48 55 (tkS (txN pn pt) (caW (txN pn pt) (tkW (txN pn pt) (tkW (txN pn pt) false 48 55 0) 58 58 (tkS (txN pn pt) false 48 55 0)) (tkS (txN pn pt) (tkW (txN pn pt) false 48 55 0) 58 58 (tkS (txN pn pt) false 48 55 0))) 62 62 (caS (txN pn pt) (tkW (txN pn pt) (tkW (txN pn pt) false 48 55 0) 58 58 (tkS (txN pn pt) false 48 55 0)) (tkS (txN pn pt) (tkW (txN pn pt) false 48 55 0) 58 58 (tkS (txN pn pt) false 48 55 0))))) + 1))) (C := RX7) (T := TX7) (N := 19) rfl tin_X7 tyX7_ok nmX7 17 (Nat.le_of_ble_eq_true rfl) tw_860 (fun _ h => h) rfl rfl rfl (Nat.le_of_ble_eq_true rfl) dX7_fault_103 (fun hp_31 H locs hW eh_32 => ?_)
      have hM := mr_sc5 hM eh_32
      refine lv_iload_n X.1 X.2.1 dX7_fault_106 rfl (lv_at hl 0 rfl) ?_
      refine r_eqi (show ((nI (tkV (txN pn pt) (caW (txN pn pt) (tkW (txN pn pt) (tkW (txN pn pt) false 48 55 0) 58 58 (tkS (txN pn pt) false 48 55 0)) (tkS (txN pn pt) (tkW (txN pn pt) false 48 55 0) 58 58 (tkS (txN pn pt) false 48 55 0))) 62 62 (caS (txN pn pt) (tkW (txN pn pt) (tkW (txN pn pt) false 48 55 0) 58 58 (tkS (txN pn pt) false 48 55 0)) (tkS (txN pn pt) (tkW (txN pn pt) false 48 55 0) 58 58 (tkS (txN pn pt) false 48 55 0))))) : Int32) = 0 from congrArg nI (Nat.le_zero.mp tkV_le)) ?_
      refine lv_istore_n (lv' := [(2, .int 0), (1, .int (nI (tkV (txN pn pt) (caW (txN pn pt) (tkW (txN pn pt) (tkW (txN pn pt) false 48 55 0) 58 58 (tkS (txN pn pt) false 48 55 0)) (tkS (txN pn pt) (tkW (txN pn pt) false 48 55 0) 58 58 (tkS (txN pn pt) false 48 55 0))) 62 62 (caS (txN pn pt) (tkW (txN pn pt) (tkW (txN pn pt) false 48 55 0) 58 58 (tkS (txN pn pt) false 48 55 0)) (tkS (txN pn pt) (tkW (txN pn pt) false 48 55 0) 58 58 (tkS (txN pn pt) false 48 55 0)))))), (0, .ref (M 0))]) X.1 X.2.1 dX7_fault_107 rfl hl (by decide) rfl (fun ls hl => ?_)
      have hs5b : h5S (txN pn pt) ≤ 20 := by
        have b1 := tkS_le (txN pn pt) false 48 55 0
        have b2 := tkS_le (txN pn pt) (h1W (txN pn pt)) 58 58 (h1S (txN pn pt))
        have b3 := caS_le (txN pn pt) (h2W (txN pn pt)) (h2S (txN pn pt))
        have b4 := tkS_le (txN pn pt) (h3W (txN pn pt)) 62 62 (h3S (txN pn pt))
        have b5 := tkS_le (txN pn pt) (h4W (txN pn pt)) 48 55 (h4S (txN pn pt))
        show tkS (txN pn pt) (h4W (txN pn pt)) 48 55 (h4S (txN pn pt)) ≤ 20
        have e4 : h4S (txN pn pt) = tkS (txN pn pt) (h3W (txN pn pt)) 62 62 (h3S (txN pn pt)) := rfl
        have e3 : h3S (txN pn pt) = caS (txN pn pt) (h2W (txN pn pt)) (h2S (txN pn pt)) := rfl
        have e2 : h2S (txN pn pt) = tkS (txN pn pt) (h1W (txN pn pt)) 58 58 (h1S (txN pn pt)) := rfl
        have e1 : h1S (txN pn pt) = tkS (txN pn pt) false 48 55 0 := rfl
        omega
      have hfo : hFo (txN pn pt) = 1 := if_pos ⟨bI_0 c_73, k_82⟩
      have hrow : h5W (txN pn pt) = false → ∀ j, j < 14 → (upd (upd fc6 (2 : Int32).toNatClampNeg (nI (tkV (txN pn pt) (tkW (txN pn pt) (caW (txN pn pt) (tkW (txN pn pt) (tkW (txN pn pt) false 48 55 0) 58 58 (tkS (txN pn pt) false 48 55 0)) (tkS (txN pn pt) (tkW (txN pn pt) false 48 55 0) 58 58 (tkS (txN pn pt) false 48 55 0))) 62 62 (caS (txN pn pt) (tkW (txN pn pt) (tkW (txN pn pt) false 48 55 0) 58 58 (tkS (txN pn pt) false 48 55 0)) (tkS (txN pn pt) (tkW (txN pn pt) false 48 55 0) 58 58 (tkS (txN pn pt) false 48 55 0)))) 48 55 (tkS (txN pn pt) (caW (txN pn pt) (tkW (txN pn pt) (tkW (txN pn pt) false 48 55 0) 58 58 (tkS (txN pn pt) false 48 55 0)) (tkS (txN pn pt) (tkW (txN pn pt) false 48 55 0) 58 58 (tkS (txN pn pt) false 48 55 0))) 62 62 (caS (txN pn pt) (tkW (txN pn pt) (tkW (txN pn pt) false 48 55 0) 58 58 (tkS (txN pn pt) false 48 55 0)) (tkS (txN pn pt) (tkW (txN pn pt) false 48 55 0) 58 58 (tkS (txN pn pt) false 48 55 0))))))) (3 : Int32).toNatClampNeg 1) j = nI (hQ (txN pn pt) j) ∧ hQ (txN pn pt) j ≤ 25 := by
        intro z
        have z5 := tkW_w z
        have z4 := tkW_w z5.1
        have hv := hfc6v z4.1
        have a1 := @tkV_le (txN pn pt) false 48 55 0
        have a2 := @tkV_le (txN pn pt) (h4W (txN pn pt)) 48 55 (h4S (txN pn pt))
        have a3 : caV (txN pn pt) (h2W (txN pn pt)) (h2S (txN pn pt)) ≤ 25 := ca_le z4.1
        unfold hQ
        rw [hfo]
        exact hd_row hg hfc6n hv rfl (by omega) a3 (by omega) (by omega)
      have L108 : ∀ (f : Nat) (w9 : Bool) (s9 : Nat) (h9 : Nat) (q9 : Nat → Nat) (hpL : HP) (H : Heap) (locs : List Loc) (g9 : Nat → Int32), MR G hpL M (va_up (va_up sc 6 (bI w9)) 5 (nI s9)) (va_up ar 10 g9) sm → WS s G A hpL H locs → (pn ≤ s9 + f) → (s9 + 7 * f ≤ 1000) → (h9 < 32) → (w9 = false → ∀ j, j < 14 → g9 j = nI (q9 j) ∧ q9 j ≤ 25) → (lpF (txN pn pt) f w9 s9 h9 q9 = rdF (txN pn pt)) → ∀ ls, lv_has ls 3 [(0, .ref (M 0)), (2, .int (nI h9))] → W p l e ({ frames := 4, cells := 0, slots := 0, locals := 93 } : Room) s m args below meth c H locs 0 0 (MQ below (va_Qi (fun r hp1 => r = fFault (n, R, hd, k, cs, sk, pn, pt) ∧ ∃ sc1 ar1 sm1, MR G hp1 M sc1 ar1 sm1 ∧ MST (n, R, hd, k, cs, sk, pn, pt) sc1 ar1 ∧ (fFault (n, R, hd, k, cs, sk, pn, pt) = -6 → ∀ j, j < 14 → ar1 10 j = nI ((rdF (txN pn pt)).2.2 j) ∧ (rdF (txN pn pt)).2.2 j ≤ 25)) (WB G A) A) args s 0 0 A) (F0 m 108 ls []) := by
        intro f
        induction f with
        | zero =>
          intro w9 s9 h9 q9 hpL H locs g9 hM hW h0 h1 h2 h3 h4 ls hl
          refine lv_aload_n X.1 X.2.1 dX7_fault_108 rfl (lv_at hl 0 rfl) ?_
          refine r_get X hW.1 hM.1 (v := .int (bI w9)) (C := RX7) (T := TX7) (N := 19) rfl tin_X7 18 (by decide) tw_861 (fun _ h => h) rfl dX7_fault_109 ?_
          refine lv_if_ne (tgt := 143) X.1 X.2.1 dX7_fault_112 (by decide) (fun c_112 => ?_) (fun c_112 => ?_)
          · refine lv_aload_n X.1 X.2.1 dX7_fault_143 rfl (lv_at hl 0 rfl) ?_
            refine r_get X hW.1 hM.1 (v := .int (bI w9)) (C := RX7) (T := TX7) (N := 19) rfl tin_X7 18 (by decide) tw_861 (fun _ h => h) rfl dX7_fault_144 ?_
            refine lv_if_ne (tgt := 161) X.1 X.2.1 dX7_fault_147 (by decide) (fun c_147 => ?_) (fun c_147 => absurd c_147 c_112)
            refine lv_aload_n X.1 X.2.1 dX7_fault_161 rfl (lv_at hl 0 rfl) ?_
            refine r_get X hW.1 hM.1 (v := .int (nI s9)) (C := RX7) (T := TX7) (N := 19) rfl tin_X7 17 (by decide) tw_860 (fun _ h => h) rfl dX7_fault_162 ?_
            refine lv_goto (tgt := 170) X.1 X.2.1 dX7_fault_165 (by decide) ?_
            have hrd : rdF (txN pn pt) = (w9, s9, q9) := by rw [← h4]; exact lp_end (fun z => c_112 (congrArg bI z.1))
            have hff := fa_t (n := n) (R := R) (hd := hd) (k := k) (cs := cs) (sk := sk) hrd (Or.inl (bI_1 c_112))
            exact wr_i X hr hlk hW ⟨hff, _, _, _, hM, ⟨hT, hU, hH2, hau, hP⟩, fun z => absurd (hff.trans z) (nI_m6 (by omega))⟩ (Nat.le_of_ble_eq_true rfl) (Nat.le_of_ble_eq_true rfl) dX7_fault_170
          · have hw9 := bI_0 c_112
            refine lv_aload_n X.1 X.2.1 dX7_fault_115 rfl (lv_at hl 0 rfl) ?_
            refine on_Si (run_V (C := RX7) (As := []) (rest := []) X (c_X7_next l G hpL M (va_up (va_up sc 6 (bI w9)) 5 (nI s9)) (va_up ar 10 g9) sm hM pn pt hP s9 (by first | rfl | exact hs5) (by omega)) (rp_blind _) (rp_at X hW.1 hW.2.2) (recv X hW.1 hM.1 (C := RX7) (T := TX7) (N := 19) rfl) mf_X7_next tw_1120 tw_1122 tw_50 ⟨rfl, rfl, Nat.le_of_ble_eq_true rfl, Nat.le_of_ble_eq_true rfl⟩ hl.1 rfl rfl (Nat.le_of_ble_eq_true rfl) ⟨Nat.le_of_ble_eq_true rfl, Nat.le_of_ble_eq_true rfl⟩ dX7_fault_116) (fun r_116 q_116 => ?_)
            obtain rfl : r_116 = nI (txN pn pt s9) := q_116
            have htx_116 := tx_le hP s9
            refine lv_bipush (v := 44) X.1 X.2.1 dX7_fault_119 (by decide) ?_
            refine lv_icmp_ne (tgt := 143) X.1 X.2.1 dX7_fault_121 (by decide) (fun c_121 => ?_) (fun c_121 => absurd c_121 (by rw [tx_0 (by omega)]; decide))
            refine lv_aload_n X.1 X.2.1 dX7_fault_143 rfl (lv_at hl 0 rfl) ?_
            refine r_get X hW.1 hM.1 (v := .int (bI w9)) (C := RX7) (T := TX7) (N := 19) rfl tin_X7 18 (by decide) tw_861 (fun _ h => h) rfl dX7_fault_144 ?_
            refine lv_if_ne (tgt := 161) X.1 X.2.1 dX7_fault_147 (by decide) (fun c_147 => absurd c_112 c_147) (fun c_147 => ?_)
            refine lv_aload_n X.1 X.2.1 dX7_fault_150 rfl (lv_at hl 0 rfl) ?_
            refine r_get X hW.1 hM.1 (v := .int (nI s9)) (C := RX7) (T := TX7) (N := 19) rfl tin_X7 17 (by decide) tw_860 (fun _ h => h) rfl dX7_fault_151 ?_
            refine lv_aload_n X.1 X.2.1 dX7_fault_154 rfl (lv_at hl 0 rfl) ?_
            refine r_get X hW.1 hM.1 (v := .int (sc 3)) (C := RX7) (T := TX7) (N := 19) rfl tin_X7 13 (by decide) tw_856 (fun _ h => h) rfl dX7_fault_155 ?_
            refine r_eqi (show ((sc 3) : Int32) = nI pn from hP.1) ?_
            refine lv_icmp_ge (tgt := 168) X.1 X.2.1 dX7_fault_158 (by decide) (fun c_158 => ?_) (fun c_158 => ?_)
            · have k_158 := k_le (a := pn) (b := s9) (by omega) (by omega) c_158
              refine lv_bipush (v := (-6)) X.1 X.2.1 dX7_fault_168 (by decide) ?_
              have hrd : rdF (txN pn pt) = (w9, s9, q9) := by rw [← h4]; exact lp_end (fun z => absurd (z.2.symm.trans (tx_0 (by omega))) (by decide))
              obtain rfl : w9 = false := bI_0 c_112
              exact wr_i X hr hlk hW ⟨fa_n hrd (by omega), _, _, _, hM, ⟨hT, hU, hH2, hau, hP⟩, fun _ j hj => by rw [hrd]; exact h3 rfl j hj⟩ (Nat.le_of_ble_eq_true rfl) (Nat.le_of_ble_eq_true rfl) dX7_fault_170
            · have k_158 := k_nle (a := pn) (b := s9) (by omega) (by omega) c_158
              refine lv_aload_n X.1 X.2.1 dX7_fault_161 rfl (lv_at hl 0 rfl) ?_
              refine r_get X hW.1 hM.1 (v := .int (nI s9)) (C := RX7) (T := TX7) (N := 19) rfl tin_X7 17 (by decide) tw_860 (fun _ h => h) rfl dX7_fault_162 ?_
              refine lv_goto (tgt := 170) X.1 X.2.1 dX7_fault_165 (by decide) ?_
              have hrd : rdF (txN pn pt) = (w9, s9, q9) := by rw [← h4]; exact lp_end (fun z => absurd (z.2.symm.trans (tx_0 (by omega))) (by decide))
              have hff := fa_t (n := n) (R := R) (hd := hd) (k := k) (cs := cs) (sk := sk) hrd (Or.inr (by omega))
              exact wr_i X hr hlk hW ⟨hff, _, _, _, hM, ⟨hT, hU, hH2, hau, hP⟩, fun z => absurd (hff.trans z) (nI_m6 (by omega))⟩ (Nat.le_of_ble_eq_true rfl) (Nat.le_of_ble_eq_true rfl) dX7_fault_170
        | succ f ih =>
          intro w9 s9 h9 q9 hpL H locs g9 hM hW h0 h1 h2 h3 h4 ls hl
          refine lv_aload_n X.1 X.2.1 dX7_fault_108 rfl (lv_at hl 0 rfl) ?_
          refine r_get X hW.1 hM.1 (v := .int (bI w9)) (C := RX7) (T := TX7) (N := 19) rfl tin_X7 18 (by decide) tw_861 (fun _ h => h) rfl dX7_fault_109 ?_
          refine lv_if_ne (tgt := 143) X.1 X.2.1 dX7_fault_112 (by decide) (fun c_112 => ?_) (fun c_112 => ?_)
          · refine lv_aload_n X.1 X.2.1 dX7_fault_143 rfl (lv_at hl 0 rfl) ?_
            refine r_get X hW.1 hM.1 (v := .int (bI w9)) (C := RX7) (T := TX7) (N := 19) rfl tin_X7 18 (by decide) tw_861 (fun _ h => h) rfl dX7_fault_144 ?_
            refine lv_if_ne (tgt := 161) X.1 X.2.1 dX7_fault_147 (by decide) (fun c_147 => ?_) (fun c_147 => absurd c_147 c_112)
            refine lv_aload_n X.1 X.2.1 dX7_fault_161 rfl (lv_at hl 0 rfl) ?_
            refine r_get X hW.1 hM.1 (v := .int (nI s9)) (C := RX7) (T := TX7) (N := 19) rfl tin_X7 17 (by decide) tw_860 (fun _ h => h) rfl dX7_fault_162 ?_
            refine lv_goto (tgt := 170) X.1 X.2.1 dX7_fault_165 (by decide) ?_
            have hrd : rdF (txN pn pt) = (w9, s9, q9) := by rw [← h4]; exact lp_end (fun z => c_112 (congrArg bI z.1))
            have hff := fa_t (n := n) (R := R) (hd := hd) (k := k) (cs := cs) (sk := sk) hrd (Or.inl (bI_1 c_112))
            exact wr_i X hr hlk hW ⟨hff, _, _, _, hM, ⟨hT, hU, hH2, hau, hP⟩, fun z => absurd (hff.trans z) (nI_m6 (by omega))⟩ (Nat.le_of_ble_eq_true rfl) (Nat.le_of_ble_eq_true rfl) dX7_fault_170
          · have hw9 := bI_0 c_112
            refine lv_aload_n X.1 X.2.1 dX7_fault_115 rfl (lv_at hl 0 rfl) ?_
            refine on_Si (run_V (C := RX7) (As := []) (rest := []) X (c_X7_next l G hpL M (va_up (va_up sc 6 (bI w9)) 5 (nI s9)) (va_up ar 10 g9) sm hM pn pt hP s9 (by first | rfl | exact hs5) (by omega)) (rp_blind _) (rp_at X hW.1 hW.2.2) (recv X hW.1 hM.1 (C := RX7) (T := TX7) (N := 19) rfl) mf_X7_next tw_1120 tw_1122 tw_50 ⟨rfl, rfl, Nat.le_of_ble_eq_true rfl, Nat.le_of_ble_eq_true rfl⟩ hl.1 rfl rfl (Nat.le_of_ble_eq_true rfl) ⟨Nat.le_of_ble_eq_true rfl, Nat.le_of_ble_eq_true rfl⟩ dX7_fault_116) (fun r_116 q_116 => ?_)
            obtain rfl : r_116 = nI (txN pn pt s9) := q_116
            have htx_116 := tx_le hP s9
            refine lv_bipush (v := 44) X.1 X.2.1 dX7_fault_119 (by decide) ?_
            refine lv_icmp_ne (tgt := 143) X.1 X.2.1 dX7_fault_121 (by decide) (fun c_121 => ?_) (fun c_121 => ?_)
            · have k_121 := k_ne (a := (txN pn pt s9)) (b := 44) (by omega) (by omega) c_121
              refine lv_aload_n X.1 X.2.1 dX7_fault_143 rfl (lv_at hl 0 rfl) ?_
              refine r_get X hW.1 hM.1 (v := .int (bI w9)) (C := RX7) (T := TX7) (N := 19) rfl tin_X7 18 (by decide) tw_861 (fun _ h => h) rfl dX7_fault_144 ?_
              refine lv_if_ne (tgt := 161) X.1 X.2.1 dX7_fault_147 (by decide) (fun c_147 => absurd c_112 c_147) (fun c_147 => ?_)
              refine lv_aload_n X.1 X.2.1 dX7_fault_150 rfl (lv_at hl 0 rfl) ?_
              refine r_get X hW.1 hM.1 (v := .int (nI s9)) (C := RX7) (T := TX7) (N := 19) rfl tin_X7 17 (by decide) tw_860 (fun _ h => h) rfl dX7_fault_151 ?_
              refine lv_aload_n X.1 X.2.1 dX7_fault_154 rfl (lv_at hl 0 rfl) ?_
              refine r_get X hW.1 hM.1 (v := .int (sc 3)) (C := RX7) (T := TX7) (N := 19) rfl tin_X7 13 (by decide) tw_856 (fun _ h => h) rfl dX7_fault_155 ?_
              refine r_eqi (show ((sc 3) : Int32) = nI pn from hP.1) ?_
              refine lv_icmp_ge (tgt := 168) X.1 X.2.1 dX7_fault_158 (by decide) (fun c_158 => ?_) (fun c_158 => ?_)
              · have k_158 := k_le (a := pn) (b := s9) (by omega) (by omega) c_158
                refine lv_bipush (v := (-6)) X.1 X.2.1 dX7_fault_168 (by decide) ?_
                have hrd : rdF (txN pn pt) = (w9, s9, q9) := by rw [← h4]; exact lp_end (fun z => k_121 z.2)
                obtain rfl : w9 = false := bI_0 c_112
                exact wr_i X hr hlk hW ⟨fa_n hrd (by omega), _, _, _, hM, ⟨hT, hU, hH2, hau, hP⟩, fun _ j hj => by rw [hrd]; exact h3 rfl j hj⟩ (Nat.le_of_ble_eq_true rfl) (Nat.le_of_ble_eq_true rfl) dX7_fault_170
              · have k_158 := k_nle (a := pn) (b := s9) (by omega) (by omega) c_158
                refine lv_aload_n X.1 X.2.1 dX7_fault_161 rfl (lv_at hl 0 rfl) ?_
                refine r_get X hW.1 hM.1 (v := .int (nI s9)) (C := RX7) (T := TX7) (N := 19) rfl tin_X7 17 (by decide) tw_860 (fun _ h => h) rfl dX7_fault_162 ?_
                refine lv_goto (tgt := 170) X.1 X.2.1 dX7_fault_165 (by decide) ?_
                have hrd : rdF (txN pn pt) = (w9, s9, q9) := by rw [← h4]; exact lp_end (fun z => k_121 z.2)
                have hff := fa_t (n := n) (R := R) (hd := hd) (k := k) (cs := cs) (sk := sk) hrd (Or.inr (by omega))
                exact wr_i X hr hlk hW ⟨hff, _, _, _, hM, ⟨hT, hU, hH2, hau, hP⟩, fun z => absurd (hff.trans z) (nI_m6 (by omega))⟩ (Nat.le_of_ble_eq_true rfl) (Nat.le_of_ble_eq_true rfl) dX7_fault_170
            · have k_121 := k_eq (a := (txN pn pt s9)) (b := 44) (by omega) (by omega) c_121
              refine lv_aload_n X.1 X.2.1 dX7_fault_124 rfl (lv_at hl 0 rfl) ?_
              refine lv_dup X.1 X.2.1 dX7_fault_125 rfl ?_
              refine r_get X hW.1 hM.1 (v := .int (nI s9)) (C := RX7) (T := TX7) (N := 19) rfl tin_X7 17 (by decide) tw_860 (fun _ h => h) rfl dX7_fault_126 ?_
              refine lv_iconst (v := 1) X.1 X.2.1 dX7_fault_129 (by decide) ?_
              refine lv_iadd X.1 X.2.1 dX7_fault_130 ?_
              refine r_eqi (show (((nI s9) + 1) : Int32) = nI (s9 + 1) from nI_add s9 1) ?_
              refine r_put X hW hM.1 (v := .int (nI (s9 + 1))) (C := RX7) (T := TX7) (N := 19) rfl tin_X7 tyX7_ok nmX7 17 (Nat.le_of_ble_eq_true rfl) tw_860 (fun _ h => h) rfl rfl rfl (Nat.le_of_ble_eq_true rfl) dX7_fault_131 (fun hp_33 H locs hW eh_34 => ?_)
              have hM := mr_sc5 hM eh_34
              refine lv_aload_n X.1 X.2.1 dX7_fault_134 rfl (lv_at hl 0 rfl) ?_
              refine lv_iload_n X.1 X.2.1 dX7_fault_135 rfl (lv_at hl 1 rfl) ?_
              refine on_Wi (k' := 0) (n' := 0) (run_V (C := RX7) (As := [.int (nI h9)]) (rest := []) X (c_X7_takeCondition l G A hp_33 _ (fun q h => hA q (Nat.le_trans hW.2.2.1 h)) hW.2.1 M (va_up (va_up (va_up sc 6 (bI w9)) 5 (nI s9)) 5 (nI (s9 + 1))) (va_up ar 10 g9) sm hM pn pt hP (s9 + 1) rfl (by omega) (congrArg bI hw9) h9 h2) (wp_blind _) (wp_at X hW.1 hW.2.2) (recv X hW.1 hM.1 (C := RX7) (T := TX7) (N := 19) rfl) mf_X7_takeCondition tw_1131 tw_1133 tw_52 ⟨rfl, rfl, Nat.le_of_ble_eq_true rfl, Nat.le_of_ble_eq_true rfl⟩ hl.1 rfl rfl (Nat.le_of_ble_eq_true rfl) ⟨Nat.le_of_ble_eq_true rfl, Nat.le_of_ble_eq_true rfl⟩ dX7_fault_136) hW (by omega) (by omega) (fun r_136 hp_35 H locs q_136 hW => ?_)
              obtain ⟨f1, rfl, hM, hf1⟩ := q_136
              have := cdS_le (txN pn pt) h9 (s9 + 1)
              have hsg := cdS_ge (txN pn pt) h9 (s9 + 1)
              refine lv_istore_n (lv' := [(2, .int (nI (cdB (txN pn pt) h9 (s9 + 1)))), (0, .ref (M 0))]) X.1 X.2.1 dX7_fault_139 rfl hl (by decide) rfl (fun ls hl => ?_)
              refine lv_goto (tgt := 108) X.1 X.2.1 dX7_fault_140 (by decide) ?_
              exact ih (cdW (txN pn pt) h9 (s9 + 1)) (cdS (txN pn pt) h9 (s9 + 1)) (cdB (txN pn pt) h9 (s9 + 1)) (cdQ (txN pn pt) (s9 + 1) q9) _ _ _ f1 (mr_cg hM (fun j => by by_cases h5 : j = 5 <;> by_cases h6 : j = 6 <;> simp [va_up, h5, h6] <;> rfl) (fun j => by by_cases h9 : j = 10 <;> simp [va_up, h9])) hW (by omega) (by omega) (cdB_lt h2) (fun hw => cd_row (h3 hw9) (hf1 hw)) (by rw [← h4]; exact (lp_st hw9 k_121).symm) ls (lv_sub hl [1, 0] rfl)
      exact L108 61 (h5W (txN pn pt)) (h5S (txN pn pt) + hFo (txN pn pt)) 0 (hQ (txN pn pt)) _ _ _ _ (by rw [hfo]; exact (mr_cg hM (fun j => by by_cases h5 : j = 5 <;> by_cases h6 : j = 6 <;> simp [va_up, h5, h6] <;> rfl) (fun j => by by_cases h9 : j = 10 <;> simp [va_up, h9]))) hW (by omega) (by rw [hfo]; have := hs5b; omega) (by decide) hrow rfl ls (lv_sub hl [2, 0] rfl)

