/-- what both programs hold: rules (many, numbers), hands, calls (many, numbers), stuck, characters (many, codes) -/
abbrev ST : Type := Nat × (Nat → Nat → Nat) × (Nat → Nat) × Nat × (Nat → Nat → Int32) × Bool × Nat × (Nat → Nat)
def MST (z : ST) (sc : Nat → Int32) (ar : Nat → Nat → Int32) : Prop := MT ar ∧ MU z.1 z.2.1 sc ar ∧ MH z.2.2.1 ar ∧ MAu z.2.2.2.1 z.2.2.2.2.1 z.2.2.2.2.2.1 sc ar ∧ MP z.2.2.2.2.2.2.1 z.2.2.2.2.2.2.2 sc ar
def cs0 : Nat → Nat → Int32 := fun _ j => if j = 4 then -6 else 0
/-- the auction at its start -/
def gAnew (z : ST) : ST := (z.1, z.2.1, z.2.2.1, 0, cs0, false, z.2.2.2.2.2.2.1, z.2.2.2.2.2.2.2)
def anS (sc : Nat → Int32) : Nat → Int32 := va_up (va_up sc 1 0) 2 0
def anR (ar : Nat → Nat → Int32) : Nat → Nat → Int32 := va_up (va_up (va_up ar 6 (upd (ar 6) (0 : Int32).toNatClampNeg 0)) 7 (upd (ar 7) (0 : Int32).toNatClampNeg 0)) 8 (upd (ar 8) (0 : Int32).toNatClampNeg (-6))
theorem an_au (sc : Nat → Int32) (ar : Nat → Nat → Int32) : MAu 0 cs0 false (anS sc) (anR ar) := by
  refine ⟨rfl, by decide, rfl, fun i hi => absurd hi (by omega), fun i hi => ?_⟩
  obtain rfl : i = 0 := by omega
  exact ⟨rfl, rfl, rfl⟩
theorem MST.anew {z : ST} {sc : Nat → Int32} {ar : Nat → Nat → Int32} (h : MST z sc ar) : MST (gAnew z) (anS sc) (anR ar) := ⟨h.1, h.2.1, h.2.2.1, an_au sc ar, h.2.2.2.2⟩
def csC (cs : Nat → Nat → Int32) (k : Nat) (v0 v1 v2 v3 v4 : Int32) : Nat → Nat → Int32 := fun i j => if i = k then (if j = 0 then v0 else if j = 1 then v1 else cs i j) else if i = k + 1 then (if j = 2 then v2 else if j = 3 then v3 else if j = 4 then v4 else cs i j) else cs i j
theorem au_call {k : Nat} {cs : Nat → Nat → Int32} {sk : Bool} {sc : Nat → Int32} {ar : Nat → Nat → Int32} (h : MAu k cs sk sc ar) (hk : k < 12) (v0 v1 v2 v3 v4 : Int32) : MAu (k + 1) (csC cs k v0 v1 v2 v3 v4) sk (va_up sc 1 (nI (k + 1))) (va_up (va_up (va_up (va_up (va_up ar 4 (upd (ar 4) (nI k).toNatClampNeg v0)) 5 (upd (ar 5) (nI k).toNatClampNeg v1)) 6 (upd (ar 6) (nI (k + 1)).toNatClampNeg v2)) 7 (upd (ar 7) (nI (k + 1)).toNatClampNeg v3)) 8 (upd (ar 8) (nI (k + 1)).toNatClampNeg v4)) := by
  refine ⟨rfl, by omega, h.2.2.1, fun i hi => ?_, fun i hi => ?_⟩
  · show upd (ar 4) (nI k).toNatClampNeg v0 i = _ ∧ upd (ar 5) (nI k).toNatClampNeg v1 i = _
    rw [nI_clamp (by omega)]
    by_cases c : i = k
    · subst c
      exact ⟨by simp [upd, csC], by simp [upd, csC]⟩
    · have := h.2.2.2.1 i (by omega)
      exact ⟨by simp [upd, csC, c, this.1, show ¬ i = k + 1 by omega], by simp [upd, csC, c, this.2, show ¬ i = k + 1 by omega]⟩
  · show upd (ar 6) (nI (k + 1)).toNatClampNeg v2 i = _ ∧ upd (ar 7) (nI (k + 1)).toNatClampNeg v3 i = _ ∧ upd (ar 8) (nI (k + 1)).toNatClampNeg v4 i = _
    rw [nI_clamp (by omega)]
    by_cases c : i = k + 1
    · subst c
      exact ⟨by simp [upd, csC], by simp [upd, csC], by simp [upd, csC]⟩
    · have := h.2.2.2.2 i (by omega)
      by_cases d : i = k
      · subst d
        exact ⟨by simp [upd, csC, this.1], by simp [upd, csC, this.2.1], by simp [upd, csC, this.2.2]⟩
      · exact ⟨by simp [upd, csC, c, d, this.1], by simp [upd, csC, c, d, this.2.1], by simp [upd, csC, c, d, this.2.2]⟩
/-- a call by the rule r -/
def gCall (z : ST) (r : Nat) : ST := (z.1, z.2.1, z.2.2.1, z.2.2.2.1 + 1, csC z.2.2.2.2.1 z.2.2.2.1 (nI (z.2.1 r 1)) (nI r) (if z.2.1 r 1 = 25 then z.2.2.2.2.1 z.2.2.2.1 2 else nI (z.2.1 r 2)) (if z.2.1 r 1 = 25 then z.2.2.2.2.1 z.2.2.2.1 3 else nI (z.2.1 r 3)) (if z.2.1 r 1 = 25 then z.2.2.2.2.1 z.2.2.2.1 4 else nI (z.2.1 r 1)), z.2.2.2.2.2.1, z.2.2.2.2.2.2.1, z.2.2.2.2.2.2.2)

set_option maxHeartbeats 4000000 in
set_option maxRecDepth 100000 in
theorem c_X7_anew (l : Launch) (G : HG) (A : Nat → Prop) (hp : HP) (sz : Nat) (hA : ∀ q, sz ≤ q → A q) (hO : Ow A hp) (M : Nat → Nat) (sc : Nat → Int32) (ar : Nat → Nat → Int32) (sm : Nat → Int64) (hM : MR G hp M sc ar sm) : Met l yX7_anew [.code yX7_anew cX7_anew 1 none] { frames := 0, cells := 0, slots := 0, locals := 0 } (va_Pc [.ref (M 0)] (WP G A sz hp)) (va_Qv (fun hp1 => MR G hp1 M (anS sc) (anR ar) sm) (WB G A) A) 0 0 A := by
  refine wr_ofW (by decide) (Nat.le_of_ble_eq_true rfl) hO ?_
  intro p e s m args below meth c ls X hr hlk hnm hsz hW hl
  have hA : ∀ q, s.heap.size ≤ q → A q := fun q h => hA q (by omega)
  have hl : lv_has ls 1 [(0, .ref (M 0))] := hl
  refine lv_aload_n X.1 X.2.1 dX7_anew_0 rfl (lv_at hl 0 rfl) ?_
  refine lv_iconst (v := 0) X.1 X.2.1 dX7_anew_1 (by decide) ?_
  refine r_put X hW hM.1 (v := .int 0) (C := RX7) (T := TX7) (N := 19) rfl tin_X7 tyX7_ok nmX7 10 (Nat.le_of_ble_eq_true rfl) tw_853 (fun _ h => h) rfl rfl rfl (Nat.le_of_ble_eq_true rfl) dX7_anew_2 (fun hp_1 H locs hW eh_2 => ?_)
  have hM := mr_sc1 hM eh_2
  refine lv_aload_n X.1 X.2.1 dX7_anew_5 rfl (lv_at hl 0 rfl) ?_
  refine lv_iconst (v := 0) X.1 X.2.1 dX7_anew_6 (by decide) ?_
  refine r_put X hW hM.1 (v := .int 0) (C := RX7) (T := TX7) (N := 19) rfl tin_X7 tyX7_ok nmX7 11 (Nat.le_of_ble_eq_true rfl) tw_854 (fun _ h => h) rfl (by decide) rfl (Nat.le_of_ble_eq_true rfl) dX7_anew_7 (fun hp_3 H locs hW eh_4 => ?_)
  have hM := mr_sc2 hM eh_4
  refine lv_aload_n X.1 X.2.1 dX7_anew_10 rfl (lv_at hl 0 rfl) ?_
  refine r_get X hW.1 hM.1 (v := .ref (M 7)) (C := RX7) (T := TX7) (N := 19) rfl tin_X7 7 (by decide) tw_850 (fun _ h => h) rfl dX7_anew_11 ?_
  refine lv_iconst (v := 0) X.1 X.2.1 dX7_anew_14 (by decide) ?_
  refine lv_iconst (v := 0) X.1 X.2.1 dX7_anew_15 (by decide) ?_
  refine r_iast X hW (hM.2.1 6 (by decide)) (show vp_in (0) 13 from vp_in_nI (n := 0) (by omega) (by decide)) dX7_anew_16 (fun hp_5 H locs hW eh_6 => ?_)
  have hM := mr_ar hM 6 (by decide) eh_6
  refine lv_aload_n X.1 X.2.1 dX7_anew_17 rfl (lv_at hl 0 rfl) ?_
  refine r_get X hW.1 hM.1 (v := .ref (M 8)) (C := RX7) (T := TX7) (N := 19) rfl tin_X7 8 (by decide) tw_851 (fun _ h => h) rfl dX7_anew_18 ?_
  refine lv_iconst (v := 0) X.1 X.2.1 dX7_anew_21 (by decide) ?_
  refine lv_iconst (v := 0) X.1 X.2.1 dX7_anew_22 (by decide) ?_
  refine r_iast X hW (hM.2.1 7 (by decide)) (show vp_in (0) 13 from vp_in_nI (n := 0) (by omega) (by decide)) dX7_anew_23 (fun hp_7 H locs hW eh_8 => ?_)
  have hM := mr_ar hM 7 (by decide) eh_8
  refine lv_aload_n X.1 X.2.1 dX7_anew_24 rfl (lv_at hl 0 rfl) ?_
  refine r_get X hW.1 hM.1 (v := .ref (M 9)) (C := RX7) (T := TX7) (N := 19) rfl tin_X7 9 (by decide) tw_852 (fun _ h => h) rfl dX7_anew_25 ?_
  refine lv_iconst (v := 0) X.1 X.2.1 dX7_anew_28 (by decide) ?_
  refine lv_bipush (v := (-6)) X.1 X.2.1 dX7_anew_29 (by decide) ?_
  refine r_iast X hW (hM.2.1 8 (by decide)) (show vp_in (0) 13 from vp_in_nI (n := 0) (by omega) (by decide)) dX7_anew_31 (fun hp_9 H locs hW eh_10 => ?_)
  have hM := mr_ar hM 8 (by decide) eh_10
  exact wr_v X hr hlk hW hM (Nat.le_of_ble_eq_true rfl) (Nat.le_of_ble_eq_true rfl) dX7_anew_32

set_option maxHeartbeats 4000000 in
set_option maxRecDepth 100000 in
theorem c_X7_begin (l : Launch) (G : HG) (A : Nat → Prop) (hp : HP) (sz : Nat) (hA : ∀ q, sz ≤ q → A q) (hO : Ow A hp) (M : Nat → Nat) (sc : Nat → Int32) (ar : Nat → Nat → Int32) (sm : Nat → Int64) (hM : MR G hp M sc ar sm) (n : Nat) (R : Nat → Nat → Nat) (hd : Nat → Nat) (k : Nat) (cs : Nat → Nat → Int32) (sk : Bool) (pn : Nat) (pt : Nat → Nat) (hz : MST (n, R, hd, k, cs, sk, pn, pt) sc ar) : Met l yX7_begin [.code yX7_begin cX7_begin 2 (some .int)] { frames := 1, cells := 0, slots := 0, locals := 20 } (va_Pc [.ref (M 0)] (WP G A sz hp)) (va_Qi (fun r hp1 => r = nI k ∧ ∃ sc1 ar1 sm1, MR G hp1 M sc1 ar1 sm1 ∧ MST (gAnew (n, R, hd, k, cs, sk, pn, pt)) sc1 ar1) (WB G A) A) 0 0 A := by
  refine wr_ofW (by decide) (Nat.le_of_ble_eq_true rfl) hO ?_
  intro p e s m args below meth c ls X hr hlk hnm hsz hW hl
  have hA : ∀ q, s.heap.size ≤ q → A q := fun q h => hA q (by omega)
  have hl : lv_has ls 2 [(0, .ref (M 0))] := hl
  have hT : MT ar := hz.1
  have hU : MU n R sc ar := hz.2.1
  have hH2 : MH hd ar := hz.2.2.1
  have hau : MAu k cs sk sc ar := hz.2.2.2.1
  have hP : MP pn pt sc ar := hz.2.2.2.2
  have hn := hU.2.1
  have hk := hau.2.1
  refine lv_aload_n X.1 X.2.1 dX7_begin_0 rfl (lv_at hl 0 rfl) ?_
  refine r_get X hW.1 hM.1 (v := .int (sc 1)) (C := RX7) (T := TX7) (N := 19) rfl tin_X7 10 (by decide) tw_853 (fun _ h => h) rfl dX7_begin_1 ?_
  refine r_eqi (show ((sc 1) : Int32) = nI k from hau.1) ?_
  refine lv_istore_n (lv' := [(1, .int (nI k)), (0, .ref (M 0))]) X.1 X.2.1 dX7_begin_4 rfl hl (by decide) rfl (fun ls hl => ?_)
  refine lv_aload_n X.1 X.2.1 dX7_begin_5 rfl (lv_at hl 1 rfl) ?_
  refine on_Wv (k' := 0) (n' := 0) (run_V (C := RX7) (As := []) (rest := []) X (c_X7_anew l G A hp _ (fun q h => hA q (Nat.le_trans hW.2.2.1 h)) hW.2.1 M sc ar sm hM) (wp_blind _) (wp_at X hW.1 hW.2.2) (recv X hW.1 hM.1 (C := RX7) (T := TX7) (N := 19) rfl) mf_X7_anew tw_839 tw_841 tw_26 ⟨rfl, rfl, Nat.le_of_ble_eq_true rfl, Nat.le_of_ble_eq_true rfl⟩ hl.1 rfl rfl (Nat.le_of_ble_eq_true rfl) ⟨Nat.le_of_ble_eq_true rfl, Nat.le_of_ble_eq_true rfl⟩ dX7_begin_6) hW (by omega) (by omega) (fun hp_1 H locs q_6 hW => ?_)
  have hM := q_6
  refine lv_iload_n X.1 X.2.1 dX7_begin_9 rfl (lv_at hl 0 rfl) ?_
  exact wr_i X hr hlk hW ⟨rfl, _, _, _, hM, MST.anew hz⟩ (Nat.le_of_ble_eq_true rfl) (Nat.le_of_ble_eq_true rfl) dX7_begin_10

set_option maxHeartbeats 4000000 in
set_option maxRecDepth 100000 in
theorem c_X7_callBy (l : Launch) (G : HG) (A : Nat → Prop) (hp : HP) (sz : Nat) (hA : ∀ q, sz ≤ q → A q) (hO : Ow A hp) (M : Nat → Nat) (sc : Nat → Int32) (ar : Nat → Nat → Int32) (sm : Nat → Int64) (hM : MR G hp M sc ar sm) (n : Nat) (R : Nat → Nat → Nat) (hd : Nat → Nat) (k : Nat) (cs : Nat → Nat → Int32) (sk : Bool) (pn : Nat) (pt : Nat → Nat) (hz : MST (n, R, hd, k, cs, sk, pn, pt) sc ar) (r9 : Nat) (hr9 : r9 < n) (hk9 : k < 12) : Met l yX7_callBy [.code yX7_callBy cX7_callBy 4 none] { frames := 1, cells := 0, slots := 0, locals := 22 } (va_Pc [.ref (M 0), .int (nI r9)] (WP G A sz hp)) (va_Qv (fun hp1 => ∃ sc1 ar1 sm1, MR G hp1 M sc1 ar1 sm1 ∧ MST (gCall (n, R, hd, k, cs, sk, pn, pt) r9) sc1 ar1) (WB G A) A) 0 0 A := by
  refine wr_ofW (by decide) (Nat.le_of_ble_eq_true rfl) hO ?_
  intro p e s m args below meth c ls X hr hlk hnm hsz hW hl
  have hA : ∀ q, s.heap.size ≤ q → A q := fun q h => hA q (by omega)
  have hl : lv_has ls 4 [(0, .ref (M 0)), (1, .int (nI r9))] := hl
  have hT : MT ar := hz.1
  have hU : MU n R sc ar := hz.2.1
  have hH2 : MH hd ar := hz.2.2.1
  have hau : MAu k cs sk sc ar := hz.2.2.2.1
  have hP : MP pn pt sc ar := hz.2.2.2.2
  have hn := hU.2.1
  have hk := hau.2.1
  have hR1 := hU.2.2.2 r9 1 hr9 (by decide)
  refine lv_aload_n X.1 X.2.1 dX7_callBy_0 rfl (lv_at hl 0 rfl) ?_
  refine lv_iload_n X.1 X.2.1 dX7_callBy_1 rfl (lv_at hl 1 rfl) ?_
  refine lv_iconst (v := 1) X.1 X.2.1 dX7_callBy_2 (by decide) ?_
  refine on_Si (run_V (C := RX7) (As := [.int (nI r9), .int 1]) (rest := []) X (c_X7_of l G hp M sc ar sm hM r9 1 (by omega) (by decide)) (rp_blind _) (rp_at X hW.1 hW.2.2) (recv X hW.1 hM.1 (C := RX7) (T := TX7) (N := 19) rfl) mf_X7_of tw_922 tw_924 tw_30 ⟨rfl, rfl, Nat.le_of_ble_eq_true rfl, Nat.le_of_ble_eq_true rfl⟩ hl.1 rfl rfl (Nat.le_of_ble_eq_true rfl) ⟨Nat.le_of_ble_eq_true rfl, Nat.le_of_ble_eq_true rfl⟩ dX7_callBy_3) (fun r_3 q_3 => ?_)
  obtain rfl : r_3 = nI (R r9 1) := q_3.trans (hU.2.2.1 r9 1 hr9 (by omega))
  refine lv_istore_n (lv' := [(2, .int (nI (R r9 1))), (0, .ref (M 0)), (1, .int (nI r9))]) X.1 X.2.1 dX7_callBy_6 rfl hl (by decide) rfl (fun ls hl => ?_)
  refine lv_iload_n X.1 X.2.1 dX7_callBy_7 rfl (lv_at hl 0 rfl) ?_
  refine lv_bipush (v := 25) X.1 X.2.1 dX7_callBy_8 (by decide) ?_
  refine lv_icmp_eq (tgt := 17) X.1 X.2.1 dX7_callBy_10 (by decide) (fun c_10 => ?_) (fun c_10 => ?_)
  · have k_10 := k_eq (a := (R r9 1)) (b := 25) (by omega) (by omega) c_10
    refine lv_iconst (v := 0) X.1 X.2.1 dX7_callBy_17 (by decide) ?_
    refine lv_istore_n (lv' := [(3, .int 0), (2, .int (nI (R r9 1))), (0, .ref (M 0)), (1, .int (nI r9))]) X.1 X.2.1 dX7_callBy_18 rfl hl (by decide) rfl (fun ls hl => ?_)
    refine lv_aload_n X.1 X.2.1 dX7_callBy_19 rfl (lv_at hl 2 rfl) ?_
    refine r_get X hW.1 hM.1 (v := .ref (M 5)) (C := RX7) (T := TX7) (N := 19) rfl tin_X7 5 (by decide) tw_848 (fun _ h => h) rfl dX7_callBy_20 ?_
    refine lv_aload_n X.1 X.2.1 dX7_callBy_23 rfl (lv_at hl 2 rfl) ?_
    refine r_get X hW.1 hM.1 (v := .int (sc 1)) (C := RX7) (T := TX7) (N := 19) rfl tin_X7 10 (by decide) tw_853 (fun _ h => h) rfl dX7_callBy_24 ?_
    refine r_eqi (show ((sc 1) : Int32) = nI k from hau.1) ?_
    refine lv_iload_n X.1 X.2.1 dX7_callBy_27 rfl (lv_at hl 1 rfl) ?_
    refine r_iast X hW (hM.2.1 4 (by decide)) (show vp_in ((nI k)) 12 from vp_in_nI (n := k) (by omega) (by decide)) dX7_callBy_28 (fun hp_1 H locs hW eh_2 => ?_)
    have hM := mr_ar hM 4 (by decide) eh_2
    refine lv_aload_n X.1 X.2.1 dX7_callBy_29 rfl (lv_at hl 2 rfl) ?_
    refine r_get X hW.1 hM.1 (v := .ref (M 6)) (C := RX7) (T := TX7) (N := 19) rfl tin_X7 6 (by decide) tw_849 (fun _ h => h) rfl dX7_callBy_30 ?_
    refine lv_aload_n X.1 X.2.1 dX7_callBy_33 rfl (lv_at hl 2 rfl) ?_
    refine r_get X hW.1 hM.1 (v := .int (sc 1)) (C := RX7) (T := TX7) (N := 19) rfl tin_X7 10 (by decide) tw_853 (fun _ h => h) rfl dX7_callBy_34 ?_
    refine r_eqi (show ((sc 1) : Int32) = nI k from hau.1) ?_
    refine lv_iload_n X.1 X.2.1 dX7_callBy_37 rfl (lv_at hl 3 rfl) ?_
    refine r_iast X hW (hM.2.1 5 (by decide)) (show vp_in ((nI k)) 12 from vp_in_nI (n := k) (by omega) (by decide)) dX7_callBy_38 (fun hp_3 H locs hW eh_4 => ?_)
    have hM := mr_ar hM 5 (by decide) eh_4
    refine lv_aload_n X.1 X.2.1 dX7_callBy_39 rfl (lv_at hl 2 rfl) ?_
    refine r_get X hW.1 hM.1 (v := .ref (M 7)) (C := RX7) (T := TX7) (N := 19) rfl tin_X7 7 (by decide) tw_850 (fun _ h => h) rfl dX7_callBy_40 ?_
    refine lv_aload_n X.1 X.2.1 dX7_callBy_43 rfl (lv_at hl 2 rfl) ?_
    refine r_get X hW.1 hM.1 (v := .int (sc 1)) (C := RX7) (T := TX7) (N := 19) rfl tin_X7 10 (by decide) tw_853 (fun _ h => h) rfl dX7_callBy_44 ?_
    refine r_eqi (show ((sc 1) : Int32) = nI k from hau.1) ?_
    refine lv_iconst (v := 1) X.1 X.2.1 dX7_callBy_47 (by decide) ?_
    refine lv_iadd X.1 X.2.1 dX7_callBy_48 ?_
    refine r_eqi (show (((nI k) + 1) : Int32) = nI (k + 1) from nI_add k 1) ?_
    refine lv_iload_n X.1 X.2.1 dX7_callBy_49 rfl (lv_at hl 0 rfl) ?_
    refine lv_if_eq (tgt := 62) X.1 X.2.1 dX7_callBy_50 (by decide) (fun c_50 => ?_) (fun c_50 => absurd (by decide) c_50)
    refine lv_aload_n X.1 X.2.1 dX7_callBy_62 rfl (lv_at hl 2 rfl) ?_
    refine r_get X hW.1 hM.1 (v := .ref (M 7)) (C := RX7) (T := TX7) (N := 19) rfl tin_X7 7 (by decide) tw_850 (fun _ h => h) rfl dX7_callBy_63 ?_
    refine lv_aload_n X.1 X.2.1 dX7_callBy_66 rfl (lv_at hl 2 rfl) ?_
    refine r_get X hW.1 hM.1 (v := .int (sc 1)) (C := RX7) (T := TX7) (N := 19) rfl tin_X7 10 (by decide) tw_853 (fun _ h => h) rfl dX7_callBy_67 ?_
    refine r_eqi (show ((sc 1) : Int32) = nI k from hau.1) ?_
    refine r_iald X hW.1 (hM.2.1 6 (by decide)) (show vp_in ((nI k)) 13 from vp_in_nI (n := k) (by omega) (by decide)) dX7_callBy_70 ?_
    refine r_eqi (show (((ar 6) (nI k).toNatClampNeg) : Int32) = cs k 2 from by rw [nI_clamp (by omega)]; exact (hau.2.2.2.2 k (by omega)).1) ?_
    refine r_iast X hW (hM.2.1 6 (by decide)) (show vp_in ((nI (k + 1))) 13 from vp_in_nI (n := (k + 1)) (by omega) (by decide)) dX7_callBy_71 (fun hp_5 H locs hW eh_6 => ?_)
    have hM := mr_ar hM 6 (by decide) eh_6
    refine lv_aload_n X.1 X.2.1 dX7_callBy_72 rfl (lv_at hl 2 rfl) ?_
    refine r_get X hW.1 hM.1 (v := .ref (M 8)) (C := RX7) (T := TX7) (N := 19) rfl tin_X7 8 (by decide) tw_851 (fun _ h => h) rfl dX7_callBy_73 ?_
    refine lv_aload_n X.1 X.2.1 dX7_callBy_76 rfl (lv_at hl 2 rfl) ?_
    refine r_get X hW.1 hM.1 (v := .int (sc 1)) (C := RX7) (T := TX7) (N := 19) rfl tin_X7 10 (by decide) tw_853 (fun _ h => h) rfl dX7_callBy_77 ?_
    refine r_eqi (show ((sc 1) : Int32) = nI k from hau.1) ?_
    refine lv_iconst (v := 1) X.1 X.2.1 dX7_callBy_80 (by decide) ?_
    refine lv_iadd X.1 X.2.1 dX7_callBy_81 ?_
    refine r_eqi (show (((nI k) + 1) : Int32) = nI (k + 1) from nI_add k 1) ?_
    refine lv_iload_n X.1 X.2.1 dX7_callBy_82 rfl (lv_at hl 0 rfl) ?_
    refine lv_if_eq (tgt := 95) X.1 X.2.1 dX7_callBy_83 (by decide) (fun c_83 => ?_) (fun c_83 => absurd (by decide) c_83)
    refine lv_aload_n X.1 X.2.1 dX7_callBy_95 rfl (lv_at hl 2 rfl) ?_
    refine r_get X hW.1 hM.1 (v := .ref (M 8)) (C := RX7) (T := TX7) (N := 19) rfl tin_X7 8 (by decide) tw_851 (fun _ h => h) rfl dX7_callBy_96 ?_
    refine lv_aload_n X.1 X.2.1 dX7_callBy_99 rfl (lv_at hl 2 rfl) ?_
    refine r_get X hW.1 hM.1 (v := .int (sc 1)) (C := RX7) (T := TX7) (N := 19) rfl tin_X7 10 (by decide) tw_853 (fun _ h => h) rfl dX7_callBy_100 ?_
    refine r_eqi (show ((sc 1) : Int32) = nI k from hau.1) ?_
    refine r_iald X hW.1 (hM.2.1 7 (by decide)) (show vp_in ((nI k)) 13 from vp_in_nI (n := k) (by omega) (by decide)) dX7_callBy_103 ?_
    refine r_eqi (show (((ar 7) (nI k).toNatClampNeg) : Int32) = cs k 3 from by rw [nI_clamp (by omega)]; exact (hau.2.2.2.2 k (by omega)).2.1) ?_
    refine r_iast X hW (hM.2.1 7 (by decide)) (show vp_in ((nI (k + 1))) 13 from vp_in_nI (n := (k + 1)) (by omega) (by decide)) dX7_callBy_104 (fun hp_7 H locs hW eh_8 => ?_)
    have hM := mr_ar hM 7 (by decide) eh_8
    refine lv_aload_n X.1 X.2.1 dX7_callBy_105 rfl (lv_at hl 2 rfl) ?_
    refine r_get X hW.1 hM.1 (v := .ref (M 9)) (C := RX7) (T := TX7) (N := 19) rfl tin_X7 9 (by decide) tw_852 (fun _ h => h) rfl dX7_callBy_106 ?_
    refine lv_aload_n X.1 X.2.1 dX7_callBy_109 rfl (lv_at hl 2 rfl) ?_
    refine r_get X hW.1 hM.1 (v := .int (sc 1)) (C := RX7) (T := TX7) (N := 19) rfl tin_X7 10 (by decide) tw_853 (fun _ h => h) rfl dX7_callBy_110 ?_
    refine r_eqi (show ((sc 1) : Int32) = nI k from hau.1) ?_
    refine lv_iconst (v := 1) X.1 X.2.1 dX7_callBy_113 (by decide) ?_
    refine lv_iadd X.1 X.2.1 dX7_callBy_114 ?_
    refine r_eqi (show (((nI k) + 1) : Int32) = nI (k + 1) from nI_add k 1) ?_
    refine lv_iload_n X.1 X.2.1 dX7_callBy_115 rfl (lv_at hl 0 rfl) ?_
    refine lv_if_eq (tgt := 123) X.1 X.2.1 dX7_callBy_116 (by decide) (fun c_116 => ?_) (fun c_116 => absurd (by decide) c_116)
    refine lv_aload_n X.1 X.2.1 dX7_callBy_123 rfl (lv_at hl 2 rfl) ?_
    refine r_get X hW.1 hM.1 (v := .ref (M 9)) (C := RX7) (T := TX7) (N := 19) rfl tin_X7 9 (by decide) tw_852 (fun _ h => h) rfl dX7_callBy_124 ?_
    refine lv_aload_n X.1 X.2.1 dX7_callBy_127 rfl (lv_at hl 2 rfl) ?_
    refine r_get X hW.1 hM.1 (v := .int (sc 1)) (C := RX7) (T := TX7) (N := 19) rfl tin_X7 10 (by decide) tw_853 (fun _ h => h) rfl dX7_callBy_128 ?_
    refine r_eqi (show ((sc 1) : Int32) = nI k from hau.1) ?_
    refine r_iald X hW.1 (hM.2.1 8 (by decide)) (show vp_in ((nI k)) 13 from vp_in_nI (n := k) (by omega) (by decide)) dX7_callBy_131 ?_
    refine r_eqi (show (((ar 8) (nI k).toNatClampNeg) : Int32) = cs k 4 from by rw [nI_clamp (by omega)]; exact (hau.2.2.2.2 k (by omega)).2.2) ?_
    refine r_iast X hW (hM.2.1 8 (by decide)) (show vp_in ((nI (k + 1))) 13 from vp_in_nI (n := (k + 1)) (by omega) (by decide)) dX7_callBy_132 (fun hp_9 H locs hW eh_10 => ?_)
    have hM := mr_ar hM 8 (by decide) eh_10
    refine lv_aload_n X.1 X.2.1 dX7_callBy_133 rfl (lv_at hl 2 rfl) ?_
    refine lv_dup X.1 X.2.1 dX7_callBy_134 rfl ?_
    refine r_get X hW.1 hM.1 (v := .int (sc 1)) (C := RX7) (T := TX7) (N := 19) rfl tin_X7 10 (by decide) tw_853 (fun _ h => h) rfl dX7_callBy_135 ?_
    refine r_eqi (show ((sc 1) : Int32) = nI k from hau.1) ?_
    refine lv_iconst (v := 1) X.1 X.2.1 dX7_callBy_138 (by decide) ?_
    refine lv_iadd X.1 X.2.1 dX7_callBy_139 ?_
    refine r_eqi (show (((nI k) + 1) : Int32) = nI (k + 1) from nI_add k 1) ?_
    refine r_put X hW hM.1 (v := .int (nI (k + 1))) (C := RX7) (T := TX7) (N := 19) rfl tin_X7 tyX7_ok nmX7 10 (Nat.le_of_ble_eq_true rfl) tw_853 (fun _ h => h) rfl rfl rfl (Nat.le_of_ble_eq_true rfl) dX7_callBy_140 (fun hp_11 H locs hW eh_12 => ?_)
    have hM := mr_sc1 hM eh_12
    exact wr_v X hr hlk hW ⟨_, _, _, hM, hT, hU, hH2, by show MAu (k + 1) (csC cs k (nI (R r9 1)) (nI r9) (if R r9 1 = 25 then cs k 2 else nI (R r9 2)) (if R r9 1 = 25 then cs k 3 else nI (R r9 3)) (if R r9 1 = 25 then cs k 4 else nI (R r9 1))) sk _ _; rw [if_pos k_10, if_pos k_10, if_pos k_10]; exact au_call hau hk9 _ _ _ _ _, hP⟩ (Nat.le_of_ble_eq_true rfl) (Nat.le_of_ble_eq_true rfl) dX7_callBy_143
  · have k_10 := k_ne (a := (R r9 1)) (b := 25) (by omega) (by omega) c_10
    refine lv_iconst (v := 1) X.1 X.2.1 dX7_callBy_13 (by decide) ?_
    refine lv_goto (tgt := 18) X.1 X.2.1 dX7_callBy_14 (by decide) ?_
    refine lv_istore_n (lv' := [(3, .int 1), (2, .int (nI (R r9 1))), (0, .ref (M 0)), (1, .int (nI r9))]) X.1 X.2.1 dX7_callBy_18 rfl hl (by decide) rfl (fun ls hl => ?_)
    refine lv_aload_n X.1 X.2.1 dX7_callBy_19 rfl (lv_at hl 2 rfl) ?_
    refine r_get X hW.1 hM.1 (v := .ref (M 5)) (C := RX7) (T := TX7) (N := 19) rfl tin_X7 5 (by decide) tw_848 (fun _ h => h) rfl dX7_callBy_20 ?_
    refine lv_aload_n X.1 X.2.1 dX7_callBy_23 rfl (lv_at hl 2 rfl) ?_
    refine r_get X hW.1 hM.1 (v := .int (sc 1)) (C := RX7) (T := TX7) (N := 19) rfl tin_X7 10 (by decide) tw_853 (fun _ h => h) rfl dX7_callBy_24 ?_
    refine r_eqi (show ((sc 1) : Int32) = nI k from hau.1) ?_
    refine lv_iload_n X.1 X.2.1 dX7_callBy_27 rfl (lv_at hl 1 rfl) ?_
    refine r_iast X hW (hM.2.1 4 (by decide)) (show vp_in ((nI k)) 12 from vp_in_nI (n := k) (by omega) (by decide)) dX7_callBy_28 (fun hp_13 H locs hW eh_14 => ?_)
    have hM := mr_ar hM 4 (by decide) eh_14
    refine lv_aload_n X.1 X.2.1 dX7_callBy_29 rfl (lv_at hl 2 rfl) ?_
    refine r_get X hW.1 hM.1 (v := .ref (M 6)) (C := RX7) (T := TX7) (N := 19) rfl tin_X7 6 (by decide) tw_849 (fun _ h => h) rfl dX7_callBy_30 ?_
    refine lv_aload_n X.1 X.2.1 dX7_callBy_33 rfl (lv_at hl 2 rfl) ?_
    refine r_get X hW.1 hM.1 (v := .int (sc 1)) (C := RX7) (T := TX7) (N := 19) rfl tin_X7 10 (by decide) tw_853 (fun _ h => h) rfl dX7_callBy_34 ?_
    refine r_eqi (show ((sc 1) : Int32) = nI k from hau.1) ?_
    refine lv_iload_n X.1 X.2.1 dX7_callBy_37 rfl (lv_at hl 3 rfl) ?_
    refine r_iast X hW (hM.2.1 5 (by decide)) (show vp_in ((nI k)) 12 from vp_in_nI (n := k) (by omega) (by decide)) dX7_callBy_38 (fun hp_15 H locs hW eh_16 => ?_)
    have hM := mr_ar hM 5 (by decide) eh_16
    refine lv_aload_n X.1 X.2.1 dX7_callBy_39 rfl (lv_at hl 2 rfl) ?_
    refine r_get X hW.1 hM.1 (v := .ref (M 7)) (C := RX7) (T := TX7) (N := 19) rfl tin_X7 7 (by decide) tw_850 (fun _ h => h) rfl dX7_callBy_40 ?_
    refine lv_aload_n X.1 X.2.1 dX7_callBy_43 rfl (lv_at hl 2 rfl) ?_
    refine r_get X hW.1 hM.1 (v := .int (sc 1)) (C := RX7) (T := TX7) (N := 19) rfl tin_X7 10 (by decide) tw_853 (fun _ h => h) rfl dX7_callBy_44 ?_
    refine r_eqi (show ((sc 1) : Int32) = nI k from hau.1) ?_
    refine lv_iconst (v := 1) X.1 X.2.1 dX7_callBy_47 (by decide) ?_
    refine lv_iadd X.1 X.2.1 dX7_callBy_48 ?_
    refine r_eqi (show (((nI k) + 1) : Int32) = nI (k + 1) from nI_add k 1) ?_
    refine lv_iload_n X.1 X.2.1 dX7_callBy_49 rfl (lv_at hl 0 rfl) ?_
    refine lv_if_eq (tgt := 62) X.1 X.2.1 dX7_callBy_50 (by decide) (fun c_50 => absurd c_50 (by decide)) (fun c_50 => ?_)
    refine lv_aload_n X.1 X.2.1 dX7_callBy_53 rfl (lv_at hl 2 rfl) ?_
    refine lv_iload_n X.1 X.2.1 dX7_callBy_54 rfl (lv_at hl 3 rfl) ?_
    refine lv_iconst (v := 2) X.1 X.2.1 dX7_callBy_55 (by decide) ?_
    refine on_Si (run_V (C := RX7) (As := [.int (nI r9), .int 2]) (rest := [.int (nI (k + 1)), .ref (M 7)]) X (c_X7_of l G hp_15 M sc (va_up (va_up ar 4 (upd (ar 4) (nI k).toNatClampNeg (nI (R r9 1)))) 5 (upd (ar 5) (nI k).toNatClampNeg (nI r9))) sm hM r9 2 (by omega) (by decide)) (rp_blind _) (rp_at X hW.1 hW.2.2) (recv X hW.1 hM.1 (C := RX7) (T := TX7) (N := 19) rfl) mf_X7_of tw_922 tw_924 tw_30 ⟨rfl, rfl, Nat.le_of_ble_eq_true rfl, Nat.le_of_ble_eq_true rfl⟩ hl.1 rfl rfl (Nat.le_of_ble_eq_true rfl) ⟨Nat.le_of_ble_eq_true rfl, Nat.le_of_ble_eq_true rfl⟩ dX7_callBy_56) (fun r_56 q_56 => ?_)
    obtain rfl : r_56 = nI (R r9 2) := q_56.trans (hU.2.2.1 r9 2 hr9 (by omega))
    refine lv_goto (tgt := 71) X.1 X.2.1 dX7_callBy_59 (by decide) ?_
    refine r_iast X hW (hM.2.1 6 (by decide)) (show vp_in ((nI (k + 1))) 13 from vp_in_nI (n := (k + 1)) (by omega) (by decide)) dX7_callBy_71 (fun hp_17 H locs hW eh_18 => ?_)
    have hM := mr_ar hM 6 (by decide) eh_18
    refine lv_aload_n X.1 X.2.1 dX7_callBy_72 rfl (lv_at hl 2 rfl) ?_
    refine r_get X hW.1 hM.1 (v := .ref (M 8)) (C := RX7) (T := TX7) (N := 19) rfl tin_X7 8 (by decide) tw_851 (fun _ h => h) rfl dX7_callBy_73 ?_
    refine lv_aload_n X.1 X.2.1 dX7_callBy_76 rfl (lv_at hl 2 rfl) ?_
    refine r_get X hW.1 hM.1 (v := .int (sc 1)) (C := RX7) (T := TX7) (N := 19) rfl tin_X7 10 (by decide) tw_853 (fun _ h => h) rfl dX7_callBy_77 ?_
    refine r_eqi (show ((sc 1) : Int32) = nI k from hau.1) ?_
    refine lv_iconst (v := 1) X.1 X.2.1 dX7_callBy_80 (by decide) ?_
    refine lv_iadd X.1 X.2.1 dX7_callBy_81 ?_
    refine r_eqi (show (((nI k) + 1) : Int32) = nI (k + 1) from nI_add k 1) ?_
    refine lv_iload_n X.1 X.2.1 dX7_callBy_82 rfl (lv_at hl 0 rfl) ?_
    refine lv_if_eq (tgt := 95) X.1 X.2.1 dX7_callBy_83 (by decide) (fun c_83 => absurd c_83 (by decide)) (fun c_83 => ?_)
    refine lv_aload_n X.1 X.2.1 dX7_callBy_86 rfl (lv_at hl 2 rfl) ?_
    refine lv_iload_n X.1 X.2.1 dX7_callBy_87 rfl (lv_at hl 3 rfl) ?_
    refine lv_iconst (v := 3) X.1 X.2.1 dX7_callBy_88 (by decide) ?_
    refine on_Si (run_V (C := RX7) (As := [.int (nI r9), .int 3]) (rest := [.int (nI (k + 1)), .ref (M 8)]) X (c_X7_of l G hp_17 M sc (va_up (va_up (va_up ar 4 (upd (ar 4) (nI k).toNatClampNeg (nI (R r9 1)))) 5 (upd (ar 5) (nI k).toNatClampNeg (nI r9))) 6 (upd (ar 6) (nI (k + 1)).toNatClampNeg (nI (R r9 2)))) sm hM r9 3 (by omega) (by decide)) (rp_blind _) (rp_at X hW.1 hW.2.2) (recv X hW.1 hM.1 (C := RX7) (T := TX7) (N := 19) rfl) mf_X7_of tw_922 tw_924 tw_30 ⟨rfl, rfl, Nat.le_of_ble_eq_true rfl, Nat.le_of_ble_eq_true rfl⟩ hl.1 rfl rfl (Nat.le_of_ble_eq_true rfl) ⟨Nat.le_of_ble_eq_true rfl, Nat.le_of_ble_eq_true rfl⟩ dX7_callBy_89) (fun r_89 q_89 => ?_)
    obtain rfl : r_89 = nI (R r9 3) := q_89.trans (hU.2.2.1 r9 3 hr9 (by omega))
    refine lv_goto (tgt := 104) X.1 X.2.1 dX7_callBy_92 (by decide) ?_
    refine r_iast X hW (hM.2.1 7 (by decide)) (show vp_in ((nI (k + 1))) 13 from vp_in_nI (n := (k + 1)) (by omega) (by decide)) dX7_callBy_104 (fun hp_19 H locs hW eh_20 => ?_)
    have hM := mr_ar hM 7 (by decide) eh_20
    refine lv_aload_n X.1 X.2.1 dX7_callBy_105 rfl (lv_at hl 2 rfl) ?_
    refine r_get X hW.1 hM.1 (v := .ref (M 9)) (C := RX7) (T := TX7) (N := 19) rfl tin_X7 9 (by decide) tw_852 (fun _ h => h) rfl dX7_callBy_106 ?_
    refine lv_aload_n X.1 X.2.1 dX7_callBy_109 rfl (lv_at hl 2 rfl) ?_
    refine r_get X hW.1 hM.1 (v := .int (sc 1)) (C := RX7) (T := TX7) (N := 19) rfl tin_X7 10 (by decide) tw_853 (fun _ h => h) rfl dX7_callBy_110 ?_
    refine r_eqi (show ((sc 1) : Int32) = nI k from hau.1) ?_
    refine lv_iconst (v := 1) X.1 X.2.1 dX7_callBy_113 (by decide) ?_
    refine lv_iadd X.1 X.2.1 dX7_callBy_114 ?_
    refine r_eqi (show (((nI k) + 1) : Int32) = nI (k + 1) from nI_add k 1) ?_
    refine lv_iload_n X.1 X.2.1 dX7_callBy_115 rfl (lv_at hl 0 rfl) ?_
    refine lv_if_eq (tgt := 123) X.1 X.2.1 dX7_callBy_116 (by decide) (fun c_116 => absurd c_116 (by decide)) (fun c_116 => ?_)
    refine lv_iload_n X.1 X.2.1 dX7_callBy_119 rfl (lv_at hl 1 rfl) ?_
    refine lv_goto (tgt := 132) X.1 X.2.1 dX7_callBy_120 (by decide) ?_
    refine r_iast X hW (hM.2.1 8 (by decide)) (show vp_in ((nI (k + 1))) 13 from vp_in_nI (n := (k + 1)) (by omega) (by decide)) dX7_callBy_132 (fun hp_21 H locs hW eh_22 => ?_)
    have hM := mr_ar hM 8 (by decide) eh_22
    refine lv_aload_n X.1 X.2.1 dX7_callBy_133 rfl (lv_at hl 2 rfl) ?_
    refine lv_dup X.1 X.2.1 dX7_callBy_134 rfl ?_
    refine r_get X hW.1 hM.1 (v := .int (sc 1)) (C := RX7) (T := TX7) (N := 19) rfl tin_X7 10 (by decide) tw_853 (fun _ h => h) rfl dX7_callBy_135 ?_
    refine r_eqi (show ((sc 1) : Int32) = nI k from hau.1) ?_
    refine lv_iconst (v := 1) X.1 X.2.1 dX7_callBy_138 (by decide) ?_
    refine lv_iadd X.1 X.2.1 dX7_callBy_139 ?_
    refine r_eqi (show (((nI k) + 1) : Int32) = nI (k + 1) from nI_add k 1) ?_
    refine r_put X hW hM.1 (v := .int (nI (k + 1))) (C := RX7) (T := TX7) (N := 19) rfl tin_X7 tyX7_ok nmX7 10 (Nat.le_of_ble_eq_true rfl) tw_853 (fun _ h => h) rfl rfl rfl (Nat.le_of_ble_eq_true rfl) dX7_callBy_140 (fun hp_23 H locs hW eh_24 => ?_)
    have hM := mr_sc1 hM eh_24
    exact wr_v X hr hlk hW ⟨_, _, _, hM, hT, hU, hH2, by show MAu (k + 1) (csC cs k (nI (R r9 1)) (nI r9) (if R r9 1 = 25 then cs k 2 else nI (R r9 2)) (if R r9 1 = 25 then cs k 3 else nI (R r9 3)) (if R r9 1 = 25 then cs k 4 else nI (R r9 1))) sk _ _; rw [if_neg k_10, if_neg k_10, if_neg k_10]; exact au_call hau hk9 _ _ _ _ _, hP⟩ (Nat.le_of_ble_eq_true rfl) (Nat.le_of_ble_eq_true rfl) dX7_callBy_143

