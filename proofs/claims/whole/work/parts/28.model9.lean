/-! rules: put behind, taken out, put between -/
def addR (R : Nat → Nat → Nat) (n : Nat) (q : Nat → Nat) : Nat → Nat → Nat := fun i => if i = n then q else R i
def rmR (R : Nat → Nat → Nat) (r : Nat) : Nat → Nat → Nat := fun i => if i < r then R i else R (i + 1)
def insR (R : Nat → Nat → Nat) (b : Nat) (q : Nat → Nat) : Nat → Nat → Nat := fun i => if i < b then R i else if i = b then q else R (i - 1)
theorem mu_add {n : Nat} {R : Nat → Nat → Nat} {sc : Nat → Int32} {ar : Nat → Nat → Int32} {q : Nat → Nat} {g : Nat → Int32} (h : MU n R sc ar) (hn : n < 24) (hq : ∀ j, j < 14 → q j ≤ 25) (h1 : ∀ j, j < 14 * n → g j = ar 0 j) (h2 : ∀ j, j < 14 → g (14 * n + j) = nI (q j)) : MU (n + 1) (addR R n q) (va_up sc 0 (nI (n + 1))) (va_up ar 0 g) := by
  refine ⟨rfl, by omega, fun r k hr hk => ?_, fun r k hr hk => ?_⟩
  · show g (14 * r + k) = nI ((if r = n then q else R r) k)
    by_cases c : r = n
    · rw [if_pos c, c]
      exact h2 k hk
    · rw [if_neg c, h1 _ (by omega)]
      exact h.2.2.1 r k (by omega) hk
  · show (if r = n then q else R r) k ≤ 25
    by_cases c : r = n
    · rw [if_pos c]
      exact hq k hk
    · rw [if_neg c]
      exact h.2.2.2 r k (by omega) hk
theorem mu_rm {n : Nat} {R : Nat → Nat → Nat} {sc : Nat → Int32} {ar : Nat → Nat → Int32} {r : Nat} {g : Nat → Int32} (h : MU n R sc ar) (hr : r < n) (h1 : ∀ j, g j = if 14 * r ≤ j ∧ j < 14 * (n - 1) then ar 0 (j + 14) else ar 0 j) : MU (n - 1) (rmR R r) (va_up sc 0 (nI (n - 1))) (va_up ar 0 g) := by
  refine ⟨rfl, by have := h.2.1; omega, fun i k hi hk => ?_, fun i k hi hk => ?_⟩
  · show g (14 * i + k) = nI ((if i < r then R i else R (i + 1)) k)
    rw [h1]
    by_cases c : i < r
    · rw [if_pos c, if_neg (by omega)]
      exact h.2.2.1 i k (by omega) hk
    · rw [if_neg c, if_pos (by omega), show 14 * i + k + 14 = 14 * (i + 1) + k by omega]
      exact h.2.2.1 (i + 1) k (by omega) hk
  · show (if i < r then R i else R (i + 1)) k ≤ 25
    split
    · exact h.2.2.2 i k (by omega) hk
    · exact h.2.2.2 (i + 1) k (by omega) hk
theorem mu_ins {n : Nat} {R : Nat → Nat → Nat} {sc : Nat → Int32} {ar : Nat → Nat → Int32} {b : Nat} {q : Nat → Nat} {g : Nat → Int32} (h : MU n R sc ar) (hn : n < 24) (hb : b ≤ n) (hq : ∀ j, j < 14 → q j ≤ 25) (h1 : ∀ j, j < 14 * b → g j = ar 0 j) (h2 : ∀ j, j < 14 → g (14 * b + j) = nI (q j)) (h3 : ∀ j, 14 * b + 14 ≤ j → j < 14 * n + 14 → g j = ar 0 (j - 14)) : MU (n + 1) (insR R b q) (va_up sc 0 (nI (n + 1))) (va_up ar 0 g) := by
  refine ⟨rfl, by omega, fun i k hi hk => ?_, fun i k hi hk => ?_⟩
  · show g (14 * i + k) = nI ((if i < b then R i else if i = b then q else R (i - 1)) k)
    by_cases c : i < b
    · rw [if_pos c, h1 _ (by omega)]
      exact h.2.2.1 i k (by omega) hk
    · rw [if_neg c]
      by_cases d : i = b
      · rw [if_pos d, d]
        exact h2 k hk
      · rw [if_neg d, h3 _ (by omega) (by omega), show 14 * i + k - 14 = 14 * (i - 1) + k by omega]
        exact h.2.2.1 (i - 1) k (by omega) hk
  · show (if i < b then R i else if i = b then q else R (i - 1)) k ≤ 25
    split
    · exact h.2.2.2 i k (by omega) hk
    · split
      · exact hq k hk
      · exact h.2.2.2 (i - 1) k (by omega) hk
def fAdd (z : ST) (q : Nat → Nat) : Int32 := if z.1 = 24 then -4 else if anF (thB z.2.1 (nI (q 0)) (nI (q 1))) z.1 0 = true then -5 else nI z.1
def gAdd (z : ST) (q : Nat → Nat) : ST := if z.1 = 24 then z else if anF (thB z.2.1 (nI (q 0)) (nI (q 1))) z.1 0 = true then z else gAnew (z.1 + 1, addR z.2.1 z.1 q, z.2.2)
theorem ad_step {g f : Nat → Int32} {n i : Nat} {q : Nat → Nat} {v : Int32} (hi : 14 * n + i < 2 ^ 31) (h1 : ∀ j, j < 14 * n → g j = f j) (h2 : ∀ j, j < i → g (14 * n + j) = nI (q j)) (e : v = nI (q i)) : (∀ j, j < 14 * n → upd g (nI (14 * n + i)).toNatClampNeg v j = f j) ∧ (∀ j, j < i + 1 → upd g (nI (14 * n + i)).toNatClampNeg v (14 * n + j) = nI (q j)) := by
  rw [nI_clamp hi]
  refine ⟨fun j hj => ?_, fun j hj => ?_⟩
  · have : ¬ j = 14 * n + i := by omega
    simp [upd, this, h1 j hj]
  · by_cases c : j = i
    · simp [upd, c, e]
    · have : ¬ 14 * n + j = 14 * n + i := by omega
      simp [upd, c, h2 j (by omega)]
set_option maxHeartbeats 4000000 in
set_option maxRecDepth 100000 in
theorem c_X7_addFresh (l : Launch) (G : HG) (A : Nat → Prop) (hp : HP) (sz : Nat) (hA : ∀ q, sz ≤ q → A q) (hO : Ow A hp) (M : Nat → Nat) (sc : Nat → Int32) (ar : Nat → Nat → Int32) (sm : Nat → Int64) (hM : MR G hp M sc ar sm) (n : Nat) (R : Nat → Nat → Nat) (hd : Nat → Nat) (k : Nat) (cs : Nat → Nat → Int32) (sk : Bool) (pn : Nat) (pt : Nat → Nat) (hz : MST (n, R, hd, k, cs, sk, pn, pt) sc ar) (q9 : Nat → Nat) (hq : ∀ j, j < 14 → ar 10 j = nI (q9 j) ∧ q9 j ≤ 25) : Met l yX7_addFresh [.code yX7_addFresh cX7_addFresh 2 (some .int)] { frames := 2, cells := 0, slots := 0, locals := 46 } (va_Pc [.ref (M 0)] (WP G A sz hp)) (va_Qi (fun r hp1 => r = fAdd (n, R, hd, k, cs, sk, pn, pt) q9 ∧ ∃ sc1 ar1 sm1, MR G hp1 M sc1 ar1 sm1 ∧ MST (gAdd (n, R, hd, k, cs, sk, pn, pt) q9) sc1 ar1) (WB G A) A) 0 0 A := by
  refine wr_ofW (by decide) (Nat.le_of_ble_eq_true rfl) hO ?_
  intro p e s m args below meth c ls X hr hlk hnm hsz hW hl
  have hA : ∀ q, s.heap.size ≤ q → A q := fun q h => hA q (by omega)
  have hl : lv_has ls 2 [(0, .ref (M 0))] := hl
  have hT : MT ar := hz.1
  have hU : MU n R sc ar := hz.2.1
  have hH2 : MH hd ar := hz.2.2.1
  have hau : MAu k cs sk sc ar := hz.2.2.2.1
  have hP : MP pn pt sc ar := hz.2.2.2.2
  have hn := hU.2.1
  have hk := hau.2.1
  refine lv_aload_n X.1 X.2.1 dX7_addFresh_0 rfl (lv_at hl 0 rfl) ?_
  refine r_get X hW.1 hM.1 (v := .int (sc 0)) (C := RX7) (T := TX7) (N := 19) rfl tin_X7 1 (by decide) tw_844 (fun _ h => h) rfl dX7_addFresh_1 ?_
  refine r_eqi (show ((sc 0) : Int32) = nI n from hU.1) ?_
  refine lv_bipush (v := 24) X.1 X.2.1 dX7_addFresh_4 (by decide) ?_
  refine lv_icmp_ne (tgt := 12) X.1 X.2.1 dX7_addFresh_6 (by decide) (fun c_6 => ?_) (fun c_6 => ?_)
  · have k_6 := k_ne (a := n) (b := 24) (by omega) (by omega) c_6
    refine lv_aload_n X.1 X.2.1 dX7_addFresh_12 rfl (lv_at hl 0 rfl) ?_
    refine lv_aload_n X.1 X.2.1 dX7_addFresh_13 rfl (lv_at hl 0 rfl) ?_
    refine r_get X hW.1 hM.1 (v := .ref (M 11)) (C := RX7) (T := TX7) (N := 19) rfl tin_X7 14 (by decide) tw_857 (fun _ h => h) rfl dX7_addFresh_14 ?_
    refine lv_iconst (v := 0) X.1 X.2.1 dX7_addFresh_17 (by decide) ?_
    refine r_iald X hW.1 (hM.2.1 10 (by decide)) (show vp_in (0) 14 from vp_in_nI (n := 0) (by omega) (by decide)) dX7_addFresh_18 ?_
    refine r_eqi (show (((ar 10) (0 : Int32).toNatClampNeg) : Int32) = nI (q9 0) from by show ar 10 0 = _; exact (hq 0 (by omega)).1) ?_
    refine lv_aload_n X.1 X.2.1 dX7_addFresh_19 rfl (lv_at hl 0 rfl) ?_
    refine r_get X hW.1 hM.1 (v := .ref (M 11)) (C := RX7) (T := TX7) (N := 19) rfl tin_X7 14 (by decide) tw_857 (fun _ h => h) rfl dX7_addFresh_20 ?_
    refine lv_iconst (v := 1) X.1 X.2.1 dX7_addFresh_23 (by decide) ?_
    refine r_iald X hW.1 (hM.2.1 10 (by decide)) (show vp_in (1) 14 from vp_in_nI (n := 1) (by omega) (by decide)) dX7_addFresh_24 ?_
    refine r_eqi (show (((ar 10) (1 : Int32).toNatClampNeg) : Int32) = nI (q9 1) from by show ar 10 1 = _; exact (hq 1 (by omega)).1) ?_
    refine on_Si (run_V (C := RX7) (As := [.int (nI (q9 0)), .int (nI (q9 1))]) (rest := []) X (c_X7_isThere l G hp M sc ar sm hM n R hU (nI (q9 0)) (nI (q9 1)) ) (rp_blind _) (rp_at X hW.1 hW.2.2) (recv X hW.1 hM.1 (C := RX7) (T := TX7) (N := 19) rfl) mf_X7_isThere tw_918 tw_920 tw_29 ⟨rfl, rfl, Nat.le_of_ble_eq_true rfl, Nat.le_of_ble_eq_true rfl⟩ hl.1 rfl rfl (Nat.le_of_ble_eq_true rfl) ⟨Nat.le_of_ble_eq_true rfl, Nat.le_of_ble_eq_true rfl⟩ dX7_addFresh_25) (fun r_25 q_25 => ?_)
    obtain rfl : r_25 = (bI (anF (thB R (nI (q9 0)) (nI (q9 1))) n 0)) := q_25
    refine lv_if_eq (tgt := 34) X.1 X.2.1 dX7_addFresh_28 (by decide) (fun c_28 => ?_) (fun c_28 => ?_)
    · refine lv_iconst (v := 0) X.1 X.2.1 dX7_addFresh_34 (by decide) ?_
      refine lv_istore_n (lv' := [(1, .int 0), (0, .ref (M 0))]) X.1 X.2.1 dX7_addFresh_35 rfl hl (by decide) rfl (fun ls hl => ?_)
      have L36 : ∀ (f : Nat) (i : Nat) (hpL : HP) (H : Heap) (locs : List Loc) (g : Nat → Int32), MR G hpL M sc (va_up ar 0 g) sm → WS s G A hpL H locs → (i + f = 14) → ((∀ j, j < 14 * n → g j = ar 0 j) ∧ (∀ j, j < i → g (14 * n + j) = nI (q9 j))) → ∀ ls, lv_has ls 2 [(0, .ref (M 0)), (1, .int (nI i))] → W p l e ({ frames := 2, cells := 0, slots := 0, locals := 46 } : Room) s m args below meth c H locs 0 0 (MQ below (va_Qi (fun r hp1 => r = fAdd (n, R, hd, k, cs, sk, pn, pt) q9 ∧ ∃ sc1 ar1 sm1, MR G hp1 M sc1 ar1 sm1 ∧ MST (gAdd (n, R, hd, k, cs, sk, pn, pt) q9) sc1 ar1) (WB G A) A) args s 0 0 A) (F0 m 36 ls []) := by
        intro f
        induction f with
        | zero =>
          intro i hpL H locs g hM hW h0 h1 ls hl
          have h14 : i = 14 := by omega
          refine lv_iload_n X.1 X.2.1 dX7_addFresh_36 rfl (lv_at hl 1 rfl) ?_
          refine lv_bipush (v := 14) X.1 X.2.1 dX7_addFresh_37 (by decide) ?_
          refine lv_icmp_ge (tgt := 68) X.1 X.2.1 dX7_addFresh_39 (by decide) (fun c_39 => ?_) (fun c_39 => absurd (nI_le (a := 14) (b := i) (by omega) (by omega)) c_39)
          refine lv_aload_n X.1 X.2.1 dX7_addFresh_68 rfl (lv_at hl 0 rfl) ?_
          refine lv_dup X.1 X.2.1 dX7_addFresh_69 rfl ?_
          refine r_get X hW.1 hM.1 (v := .int (sc 0)) (C := RX7) (T := TX7) (N := 19) rfl tin_X7 1 (by decide) tw_844 (fun _ h => h) rfl dX7_addFresh_70 ?_
          refine r_eqi (show ((sc 0) : Int32) = nI n from hU.1) ?_
          refine lv_iconst (v := 1) X.1 X.2.1 dX7_addFresh_73 (by decide) ?_
          refine lv_iadd X.1 X.2.1 dX7_addFresh_74 ?_
          refine r_eqi (show (((nI n) + 1) : Int32) = nI (n + 1) from nI_add n 1) ?_
          refine r_put X hW hM.1 (v := .int (nI (n + 1))) (C := RX7) (T := TX7) (N := 19) rfl tin_X7 tyX7_ok nmX7 1 (Nat.le_of_ble_eq_true rfl) tw_844 (fun _ h => h) rfl rfl rfl (Nat.le_of_ble_eq_true rfl) dX7_addFresh_75 (fun hp_1 H locs hW eh_2 => ?_)
          have hM := mr_sc0 hM eh_2
          refine lv_aload_n X.1 X.2.1 dX7_addFresh_78 rfl (lv_at hl 0 rfl) ?_
          refine on_Wv (k' := 0) (n' := 0) (run_V (C := RX7) (As := []) (rest := []) X (c_X7_anew l G A hp_1 _ (fun q h => hA q (Nat.le_trans hW.2.2.1 h)) hW.2.1 M (va_up sc 0 (nI (n + 1))) (va_up ar 0 g) sm hM) (wp_blind _) (wp_at X hW.1 hW.2.2) (recv X hW.1 hM.1 (C := RX7) (T := TX7) (N := 19) rfl) mf_X7_anew tw_839 tw_841 tw_26 ⟨rfl, rfl, Nat.le_of_ble_eq_true rfl, Nat.le_of_ble_eq_true rfl⟩ hl.1 rfl rfl (Nat.le_of_ble_eq_true rfl) ⟨Nat.le_of_ble_eq_true rfl, Nat.le_of_ble_eq_true rfl⟩ dX7_addFresh_79) hW (by omega) (by omega) (fun hp_3 H locs q_79 hW => ?_)
          have hM := q_79
          refine lv_aload_n X.1 X.2.1 dX7_addFresh_82 rfl (lv_at hl 0 rfl) ?_
          refine r_get X hW.1 hM.1 (v := .int ((anS (va_up sc 0 (nI (n + 1)))) 0)) (C := RX7) (T := TX7) (N := 19) rfl tin_X7 1 (by decide) tw_844 (fun _ h => h) rfl dX7_addFresh_83 ?_
          refine lv_iconst (v := 1) X.1 X.2.1 dX7_addFresh_86 (by decide) ?_
          refine lv_isub X.1 X.2.1 dX7_addFresh_87 ?_
          refine r_eqi (show ((((anS (va_up sc 0 (nI (n + 1)))) 0) - 1) : Int32) = nI n from (pk_sub (a := n + 1) (b := 1) (by omega)).trans (by rw [Nat.add_sub_cancel])) ?_
          exact wr_i X hr hlk hW ⟨((if_neg k_6).trans (if_neg (fun q => Bool.false_ne_true ((bI_0 c_28).symm.trans q)))).symm, _, _, _, hM, by rw [show gAdd (n, R, hd, k, cs, sk, pn, pt) q9 = gAnew (n + 1, addR R n q9, hd, k, cs, sk, pn, pt) from (if_neg k_6).trans (if_neg (fun q => Bool.false_ne_true ((bI_0 c_28).symm.trans q)))]; exact MST.anew (z := (n + 1, addR R n q9, hd, k, cs, sk, pn, pt)) ⟨hT, mu_add hU (by omega) (fun j hj => (hq j hj).2) h1.1 (fun j hj => h1.2 j (by omega)), hH2, hau, hP⟩⟩ (Nat.le_of_ble_eq_true rfl) (Nat.le_of_ble_eq_true rfl) dX7_addFresh_88
        | succ f ih =>
          intro i hpL H locs g hM hW h0 h1 ls hl
          have h14 : i < 14 := by omega
          refine lv_iload_n X.1 X.2.1 dX7_addFresh_36 rfl (lv_at hl 1 rfl) ?_
          refine lv_bipush (v := 14) X.1 X.2.1 dX7_addFresh_37 (by decide) ?_
          refine lv_icmp_ge (tgt := 68) X.1 X.2.1 dX7_addFresh_39 (by decide) (fun c_39 => absurd c_39 (nI_ge (a := i) (b := 14) (by omega) (by decide))) (fun c_39 => ?_)
          refine lv_aload_n X.1 X.2.1 dX7_addFresh_42 rfl (lv_at hl 0 rfl) ?_
          refine r_get X hW.1 hM.1 (v := .ref (M 1)) (C := RX7) (T := TX7) (N := 19) rfl tin_X7 0 (by decide) tw_843 (fun _ h => h) rfl dX7_addFresh_43 ?_
          refine lv_bipush (v := 14) X.1 X.2.1 dX7_addFresh_46 (by decide) ?_
          refine lv_aload_n X.1 X.2.1 dX7_addFresh_48 rfl (lv_at hl 0 rfl) ?_
          refine r_get X hW.1 hM.1 (v := .int (sc 0)) (C := RX7) (T := TX7) (N := 19) rfl tin_X7 1 (by decide) tw_844 (fun _ h => h) rfl dX7_addFresh_49 ?_
          refine r_eqi (show ((sc 0) : Int32) = nI n from hU.1) ?_
          refine lv_imul X.1 X.2.1 dX7_addFresh_52 ?_
          refine r_eqi (show (((14 : Int32) * (nI n)) : Int32) = nI (14 * n) from pk_mul 14 n) ?_
          refine lv_iload_n X.1 X.2.1 dX7_addFresh_53 rfl (lv_at hl 1 rfl) ?_
          refine lv_iadd X.1 X.2.1 dX7_addFresh_54 ?_
          refine r_eqi (show (((nI (14 * n)) + (nI i)) : Int32) = nI ((14 * n) + i) from nI_add (14 * n) i) ?_
          refine lv_aload_n X.1 X.2.1 dX7_addFresh_55 rfl (lv_at hl 0 rfl) ?_
          refine r_get X hW.1 hM.1 (v := .ref (M 11)) (C := RX7) (T := TX7) (N := 19) rfl tin_X7 14 (by decide) tw_857 (fun _ h => h) rfl dX7_addFresh_56 ?_
          refine lv_iload_n X.1 X.2.1 dX7_addFresh_59 rfl (lv_at hl 1 rfl) ?_
          refine r_iald X hW.1 (hM.2.1 10 (by decide)) (show vp_in ((nI i)) 14 from vp_in_nI (n := i) (by omega) (by decide)) dX7_addFresh_60 ?_
          refine r_eqi (show (((ar 10) (nI i).toNatClampNeg) : Int32) = nI (q9 i) from by rw [nI_clamp (by omega)]; exact (hq i (by omega)).1) ?_
          refine r_iast X hW (hM.2.1 0 (by decide)) (show vp_in ((nI ((14 * n) + i))) 336 from vp_in_nI (n := ((14 * n) + i)) (by omega) (by decide)) dX7_addFresh_61 (fun hp_4 H locs hW eh_5 => ?_)
          have hM := mr_ar hM 0 (by decide) eh_5
          refine lv_iinc (v := (nI (i + 1))) (lv' := [(1, .int (nI (i + 1))), (0, .ref (M 0))]) X.1 X.2.1 dX7_addFresh_62 hl (k := 1) rfl (nI_add i 1) (by decide) rfl (fun ls hl => ?_)
          refine lv_goto (tgt := 36) X.1 X.2.1 dX7_addFresh_65 (by decide) ?_
          exact ih (i + 1) _ _ _ _ (mr_uu hM) hW (by omega) (ad_step (by omega) h1.1 h1.2 rfl) ls (lv_sub hl [1, 0] rfl)
      exact L36 14 0 _ _ _ _ (mr_id 0 hM) hW rfl ⟨fun j _ => rfl, fun j hj => absurd hj (Nat.not_lt_zero j)⟩ ls (lv_sub hl [1, 0] rfl)
    · refine lv_bipush (v := (-5)) X.1 X.2.1 dX7_addFresh_31 (by decide) ?_
      exact wr_i X hr hlk hW ⟨((if_neg k_6).trans (if_pos (bI_1 c_28))).symm, _, _, _, hM, by rw [show gAdd (n, R, hd, k, cs, sk, pn, pt) q9 = (n, R, hd, k, cs, sk, pn, pt) from (if_neg k_6).trans (if_pos (bI_1 c_28))]; exact hz⟩ (Nat.le_of_ble_eq_true rfl) (Nat.le_of_ble_eq_true rfl) dX7_addFresh_33
  · have k_6 := k_eq (a := n) (b := 24) (by omega) (by omega) c_6
    refine lv_bipush (v := (-4)) X.1 X.2.1 dX7_addFresh_9 (by decide) ?_
    exact wr_i X hr hlk hW ⟨(if_pos k_6).symm, _, _, _, hM, by rw [show gAdd (n, R, hd, k, cs, sk, pn, pt) q9 = (n, R, hd, k, cs, sk, pn, pt) from if_pos k_6]; exact hz⟩ (Nat.le_of_ble_eq_true rfl) (Nat.le_of_ble_eq_true rfl) dX7_addFresh_11

def rwN (a b d q : Nat) (j : Nat) : Nat := if j = 0 then a else if j = 1 then b else if j = 2 then d else if j = 3 then q else frN j
theorem rw_ok {g : Nat → Int32} {a b d q : Nat} (hg : ∀ j, 4 ≤ j → j < 14 → g j = nI (frN j)) (ha : a ≤ 7) (hb : b ≤ 25) (hd : d ≤ 7) (hq : q ≤ 1) : ∀ j, j < 14 → upd (upd (upd (upd g (0 : Int32).toNatClampNeg (nI a)) (1 : Int32).toNatClampNeg (nI b)) (2 : Int32).toNatClampNeg (nI d)) (3 : Int32).toNatClampNeg (nI q) j = nI (rwN a b d q j) ∧ rwN a b d q j ≤ 25 := by
  intro j hj
  show upd (upd (upd (upd g 0 (nI a)) 1 (nI b)) 2 (nI d)) 3 (nI q) j = _ ∧ _
  have := frN_le j
  unfold rwN upd
  by_cases c3 : j = 3
  · subst c3; exact ⟨rfl, by show q ≤ 25; omega⟩
  by_cases c2 : j = 2
  · subst c2; exact ⟨rfl, by show d ≤ 25; omega⟩
  by_cases c1 : j = 1
  · subst c1; exact ⟨rfl, by show b ≤ 25; omega⟩
  by_cases c0 : j = 0
  · subst c0; exact ⟨rfl, by show a ≤ 25; omega⟩
  rw [if_neg c3, if_neg c2, if_neg c1, if_neg c0, if_neg c0, if_neg c1, if_neg c2, if_neg c3]
  exact ⟨hg j (by omega) hj, this⟩
def fRule (z : ST) (a b d q : Int32) : Int32 := if inI a 0 7 = 0 ∨ inI b 0 25 = 0 ∨ inI d 0 7 = 0 ∨ inI q 0 1 = 0 then -2 else fAdd z (rwN (tn a) (tn b) (tn d) (tn q))
def gRule (z : ST) (a b d q : Int32) : ST := if inI a 0 7 = 0 ∨ inI b 0 25 = 0 ∨ inI d 0 7 = 0 ∨ inI q 0 1 = 0 then z else gAdd z (rwN (tn a) (tn b) (tn d) (tn q))
set_option maxHeartbeats 4000000 in
set_option maxRecDepth 100000 in
theorem c_X7_rule (l : Launch) (G : HG) (A : Nat → Prop) (hp : HP) (sz : Nat) (hA : ∀ q, sz ≤ q → A q) (hO : Ow A hp) (M : Nat → Nat) (sc : Nat → Int32) (ar : Nat → Nat → Int32) (sm : Nat → Int64) (hM : MR G hp M sc ar sm) (n : Nat) (R : Nat → Nat → Nat) (hd : Nat → Nat) (k : Nat) (cs : Nat → Nat → Int32) (sk : Bool) (pn : Nat) (pt : Nat → Nat) (hz : MST (n, R, hd, k, cs, sk, pn, pt) sc ar) (a b d q : Int32) : Met l yX7_rule [.code yX7_rule cX7_rule 5 (some .int)] { frames := 3, cells := 0, slots := 0, locals := 67 } (va_Pc [.ref (M 0), .int a, .int b, .int d, .int q] (WP G A sz hp)) (va_Qi (fun r hp1 => r = fRule (n, R, hd, k, cs, sk, pn, pt) a b d q ∧ ∃ sc1 ar1 sm1, MR G hp1 M sc1 ar1 sm1 ∧ MST (gRule (n, R, hd, k, cs, sk, pn, pt) a b d q) sc1 ar1) (WB G A) A) 0 0 A := by
  refine wr_ofW (by decide) (Nat.le_of_ble_eq_true rfl) hO ?_
  intro p e s m args below meth c ls X hr hlk hnm hsz hW hl
  have hA : ∀ q, s.heap.size ≤ q → A q := fun q h => hA q (by omega)
  have hl : lv_has ls 5 [(0, .ref (M 0)), (1, .int a), (2, .int b), (3, .int d), (4, .int q)] := hl
  have hT : MT ar := hz.1
  have hU : MU n R sc ar := hz.2.1
  have hH2 : MH hd ar := hz.2.2.1
  have hau : MAu k cs sk sc ar := hz.2.2.2.1
  have hP : MP pn pt sc ar := hz.2.2.2.2
  have hn := hU.2.1
  have hk := hau.2.1
  refine lv_iload_n X.1 X.2.1 dX7_rule_0 rfl (lv_at hl 1 rfl) ?_
  refine lv_iconst (v := 0) X.1 X.2.1 dX7_rule_1 (by decide) ?_
  refine lv_bipush (v := 7) X.1 X.2.1 dX7_rule_2 (by decide) ?_
  refine on_Si (run_S (As := [.int a, .int 0, .int 7]) (rest := []) X (c_X7_in l G hp a 0 7) (rp_blind _) (rp_at X hW.1 hW.2.2) mf_X7_in tw_907 tw_908 ⟨rfl, rfl, Nat.le_of_ble_eq_true rfl, Nat.le_of_ble_eq_true rfl⟩ hl.1 rfl rfl (Nat.le_of_ble_eq_true rfl) ⟨Nat.le_of_ble_eq_true rfl, Nat.le_of_ble_eq_true rfl⟩ dX7_rule_4) (fun r_4 q_4 => ?_)
  obtain rfl : r_4 = (inI a 0 7) := q_4
  refine lv_if_eq (tgt := 40) X.1 X.2.1 dX7_rule_7 (by decide) (fun c_7 => ?_) (fun c_7 => ?_)
  · refine lv_bipush (v := (-2)) X.1 X.2.1 dX7_rule_40 (by decide) ?_
    exact wr_i X hr hlk hW ⟨(if_pos (Or.inl c_7)).symm, _, _, _, hM, by rw [show gRule (n, R, hd, k, cs, sk, pn, pt) a b d q = (n, R, hd, k, cs, sk, pn, pt) from if_pos (Or.inl c_7)]; exact hz⟩ (Nat.le_of_ble_eq_true rfl) (Nat.le_of_ble_eq_true rfl) dX7_rule_42
  · obtain ⟨xa, hxa, rfl⟩ := inI_nat (hi := 7) c_7 (by decide)
    refine lv_iload_n X.1 X.2.1 dX7_rule_10 rfl (lv_at hl 2 rfl) ?_
    refine lv_iconst (v := 0) X.1 X.2.1 dX7_rule_11 (by decide) ?_
    refine lv_bipush (v := 25) X.1 X.2.1 dX7_rule_12 (by decide) ?_
    refine on_Si (run_S (As := [.int b, .int 0, .int 25]) (rest := []) X (c_X7_in l G hp b 0 25) (rp_blind _) (rp_at X hW.1 hW.2.2) mf_X7_in tw_907 tw_908 ⟨rfl, rfl, Nat.le_of_ble_eq_true rfl, Nat.le_of_ble_eq_true rfl⟩ hl.1 rfl rfl (Nat.le_of_ble_eq_true rfl) ⟨Nat.le_of_ble_eq_true rfl, Nat.le_of_ble_eq_true rfl⟩ dX7_rule_14) (fun r_14 q_14 => ?_)
    obtain rfl : r_14 = (inI b 0 25) := q_14
    refine lv_if_eq (tgt := 40) X.1 X.2.1 dX7_rule_17 (by decide) (fun c_17 => ?_) (fun c_17 => ?_)
    · refine lv_bipush (v := (-2)) X.1 X.2.1 dX7_rule_40 (by decide) ?_
      exact wr_i X hr hlk hW ⟨(if_pos (Or.inr (Or.inl c_17))).symm, _, _, _, hM, by rw [show gRule (n, R, hd, k, cs, sk, pn, pt) (nI xa) b d q = (n, R, hd, k, cs, sk, pn, pt) from if_pos (Or.inr (Or.inl c_17))]; exact hz⟩ (Nat.le_of_ble_eq_true rfl) (Nat.le_of_ble_eq_true rfl) dX7_rule_42
    · obtain ⟨xb, hxb, rfl⟩ := inI_nat (hi := 25) c_17 (by decide)
      refine lv_iload_n X.1 X.2.1 dX7_rule_20 rfl (lv_at hl 3 rfl) ?_
      refine lv_iconst (v := 0) X.1 X.2.1 dX7_rule_21 (by decide) ?_
      refine lv_bipush (v := 7) X.1 X.2.1 dX7_rule_22 (by decide) ?_
      refine on_Si (run_S (As := [.int d, .int 0, .int 7]) (rest := []) X (c_X7_in l G hp d 0 7) (rp_blind _) (rp_at X hW.1 hW.2.2) mf_X7_in tw_907 tw_908 ⟨rfl, rfl, Nat.le_of_ble_eq_true rfl, Nat.le_of_ble_eq_true rfl⟩ hl.1 rfl rfl (Nat.le_of_ble_eq_true rfl) ⟨Nat.le_of_ble_eq_true rfl, Nat.le_of_ble_eq_true rfl⟩ dX7_rule_24) (fun r_24 q_24 => ?_)
      obtain rfl : r_24 = (inI d 0 7) := q_24
      refine lv_if_eq (tgt := 40) X.1 X.2.1 dX7_rule_27 (by decide) (fun c_27 => ?_) (fun c_27 => ?_)
      · refine lv_bipush (v := (-2)) X.1 X.2.1 dX7_rule_40 (by decide) ?_
        exact wr_i X hr hlk hW ⟨(if_pos (Or.inr (Or.inr (Or.inl c_27)))).symm, _, _, _, hM, by rw [show gRule (n, R, hd, k, cs, sk, pn, pt) (nI xa) (nI xb) d q = (n, R, hd, k, cs, sk, pn, pt) from if_pos (Or.inr (Or.inr (Or.inl c_27)))]; exact hz⟩ (Nat.le_of_ble_eq_true rfl) (Nat.le_of_ble_eq_true rfl) dX7_rule_42
      · obtain ⟨xd, hxd, rfl⟩ := inI_nat (hi := 7) c_27 (by decide)
        refine lv_iload X.1 X.2.1 dX7_rule_30 (lv_at hl 4 rfl) ?_
        refine lv_iconst (v := 0) X.1 X.2.1 dX7_rule_32 (by decide) ?_
        refine lv_iconst (v := 1) X.1 X.2.1 dX7_rule_33 (by decide) ?_
        refine on_Si (run_S (As := [.int q, .int 0, .int 1]) (rest := []) X (c_X7_in l G hp q 0 1) (rp_blind _) (rp_at X hW.1 hW.2.2) mf_X7_in tw_907 tw_908 ⟨rfl, rfl, Nat.le_of_ble_eq_true rfl, Nat.le_of_ble_eq_true rfl⟩ hl.1 rfl rfl (Nat.le_of_ble_eq_true rfl) ⟨Nat.le_of_ble_eq_true rfl, Nat.le_of_ble_eq_true rfl⟩ dX7_rule_34) (fun r_34 q_34 => ?_)
        obtain rfl : r_34 = (inI q 0 1) := q_34
        refine lv_if_ne (tgt := 43) X.1 X.2.1 dX7_rule_37 (by decide) (fun c_37 => ?_) (fun c_37 => ?_)
        · obtain ⟨xq, hxq, rfl⟩ := inI_nat (hi := 1) c_37 (by decide)
          refine lv_aload_n X.1 X.2.1 dX7_rule_43 rfl (lv_at hl 0 rfl) ?_
          refine on_Wv (k' := 0) (n' := 0) (run_V (C := RX7) (As := []) (rest := []) X (c_X7_clearFresh l G A hp _ (fun q h => hA q (Nat.le_trans hW.2.2.1 h)) hW.2.1 M sc ar sm hM) (wp_blind _) (wp_at X hW.1 hW.2.2) (recv X hW.1 hM.1 (C := RX7) (T := TX7) (N := 19) rfl) mf_X7_clearFresh tw_910 tw_912 tw_27 ⟨rfl, rfl, Nat.le_of_ble_eq_true rfl, Nat.le_of_ble_eq_true rfl⟩ hl.1 rfl rfl (Nat.le_of_ble_eq_true rfl) ⟨Nat.le_of_ble_eq_true rfl, Nat.le_of_ble_eq_true rfl⟩ dX7_rule_44) hW (by omega) (by omega) (fun hp_1 H locs q_44 hW => ?_)
          obtain ⟨g, hM, hg⟩ := q_44
          refine lv_aload_n X.1 X.2.1 dX7_rule_47 rfl (lv_at hl 0 rfl) ?_
          refine r_get X hW.1 hM.1 (v := .ref (M 11)) (C := RX7) (T := TX7) (N := 19) rfl tin_X7 14 (by decide) tw_857 (fun _ h => h) rfl dX7_rule_48 ?_
          refine lv_iconst (v := 0) X.1 X.2.1 dX7_rule_51 (by decide) ?_
          refine lv_iload_n X.1 X.2.1 dX7_rule_52 rfl (lv_at hl 1 rfl) ?_
          refine r_iast X hW (hM.2.1 10 (by decide)) (show vp_in (0) 14 from vp_in_nI (n := 0) (by omega) (by decide)) dX7_rule_53 (fun hp_2 H locs hW eh_3 => ?_)
          have hM := mr_ar hM 10 (by decide) eh_3
          refine lv_aload_n X.1 X.2.1 dX7_rule_54 rfl (lv_at hl 0 rfl) ?_
          refine r_get X hW.1 hM.1 (v := .ref (M 11)) (C := RX7) (T := TX7) (N := 19) rfl tin_X7 14 (by decide) tw_857 (fun _ h => h) rfl dX7_rule_55 ?_
          refine lv_iconst (v := 1) X.1 X.2.1 dX7_rule_58 (by decide) ?_
          refine lv_iload_n X.1 X.2.1 dX7_rule_59 rfl (lv_at hl 2 rfl) ?_
          refine r_iast X hW (hM.2.1 10 (by decide)) (show vp_in (1) 14 from vp_in_nI (n := 1) (by omega) (by decide)) dX7_rule_60 (fun hp_4 H locs hW eh_5 => ?_)
          have hM := mr_ar hM 10 (by decide) eh_5
          refine lv_aload_n X.1 X.2.1 dX7_rule_61 rfl (lv_at hl 0 rfl) ?_
          refine r_get X hW.1 hM.1 (v := .ref (M 11)) (C := RX7) (T := TX7) (N := 19) rfl tin_X7 14 (by decide) tw_857 (fun _ h => h) rfl dX7_rule_62 ?_
          refine lv_iconst (v := 2) X.1 X.2.1 dX7_rule_65 (by decide) ?_
          refine lv_iload_n X.1 X.2.1 dX7_rule_66 rfl (lv_at hl 3 rfl) ?_
          refine r_iast X hW (hM.2.1 10 (by decide)) (show vp_in (2) 14 from vp_in_nI (n := 2) (by omega) (by decide)) dX7_rule_67 (fun hp_6 H locs hW eh_7 => ?_)
          have hM := mr_ar hM 10 (by decide) eh_7
          refine lv_aload_n X.1 X.2.1 dX7_rule_68 rfl (lv_at hl 0 rfl) ?_
          refine r_get X hW.1 hM.1 (v := .ref (M 11)) (C := RX7) (T := TX7) (N := 19) rfl tin_X7 14 (by decide) tw_857 (fun _ h => h) rfl dX7_rule_69 ?_
          refine lv_iconst (v := 3) X.1 X.2.1 dX7_rule_72 (by decide) ?_
          refine lv_iload X.1 X.2.1 dX7_rule_73 (lv_at hl 4 rfl) ?_
          refine r_iast X hW (hM.2.1 10 (by decide)) (show vp_in (3) 14 from vp_in_nI (n := 3) (by omega) (by decide)) dX7_rule_75 (fun hp_8 H locs hW eh_9 => ?_)
          have hM := mr_ar hM 10 (by decide) eh_9
          refine lv_aload_n X.1 X.2.1 dX7_rule_76 rfl (lv_at hl 0 rfl) ?_
          refine on_Wi (k' := 0) (n' := 0) (run_V (C := RX7) (As := []) (rest := []) X (c_X7_addFresh l G A hp_8 _ (fun q h => hA q (Nat.le_trans hW.2.2.1 h)) hW.2.1 M sc (va_up (va_up (va_up (va_up (va_up ar 10 g) 10 (upd g (0 : Int32).toNatClampNeg (nI xa))) 10 (upd (upd g (0 : Int32).toNatClampNeg (nI xa)) (1 : Int32).toNatClampNeg (nI xb))) 10 (upd (upd (upd g (0 : Int32).toNatClampNeg (nI xa)) (1 : Int32).toNatClampNeg (nI xb)) (2 : Int32).toNatClampNeg (nI xd))) 10 (upd (upd (upd (upd g (0 : Int32).toNatClampNeg (nI xa)) (1 : Int32).toNatClampNeg (nI xb)) (2 : Int32).toNatClampNeg (nI xd)) (3 : Int32).toNatClampNeg (nI xq))) sm hM n R hd k cs sk pn pt hz (rwN xa xb xd xq) (rw_ok hg (by omega) (by omega) (by omega) (by omega))) (wp_blind _) (wp_at X hW.1 hW.2.2) (recv X hW.1 hM.1 (C := RX7) (T := TX7) (N := 19) rfl) mf_X7_addFresh tw_914 tw_916 tw_28 ⟨rfl, rfl, Nat.le_of_ble_eq_true rfl, Nat.le_of_ble_eq_true rfl⟩ hl.1 rfl rfl (Nat.le_of_ble_eq_true rfl) ⟨Nat.le_of_ble_eq_true rfl, Nat.le_of_ble_eq_true rfl⟩ dX7_rule_77) hW (by omega) (by omega) (fun r_77 hp_10 H locs q_77 hW => ?_)
          obtain ⟨rfl, sc3, ar3, sm3, hM, hz⟩ := q_77
          exact wr_i X hr hlk hW ⟨(by rw [show fRule (n, R, hd, k, cs, sk, pn, pt) (nI xa) (nI xb) (nI xd) (nI xq) = _ from if_neg (fun z9 => Or.elim z9 c_7 (fun z9 => Or.elim z9 c_17 (fun z9 => Or.elim z9 c_27 c_37))), tn_n (by omega), tn_n (by omega), tn_n (by omega), tn_n (by omega)]), _, _, _, hM, by rw [show gRule (n, R, hd, k, cs, sk, pn, pt) (nI xa) (nI xb) (nI xd) (nI xq) = _ from if_neg (fun z9 => Or.elim z9 c_7 (fun z9 => Or.elim z9 c_17 (fun z9 => Or.elim z9 c_27 c_37))), tn_n (by omega), tn_n (by omega), tn_n (by omega), tn_n (by omega)]; exact hz⟩ (Nat.le_of_ble_eq_true rfl) (Nat.le_of_ble_eq_true rfl) dX7_rule_80
        · refine lv_bipush (v := (-2)) X.1 X.2.1 dX7_rule_40 (by decide) ?_
          exact wr_i X hr hlk hW ⟨(if_pos (Or.inr (Or.inr (Or.inr c_37)))).symm, _, _, _, hM, by rw [show gRule (n, R, hd, k, cs, sk, pn, pt) (nI xa) (nI xb) (nI xd) q = (n, R, hd, k, cs, sk, pn, pt) from if_pos (Or.inr (Or.inr (Or.inr c_37)))]; exact hz⟩ (Nat.le_of_ble_eq_true rfl) (Nat.le_of_ble_eq_true rfl) dX7_rule_42

