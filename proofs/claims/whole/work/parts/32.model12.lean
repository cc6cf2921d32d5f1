theorem sumF_no {P : Nat → Bool} (f : Nat → Nat) {i : Nat} (h : ¬ P (HL i) = true) : sumF P f (i + 1) = sumF P f i := by
  show sumF P f i + (if P (HL i) = true then f (HL i) else 0) = _
  rw [if_neg h]; rfl
theorem va_uu {α : Type} (f : Nat → α) (i : Nat) (a b : α) : va_up (va_up f i a) i b = va_up f i b := by
  funext j
  unfold va_up
  by_cases c : j = i
  · rw [if_pos c, if_pos c]
  · rw [if_neg c, if_neg c, if_neg c]
/-- how many hands of the other partner, and the sums of tricks with them -/
def hmN (n : Nat) (R : Nat → Nat → Nat) (hd : Nat → Nat) (k : Nat) (cs : Nat → Nat → Int32) (sk : Bool) (p : Nat) : Nat := cntF (hidB n R k cs sk (1 - p) (hd p)) 15504
def suT (n : Nat) (R : Nat → Nat → Nat) (hd : Nat → Nat) (k : Nat) (cs : Nat → Nat → Int32) (sk : Bool) (p t : Nat) : Nat := sumF (hidB n R k cs sk (1 - p) (hd p)) (trN t (hd p)) 15504
theorem suT_le (n : Nat) (R : Nat → Nat → Nat) (hd : Nat → Nat) (k : Nat) (cs : Nat → Nat → Int32) (sk : Bool) (p t : Nat) : suT n R hd k cs sk p t ≤ 5 * hmN n R hd k cs sk p := by
  unfold suT hmN
  generalize (15504 : Nat) = N
  exact sumF_le _ _ (trN_le t (hd p)) N
theorem hmN_le (n : Nat) (R : Nat → Nat → Nat) (hd : Nat → Nat) (k : Nat) (cs : Nat → Nat → Int32) (sk : Bool) (p : Nat) : hmN n R hd k cs sk p ≤ 15504 := by
  unfold hmN
  generalize (15504 : Nat) = N
  exact cntF_le _ _
theorem sm_step {g : Nat → Int64} {F F' : Nat → Nat} {i : Nat} {v : Int64} (hi : i < 5) (h : ∀ j, j < 5 → g j = lN (if j < i then F' j else F j)) (e : v = lN (F' i)) : ∀ j, j < 5 → vp_updL g (nI i).toNatClampNeg v j = lN (if j < i + 1 then F' j else F j) := by
  intro j hj
  rw [nI_clamp (by omega)]
  by_cases c : j = i
  · subst c
    rw [if_pos (by omega)]
    simp [vp_updL, e]
  · have := h j hj
    by_cases d : j < i
    · rw [if_pos (by omega)]
      rw [if_pos d] at this
      simp [vp_updL, c, this]
    · rw [if_neg (by omega)]
      rw [if_neg d] at this
      simp [vp_updL, c, this]
set_option maxHeartbeats 4000000 in
set_option maxRecDepth 100000 in
theorem c_X7_laySums (l : Launch) (G : HG) (A : Nat → Prop) (hp : HP) (sz : Nat) (hA : ∀ q, sz ≤ q → A q) (hO : Ow A hp) (M : Nat → Nat) (sc : Nat → Int32) (ar : Nat → Nat → Int32) (sm : Nat → Int64) (hM : MR G hp M sc ar sm) (hT : MT ar) (n : Nat) (R : Nat → Nat → Nat) (hU : MU n R sc ar) (hd : Nat → Nat) (hH2 : MH hd ar) (k : Nat) (cs : Nat → Nat → Int32) (sk : Bool) (hau : MAu k cs sk sc ar) (p9 : Nat) (hp9 : p9 < 2) : Met l yX7_laySums [.code yX7_laySums cX7_laySums 5 none] { frames := 4, cells := 0, slots := 0, locals := 96 } (va_Pc [.ref (M 0), .int (nI p9)] (WP G A sz hp)) (va_Qv (fun hp1 => ∃ sm1, MR G hp1 M (va_up sc 4 (nI (hmN n R hd k cs sk p9))) ar sm1 ∧ ∀ j, j < 5 → sm1 j = lN (suT n R hd k cs sk p9 j)) (WB G A) A) 0 0 A := by
  refine wr_ofW (by decide) (Nat.le_of_ble_eq_true rfl) hO ?_
  intro p e s m args below meth c ls X hr hlk hnm hsz hW hl
  have hA : ∀ q, s.heap.size ≤ q → A q := fun q h => hA q (by omega)
  have hl : lv_has ls 5 [(0, .ref (M 0)), (1, .int (nI p9))] := hl
  have hn := hU.2.1
  have hk := hau.2.1
  have hhd := hH2.2 p9 hp9
  refine lv_aload_n X.1 X.2.1 dX7_laySums_0 rfl (lv_at hl 0 rfl) ?_
  refine lv_iconst (v := 0) X.1 X.2.1 dX7_laySums_1 (by decide) ?_
  refine r_put X hW hM.1 (v := .int 0) (C := RX7) (T := TX7) (N := 19) rfl tin_X7 tyX7_ok nmX7 16 (Nat.le_of_ble_eq_true rfl) tw_859 (fun _ h => h) rfl rfl rfl (Nat.le_of_ble_eq_true rfl) dX7_laySums_2 (fun hp_1 H locs hW eh_2 => ?_)
  have hM := mr_sc4 hM eh_2
  refine lv_iconst (v := 0) X.1 X.2.1 dX7_laySums_5 (by decide) ?_
  refine lv_istore_n (lv' := [(2, .int 0), (0, .ref (M 0)), (1, .int (nI p9))]) X.1 X.2.1 dX7_laySums_6 rfl hl (by decide) rfl (fun ls hl => ?_)
  refine lv_iload_n X.1 X.2.1 dX7_laySums_7 rfl (lv_at hl 0 rfl) ?_
  refine lv_iconst (v := 5) X.1 X.2.1 dX7_laySums_8 (by decide) ?_
  refine lv_icmp_ge (tgt := 25) X.1 X.2.1 dX7_laySums_9 (by decide) (fun c_9 => absurd c_9 (by decide)) (fun c_9 => ?_)
  refine lv_aload_n X.1 X.2.1 dX7_laySums_12 rfl (lv_at hl 1 rfl) ?_
  refine r_get X hW.1 hM.1 (v := .ref (M 12)) (C := RX7) (T := TX7) (N := 19) rfl tin_X7 15 (by decide) tw_858 (fun _ h => h) rfl dX7_laySums_13 ?_
  refine lv_iload_n X.1 X.2.1 dX7_laySums_16 rfl (lv_at hl 0 rfl) ?_
  refine lv_lconst (v := 0) X.1 X.2.1 dX7_laySums_17 (by decide) ?_
  refine r_last X hW hM.2.2.1 (show vp_in (0) 5 from vp_in_nI (n := 0) (by omega) (by decide)) dX7_laySums_18 (fun hp_3 H locs hW eh_4 => ?_)
  have hM := mr_sm hM eh_4
  refine lv_iinc (v := 1) (lv' := [(2, .int 1), (0, .ref (M 0)), (1, .int (nI p9))]) X.1 X.2.1 dX7_laySums_19 hl (k := 0) rfl (by decide) (by decide) rfl (fun ls hl => ?_)
  refine lv_goto (tgt := 7) X.1 X.2.1 dX7_laySums_22 (by decide) ?_
  refine lv_iload_n X.1 X.2.1 dX7_laySums_7 rfl (lv_at hl 0 rfl) ?_
  refine lv_iconst (v := 5) X.1 X.2.1 dX7_laySums_8 (by decide) ?_
  refine lv_icmp_ge (tgt := 25) X.1 X.2.1 dX7_laySums_9 (by decide) (fun c_9 => absurd c_9 (by decide)) (fun c_9 => ?_)
  refine lv_aload_n X.1 X.2.1 dX7_laySums_12 rfl (lv_at hl 1 rfl) ?_
  refine r_get X hW.1 hM.1 (v := .ref (M 12)) (C := RX7) (T := TX7) (N := 19) rfl tin_X7 15 (by decide) tw_858 (fun _ h => h) rfl dX7_laySums_13 ?_
  refine lv_iload_n X.1 X.2.1 dX7_laySums_16 rfl (lv_at hl 0 rfl) ?_
  refine lv_lconst (v := 0) X.1 X.2.1 dX7_laySums_17 (by decide) ?_
  refine r_last X hW hM.2.2.1 (show vp_in (1) 5 from vp_in_nI (n := 1) (by omega) (by decide)) dX7_laySums_18 (fun hp_5 H locs hW eh_6 => ?_)
  have hM := mr_sm hM eh_6
  refine lv_iinc (v := 2) (lv' := [(2, .int 2), (0, .ref (M 0)), (1, .int (nI p9))]) X.1 X.2.1 dX7_laySums_19 hl (k := 0) rfl (by decide) (by decide) rfl (fun ls hl => ?_)
  refine lv_goto (tgt := 7) X.1 X.2.1 dX7_laySums_22 (by decide) ?_
  refine lv_iload_n X.1 X.2.1 dX7_laySums_7 rfl (lv_at hl 0 rfl) ?_
  refine lv_iconst (v := 5) X.1 X.2.1 dX7_laySums_8 (by decide) ?_
  refine lv_icmp_ge (tgt := 25) X.1 X.2.1 dX7_laySums_9 (by decide) (fun c_9 => absurd c_9 (by decide)) (fun c_9 => ?_)
  refine lv_aload_n X.1 X.2.1 dX7_laySums_12 rfl (lv_at hl 1 rfl) ?_
  refine r_get X hW.1 hM.1 (v := .ref (M 12)) (C := RX7) (T := TX7) (N := 19) rfl tin_X7 15 (by decide) tw_858 (fun _ h => h) rfl dX7_laySums_13 ?_
  refine lv_iload_n X.1 X.2.1 dX7_laySums_16 rfl (lv_at hl 0 rfl) ?_
  refine lv_lconst (v := 0) X.1 X.2.1 dX7_laySums_17 (by decide) ?_
  refine r_last X hW hM.2.2.1 (show vp_in (2) 5 from vp_in_nI (n := 2) (by omega) (by decide)) dX7_laySums_18 (fun hp_7 H locs hW eh_8 => ?_)
  have hM := mr_sm hM eh_8
  refine lv_iinc (v := 3) (lv' := [(2, .int 3), (0, .ref (M 0)), (1, .int (nI p9))]) X.1 X.2.1 dX7_laySums_19 hl (k := 0) rfl (by decide) (by decide) rfl (fun ls hl => ?_)
  refine lv_goto (tgt := 7) X.1 X.2.1 dX7_laySums_22 (by decide) ?_
  refine lv_iload_n X.1 X.2.1 dX7_laySums_7 rfl (lv_at hl 0 rfl) ?_
  refine lv_iconst (v := 5) X.1 X.2.1 dX7_laySums_8 (by decide) ?_
  refine lv_icmp_ge (tgt := 25) X.1 X.2.1 dX7_laySums_9 (by decide) (fun c_9 => absurd c_9 (by decide)) (fun c_9 => ?_)
  refine lv_aload_n X.1 X.2.1 dX7_laySums_12 rfl (lv_at hl 1 rfl) ?_
  refine r_get X hW.1 hM.1 (v := .ref (M 12)) (C := RX7) (T := TX7) (N := 19) rfl tin_X7 15 (by decide) tw_858 (fun _ h => h) rfl dX7_laySums_13 ?_
  refine lv_iload_n X.1 X.2.1 dX7_laySums_16 rfl (lv_at hl 0 rfl) ?_
  refine lv_lconst (v := 0) X.1 X.2.1 dX7_laySums_17 (by decide) ?_
  refine r_last X hW hM.2.2.1 (show vp_in (3) 5 from vp_in_nI (n := 3) (by omega) (by decide)) dX7_laySums_18 (fun hp_9 H locs hW eh_10 => ?_)
  have hM := mr_sm hM eh_10
  refine lv_iinc (v := 4) (lv' := [(2, .int 4), (0, .ref (M 0)), (1, .int (nI p9))]) X.1 X.2.1 dX7_laySums_19 hl (k := 0) rfl (by decide) (by decide) rfl (fun ls hl => ?_)
  refine lv_goto (tgt := 7) X.1 X.2.1 dX7_laySums_22 (by decide) ?_
  refine lv_iload_n X.1 X.2.1 dX7_laySums_7 rfl (lv_at hl 0 rfl) ?_
  refine lv_iconst (v := 5) X.1 X.2.1 dX7_laySums_8 (by decide) ?_
  refine lv_icmp_ge (tgt := 25) X.1 X.2.1 dX7_laySums_9 (by decide) (fun c_9 => absurd c_9 (by decide)) (fun c_9 => ?_)
  refine lv_aload_n X.1 X.2.1 dX7_laySums_12 rfl (lv_at hl 1 rfl) ?_
  refine r_get X hW.1 hM.1 (v := .ref (M 12)) (C := RX7) (T := TX7) (N := 19) rfl tin_X7 15 (by decide) tw_858 (fun _ h => h) rfl dX7_laySums_13 ?_
  refine lv_iload_n X.1 X.2.1 dX7_laySums_16 rfl (lv_at hl 0 rfl) ?_
  refine lv_lconst (v := 0) X.1 X.2.1 dX7_laySums_17 (by decide) ?_
  refine r_last X hW hM.2.2.1 (show vp_in (4) 5 from vp_in_nI (n := 4) (by omega) (by decide)) dX7_laySums_18 (fun hp_11 H locs hW eh_12 => ?_)
  have hM := mr_sm hM eh_12
  refine lv_iinc (v := 5) (lv' := [(2, .int 5), (0, .ref (M 0)), (1, .int (nI p9))]) X.1 X.2.1 dX7_laySums_19 hl (k := 0) rfl (by decide) (by decide) rfl (fun ls hl => ?_)
  refine lv_goto (tgt := 7) X.1 X.2.1 dX7_laySums_22 (by decide) ?_
  refine lv_iload_n X.1 X.2.1 dX7_laySums_7 rfl (lv_at hl 0 rfl) ?_
  refine lv_iconst (v := 5) X.1 X.2.1 dX7_laySums_8 (by decide) ?_
  refine lv_icmp_ge (tgt := 25) X.1 X.2.1 dX7_laySums_9 (by decide) (fun c_9 => ?_) (fun c_9 => absurd (by decide) c_9)
  refine lv_aload_n X.1 X.2.1 dX7_laySums_25 rfl (lv_at hl 1 rfl) ?_
  refine r_get X hW.1 hM.1 (v := .ref (M 2)) (C := RX7) (T := TX7) (N := 19) rfl tin_X7 2 (by decide) tw_845 (fun _ h => h) rfl dX7_laySums_26 ?_
  refine lv_iload_n X.1 X.2.1 dX7_laySums_29 rfl (lv_at hl 2 rfl) ?_
  refine r_iald X hW.1 (hM.2.1 1 (by decide)) (show vp_in ((nI p9)) 2 from vp_in_nI (n := p9) (by omega) (by decide)) dX7_laySums_30 ?_
  refine r_eqi (show (((ar 1) (nI p9).toNatClampNeg) : Int32) = nI (hd p9) from by rw [nI_clamp (by omega)]; exact hH2.1 p9 (by omega)) ?_
  refine lv_istore_n (lv' := [(2, .int (nI (hd p9))), (0, .ref (M 0)), (1, .int (nI p9))]) X.1 X.2.1 dX7_laySums_31 rfl hl (by decide) rfl (fun ls hl => ?_)
  refine lv_bipush (v := 31) X.1 X.2.1 dX7_laySums_32 (by decide) ?_
  refine lv_istore_n (lv' := [(3, .int 31), (2, .int (nI (hd p9))), (0, .ref (M 0)), (1, .int (nI p9))]) X.1 X.2.1 dX7_laySums_34 rfl hl (by decide) rfl (fun ls hl => ?_)
  have L35 : ∀ (f : Nat) (i : Nat) (hpL : HP) (H : Heap) (locs : List Loc) (smL : Nat → Int64), MR G hpL M (va_up sc 4 (nI (cntF (hidB n R k cs sk (1 - p9) (hd p9)) i))) ar smL → WS s G A hpL H locs → (i + f = 15504) → (∀ j, j < 5 → smL j = lN (sumF (hidB n R k cs sk (1 - p9) (hd p9)) (trN j (hd p9)) i)) → ∀ ls, lv_has ls 5 [(0, .ref (M 0)), (1, .int (nI p9)), (2, .int (nI (hd p9))), (3, .int (nI (HL i)))] → W p l e ({ frames := 4, cells := 0, slots := 0, locals := 96 } : Room) s m args below meth c H locs 0 0 (MQ below (va_Qv (fun hp1 => ∃ sm1, MR G hp1 M (va_up sc 4 (nI (hmN n R hd k cs sk p9))) ar sm1 ∧ ∀ j, j < 5 → sm1 j = lN (suT n R hd k cs sk p9 j)) (WB G A) A) args s 0 0 A) (F0 m 35 ls []) := by
    intro f
    induction f with
    | zero =>
      intro i hpL H locs smL hM hW h0 h1 ls hl
      have hi9 : i = 15504 := by omega
      refine lv_iload_n X.1 X.2.1 dX7_laySums_35 rfl (lv_at hl 3 rfl) ?_
      refine r_const X tw_934 dX7_laySums_36 ?_
      refine lv_icmp_gt (tgt := 110) X.1 X.2.1 dX7_laySums_38 (by decide) (fun c_38 => ?_) (fun c_38 => absurd (hl_out (i := i) (by omega)) c_38)
      exact wr_v X hr hlk hW ⟨smL, by rw [hi9] at hM; unfold hmN; exact hM, by rw [hi9] at h1; unfold suT; exact h1⟩ (Nat.le_of_ble_eq_true rfl) (Nat.le_of_ble_eq_true rfl) dX7_laySums_110
    | succ f ih =>
      intro i hpL H locs smL hM hW h0 h1 ls hl
      have hlt : i < 15504 := by omega
      obtain ⟨hk1, hk2, hk3, hk4, hk5, hk6, hk7⟩ := HL_ok hlt
      have hcl := cntF_le (hidB n R k cs sk (1 - p9) (hd p9)) i
      have hsl := fun j => sumF_le (hidB n R k cs sk (1 - p9) (hd p9)) (trN j (hd p9)) (trN_le j (hd p9)) i
      refine lv_iload_n X.1 X.2.1 dX7_laySums_35 rfl (lv_at hl 3 rfl) ?_
      refine r_const X tw_934 dX7_laySums_36 ?_
      refine lv_icmp_gt (tgt := 110) X.1 X.2.1 dX7_laySums_38 (by decide) (fun c_38 => absurd c_38 (hl_inn (i := i) (by omega))) (fun c_38 => ?_)
      refine lv_iload_n X.1 X.2.1 dX7_laySums_41 rfl (lv_at hl 3 rfl) ?_
      refine lv_iload_n X.1 X.2.1 dX7_laySums_42 rfl (lv_at hl 2 rfl) ?_
      refine lv_iand X.1 X.2.1 dX7_laySums_43 ?_
      refine r_eqi (show (((nI (HL i)) &&& (nI (hd p9))) : Int32) = nI ((HL i) &&& (hd p9)) from n_and (HL i) (hd p9)) ?_
      have hab : HL i &&& hd p9 ≤ HL i := Nat.and_le_left
      refine lv_if_ne (tgt := 102) X.1 X.2.1 dX7_laySums_44 (by decide) (fun c_44 => ?_) (fun c_44 => ?_)
      · have k_44 := k_ne (a := ((HL i) &&& (hd p9))) (b := 0) (by omega) (by omega) c_44
        have hy : ¬ (hidB n R k cs sk (1 - p9) (hd p9)) (HL i) = true := by unfold hidB; rw [decide_eq_false k_44]; exact Bool.false_ne_true
        refine lv_iload_n X.1 X.2.1 dX7_laySums_102 rfl (lv_at hl 3 rfl) ?_
        refine on_Si (run_S (As := [.int (nI (HL i))]) (rest := []) X (c_X7_nextHand l G hpL (HL i) hk7 hk2) (rp_blind _) (rp_at X hW.1 hW.2.2) mf_X7_nextHand tw_947 tw_948 ⟨rfl, rfl, Nat.le_of_ble_eq_true rfl, Nat.le_of_ble_eq_true rfl⟩ hl.1 rfl rfl (Nat.le_of_ble_eq_true rfl) ⟨Nat.le_of_ble_eq_true rfl, Nat.le_of_ble_eq_true rfl⟩ dX7_laySums_103) (fun r_103 q_103 => ?_)
        obtain rfl : r_103 = (nI (nhN (HL i))) := q_103
        refine r_eqi (show nI (nhN (HL i)) = nI (HL (i + 1)) from rfl) ?_
        refine lv_istore_n (lv' := [(3, .int (nI (HL (i + 1)))), (0, .ref (M 0)), (1, .int (nI p9)), (2, .int (nI (hd p9)))]) X.1 X.2.1 dX7_laySums_106 rfl hl (by decide) rfl (fun ls hl => ?_)
        refine lv_goto (tgt := 35) X.1 X.2.1 dX7_laySums_107 (by decide) ?_
        exact ih (i + 1) _ _ _ smL (by rw [show cntF (hidB n R k cs sk (1 - p9) (hd p9)) (i + 1) = cntF (hidB n R k cs sk (1 - p9) (hd p9)) i from congrArg (cntF (hidB n R k cs sk (1 - p9) (hd p9)) i + ·) (if_neg hy)]; exact hM) hW (by omega) (fun j hj => (h1 j hj).trans (congrArg lN (sumF_no (trN j (hd p9)) hy).symm)) ls (lv_sub hl [1, 2, 3, 0] rfl)
      · have k_44 := k_eq (a := ((HL i) &&& (hd p9))) (b := 0) (by omega) (by omega) c_44
        refine lv_aload_n X.1 X.2.1 dX7_laySums_47 rfl (lv_at hl 0 rfl) ?_
        refine lv_iconst (v := 1) X.1 X.2.1 dX7_laySums_48 (by decide) ?_
        refine lv_iload_n X.1 X.2.1 dX7_laySums_49 rfl (lv_at hl 1 rfl) ?_
        refine lv_isub X.1 X.2.1 dX7_laySums_50 ?_
        refine r_eqi (show (((1 : Int32) - (nI p9)) : Int32) = nI (1 - p9) from pk_sub (a := 1) (b := p9) (by omega)) ?_
        refine lv_iload_n X.1 X.2.1 dX7_laySums_51 rfl (lv_at hl 3 rfl) ?_
        refine on_Si (run_V (C := RX7) (As := [.int (nI (1 - p9)), .int (nI (HL i))]) (rest := []) X (c_X7_fitsAuction l G hpL M (va_up sc 4 (nI (cntF (hidB n R k cs sk (1 - p9) (hd p9)) i))) ar smL hM hT n R hU k cs sk hau (1 - p9) (HL i) (by omega) (by omega)) (rp_blind _) (rp_at X hW.1 hW.2.2) (recv X hW.1 hM.1 (C := RX7) (T := TX7) (N := 19) rfl) mf_X7_fitsAuction tw_1038 tw_1040 tw_42 ⟨rfl, rfl, Nat.le_of_ble_eq_true rfl, Nat.le_of_ble_eq_true rfl⟩ hl.1 rfl rfl (Nat.le_of_ble_eq_true rfl) ⟨Nat.le_of_ble_eq_true rfl, Nat.le_of_ble_eq_true rfl⟩ dX7_laySums_52) (fun r_52 q_52 => ?_)
        obtain rfl : r_52 = (bI (faB n R k cs sk (1 - p9) (HL i))) := q_52
        refine lv_if_eq (tgt := 102) X.1 X.2.1 dX7_laySums_55 (by decide) (fun c_55 => ?_) (fun c_55 => ?_)
        · have hy : ¬ (hidB n R k cs sk (1 - p9) (hd p9)) (HL i) = true := by unfold hidB; rw [decide_eq_true k_44, bI_0 c_55]; exact Bool.false_ne_true
          refine lv_iload_n X.1 X.2.1 dX7_laySums_102 rfl (lv_at hl 3 rfl) ?_
          refine on_Si (run_S (As := [.int (nI (HL i))]) (rest := []) X (c_X7_nextHand l G hpL (HL i) hk7 hk2) (rp_blind _) (rp_at X hW.1 hW.2.2) mf_X7_nextHand tw_947 tw_948 ⟨rfl, rfl, Nat.le_of_ble_eq_true rfl, Nat.le_of_ble_eq_true rfl⟩ hl.1 rfl rfl (Nat.le_of_ble_eq_true rfl) ⟨Nat.le_of_ble_eq_true rfl, Nat.le_of_ble_eq_true rfl⟩ dX7_laySums_103) (fun r_103 q_103 => ?_)
          obtain rfl : r_103 = (nI (nhN (HL i))) := q_103
          refine r_eqi (show nI (nhN (HL i)) = nI (HL (i + 1)) from rfl) ?_
          refine lv_istore_n (lv' := [(3, .int (nI (HL (i + 1)))), (0, .ref (M 0)), (1, .int (nI p9)), (2, .int (nI (hd p9)))]) X.1 X.2.1 dX7_laySums_106 rfl hl (by decide) rfl (fun ls hl => ?_)
          refine lv_goto (tgt := 35) X.1 X.2.1 dX7_laySums_107 (by decide) ?_
          exact ih (i + 1) _ _ _ smL (by rw [show cntF (hidB n R k cs sk (1 - p9) (hd p9)) (i + 1) = cntF (hidB n R k cs sk (1 - p9) (hd p9)) i from congrArg (cntF (hidB n R k cs sk (1 - p9) (hd p9)) i + ·) (if_neg hy)]; exact hM) hW (by omega) (fun j hj => (h1 j hj).trans (congrArg lN (sumF_no (trN j (hd p9)) hy).symm)) ls (lv_sub hl [1, 2, 3, 0] rfl)
        · have hy : (hidB n R k cs sk (1 - p9) (hd p9)) (HL i) = true := by unfold hidB; rw [decide_eq_true k_44, bI_1 c_55]; rfl
          refine lv_aload_n X.1 X.2.1 dX7_laySums_58 rfl (lv_at hl 0 rfl) ?_
          refine lv_dup X.1 X.2.1 dX7_laySums_59 rfl ?_
          refine r_get X hW.1 hM.1 (v := .int (nI (cntF (hidB n R k cs sk (1 - p9) (hd p9)) i))) (C := RX7) (T := TX7) (N := 19) rfl tin_X7 16 (by decide) tw_859 (fun _ h => h) rfl dX7_laySums_60 ?_
          refine lv_iconst (v := 1) X.1 X.2.1 dX7_laySums_63 (by decide) ?_
          refine lv_iadd X.1 X.2.1 dX7_laySums_64 ?_
          refine r_eqi (show (((nI (cntF (hidB n R k cs sk (1 - p9) (hd p9)) i)) + 1) : Int32) = nI ((cntF (hidB n R k cs sk (1 - p9) (hd p9)) i) + 1) from nI_add (cntF (hidB n R k cs sk (1 - p9) (hd p9)) i) 1) ?_
          refine r_put X hW hM.1 (v := .int (nI ((cntF (hidB n R k cs sk (1 - p9) (hd p9)) i) + 1))) (C := RX7) (T := TX7) (N := 19) rfl tin_X7 tyX7_ok nmX7 16 (Nat.le_of_ble_eq_true rfl) tw_859 (fun _ h => h) rfl rfl rfl (Nat.le_of_ble_eq_true rfl) dX7_laySums_65 (fun hp_13 H locs hW eh_14 => ?_)
          have hM := mr_sc4 hM eh_14
          refine lv_iconst (v := 0) X.1 X.2.1 dX7_laySums_68 (by decide) ?_
          refine lv_istore (lv' := [(4, .int 0), (0, .ref (M 0)), (1, .int (nI p9)), (2, .int (nI (hd p9))), (3, .int (nI (HL i)))]) X.1 X.2.1 dX7_laySums_69 hl (by decide) rfl (fun ls hl => ?_)
          have L712 : ∀ (f2 : Nat) (i2 : Nat) (hpL : HP) (H : Heap) (locs : List Loc) (g2 : Nat → Int64), MR G hpL M (va_up (va_up sc 4 (nI (cntF (hidB n R k cs sk (1 - p9) (hd p9)) i))) 4 (nI ((cntF (hidB n R k cs sk (1 - p9) (hd p9)) i) + 1))) ar g2 → WS s G A hpL H locs → (i2 + f2 = 5) → (∀ j, j < 5 → g2 j = lN (if j < i2 then sumF (hidB n R k cs sk (1 - p9) (hd p9)) (trN j (hd p9)) i + trN j (hd p9) (HL i) else sumF (hidB n R k cs sk (1 - p9) (hd p9)) (trN j (hd p9)) i)) → ∀ ls, lv_has ls 5 [(0, .ref (M 0)), (1, .int (nI p9)), (2, .int (nI (hd p9))), (3, .int (nI (HL i))), (4, .int (nI i2))] → W p l e ({ frames := 4, cells := 0, slots := 0, locals := 96 } : Room) s m args below meth c H locs 0 0 (MQ below (va_Qv (fun hp1 => ∃ sm1, MR G hp1 M (va_up sc 4 (nI (hmN n R hd k cs sk p9))) ar sm1 ∧ ∀ j, j < 5 → sm1 j = lN (suT n R hd k cs sk p9 j)) (WB G A) A) args s 0 0 A) (F0 m 71 ls []) := by
            intro f2
            induction f2 with
            | zero =>
              intro i2 hpL H locs g2 hM hW h20 h21 ls hl
              have h25 : i2 = 5 := by omega
              refine lv_iload X.1 X.2.1 dX7_laySums_71 (lv_at hl 4 rfl) ?_
              refine lv_iconst (v := 5) X.1 X.2.1 dX7_laySums_73 (by decide) ?_
              refine lv_icmp_ge (tgt := 102) X.1 X.2.1 dX7_laySums_74 (by decide) (fun c_74 => ?_) (fun c_74 => absurd (nI_le (a := 5) (b := i2) (by omega) (by omega)) c_74)
              refine lv_iload_n X.1 X.2.1 dX7_laySums_102 rfl (lv_at hl 3 rfl) ?_
              refine on_Si (run_S (As := [.int (nI (HL i))]) (rest := []) X (c_X7_nextHand l G hpL (HL i) hk7 hk2) (rp_blind _) (rp_at X hW.1 hW.2.2) mf_X7_nextHand tw_947 tw_948 ⟨rfl, rfl, Nat.le_of_ble_eq_true rfl, Nat.le_of_ble_eq_true rfl⟩ hl.1 rfl rfl (Nat.le_of_ble_eq_true rfl) ⟨Nat.le_of_ble_eq_true rfl, Nat.le_of_ble_eq_true rfl⟩ dX7_laySums_103) (fun r_103 q_103 => ?_)
              obtain rfl : r_103 = (nI (nhN (HL i))) := q_103
              refine r_eqi (show nI (nhN (HL i)) = nI (HL (i + 1)) from rfl) ?_
              refine lv_istore_n (lv' := [(3, .int (nI (HL (i + 1)))), (0, .ref (M 0)), (1, .int (nI p9)), (2, .int (nI (hd p9))), (4, .int (nI i2))]) X.1 X.2.1 dX7_laySums_106 rfl hl (by decide) rfl (fun ls hl => ?_)
              refine lv_goto (tgt := 35) X.1 X.2.1 dX7_laySums_107 (by decide) ?_
              exact ih (i + 1) _ _ _ g2 (by rw [va_uu] at hM; rw [show cntF (hidB n R k cs sk (1 - p9) (hd p9)) (i + 1) = cntF (hidB n R k cs sk (1 - p9) (hd p9)) i + 1 from congrArg (cntF (hidB n R k cs sk (1 - p9) (hd p9)) i + ·) (if_pos hy)]; exact hM) hW (by omega) (fun j hj => by rw [h21 j hj, if_pos (by omega)]; exact congrArg lN (congrArg (sumF (hidB n R k cs sk (1 - p9) (hd p9)) (trN j (hd p9)) i + ·) (if_pos hy)).symm) ls (lv_sub hl [1, 2, 3, 0] rfl)
            | succ f2 ih2 =>
              intro i2 hpL H locs g2 hM hW h20 h21 ls hl
              have h25 : i2 < 5 := by omega
              refine lv_iload X.1 X.2.1 dX7_laySums_71 (lv_at hl 4 rfl) ?_
              refine lv_iconst (v := 5) X.1 X.2.1 dX7_laySums_73 (by decide) ?_
              refine lv_icmp_ge (tgt := 102) X.1 X.2.1 dX7_laySums_74 (by decide) (fun c_74 => absurd c_74 (nI_ge (a := i2) (b := 5) (by omega) (by decide))) (fun c_74 => ?_)
              refine lv_aload_n X.1 X.2.1 dX7_laySums_77 rfl (lv_at hl 0 rfl) ?_
              refine r_get X hW.1 hM.1 (v := .ref (M 12)) (C := RX7) (T := TX7) (N := 19) rfl tin_X7 15 (by decide) tw_858 (fun _ h => h) rfl dX7_laySums_78 ?_
              refine lv_iload X.1 X.2.1 dX7_laySums_81 (lv_at hl 4 rfl) ?_
              refine lv_dup2_11 X.1 X.2.1 dX7_laySums_83 rfl rfl ?_
              refine r_lald X hW.1 hM.2.2.1 (show vp_in ((nI i2)) 5 from vp_in_nI (n := i2) (by omega) (by decide)) dX7_laySums_84 ?_
              refine r_eql (show ((g2 (nI i2).toNatClampNeg) : Int64) = g2 i2 from by rw [nI_clamp (by omega)]) ?_
              refine lv_aload_n X.1 X.2.1 dX7_laySums_85 rfl (lv_at hl 0 rfl) ?_
              refine lv_iload X.1 X.2.1 dX7_laySums_86 (lv_at hl 4 rfl) ?_
              refine lv_iload_n X.1 X.2.1 dX7_laySums_88 rfl (lv_at hl 2 rfl) ?_
              refine lv_iload_n X.1 X.2.1 dX7_laySums_89 rfl (lv_at hl 3 rfl) ?_
              refine on_Si (run_V (C := RX7) (As := [.int (nI i2), .int (nI (hd p9)), .int (nI (HL i))]) (rest := [.long (g2 i2), .int (nI i2), .ref (M 12)]) X (c_X7_tricksOf l G hpL M (va_up (va_up sc 4 (nI (cntF (hidB n R k cs sk (1 - p9) (hd p9)) i))) 4 (nI ((cntF (hidB n R k cs sk (1 - p9) (hd p9)) i) + 1))) ar g2 hM hT i2 (hd p9) (HL i) (by omega) (by omega) (by omega)) (rp_blind _) (rp_at X hW.1 hW.2.2) (recv X hW.1 hM.1 (C := RX7) (T := TX7) (N := 19) rfl) mf_X7_tricksOf tw_1077 tw_1079 tw_45 ⟨rfl, rfl, Nat.le_of_ble_eq_true rfl, Nat.le_of_ble_eq_true rfl⟩ hl.1 rfl rfl (Nat.le_of_ble_eq_true rfl) ⟨Nat.le_of_ble_eq_true rfl, Nat.le_of_ble_eq_true rfl⟩ dX7_laySums_90) (fun r_90 q_90 => ?_)
              obtain rfl : r_90 = (nI (trN i2 (hd p9) (HL i))) := q_90
              refine lv_i2l X.1 X.2.1 dX7_laySums_93 rfl ?_
              refine r_eql (show (((nI (trN i2 (hd p9) (HL i))).toInt64) : Int64) = lN ((trN i2 (hd p9) (HL i))) from nI_l (by have := trN_le i2 (hd p9) (HL i); omega)) ?_
              refine lv_ladd X.1 X.2.1 dX7_laySums_94 ?_
              refine r_last X hW hM.2.2.1 (show vp_in ((nI i2)) 5 from vp_in_nI (n := i2) (by omega) (by decide)) dX7_laySums_95 (fun hp_15 H locs hW eh_16 => ?_)
              have hM := mr_sm hM eh_16
              refine lv_iinc (v := (nI (i2 + 1))) (lv' := [(4, .int (nI (i2 + 1))), (0, .ref (M 0)), (1, .int (nI p9)), (2, .int (nI (hd p9))), (3, .int (nI (HL i)))]) X.1 X.2.1 dX7_laySums_96 hl (k := 4) rfl (nI_add i2 1) (by decide) rfl (fun ls hl => ?_)
              refine lv_goto (tgt := 71) X.1 X.2.1 dX7_laySums_99 (by decide) ?_
              exact ih2 (i2 + 1) _ _ _ _ hM hW (by omega) (sm_step (F := fun j => sumF (hidB n R k cs sk (1 - p9) (hd p9)) (trN j (hd p9)) i) (F' := fun j => sumF (hidB n R k cs sk (1 - p9) (hd p9)) (trN j (hd p9)) i + trN j (hd p9) (HL i)) h25 h21 (by rw [h21 _ h25, if_neg (Nat.lt_irrefl _)]; exact lN_add _ _)) ls (lv_sub hl [1, 2, 3, 4, 0] rfl)
          exact L712 5 0 _ _ _ _ hM hW rfl (fun j hj => by rw [if_neg (Nat.not_lt_zero j)]; exact h1 j hj) ls (lv_sub hl [1, 2, 3, 4, 0] rfl)
  exact L35 15504 0 _ _ _ _ hM hW rfl (fun j hj => by rcases (show j = 0 ∨ j = 1 ∨ j = 2 ∨ j = 3 ∨ j = 4 by omega) with rfl | rfl | rfl | rfl | rfl <;> rfl) ls (lv_sub hl [2, 3, 1, 0] rfl)

def fExp (z : ST) (a b : Int32) : Int64 := if inI a 0 1 = 0 then -1 else if inI b 0 4 = 0 then -2 else lN (suT z.1 z.2.1 z.2.2.1 z.2.2.2.1 z.2.2.2.2.1 z.2.2.2.2.2.1 (tn a) (tn b))
/-- the last strain of those with the greatest number, among 0 .. i -/
def bsF (S : Nat → Nat) : Nat → Nat
  | 0 => 0
  | i + 1 => if S (bsF S i) ≤ S (i + 1) then i + 1 else bsF S i
theorem bsF_le (S : Nat → Nat) : ∀ i, bsF S i ≤ i
  | 0 => Nat.le_refl 0
  | i + 1 => by
    have := bsF_le S i
    unfold bsF
    split <;> omega
def coN (S : Nat → Nat) (m : Nat) : Int32 := if m = 0 then -6 else if S (bsF S 4) / m = 0 then -6 else nI (5 * (S (bsF S 4) / m - 1) + bsF S 4)
def fCon (z : ST) (a : Int32) : Int32 := if inI a 0 1 = 0 then -1 else coN (suT z.1 z.2.1 z.2.2.1 z.2.2.2.1 z.2.2.2.2.1 z.2.2.2.2.2.1 (tn a)) (hmN z.1 z.2.1 z.2.2.1 z.2.2.2.1 z.2.2.2.2.1 z.2.2.2.2.2.1 (tn a))
theorem bsF_yes {S : Nat → Nat} {i : Nat} (h : S (bsF S i) ≤ S (i + 1)) : bsF S (i + 1) = i + 1 := by
  rw [bsF, if_pos h]
theorem bsF_no {S : Nat → Nat} {i : Nat} (h : ¬ S (bsF S i) ≤ S (i + 1)) : bsF S (i + 1) = bsF S i := by
  rw [bsF, if_neg h]
theorem con_0 {S : Nat → Nat} {m : Nat} (h : m = 0) : -6 = coN S m := (if_pos h).symm
theorem con_1 {S : Nat → Nat} {m : Nat} (h : ¬ m = 0) (h2 : S (bsF S 4) / m = 0) : -6 = coN S m := ((if_neg h).trans (if_pos h2)).symm
theorem con_2 {S : Nat → Nat} {m : Nat} (h : ¬ m = 0) (h2 : ¬ S (bsF S 4) / m = 0) : nI (5 * (S (bsF S 4) / m - 1) + bsF S 4) = coN S m := ((if_neg h).trans (if_neg h2)).symm
theorem ls_fin {n : Nat} {R : Nat → Nat → Nat} {hd : Nat → Nat} {k : Nat} {cs : Nat → Nat → Int32} {sk : Bool} {x : Nat} (hx : x ≤ 1) (h : ¬ inI (nI x) 0 1 = 0) (pn : Nat) (pt : Nat → Nat) : fCon (n, R, hd, k, cs, sk, pn, pt) (nI x) = coN (suT n R hd k cs sk x) (hmN n R hd k cs sk x) := by
  unfold fCon
  rw [if_neg h, tn_n (by omega)]
theorem ex_fin {n : Nat} {R : Nat → Nat → Nat} {hd : Nat → Nat} {k : Nat} {cs : Nat → Nat → Int32} {sk : Bool} {x y : Nat} (hx : x ≤ 1) (hy : y ≤ 4) (h : ¬ inI (nI x) 0 1 = 0) (h2 : ¬ inI (nI y) 0 4 = 0) (pn : Nat) (pt : Nat → Nat) : fExp (n, R, hd, k, cs, sk, pn, pt) (nI x) (nI y) = lN (suT n R hd k cs sk x y) := by
  unfold fExp
  rw [if_neg h, if_neg h2, tn_n (by omega), tn_n (by omega)]

set_option maxHeartbeats 4000000 in
set_option maxRecDepth 100000 in
theorem c_X7_expected (l : Launch) (G : HG) (A : Nat → Prop) (hp : HP) (sz : Nat) (hA : ∀ q, sz ≤ q → A q) (hO : Ow A hp) (M : Nat → Nat) (sc : Nat → Int32) (ar : Nat → Nat → Int32) (sm : Nat → Int64) (hM : MR G hp M sc ar sm) (n : Nat) (R : Nat → Nat → Nat) (hd : Nat → Nat) (k : Nat) (cs : Nat → Nat → Int32) (sk : Bool) (pn : Nat) (pt : Nat → Nat) (hz : MST (n, R, hd, k, cs, sk, pn, pt) sc ar) (a b : Int32) : Met l yX7_expected [.code yX7_expected cX7_expected 3 (some .long)] { frames := 5, cells := 0, slots := 0, locals := 120 } (va_Pc [.ref (M 0), .int a, .int b] (WP G A sz hp)) (va_Ql (fun r hp1 => r = fExp (n, R, hd, k, cs, sk, pn, pt) a b ∧ ∃ sc1 ar1 sm1, MR G hp1 M sc1 ar1 sm1 ∧ MST ((n, R, hd, k, cs, sk, pn, pt)) sc1 ar1) (WB G A) A) 0 0 A := by
  refine wr_ofW (by decide) (Nat.le_of_ble_eq_true rfl) hO ?_
  intro p e s m args below meth c ls X hr hlk hnm hsz hW hl
  have hA : ∀ q, s.heap.size ≤ q → A q := fun q h => hA q (by omega)
  have hl : lv_has ls 3 [(0, .ref (M 0)), (1, .int a), (2, .int b)] := hl
  have hT : MT ar := hz.1
  have hU : MU n R sc ar := hz.2.1
  have hH2 : MH hd ar := hz.2.2.1
  have hau : MAu k cs sk sc ar := hz.2.2.2.1
  have hP : MP pn pt sc ar := hz.2.2.2.2
  have hn := hU.2.1
  have hk := hau.2.1
  refine lv_iload_n X.1 X.2.1 dX7_expected_0 rfl (lv_at hl 1 rfl) ?_
  refine on_Si (run_S (As := [.int a]) (rest := []) X (c_X7_isPartner l G hp a) (rp_blind _) (rp_at X hW.1 hW.2.2) mf_X7_isPartner tw_970 tw_971 ⟨rfl, rfl, Nat.le_of_ble_eq_true rfl, Nat.le_of_ble_eq_true rfl⟩ hl.1 rfl rfl (Nat.le_of_ble_eq_true rfl) ⟨Nat.le_of_ble_eq_true rfl, Nat.le_of_ble_eq_true rfl⟩ dX7_expected_1) (fun r_1 q_1 => ?_)
  obtain rfl : r_1 = (inI a 0 1) := q_1
  refine lv_if_ne (tgt := 11) X.1 X.2.1 dX7_expected_4 (by decide) (fun c_4 => ?_) (fun c_4 => ?_)
  · obtain ⟨xa, hxa, rfl⟩ := inI_nat (hi := 1) c_4 (by decide)
    refine lv_iload_n X.1 X.2.1 dX7_expected_11 rfl (lv_at hl 2 rfl) ?_
    refine lv_iconst (v := 0) X.1 X.2.1 dX7_expected_12 (by decide) ?_
    refine lv_iconst (v := 4) X.1 X.2.1 dX7_expected_13 (by decide) ?_
    refine on_Si (run_S (As := [.int b, .int 0, .int 4]) (rest := []) X (c_X7_in l G hp b 0 4) (rp_blind _) (rp_at X hW.1 hW.2.2) mf_X7_in tw_907 tw_908 ⟨rfl, rfl, Nat.le_of_ble_eq_true rfl, Nat.le_of_ble_eq_true rfl⟩ hl.1 rfl rfl (Nat.le_of_ble_eq_true rfl) ⟨Nat.le_of_ble_eq_true rfl, Nat.le_of_ble_eq_true rfl⟩ dX7_expected_14) (fun r_14 q_14 => ?_)
    obtain rfl : r_14 = (inI b 0 4) := q_14
    refine lv_if_ne (tgt := 24) X.1 X.2.1 dX7_expected_17 (by decide) (fun c_17 => ?_) (fun c_17 => ?_)
    · obtain ⟨xb, hxb, rfl⟩ := inI_nat (hi := 4) c_17 (by decide)
      refine lv_aload_n X.1 X.2.1 dX7_expected_24 rfl (lv_at hl 0 rfl) ?_
      refine lv_iload_n X.1 X.2.1 dX7_expected_25 rfl (lv_at hl 1 rfl) ?_
      refine on_Wv (k' := 0) (n' := 0) (run_V (C := RX7) (As := [.int (nI xa)]) (rest := []) X (c_X7_laySums l G A hp _ (fun q h => hA q (Nat.le_trans hW.2.2.1 h)) hW.2.1 M sc ar sm hM hT n R hU hd hH2 k cs sk hau xa (by omega)) (wp_blind _) (wp_at X hW.1 hW.2.2) (recv X hW.1 hM.1 (C := RX7) (T := TX7) (N := 19) rfl) mf_X7_laySums tw_1095 tw_1097 tw_48 ⟨rfl, rfl, Nat.le_of_ble_eq_true rfl, Nat.le_of_ble_eq_true rfl⟩ hl.1 rfl rfl (Nat.le_of_ble_eq_true rfl) ⟨Nat.le_of_ble_eq_true rfl, Nat.le_of_ble_eq_true rfl⟩ dX7_expected_26) hW (by omega) (by omega) (fun hp_1 H locs q_26 hW => ?_)
      obtain ⟨sm1, hM, hsm⟩ := q_26
      have hsu := fun j => suT_le n R hd k cs sk xa j
      have hhm := hmN_le n R hd k cs sk xa
      generalize hSg : suT n R hd k cs sk xa = S9 at hsm hsu
      generalize hmg : hmN n R hd k cs sk xa = m9 at hM hsu hhm
      refine lv_aload_n X.1 X.2.1 dX7_expected_29 rfl (lv_at hl 0 rfl) ?_
      refine r_get X hW.1 hM.1 (v := .ref (M 12)) (C := RX7) (T := TX7) (N := 19) rfl tin_X7 15 (by decide) tw_858 (fun _ h => h) rfl dX7_expected_30 ?_
      refine lv_iload_n X.1 X.2.1 dX7_expected_33 rfl (lv_at hl 2 rfl) ?_
      refine r_lald X hW.1 hM.2.2.1 (show vp_in ((nI xb)) 5 from vp_in_nI (n := xb) (by omega) (by decide)) dX7_expected_34 ?_
      refine r_eql (show ((sm1 (nI xb).toNatClampNeg) : Int64) = lN (S9 xb) from by rw [nI_clamp (by omega)]; exact hsm xb (by omega)) ?_
      exact wr_l X hr hlk hW ⟨(by rw [← hSg]; exact (ex_fin (by omega) (by omega) c_4 c_17 pn pt).symm), _, _, _, hM, hz⟩ (Nat.le_of_ble_eq_true rfl) (Nat.le_of_ble_eq_true rfl) dX7_expected_35
    · refine r_const2 X tw_1094 dX7_expected_20 ?_
      exact wr_l X hr hlk hW ⟨((if_neg c_4).trans (if_pos c_17)).symm, _, _, _, hM, hz⟩ (Nat.le_of_ble_eq_true rfl) (Nat.le_of_ble_eq_true rfl) dX7_expected_23
  · refine r_const2 X tw_1093 dX7_expected_7 ?_
    exact wr_l X hr hlk hW ⟨(if_pos c_4).symm, _, _, _, hM, hz⟩ (Nat.le_of_ble_eq_true rfl) (Nat.le_of_ble_eq_true rfl) dX7_expected_10

set_option maxHeartbeats 4000000 in
set_option maxRecDepth 100000 in
theorem c_X7_contract (l : Launch) (G : HG) (A : Nat → Prop) (hp : HP) (sz : Nat) (hA : ∀ q, sz ≤ q → A q) (hO : Ow A hp) (M : Nat → Nat) (sc : Nat → Int32) (ar : Nat → Nat → Int32) (sm : Nat → Int64) (hM : MR G hp M sc ar sm) (n : Nat) (R : Nat → Nat → Nat) (hd : Nat → Nat) (k : Nat) (cs : Nat → Nat → Int32) (sk : Bool) (pn : Nat) (pt : Nat → Nat) (hz : MST (n, R, hd, k, cs, sk, pn, pt) sc ar) (a : Int32) : Met l yX7_contract [.code yX7_contract cX7_contract 4 (some .int)] { frames := 5, cells := 0, slots := 0, locals := 120 } (va_Pc [.ref (M 0), .int a] (WP G A sz hp)) (va_Qi (fun r hp1 => r = fCon (n, R, hd, k, cs, sk, pn, pt) a ∧ ∃ sc1 ar1 sm1, MR G hp1 M sc1 ar1 sm1 ∧ MST ((n, R, hd, k, cs, sk, pn, pt)) sc1 ar1) (WB G A) A) 0 0 A := by
  refine wr_ofW (by decide) (Nat.le_of_ble_eq_true rfl) hO ?_
  intro p e s m args below meth c ls X hr hlk hnm hsz hW hl
  have hA : ∀ q, s.heap.size ≤ q → A q := fun q h => hA q (by omega)
  have hl : lv_has ls 4 [(0, .ref (M 0)), (1, .int a)] := hl
  have hT : MT ar := hz.1
  have hU : MU n R sc ar := hz.2.1
  have hH2 : MH hd ar := hz.2.2.1
  have hau : MAu k cs sk sc ar := hz.2.2.2.1
  have hP : MP pn pt sc ar := hz.2.2.2.2
  have hn := hU.2.1
  have hk := hau.2.1
  refine lv_iload_n X.1 X.2.1 dX7_contract_0 rfl (lv_at hl 1 rfl) ?_
  refine on_Si (run_S (As := [.int a]) (rest := []) X (c_X7_isPartner l G hp a) (rp_blind _) (rp_at X hW.1 hW.2.2) mf_X7_isPartner tw_970 tw_971 ⟨rfl, rfl, Nat.le_of_ble_eq_true rfl, Nat.le_of_ble_eq_true rfl⟩ hl.1 rfl rfl (Nat.le_of_ble_eq_true rfl) ⟨Nat.le_of_ble_eq_true rfl, Nat.le_of_ble_eq_true rfl⟩ dX7_contract_1) (fun r_1 q_1 => ?_)
  obtain rfl : r_1 = (inI a 0 1) := q_1
  refine lv_if_ne (tgt := 9) X.1 X.2.1 dX7_contract_4 (by decide) (fun c_4 => ?_) (fun c_4 => ?_)
  · obtain ⟨xa, hxa, rfl⟩ := inI_nat (hi := 1) c_4 (by decide)
    refine lv_aload_n X.1 X.2.1 dX7_contract_9 rfl (lv_at hl 0 rfl) ?_
    refine lv_iload_n X.1 X.2.1 dX7_contract_10 rfl (lv_at hl 1 rfl) ?_
    refine on_Wv (k' := 0) (n' := 0) (run_V (C := RX7) (As := [.int (nI xa)]) (rest := []) X (c_X7_laySums l G A hp _ (fun q h => hA q (Nat.le_trans hW.2.2.1 h)) hW.2.1 M sc ar sm hM hT n R hU hd hH2 k cs sk hau xa (by omega)) (wp_blind _) (wp_at X hW.1 hW.2.2) (recv X hW.1 hM.1 (C := RX7) (T := TX7) (N := 19) rfl) mf_X7_laySums tw_1095 tw_1097 tw_48 ⟨rfl, rfl, Nat.le_of_ble_eq_true rfl, Nat.le_of_ble_eq_true rfl⟩ hl.1 rfl rfl (Nat.le_of_ble_eq_true rfl) ⟨Nat.le_of_ble_eq_true rfl, Nat.le_of_ble_eq_true rfl⟩ dX7_contract_11) hW (by omega) (by omega) (fun hp_1 H locs q_11 hW => ?_)
    obtain ⟨sm1, hM, hsm⟩ := q_11
    have hsu := fun j => suT_le n R hd k cs sk xa j
    have hhm := hmN_le n R hd k cs sk xa
    generalize hSg : suT n R hd k cs sk xa = S9 at hsm hsu
    generalize hmg : hmN n R hd k cs sk xa = m9 at hM hsu hhm
    refine lv_iconst (v := 0) X.1 X.2.1 dX7_contract_14 (by decide) ?_
    refine lv_istore_n (lv' := [(2, .int 0), (0, .ref (M 0)), (1, .int (nI xa))]) X.1 X.2.1 dX7_contract_15 rfl hl (by decide) rfl (fun ls hl => ?_)
    refine lv_iconst (v := 1) X.1 X.2.1 dX7_contract_16 (by decide) ?_
    refine lv_istore_n (lv' := [(3, .int 1), (2, .int 0), (0, .ref (M 0)), (1, .int (nI xa))]) X.1 X.2.1 dX7_contract_17 rfl hl (by decide) rfl (fun ls hl => ?_)
    have hcn : fCon (n, R, hd, k, cs, sk, pn, pt) (nI xa) = coN S9 m9 := by rw [← hSg, ← hmg]; exact ls_fin (by omega) c_4 pn pt
    have L18 : ∀ (f : Nat) (i : Nat), i + f = 4 → ∀ ls, lv_has ls 4 [(0, .ref (M 0)), (1, .int (nI xa)), (2, .int (nI (bsF (S9) i))), (3, .int (nI (i + 1)))] → W p l e ({ frames := 5, cells := 0, slots := 0, locals := 120 } : Room) s m args below meth c H locs 0 0 (MQ below (va_Qi (fun r hp1 => r = fCon (n, R, hd, k, cs, sk, pn, pt) (nI xa) ∧ ∃ sc1 ar1 sm1, MR G hp1 M sc1 ar1 sm1 ∧ MST ((n, R, hd, k, cs, sk, pn, pt)) sc1 ar1) (WB G A) A) args s 0 0 A) (F0 m 18 ls []) := by
      intro f
      induction f with
      | zero =>
        intro i h0 ls hl
        have hbs := bsF_le (S9) i
        refine lv_iload_n X.1 X.2.1 dX7_contract_18 rfl (lv_at hl 3 rfl) ?_
        refine lv_iconst (v := 5) X.1 X.2.1 dX7_contract_19 (by decide) ?_
        refine lv_icmp_ge (tgt := 51) X.1 X.2.1 dX7_contract_20 (by decide) (fun c_20 => ?_) (fun c_20 => absurd (nI_le (a := 5) (b := i + 1) (by omega) (by omega)) c_20)
        obtain rfl : i = 4 := by omega
        have hs2 := hsu (bsF (S9) 4)
        refine lv_aload_n X.1 X.2.1 dX7_contract_51 rfl (lv_at hl 0 rfl) ?_
        refine r_get X hW.1 hM.1 (v := .int (nI m9)) (C := RX7) (T := TX7) (N := 19) rfl tin_X7 16 (by decide) tw_859 (fun _ h => h) rfl dX7_contract_52 ?_
        refine lv_if_ne (tgt := 62) X.1 X.2.1 dX7_contract_55 (by decide) (fun c_55 => ?_) (fun c_55 => ?_)
        · have k_55 := k_ne (a := m9) (b := 0) (by omega) (by omega) c_55
          refine lv_aload_n X.1 X.2.1 dX7_contract_62 rfl (lv_at hl 0 rfl) ?_
          refine r_get X hW.1 hM.1 (v := .ref (M 12)) (C := RX7) (T := TX7) (N := 19) rfl tin_X7 15 (by decide) tw_858 (fun _ h => h) rfl dX7_contract_63 ?_
          refine lv_iload_n X.1 X.2.1 dX7_contract_66 rfl (lv_at hl 2 rfl) ?_
          refine r_lald X hW.1 hM.2.2.1 (show vp_in ((nI (bsF (S9) 4))) 5 from vp_in_nI (n := (bsF (S9) 4)) (by omega) (by decide)) dX7_contract_67 ?_
          refine r_eql (show ((sm1 (nI (bsF (S9) 4)).toNatClampNeg) : Int64) = lN (S9 (bsF (S9) 4)) from by rw [nI_clamp (by omega)]; exact hsm (bsF (S9) 4) (by omega)) ?_
          refine lv_aload_n X.1 X.2.1 dX7_contract_68 rfl (lv_at hl 0 rfl) ?_
          refine r_get X hW.1 hM.1 (v := .int (nI m9)) (C := RX7) (T := TX7) (N := 19) rfl tin_X7 16 (by decide) tw_859 (fun _ h => h) rfl dX7_contract_69 ?_
          refine lv_i2l X.1 X.2.1 dX7_contract_72 rfl ?_
          refine r_eql (show (((nI m9).toInt64) : Int64) = lN (m9) from nI_l (by omega)) ?_
          refine lv_ldiv X.1 X.2.1 dX7_contract_73 (fun q9 => k_55 ((lN_eq (by omega) (by decide)).mp q9)) ?_
          refine r_eql (show (((lN (S9 (bsF (S9) 4))) / (lN (m9))) : Int64) = lN (S9 (bsF (S9) 4) / m9) from pk_lDiv (by omega) (by omega) (by omega)) ?_
          refine lv_l2i X.1 X.2.1 dX7_contract_74 rfl ?_
          refine r_eqi (show (((lN (S9 (bsF (S9) 4) / m9)).toInt32) : Int32) = nI (S9 (bsF (S9) 4) / m9) from lN_i _) ?_
          refine lv_istore_n (lv' := [(3, .int (nI (S9 (bsF (S9) 4) / m9))), (0, .ref (M 0)), (1, .int (nI xa)), (2, .int (nI (bsF (S9) 4)))]) X.1 X.2.1 dX7_contract_75 rfl hl (by decide) rfl (fun ls hl => ?_)
          refine lv_iload_n X.1 X.2.1 dX7_contract_76 rfl (lv_at hl 0 rfl) ?_
          have hq : S9 (bsF (S9) 4) / m9 ≤ 5 := Nat.div_le_of_le_mul (by rw [Nat.mul_comm]; exact hs2)
          refine lv_if_ne (tgt := 85) X.1 X.2.1 dX7_contract_77 (by decide) (fun c_77 => ?_) (fun c_77 => ?_)
          · have k_77 := k_ne (a := (S9 (bsF (S9) 4) / m9)) (b := 0) (by omega) (by omega) c_77
            refine lv_iconst (v := 5) X.1 X.2.1 dX7_contract_85 (by decide) ?_
            refine lv_iload_n X.1 X.2.1 dX7_contract_86 rfl (lv_at hl 0 rfl) ?_
            refine lv_iconst (v := 1) X.1 X.2.1 dX7_contract_87 (by decide) ?_
            refine lv_isub X.1 X.2.1 dX7_contract_88 ?_
            refine r_eqi (show (((nI (S9 (bsF (S9) 4) / m9)) - 1) : Int32) = nI ((S9 (bsF (S9) 4) / m9) - 1) from pk_sub (a := (S9 (bsF (S9) 4) / m9)) (b := 1) (Nat.pos_of_ne_zero k_77)) ?_
            refine lv_imul X.1 X.2.1 dX7_contract_89 ?_
            refine r_eqi (show (((5 : Int32) * (nI ((S9 (bsF (S9) 4) / m9) - 1))) : Int32) = nI (5 * ((S9 (bsF (S9) 4) / m9) - 1)) from pk_mul 5 ((S9 (bsF (S9) 4) / m9) - 1)) ?_
            refine lv_iload_n X.1 X.2.1 dX7_contract_90 rfl (lv_at hl 3 rfl) ?_
            refine lv_iadd X.1 X.2.1 dX7_contract_91 ?_
            refine r_eqi (show (((nI (5 * ((S9 (bsF (S9) 4) / m9) - 1))) + (nI (bsF (S9) 4))) : Int32) = nI ((5 * ((S9 (bsF (S9) 4) / m9) - 1)) + (bsF (S9) 4)) from nI_add (5 * ((S9 (bsF (S9) 4) / m9) - 1)) (bsF (S9) 4)) ?_
            exact wr_i X hr hlk hW ⟨(con_2 k_55 k_77).trans hcn.symm, _, _, _, hM, hz⟩ (Nat.le_of_ble_eq_true rfl) (Nat.le_of_ble_eq_true rfl) dX7_contract_92
          · have k_77 := k_eq (a := (S9 (bsF (S9) 4) / m9)) (b := 0) (by omega) (by omega) c_77
            refine lv_bipush (v := (-6)) X.1 X.2.1 dX7_contract_80 (by decide) ?_
            refine lv_goto (tgt := 92) X.1 X.2.1 dX7_contract_82 (by decide) ?_
            exact wr_i X hr hlk hW ⟨(con_1 k_55 k_77).trans hcn.symm, _, _, _, hM, hz⟩ (Nat.le_of_ble_eq_true rfl) (Nat.le_of_ble_eq_true rfl) dX7_contract_92
        · have k_55 := k_eq (a := m9) (b := 0) (by omega) (by omega) c_55
          refine lv_iconst (v := 0) X.1 X.2.1 dX7_contract_58 (by decide) ?_
          refine lv_goto (tgt := 75) X.1 X.2.1 dX7_contract_59 (by decide) ?_
          refine lv_istore_n (lv' := [(3, .int 0), (0, .ref (M 0)), (1, .int (nI xa)), (2, .int (nI (bsF (S9) 4)))]) X.1 X.2.1 dX7_contract_75 rfl hl (by decide) rfl (fun ls hl => ?_)
          refine lv_iload_n X.1 X.2.1 dX7_contract_76 rfl (lv_at hl 0 rfl) ?_
          have hq : S9 (bsF (S9) 4) / m9 ≤ 5 := Nat.div_le_of_le_mul (by rw [Nat.mul_comm]; exact hs2)
          refine lv_if_ne (tgt := 85) X.1 X.2.1 dX7_contract_77 (by decide) (fun c_77 => absurd (by decide) c_77) (fun c_77 => ?_)
          refine lv_bipush (v := (-6)) X.1 X.2.1 dX7_contract_80 (by decide) ?_
          refine lv_goto (tgt := 92) X.1 X.2.1 dX7_contract_82 (by decide) ?_
          exact wr_i X hr hlk hW ⟨(con_0 k_55).trans hcn.symm, _, _, _, hM, hz⟩ (Nat.le_of_ble_eq_true rfl) (Nat.le_of_ble_eq_true rfl) dX7_contract_92
      | succ f ih =>
        intro i h0 ls hl
        have hbs := bsF_le (S9) i
        have hs1 := hsu (i + 1)
        have hs2 := hsu (bsF (S9) i)
        refine lv_iload_n X.1 X.2.1 dX7_contract_18 rfl (lv_at hl 3 rfl) ?_
        refine lv_iconst (v := 5) X.1 X.2.1 dX7_contract_19 (by decide) ?_
        refine lv_icmp_ge (tgt := 51) X.1 X.2.1 dX7_contract_20 (by decide) (fun c_20 => absurd c_20 (nI_ge (a := i + 1) (b := 5) (by omega) (by decide))) (fun c_20 => ?_)
        refine lv_aload_n X.1 X.2.1 dX7_contract_23 rfl (lv_at hl 0 rfl) ?_
        refine r_get X hW.1 hM.1 (v := .ref (M 12)) (C := RX7) (T := TX7) (N := 19) rfl tin_X7 15 (by decide) tw_858 (fun _ h => h) rfl dX7_contract_24 ?_
        refine lv_iload_n X.1 X.2.1 dX7_contract_27 rfl (lv_at hl 3 rfl) ?_
        refine r_lald X hW.1 hM.2.2.1 (show vp_in ((nI (i + 1))) 5 from vp_in_nI (n := (i + 1)) (by omega) (by decide)) dX7_contract_28 ?_
        refine r_eql (show ((sm1 (nI (i + 1)).toNatClampNeg) : Int64) = lN (S9 (i + 1)) from by rw [nI_clamp (by omega)]; exact hsm (i + 1) (by omega)) ?_
        refine lv_aload_n X.1 X.2.1 dX7_contract_29 rfl (lv_at hl 0 rfl) ?_
        refine r_get X hW.1 hM.1 (v := .ref (M 12)) (C := RX7) (T := TX7) (N := 19) rfl tin_X7 15 (by decide) tw_858 (fun _ h => h) rfl dX7_contract_30 ?_
        refine lv_iload_n X.1 X.2.1 dX7_contract_33 rfl (lv_at hl 2 rfl) ?_
        refine r_lald X hW.1 hM.2.2.1 (show vp_in ((nI (bsF (S9) i))) 5 from vp_in_nI (n := (bsF (S9) i)) (by omega) (by decide)) dX7_contract_34 ?_
        refine r_eql (show ((sm1 (nI (bsF (S9) i)).toNatClampNeg) : Int64) = lN (S9 (bsF (S9) i)) from by rw [nI_clamp (by omega)]; exact hsm (bsF (S9) i) (by omega)) ?_
        refine r_lcmp X.1 X.2.1 dX7_contract_35 ?_
        refine lv_if_lt (tgt := 43) X.1 X.2.1 dX7_contract_36 (by decide) (fun c_36 => ?_) (fun c_36 => ?_)
        · have hle : ¬ S9 (bsF (S9) i) ≤ S9 (i + 1) := by have q9 := (pk_lLT (by omega) (by omega)).mp (lcI_lt.mp c_36); omega
          refine lv_iload_n X.1 X.2.1 dX7_contract_43 rfl (lv_at hl 2 rfl) ?_
          refine lv_istore_n (lv' := [(2, .int (nI (bsF (S9) i))), (0, .ref (M 0)), (1, .int (nI xa)), (3, .int (nI (i + 1)))]) X.1 X.2.1 dX7_contract_44 rfl hl (by decide) rfl (fun ls hl => ?_)
          refine lv_iinc (v := (nI ((i + 1) + 1))) (lv' := [(3, .int (nI ((i + 1) + 1))), (2, .int (nI (bsF (S9) i))), (0, .ref (M 0)), (1, .int (nI xa))]) X.1 X.2.1 dX7_contract_45 hl (k := 3) rfl (nI_add (i + 1) 1) (by decide) rfl (fun ls hl => ?_)
          refine lv_goto (tgt := 18) X.1 X.2.1 dX7_contract_48 (by decide) ?_
          exact ih (i + 1) (by omega) ls (by rw [show bsF (S9) (i + 1) = bsF (S9) i from bsF_no hle]; exact (lv_sub hl [2, 3, 1, 0] rfl))
        · have hle : S9 (bsF (S9) i) ≤ S9 (i + 1) := by
            have q9 : ¬ S9 (i + 1) < S9 (bsF (S9) i) := fun q9 => c_36 (lcI_lt.mpr ((pk_lLT (by omega) (by omega)).mpr q9))
            omega
          refine lv_iload_n X.1 X.2.1 dX7_contract_39 rfl (lv_at hl 3 rfl) ?_
          refine lv_goto (tgt := 44) X.1 X.2.1 dX7_contract_40 (by decide) ?_
          refine lv_istore_n (lv' := [(2, .int (nI (i + 1))), (0, .ref (M 0)), (1, .int (nI xa)), (3, .int (nI (i + 1)))]) X.1 X.2.1 dX7_contract_44 rfl hl (by decide) rfl (fun ls hl => ?_)
          refine lv_iinc (v := (nI ((i + 1) + 1))) (lv' := [(3, .int (nI ((i + 1) + 1))), (2, .int (nI (i + 1))), (0, .ref (M 0)), (1, .int (nI xa))]) X.1 X.2.1 dX7_contract_45 hl (k := 3) rfl (nI_add (i + 1) 1) (by decide) rfl (fun ls hl => ?_)
          refine lv_goto (tgt := 18) X.1 X.2.1 dX7_contract_48 (by decide) ?_
          exact ih (i + 1) (by omega) ls (by rw [show bsF (S9) (i + 1) = i + 1 from bsF_yes hle]; exact (lv_sub hl [2, 3, 1, 0] rfl))
    exact L18 4 0 rfl ls (lv_sub hl [2, 3, 1, 0] rfl)
  · refine lv_iconst (v := (-1)) X.1 X.2.1 dX7_contract_7 (by decide) ?_
    exact wr_i X hr hlk hW ⟨(if_pos c_4).symm, _, _, _, hM, hz⟩ (Nat.le_of_ble_eq_true rfl) (Nat.le_of_ble_eq_true rfl) dX7_contract_8

