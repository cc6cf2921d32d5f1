theorem mr_uu {G : HG} {hp : HP} {M : Nat → Nat} {sc : Nat → Int32} {ar : Nat → Nat → Int32} {sm : Nat → Int64} {i : Nat} {f g : Nat → Int32} (h : MR G hp M sc (va_up (va_up ar i f) i g) sm) : MR G hp M sc (va_up ar i g) sm := by
  have e : va_up (va_up ar i f) i g = va_up ar i g := by
    funext j
    unfold va_up
    by_cases c : j = i
    · rw [if_pos c, if_pos c]
    · rw [if_neg c, if_neg c, if_neg c]
  rw [← e]
  exact h
theorem mr_id {G : HG} {hp : HP} {M : Nat → Nat} {sc : Nat → Int32} {ar : Nat → Nat → Int32} {sm : Nat → Int64} (i : Nat) (h : MR G hp M sc ar sm) : MR G hp M sc (va_up ar i (ar i)) sm := by
  have e : va_up ar i (ar i) = ar := by
    funext j
    unfold va_up
    by_cases c : j = i
    · rw [if_pos c, c]
    · rw [if_neg c]
  rw [e]
  exact h
def frN (j : Nat) : Nat := if j % 2 = 0 then 0 else if j = 13 then 20 else 5
theorem frN_le (j : Nat) : frN j ≤ 25 := by unfold frN; split; omega; split <;> omega
theorem fr_step {g : Nat → Int32} {i : Nat} {v : Int32} (h : ∀ j, 4 ≤ j → j < i → g j = nI (frN j)) (hi : i < 2 ^ 31) (e : v = nI (frN i)) : ∀ j, 4 ≤ j → j < i + 1 → upd g (nI i).toNatClampNeg v j = nI (frN j) := by
  intro j h4 hj
  rw [nI_clamp hi]
  by_cases q : j = i
  · simp [upd, q, e]
  · simp [upd, q, h j h4 (by omega)]
set_option maxHeartbeats 4000000 in
set_option maxRecDepth 100000 in
theorem c_X7_clearFresh (l : Launch) (G : HG) (A : Nat → Prop) (hp : HP) (sz : Nat) (hA : ∀ q, sz ≤ q → A q) (hO : Ow A hp) (M : Nat → Nat) (sc : Nat → Int32) (ar : Nat → Nat → Int32) (sm : Nat → Int64) (hM : MR G hp M sc ar sm) : Met l yX7_clearFresh [.code yX7_clearFresh cX7_clearFresh 2 none] { frames := 0, cells := 0, slots := 0, locals := 0 } (va_Pc [.ref (M 0)] (WP G A sz hp)) (va_Qv (fun hp1 => ∃ g, MR G hp1 M sc (va_up ar 10 g) sm ∧ ∀ j, 4 ≤ j → j < 14 → g j = nI (frN j)) (WB G A) A) 0 0 A := by
  refine wr_ofW (by decide) (Nat.le_of_ble_eq_true rfl) hO ?_
  intro p e s m args below meth c ls X hr hlk hnm hsz hW hl
  have hA : ∀ q, s.heap.size ≤ q → A q := fun q h => hA q (by omega)
  have hl : lv_has ls 2 [(0, .ref (M 0))] := hl
  refine lv_iconst (v := 4) X.1 X.2.1 dX7_clearFresh_0 (by decide) ?_
  refine lv_istore_n (lv' := [(1, .int 4), (0, .ref (M 0))]) X.1 X.2.1 dX7_clearFresh_1 rfl hl (by decide) rfl (fun ls hl => ?_)
  have L2 : ∀ (f : Nat) (i : Nat) (hpL : HP) (H : Heap) (locs : List Loc) (g : Nat → Int32), MR G hpL M sc (va_up ar 10 g) sm → WS s G A hpL H locs → (i + f = 14) → (∀ j, 4 ≤ j → j < i → g j = nI (frN j)) → ∀ ls, lv_has ls 2 [(0, .ref (M 0)), (1, .int (nI i))] → W p l e ({ frames := 0, cells := 0, slots := 0, locals := 0 } : Room) s m args below meth c H locs 0 0 (MQ below (va_Qv (fun hp1 => ∃ g, MR G hp1 M sc (va_up ar 10 g) sm ∧ ∀ j, 4 ≤ j → j < 14 → g j = nI (frN j)) (WB G A) A) args s 0 0 A) (F0 m 2 ls []) := by
    intro f
    induction f with
    | zero =>
      intro i hpL H locs g hM hW h0 h1 ls hl
      have h14 : i = 14 := by omega
      refine lv_iload_n X.1 X.2.1 dX7_clearFresh_2 rfl (lv_at hl 1 rfl) ?_
      refine lv_bipush (v := 14) X.1 X.2.1 dX7_clearFresh_3 (by decide) ?_
      refine lv_icmp_ge (tgt := 42) X.1 X.2.1 dX7_clearFresh_5 (by decide) (fun c_5 => ?_) (fun c_5 => absurd (nI_le (a := 14) (b := i) (by omega) (by omega)) c_5)
      exact wr_v X hr hlk hW ⟨g, hM, by rw [← h14]; exact h1⟩ (Nat.le_of_ble_eq_true rfl) (Nat.le_of_ble_eq_true rfl) dX7_clearFresh_42
    | succ f ih =>
      intro i hpL H locs g hM hW h0 h1 ls hl
      have h14 : i < 14 := by omega
      refine lv_iload_n X.1 X.2.1 dX7_clearFresh_2 rfl (lv_at hl 1 rfl) ?_
      refine lv_bipush (v := 14) X.1 X.2.1 dX7_clearFresh_3 (by decide) ?_
      refine lv_icmp_ge (tgt := 42) X.1 X.2.1 dX7_clearFresh_5 (by decide) (fun c_5 => absurd c_5 (nI_ge (a := i) (b := 14) (by omega) (by decide))) (fun c_5 => ?_)
      refine lv_aload_n X.1 X.2.1 dX7_clearFresh_8 rfl (lv_at hl 0 rfl) ?_
      refine r_get X hW.1 hM.1 (v := .ref (M 11)) (C := RX7) (T := TX7) (N := 19) rfl tin_X7 14 (by decide) tw_857 (fun _ h => h) rfl dX7_clearFresh_9 ?_
      refine lv_iload_n X.1 X.2.1 dX7_clearFresh_12 rfl (lv_at hl 1 rfl) ?_
      refine lv_iload_n X.1 X.2.1 dX7_clearFresh_13 rfl (lv_at hl 1 rfl) ?_
      refine lv_iconst (v := 2) X.1 X.2.1 dX7_clearFresh_14 (by decide) ?_
      refine lv_irem X.1 X.2.1 dX7_clearFresh_15 (by decide) ?_
      refine r_eqi (show (((nI i) - (nI i) / 2 * 2) : Int32) = nI (i % 2) from pk_rem (a := i) (d := 2) (by omega) (by omega) (by omega)) ?_
      refine lv_if_ne (tgt := 23) X.1 X.2.1 dX7_clearFresh_16 (by decide) (fun c_16 => ?_) (fun c_16 => ?_)
      · have k_16 := k_ne (a := (i % 2)) (b := 0) (by omega) (by omega) c_16
        refine lv_iload_n X.1 X.2.1 dX7_clearFresh_23 rfl (lv_at hl 1 rfl) ?_
        refine lv_bipush (v := 13) X.1 X.2.1 dX7_clearFresh_24 (by decide) ?_
        refine lv_icmp_ne (tgt := 34) X.1 X.2.1 dX7_clearFresh_26 (by decide) (fun c_26 => ?_) (fun c_26 => ?_)
        · have k_26 := k_ne (a := i) (b := 13) (by omega) (by omega) c_26
          refine lv_iconst (v := 5) X.1 X.2.1 dX7_clearFresh_34 (by decide) ?_
          refine r_iast X hW (hM.2.1 10 (by decide)) (show vp_in ((nI i)) 14 from vp_in_nI (n := i) (by omega) (by decide)) dX7_clearFresh_35 (fun hp_1 H locs hW eh_2 => ?_)
          have hM := mr_ar hM 10 (by decide) eh_2
          refine lv_iinc (v := (nI (i + 1))) (lv' := [(1, .int (nI (i + 1))), (0, .ref (M 0))]) X.1 X.2.1 dX7_clearFresh_36 hl (k := 1) rfl (nI_add i 1) (by decide) rfl (fun ls hl => ?_)
          refine lv_goto (tgt := 2) X.1 X.2.1 dX7_clearFresh_39 (by decide) ?_
          exact ih (i + 1) _ _ _ _ (mr_uu hM) hW (by omega) (fr_step h1 (by omega) (by unfold frN; rw [if_neg k_16, if_neg k_26]; rfl)) ls (lv_sub hl [1, 0] rfl)
        · have k_26 := k_eq (a := i) (b := 13) (by omega) (by omega) c_26
          refine lv_bipush (v := 20) X.1 X.2.1 dX7_clearFresh_29 (by decide) ?_
          refine lv_goto (tgt := 35) X.1 X.2.1 dX7_clearFresh_31 (by decide) ?_
          refine r_iast X hW (hM.2.1 10 (by decide)) (show vp_in ((nI i)) 14 from vp_in_nI (n := i) (by omega) (by decide)) dX7_clearFresh_35 (fun hp_3 H locs hW eh_4 => ?_)
          have hM := mr_ar hM 10 (by decide) eh_4
          refine lv_iinc (v := (nI (i + 1))) (lv' := [(1, .int (nI (i + 1))), (0, .ref (M 0))]) X.1 X.2.1 dX7_clearFresh_36 hl (k := 1) rfl (nI_add i 1) (by decide) rfl (fun ls hl => ?_)
          refine lv_goto (tgt := 2) X.1 X.2.1 dX7_clearFresh_39 (by decide) ?_
          exact ih (i + 1) _ _ _ _ (mr_uu hM) hW (by omega) (fr_step h1 (by omega) (by unfold frN; rw [if_neg k_16, if_pos k_26]; rfl)) ls (lv_sub hl [1, 0] rfl)
      · have k_16 := k_eq (a := (i % 2)) (b := 0) (by omega) (by omega) c_16
        refine lv_iconst (v := 0) X.1 X.2.1 dX7_clearFresh_19 (by decide) ?_
        refine lv_goto (tgt := 35) X.1 X.2.1 dX7_clearFresh_20 (by decide) ?_
        refine r_iast X hW (hM.2.1 10 (by decide)) (show vp_in ((nI i)) 14 from vp_in_nI (n := i) (by omega) (by decide)) dX7_clearFresh_35 (fun hp_5 H locs hW eh_6 => ?_)
        have hM := mr_ar hM 10 (by decide) eh_6
        refine lv_iinc (v := (nI (i + 1))) (lv' := [(1, .int (nI (i + 1))), (0, .ref (M 0))]) X.1 X.2.1 dX7_clearFresh_36 hl (k := 1) rfl (nI_add i 1) (by decide) rfl (fun ls hl => ?_)
        refine lv_goto (tgt := 2) X.1 X.2.1 dX7_clearFresh_39 (by decide) ?_
        exact ih (i + 1) _ _ _ _ (mr_uu hM) hW (by omega) (fr_step h1 (by omega) (by unfold frN; rw [if_pos k_16]; rfl)) ls (lv_sub hl [1, 0] rfl)
  exact L2 10 4 _ _ _ _ (mr_id 10 hM) hW rfl (fun j h4 hj => absurd hj (by omega)) ls (lv_sub hl [1, 0] rfl)

