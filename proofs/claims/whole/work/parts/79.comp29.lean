/-! ranges, the head -/
def XG (hp hp1 : HP) (rd rr : Nat) : Prop := ∀ q, q ≠ rd → q ≠ rr → hp1 q = hp q
theorem XG.rf {hp : HP} {rd rr : Nat} : XG hp hp rd rr := fun _ _ _ => rfl
theorem XG.xf {hp h1 h2 : HP} {rd rr : Nat} (h : XG hp h1 rd rr) (h' : XF h1 h2 rd) : XG hp h2 rd rr := fun q a b => (h' q a).trans (h q a b)
theorem XG.xr {hp h1 h2 : HP} {rd rr : Nat} (h : XG hp h1 rd rr) (h' : XF h1 h2 rr) : XG hp h2 rd rr := fun q a b => (h' q b).trans (h q a b)
theorem XG.tr {hp h1 h2 : HP} {rd rr : Nat} (h : XG hp h1 rd rr) (h' : XG h1 h2 rd rr) : XG hp h2 rd rr := fun q a b => (h' q a b).trans (h q a b)
section RRS
variable {tx : Nat → Nat} {u p lo hi sp m h : Nat}
theorem tkW_true : tkW tx true lo hi sp = true := rfl
theorem tkS_true : tkS tx true lo hi sp = sp := if_pos rfl
theorem nmS_true : nmS tx true m h sp = sp := (nm_f (show nmB tx true m h sp = false from rfl)).1.trans tkS_true
theorem rr_A (hA : tkW tx false 48 (mhN u) (p + 1) = true) : cC tx u p = true ∧ c3 tx u p = nmS tx false (mmN u) (mhN u) (p + 1) := by
  have a : cA tx u p = true := hA
  have b : cB tx u p = true := by unfold cB; rw [a]; rfl
  refine ⟨by unfold cC; rw [b]; rfl, ?_⟩
  unfold c3
  rw [b, nmS_true]
  unfold c2
  rw [a, tkS_true]; rfl
theorem rr_B (hA : ¬ tkW tx false 48 (mhN u) (p + 1) = true) (hB : tkW tx false 45 45 (nmS tx false (mmN u) (mhN u) (p + 1)) = true) : cC tx u p = true ∧ c3 tx u p = nmS tx false (mmN u) (mhN u) (p + 1) := by
  have a : cA tx u p = false := Bool.eq_false_iff.mpr hA
  have b : cB tx u p = true := by unfold cB; rw [a]; exact hB
  refine ⟨by unfold cC; rw [b]; rfl, ?_⟩
  unfold c3
  rw [b, nmS_true]
  unfold c2
  rw [a]
  exact (tk_t hB).1
theorem rr_C (hA : ¬ tkW tx false 48 (mhN u) (p + 1) = true) (hB : tkW tx false 45 45 (nmS tx false (mmN u) (mhN u) (p + 1)) = false) : cC tx u p = tkW tx false 48 (mhN u) (tkS tx false 45 45 (nmS tx false (mmN u) (mhN u) (p + 1))) ∧ c3 tx u p = nmS tx false (mmN u) (mhN u) (tkS tx false 45 45 (nmS tx false (mmN u) (mhN u) (p + 1))) ∧ cL tx u p = nmV tx false (mmN u) (mhN u) (p + 1) ∧ cH tx u p = nmV tx false (mmN u) (mhN u) (tkS tx false 45 45 (nmS tx false (mmN u) (mhN u) (p + 1))) := by
  have a : cA tx u p = false := Bool.eq_false_iff.mpr hA
  have b : cB tx u p = false := by unfold cB; rw [a]; exact hB
  have c : c2 tx u p = tkS tx false 45 45 (nmS tx false (mmN u) (mhN u) (p + 1)) := by unfold c2; rw [a]; rfl
  refine ⟨by unfold cC; rw [b, c], by unfold c3; rw [b, c], rfl, by unfold cH; rw [b, c]⟩
theorem rr_Y (hC : cC tx u p = true) : cdY tx u p = false := by unfold cdY; rw [hC]; rfl
end RRS
set_option maxHeartbeats 4000000 in
set_option maxRecDepth 100000 in
theorem c_X5_readsRange (l : Launch) (G : HG) (A : Nat → Prop) (hp : HP) (sz : Nat) (hA : ∀ q, sz ≤ q → A q) (hO : Ow A hp) (pa vb cv : Nat) (ml : Bool) (fb : Nat → Int32) (pn : Nat) (pt : Nat → Nat) (hSB : SBp G hp pa vb cv ml fb pn pt) (rd rr kp lim : Nat) (hrd : hp rd = some (rdE pa rr (kp + 1) lim)) (hsp : kp ≤ 80) (u : Nat) (hu : u ≤ 4) (q : Nat → Nat) (hq : ∀ j, j < 14 → q j ≤ 25) (hrr : hp rr = some (rcE q)) : Met l yX5_readsRange [.code yX5_readsRange cX5_readsRange 5 (some .boolean)] { frames := 7, cells := 0, slots := 0, locals := 154 } (va_Pc [.ref rd, .int (nI u)] (WP G A sz hp)) (va_Qi (fun r hp1 => r = bI (!(cC (txN pn pt) u kp || cdY (txN pn pt) u kp)) ∧ hp1 rd = some (rdE pa rr (if cdY (txN pn pt) u kp = true then c3 (txN pn pt) u kp - 1 else c3 (txN pn pt) u kp) lim) ∧ XG hp hp1 rd rr ∧ hp1 rr = some (rcE (if (cC (txN pn pt) u kp || cdY (txN pn pt) u kp) = true then q else slR q u (cL (txN pn pt) u kp) (cH (txN pn pt) u kp)))) (WB G A) A) 0 0 A := by
  refine wr_ofW (by decide) (Nat.le_of_ble_eq_true rfl) hO ?_
  intro p e s m args below meth c ls X hr hlk hnm hsz hW hl
  have hA : ∀ q, s.heap.size ≤ q → A q := fun q h => hA q (by omega)
  have hl : lv_has ls 5 [(0, .ref rd), (1, .int (nI u))] := hl
  have hpn := hSB.2.2.1
  have hcv := hSB.2.2.2.1
  have hcv2 := hSB.2.2.2.2.2.1
  have hcv1 := hSB.2.2.2.2.1
  obtain ⟨hm1, hm2, hm3, hm4⟩ := mm_h u
  have hmm := (mm_le u).1
  have g_1 : hp rd = some (.inr (6, [.ref pa, .ref rr, .int (nI (kp + 1)), .int (nI lim)])) := hrd
  have g_2 : hp pa = some (.inr (0, [.ref vb, .int 0, .int (bI ml), .int (nI pn)])) := hSB.1
  have g_3 : hp vb = some (.inl (G.2.1 0, cv, .inl fb)) := hSB.2.1
  have g_4 : hp rr = some (.inr (5, [.int (nI (q 0)), .int (nI (q 1)), .int (nI (q 2)), .int (nI (q 3)), .int (nI (loP q)), .int (nI (hiP q))])) := hrr
  refine lv_iload_n X.1 X.2.1 dX5_readsRange_0 rfl (lv_at hl 1 rfl) ?_
  refine on_Si (run_S (As := [.int (nI u)]) (rest := []) X (c_X1_greatestMeasure l G hp u (by omega)) (rp_blind _) (rp_at X hW.1 hW.2.2) mf_X1_greatestMeasure tw_822 tw_351 ⟨rfl, rfl, Nat.le_of_ble_eq_true rfl, Nat.le_of_ble_eq_true rfl⟩ hl.1 rfl rfl (Nat.le_of_ble_eq_true rfl) ⟨Nat.le_of_ble_eq_true rfl, Nat.le_of_ble_eq_true rfl⟩ dX5_readsRange_1) (fun r_1 q_1 => ?_)
  obtain rfl : r_1 = (nI (if u = 4 then 20 else 5)) := q_1
  refine r_eqi (show (nI (if u = 4 then 20 else 5)) = nI (mmN u) from rfl) ?_
  refine lv_istore_n (lv' := [(2, .int (nI (mmN u))), (0, .ref rd), (1, .int (nI u))]) X.1 X.2.1 dX5_readsRange_4 rfl hl (by decide) rfl (fun ls hl => ?_)
  refine lv_aload_n X.1 X.2.1 dX5_readsRange_5 rfl (lv_at hl 1 rfl) ?_
  refine lv_iload_n X.1 X.2.1 dX5_readsRange_6 rfl (lv_at hl 0 rfl) ?_
  refine on_Wi (k' := 0) (n' := 0) (run_V (C := RX5) (As := [.int (nI (mmN u))]) (rest := []) X (c_X5_readNumber l G A hp _ (fun q h => hA q (Nat.le_trans hW.2.2.1 h)) hW.2.1 pa vb cv ml fb pn pt hSB rd rr (kp + 1) lim g_1 (by omega) u) (wp_blind _) (wp_at X hW.1 hW.2.2) (recv X hW.1 g_1 (C := RX5) (T := TX5) (N := 4) rfl) mf_X5_readNumber tw_823 tw_825 tw_25 ⟨rfl, rfl, Nat.le_of_ble_eq_true rfl, Nat.le_of_ble_eq_true rfl⟩ hl.1 rfl rfl (Nat.le_of_ble_eq_true rfl) ⟨Nat.le_of_ble_eq_true rfl, Nat.le_of_ble_eq_true rfl⟩ dX5_readsRange_7) hW (by omega) (by omega) (fun r_7 hp_5 H locs q_7 hW => ?_)
  obtain ⟨rfl, hr_1, hx_1⟩ := q_7
  have hS_1 := SBp.xf hSB hx_1 g_1 (by decide)
  have g_6 : hp_5 rd = some (.inr (6, [.ref pa, .ref rr, .int (nI (nmS (txN pn pt) false (mmN u) (mhN u) (kp + 1))), .int (nI lim)])) := hr_1
  have g_7 : hp_5 pa = some (.inr (0, [.ref vb, .int 0, .int (bI ml), .int (nI pn)])) := hS_1.1
  have g_8 : hp_5 vb = some (.inl (G.2.1 0, cv, .inl fb)) := hS_1.2.1
  have g_9 : hp_5 rr = some (.inr (5, [.int (nI (q 0)), .int (nI (q 1)), .int (nI (q 2)), .int (nI (q 3)), .int (nI (loP q)), .int (nI (hiP q))])) := by rw [hx_1 _ (ne_look g_4 g_1 (by simp))]; exact g_4
  have hle_1 := nmS_le (txN pn pt) false (mmN u) (mhN u) (kp + 1)
  have hge_1 := nmS_ge (txN pn pt) false (mmN u) (mhN u) (kp + 1)
  by_cases hNA : tkW (txN pn pt) false 48 (mhN u) (kp + 1) = true
  · refine r_eqi (if_pos hNA) ?_
    refine lv_istore_n (lv' := [(3, .int (-1)), (2, .int (nI (mmN u))), (0, .ref rd), (1, .int (nI u))]) X.1 X.2.1 dX5_readsRange_10 rfl hl (by decide) rfl (fun ls hl => ?_)
    refine lv_iload_n X.1 X.2.1 dX5_readsRange_11 rfl (lv_at hl 0 rfl) ?_
    refine lv_iconst (v := (-1)) X.1 X.2.1 dX5_readsRange_12 (by decide) ?_
    refine lv_icmp_eq (tgt := 25) X.1 X.2.1 dX5_readsRange_13 (by decide) (fun c_13 => ?_) (fun c_13 => absurd (by decide) c_13)
    refine lv_iconst (v := 0) X.1 X.2.1 dX5_readsRange_25 (by decide) ?_
    obtain ⟨hC9, h39⟩ := rr_A hNA
    have hY9 := rr_Y hC9
    exact wr_z X hr hlk rfl hW ⟨by rw [hC9]; rfl, by rw [hY9, if_neg Bool.false_ne_true, h39]; exact g_6, (XG.xf XG.rf hx_1), by rw [hC9]; exact g_9⟩ (Nat.le_of_ble_eq_true rfl) (Nat.le_of_ble_eq_true rfl) dX5_readsRange_26
  · have hv1 := nmV_le (tx := (txN pn pt)) (w := false) (sp := kp + 1) hmm
    refine r_eqi (if_neg hNA) ?_
    refine lv_istore_n (lv' := [(3, .int (nI (nmV (txN pn pt) false (mmN u) (mhN u) (kp + 1)))), (2, .int (nI (mmN u))), (0, .ref rd), (1, .int (nI u))]) X.1 X.2.1 dX5_readsRange_10 rfl hl (by decide) rfl (fun ls hl => ?_)
    refine lv_iload_n X.1 X.2.1 dX5_readsRange_11 rfl (lv_at hl 0 rfl) ?_
    refine lv_iconst (v := (-1)) X.1 X.2.1 dX5_readsRange_12 (by decide) ?_
    refine lv_icmp_eq (tgt := 25) X.1 X.2.1 dX5_readsRange_13 (by decide) (fun c_13 => absurd c_13 (nI_m1 (by omega))) (fun c_13 => ?_)
    refine lv_aload_n X.1 X.2.1 dX5_readsRange_16 rfl (lv_at hl 2 rfl) ?_
    refine lv_bipush (v := 45) X.1 X.2.1 dX5_readsRange_17 (by decide) ?_
    refine on_Wi (k' := 0) (n' := 0) (run_V (C := RX5) (As := [.int 45]) (rest := []) X (c_X5_reads l G A hp_5 _ (fun q h => hA q (Nat.le_trans hW.2.2.1 h)) hW.2.1 pa vb cv ml fb pn pt hS_1 rd rr (nmS (txN pn pt) false (mmN u) (mhN u) (kp + 1)) lim g_6 (by omega) 45 ⟨by decide, by decide⟩) (wp_blind _) (wp_at X hW.1 hW.2.2) (recv X hW.1 g_6 (C := RX5) (T := TX5) (N := 4) rfl) mf_X5_reads tw_802 tw_804 tw_20 ⟨rfl, rfl, Nat.le_of_ble_eq_true rfl, Nat.le_of_ble_eq_true rfl⟩ hl.1 rfl rfl (Nat.le_of_ble_eq_true rfl) ⟨Nat.le_of_ble_eq_true rfl, Nat.le_of_ble_eq_true rfl⟩ dX5_readsRange_19) hW (by omega) (by omega) (fun r_19 hp_10 H locs q_19 hW => ?_)
    obtain ⟨rfl, hr_2, hx_2⟩ := q_19
    have hS_2 := SBp.xf hS_1 hx_2 g_6 (by decide)
    have g_11 : hp_10 rd = some (.inr (6, [.ref pa, .ref rr, .int (nI (tkS (txN pn pt) false 45 45 (nmS (txN pn pt) false (mmN u) (mhN u) (kp + 1)))), .int (nI lim)])) := hr_2
    have g_12 : hp_10 pa = some (.inr (0, [.ref vb, .int 0, .int (bI ml), .int (nI pn)])) := hS_2.1
    have g_13 : hp_10 vb = some (.inl (G.2.1 0, cv, .inl fb)) := hS_2.2.1
    have g_14 : hp_10 rr = some (.inr (5, [.int (nI (q 0)), .int (nI (q 1)), .int (nI (q 2)), .int (nI (q 3)), .int (nI (loP q)), .int (nI (hiP q))])) := by rw [hx_2 _ (ne_look g_9 g_6 (by simp))]; exact g_9
    have hle_2 := tkS_le (txN pn pt) false 45 45 (nmS (txN pn pt) false (mmN u) (mhN u) (kp + 1))
    refine lv_if_ne (tgt := 27) X.1 X.2.1 dX5_readsRange_22 (by decide) (fun c_22 => ?_) (fun c_22 => ?_)
    · have hB := not_f (bI_1 c_22)
      have hg2 := tkS_ge (txN pn pt) false 45 45 (nmS (txN pn pt) false (mmN u) (mhN u) (kp + 1))
      refine lv_aload_n X.1 X.2.1 dX5_readsRange_27 rfl (lv_at hl 2 rfl) ?_
      refine lv_iload_n X.1 X.2.1 dX5_readsRange_28 rfl (lv_at hl 1 rfl) ?_
      refine on_Wi (k' := 0) (n' := 0) (run_V (C := RX5) (As := [.int (nI (mmN u))]) (rest := []) X (c_X5_readNumber l G A hp_10 _ (fun q h => hA q (Nat.le_trans hW.2.2.1 h)) hW.2.1 pa vb cv ml fb pn pt hS_2 rd rr (tkS (txN pn pt) false 45 45 (nmS (txN pn pt) false (mmN u) (mhN u) (kp + 1))) lim g_11 (by omega) u) (wp_blind _) (wp_at X hW.1 hW.2.2) (recv X hW.1 g_11 (C := RX5) (T := TX5) (N := 4) rfl) mf_X5_readNumber tw_823 tw_825 tw_25 ⟨rfl, rfl, Nat.le_of_ble_eq_true rfl, Nat.le_of_ble_eq_true rfl⟩ hl.1 rfl rfl (Nat.le_of_ble_eq_true rfl) ⟨Nat.le_of_ble_eq_true rfl, Nat.le_of_ble_eq_true rfl⟩ dX5_readsRange_29) hW (by omega) (by omega) (fun r_29 hp_15 H locs q_29 hW => ?_)
      obtain ⟨rfl, hr_3, hx_3⟩ := q_29
      have hS_3 := SBp.xf hS_2 hx_3 g_11 (by decide)
      have g_16 : hp_15 rd = some (.inr (6, [.ref pa, .ref rr, .int (nI (nmS (txN pn pt) false (mmN u) (mhN u) (tkS (txN pn pt) false 45 45 (nmS (txN pn pt) false (mmN u) (mhN u) (kp + 1))))), .int (nI lim)])) := hr_3
      have g_17 : hp_15 pa = some (.inr (0, [.ref vb, .int 0, .int (bI ml), .int (nI pn)])) := hS_3.1
      have g_18 : hp_15 vb = some (.inl (G.2.1 0, cv, .inl fb)) := hS_3.2.1
      have g_19 : hp_15 rr = some (.inr (5, [.int (nI (q 0)), .int (nI (q 1)), .int (nI (q 2)), .int (nI (q 3)), .int (nI (loP q)), .int (nI (hiP q))])) := by rw [hx_3 _ (ne_look g_14 g_11 (by simp))]; exact g_14
      have hle_3 := nmS_le (txN pn pt) false (mmN u) (mhN u) (tkS (txN pn pt) false 45 45 (nmS (txN pn pt) false (mmN u) (mhN u) (kp + 1)))
      have hge_3 := nmS_ge (txN pn pt) false (mmN u) (mhN u) (tkS (txN pn pt) false 45 45 (nmS (txN pn pt) false (mmN u) (mhN u) (kp + 1)))
      by_cases hC : tkW (txN pn pt) false 48 (mhN u) (tkS (txN pn pt) false 45 45 (nmS (txN pn pt) false (mmN u) (mhN u) (kp + 1))) = true
      · refine r_eqi (if_pos hC) ?_
        refine lv_istore (lv' := [(4, .int (-1)), (3, .int (nI (nmV (txN pn pt) false (mmN u) (mhN u) (kp + 1)))), (2, .int (nI (mmN u))), (0, .ref rd), (1, .int (nI u))]) X.1 X.2.1 dX5_readsRange_32 hl (by decide) rfl (fun ls hl => ?_)
        refine lv_iload X.1 X.2.1 dX5_readsRange_34 (lv_at hl 0 rfl) ?_
        refine lv_iconst (v := (-1)) X.1 X.2.1 dX5_readsRange_36 (by decide) ?_
        refine lv_icmp_ne (tgt := 42) X.1 X.2.1 dX5_readsRange_37 (by decide) (fun c_37 => absurd (by decide) c_37) (fun c_37 => ?_)
        refine lv_iconst (v := 0) X.1 X.2.1 dX5_readsRange_40 (by decide) ?_
        obtain ⟨e1, e2, e3, e4⟩ := rr_C hNA hB
        obtain ⟨hC9, h39⟩ := (⟨e1.trans hC, e2⟩ : cC (txN pn pt) u kp = true ∧ c3 (txN pn pt) u kp = nmS (txN pn pt) false (mmN u) (mhN u) (tkS (txN pn pt) false 45 45 (nmS (txN pn pt) false (mmN u) (mhN u) (kp + 1))))
        have hY9 := rr_Y hC9
        exact wr_z X hr hlk rfl hW ⟨by rw [hC9]; rfl, by rw [hY9, if_neg Bool.false_ne_true, h39]; exact g_16, (XG.xf (XG.xf (XG.xf XG.rf hx_1) hx_2) hx_3), by rw [hC9]; exact g_19⟩ (Nat.le_of_ble_eq_true rfl) (Nat.le_of_ble_eq_true rfl) dX5_readsRange_41
      · have hv2 := nmV_le (tx := (txN pn pt)) (w := false) (sp := tkS (txN pn pt) false 45 45 (nmS (txN pn pt) false (mmN u) (mhN u) (kp + 1))) hmm
        refine r_eqi (if_neg hC) ?_
        refine lv_istore (lv' := [(4, .int (nI (nmV (txN pn pt) false (mmN u) (mhN u) (tkS (txN pn pt) false 45 45 (nmS (txN pn pt) false (mmN u) (mhN u) (kp + 1)))))), (3, .int (nI (nmV (txN pn pt) false (mmN u) (mhN u) (kp + 1)))), (2, .int (nI (mmN u))), (0, .ref rd), (1, .int (nI u))]) X.1 X.2.1 dX5_readsRange_32 hl (by decide) rfl (fun ls hl => ?_)
        refine lv_iload X.1 X.2.1 dX5_readsRange_34 (lv_at hl 0 rfl) ?_
        refine lv_iconst (v := (-1)) X.1 X.2.1 dX5_readsRange_36 (by decide) ?_
        refine lv_icmp_ne (tgt := 42) X.1 X.2.1 dX5_readsRange_37 (by decide) (fun c_37 => ?_) (fun c_37 => absurd c_37 (nI_m1 (by omega)))
        refine lv_iload X.1 X.2.1 dX5_readsRange_42 (lv_at hl 0 rfl) ?_
        refine lv_iload_n X.1 X.2.1 dX5_readsRange_44 rfl (lv_at hl 1 rfl) ?_
        refine lv_icmp_ge (tgt := 60) X.1 X.2.1 dX5_readsRange_45 (by decide) (fun c_45 => ?_) (fun c_45 => ?_)
        · have k_45 := k_le (a := (nmV (txN pn pt) false (mmN u) (mhN u) (kp + 1))) (b := (nmV (txN pn pt) false (mmN u) (mhN u) (tkS (txN pn pt) false 45 45 (nmS (txN pn pt) false (mmN u) (mhN u) (kp + 1))))) (by omega) (by omega) c_45
          refine lv_aload_n X.1 X.2.1 dX5_readsRange_60 rfl (lv_at hl 3 rfl) ?_
          refine r_get X hW.1 g_16 (v := .ref rr) (C := RX5) (T := TX5) (N := 4) rfl tin_X5 1 (by decide) tw_759 (fun _ h => h) rfl dX5_readsRange_61 ?_
          refine lv_iload_n X.1 X.2.1 dX5_readsRange_64 rfl (lv_at hl 4 rfl) ?_
          refine lv_iload_n X.1 X.2.1 dX5_readsRange_65 rfl (lv_at hl 1 rfl) ?_
          refine lv_iload X.1 X.2.1 dX5_readsRange_66 (lv_at hl 0 rfl) ?_
          refine on_Wv (k' := 0) (n' := 0) (run_V (C := RX4) (As := [.int (nI u), .int (nI (nmV (txN pn pt) false (mmN u) (mhN u) (kp + 1))), .int (nI (nmV (txN pn pt) false (mmN u) (mhN u) (tkS (txN pn pt) false 45 45 (nmS (txN pn pt) false (mmN u) (mhN u) (kp + 1)))))]) (rest := []) X (c_X4_setRange l G A hp_15 _ (fun q h => hA q (Nat.le_trans hW.2.2.1 h)) hW.2.1 rr q hq u (by omega) (nmV (txN pn pt) false (mmN u) (mhN u) (kp + 1)) (nmV (txN pn pt) false (mmN u) (mhN u) (tkS (txN pn pt) false 45 45 (nmS (txN pn pt) false (mmN u) (mhN u) (kp + 1)))) (by omega) (by omega) g_19) (wp_blind _) (wp_at X hW.1 hW.2.2) (recv X hW.1 g_19 (C := RX4) (T := TX4) (N := 6) rfl) mf_X4_setRange tw_828 tw_354 tw_355 ⟨rfl, rfl, Nat.le_of_ble_eq_true rfl, Nat.le_of_ble_eq_true rfl⟩ hl.1 rfl rfl (Nat.le_of_ble_eq_true rfl) ⟨Nat.le_of_ble_eq_true rfl, Nat.le_of_ble_eq_true rfl⟩ dX5_readsRange_68) hW (by omega) (by omega) (fun hp_20 H locs q_68 hW => ?_)
          have hrr1 : hp_20 rr = some (rcE (slR q u (nmV (txN pn pt) false (mmN u) (mhN u) (kp + 1)) (nmV (txN pn pt) false (mmN u) (mhN u) (tkS (txN pn pt) false 45 45 (nmS (txN pn pt) false (mmN u) (mhN u) (kp + 1)))))) := by rw [q_68]; exact va_up_self _ _ _
          have g_21 : hp_20 rd = some (.inr (6, [.ref pa, .ref rr, .int (nI (nmS (txN pn pt) false (mmN u) (mhN u) (tkS (txN pn pt) false 45 45 (nmS (txN pn pt) false (mmN u) (mhN u) (kp + 1))))), .int (nI lim)])) := by rw [q_68, va_up_ne _ _ (ne_look g_16 g_19 (by simp))]; exact g_16
          refine lv_iconst (v := 1) X.1 X.2.1 dX5_readsRange_71 (by decide) ?_
          obtain ⟨e1, e2, e3, e4⟩ := rr_C hNA hB
          have hC9 : cC (txN pn pt) u kp = false := e1.trans (Bool.eq_false_iff.mpr hC)
          have hY9 : cdY (txN pn pt) u kp = false := by unfold cdY; rw [hC9, e3, e4, decide_eq_false (by omega)]; rfl
          exact wr_z X hr hlk rfl hW ⟨by rw [hC9, hY9]; rfl, by rw [hY9, if_neg Bool.false_ne_true, e2]; exact g_21, (XG.xr (XG.xf (XG.xf (XG.xf XG.rf hx_1) hx_2) hx_3) (XF.up XF.rf q_68)), by rw [hC9, hY9, e3, e4]; exact hrr1⟩ (Nat.le_of_ble_eq_true rfl) (Nat.le_of_ble_eq_true rfl) dX5_readsRange_72
        · have k_45 := k_nle (a := (nmV (txN pn pt) false (mmN u) (mhN u) (kp + 1))) (b := (nmV (txN pn pt) false (mmN u) (mhN u) (tkS (txN pn pt) false 45 45 (nmS (txN pn pt) false (mmN u) (mhN u) (kp + 1))))) (by omega) (by omega) c_45
          refine lv_aload_n X.1 X.2.1 dX5_readsRange_48 rfl (lv_at hl 3 rfl) ?_
          refine lv_dup X.1 X.2.1 dX5_readsRange_49 rfl ?_
          refine r_get X hW.1 g_16 (v := .int (nI (nmS (txN pn pt) false (mmN u) (mhN u) (tkS (txN pn pt) false 45 45 (nmS (txN pn pt) false (mmN u) (mhN u) (kp + 1)))))) (C := RX5) (T := TX5) (N := 4) rfl tin_X5 2 (by decide) tw_761 (fun _ h => h) rfl dX5_readsRange_50 ?_
          refine lv_iconst (v := 1) X.1 X.2.1 dX5_readsRange_53 (by decide) ?_
          refine lv_isub X.1 X.2.1 dX5_readsRange_54 ?_
          refine r_eqi (show (((nI (nmS (txN pn pt) false (mmN u) (mhN u) (tkS (txN pn pt) false 45 45 (nmS (txN pn pt) false (mmN u) (mhN u) (kp + 1))))) - 1) : Int32) = nI ((nmS (txN pn pt) false (mmN u) (mhN u) (tkS (txN pn pt) false 45 45 (nmS (txN pn pt) false (mmN u) (mhN u) (kp + 1)))) - 1) from pk_sub (a := (nmS (txN pn pt) false (mmN u) (mhN u) (tkS (txN pn pt) false 45 45 (nmS (txN pn pt) false (mmN u) (mhN u) (kp + 1))))) (b := 1) (by omega)) ?_
          refine r_put X hW g_16 (v := .int (nI ((nmS (txN pn pt) false (mmN u) (mhN u) (tkS (txN pn pt) false 45 45 (nmS (txN pn pt) false (mmN u) (mhN u) (kp + 1)))) - 1))) (C := RX5) (T := TX5) (N := 4) rfl tin_X5 tyX5_ok nmX5 2 (Nat.le_of_ble_eq_true rfl) tw_761 (fun _ h => h) rfl rfl rfl (Nat.le_of_ble_eq_true rfl) dX5_readsRange_55 (fun hp_22 H locs hW eh_23 => ?_)
          have f_24 : hp_22 rd = some (.inr (6, [.ref pa, .ref rr, .int (nI ((nmS (txN pn pt) false (mmN u) (mhN u) (tkS (txN pn pt) false 45 45 (nmS (txN pn pt) false (mmN u) (mhN u) (kp + 1)))) - 1)), .int (nI lim)])) := by rw [eh_23]; exact va_up_self _ _ _
          have hS_4 := SBp.xf hS_3 (XF.up (XF.rf (rd := rd)) eh_23) g_16 (by decide)
          refine lv_iconst (v := 0) X.1 X.2.1 dX5_readsRange_58 (by decide) ?_
          obtain ⟨e1, e2, e3, e4⟩ := rr_C hNA hB
          have hC9 : cC (txN pn pt) u kp = false := e1.trans (Bool.eq_false_iff.mpr hC)
          have hY9 : cdY (txN pn pt) u kp = true := by unfold cdY; rw [hC9, e3, e4, decide_eq_true k_45]; rfl
          exact wr_z X hr hlk rfl hW ⟨by rw [hC9, hY9]; rfl, by rw [if_pos hY9, e2]; exact f_24, (XG.xf (XG.xf (XG.xf (XG.xf XG.rf hx_1) hx_2) hx_3) (XF.up XF.rf eh_23)), by rw [hC9, hY9]; exact (show (_ : Option va_E) = some (.inr (5, [.int (nI (q 0)), .int (nI (q 1)), .int (nI (q 2)), .int (nI (q 3)), .int (nI (loP q)), .int (nI (hiP q))])) by rw [eh_23, va_up_ne _ _ (ne_look g_19 g_16 (by simp))]; exact g_19)⟩ (Nat.le_of_ble_eq_true rfl) (Nat.le_of_ble_eq_true rfl) dX5_readsRange_59
    · have hB := not_t (bI_0 c_22)
      have g_25 : hp_10 rd = some (.inr (6, [.ref pa, .ref rr, .int (nI (nmS (txN pn pt) false (mmN u) (mhN u) (kp + 1))), .int (nI lim)])) := by have z9 := g_11; rw [(tk_t hB).1] at z9; exact z9
      refine lv_iconst (v := 0) X.1 X.2.1 dX5_readsRange_25 (by decide) ?_
      obtain ⟨hC9, h39⟩ := rr_B hNA hB
      have hY9 := rr_Y hC9
      exact wr_z X hr hlk rfl hW ⟨by rw [hC9]; rfl, by rw [hY9, if_neg Bool.false_ne_true, h39]; exact g_25, (XG.xf (XG.xf XG.rf hx_1) hx_2), by rw [hC9]; exact g_14⟩ (Nat.le_of_ble_eq_true rfl) (Nat.le_of_ble_eq_true rfl) dX5_readsRange_26

