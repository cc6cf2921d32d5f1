/-! the law's loop -/
theorem law_le {i L : Nat} (hi : i ≤ 2560) (hL : L ≤ 2560) (h : ¬ nI L - 5 < nI i) : i + 5 ≤ L := by
  rw [Int32.lt_iff_toInt_lt, Int32.toInt_sub, nI_toInt (by omega), nI_toInt (by omega), show (5 : Int32).toInt = 5 from rfl, Int.bmod_eq_of_le (by omega) (by omega)] at h
  omega
theorem and31 (x : Int32) : ∃ k : Nat, k < 32 ∧ x &&& 31 = nI k := ⟨(x &&& 31).toBitVec.toNat, by
  have h : (x &&& 31).toBitVec.toNat = x.toBitVec.toNat &&& 31 := by
    rw [Int32.toBitVec_and, BitVec.toNat_and]; rfl
  rw [h]
  exact Nat.lt_succ_of_le Nat.and_le_right, by
  apply Int32.toBitVec_inj.mp
  simp [nI]⟩
theorem law_head {p : Program} {e : Env} {s : State} {m : MethodId} {below : List Frame} {meth : Method} {c : Code} {H : Heap} {locs : List Loc} {cells slots : Nat} {ls : Array Slot} {G : HG} (l : Launch) {b b6 b7 L : Nat} {xs : Nat → Int32} {x3 : Int32} {z : ST} (X : CX p c cL_law 4 s m R_law G (A0 s)) (hX : va_X b L xs s s.heap) (hbl : b < s.heap.size) (hr : meth.sig.returnType = ret) (hlk : meth.locks = false) (hL : L ≤ 2560) {i : Nat} (hi : i ≤ 2560) (hx3 : x3 = nI i) (hk : cells ≤ 600000) (hn : slots ≤ 7302250) (L0 : LI G s b6 b7 z z H locs) (hl : lv_has ls 4 [(0, .ref b), (1, .ref b6), (2, .ref b7), (3, .int x3)]) (kk : i + 5 ≤ L → W p l e room_1 s m #[.ref b] below meth c H locs cells slots (lw_Z below #[.ref b] s) (F0 m 26 ls [])) : W p l e room_1 s m #[.ref b] below meth c H locs cells slots (lw_Z below #[.ref b] s) (F0 m 18 ls []) := by
  have hbA : ¬ A0 s b := Nat.not_le.mpr hbl
  refine lv_iload_n X.1 X.2.1 dL_law_18 rfl (lv_at hl 3 rfl) ?_
  refine lv_aload_n X.1 X.2.1 dL_law_19 rfl (lv_at hl 0 rfl) ?_
  refine va_slen X.1 X.2.1 hX hbl hbA (li_x L0) dL_law_20 ?_
  refine lv_iconst (v := 5) X.1 X.2.1 dL_law_21 (by decide) ?_
  refine lv_isub X.1 X.2.1 dL_law_22 ?_
  refine lv_icmp_gt (tgt := 954) X.1 X.2.1 dL_law_23 (by decide) (fun q => ?_) (fun q => ?_)
  · refine lv_iconst (v := 1) X.1 X.2.1 dL_law_954 (by decide) ?_
    refine va_forget (fun q hq => (li_x L0).2.2 q hq) ?_
    exact W.widen hk hn (lw_ret X.1 X.2.1 hr hlk dL_law_955)
  · subst hx3
    exact kk (law_le hi hL q)
set_option maxHeartbeats 4000000 in
theorem law_body {p : Program} {e : Env} {s : State} {m : MethodId} {below : List Frame} {meth : Method} {c : Code} {H : Heap} {locs : List Loc} {cells slots : Nat} {ls : Array Slot} {G : HG} (l : Launch) {b b6 b7 L : Nat} {xs : Nat → Int32} {x3 : Int32} {z : ST} (X : CX p c cL_law 4 s m R_law G (A0 s)) (hX : va_X b L xs s s.heap) (hbl : b < s.heap.size) (hr : meth.sig.returnType = ret) (hlk : meth.locks = false) (hL : L ≤ 2560) {i : Nat} (hi : i ≤ 2560) (hx3 : x3 = nI i) (h5 : i + 5 ≤ L) (hk : cells + 8 ≤ 600000) (hn : slots + 1040 ≤ 7302250) (L0 : LI G s b6 b7 z z H locs) (hl : lv_has ls 4 [(0, .ref b), (1, .ref b6), (2, .ref b7), (3, .int x3)]) (kk : ∀ (z1 : ST) (H1 : Heap) (locs1 : List Loc) (ls1 : Array Slot), LI G s b6 b7 z1 z1 H1 locs1 → lv_has ls1 4 [(0, .ref b), (1, .ref b6), (2, .ref b7), (3, .int (nI (i + 5)))] → W p l e room_1 s m #[.ref b] below meth c H1 locs1 (cells + 8) (slots + 1040) (lw_Z below #[.ref b] s) (F0 m 18 ls1 [])) : W p l e room_1 s m #[.ref b] below meth c H locs cells slots (lw_Z below #[.ref b] s) (F0 m 26 ls []) := by
  have hbA : ¬ A0 s b := Nat.not_le.mpr hbl
  have hc : cells + 8 ≤ room_1.cells ∧ slots + 1040 ≤ room_1.slots := ⟨hk, hn⟩
  have kt : ∀ (z1 : ST) (H1 : Heap) (locs1 : List Loc), LI G s b6 b7 z1 z1 H1 locs1 → W p l e room_1 s m #[.ref b] below meth c H1 locs1 (cells + 8) (slots + 1040) (lw_Z below #[.ref b] s) (F0 m 948 ls []) := fun z1 H1 locs1 L1 => by
    refine lv_iinc (v := nI (i + 5)) (lv' := [(3, .int (nI (i + 5))), (0, .ref b), (1, .ref b6), (2, .ref b7)]) X.1 X.2.1 dL_law_948 hl (k := 3) rfl (by rw [hx3]; exact nI_add i 5) (by decide) rfl (fun ls1 hl1 => ?_)
    refine lv_goto (tgt := 18) X.1 X.2.1 dL_law_951 (by decide) ?_
    exact kk z1 H1 locs1 ls1 L1 (lv_sub hl1 [1, 2, 3, 0] rfl)
  have hin : ∀ j : Nat, j < 5 → vp_in (nI (i + j)) L := fun j hj => vp_in_nI (by omega) (by omega)
  have i0 : vp_in x3 L := by rw [hx3]; exact hin 0 (by omega)
  have i1 : vp_in (x3 + 1) L := by rw [hx3, show (1 : Int32) = nI 1 from rfl, nI_add]; exact hin 1 (by omega)
  have i2 : vp_in (x3 + 2) L := by rw [hx3, show (2 : Int32) = nI 2 from rfl, nI_add]; exact hin 2 (by omega)
  have i3 : vp_in (x3 + 3) L := by rw [hx3, show (3 : Int32) = nI 3 from rfl, nI_add]; exact hin 3 (by omega)
  have i4 : vp_in (x3 + 4) L := by rw [hx3, show (4 : Int32) = nI 4 from rfl, nI_add]; exact hin 4 (by omega)
  have O : LO p c s m G b b6 b7 L xs x3 z H locs ls := ⟨X, hX, hbl, ⟨i1, i2, i3, i4⟩, L0, hl⟩
  refine lv_aload_n X.1 X.2.1 dL_law_26 rfl (lv_at hl 0 rfl) ?_
  refine lv_iload_n X.1 X.2.1 dL_law_27 rfl (lv_at hl 3 rfl) ?_
  refine va_sld X.1 X.2.1 hX hbl hbA (li_x L0) i0 dL_law_28 ?_
  refine lv_bipush (v := 31) X.1 X.2.1 dL_law_29 (by decide) ?_
  refine lv_iand X.1 X.2.1 dL_law_31 ?_
  obtain ⟨w, hw, ew⟩ := and31 (xs x3.toNatClampNeg)
  rw [ew]
  by_cases h0 : w = 0
  · subst h0
    exact lv_tableIn (off := 124) (tgt := 156) X.1 X.2.1 dL_law_32 (by decide +kernel) (by decide +kernel) (by decide +kernel) (by decide) (law_op_rule l O hc kt)
  by_cases h1 : w = 1
  · subst h1
    exact lv_tableIn (off := 177) (tgt := 209) X.1 X.2.1 dL_law_32 (by decide +kernel) (by decide +kernel) (by decide +kernel) (by decide) (law_op_limit l O hc kt)
  by_cases h2 : w = 2
  · subst h2
    exact lv_tableIn (off := 230) (tgt := 262) X.1 X.2.1 dL_law_32 (by decide +kernel) (by decide +kernel) (by decide +kernel) (by decide) (law_op_remove l O hc kt)
  by_cases h3 : w = 3
  · subst h3
    exact lv_tableIn (off := 253) (tgt := 285) X.1 X.2.1 dL_law_32 (by decide +kernel) (by decide +kernel) (by decide +kernel) (by decide) (law_op_move l O hc kt)
  by_cases h4 : w = 4
  · subst h4
    exact lv_tableIn (off := 286) (tgt := 318) X.1 X.2.1 dL_law_32 (by decide +kernel) (by decide +kernel) (by decide +kernel) (by decide) (law_op_part l O hc kt)
  by_cases h5 : w = 5
  · subst h5
    exact lv_tableIn (off := 319) (tgt := 351) X.1 X.2.1 dL_law_32 (by decide +kernel) (by decide +kernel) (by decide +kernel) (by decide) (law_op_give l O hc kt)
  by_cases h6 : w = 6
  · subst h6
    exact lv_tableIn (off := 352) (tgt := 384) X.1 X.2.1 dL_law_32 (by decide +kernel) (by decide +kernel) (by decide +kernel) (by decide) (law_op_draw l O hc kt)
  by_cases h7 : w = 7
  · subst h7
    exact lv_tableIn (off := 375) (tgt := 407) X.1 X.2.1 dL_law_32 (by decide +kernel) (by decide +kernel) (by decide +kernel) (by decide) (law_op_hand l O hc kt)
  by_cases h8 : w = 8
  · subst h8
    exact lv_tableIn (off := 408) (tgt := 440) X.1 X.2.1 dL_law_32 (by decide +kernel) (by decide +kernel) (by decide +kernel) (by decide) (law_op_begin l O hc kt)
  by_cases h9 : w = 9
  · subst h9
    exact lv_tableIn (off := 421) (tgt := 453) X.1 X.2.1 dL_law_32 (by decide +kernel) (by decide +kernel) (by decide +kernel) (by decide) (law_op_call l O hc kt)
  by_cases h10 : w = 10
  · subst h10
    exact lv_tableIn (off := 434) (tgt := 466) X.1 X.2.1 dL_law_32 (by decide +kernel) (by decide +kernel) (by decide +kernel) (by decide) (law_op_make l O hc kt)
  by_cases h11 : w = 11
  · subst h11
    exact lv_tableIn (off := 457) (tgt := 489) X.1 X.2.1 dL_law_32 (by decide +kernel) (by decide +kernel) (by decide +kernel) (by decide) (law_op_back l O hc kt)
  by_cases h12 : w = 12
  · subst h12
    exact lv_tableIn (off := 470) (tgt := 502) X.1 X.2.1 dL_law_32 (by decide +kernel) (by decide +kernel) (by decide +kernel) (by decide) (law_op_made l O hc kt)
  by_cases h13 : w = 13
  · subst h13
    exact lv_tableIn (off := 503) (tgt := 535) X.1 X.2.1 dL_law_32 (by decide +kernel) (by decide +kernel) (by decide +kernel) (by decide) (law_op_state l O hc kt)
  by_cases h14 : w = 14
  · subst h14
    exact lv_tableIn (off := 526) (tgt := 558) X.1 X.2.1 dL_law_32 (by decide +kernel) (by decide +kernel) (by decide +kernel) (by decide) (law_op_hands l O hc kt)
  by_cases h15 : w = 15
  · subst h15
    exact lv_tableIn (off := 559) (tgt := 591) X.1 X.2.1 dL_law_32 (by decide +kernel) (by decide +kernel) (by decide +kernel) (by decide) (law_op_shown l O hc kt)
  by_cases h16 : w = 16
  · subst h16
    exact lv_tableIn (off := 602) (tgt := 634) X.1 X.2.1 dL_law_32 (by decide +kernel) (by decide +kernel) (by decide +kernel) (by decide) (law_op_fits l O hc kt)
  by_cases h17 : w = 17
  · subst h17
    exact lv_tableIn (off := 635) (tgt := 667) X.1 X.2.1 dL_law_32 (by decide +kernel) (by decide +kernel) (by decide +kernel) (by decide) (law_op_ruleOf l O hc kt)
  by_cases h18 : w = 18
  · subst h18
    exact lv_tableIn (off := 658) (tgt := 690) X.1 X.2.1 dL_law_32 (by decide +kernel) (by decide +kernel) (by decide +kernel) (by decide) (law_op_reach l O hc kt)
  by_cases h19 : w = 19
  · subst h19
    exact lv_tableIn (off := 681) (tgt := 713) X.1 X.2.1 dL_law_32 (by decide +kernel) (by decide +kernel) (by decide +kernel) (by decide) (law_op_holes l O hc kt)
  by_cases h20 : w = 20
  · subst h20
    exact lv_tableIn (off := 724) (tgt := 756) X.1 X.2.1 dL_law_32 (by decide +kernel) (by decide +kernel) (by decide +kernel) (by decide) (law_op_tricks l O hc kt)
  by_cases h21 : w = 21
  · subst h21
    exact lv_tableIn (off := 767) (tgt := 799) X.1 X.2.1 dL_law_32 (by decide +kernel) (by decide +kernel) (by decide +kernel) (by decide) (law_op_expected l O hc kt)
  by_cases h22 : w = 22
  · subst h22
    exact lv_tableIn (off := 801) (tgt := 833) X.1 X.2.1 dL_law_32 (by decide +kernel) (by decide +kernel) (by decide +kernel) (by decide) (law_op_contract l O hc kt)
  by_cases h23 : w = 23
  · subst h23
    exact lv_tableIn (off := 824) (tgt := 856) X.1 X.2.1 dL_law_32 (by decide +kernel) (by decide +kernel) (by decide +kernel) (by decide) (law_op_put l O hc kt)
  by_cases h24 : w = 24
  · subst h24
    exact lv_tableIn (off := 877) (tgt := 909) X.1 X.2.1 dL_law_32 (by decide +kernel) (by decide +kernel) (by decide +kernel) (by decide) (law_op_wipe l O hc kt)
  by_cases h25 : w = 25
  · subst h25
    exact lv_tableIn (off := 890) (tgt := 922) X.1 X.2.1 dL_law_32 (by decide +kernel) (by decide +kernel) (by decide +kernel) (by decide) (law_op_fault l O hc kt)
  by_cases h26 : w = 26
  · subst h26
    exact lv_tableIn (off := 903) (tgt := 935) X.1 X.2.1 dL_law_32 (by decide +kernel) (by decide +kernel) (by decide +kernel) (by decide) (law_op_load l O hc kt)
  refine lv_tableOut (tgt := 948) X.1 X.2.1 dL_law_32 (Or.inr (by rw [nI_toInt (by omega)]; omega)) (by decide) ?_
  exact W.widen (by omega) (by omega) (kt z H locs L0)
theorem law_loop {p : Program} {e : Env} {s : State} {m : MethodId} {below : List Frame} {meth : Method} {c : Code}  {G : HG} (l : Launch) {b b6 b7 L : Nat} {xs : Nat → Int32}  (X : CX p c cL_law 4 s m R_law G (A0 s)) (hX : va_X b L xs s s.heap) (hbl : b < s.heap.size) (hr : meth.sig.returnType = ret) (hlk : meth.locks = false) (hL : L ≤ 2560) : ∀ (f i : Nat) (x3 : Int32) (z : ST) (H : Heap) (locs : List Loc) (ls : Array Slot), i + 5 * f = 2560 → x3 = nI i → LI G s b6 b7 z z H locs → lv_has ls 4 [(0, .ref b), (1, .ref b6), (2, .ref b7), (3, .int x3)] → W p l e room_1 s m #[.ref b] below meth c H locs (600000 - 8 * f) (7302250 - 1040 * f) (lw_Z below #[.ref b] s) (F0 m 18 ls []) := by
  intro f
  induction f with
  | zero =>
    intro i x3 z H locs ls hif hx3 L0 hl
    exact law_head l X hX hbl hr hlk hL (by omega) hx3 (by omega) (by omega) L0 hl (fun h => absurd h (by omega))
  | succ f ih =>
    intro i x3 z H locs ls hif hx3 L0 hl
    refine law_head l X hX hbl hr hlk hL (by omega) hx3 (by omega) (by omega) L0 hl (fun h => ?_)
    refine law_body l X hX hbl hr hlk hL (by omega) hx3 h (by omega) (by omega) L0 hl (fun z1 H1 locs1 ls1 L1 hl1 => ?_)
    exact W.widen (by omega) (by omega) (ih (i + 5) _ z1 H1 locs1 ls1 (by omega) rfl L1 hl1)
