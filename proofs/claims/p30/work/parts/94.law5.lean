/-! the auction, followed call by call -/
section VWD
variable {p : Program} {l : Launch} {e : Env} {R : Room} {s : State} {m : MethodId} {args : Array Value} {below : List Frame} {meth : Method} {c : Code} {H : Heap} {locs : List Loc} {cells slots : Nat} {Q : State → Prop} {g : JFrame} {k' n' : Nat}
theorem w_wid (h1 : cells ≤ k') (h2 : slots ≤ n') (kk : W p l e R s m args below meth c H locs k' n' Q g) : W p l e R s m args below meth c H locs cells slots Q g := W.widen h1 h2 kk
end VWD
/-- what the calls are: those of the true hands' rules, and stuck where there is none -/
def FO (n : Nat) (R : Nat → Nat → Nat) (hd : Nat → Nat) (k : Nat) (cs : Nat → Nat → Int32) (sk : Bool) (gc : Nat → Int32) : Prop := CG k cs sk gc ∧ (∀ i, i < k → rlF n R (hd (i % 2)) (cs i 2) (cs i 4) (cs i 3) = cs i 1) ∧ (sk = true → rlF n R (hd (k % 2)) (cs k 2) (cs k 4) (cs k 3) = -6 ∧ ovB k cs false = false)
theorem upd_s {f : Nat → Int32} {i : Nat} {x : Int32} (hi : i < 2 ^ 31) : upd f (nI i).toNatClampNeg x i = x := by
  rw [nI_clamp hi]; exact if_pos rfl
theorem upd_n {f : Nat → Int32} {i j : Nat} {x : Int32} (hi : i < 2 ^ 31) (h : j ≠ i) : upd f (nI i).toNatClampNeg x j = f j := by
  rw [nI_clamp hi]; exact if_neg h
theorem gc_s {n : Nat} {R : Nat → Nat → Nat} {hd : Nat → Nat} {k : Nat} {cs : Nat → Nat → Int32} {pn : Nat} {pt : Nat → Nat} (h1 : ovB k cs false = false) (h2 : rlF n R (hd (k % 2)) (cs k 2) (cs k 4) (cs k 3) = -6) : fCall (n, R, hd, k, cs, false, pn, pt) = -6 ∧ gCallA (n, R, hd, k, cs, false, pn, pt) = (n, R, hd, k, cs, true, pn, pt) := by
  have h1' : ¬ ovB k cs false = true := by rw [h1]; exact fun q => by cases q
  exact ⟨(if_neg h1').trans (if_pos h2), (if_neg h1').trans (if_pos h2)⟩
theorem gc_r {n : Nat} {R : Nat → Nat → Nat} {hd : Nat → Nat} {k : Nat} {cs : Nat → Nat → Int32} {pn : Nat} {pt : Nat → Nat} {j : Nat} (hj : j < 2 ^ 31) (h1 : ovB k cs false = false) (h2 : rlF n R (hd (k % 2)) (cs k 2) (cs k 4) (cs k 3) = nI j) : fCall (n, R, hd, k, cs, false, pn, pt) = nI (R j 1) ∧ gCallA (n, R, hd, k, cs, false, pn, pt) = (n, R, hd, k + 1, csC cs k (nI (R j 1)) (nI j) (if R j 1 = 25 then cs k 2 else nI (R j 2)) (if R j 1 = 25 then cs k 3 else nI (R j 3)) (if R j 1 = 25 then cs k 4 else nI (R j 1)), false, pn, pt) := by
  have h1' : ¬ ovB k cs false = true := by rw [h1]; exact fun q => by cases q
  have h2' : ¬ rlF n R (hd (k % 2)) (cs k 2) (cs k 4) (cs k 3) = -6 := by
    rw [h2]
    exact fun q => absurd (nI_pos' (n := j) hj) (by rw [q]; decide)
  constructor
  · refine (if_neg h1').trans ((if_neg h2').trans ?_)
    show nI (R (tn (rlF n R (hd (k % 2)) (cs k 2) (cs k 4) (cs k 3))) 1) = _
    rw [h2, tn_n hj]
  · refine (if_neg h1').trans ((if_neg h2').trans ?_)
    show gCall (n, R, hd, k, cs, false, pn, pt) (tn (rlF n R (hd (k % 2)) (cs k 2) (cs k 4) (cs k 3))) = _
    rw [h2, tn_n hj]
    rfl
theorem gc_o {n : Nat} {R : Nat → Nat → Nat} {hd : Nat → Nat} {k : Nat} {cs : Nat → Nat → Int32} {sk : Bool} {pn : Nat} {pt : Nat → Nat} (h1 : ovB k cs sk = true) : fCall (n, R, hd, k, cs, sk, pn, pt) = -5 ∧ gCallA (n, R, hd, k, cs, sk, pn, pt) = (n, R, hd, k, cs, sk, pn, pt) := ⟨if_pos h1, if_pos h1⟩
theorem cs_new (cs : Nat → Nat → Int32) (k : Nat) (v0 v1 v2 v3 v4 : Int32) : ∃ cs1 : Nat → Nat → Int32, csC cs k v0 v1 v2 v3 v4 = cs1 ∧ cs1 k 0 = v0 ∧ cs1 k 1 = v1 ∧ cs1 k 2 = cs k 2 ∧ cs1 k 3 = cs k 3 ∧ cs1 k 4 = cs k 4 ∧ (∀ i, i < k → cs1 i = cs i) ∧ cs1 (k + 1) 2 = v2 ∧ cs1 (k + 1) 3 = v3 ∧ cs1 (k + 1) 4 = v4 := by
  have hk : ¬ k + 1 = k := by omega
  refine ⟨_, rfl, ?_, ?_, ?_, ?_, ?_, fun i hi => ?_, ?_, ?_, ?_⟩
  · exact (if_pos rfl).trans (if_pos rfl)
  · exact (if_pos rfl).trans ((if_neg (by decide)).trans (if_pos rfl))
  · exact (if_pos rfl).trans ((if_neg (by decide)).trans (if_neg (by decide)))
  · exact (if_pos rfl).trans ((if_neg (by decide)).trans (if_neg (by decide)))
  · exact (if_pos rfl).trans ((if_neg (by decide)).trans (if_neg (by decide)))
  · funext j
    exact (if_neg (by omega)).trans (if_neg (by omega))
  · exact (if_neg hk).trans ((if_pos rfl).trans (if_pos rfl))
  · exact (if_neg hk).trans ((if_pos rfl).trans ((if_neg (by decide)).trans (if_pos rfl)))
  · exact (if_neg hk).trans ((if_pos rfl).trans ((if_neg (by decide)).trans ((if_neg (by decide)).trans (if_pos rfl))))
/-- a call more in the law's row -/
theorem cg_step {k : Nat} {cs cs1 : Nat → Nat → Int32} {gc : Nat → Int32} {j : Int32} (h : CG k cs false gc) (hk : k < 12) (e1 : cs1 k 1 = j) (e2 : cs1 k 2 = cs k 2) (e3 : cs1 k 3 = cs k 3) (e4 : cs1 k 4 = cs k 4) (el : ∀ i, i < k → cs1 i = cs i) : CG (k + 1) cs1 false (upd (upd (upd (upd gc (nI (4 * k)).toNatClampNeg (cs k 2)) (nI (4 * k + 1)).toNatClampNeg (cs k 4)) (nI (4 * k + 2)).toNatClampNeg (cs k 3)) (nI (4 * k + 3)).toNatClampNeg j) := by
  refine ⟨by omega, fun i hi => ?_, fun q => by cases q⟩
  rcases (show i < k ∨ i = k by omega) with c | c
  · rw [el i c]
    have := h.2.1 i c
    refine ⟨?_, ?_, ?_, ?_⟩
    · rw [upd_n (by omega) (by omega), upd_n (by omega) (by omega), upd_n (by omega) (by omega), upd_n (by omega) (by omega)]; exact this.1
    · rw [upd_n (by omega) (by omega), upd_n (by omega) (by omega), upd_n (by omega) (by omega), upd_n (by omega) (by omega)]; exact this.2.1
    · rw [upd_n (by omega) (by omega), upd_n (by omega) (by omega), upd_n (by omega) (by omega), upd_n (by omega) (by omega)]; exact this.2.2.1
    · rw [upd_n (by omega) (by omega), upd_n (by omega) (by omega), upd_n (by omega) (by omega), upd_n (by omega) (by omega)]; exact this.2.2.2
  · subst c
    refine ⟨?_, ?_, ?_, ?_⟩
    · rw [upd_n (by omega) (by omega), upd_n (by omega) (by omega), upd_n (by omega) (by omega), upd_s (by omega)]; exact e2.symm
    · rw [upd_n (by omega) (by omega), upd_n (by omega) (by omega), upd_s (by omega)]; exact e4.symm
    · rw [upd_n (by omega) (by omega), upd_s (by omega)]; exact e3.symm
    · rw [upd_s (by omega)]; exact e1.symm
theorem cg_stuck {k : Nat} {cs : Nat → Nat → Int32} {gc : Nat → Int32} (h : CG k cs false gc) (hk : k < 12) : CG k cs true (upd (upd (upd gc (nI (4 * k)).toNatClampNeg (cs k 2)) (nI (4 * k + 1)).toNatClampNeg (cs k 4)) (nI (4 * k + 2)).toNatClampNeg (cs k 3)) := by
  refine ⟨by omega, fun i hi => ?_, fun _ => ⟨?_, ?_, ?_⟩⟩
  · have := h.2.1 i hi
    refine ⟨?_, ?_, ?_, ?_⟩
    · rw [upd_n (by omega) (by omega), upd_n (by omega) (by omega), upd_n (by omega) (by omega)]; exact this.1
    · rw [upd_n (by omega) (by omega), upd_n (by omega) (by omega), upd_n (by omega) (by omega)]; exact this.2.1
    · rw [upd_n (by omega) (by omega), upd_n (by omega) (by omega), upd_n (by omega) (by omega)]; exact this.2.2.1
    · rw [upd_n (by omega) (by omega), upd_n (by omega) (by omega), upd_n (by omega) (by omega)]; exact this.2.2.2
  · rw [upd_n (by omega) (by omega), upd_n (by omega) (by omega), upd_s (by omega)]
  · rw [upd_n (by omega) (by omega), upd_s (by omega)]
  · rw [upd_s (by omega)]
theorem ov_12 {k : Nat} {cs : Nat → Nat → Int32} (h : ovB k cs false = false) : k ≠ 12 := fun q => by
  unfold ovB at h
  rw [decide_eq_true q] at h
  cases h
theorem ov_y1 {k : Nat} {cs : Nat → Nat → Int32} (h : k + 1 = 12) : ovB (k + 1) cs false = true := by
  unfold ovB
  rw [decide_eq_true h]; rfl
theorem ov_y2 {k : Nat} {cs : Nat → Nat → Int32} (h : cs k 0 = 25) : ovB (k + 1) cs false = true := by
  unfold ovB
  rw [show k + 1 - 1 = k from rfl, decide_eq_true h, decide_eq_true (show 0 < k + 1 by omega), Bool.and_true, Bool.or_true, Bool.or_true]
theorem ov_n {k : Nat} {cs : Nat → Nat → Int32} (h : ¬ cs k 0 = 25) (h2 : ¬ k + 1 = 12) : ovB (k + 1) cs false = false := by
  unfold ovB
  rw [show k + 1 - 1 = k from rfl, decide_eq_false h, decide_eq_false h2, Bool.and_false]; rfl
theorem ov_sk {k : Nat} {cs : Nat → Nat → Int32} : ovB k cs true = true := rfl
theorem mf_X6_hand : MF yX6_hand cX6_hand 3 (some .int) 2 := ⟨tw_185, tw_15, by decide +kernel, by decide +kernel, by decide +kernel⟩
theorem mf_X6_state : MF yX6_state cX6_state 2 (some .int) 1 := ⟨tw_251, tw_15, by decide +kernel, by decide +kernel, by decide +kernel⟩
theorem mf_X6_ruleOf : MF yX6_ruleOf cX6_ruleOf 2 (some .int) 1 := ⟨tw_481, tw_15, by decide +kernel, by decide +kernel, by decide +kernel⟩
theorem mf_X6_made : MF yX6_made cX6_made 3 (some .int) 2 := ⟨tw_514, tw_15, by decide +kernel, by decide +kernel, by decide +kernel⟩
theorem mf_X6_hands : MF yX6_hands cX6_hands 3 (some .int) 2 := ⟨tw_539, tw_15, by decide +kernel, by decide +kernel, by decide +kernel⟩
theorem mf_X6_fits : MF yX6_fits cX6_fits 3 (some .int) 2 := ⟨tw_278, tw_15, by decide +kernel, by decide +kernel, by decide +kernel⟩
theorem mf_X6_shown : MF yX6_shown cX6_shown 8 (some .int) 3 := ⟨tw_552, tw_15, by decide +kernel, by decide +kernel, by decide +kernel⟩
theorem mf_X6_tricks : MF yX6_tricks cX6_tricks 4 (some .int) 3 := ⟨tw_312, tw_15, by decide +kernel, by decide +kernel, by decide +kernel⟩
theorem mf_X6_expected : MF yX6_expected cX6_expected 3 (some .long) 2 := ⟨tw_563, tw_15, by decide +kernel, by decide +kernel, by decide +kernel⟩
theorem mf_X6_contract : MF yX6_contract cX6_contract 9 (some .int) 1 := ⟨tw_573, tw_15, by decide +kernel, by decide +kernel, by decide +kernel⟩
theorem mf_X6_call : MF yX6_call cX6_call 3 (some .int) 0 := ⟨tw_486, tw_15, by decide +kernel, by decide +kernel, by decide +kernel⟩
theorem mf_X6_back : MF yX6_back cX6_back 1 (some .int) 0 := ⟨tw_212, tw_15, by decide +kernel, by decide +kernel, by decide +kernel⟩
theorem mf_X6_draw : MF yX6_draw cX6_draw 6 (some .int) 1 := ⟨tw_167, tw_15, by decide +kernel, by decide +kernel, by decide +kernel⟩
theorem mf_X6_rule : MF yX6_rule cX6_rule 5 (some .int) 4 := ⟨tw_344, tw_15, by decide +kernel, by decide +kernel, by decide +kernel⟩
theorem mf_X6_limit : MF yX6_limit cX6_limit 6 (some .int) 4 := ⟨tw_439, tw_15, by decide +kernel, by decide +kernel, by decide +kernel⟩
theorem mf_X6_init : MF yX6_init cX6_init 1 none 0 := ⟨tw_39, tw_15, by decide +kernel, by decide +kernel, by decide +kernel⟩
set_option maxHeartbeats 4000000 in
set_option maxRecDepth 100000 in
theorem c_L_follow (l : Launch) (G : HG) (A : Nat → Prop) (hp : HP) (sz : Nat) (hA : ∀ q, sz ≤ q → A q) (hO : Ow A hp) (b6 ra ca : Nat) (n : Nat) (R : Nat → Nat → Nat) (hd : Nat → Nat) (pn : Nat) (pt : Nat → Nat) (g g0 : Nat → Int32) (hC : CP G hp [ra, ca] b6 (n, R, hd, 0, cs0, false, pn, pt)) (hra : hp ra = some (.inl (G.2.1 1, 48, .inl g))) (hca : hp ca = some (.inl (G.2.1 1, 52, .inl g0))) (hg : RG n R g) (hh : ∀ i, i < 2 → hd i ≤ 1048575 ∧ sizeH (hd i) = 5) : Met l yL_follow [.code yL_follow cL_follow 11 (some .int)] { frames := 9, cells := 42, slots := 560, locals := 215 } (va_Pc [.ref b6, .ref ra, .int (nI n), .ref ca] (WP G A sz hp)) (va_Qi (fun r hp1 => ∃ (k : Nat) (cs : Nat → Nat → Int32) (sk : Bool) (gc : Nat → Int32), r = nI k ∧ CP G hp1 [ra, ca] b6 (n, R, hd, k, cs, sk, pn, pt) ∧ hp1 ra = some (.inl (G.2.1 1, 48, .inl g)) ∧ hp1 ca = some (.inl (G.2.1 1, 52, .inl gc)) ∧ FO n R hd k cs sk gc) (WB G A) A) 42 560 A := by
  refine wr_ofW (by decide) (Nat.le_of_ble_eq_true rfl) hO ?_
  intro p e s m args below meth c ls X hr hlk hnm hsz hW hl
  have hA : ∀ q, s.heap.size ≤ q → A q := fun q h => hA q (by omega)
  have hl : lv_has ls 11 [(0, .ref b6), (1, .ref ra), (2, .int (nI n)), (3, .ref ca)] := hl
  have hn8 := hg.1
  refine lv_iconst (v := 0) X.1 X.2.1 dL_follow_0 (by decide) ?_
  refine lv_istore (lv' := [(4, .int 0), (0, .ref b6), (1, .ref ra), (2, .int (nI n)), (3, .ref ca)]) X.1 X.2.1 dL_follow_1 hl (by decide) rfl (fun ls hl => ?_)
  refine lv_bipush (v := (-6)) X.1 X.2.1 dL_follow_3 (by decide) ?_
  refine lv_istore (lv' := [(5, .int (-6)), (4, .int 0), (0, .ref b6), (1, .ref ra), (2, .int (nI n)), (3, .ref ca)]) X.1 X.2.1 dL_follow_5 hl (by decide) rfl (fun ls hl => ?_)
  refine lv_iconst (v := 0) X.1 X.2.1 dL_follow_7 (by decide) ?_
  refine lv_istore (lv' := [(6, .int 0), (5, .int (-6)), (4, .int 0), (0, .ref b6), (1, .ref ra), (2, .int (nI n)), (3, .ref ca)]) X.1 X.2.1 dL_follow_8 hl (by decide) rfl (fun ls hl => ?_)
  refine lv_iconst (v := 0) X.1 X.2.1 dL_follow_10 (by decide) ?_
  refine lv_istore (lv' := [(7, .int 0), (6, .int 0), (5, .int (-6)), (4, .int 0), (0, .ref b6), (1, .ref ra), (2, .int (nI n)), (3, .ref ca)]) X.1 X.2.1 dL_follow_11 hl (by decide) rfl (fun ls hl => ?_)
  refine lv_iconst (v := 0) X.1 X.2.1 dL_follow_13 (by decide) ?_
  refine lv_istore (lv' := [(8, .int 0), (7, .int 0), (6, .int 0), (5, .int (-6)), (4, .int 0), (0, .ref b6), (1, .ref ra), (2, .int (nI n)), (3, .ref ca)]) X.1 X.2.1 dL_follow_14 hl (by decide) rfl (fun ls hl => ?_)
  have L16 : ∀ (f : Nat) (k : Nat) (cs : Nat → Nat → Int32) (gc : Nat → Int32) (hpL : HP) (H : Heap) (locs : List Loc), WS s G A hpL H locs → CP G hpL [ra, ca] b6 (n, R, hd, k, cs, false, pn, pt) → hpL ra = some (.inl (G.2.1 1, 48, .inl g)) → hpL ca = some (.inl (G.2.1 1, 52, .inl gc)) → (k + f = 12) → (ovB k cs false = false) → (CG k cs false gc) → (∀ i, i < k → rlF n R (hd (i % 2)) (cs i 2) (cs i 4) (cs i 3) = cs i 1) → ∀ ls, lv_has ls 11 [(0, .ref b6), (1, .ref ra), (2, .int (nI n)), (3, .ref ca), (4, .int (cs k 2)), (5, .int (cs k 4)), (6, .int (cs k 3)), (7, .int (nI k)), (8, .int 0)] → W p l e ({ frames := 9, cells := 42, slots := 560, locals := 215 } : Room) s m args below meth c H locs (39 - 3 * f) (520 - 40 * f) (MQ below (va_Qi (fun r hp1 => ∃ (k : Nat) (cs : Nat → Nat → Int32) (sk : Bool) (gc : Nat → Int32), r = nI k ∧ CP G hp1 [ra, ca] b6 (n, R, hd, k, cs, sk, pn, pt) ∧ hp1 ra = some (.inl (G.2.1 1, 48, .inl g)) ∧ hp1 ca = some (.inl (G.2.1 1, 52, .inl gc)) ∧ FO n R hd k cs sk gc) (WB G A) A) args s 42 560 A) (F0 m 16 ls []) := by
    intro f
    induction f with
    | zero =>
      intro k cs gc hpL H locs hW hC w_ra w_ca h0 h1 h2 h3 ls hl
      exact absurd (show k = 12 by omega) (ov_12 h1)
    | succ f ih =>
      intro k cs gc hpL H locs hW hC w_ra w_ca h0 h1 h2 h3 ls hl
      have hk12 : k < 12 := by omega
      have hhk := hh (k % 2) (by omega)
      refine lv_iload X.1 X.2.1 dL_follow_16 (lv_at hl 8 rfl) ?_
      refine lv_if_ne (tgt := 388) X.1 X.2.1 dL_follow_18 (by decide) (fun c_18 => absurd (by decide) c_18) (fun c_18 => ?_)
      refine lv_aload_n X.1 X.2.1 dL_follow_21 rfl (lv_at hl 0 rfl) ?_
      refine lv_iload X.1 X.2.1 dL_follow_22 (lv_at hl 7 rfl) ?_
      refine lv_iconst (v := 2) X.1 X.2.1 dL_follow_24 (by decide) ?_
      refine lv_irem X.1 X.2.1 dL_follow_25 (by decide) ?_
      refine r_eqi (show (((nI k) - (nI k) / 2 * 2) : Int32) = nI (k % 2) from pk_rem (a := k) (d := 2) (by omega) (by omega) (by omega)) ?_
      refine lv_iconst (v := 0) X.1 X.2.1 dL_follow_26 (by decide) ?_
      refine lc_ri (z := (n, R, hd, k, cs, false, pn, pt)) (As := [.int (nI (k % 2)), .int 0]) (rest := []) X hW.1 hW.2.2 hC (fun hp9 hz9 => c_X6_hand l G hp9 b6 n R hd k cs false pn pt hz9 (nI (k % 2)) (0 : Int32)) mf_X6_hand tw_182 tw_183 tw_184 ⟨rfl, rfl, Nat.le_of_ble_eq_true rfl, Nat.le_of_ble_eq_true rfl⟩ hl.1 rfl rfl (Nat.le_of_ble_eq_true rfl) ⟨(by show _ ≤ 42; omega), (by show _ ≤ 560; omega)⟩ dL_follow_27 ?_
      refine r_eqi (show ((fHand hd (nI (k % 2)) (0 : Int32)) : Int32) = nI (hd (k % 2)) from fh_0 (x := (k % 2)) (by omega)) ?_
      refine lv_istore (lv' := [(9, .int (nI (hd (k % 2)))), (0, .ref b6), (1, .ref ra), (2, .int (nI n)), (3, .ref ca), (4, .int (cs k 2)), (5, .int (cs k 4)), (6, .int (cs k 3)), (7, .int (nI k)), (8, .int 0)]) X.1 X.2.1 dL_follow_30 hl (by decide) rfl (fun ls hl => ?_)
      refine lv_iload X.1 X.2.1 dL_follow_32 (lv_at hl 0 rfl) ?_
      refine on_Si (run_S (As := [.int (nI (hd (k % 2)))]) (rest := []) X (c_L_shape l G hpL (hd (k % 2)) hhk.1) (rp_blind _) (rp_at X hW.1 hW.2.2) mf_L_shape tw_465 tw_466 ⟨rfl, rfl, Nat.le_of_ble_eq_true rfl, Nat.le_of_ble_eq_true rfl⟩ hl.1 rfl rfl (Nat.le_of_ble_eq_true rfl) ⟨(by show _ ≤ 42; omega), (by show _ ≤ 560; omega)⟩ dL_follow_34) (fun r_34 q_34 => ?_)
      obtain rfl : r_34 = (nI (spN (hd (k % 2)))) := q_34
      refine lv_aload_n X.1 X.2.1 dL_follow_37 rfl (lv_at hl 2 rfl) ?_
      refine lv_iload_n X.1 X.2.1 dL_follow_38 rfl (lv_at hl 3 rfl) ?_
      refine lv_iload X.1 X.2.1 dL_follow_39 (lv_at hl 5 rfl) ?_
      refine lv_iload X.1 X.2.1 dL_follow_41 (lv_at hl 6 rfl) ?_
      refine lv_iload X.1 X.2.1 dL_follow_43 (lv_at hl 7 rfl) ?_
      refine on_Si (run_S (As := [.int (nI (spN (hd (k % 2)))), .ref ra, .int (nI n), .int (cs k 2), .int (cs k 4), .int (cs k 3)]) (rest := []) X (c_L_ruleOf l G hpL ra (hd (k % 2)) n R g w_ra hg (cs k 2) (cs k 4) (cs k 3)) (rp_blind _) (rp_at X hW.1 hW.2.2) mf_L_ruleOf tw_472 tw_473 ⟨rfl, rfl, Nat.le_of_ble_eq_true rfl, Nat.le_of_ble_eq_true rfl⟩ hl.1 rfl rfl (Nat.le_of_ble_eq_true rfl) ⟨(by show _ ≤ 42; omega), (by show _ ≤ 560; omega)⟩ dL_follow_45) (fun r_45 q_45 => ?_)
      obtain rfl : r_45 = (rlF n R (hd (k % 2)) (cs k 2) (cs k 4) (cs k 3)) := q_45
      rcases rlF_or n R (hd (k % 2)) (cs k 2) (cs k 4) (cs k 3) with hq | ⟨j, hj, hq⟩
      · refine r_eqi hq ?_
        refine lv_istore (lv' := [(10, .int (-6)), (9, .int (nI (hd (k % 2)))), (0, .ref b6), (1, .ref ra), (2, .int (nI n)), (3, .ref ca), (4, .int (cs k 2)), (5, .int (cs k 4)), (6, .int (cs k 3)), (7, .int (nI k)), (8, .int 0)]) X.1 X.2.1 dL_follow_48 hl (by decide) rfl (fun ls hl => ?_)
        refine lv_aload_n X.1 X.2.1 dL_follow_50 rfl (lv_at hl 2 rfl) ?_
        refine lv_iconst (v := 1) X.1 X.2.1 dL_follow_51 (by decide) ?_
        refine lc_ri (z := (n, R, hd, k, cs, false, pn, pt)) (As := [.int 1]) (rest := []) X hW.1 hW.2.2 hC (fun hp9 hz9 => c_X6_state l G hp9 b6 n R hd k cs false pn pt hz9 (1 : Int32)) mf_X6_state tw_248 tw_249 tw_250 ⟨rfl, rfl, Nat.le_of_ble_eq_true rfl, Nat.le_of_ble_eq_true rfl⟩ hl.1 rfl rfl (Nat.le_of_ble_eq_true rfl) ⟨(by show _ ≤ 42; omega), (by show _ ≤ 560; omega)⟩ dL_follow_52 ?_
        refine r_eqi (show ((fState n k cs false pn (1 : Int32)) : Int32) = cs k 2 from fs_1) ?_
        refine lv_iload X.1 X.2.1 dL_follow_55 (lv_at hl 6 rfl) ?_
        refine lv_icmp_ne (tgt := 135) X.1 X.2.1 dL_follow_57 (by decide) (fun c_57 => absurd rfl c_57) (fun c_57 => ?_)
        refine lv_aload_n X.1 X.2.1 dL_follow_60 rfl (lv_at hl 2 rfl) ?_
        refine lv_iconst (v := 2) X.1 X.2.1 dL_follow_61 (by decide) ?_
        refine lc_ri (z := (n, R, hd, k, cs, false, pn, pt)) (As := [.int 2]) (rest := []) X hW.1 hW.2.2 hC (fun hp9 hz9 => c_X6_state l G hp9 b6 n R hd k cs false pn pt hz9 (2 : Int32)) mf_X6_state tw_248 tw_249 tw_250 ⟨rfl, rfl, Nat.le_of_ble_eq_true rfl, Nat.le_of_ble_eq_true rfl⟩ hl.1 rfl rfl (Nat.le_of_ble_eq_true rfl) ⟨(by show _ ≤ 42; omega), (by show _ ≤ 560; omega)⟩ dL_follow_62 ?_
        refine r_eqi (show ((fState n k cs false pn (2 : Int32)) : Int32) = cs k 4 from fs_2) ?_
        refine lv_iload X.1 X.2.1 dL_follow_65 (lv_at hl 7 rfl) ?_
        refine lv_icmp_ne (tgt := 135) X.1 X.2.1 dL_follow_67 (by decide) (fun c_67 => absurd rfl c_67) (fun c_67 => ?_)
        refine lv_aload_n X.1 X.2.1 dL_follow_70 rfl (lv_at hl 2 rfl) ?_
        refine lv_iconst (v := 3) X.1 X.2.1 dL_follow_71 (by decide) ?_
        refine lc_ri (z := (n, R, hd, k, cs, false, pn, pt)) (As := [.int 3]) (rest := []) X hW.1 hW.2.2 hC (fun hp9 hz9 => c_X6_state l G hp9 b6 n R hd k cs false pn pt hz9 (3 : Int32)) mf_X6_state tw_248 tw_249 tw_250 ⟨rfl, rfl, Nat.le_of_ble_eq_true rfl, Nat.le_of_ble_eq_true rfl⟩ hl.1 rfl rfl (Nat.le_of_ble_eq_true rfl) ⟨(by show _ ≤ 42; omega), (by show _ ≤ 560; omega)⟩ dL_follow_72 ?_
        refine r_eqi (show ((fState n k cs false pn (3 : Int32)) : Int32) = cs k 3 from fs_3) ?_
        refine lv_iload X.1 X.2.1 dL_follow_75 (lv_at hl 8 rfl) ?_
        refine lv_icmp_ne (tgt := 135) X.1 X.2.1 dL_follow_77 (by decide) (fun c_77 => absurd rfl c_77) (fun c_77 => ?_)
        refine lv_aload_n X.1 X.2.1 dL_follow_80 rfl (lv_at hl 2 rfl) ?_
        refine lv_iconst (v := 4) X.1 X.2.1 dL_follow_81 (by decide) ?_
        refine lc_ri (z := (n, R, hd, k, cs, false, pn, pt)) (As := [.int 4]) (rest := []) X hW.1 hW.2.2 hC (fun hp9 hz9 => c_X6_state l G hp9 b6 n R hd k cs false pn pt hz9 (4 : Int32)) mf_X6_state tw_248 tw_249 tw_250 ⟨rfl, rfl, Nat.le_of_ble_eq_true rfl, Nat.le_of_ble_eq_true rfl⟩ hl.1 rfl rfl (Nat.le_of_ble_eq_true rfl) ⟨(by show _ ≤ 42; omega), (by show _ ≤ 560; omega)⟩ dL_follow_82 ?_
        refine r_eqi (show ((fState n k cs false pn (4 : Int32)) : Int32) = nI (k % 2) from fs_4) ?_
        refine lv_iload X.1 X.2.1 dL_follow_85 (lv_at hl 9 rfl) ?_
        refine lv_iconst (v := 2) X.1 X.2.1 dL_follow_87 (by decide) ?_
        refine lv_irem X.1 X.2.1 dL_follow_88 (by decide) ?_
        refine r_eqi (show (((nI k) - (nI k) / 2 * 2) : Int32) = nI (k % 2) from pk_rem (a := k) (d := 2) (by omega) (by omega) (by omega)) ?_
        refine lv_icmp_ne (tgt := 135) X.1 X.2.1 dL_follow_89 (by decide) (fun c_89 => absurd rfl c_89) (fun c_89 => ?_)
        refine lv_aload_n X.1 X.2.1 dL_follow_92 rfl (lv_at hl 2 rfl) ?_
        refine lv_iconst (v := 5) X.1 X.2.1 dL_follow_93 (by decide) ?_
        refine lc_ri (z := (n, R, hd, k, cs, false, pn, pt)) (As := [.int 5]) (rest := []) X hW.1 hW.2.2 hC (fun hp9 hz9 => c_X6_state l G hp9 b6 n R hd k cs false pn pt hz9 (5 : Int32)) mf_X6_state tw_248 tw_249 tw_250 ⟨rfl, rfl, Nat.le_of_ble_eq_true rfl, Nat.le_of_ble_eq_true rfl⟩ hl.1 rfl rfl (Nat.le_of_ble_eq_true rfl) ⟨(by show _ ≤ 42; omega), (by show _ ≤ 560; omega)⟩ dL_follow_94 ?_
        refine r_eqi (show ((fState n k cs false pn (5 : Int32)) : Int32) = 0 from by rw [fs_5, h1]; rfl) ?_
        refine lv_if_ne (tgt := 135) X.1 X.2.1 dL_follow_97 (by decide) (fun c_97 => absurd (by decide) c_97) (fun c_97 => ?_)
        refine lv_aload_n X.1 X.2.1 dL_follow_100 rfl (lv_at hl 2 rfl) ?_
        refine lv_iload X.1 X.2.1 dL_follow_101 (lv_at hl 1 rfl) ?_
        refine lc_ri (z := (n, R, hd, k, cs, false, pn, pt)) (As := [.int (nI (hd (k % 2)))]) (rest := []) X hW.1 hW.2.2 hC (fun hp9 hz9 => c_X6_ruleOf l G hp9 b6 n R hd k cs false pn pt hz9 (nI (hd (k % 2)))) mf_X6_ruleOf tw_478 tw_479 tw_480 ⟨rfl, rfl, Nat.le_of_ble_eq_true rfl, Nat.le_of_ble_eq_true rfl⟩ hl.1 rfl rfl (Nat.le_of_ble_eq_true rfl) ⟨(by show _ ≤ 42; omega), (by show _ ≤ 560; omega)⟩ dL_follow_103 ?_
        refine r_eqi (show ((fRuleOf n R k cs false (nI (hd (k % 2)))) : Int32) = (-6) from by rw [fr_v hhk.1 hhk.2 h1, hq]) ?_
        refine lv_iload X.1 X.2.1 dL_follow_106 (lv_at hl 0 rfl) ?_
        refine lv_icmp_ne (tgt := 135) X.1 X.2.1 dL_follow_108 (by decide) (fun c_108 => absurd rfl c_108) (fun c_108 => ?_)
        refine lv_aload_n X.1 X.2.1 dL_follow_111 rfl (lv_at hl 2 rfl) ?_
        refine lc_wi (z := (n, R, hd, k, cs, false, pn, pt)) (As := []) (rest := []) X hA hW hC (fun r hp1 h => h) (fun A9 hp9 hA9 hO9 hz9 => c_X6_call l G A9 hp9 _ hA9 hO9 b6 n R hd k cs false pn pt hz9 ) mf_X6_call tw_483 tw_484 tw_485 ⟨rfl, rfl, Nat.le_of_ble_eq_true rfl, Nat.le_of_ble_eq_true rfl⟩ hl.1 rfl rfl (Nat.le_of_ble_eq_true rfl) ⟨(by show _ ≤ 42; omega), (by show _ ≤ 560; omega)⟩ dL_follow_112 (fun hp_1 H locs hW hC hK => ?_)
        refine w_wid (k' := (39 - 3 * f)) (n' := (520 - 40 * f)) (by omega) (by omega) ?_
        have f_2 : hp_1 ra = some (.inl (G.2.1 1, 48, .inl g)) := (hK ra (by simp)).trans w_ra
        have f_3 : hp_1 ca = some (.inl (G.2.1 1, 52, .inl gc)) := (hK ca (by simp)).trans w_ca
        obtain ⟨hf9, hg9⟩ := gc_s (n := n) (R := R) (hd := hd) (pn := pn) (pt := pt) h1 hq
        rw [hg9] at hC
        refine r_eqi (show ((fCall (n, R, hd, k, cs, false, pn, pt)) : Int32) = (-6) from hf9) ?_
        refine lv_iload X.1 X.2.1 dL_follow_115 (lv_at hl 0 rfl) ?_
        refine lv_if_ge (tgt := 125) X.1 X.2.1 dL_follow_117 (by decide) (fun c_117 => absurd c_117 (by decide)) (fun c_117 => ?_)
        refine lv_bipush (v := (-6)) X.1 X.2.1 dL_follow_120 (by decide) ?_
        refine lv_goto (tgt := 132) X.1 X.2.1 dL_follow_122 (by decide) ?_
        refine lv_icmp_eq (tgt := 137) X.1 X.2.1 dL_follow_132 (by decide) (fun c_132 => ?_) (fun c_132 => absurd rfl c_132)
        refine lv_iload X.1 X.2.1 dL_follow_137 (lv_at hl 0 rfl) ?_
        refine lv_if_ge (tgt := 146) X.1 X.2.1 dL_follow_139 (by decide) (fun c_139 => absurd c_139 (by decide)) (fun c_139 => ?_)
        refine lv_iconst (v := 1) X.1 X.2.1 dL_follow_142 (by decide) ?_
        refine lv_goto (tgt := 147) X.1 X.2.1 dL_follow_143 (by decide) ?_
        refine lv_istore (lv' := [(8, .int 1), (10, .int (-6)), (9, .int (nI (hd (k % 2)))), (0, .ref b6), (1, .ref ra), (2, .int (nI n)), (3, .ref ca), (4, .int (cs k 2)), (5, .int (cs k 4)), (6, .int (cs k 3)), (7, .int (nI k))]) X.1 X.2.1 dL_follow_147 hl (by decide) rfl (fun ls hl => ?_)
        refine lv_iload X.1 X.2.1 dL_follow_149 (lv_at hl 0 rfl) ?_
        refine lv_if_ne (tgt := 357) X.1 X.2.1 dL_follow_151 (by decide) (fun c_151 => ?_) (fun c_151 => absurd c_151 (by decide))
        refine lv_aload_n X.1 X.2.1 dL_follow_357 rfl (lv_at hl 6 rfl) ?_
        refine lv_iconst (v := 4) X.1 X.2.1 dL_follow_358 (by decide) ?_
        refine lv_iload X.1 X.2.1 dL_follow_359 (lv_at hl 10 rfl) ?_
        refine lv_imul X.1 X.2.1 dL_follow_361 ?_
        refine r_eqi (show (((4 : Int32) * (nI k)) : Int32) = nI (4 * k) from pk_mul 4 k) ?_
        refine lv_iload X.1 X.2.1 dL_follow_362 (lv_at hl 7 rfl) ?_
        refine r_iast X hW f_3 (show vp_in ((nI (4 * k))) 52 from vp_in_nI (n := (4 * k)) (by omega) (by decide)) dL_follow_364 (fun hp_4 H locs hW eh_5 => ?_)
        have f_6 : hp_4 ca = some (.inl (G.2.1 1, 52, .inl (upd gc (nI (4 * k)).toNatClampNeg (cs k 2)))) := by rw [eh_5]; exact va_up_self _ _ _
        have hC := cp_up hC eh_5 (by simp)
        refine lv_aload_n X.1 X.2.1 dL_follow_365 rfl (lv_at hl 6 rfl) ?_
        refine lv_iconst (v := 4) X.1 X.2.1 dL_follow_366 (by decide) ?_
        refine lv_iload X.1 X.2.1 dL_follow_367 (lv_at hl 10 rfl) ?_
        refine lv_imul X.1 X.2.1 dL_follow_369 ?_
        refine r_eqi (show (((4 : Int32) * (nI k)) : Int32) = nI (4 * k) from pk_mul 4 k) ?_
        refine lv_iconst (v := 1) X.1 X.2.1 dL_follow_370 (by decide) ?_
        refine lv_iadd X.1 X.2.1 dL_follow_371 ?_
        refine r_eqi (show (((nI (4 * k)) + 1) : Int32) = nI ((4 * k) + 1) from nI_add (4 * k) 1) ?_
        refine lv_iload X.1 X.2.1 dL_follow_372 (lv_at hl 8 rfl) ?_
        refine r_iast X hW f_6 (show vp_in ((nI ((4 * k) + 1))) 52 from vp_in_nI (n := ((4 * k) + 1)) (by omega) (by decide)) dL_follow_374 (fun hp_7 H locs hW eh_8 => ?_)
        have f_9 : hp_7 ca = some (.inl (G.2.1 1, 52, .inl (upd (upd gc (nI (4 * k)).toNatClampNeg (cs k 2)) (nI ((4 * k) + 1)).toNatClampNeg (cs k 4)))) := by rw [eh_8]; exact va_up_self _ _ _
        have hC := cp_up hC eh_8 (by simp)
        refine lv_aload_n X.1 X.2.1 dL_follow_375 rfl (lv_at hl 6 rfl) ?_
        refine lv_iconst (v := 4) X.1 X.2.1 dL_follow_376 (by decide) ?_
        refine lv_iload X.1 X.2.1 dL_follow_377 (lv_at hl 10 rfl) ?_
        refine lv_imul X.1 X.2.1 dL_follow_379 ?_
        refine r_eqi (show (((4 : Int32) * (nI k)) : Int32) = nI (4 * k) from pk_mul 4 k) ?_
        refine lv_iconst (v := 2) X.1 X.2.1 dL_follow_380 (by decide) ?_
        refine lv_iadd X.1 X.2.1 dL_follow_381 ?_
        refine r_eqi (show (((nI (4 * k)) + 2) : Int32) = nI ((4 * k) + 2) from nI_add (4 * k) 2) ?_
        refine lv_iload X.1 X.2.1 dL_follow_382 (lv_at hl 9 rfl) ?_
        refine r_iast X hW f_9 (show vp_in ((nI ((4 * k) + 2))) 52 from vp_in_nI (n := ((4 * k) + 2)) (by omega) (by decide)) dL_follow_384 (fun hp_10 H locs hW eh_11 => ?_)
        have f_12 : hp_10 ca = some (.inl (G.2.1 1, 52, .inl (upd (upd (upd gc (nI (4 * k)).toNatClampNeg (cs k 2)) (nI ((4 * k) + 1)).toNatClampNeg (cs k 4)) (nI ((4 * k) + 2)).toNatClampNeg (cs k 3)))) := by rw [eh_11]; exact va_up_self _ _ _
        have hC := cp_up hC eh_11 (by simp)
        refine lv_goto (tgt := 16) X.1 X.2.1 dL_follow_385 (by decide) ?_
        refine lv_iload X.1 X.2.1 dL_follow_16 (lv_at hl 0 rfl) ?_
        refine lv_if_ne (tgt := 388) X.1 X.2.1 dL_follow_18 (by decide) (fun c_18 => ?_) (fun c_18 => absurd c_18 (by decide))
        refine lv_aload_n X.1 X.2.1 dL_follow_388 rfl (lv_at hl 3 rfl) ?_
        refine lv_iconst (v := 5) X.1 X.2.1 dL_follow_389 (by decide) ?_
        refine lc_ri (z := (n, R, hd, k, cs, true, pn, pt)) (As := [.int 5]) (rest := []) X hW.1 hW.2.2 hC (fun hp9 hz9 => c_X6_state l G hp9 b6 n R hd k cs true pn pt hz9 (5 : Int32)) mf_X6_state tw_248 tw_249 tw_250 ⟨rfl, rfl, Nat.le_of_ble_eq_true rfl, Nat.le_of_ble_eq_true rfl⟩ hl.1 rfl rfl (Nat.le_of_ble_eq_true rfl) ⟨(by show _ ≤ 42; omega), (by show _ ≤ 560; omega)⟩ dL_follow_390 ?_
        refine r_eqi (show ((fState n k cs true pn (5 : Int32)) : Int32) = 2 from fs_5) ?_
        refine lv_if_eq (tgt := 415) X.1 X.2.1 dL_follow_393 (by decide) (fun c_393 => absurd c_393 (by decide)) (fun c_393 => ?_)
        refine lv_aload_n X.1 X.2.1 dL_follow_396 rfl (lv_at hl 3 rfl) ?_
        have f_14 : hp_10 ra = some (.inl (G.2.1 1, 48, .inl g)) := by rw [eh_11, va_up_ne _ _ (ne_look (show (_ : Option va_E) = some (.inl (G.2.1 1, 48, .inl g)) by rw [eh_8, va_up_ne _ _ (ne_look (show (_ : Option va_E) = some (.inl (G.2.1 1, 48, .inl g)) by rw [eh_5, va_up_ne _ _ (ne_look f_2 f_3 (by simp))]; exact f_2) f_6 (by simp)), eh_5, va_up_ne _ _ (ne_look f_2 f_3 (by simp))]; exact f_2) f_9 (by simp)), eh_8, va_up_ne _ _ (ne_look (show (_ : Option va_E) = some (.inl (G.2.1 1, 48, .inl g)) by rw [eh_5, va_up_ne _ _ (ne_look f_2 f_3 (by simp))]; exact f_2) f_6 (by simp)), eh_5, va_up_ne _ _ (ne_look f_2 f_3 (by simp))]; exact f_2
        refine lc_wi (z := (n, R, hd, k, cs, true, pn, pt)) (As := []) (rest := []) X hA hW hC (fun r hp1 h => h) (fun A9 hp9 hA9 hO9 hz9 => c_X6_call l G A9 hp9 _ hA9 hO9 b6 n R hd k cs true pn pt hz9 ) mf_X6_call tw_483 tw_484 tw_485 ⟨rfl, rfl, Nat.le_of_ble_eq_true rfl, Nat.le_of_ble_eq_true rfl⟩ hl.1 rfl rfl (Nat.le_of_ble_eq_true rfl) ⟨(by show _ ≤ 42; omega), (by show _ ≤ 560; omega)⟩ dL_follow_397 (fun hp_13 H locs hW hC hK => ?_)
        refine w_wid (k' := 42) (n' := 560) (by omega) (by omega) ?_
        have f_15 : hp_13 ra = some (.inl (G.2.1 1, 48, .inl g)) := (hK ra (by simp)).trans f_14
        have f_16 : hp_13 ca = some (.inl (G.2.1 1, 52, .inl (upd (upd (upd gc (nI (4 * k)).toNatClampNeg (cs k 2)) (nI ((4 * k) + 1)).toNatClampNeg (cs k 4)) (nI ((4 * k) + 2)).toNatClampNeg (cs k 3)))) := (hK ca (by simp)).trans f_12
        obtain ⟨hf8, hg8⟩ := gc_o (n := n) (R := R) (hd := hd) (k := k) (cs := cs) (sk := true) (pn := pn) (pt := pt) ov_sk
        rw [hg8] at hC
        refine r_eqi (show ((fCall (n, R, hd, k, cs, true, pn, pt)) : Int32) = (-5) from hf8) ?_
        refine lv_bipush (v := (-5)) X.1 X.2.1 dL_follow_400 (by decide) ?_
        refine lv_icmp_ne (tgt := 415) X.1 X.2.1 dL_follow_402 (by decide) (fun c_402 => absurd rfl c_402) (fun c_402 => ?_)
        refine lv_aload_n X.1 X.2.1 dL_follow_405 rfl (lv_at hl 3 rfl) ?_
        refine lv_iconst (v := 0) X.1 X.2.1 dL_follow_406 (by decide) ?_
        refine lc_ri (z := (n, R, hd, k, cs, true, pn, pt)) (As := [.int 0]) (rest := []) X hW.1 hW.2.2 hC (fun hp9 hz9 => c_X6_state l G hp9 b6 n R hd k cs true pn pt hz9 (0 : Int32)) mf_X6_state tw_248 tw_249 tw_250 ⟨rfl, rfl, Nat.le_of_ble_eq_true rfl, Nat.le_of_ble_eq_true rfl⟩ hl.1 rfl rfl (Nat.le_of_ble_eq_true rfl) ⟨Nat.le_of_ble_eq_true rfl, Nat.le_of_ble_eq_true rfl⟩ dL_follow_407 ?_
        refine r_eqi (show ((fState n k cs true pn (0 : Int32)) : Int32) = nI k from fs_0) ?_
        refine lv_iload X.1 X.2.1 dL_follow_410 (lv_at hl 10 rfl) ?_
        refine lv_icmp_eq (tgt := 419) X.1 X.2.1 dL_follow_412 (by decide) (fun c_412 => ?_) (fun c_412 => absurd rfl c_412)
        refine lv_iload X.1 X.2.1 dL_follow_419 (lv_at hl 10 rfl) ?_
        exact wr_i X hr hlk hW ⟨k, cs, true, _, rfl, hC, f_15, f_16, cg_stuck h2 hk12, h3, fun _ => ⟨hq, h1⟩⟩ (Nat.le_of_ble_eq_true rfl) (Nat.le_of_ble_eq_true rfl) dL_follow_421
      · refine r_eqi hq ?_
        have hqb := (hg.2 j hj).1
        have hb1 := hqb.2.2.2.2.1
        refine lv_istore (lv' := [(10, .int (nI j)), (9, .int (nI (hd (k % 2)))), (0, .ref b6), (1, .ref ra), (2, .int (nI n)), (3, .ref ca), (4, .int (cs k 2)), (5, .int (cs k 4)), (6, .int (cs k 3)), (7, .int (nI k)), (8, .int 0)]) X.1 X.2.1 dL_follow_48 hl (by decide) rfl (fun ls hl => ?_)
        refine lv_aload_n X.1 X.2.1 dL_follow_50 rfl (lv_at hl 2 rfl) ?_
        refine lv_iconst (v := 1) X.1 X.2.1 dL_follow_51 (by decide) ?_
        refine lc_ri (z := (n, R, hd, k, cs, false, pn, pt)) (As := [.int 1]) (rest := []) X hW.1 hW.2.2 hC (fun hp9 hz9 => c_X6_state l G hp9 b6 n R hd k cs false pn pt hz9 (1 : Int32)) mf_X6_state tw_248 tw_249 tw_250 ⟨rfl, rfl, Nat.le_of_ble_eq_true rfl, Nat.le_of_ble_eq_true rfl⟩ hl.1 rfl rfl (Nat.le_of_ble_eq_true rfl) ⟨(by show _ ≤ 42; omega), (by show _ ≤ 560; omega)⟩ dL_follow_52 ?_
        refine r_eqi (show ((fState n k cs false pn (1 : Int32)) : Int32) = cs k 2 from fs_1) ?_
        refine lv_iload X.1 X.2.1 dL_follow_55 (lv_at hl 6 rfl) ?_
        refine lv_icmp_ne (tgt := 135) X.1 X.2.1 dL_follow_57 (by decide) (fun c_57 => absurd rfl c_57) (fun c_57 => ?_)
        refine lv_aload_n X.1 X.2.1 dL_follow_60 rfl (lv_at hl 2 rfl) ?_
        refine lv_iconst (v := 2) X.1 X.2.1 dL_follow_61 (by decide) ?_
        refine lc_ri (z := (n, R, hd, k, cs, false, pn, pt)) (As := [.int 2]) (rest := []) X hW.1 hW.2.2 hC (fun hp9 hz9 => c_X6_state l G hp9 b6 n R hd k cs false pn pt hz9 (2 : Int32)) mf_X6_state tw_248 tw_249 tw_250 ⟨rfl, rfl, Nat.le_of_ble_eq_true rfl, Nat.le_of_ble_eq_true rfl⟩ hl.1 rfl rfl (Nat.le_of_ble_eq_true rfl) ⟨(by show _ ≤ 42; omega), (by show _ ≤ 560; omega)⟩ dL_follow_62 ?_
        refine r_eqi (show ((fState n k cs false pn (2 : Int32)) : Int32) = cs k 4 from fs_2) ?_
        refine lv_iload X.1 X.2.1 dL_follow_65 (lv_at hl 7 rfl) ?_
        refine lv_icmp_ne (tgt := 135) X.1 X.2.1 dL_follow_67 (by decide) (fun c_67 => absurd rfl c_67) (fun c_67 => ?_)
        refine lv_aload_n X.1 X.2.1 dL_follow_70 rfl (lv_at hl 2 rfl) ?_
        refine lv_iconst (v := 3) X.1 X.2.1 dL_follow_71 (by decide) ?_
        refine lc_ri (z := (n, R, hd, k, cs, false, pn, pt)) (As := [.int 3]) (rest := []) X hW.1 hW.2.2 hC (fun hp9 hz9 => c_X6_state l G hp9 b6 n R hd k cs false pn pt hz9 (3 : Int32)) mf_X6_state tw_248 tw_249 tw_250 ⟨rfl, rfl, Nat.le_of_ble_eq_true rfl, Nat.le_of_ble_eq_true rfl⟩ hl.1 rfl rfl (Nat.le_of_ble_eq_true rfl) ⟨(by show _ ≤ 42; omega), (by show _ ≤ 560; omega)⟩ dL_follow_72 ?_
        refine r_eqi (show ((fState n k cs false pn (3 : Int32)) : Int32) = cs k 3 from fs_3) ?_
        refine lv_iload X.1 X.2.1 dL_follow_75 (lv_at hl 8 rfl) ?_
        refine lv_icmp_ne (tgt := 135) X.1 X.2.1 dL_follow_77 (by decide) (fun c_77 => absurd rfl c_77) (fun c_77 => ?_)
        refine lv_aload_n X.1 X.2.1 dL_follow_80 rfl (lv_at hl 2 rfl) ?_
        refine lv_iconst (v := 4) X.1 X.2.1 dL_follow_81 (by decide) ?_
        refine lc_ri (z := (n, R, hd, k, cs, false, pn, pt)) (As := [.int 4]) (rest := []) X hW.1 hW.2.2 hC (fun hp9 hz9 => c_X6_state l G hp9 b6 n R hd k cs false pn pt hz9 (4 : Int32)) mf_X6_state tw_248 tw_249 tw_250 ⟨rfl, rfl, Nat.le_of_ble_eq_true rfl, Nat.le_of_ble_eq_true rfl⟩ hl.1 rfl rfl (Nat.le_of_ble_eq_true rfl) ⟨(by show _ ≤ 42; omega), (by show _ ≤ 560; omega)⟩ dL_follow_82 ?_
        refine r_eqi (show ((fState n k cs false pn (4 : Int32)) : Int32) = nI (k % 2) from fs_4) ?_
        refine lv_iload X.1 X.2.1 dL_follow_85 (lv_at hl 9 rfl) ?_
        refine lv_iconst (v := 2) X.1 X.2.1 dL_follow_87 (by decide) ?_
        refine lv_irem X.1 X.2.1 dL_follow_88 (by decide) ?_
        refine r_eqi (show (((nI k) - (nI k) / 2 * 2) : Int32) = nI (k % 2) from pk_rem (a := k) (d := 2) (by omega) (by omega) (by omega)) ?_
        refine lv_icmp_ne (tgt := 135) X.1 X.2.1 dL_follow_89 (by decide) (fun c_89 => absurd rfl c_89) (fun c_89 => ?_)
        refine lv_aload_n X.1 X.2.1 dL_follow_92 rfl (lv_at hl 2 rfl) ?_
        refine lv_iconst (v := 5) X.1 X.2.1 dL_follow_93 (by decide) ?_
        refine lc_ri (z := (n, R, hd, k, cs, false, pn, pt)) (As := [.int 5]) (rest := []) X hW.1 hW.2.2 hC (fun hp9 hz9 => c_X6_state l G hp9 b6 n R hd k cs false pn pt hz9 (5 : Int32)) mf_X6_state tw_248 tw_249 tw_250 ⟨rfl, rfl, Nat.le_of_ble_eq_true rfl, Nat.le_of_ble_eq_true rfl⟩ hl.1 rfl rfl (Nat.le_of_ble_eq_true rfl) ⟨(by show _ ≤ 42; omega), (by show _ ≤ 560; omega)⟩ dL_follow_94 ?_
        refine r_eqi (show ((fState n k cs false pn (5 : Int32)) : Int32) = 0 from by rw [fs_5, h1]; rfl) ?_
        refine lv_if_ne (tgt := 135) X.1 X.2.1 dL_follow_97 (by decide) (fun c_97 => absurd (by decide) c_97) (fun c_97 => ?_)
        refine lv_aload_n X.1 X.2.1 dL_follow_100 rfl (lv_at hl 2 rfl) ?_
        refine lv_iload X.1 X.2.1 dL_follow_101 (lv_at hl 1 rfl) ?_
        refine lc_ri (z := (n, R, hd, k, cs, false, pn, pt)) (As := [.int (nI (hd (k % 2)))]) (rest := []) X hW.1 hW.2.2 hC (fun hp9 hz9 => c_X6_ruleOf l G hp9 b6 n R hd k cs false pn pt hz9 (nI (hd (k % 2)))) mf_X6_ruleOf tw_478 tw_479 tw_480 ⟨rfl, rfl, Nat.le_of_ble_eq_true rfl, Nat.le_of_ble_eq_true rfl⟩ hl.1 rfl rfl (Nat.le_of_ble_eq_true rfl) ⟨(by show _ ≤ 42; omega), (by show _ ≤ 560; omega)⟩ dL_follow_103 ?_
        refine r_eqi (show ((fRuleOf n R k cs false (nI (hd (k % 2)))) : Int32) = nI j from by rw [fr_v hhk.1 hhk.2 h1, hq]) ?_
        refine lv_iload X.1 X.2.1 dL_follow_106 (lv_at hl 0 rfl) ?_
        refine lv_icmp_ne (tgt := 135) X.1 X.2.1 dL_follow_108 (by decide) (fun c_108 => absurd rfl c_108) (fun c_108 => ?_)
        refine lv_aload_n X.1 X.2.1 dL_follow_111 rfl (lv_at hl 2 rfl) ?_
        refine lc_wi (z := (n, R, hd, k, cs, false, pn, pt)) (As := []) (rest := []) X hA hW hC (fun r hp1 h => h) (fun A9 hp9 hA9 hO9 hz9 => c_X6_call l G A9 hp9 _ hA9 hO9 b6 n R hd k cs false pn pt hz9 ) mf_X6_call tw_483 tw_484 tw_485 ⟨rfl, rfl, Nat.le_of_ble_eq_true rfl, Nat.le_of_ble_eq_true rfl⟩ hl.1 rfl rfl (Nat.le_of_ble_eq_true rfl) ⟨(by show _ ≤ 42; omega), (by show _ ≤ 560; omega)⟩ dL_follow_112 (fun hp_17 H locs hW hC hK => ?_)
        refine w_wid (k' := (39 - 3 * f)) (n' := (520 - 40 * f)) (by omega) (by omega) ?_
        have f_18 : hp_17 ra = some (.inl (G.2.1 1, 48, .inl g)) := (hK ra (by simp)).trans w_ra
        have f_19 : hp_17 ca = some (.inl (G.2.1 1, 52, .inl gc)) := (hK ca (by simp)).trans w_ca
        obtain ⟨hf9, hg9⟩ := gc_r (n := n) (R := R) (hd := hd) (pn := pn) (pt := pt) (j := j) (by omega) h1 hq
        obtain ⟨cs1, ecs, e0, e1, e2, e3, e4, el, n2, n3, n4⟩ := cs_new cs k (nI (R j 1)) (nI j) (if R j 1 = 25 then cs k 2 else nI (R j 2)) (if R j 1 = 25 then cs k 3 else nI (R j 3)) (if R j 1 = 25 then cs k 4 else nI (R j 1))
        rw [hg9, ecs] at hC
        refine r_eqi (show ((fCall (n, R, hd, k, cs, false, pn, pt)) : Int32) = nI (R j 1) from hf9) ?_
        refine lv_iload X.1 X.2.1 dL_follow_115 (lv_at hl 0 rfl) ?_
        refine lv_if_ge (tgt := 125) X.1 X.2.1 dL_follow_117 (by decide) (fun c_117 => ?_) (fun c_117 => absurd (nI_pos' (by omega)) c_117)
        refine lv_aload_n X.1 X.2.1 dL_follow_125 rfl (lv_at hl 3 rfl) ?_
        refine lv_bipush (v := 8) X.1 X.2.1 dL_follow_126 (by decide) ?_
        refine lv_iload X.1 X.2.1 dL_follow_128 (lv_at hl 0 rfl) ?_
        refine lv_iadd X.1 X.2.1 dL_follow_130 ?_
        refine r_eqi (show (((8 : Int32) + (nI j)) : Int32) = nI (8 + j) from nI_add 8 j) ?_
        refine r_iald X hW.1 f_18 (show vp_in ((nI (8 + j))) 48 from vp_in_nI (n := (8 + j)) (by omega) (by decide)) dL_follow_131 ?_
        refine r_eqi (show ((g (nI (8 + j)).toNatClampNeg) : Int32) = nI (R j 1) from by rw [nI_clamp (by omega)]; exact (hg.2 j hj).2.2.1) ?_
        refine lv_icmp_eq (tgt := 137) X.1 X.2.1 dL_follow_132 (by decide) (fun c_132 => ?_) (fun c_132 => absurd rfl c_132)
        refine lv_iload X.1 X.2.1 dL_follow_137 (lv_at hl 0 rfl) ?_
        refine lv_if_ge (tgt := 146) X.1 X.2.1 dL_follow_139 (by decide) (fun c_139 => ?_) (fun c_139 => absurd (nI_pos' (by omega)) c_139)
        refine lv_iconst (v := 0) X.1 X.2.1 dL_follow_146 (by decide) ?_
        refine lv_istore (lv' := [(8, .int 0), (10, .int (nI j)), (9, .int (nI (hd (k % 2)))), (0, .ref b6), (1, .ref ra), (2, .int (nI n)), (3, .ref ca), (4, .int (cs k 2)), (5, .int (cs k 4)), (6, .int (cs k 3)), (7, .int (nI k))]) X.1 X.2.1 dL_follow_147 hl (by decide) rfl (fun ls hl => ?_)
        refine lv_iload X.1 X.2.1 dL_follow_149 (lv_at hl 0 rfl) ?_
        refine lv_if_ne (tgt := 357) X.1 X.2.1 dL_follow_151 (by decide) (fun c_151 => absurd (by decide) c_151) (fun c_151 => ?_)
        refine lv_aload_n X.1 X.2.1 dL_follow_154 rfl (lv_at hl 6 rfl) ?_
        refine lv_iconst (v := 4) X.1 X.2.1 dL_follow_155 (by decide) ?_
        refine lv_iload X.1 X.2.1 dL_follow_156 (lv_at hl 10 rfl) ?_
        refine lv_imul X.1 X.2.1 dL_follow_158 ?_
        refine r_eqi (show (((4 : Int32) * (nI k)) : Int32) = nI (4 * k) from pk_mul 4 k) ?_
        refine lv_iload X.1 X.2.1 dL_follow_159 (lv_at hl 7 rfl) ?_
        refine r_iast X hW f_19 (show vp_in ((nI (4 * k))) 52 from vp_in_nI (n := (4 * k)) (by omega) (by decide)) dL_follow_161 (fun hp_20 H locs hW eh_21 => ?_)
        have f_22 : hp_20 ca = some (.inl (G.2.1 1, 52, .inl (upd gc (nI (4 * k)).toNatClampNeg (cs k 2)))) := by rw [eh_21]; exact va_up_self _ _ _
        have hC := cp_up hC eh_21 (by simp)
        refine lv_aload_n X.1 X.2.1 dL_follow_162 rfl (lv_at hl 6 rfl) ?_
        refine lv_iconst (v := 4) X.1 X.2.1 dL_follow_163 (by decide) ?_
        refine lv_iload X.1 X.2.1 dL_follow_164 (lv_at hl 10 rfl) ?_
        refine lv_imul X.1 X.2.1 dL_follow_166 ?_
        refine r_eqi (show (((4 : Int32) * (nI k)) : Int32) = nI (4 * k) from pk_mul 4 k) ?_
        refine lv_iconst (v := 1) X.1 X.2.1 dL_follow_167 (by decide) ?_
        refine lv_iadd X.1 X.2.1 dL_follow_168 ?_
        refine r_eqi (show (((nI (4 * k)) + 1) : Int32) = nI ((4 * k) + 1) from nI_add (4 * k) 1) ?_
        refine lv_iload X.1 X.2.1 dL_follow_169 (lv_at hl 8 rfl) ?_
        refine r_iast X hW f_22 (show vp_in ((nI ((4 * k) + 1))) 52 from vp_in_nI (n := ((4 * k) + 1)) (by omega) (by decide)) dL_follow_171 (fun hp_23 H locs hW eh_24 => ?_)
        have f_25 : hp_23 ca = some (.inl (G.2.1 1, 52, .inl (upd (upd gc (nI (4 * k)).toNatClampNeg (cs k 2)) (nI ((4 * k) + 1)).toNatClampNeg (cs k 4)))) := by rw [eh_24]; exact va_up_self _ _ _
        have hC := cp_up hC eh_24 (by simp)
        refine lv_aload_n X.1 X.2.1 dL_follow_172 rfl (lv_at hl 6 rfl) ?_
        refine lv_iconst (v := 4) X.1 X.2.1 dL_follow_173 (by decide) ?_
        refine lv_iload X.1 X.2.1 dL_follow_174 (lv_at hl 10 rfl) ?_
        refine lv_imul X.1 X.2.1 dL_follow_176 ?_
        refine r_eqi (show (((4 : Int32) * (nI k)) : Int32) = nI (4 * k) from pk_mul 4 k) ?_
        refine lv_iconst (v := 2) X.1 X.2.1 dL_follow_177 (by decide) ?_
        refine lv_iadd X.1 X.2.1 dL_follow_178 ?_
        refine r_eqi (show (((nI (4 * k)) + 2) : Int32) = nI ((4 * k) + 2) from nI_add (4 * k) 2) ?_
        refine lv_iload X.1 X.2.1 dL_follow_179 (lv_at hl 9 rfl) ?_
        refine r_iast X hW f_25 (show vp_in ((nI ((4 * k) + 2))) 52 from vp_in_nI (n := ((4 * k) + 2)) (by omega) (by decide)) dL_follow_181 (fun hp_26 H locs hW eh_27 => ?_)
        have f_28 : hp_26 ca = some (.inl (G.2.1 1, 52, .inl (upd (upd (upd gc (nI (4 * k)).toNatClampNeg (cs k 2)) (nI ((4 * k) + 1)).toNatClampNeg (cs k 4)) (nI ((4 * k) + 2)).toNatClampNeg (cs k 3)))) := by rw [eh_27]; exact va_up_self _ _ _
        have hC := cp_up hC eh_27 (by simp)
        refine lv_aload_n X.1 X.2.1 dL_follow_182 rfl (lv_at hl 6 rfl) ?_
        refine lv_iconst (v := 4) X.1 X.2.1 dL_follow_183 (by decide) ?_
        refine lv_iload X.1 X.2.1 dL_follow_184 (lv_at hl 10 rfl) ?_
        refine lv_imul X.1 X.2.1 dL_follow_186 ?_
        refine r_eqi (show (((4 : Int32) * (nI k)) : Int32) = nI (4 * k) from pk_mul 4 k) ?_
        refine lv_iconst (v := 3) X.1 X.2.1 dL_follow_187 (by decide) ?_
        refine lv_iadd X.1 X.2.1 dL_follow_188 ?_
        refine r_eqi (show (((nI (4 * k)) + 3) : Int32) = nI ((4 * k) + 3) from nI_add (4 * k) 3) ?_
        refine lv_iload X.1 X.2.1 dL_follow_189 (lv_at hl 1 rfl) ?_
        refine r_iast X hW f_28 (show vp_in ((nI ((4 * k) + 3))) 52 from vp_in_nI (n := ((4 * k) + 3)) (by omega) (by decide)) dL_follow_191 (fun hp_29 H locs hW eh_30 => ?_)
        have f_31 : hp_29 ca = some (.inl (G.2.1 1, 52, .inl (upd (upd (upd (upd gc (nI (4 * k)).toNatClampNeg (cs k 2)) (nI ((4 * k) + 1)).toNatClampNeg (cs k 4)) (nI ((4 * k) + 2)).toNatClampNeg (cs k 3)) (nI ((4 * k) + 3)).toNatClampNeg (nI j)))) := by rw [eh_30]; exact va_up_self _ _ _
        have hC := cp_up hC eh_30 (by simp)
        refine lv_aload_n X.1 X.2.1 dL_follow_192 rfl (lv_at hl 3 rfl) ?_
        refine lv_iload X.1 X.2.1 dL_follow_193 (lv_at hl 10 rfl) ?_
        refine lv_iconst (v := 0) X.1 X.2.1 dL_follow_195 (by decide) ?_
        refine lc_ri (z := (n, R, hd, (k + 1), cs1, false, pn, pt)) (As := [.int (nI k), .int 0]) (rest := []) X hW.1 hW.2.2 hC (fun hp9 hz9 => c_X6_made l G hp9 b6 n R hd (k + 1) cs1 false pn pt hz9 (nI k) (0 : Int32)) mf_X6_made tw_511 tw_512 tw_513 ⟨rfl, rfl, Nat.le_of_ble_eq_true rfl, Nat.le_of_ble_eq_true rfl⟩ hl.1 rfl rfl (Nat.le_of_ble_eq_true rfl) ⟨(by show _ ≤ 42; omega), (by show _ ≤ 560; omega)⟩ dL_follow_196 ?_
        refine r_eqi (show ((fMade (k + 1) cs1 (nI k) (0 : Int32)) : Int32) = nI (R j 1) from (fm_v (w := 0) (by omega) (by omega) (by omega)).trans e0) ?_
        refine lv_aload_n X.1 X.2.1 dL_follow_199 rfl (lv_at hl 4 rfl) ?_
        refine lv_bipush (v := 8) X.1 X.2.1 dL_follow_200 (by decide) ?_
        refine lv_iload X.1 X.2.1 dL_follow_202 (lv_at hl 1 rfl) ?_
        refine lv_iadd X.1 X.2.1 dL_follow_204 ?_
        refine r_eqi (show (((8 : Int32) + (nI j)) : Int32) = nI (8 + j) from nI_add 8 j) ?_
        have f_32 : hp_29 ra = some (.inl (G.2.1 1, 48, .inl g)) := by rw [eh_30, va_up_ne _ _ (ne_look (show (_ : Option va_E) = some (.inl (G.2.1 1, 48, .inl g)) by rw [eh_27, va_up_ne _ _ (ne_look (show (_ : Option va_E) = some (.inl (G.2.1 1, 48, .inl g)) by rw [eh_24, va_up_ne _ _ (ne_look (show (_ : Option va_E) = some (.inl (G.2.1 1, 48, .inl g)) by rw [eh_21, va_up_ne _ _ (ne_look f_18 f_19 (by simp))]; exact f_18) f_22 (by simp)), eh_21, va_up_ne _ _ (ne_look f_18 f_19 (by simp))]; exact f_18) f_25 (by simp)), eh_24, va_up_ne _ _ (ne_look (show (_ : Option va_E) = some (.inl (G.2.1 1, 48, .inl g)) by rw [eh_21, va_up_ne _ _ (ne_look f_18 f_19 (by simp))]; exact f_18) f_22 (by simp)), eh_21, va_up_ne _ _ (ne_look f_18 f_19 (by simp))]; exact f_18) f_28 (by simp)), eh_27, va_up_ne _ _ (ne_look (show (_ : Option va_E) = some (.inl (G.2.1 1, 48, .inl g)) by rw [eh_24, va_up_ne _ _ (ne_look (show (_ : Option va_E) = some (.inl (G.2.1 1, 48, .inl g)) by rw [eh_21, va_up_ne _ _ (ne_look f_18 f_19 (by simp))]; exact f_18) f_22 (by simp)), eh_21, va_up_ne _ _ (ne_look f_18 f_19 (by simp))]; exact f_18) f_25 (by simp)), eh_24, va_up_ne _ _ (ne_look (show (_ : Option va_E) = some (.inl (G.2.1 1, 48, .inl g)) by rw [eh_21, va_up_ne _ _ (ne_look f_18 f_19 (by simp))]; exact f_18) f_22 (by simp)), eh_21, va_up_ne _ _ (ne_look f_18 f_19 (by simp))]; exact f_18
        refine r_iald X hW.1 f_32 (show vp_in ((nI (8 + j))) 48 from vp_in_nI (n := (8 + j)) (by omega) (by decide)) dL_follow_205 ?_
        refine r_eqi (show ((g (nI (8 + j)).toNatClampNeg) : Int32) = nI (R j 1) from by rw [nI_clamp (by omega)]; exact (hg.2 j hj).2.2.1) ?_
        refine lv_icmp_ne (tgt := 245) X.1 X.2.1 dL_follow_206 (by decide) (fun c_206 => absurd rfl c_206) (fun c_206 => ?_)
        refine lv_aload_n X.1 X.2.1 dL_follow_209 rfl (lv_at hl 3 rfl) ?_
        refine lv_iload X.1 X.2.1 dL_follow_210 (lv_at hl 10 rfl) ?_
        refine lv_iconst (v := 1) X.1 X.2.1 dL_follow_212 (by decide) ?_
        refine lc_ri (z := (n, R, hd, (k + 1), cs1, false, pn, pt)) (As := [.int (nI k), .int 1]) (rest := []) X hW.1 hW.2.2 hC (fun hp9 hz9 => c_X6_made l G hp9 b6 n R hd (k + 1) cs1 false pn pt hz9 (nI k) (1 : Int32)) mf_X6_made tw_511 tw_512 tw_513 ⟨rfl, rfl, Nat.le_of_ble_eq_true rfl, Nat.le_of_ble_eq_true rfl⟩ hl.1 rfl rfl (Nat.le_of_ble_eq_true rfl) ⟨(by show _ ≤ 42; omega), (by show _ ≤ 560; omega)⟩ dL_follow_213 ?_
        refine r_eqi (show ((fMade (k + 1) cs1 (nI k) (1 : Int32)) : Int32) = nI j from (fm_v (w := 1) (by omega) (by omega) (by omega)).trans e1) ?_
        refine lv_iload X.1 X.2.1 dL_follow_216 (lv_at hl 1 rfl) ?_
        refine lv_icmp_ne (tgt := 245) X.1 X.2.1 dL_follow_218 (by decide) (fun c_218 => absurd rfl c_218) (fun c_218 => ?_)
        refine lv_aload_n X.1 X.2.1 dL_follow_221 rfl (lv_at hl 3 rfl) ?_
        refine lv_iload X.1 X.2.1 dL_follow_222 (lv_at hl 10 rfl) ?_
        refine lv_iconst (v := 2) X.1 X.2.1 dL_follow_224 (by decide) ?_
        refine lc_ri (z := (n, R, hd, (k + 1), cs1, false, pn, pt)) (As := [.int (nI k), .int 2]) (rest := []) X hW.1 hW.2.2 hC (fun hp9 hz9 => c_X6_made l G hp9 b6 n R hd (k + 1) cs1 false pn pt hz9 (nI k) (2 : Int32)) mf_X6_made tw_511 tw_512 tw_513 ⟨rfl, rfl, Nat.le_of_ble_eq_true rfl, Nat.le_of_ble_eq_true rfl⟩ hl.1 rfl rfl (Nat.le_of_ble_eq_true rfl) ⟨(by show _ ≤ 42; omega), (by show _ ≤ 560; omega)⟩ dL_follow_225 ?_
        refine r_eqi (show ((fMade (k + 1) cs1 (nI k) (2 : Int32)) : Int32) = cs k 2 from (fm_v (w := 2) (by omega) (by omega) (by omega)).trans e2) ?_
        refine lv_iload X.1 X.2.1 dL_follow_228 (lv_at hl 7 rfl) ?_
        refine lv_icmp_ne (tgt := 245) X.1 X.2.1 dL_follow_230 (by decide) (fun c_230 => absurd rfl c_230) (fun c_230 => ?_)
        refine lv_aload_n X.1 X.2.1 dL_follow_233 rfl (lv_at hl 3 rfl) ?_
        refine lv_iload X.1 X.2.1 dL_follow_234 (lv_at hl 10 rfl) ?_
        refine lv_iconst (v := 3) X.1 X.2.1 dL_follow_236 (by decide) ?_
        refine lc_ri (z := (n, R, hd, (k + 1), cs1, false, pn, pt)) (As := [.int (nI k), .int 3]) (rest := []) X hW.1 hW.2.2 hC (fun hp9 hz9 => c_X6_made l G hp9 b6 n R hd (k + 1) cs1 false pn pt hz9 (nI k) (3 : Int32)) mf_X6_made tw_511 tw_512 tw_513 ⟨rfl, rfl, Nat.le_of_ble_eq_true rfl, Nat.le_of_ble_eq_true rfl⟩ hl.1 rfl rfl (Nat.le_of_ble_eq_true rfl) ⟨(by show _ ≤ 42; omega), (by show _ ≤ 560; omega)⟩ dL_follow_237 ?_
        refine r_eqi (show ((fMade (k + 1) cs1 (nI k) (3 : Int32)) : Int32) = cs k 3 from (fm_v (w := 3) (by omega) (by omega) (by omega)).trans e3) ?_
        refine lv_iload X.1 X.2.1 dL_follow_240 (lv_at hl 9 rfl) ?_
        refine lv_icmp_eq (tgt := 247) X.1 X.2.1 dL_follow_242 (by decide) (fun c_242 => ?_) (fun c_242 => absurd rfl c_242)
        refine lv_iinc (v := (nI (k + 1))) (lv' := [(7, .int (nI (k + 1))), (8, .int 0), (10, .int (nI j)), (9, .int (nI (hd (k % 2)))), (0, .ref b6), (1, .ref ra), (2, .int (nI n)), (3, .ref ca), (4, .int (cs k 2)), (5, .int (cs k 4)), (6, .int (cs k 3))]) X.1 X.2.1 dL_follow_247 hl (k := 10) rfl (nI_add k 1) (by decide) rfl (fun ls hl => ?_)
        refine lv_aload_n X.1 X.2.1 dL_follow_250 rfl (lv_at hl 5 rfl) ?_
        refine lv_bipush (v := 8) X.1 X.2.1 dL_follow_251 (by decide) ?_
        refine lv_iload X.1 X.2.1 dL_follow_253 (lv_at hl 2 rfl) ?_
        refine lv_iadd X.1 X.2.1 dL_follow_255 ?_
        refine r_eqi (show (((8 : Int32) + (nI j)) : Int32) = nI (8 + j) from nI_add 8 j) ?_
        refine r_iald X hW.1 f_32 (show vp_in ((nI (8 + j))) 48 from vp_in_nI (n := (8 + j)) (by omega) (by decide)) dL_follow_256 ?_
        refine r_eqi (show ((g (nI (8 + j)).toNatClampNeg) : Int32) = nI (R j 1) from by rw [nI_clamp (by omega)]; exact (hg.2 j hj).2.2.1) ?_
        refine lv_bipush (v := 25) X.1 X.2.1 dL_follow_257 (by decide) ?_
        refine lv_icmp_eq (tgt := 269) X.1 X.2.1 dL_follow_259 (by decide) (fun c_259 => ?_) (fun c_259 => ?_)
        · have k_259 := k_eq (a := (R j 1)) (b := 25) (by omega) (by omega) c_259
          have hov : ovB (k + 1) cs1 false = true := ov_y2 (by rw [e0]; exact c_259)
          refine lv_iconst (v := 1) X.1 X.2.1 dL_follow_269 (by decide) ?_
          refine lv_goto (tgt := 274) X.1 X.2.1 dL_follow_270 (by decide) ?_
          refine lv_istore (lv' := [(8, .int 1), (7, .int (nI (k + 1))), (10, .int (nI j)), (9, .int (nI (hd (k % 2)))), (0, .ref b6), (1, .ref ra), (2, .int (nI n)), (3, .ref ca), (4, .int (cs k 2)), (5, .int (cs k 4)), (6, .int (cs k 3))]) X.1 X.2.1 dL_follow_274 hl (by decide) rfl (fun ls hl => ?_)
          refine lv_aload_n X.1 X.2.1 dL_follow_276 rfl (lv_at hl 5 rfl) ?_
          refine lv_bipush (v := 8) X.1 X.2.1 dL_follow_277 (by decide) ?_
          refine lv_iload X.1 X.2.1 dL_follow_279 (lv_at hl 2 rfl) ?_
          refine lv_iadd X.1 X.2.1 dL_follow_281 ?_
          refine r_eqi (show (((8 : Int32) + (nI j)) : Int32) = nI (8 + j) from nI_add 8 j) ?_
          refine r_iald X hW.1 f_32 (show vp_in ((nI (8 + j))) 48 from vp_in_nI (n := (8 + j)) (by omega) (by decide)) dL_follow_282 ?_
          refine r_eqi (show ((g (nI (8 + j)).toNatClampNeg) : Int32) = nI (R j 1) from by rw [nI_clamp (by omega)]; exact (hg.2 j hj).2.2.1) ?_
          refine lv_bipush (v := 25) X.1 X.2.1 dL_follow_283 (by decide) ?_
          refine lv_icmp_ne (tgt := 293) X.1 X.2.1 dL_follow_285 (by decide) (fun c_285 => absurd c_259 c_285) (fun c_285 => ?_)
          refine lv_iload X.1 X.2.1 dL_follow_288 (lv_at hl 8 rfl) ?_
          refine lv_goto (tgt := 300) X.1 X.2.1 dL_follow_290 (by decide) ?_
          refine lv_topi (fun v_300 e_300 => ?_)
          refine lv_istore (lv' := [(4, .int v_300), (8, .int 1), (7, .int (nI (k + 1))), (10, .int (nI j)), (9, .int (nI (hd (k % 2)))), (0, .ref b6), (1, .ref ra), (2, .int (nI n)), (3, .ref ca), (5, .int (cs k 4)), (6, .int (cs k 3))]) X.1 X.2.1 dL_follow_300 hl (by decide) rfl (fun ls hl => ?_)
          refine lv_aload_n X.1 X.2.1 dL_follow_302 rfl (lv_at hl 6 rfl) ?_
          refine lv_bipush (v := 8) X.1 X.2.1 dL_follow_303 (by decide) ?_
          refine lv_iload X.1 X.2.1 dL_follow_305 (lv_at hl 3 rfl) ?_
          refine lv_iadd X.1 X.2.1 dL_follow_307 ?_
          refine r_eqi (show (((8 : Int32) + (nI j)) : Int32) = nI (8 + j) from nI_add 8 j) ?_
          refine r_iald X hW.1 f_32 (show vp_in ((nI (8 + j))) 48 from vp_in_nI (n := (8 + j)) (by omega) (by decide)) dL_follow_308 ?_
          refine r_eqi (show ((g (nI (8 + j)).toNatClampNeg) : Int32) = nI (R j 1) from by rw [nI_clamp (by omega)]; exact (hg.2 j hj).2.2.1) ?_
          refine lv_bipush (v := 25) X.1 X.2.1 dL_follow_309 (by decide) ?_
          refine lv_icmp_ne (tgt := 319) X.1 X.2.1 dL_follow_311 (by decide) (fun c_311 => absurd c_259 c_311) (fun c_311 => ?_)
          refine lv_iload X.1 X.2.1 dL_follow_314 (lv_at hl 9 rfl) ?_
          refine lv_goto (tgt := 326) X.1 X.2.1 dL_follow_316 (by decide) ?_
          refine lv_topi (fun v_326 e_326 => ?_)
          refine lv_istore (lv' := [(5, .int v_326), (4, .int v_300), (8, .int 1), (7, .int (nI (k + 1))), (10, .int (nI j)), (9, .int (nI (hd (k % 2)))), (0, .ref b6), (1, .ref ra), (2, .int (nI n)), (3, .ref ca), (6, .int (cs k 3))]) X.1 X.2.1 dL_follow_326 hl (by decide) rfl (fun ls hl => ?_)
          refine lv_aload_n X.1 X.2.1 dL_follow_328 rfl (lv_at hl 7 rfl) ?_
          refine lv_bipush (v := 8) X.1 X.2.1 dL_follow_329 (by decide) ?_
          refine lv_iload X.1 X.2.1 dL_follow_331 (lv_at hl 4 rfl) ?_
          refine lv_iadd X.1 X.2.1 dL_follow_333 ?_
          refine r_eqi (show (((8 : Int32) + (nI j)) : Int32) = nI (8 + j) from nI_add 8 j) ?_
          refine r_iald X hW.1 f_32 (show vp_in ((nI (8 + j))) 48 from vp_in_nI (n := (8 + j)) (by omega) (by decide)) dL_follow_334 ?_
          refine r_eqi (show ((g (nI (8 + j)).toNatClampNeg) : Int32) = nI (R j 1) from by rw [nI_clamp (by omega)]; exact (hg.2 j hj).2.2.1) ?_
          refine lv_bipush (v := 25) X.1 X.2.1 dL_follow_335 (by decide) ?_
          refine lv_icmp_ne (tgt := 345) X.1 X.2.1 dL_follow_337 (by decide) (fun c_337 => absurd c_259 c_337) (fun c_337 => ?_)
          refine lv_iload X.1 X.2.1 dL_follow_340 (lv_at hl 10 rfl) ?_
          refine lv_goto (tgt := 352) X.1 X.2.1 dL_follow_342 (by decide) ?_
          refine lv_topi (fun v_352 e_352 => ?_)
          refine lv_istore (lv' := [(6, .int v_352), (5, .int v_326), (4, .int v_300), (8, .int 1), (7, .int (nI (k + 1))), (10, .int (nI j)), (9, .int (nI (hd (k % 2)))), (0, .ref b6), (1, .ref ra), (2, .int (nI n)), (3, .ref ca)]) X.1 X.2.1 dL_follow_352 hl (by decide) rfl (fun ls hl => ?_)
          refine lv_goto (tgt := 385) X.1 X.2.1 dL_follow_354 (by decide) ?_
          refine lv_goto (tgt := 16) X.1 X.2.1 dL_follow_385 (by decide) ?_
          refine lv_iload X.1 X.2.1 dL_follow_16 (lv_at hl 3 rfl) ?_
          refine lv_if_ne (tgt := 388) X.1 X.2.1 dL_follow_18 (by decide) (fun c_18 => ?_) (fun c_18 => absurd c_18 (by decide))
          refine lv_aload_n X.1 X.2.1 dL_follow_388 rfl (lv_at hl 7 rfl) ?_
          refine lv_iconst (v := 5) X.1 X.2.1 dL_follow_389 (by decide) ?_
          refine lc_ri (z := (n, R, hd, (k + 1), cs1, false, pn, pt)) (As := [.int 5]) (rest := []) X hW.1 hW.2.2 hC (fun hp9 hz9 => c_X6_state l G hp9 b6 n R hd (k + 1) cs1 false pn pt hz9 (5 : Int32)) mf_X6_state tw_248 tw_249 tw_250 ⟨rfl, rfl, Nat.le_of_ble_eq_true rfl, Nat.le_of_ble_eq_true rfl⟩ hl.1 rfl rfl (Nat.le_of_ble_eq_true rfl) ⟨(by show _ ≤ 42; omega), (by show _ ≤ 560; omega)⟩ dL_follow_390 ?_
          refine r_eqi (show ((fState n (k + 1) cs1 false pn (5 : Int32)) : Int32) = 1 from by rw [fs_5, hov]; rfl) ?_
          refine lv_if_eq (tgt := 415) X.1 X.2.1 dL_follow_393 (by decide) (fun c_393 => absurd c_393 (by decide)) (fun c_393 => ?_)
          refine lv_aload_n X.1 X.2.1 dL_follow_396 rfl (lv_at hl 7 rfl) ?_
          refine lc_wi (z := (n, R, hd, (k + 1), cs1, false, pn, pt)) (As := []) (rest := []) X hA hW hC (fun r hp1 h => h) (fun A9 hp9 hA9 hO9 hz9 => c_X6_call l G A9 hp9 _ hA9 hO9 b6 n R hd (k + 1) cs1 false pn pt hz9 ) mf_X6_call tw_483 tw_484 tw_485 ⟨rfl, rfl, Nat.le_of_ble_eq_true rfl, Nat.le_of_ble_eq_true rfl⟩ hl.1 rfl rfl (Nat.le_of_ble_eq_true rfl) ⟨(by show _ ≤ 42; omega), (by show _ ≤ 560; omega)⟩ dL_follow_397 (fun hp_33 H locs hW hC hK => ?_)
          refine w_wid (k' := 42) (n' := 560) (by omega) (by omega) ?_
          have f_34 : hp_33 ra = some (.inl (G.2.1 1, 48, .inl g)) := (hK ra (by simp)).trans f_32
          have f_35 : hp_33 ca = some (.inl (G.2.1 1, 52, .inl (upd (upd (upd (upd gc (nI (4 * k)).toNatClampNeg (cs k 2)) (nI ((4 * k) + 1)).toNatClampNeg (cs k 4)) (nI ((4 * k) + 2)).toNatClampNeg (cs k 3)) (nI ((4 * k) + 3)).toNatClampNeg (nI j)))) := (hK ca (by simp)).trans f_31
          obtain ⟨hf8, hg8⟩ := gc_o (n := n) (R := R) (hd := hd) (k := (k + 1)) (cs := cs1) (sk := false) (pn := pn) (pt := pt) hov
          rw [hg8] at hC
          refine r_eqi (show ((fCall (n, R, hd, (k + 1), cs1, false, pn, pt)) : Int32) = (-5) from hf8) ?_
          refine lv_bipush (v := (-5)) X.1 X.2.1 dL_follow_400 (by decide) ?_
          refine lv_icmp_ne (tgt := 415) X.1 X.2.1 dL_follow_402 (by decide) (fun c_402 => absurd rfl c_402) (fun c_402 => ?_)
          refine lv_aload_n X.1 X.2.1 dL_follow_405 rfl (lv_at hl 7 rfl) ?_
          refine lv_iconst (v := 0) X.1 X.2.1 dL_follow_406 (by decide) ?_
          refine lc_ri (z := (n, R, hd, (k + 1), cs1, false, pn, pt)) (As := [.int 0]) (rest := []) X hW.1 hW.2.2 hC (fun hp9 hz9 => c_X6_state l G hp9 b6 n R hd (k + 1) cs1 false pn pt hz9 (0 : Int32)) mf_X6_state tw_248 tw_249 tw_250 ⟨rfl, rfl, Nat.le_of_ble_eq_true rfl, Nat.le_of_ble_eq_true rfl⟩ hl.1 rfl rfl (Nat.le_of_ble_eq_true rfl) ⟨Nat.le_of_ble_eq_true rfl, Nat.le_of_ble_eq_true rfl⟩ dL_follow_407 ?_
          refine r_eqi (show ((fState n (k + 1) cs1 false pn (0 : Int32)) : Int32) = nI (k + 1) from fs_0) ?_
          refine lv_iload X.1 X.2.1 dL_follow_410 (lv_at hl 4 rfl) ?_
          refine lv_icmp_eq (tgt := 419) X.1 X.2.1 dL_follow_412 (by decide) (fun c_412 => ?_) (fun c_412 => absurd rfl c_412)
          refine lv_iload X.1 X.2.1 dL_follow_419 (lv_at hl 4 rfl) ?_
          exact wr_i X hr hlk hW ⟨k + 1, cs1, false, _, rfl, hC, f_34, f_35, cg_step h2 hk12 e1 e2 e3 e4 el, (fun i hi => by rcases (show i < k ∨ i = k by omega) with q | q; (rw [el i q]; exact h3 i q); (rw [q, e1, e2, e3, e4]; exact hq)), fun q => by cases q⟩ (Nat.le_of_ble_eq_true rfl) (Nat.le_of_ble_eq_true rfl) dL_follow_421
        · have k_259 := k_ne (a := (R j 1)) (b := 25) (by omega) (by omega) c_259
          refine lv_iload X.1 X.2.1 dL_follow_262 (lv_at hl 0 rfl) ?_
          refine lv_bipush (v := 12) X.1 X.2.1 dL_follow_264 (by decide) ?_
          refine lv_icmp_ne (tgt := 273) X.1 X.2.1 dL_follow_266 (by decide) (fun c_266 => ?_) (fun c_266 => ?_)
          · have k_266 := k_ne (a := (k + 1)) (b := 12) (by omega) (by omega) c_266
            refine lv_iconst (v := 0) X.1 X.2.1 dL_follow_273 (by decide) ?_
            refine lv_istore (lv' := [(8, .int 0), (7, .int (nI (k + 1))), (10, .int (nI j)), (9, .int (nI (hd (k % 2)))), (0, .ref b6), (1, .ref ra), (2, .int (nI n)), (3, .ref ca), (4, .int (cs k 2)), (5, .int (cs k 4)), (6, .int (cs k 3))]) X.1 X.2.1 dL_follow_274 hl (by decide) rfl (fun ls hl => ?_)
            refine lv_aload_n X.1 X.2.1 dL_follow_276 rfl (lv_at hl 5 rfl) ?_
            refine lv_bipush (v := 8) X.1 X.2.1 dL_follow_277 (by decide) ?_
            refine lv_iload X.1 X.2.1 dL_follow_279 (lv_at hl 2 rfl) ?_
            refine lv_iadd X.1 X.2.1 dL_follow_281 ?_
            refine r_eqi (show (((8 : Int32) + (nI j)) : Int32) = nI (8 + j) from nI_add 8 j) ?_
            refine r_iald X hW.1 f_32 (show vp_in ((nI (8 + j))) 48 from vp_in_nI (n := (8 + j)) (by omega) (by decide)) dL_follow_282 ?_
            refine r_eqi (show ((g (nI (8 + j)).toNatClampNeg) : Int32) = nI (R j 1) from by rw [nI_clamp (by omega)]; exact (hg.2 j hj).2.2.1) ?_
            refine lv_bipush (v := 25) X.1 X.2.1 dL_follow_283 (by decide) ?_
            refine lv_icmp_ne (tgt := 293) X.1 X.2.1 dL_follow_285 (by decide) (fun c_285 => ?_) (fun c_285 => absurd c_285 c_259)
            refine lv_aload_n X.1 X.2.1 dL_follow_293 rfl (lv_at hl 5 rfl) ?_
            refine lv_bipush (v := 32) X.1 X.2.1 dL_follow_294 (by decide) ?_
            refine lv_iload X.1 X.2.1 dL_follow_296 (lv_at hl 2 rfl) ?_
            refine lv_iadd X.1 X.2.1 dL_follow_298 ?_
            refine r_eqi (show (((32 : Int32) + (nI j)) : Int32) = nI (32 + j) from nI_add 32 j) ?_
            refine r_iald X hW.1 f_32 (show vp_in ((nI (32 + j))) 48 from vp_in_nI (n := (32 + j)) (by omega) (by decide)) dL_follow_299 ?_
            refine r_eqi (show ((g (nI (32 + j)).toNatClampNeg) : Int32) = nI (R j 2) from by rw [nI_clamp (by omega)]; exact (hg.2 j hj).2.2.2.2.2.1) ?_
            refine lv_istore (lv' := [(4, .int (nI (R j 2))), (8, .int 0), (7, .int (nI (k + 1))), (10, .int (nI j)), (9, .int (nI (hd (k % 2)))), (0, .ref b6), (1, .ref ra), (2, .int (nI n)), (3, .ref ca), (5, .int (cs k 4)), (6, .int (cs k 3))]) X.1 X.2.1 dL_follow_300 hl (by decide) rfl (fun ls hl => ?_)
            refine lv_aload_n X.1 X.2.1 dL_follow_302 rfl (lv_at hl 6 rfl) ?_
            refine lv_bipush (v := 8) X.1 X.2.1 dL_follow_303 (by decide) ?_
            refine lv_iload X.1 X.2.1 dL_follow_305 (lv_at hl 3 rfl) ?_
            refine lv_iadd X.1 X.2.1 dL_follow_307 ?_
            refine r_eqi (show (((8 : Int32) + (nI j)) : Int32) = nI (8 + j) from nI_add 8 j) ?_
            refine r_iald X hW.1 f_32 (show vp_in ((nI (8 + j))) 48 from vp_in_nI (n := (8 + j)) (by omega) (by decide)) dL_follow_308 ?_
            refine r_eqi (show ((g (nI (8 + j)).toNatClampNeg) : Int32) = nI (R j 1) from by rw [nI_clamp (by omega)]; exact (hg.2 j hj).2.2.1) ?_
            refine lv_bipush (v := 25) X.1 X.2.1 dL_follow_309 (by decide) ?_
            refine lv_icmp_ne (tgt := 319) X.1 X.2.1 dL_follow_311 (by decide) (fun c_311 => ?_) (fun c_311 => absurd c_311 c_259)
            refine lv_aload_n X.1 X.2.1 dL_follow_319 rfl (lv_at hl 6 rfl) ?_
            refine lv_bipush (v := 8) X.1 X.2.1 dL_follow_320 (by decide) ?_
            refine lv_iload X.1 X.2.1 dL_follow_322 (lv_at hl 3 rfl) ?_
            refine lv_iadd X.1 X.2.1 dL_follow_324 ?_
            refine r_eqi (show (((8 : Int32) + (nI j)) : Int32) = nI (8 + j) from nI_add 8 j) ?_
            refine r_iald X hW.1 f_32 (show vp_in ((nI (8 + j))) 48 from vp_in_nI (n := (8 + j)) (by omega) (by decide)) dL_follow_325 ?_
            refine r_eqi (show ((g (nI (8 + j)).toNatClampNeg) : Int32) = nI (R j 1) from by rw [nI_clamp (by omega)]; exact (hg.2 j hj).2.2.1) ?_
            refine lv_istore (lv' := [(5, .int (nI (R j 1))), (4, .int (nI (R j 2))), (8, .int 0), (7, .int (nI (k + 1))), (10, .int (nI j)), (9, .int (nI (hd (k % 2)))), (0, .ref b6), (1, .ref ra), (2, .int (nI n)), (3, .ref ca), (6, .int (cs k 3))]) X.1 X.2.1 dL_follow_326 hl (by decide) rfl (fun ls hl => ?_)
            refine lv_aload_n X.1 X.2.1 dL_follow_328 rfl (lv_at hl 7 rfl) ?_
            refine lv_bipush (v := 8) X.1 X.2.1 dL_follow_329 (by decide) ?_
            refine lv_iload X.1 X.2.1 dL_follow_331 (lv_at hl 4 rfl) ?_
            refine lv_iadd X.1 X.2.1 dL_follow_333 ?_
            refine r_eqi (show (((8 : Int32) + (nI j)) : Int32) = nI (8 + j) from nI_add 8 j) ?_
            refine r_iald X hW.1 f_32 (show vp_in ((nI (8 + j))) 48 from vp_in_nI (n := (8 + j)) (by omega) (by decide)) dL_follow_334 ?_
            refine r_eqi (show ((g (nI (8 + j)).toNatClampNeg) : Int32) = nI (R j 1) from by rw [nI_clamp (by omega)]; exact (hg.2 j hj).2.2.1) ?_
            refine lv_bipush (v := 25) X.1 X.2.1 dL_follow_335 (by decide) ?_
            refine lv_icmp_ne (tgt := 345) X.1 X.2.1 dL_follow_337 (by decide) (fun c_337 => ?_) (fun c_337 => absurd c_337 c_259)
            refine lv_aload_n X.1 X.2.1 dL_follow_345 rfl (lv_at hl 7 rfl) ?_
            refine lv_bipush (v := 40) X.1 X.2.1 dL_follow_346 (by decide) ?_
            refine lv_iload X.1 X.2.1 dL_follow_348 (lv_at hl 4 rfl) ?_
            refine lv_iadd X.1 X.2.1 dL_follow_350 ?_
            refine r_eqi (show (((40 : Int32) + (nI j)) : Int32) = nI (40 + j) from nI_add 40 j) ?_
            refine r_iald X hW.1 f_32 (show vp_in ((nI (40 + j))) 48 from vp_in_nI (n := (40 + j)) (by omega) (by decide)) dL_follow_351 ?_
            refine r_eqi (show ((g (nI (40 + j)).toNatClampNeg) : Int32) = nI (R j 3) from by rw [nI_clamp (by omega)]; exact (hg.2 j hj).2.2.2.2.2.2) ?_
            refine lv_istore (lv' := [(6, .int (nI (R j 3))), (5, .int (nI (R j 1))), (4, .int (nI (R j 2))), (8, .int 0), (7, .int (nI (k + 1))), (10, .int (nI j)), (9, .int (nI (hd (k % 2)))), (0, .ref b6), (1, .ref ra), (2, .int (nI n)), (3, .ref ca)]) X.1 X.2.1 dL_follow_352 hl (by decide) rfl (fun ls hl => ?_)
            refine lv_goto (tgt := 385) X.1 X.2.1 dL_follow_354 (by decide) ?_
            refine lv_goto (tgt := 16) X.1 X.2.1 dL_follow_385 (by decide) ?_
            exact ih (k + 1) cs1 (upd (upd (upd (upd gc (nI (4 * k)).toNatClampNeg (cs k 2)) (nI ((4 * k) + 1)).toNatClampNeg (cs k 4)) (nI ((4 * k) + 2)).toNatClampNeg (cs k 3)) (nI ((4 * k) + 3)).toNatClampNeg (nI j)) _ _ _ hW hC f_32 f_31 (by omega) (ov_n (by rw [e0]; exact c_259) k_266) (cg_step h2 hk12 e1 e2 e3 e4 el) (fun i hi => by rcases (show i < k ∨ i = k by omega) with q | q; (rw [el i q]; exact h3 i q); (rw [q, e1, e2, e3, e4]; exact hq)) ls (by rw [n2, n3, n4, if_neg k_259, if_neg k_259, if_neg k_259]; exact (lv_sub hl [7, 8, 9, 10, 2, 1, 0, 4, 3] rfl))
          · have k_266 := k_eq (a := (k + 1)) (b := 12) (by omega) (by omega) c_266
            have hov : ovB (k + 1) cs1 false = true := ov_y1 k_266
            refine lv_iconst (v := 1) X.1 X.2.1 dL_follow_269 (by decide) ?_
            refine lv_goto (tgt := 274) X.1 X.2.1 dL_follow_270 (by decide) ?_
            refine lv_istore (lv' := [(8, .int 1), (7, .int (nI (k + 1))), (10, .int (nI j)), (9, .int (nI (hd (k % 2)))), (0, .ref b6), (1, .ref ra), (2, .int (nI n)), (3, .ref ca), (4, .int (cs k 2)), (5, .int (cs k 4)), (6, .int (cs k 3))]) X.1 X.2.1 dL_follow_274 hl (by decide) rfl (fun ls hl => ?_)
            refine lv_aload_n X.1 X.2.1 dL_follow_276 rfl (lv_at hl 5 rfl) ?_
            refine lv_bipush (v := 8) X.1 X.2.1 dL_follow_277 (by decide) ?_
            refine lv_iload X.1 X.2.1 dL_follow_279 (lv_at hl 2 rfl) ?_
            refine lv_iadd X.1 X.2.1 dL_follow_281 ?_
            refine r_eqi (show (((8 : Int32) + (nI j)) : Int32) = nI (8 + j) from nI_add 8 j) ?_
            refine r_iald X hW.1 f_32 (show vp_in ((nI (8 + j))) 48 from vp_in_nI (n := (8 + j)) (by omega) (by decide)) dL_follow_282 ?_
            refine r_eqi (show ((g (nI (8 + j)).toNatClampNeg) : Int32) = nI (R j 1) from by rw [nI_clamp (by omega)]; exact (hg.2 j hj).2.2.1) ?_
            refine lv_bipush (v := 25) X.1 X.2.1 dL_follow_283 (by decide) ?_
            refine lv_icmp_ne (tgt := 293) X.1 X.2.1 dL_follow_285 (by decide) (fun c_285 => ?_) (fun c_285 => absurd c_285 c_259)
            refine lv_aload_n X.1 X.2.1 dL_follow_293 rfl (lv_at hl 5 rfl) ?_
            refine lv_bipush (v := 32) X.1 X.2.1 dL_follow_294 (by decide) ?_
            refine lv_iload X.1 X.2.1 dL_follow_296 (lv_at hl 2 rfl) ?_
            refine lv_iadd X.1 X.2.1 dL_follow_298 ?_
            refine r_eqi (show (((32 : Int32) + (nI j)) : Int32) = nI (32 + j) from nI_add 32 j) ?_
            refine r_iald X hW.1 f_32 (show vp_in ((nI (32 + j))) 48 from vp_in_nI (n := (32 + j)) (by omega) (by decide)) dL_follow_299 ?_
            refine r_eqi (show ((g (nI (32 + j)).toNatClampNeg) : Int32) = nI (R j 2) from by rw [nI_clamp (by omega)]; exact (hg.2 j hj).2.2.2.2.2.1) ?_
            refine lv_istore (lv' := [(4, .int (nI (R j 2))), (8, .int 1), (7, .int (nI (k + 1))), (10, .int (nI j)), (9, .int (nI (hd (k % 2)))), (0, .ref b6), (1, .ref ra), (2, .int (nI n)), (3, .ref ca), (5, .int (cs k 4)), (6, .int (cs k 3))]) X.1 X.2.1 dL_follow_300 hl (by decide) rfl (fun ls hl => ?_)
            refine lv_aload_n X.1 X.2.1 dL_follow_302 rfl (lv_at hl 6 rfl) ?_
            refine lv_bipush (v := 8) X.1 X.2.1 dL_follow_303 (by decide) ?_
            refine lv_iload X.1 X.2.1 dL_follow_305 (lv_at hl 3 rfl) ?_
            refine lv_iadd X.1 X.2.1 dL_follow_307 ?_
            refine r_eqi (show (((8 : Int32) + (nI j)) : Int32) = nI (8 + j) from nI_add 8 j) ?_
            refine r_iald X hW.1 f_32 (show vp_in ((nI (8 + j))) 48 from vp_in_nI (n := (8 + j)) (by omega) (by decide)) dL_follow_308 ?_
            refine r_eqi (show ((g (nI (8 + j)).toNatClampNeg) : Int32) = nI (R j 1) from by rw [nI_clamp (by omega)]; exact (hg.2 j hj).2.2.1) ?_
            refine lv_bipush (v := 25) X.1 X.2.1 dL_follow_309 (by decide) ?_
            refine lv_icmp_ne (tgt := 319) X.1 X.2.1 dL_follow_311 (by decide) (fun c_311 => ?_) (fun c_311 => absurd c_311 c_259)
            refine lv_aload_n X.1 X.2.1 dL_follow_319 rfl (lv_at hl 6 rfl) ?_
            refine lv_bipush (v := 8) X.1 X.2.1 dL_follow_320 (by decide) ?_
            refine lv_iload X.1 X.2.1 dL_follow_322 (lv_at hl 3 rfl) ?_
            refine lv_iadd X.1 X.2.1 dL_follow_324 ?_
            refine r_eqi (show (((8 : Int32) + (nI j)) : Int32) = nI (8 + j) from nI_add 8 j) ?_
            refine r_iald X hW.1 f_32 (show vp_in ((nI (8 + j))) 48 from vp_in_nI (n := (8 + j)) (by omega) (by decide)) dL_follow_325 ?_
            refine r_eqi (show ((g (nI (8 + j)).toNatClampNeg) : Int32) = nI (R j 1) from by rw [nI_clamp (by omega)]; exact (hg.2 j hj).2.2.1) ?_
            refine lv_istore (lv' := [(5, .int (nI (R j 1))), (4, .int (nI (R j 2))), (8, .int 1), (7, .int (nI (k + 1))), (10, .int (nI j)), (9, .int (nI (hd (k % 2)))), (0, .ref b6), (1, .ref ra), (2, .int (nI n)), (3, .ref ca), (6, .int (cs k 3))]) X.1 X.2.1 dL_follow_326 hl (by decide) rfl (fun ls hl => ?_)
            refine lv_aload_n X.1 X.2.1 dL_follow_328 rfl (lv_at hl 7 rfl) ?_
            refine lv_bipush (v := 8) X.1 X.2.1 dL_follow_329 (by decide) ?_
            refine lv_iload X.1 X.2.1 dL_follow_331 (lv_at hl 4 rfl) ?_
            refine lv_iadd X.1 X.2.1 dL_follow_333 ?_
            refine r_eqi (show (((8 : Int32) + (nI j)) : Int32) = nI (8 + j) from nI_add 8 j) ?_
            refine r_iald X hW.1 f_32 (show vp_in ((nI (8 + j))) 48 from vp_in_nI (n := (8 + j)) (by omega) (by decide)) dL_follow_334 ?_
            refine r_eqi (show ((g (nI (8 + j)).toNatClampNeg) : Int32) = nI (R j 1) from by rw [nI_clamp (by omega)]; exact (hg.2 j hj).2.2.1) ?_
            refine lv_bipush (v := 25) X.1 X.2.1 dL_follow_335 (by decide) ?_
            refine lv_icmp_ne (tgt := 345) X.1 X.2.1 dL_follow_337 (by decide) (fun c_337 => ?_) (fun c_337 => absurd c_337 c_259)
            refine lv_aload_n X.1 X.2.1 dL_follow_345 rfl (lv_at hl 7 rfl) ?_
            refine lv_bipush (v := 40) X.1 X.2.1 dL_follow_346 (by decide) ?_
            refine lv_iload X.1 X.2.1 dL_follow_348 (lv_at hl 4 rfl) ?_
            refine lv_iadd X.1 X.2.1 dL_follow_350 ?_
            refine r_eqi (show (((40 : Int32) + (nI j)) : Int32) = nI (40 + j) from nI_add 40 j) ?_
            refine r_iald X hW.1 f_32 (show vp_in ((nI (40 + j))) 48 from vp_in_nI (n := (40 + j)) (by omega) (by decide)) dL_follow_351 ?_
            refine r_eqi (show ((g (nI (40 + j)).toNatClampNeg) : Int32) = nI (R j 3) from by rw [nI_clamp (by omega)]; exact (hg.2 j hj).2.2.2.2.2.2) ?_
            refine lv_istore (lv' := [(6, .int (nI (R j 3))), (5, .int (nI (R j 1))), (4, .int (nI (R j 2))), (8, .int 1), (7, .int (nI (k + 1))), (10, .int (nI j)), (9, .int (nI (hd (k % 2)))), (0, .ref b6), (1, .ref ra), (2, .int (nI n)), (3, .ref ca)]) X.1 X.2.1 dL_follow_352 hl (by decide) rfl (fun ls hl => ?_)
            refine lv_goto (tgt := 385) X.1 X.2.1 dL_follow_354 (by decide) ?_
            refine lv_goto (tgt := 16) X.1 X.2.1 dL_follow_385 (by decide) ?_
            refine lv_iload X.1 X.2.1 dL_follow_16 (lv_at hl 3 rfl) ?_
            refine lv_if_ne (tgt := 388) X.1 X.2.1 dL_follow_18 (by decide) (fun c_18 => ?_) (fun c_18 => absurd c_18 (by decide))
            refine lv_aload_n X.1 X.2.1 dL_follow_388 rfl (lv_at hl 7 rfl) ?_
            refine lv_iconst (v := 5) X.1 X.2.1 dL_follow_389 (by decide) ?_
            refine lc_ri (z := (n, R, hd, (k + 1), cs1, false, pn, pt)) (As := [.int 5]) (rest := []) X hW.1 hW.2.2 hC (fun hp9 hz9 => c_X6_state l G hp9 b6 n R hd (k + 1) cs1 false pn pt hz9 (5 : Int32)) mf_X6_state tw_248 tw_249 tw_250 ⟨rfl, rfl, Nat.le_of_ble_eq_true rfl, Nat.le_of_ble_eq_true rfl⟩ hl.1 rfl rfl (Nat.le_of_ble_eq_true rfl) ⟨(by show _ ≤ 42; omega), (by show _ ≤ 560; omega)⟩ dL_follow_390 ?_
            refine r_eqi (show ((fState n (k + 1) cs1 false pn (5 : Int32)) : Int32) = 1 from by rw [fs_5, hov]; rfl) ?_
            refine lv_if_eq (tgt := 415) X.1 X.2.1 dL_follow_393 (by decide) (fun c_393 => absurd c_393 (by decide)) (fun c_393 => ?_)
            refine lv_aload_n X.1 X.2.1 dL_follow_396 rfl (lv_at hl 7 rfl) ?_
            refine lc_wi (z := (n, R, hd, (k + 1), cs1, false, pn, pt)) (As := []) (rest := []) X hA hW hC (fun r hp1 h => h) (fun A9 hp9 hA9 hO9 hz9 => c_X6_call l G A9 hp9 _ hA9 hO9 b6 n R hd (k + 1) cs1 false pn pt hz9 ) mf_X6_call tw_483 tw_484 tw_485 ⟨rfl, rfl, Nat.le_of_ble_eq_true rfl, Nat.le_of_ble_eq_true rfl⟩ hl.1 rfl rfl (Nat.le_of_ble_eq_true rfl) ⟨(by show _ ≤ 42; omega), (by show _ ≤ 560; omega)⟩ dL_follow_397 (fun hp_36 H locs hW hC hK => ?_)
            refine w_wid (k' := 42) (n' := 560) (by omega) (by omega) ?_
            have f_37 : hp_36 ra = some (.inl (G.2.1 1, 48, .inl g)) := (hK ra (by simp)).trans f_32
            have f_38 : hp_36 ca = some (.inl (G.2.1 1, 52, .inl (upd (upd (upd (upd gc (nI (4 * k)).toNatClampNeg (cs k 2)) (nI ((4 * k) + 1)).toNatClampNeg (cs k 4)) (nI ((4 * k) + 2)).toNatClampNeg (cs k 3)) (nI ((4 * k) + 3)).toNatClampNeg (nI j)))) := (hK ca (by simp)).trans f_31
            obtain ⟨hf8, hg8⟩ := gc_o (n := n) (R := R) (hd := hd) (k := (k + 1)) (cs := cs1) (sk := false) (pn := pn) (pt := pt) hov
            rw [hg8] at hC
            refine r_eqi (show ((fCall (n, R, hd, (k + 1), cs1, false, pn, pt)) : Int32) = (-5) from hf8) ?_
            refine lv_bipush (v := (-5)) X.1 X.2.1 dL_follow_400 (by decide) ?_
            refine lv_icmp_ne (tgt := 415) X.1 X.2.1 dL_follow_402 (by decide) (fun c_402 => absurd rfl c_402) (fun c_402 => ?_)
            refine lv_aload_n X.1 X.2.1 dL_follow_405 rfl (lv_at hl 7 rfl) ?_
            refine lv_iconst (v := 0) X.1 X.2.1 dL_follow_406 (by decide) ?_
            refine lc_ri (z := (n, R, hd, (k + 1), cs1, false, pn, pt)) (As := [.int 0]) (rest := []) X hW.1 hW.2.2 hC (fun hp9 hz9 => c_X6_state l G hp9 b6 n R hd (k + 1) cs1 false pn pt hz9 (0 : Int32)) mf_X6_state tw_248 tw_249 tw_250 ⟨rfl, rfl, Nat.le_of_ble_eq_true rfl, Nat.le_of_ble_eq_true rfl⟩ hl.1 rfl rfl (Nat.le_of_ble_eq_true rfl) ⟨Nat.le_of_ble_eq_true rfl, Nat.le_of_ble_eq_true rfl⟩ dL_follow_407 ?_
            refine r_eqi (show ((fState n (k + 1) cs1 false pn (0 : Int32)) : Int32) = nI (k + 1) from fs_0) ?_
            refine lv_iload X.1 X.2.1 dL_follow_410 (lv_at hl 4 rfl) ?_
            refine lv_icmp_eq (tgt := 419) X.1 X.2.1 dL_follow_412 (by decide) (fun c_412 => ?_) (fun c_412 => absurd rfl c_412)
            refine lv_iload X.1 X.2.1 dL_follow_419 (lv_at hl 4 rfl) ?_
            exact wr_i X hr hlk hW ⟨k + 1, cs1, false, _, rfl, hC, f_37, f_38, cg_step h2 hk12 e1 e2 e3 e4 el, (fun i hi => by rcases (show i < k ∨ i = k by omega) with q | q; (rw [el i q]; exact h3 i q); (rw [q, e1, e2, e3, e4]; exact hq)), fun q => by cases q⟩ (Nat.le_of_ble_eq_true rfl) (Nat.le_of_ble_eq_true rfl) dL_follow_421
  exact w_wid (by omega) (by omega) (L16 12 0 cs0 g0 _ _ _ hW hC hra hca rfl rfl ⟨by omega, fun i hi => absurd hi (by omega), fun q => by cases q⟩ (fun i hi => absurd hi (by omega)) ls (lv_sub hl [5, 6, 7, 8, 4, 3, 2, 1, 0] rfl))

