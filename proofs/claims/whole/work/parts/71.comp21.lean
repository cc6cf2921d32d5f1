/-! the component's writers over the rules -/
theorem RU.ls {G : HG} {hp : HP} {rl eR cR n : Nat} {mR : Int32} {gR : Nat → Option Nat} {RA : Nat → Nat} {R : Nat → Nat → Nat} (h : RU G hp rl eR cR mR gR RA n R) : LSq G hp rl eR n cR mR gR := ⟨h.1, h.2.1, h.2.2.2.1, h.2.2.2.2.1⟩
theorem RU.els {G : HG} {hp : HP} {rl eR cR n : Nat} {mR : Int32} {gR : Nat → Option Nat} {RA : Nat → Nat} {R : Nat → Nat → Nat} (h : RU G hp rl eR cR mR gR RA n R) : isEls hp gR 0 n := by
  refine ⟨5, Or.inr rfl, fun i hi y hy => ?_⟩
  rw [Nat.zero_add, (h.2.2.2.2.2.1 i hi).1] at hy
  cases hy
  exact ⟨_, (h.2.2.2.2.2.1 i hi).2⟩
theorem LFq.rc {G : HG} {hp hp1 : HP} {b9 ea n9 cap : Nat} {mc : Int32} {f9 : Nat → Option Nat} (hL : LSq G hp b9 ea n9 cap mc f9) (hF : LFq hp hp1 b9 ea cap) {q : Nat} {w : Nat → Nat} (hq : hp q = some (rcE w)) : hp1 q = some (rcE w) := hF _ _ hq (ne_look hq hL.1 (by simp [rcE, alE])) (fun z => ne_look hq (hL.2.1.1 z) (by simp [rcE]))
theorem cz_rl {G : HG} {hp hp1 : HP} {b6 rl au pa e0 e1 eR cR : Nat} {mR : Int32} {gR : Nat → Option Nat} {RA : Nat → Nat} {al p0 pw eA cA : Nat} {mA : Int32} {gA : Nat → Option Nat} {CA QA : Nat → Nat} {vb cv : Nat} {ml : Bool} {fb : Nat → Int32} {n : Nat} {R : Nat → Nat → Nat} {hd : Nat → Nat} {k : Nat} {cs : Nat → Nat → Int32} {sk : Bool} {pn : Nat} {pt : Nat → Nat} {eR1 cR1 n1 : Nat} {mR1 : Int32} {g1 : Nat → Option Nat} {RA1 : Nat → Nat} {R1 : Nat → Nat → Nat} (h : CC G hp b6 rl au pa e0 e1 eR cR mR gR RA al p0 pw eA cA mA gA CA QA vb cv ml fb (n, R, hd, k, cs, sk, pn, pt)) (hF : LFq hp hp1 rl eR cR) (hL : LSq G hp1 rl eR1 n1 cR1 mR1 g1) (hn : n1 ≤ 24) (hr : ∀ i, i < n1 → g1 i = some (RA1 i) ∧ hp1 (RA1 i) = some (rcE (R1 i))) (hb : ∀ i j, i < n1 → j < 14 → R1 i j ≤ 25) (he : (eR1 = eR ∧ cR1 = cR) ∨ hp eR1 = none) (hi : ∀ i j, i < n1 → j < n1 → RA1 i = RA1 j → i = j) (hu : UQ n1 R1) : CC G hp1 b6 rl au pa e0 e1 eR1 cR1 mR1 g1 RA1 al p0 pw eA cA mA gA CA QA vb cv ml fb (n1, R1, hd, k, cs, sk, pn, pt) := by
  obtain ⟨hb6, hU6, hU9, hSB, hHD, hDJ, huq⟩ := h
  have hLr := hU6.ls
  have kp : ∀ q e, hp q = some e → (∀ v, e ≠ .inr (1, v)) → (∀ c f, e ≠ arQ G c f) → hp1 q = some e := fun q e h0 h1 h2 => hF q e h0 (ne_look h0 hLr.1 (by unfold alE; exact h1 _)) (fun z => ne_look h0 (hLr.2.1.1 z) (h2 _ _))
  refine ⟨kp _ _ hb6 (by simp [obE]) (by simp [obE, arQ]), ⟨hL.1, hL.2.1, hn, hL.2.2.1, hL.2.2.2, hr, hb⟩, ⟨kp _ _ hU9.1 (by simp [auE]) (by simp [auE, arQ]), hF _ _ hU9.2.1 (Ne.symm hDJ.1) (fun z => ne_look hU9.2.1 (hLr.2.1.1 z) (by simp [alE, arQ])), ⟨fun z => hF _ _ (hU9.2.2.1.1 z) (ne_look (hU9.2.2.1.1 z) hLr.1 (by simp [alE])) (fun y => Ne.symm (hDJ.2.1 y z)), hU9.2.2.1.2⟩, hU9.2.2.2.1, hU9.2.2.2.2.1, hU9.2.2.2.2.2.1, fun i hi => ?_, kp _ _ hU9.2.2.2.2.2.2.2.1 (by simp [poE]) (by simp [poE, arQ]), kp _ _ hU9.2.2.2.2.2.2.2.2 (by simp [poE]) (by simp [poE, arQ])⟩, hSB.fr (fun e he => kp _ _ he (fun v q => by rw [hSB.1] at he; cases he; simp at q) (fun c f q => by rw [hSB.1] at he; cases he; simp [arQ] at q)) (fun e he => kp _ _ he (fun v q => by rw [hSB.2.1] at he; cases he; simp at q) (fun c f q => by rw [hSB.2.1] at he; cases he; simp [arQ] at q)), hHD, ⟨hDJ.1, fun z1 z2 => ?_, hi⟩, hu⟩
  · obtain ⟨h1, h2, h3⟩ := hU9.2.2.2.2.2.2.1 i hi
    exact ⟨h1, kp _ _ h2 (by simp [mcE]) (by simp [mcE, arQ]), kp _ _ h3 (by simp [poE]) (by simp [poE, arQ])⟩
  · rcases he with ⟨rfl, rfl⟩ | he
    · exact hDJ.2.1 z1 z2
    · exact Ne.symm (ne_none (hU9.2.2.1.1 z2) he)
theorem uq_comp {n m : Nat} {R : Nat → Nat → Nat} {σ : Nat → Nat} (h : UQ n R) (hs : ∀ i, i < m → σ i < n) (hi : ∀ i j, i < m → j < m → σ i = σ j → i = j) : UQ m (fun i => R (σ i)) := fun i j a b c d => hi i j a b (h (σ i) (σ j) (hs i a) (hs j b) c d)
theorem rm_s (R : Nat → Nat → Nat) (r : Nat) : rmR R r = fun i => R (if i < r then i else i + 1) := by
  funext i
  unfold rmR
  by_cases c : i < r
  · rw [if_pos c, if_pos c]
  · rw [if_neg c, if_neg c]
def mvS (a b i : Nat) : Nat := if i < b then (if i < a then i else i + 1) else if i = b then a else (if i - 1 < a then i - 1 else i)
theorem mv_s (R : Nat → Nat → Nat) (a b : Nat) : mvR R a b = fun i => R (mvS a b i) := by
  funext i
  unfold mvR insR mvS
  rw [rm_s]
  by_cases c : i < b
  · rw [if_pos c, if_pos c]
  · rw [if_neg c, if_neg c]
    by_cases d : i = b
    · rw [if_pos d, if_pos d]
    · rw [if_neg d, if_neg d]
      by_cases e : i - 1 < a
      · simp only [if_pos e]
      · simp only [if_neg e]
        exact congrArg R (by omega)
theorem mvS_lt {n a b i : Nat} (ha : a < n) (hb : b < n) (hi : i < n) : mvS a b i < n := by
  unfold mvS
  repeat' split
  all_goals omega
theorem mvS_in {n a b i j : Nat} (ha : a < n) (hb : b < n) (hi : i < n) (hj : j < n) (e : mvS a b i = mvS a b j) : i = j := by
  unfold mvS at e
  repeat' split at e
  all_goals omega
theorem uq_add {n : Nat} {R : Nat → Nat → Nat} {q : Nat → Nat} (h : UQ n R) (hb : ∀ i j, i < n → j < 14 → R i j ≤ 25) (hq : ∀ j, j < 14 → q j ≤ 25) (hno : anF (thB R (nI (q 0)) (nI (q 1))) n 0 = false) : UQ (n + 1) (addR R n q) := by
  have key : ∀ f r, anF (thB R (nI (q 0)) (nI (q 1))) f r = false → ∀ i, r ≤ i → i < r + f → ¬ (R i 0 = q 0 ∧ R i 1 = q 1) := by
    intro f
    induction f with
    | zero => intro r _ i h1 h2; omega
    | succ f ih =>
      intro r hr i h1 h2
      unfold anF at hr
      rw [Bool.or_eq_false_iff] at hr
      by_cases c : i = r
      · intro z
        have := hr.1
        unfold thB at this
        rw [← c, z.1, z.2, decide_eq_true rfl, decide_eq_true rfl] at this
        cases this
      · exact ih (r + 1) hr.2 i (by omega) (by omega)
  have k := key n 0 hno
  intro i j hi hj e0 e1
  unfold addR at e0 e1
  by_cases c : i = n
  · by_cases d : j = n
    · omega
    · rw [if_pos c, if_neg d] at e0 e1
      exact absurd ⟨e0.symm, e1.symm⟩ (k j (Nat.zero_le _) (by omega))
  · by_cases d : j = n
    · rw [if_neg c, if_pos d] at e0 e1
      exact absurd ⟨e0, e1⟩ (k i (Nat.zero_le _) (by omega))
    · rw [if_neg c, if_neg d] at e0 e1
      exact h i j (by omega) (by omega) e0 e1
set_option maxHeartbeats 4000000 in
set_option maxRecDepth 100000 in
theorem c_X6_remove (l : Launch) (G : HG) (A : Nat → Prop) (hp : HP) (sz : Nat) (hA : ∀ q, sz ≤ q → A q) (hO : Ow A hp) (b6 : Nat) (n : Nat) (R : Nat → Nat → Nat) (hd : Nat → Nat) (k : Nat) (cs : Nat → Nat → Int32) (sk : Bool) (pn : Nat) (pt : Nat → Nat) (hz : CZ G hp b6 (n, R, hd, k, cs, sk, pn, pt)) (a : Int32) : Met l yX6_remove [.code yX6_remove cX6_remove 2 (some .int)] { frames := 3, cells := 0, slots := 0, locals := 86 } (va_Pc [.ref b6, .int a] (WP G A sz hp)) (va_Qi (fun r hp1 => r = fRemove (n, R, hd, k, cs, sk, pn, pt) a ∧ CZ G hp1 b6 (gRemove (n, R, hd, k, cs, sk, pn, pt) a)) (WB G A) A) 0 0 A := by
  refine wr_ofW (by decide) (Nat.le_of_ble_eq_true rfl) hO ?_
  intro p e s m args below meth c ls X hr hlk hnm hsz hW hl
  have hA : ∀ q, s.heap.size ≤ q → A q := fun q h => hA q (by omega)
  have hl : lv_has ls 2 [(0, .ref b6), (1, .int a)] := hl
  obtain ⟨rl, au, pa, e0, e1, eR, cR, mR, gR, RA, al, p0, pw, eA, cA, mA, gA, CA, QA, vb, cv, ml, fb, hb6, hU6, hU9, hSB, hHD, hDJ, huq⟩ := hz
  have hCC : CC G hp b6 rl au pa e0 e1 eR cR mR gR RA al p0 pw eA cA mA gA CA QA vb cv ml fb (n, R, hd, k, cs, sk, pn, pt) := ⟨hb6, hU6, hU9, hSB, hHD, hDJ, huq⟩
  replace hb6 : hp b6 = some (obE rl au pa e0 e1) := hb6
  replace hU6 : RU G hp rl eR cR mR gR RA n R := hU6
  replace hU9 : AU G hp au al p0 pw eA cA mA gA CA QA k cs sk := hU9
  replace hSB : SBp G hp pa vb cv ml fb pn pt := hSB
  have hn : n ≤ 24 := hU6.2.2.1
  have hk : k ≤ 12 := hU9.2.2.2.1
  have hpn := hSB.2.2.1
  have hd0 : hd 0 = e0 := hHD.1.1
  have hd1 : hd 1 = e1 := hHD.1.2
  have hhd : ∀ i, i < 2 → hd i ≤ 1048575 ∧ strH (hd i) ≤ 20 := hHD.2
  have g_1 : hp b6 = some (.inr (7, [.ref rl, .ref au, .ref pa, .int (nI e0), .int (nI e1)])) := hb6
  have g_2 : hp rl = some (.inr (1, [.int mR, .ref eR, .int (nI n)])) := hU6.1
  have g_3 : hp au = some (.inr (2, [.ref al, .ref p0, .ref pw, .int (bI sk)])) := hU9.1
  have g_4 : hp al = some (.inr (1, [.int mA, .ref eA, .int (nI k)])) := hU9.2.1
  have g_5 : hp pw = some (.inr (4, [.int (cs k 2), .int (cs k 4), .int (cs k 3)])) := hU9.2.2.2.2.2.2.2.1
  have g_6 : hp pa = some (.inr (0, [.ref vb, .int 0, .int (bI ml), .int (nI pn)])) := hSB.1
  have g_7 : hp vb = some (.inl (G.2.1 0, cv, .inl fb)) := hSB.2.1
  have hau0 := g_3
  refine lv_aload_n X.1 X.2.1 dX6_remove_0 rfl (lv_at hl 0 rfl) ?_
  refine lv_iload_n X.1 X.2.1 dX6_remove_1 rfl (lv_at hl 1 rfl) ?_
  refine on_Si (run_V (C := RX6) (As := [.int a]) (rest := []) X (c_X6_isRule l G hp b6 rl au pa e0 e1 g_1 eR mR n hn g_2 a) (rp_blind _) (rp_at X hW.1 hW.2.2) (recv X hW.1 g_1 (C := RX6) (T := TX6) (N := 5) rfl) mf_X6_isRule tw_346 tw_348 tw_4 ⟨rfl, rfl, Nat.le_of_ble_eq_true rfl, Nat.le_of_ble_eq_true rfl⟩ hl.1 rfl rfl (Nat.le_of_ble_eq_true rfl) ⟨Nat.le_of_ble_eq_true rfl, Nat.le_of_ble_eq_true rfl⟩ dX6_remove_2) (fun r_2 q_2 => ?_)
  obtain rfl : r_2 = (inI a 0 ((n : Int) - 1)) := q_2
  refine lv_if_ne (tgt := 10) X.1 X.2.1 dX6_remove_5 (by decide) (fun c_5 => ?_) (fun c_5 => ?_)
  · obtain ⟨xa, hxa, rfl⟩ := ru_nat hn c_5
    refine lv_aload_n X.1 X.2.1 dX6_remove_10 rfl (lv_at hl 0 rfl) ?_
    refine r_get X hW.1 g_1 (v := .ref rl) (C := RX6) (T := TX6) (N := 5) rfl tin_X6 0 (by decide) tw_192 (fun _ h => h) rfl dX6_remove_11 ?_
    refine lv_iload_n X.1 X.2.1 dX6_remove_14 rfl (lv_at hl 1 rfl) ?_
    have hLr := hU6.ls
    refine on_Wq (k' := 0) (n' := 0) (run_V (C := RJx4a65c) (As := [.int (nI xa)]) (rest := []) X (c_Jx4a65c_remove_915e3 l G A hp _ (fun q h => hA q (Nat.le_trans hW.2.2.1 h)) hW.2.1 rl eR n cR mR gR hLr hU6.els xa hxa (RA xa) (hU6.2.2.2.2.2.1 xa hxa).1) (wp_blind _) (wp_at X hW.1 hW.2.2) (recv X hW.1 g_2 (C := RJx4a65c) (T := TJx4a65c) (N := 3) rfl) mf_Jx4a65c_remove_915e3 tw_393 tw_394 tw_395 ⟨rfl, rfl, Nat.le_of_ble_eq_true rfl, Nat.le_of_ble_eq_true rfl⟩ hl.1 rfl rfl (Nat.le_of_ble_eq_true rfl) ⟨Nat.le_of_ble_eq_true rfl, Nat.le_of_ble_eq_true rfl⟩ dX6_remove_15) hW (by omega) (by omega) (fun r_15 hp_8 H locs q_15 hW => ?_)
    obtain ⟨rfl, mR1, gR1, hL1, hg1, hF1⟩ := q_15
    refine W.eq (g2 := F0 m 18 ls [.ref (RA xa)]) rfl ?_
    have f_9 : hp_8 b6 = some (.inr (7, [.ref rl, .ref au, .ref pa, .int (nI e0), .int (nI e1)])) := hF1 _ _ g_1 (ne_look g_1 hLr.1 (by simp [alE])) (fun z => ne_look g_1 (hLr.2.1.1 z) (by simp [arQ]))
    have f_10 : hp_8 au = some (.inr (2, [.ref al, .ref p0, .ref pw, .int (bI sk)])) := hF1 _ _ g_3 (ne_look g_3 hLr.1 (by simp [alE])) (fun z => ne_look g_3 (hLr.2.1.1 z) (by simp [arQ]))
    have f_11 : hp_8 al = some (.inr (1, [.int mA, .ref eA, .int (nI k)])) := hF1 _ _ g_4 (Ne.symm hDJ.1) (fun z => ne_look g_4 (hLr.2.1.1 z) (by simp [arQ]))
    have f_12 : hp_8 pw = some (.inr (4, [.int (cs k 2), .int (cs k 4), .int (cs k 3)])) := hF1 _ _ g_5 (ne_look g_5 hLr.1 (by simp [alE])) (fun z => ne_look g_5 (hLr.2.1.1 z) (by simp [arQ]))
    have f_13 : hp_8 pa = some (.inr (0, [.ref vb, .int 0, .int (bI ml), .int (nI pn)])) := hF1 _ _ g_6 (ne_look g_6 hLr.1 (by simp [alE])) (fun z => ne_look g_6 (hLr.2.1.1 z) (by simp [arQ]))
    have f_14 : hp_8 vb = some (.inl (G.2.1 0, cv, .inl fb)) := hF1 _ _ g_7 (ne_look g_7 hLr.1 (by simp [alE])) (fun z => ne_look g_7 (hLr.2.1.1 z) (by simp [arQ]))
    have g_15 : hp_8 rl = some (.inr (1, [.int mR1, .ref eR, .int (nI (n - 1))])) := hL1.1
    have hC1 : CC G _ b6 rl au pa e0 e1 eR cR mR1 gR1 (fun i => RA (if i < xa then i else i + 1)) al p0 pw eA cA mA gA CA QA vb cv ml fb (n - 1, rmR R xa, hd, k, cs, sk, pn, pt) := cz_rl hCC hF1 hL1 (by omega) (fun i hi => by rw [hg1 i hi, rm_s]; have z9 := hU6.2.2.2.2.2.1 (if i < xa then i else i + 1) (by split <;> omega); exact ⟨z9.1, LFq.rc hLr hF1 z9.2⟩) (fun i j hi hj => by rw [rm_s]; exact hU6.2.2.2.2.2.2 (if i < xa then i else i + 1) j (by split <;> omega) hj) (Or.inl ⟨rfl, rfl⟩) (fun i j hi hj e9 => by have z9 := hDJ.2.2 _ _ (show (if i < xa then i else i + 1) < n by split <;> omega) (show (if j < xa then j else j + 1) < n by split <;> omega) e9; revert z9; split <;> split <;> omega) (by rw [rm_s]; exact uq_comp huq (fun i hi => by split <;> omega) (fun i j hi hj e9 => by revert e9; split <;> split <;> omega))
    refine lv_pop X.1 X.2.1 dX6_remove_18 rfl ?_
    refine lv_aload_n X.1 X.2.1 dX6_remove_19 rfl (lv_at hl 0 rfl) ?_
    refine r_get X hW.1 f_9 (v := .ref au) (C := RX6) (T := TX6) (N := 5) rfl tin_X6 1 (by decide) tw_193 (fun _ h => h) rfl dX6_remove_20 ?_
    refine on_Wv (k' := 0) (n' := 0) (run_V (C := RX0) (As := []) (rest := []) X (c_X0_restart l G A hp_8 _ (fun q h => hA q (Nat.le_trans hW.2.2.1 h)) hW.2.1 au al p0 pw eA cA mA gA CA QA k cs sk hC1.2.2.1) (wp_blind _) (wp_at X hW.1 hW.2.2) (recv X hW.1 f_10 (C := RX0) (T := TX0) (N := 4) rfl) mf_X0_restart tw_334 tw_335 tw_336 ⟨rfl, rfl, Nat.le_of_ble_eq_true rfl, Nat.le_of_ble_eq_true rfl⟩ hl.1 rfl rfl (Nat.le_of_ble_eq_true rfl) ⟨Nat.le_of_ble_eq_true rfl, Nat.le_of_ble_eq_true rfl⟩ dX6_remove_23) hW (by omega) (by omega) (fun hp_16 H locs q_23 hW => ?_)
    obtain ⟨mA1, g1, hA1, hK1⟩ := q_23
    have g_17 : hp_16 b6 = some (.inr (7, [.ref rl, .ref au, .ref pa, .int (nI e0), .int (nI e1)])) := ob_af hC1.1 hC1.2.2.1 hK1
    have hU1 := hC1.2.1.af hC1.2.2.1 hK1 hC1.2.2.2.2.2.1.1 hC1.2.2.2.2.2.1.2.1
    have g_18 : hp_16 rl = some (.inr (1, [.int mR1, .ref eR, .int (nI (n - 1))])) := hU1.1
    refine lv_aload_n X.1 X.2.1 dX6_remove_26 rfl (lv_at hl 0 rfl) ?_
    refine r_get X hW.1 g_17 (v := .ref rl) (C := RX6) (T := TX6) (N := 5) rfl tin_X6 0 (by decide) tw_192 (fun _ h => h) rfl dX6_remove_27 ?_
    refine on_Si (run_V (C := RJx4a65c) (As := []) (rest := []) X (c_Jx4a65c_size_8abf5 l G hp_16 rl eR (n - 1) mR1 g_18) (rp_blind _) (rp_at X hW.1 hW.2.2) (recv X hW.1 g_18 (C := RJx4a65c) (T := TJx4a65c) (N := 3) rfl) mf_Jx4a65c_size_8abf5 tw_260 tw_261 tw_262 ⟨rfl, rfl, Nat.le_of_ble_eq_true rfl, Nat.le_of_ble_eq_true rfl⟩ hl.1 rfl rfl (Nat.le_of_ble_eq_true rfl) ⟨Nat.le_of_ble_eq_true rfl, Nat.le_of_ble_eq_true rfl⟩ dX6_remove_30) (fun r_30 q_30 => ?_)
    obtain rfl : r_30 = (nI (n - 1)) := q_30
    exact wr_i X hr hlk hW ⟨(if_neg c_5).symm, by rw [show gRemove (n, R, hd, k, cs, sk, pn, pt) (nI xa) = _ from if_neg c_5, tn_n (by omega)]; exact cz_au hC1 hA1 hK1 (Or.inl ⟨rfl, rfl⟩)⟩ (Nat.le_of_ble_eq_true rfl) (Nat.le_of_ble_eq_true rfl) dX6_remove_33
  · refine lv_iconst (v := (-1)) X.1 X.2.1 dX6_remove_8 (by decide) ?_
    exact wr_i X hr hlk hW ⟨(if_pos c_5).symm, by rw [show gRemove (n, R, hd, k, cs, sk, pn, pt) a = (n, R, hd, k, cs, sk, pn, pt) from if_pos c_5]; exact ⟨rl, au, pa, e0, e1, eR, cR, mR, gR, RA, al, p0, pw, eA, cA, mA, gA, CA, QA, vb, cv, ml, fb, hCC⟩⟩ (Nat.le_of_ble_eq_true rfl) (Nat.le_of_ble_eq_true rfl) dX6_remove_9

theorem mv_g {g0 g1 g2 : Nat → Option Nat} {n a b i : Nat} {v : Option Nat} (hg1 : ∀ j, j < n - 1 → g1 j = g0 (if j < a then j else j + 1)) (hg2 : ∀ j, j < n → g2 j = if j < b then g1 j else if j = b then v else g1 (j - 1)) (ha : a < n) (hb : b < n) (hi : i < n) : g2 i = if i = b then v else g0 (mvS a b i) := by
  rw [hg2 i hi]
  unfold mvS
  by_cases c : i < b
  · rw [if_pos c, hg1 i (by omega), if_neg (show ¬ i = b by omega), if_pos c]
  · rw [if_neg c]
    by_cases d : i = b
    · rw [if_pos d, if_pos d]
    · rw [if_neg d, if_neg d, hg1 (i - 1) (by omega), if_neg c, if_neg d]
      congr 1
      by_cases e : i - 1 < a
      · rw [if_pos e, if_pos e]
      · rw [if_neg e, if_neg e]; omega
theorem mv_r {G : HG} {hp : HP} {rl eR cR n : Nat} {mR : Int32} {gR : Nat → Option Nat} {RA : Nat → Nat} {R : Nat → Nat → Nat} (h : RU G hp rl eR cR mR gR RA n R) {a b i : Nat} (ha : a < n) (hb : b < n) (hi : i < n) : (if i = b then some (RA a) else gR (mvS a b i)) = some (RA (mvS a b i)) := by
  by_cases c : i = b
  · rw [if_pos c]
    unfold mvS
    rw [if_neg (by omega), if_pos c]
  · rw [if_neg c]
    exact (h.2.2.2.2.2.1 _ (mvS_lt ha hb hi)).1
set_option maxHeartbeats 4000000 in
set_option maxRecDepth 100000 in
theorem c_X6_move (l : Launch) (G : HG) (A : Nat → Prop) (hp : HP) (sz : Nat) (hA : ∀ q, sz ≤ q → A q) (hO : Ow A hp) (b6 : Nat) (n : Nat) (R : Nat → Nat → Nat) (hd : Nat → Nat) (k : Nat) (cs : Nat → Nat → Int32) (sk : Bool) (pn : Nat) (pt : Nat → Nat) (hz : CZ G hp b6 (n, R, hd, k, cs, sk, pn, pt)) (a b : Int32) : Met l yX6_move [.code yX6_move cX6_move 4 (some .int)] { frames := 3, cells := 0, slots := 0, locals := 86 } (va_Pc [.ref b6, .int a, .int b] (WP G A sz hp)) (va_Qi (fun r hp1 => r = fMove (n, R, hd, k, cs, sk, pn, pt) a b ∧ CZ G hp1 b6 (gMove (n, R, hd, k, cs, sk, pn, pt) a b)) (WB G A) A) 0 0 A := by
  refine wr_ofW (by decide) (Nat.le_of_ble_eq_true rfl) hO ?_
  intro p e s m args below meth c ls X hr hlk hnm hsz hW hl
  have hA : ∀ q, s.heap.size ≤ q → A q := fun q h => hA q (by omega)
  have hl : lv_has ls 4 [(0, .ref b6), (1, .int a), (2, .int b)] := hl
  obtain ⟨rl, au, pa, e0, e1, eR, cR, mR, gR, RA, al, p0, pw, eA, cA, mA, gA, CA, QA, vb, cv, ml, fb, hb6, hU6, hU9, hSB, hHD, hDJ, huq⟩ := hz
  have hCC : CC G hp b6 rl au pa e0 e1 eR cR mR gR RA al p0 pw eA cA mA gA CA QA vb cv ml fb (n, R, hd, k, cs, sk, pn, pt) := ⟨hb6, hU6, hU9, hSB, hHD, hDJ, huq⟩
  replace hb6 : hp b6 = some (obE rl au pa e0 e1) := hb6
  replace hU6 : RU G hp rl eR cR mR gR RA n R := hU6
  replace hU9 : AU G hp au al p0 pw eA cA mA gA CA QA k cs sk := hU9
  replace hSB : SBp G hp pa vb cv ml fb pn pt := hSB
  have hn : n ≤ 24 := hU6.2.2.1
  have hk : k ≤ 12 := hU9.2.2.2.1
  have hpn := hSB.2.2.1
  have hd0 : hd 0 = e0 := hHD.1.1
  have hd1 : hd 1 = e1 := hHD.1.2
  have hhd : ∀ i, i < 2 → hd i ≤ 1048575 ∧ strH (hd i) ≤ 20 := hHD.2
  have g_1 : hp b6 = some (.inr (7, [.ref rl, .ref au, .ref pa, .int (nI e0), .int (nI e1)])) := hb6
  have g_2 : hp rl = some (.inr (1, [.int mR, .ref eR, .int (nI n)])) := hU6.1
  have g_3 : hp au = some (.inr (2, [.ref al, .ref p0, .ref pw, .int (bI sk)])) := hU9.1
  have g_4 : hp al = some (.inr (1, [.int mA, .ref eA, .int (nI k)])) := hU9.2.1
  have g_5 : hp pw = some (.inr (4, [.int (cs k 2), .int (cs k 4), .int (cs k 3)])) := hU9.2.2.2.2.2.2.2.1
  have g_6 : hp pa = some (.inr (0, [.ref vb, .int 0, .int (bI ml), .int (nI pn)])) := hSB.1
  have g_7 : hp vb = some (.inl (G.2.1 0, cv, .inl fb)) := hSB.2.1
  have hau0 := g_3
  refine lv_aload_n X.1 X.2.1 dX6_move_0 rfl (lv_at hl 0 rfl) ?_
  refine lv_iload_n X.1 X.2.1 dX6_move_1 rfl (lv_at hl 1 rfl) ?_
  refine on_Si (run_V (C := RX6) (As := [.int a]) (rest := []) X (c_X6_isRule l G hp b6 rl au pa e0 e1 g_1 eR mR n hn g_2 a) (rp_blind _) (rp_at X hW.1 hW.2.2) (recv X hW.1 g_1 (C := RX6) (T := TX6) (N := 5) rfl) mf_X6_isRule tw_346 tw_348 tw_4 ⟨rfl, rfl, Nat.le_of_ble_eq_true rfl, Nat.le_of_ble_eq_true rfl⟩ hl.1 rfl rfl (Nat.le_of_ble_eq_true rfl) ⟨Nat.le_of_ble_eq_true rfl, Nat.le_of_ble_eq_true rfl⟩ dX6_move_2) (fun r_2 q_2 => ?_)
  obtain rfl : r_2 = (inI a 0 ((n : Int) - 1)) := q_2
  refine lv_if_eq (tgt := 16) X.1 X.2.1 dX6_move_5 (by decide) (fun c_5 => ?_) (fun c_5 => ?_)
  · refine lv_iconst (v := (-1)) X.1 X.2.1 dX6_move_16 (by decide) ?_
    exact wr_i X hr hlk hW ⟨(if_pos (Or.inl c_5)).symm, by rw [show gMove (n, R, hd, k, cs, sk, pn, pt) a b = (n, R, hd, k, cs, sk, pn, pt) from if_pos (Or.inl c_5)]; exact ⟨rl, au, pa, e0, e1, eR, cR, mR, gR, RA, al, p0, pw, eA, cA, mA, gA, CA, QA, vb, cv, ml, fb, hCC⟩⟩ (Nat.le_of_ble_eq_true rfl) (Nat.le_of_ble_eq_true rfl) dX6_move_17
  · obtain ⟨xa, hxa, rfl⟩ := ru_nat hn c_5
    refine lv_aload_n X.1 X.2.1 dX6_move_8 rfl (lv_at hl 0 rfl) ?_
    refine lv_iload_n X.1 X.2.1 dX6_move_9 rfl (lv_at hl 2 rfl) ?_
    refine on_Si (run_V (C := RX6) (As := [.int b]) (rest := []) X (c_X6_isRule l G hp b6 rl au pa e0 e1 g_1 eR mR n hn g_2 b) (rp_blind _) (rp_at X hW.1 hW.2.2) (recv X hW.1 g_1 (C := RX6) (T := TX6) (N := 5) rfl) mf_X6_isRule tw_346 tw_348 tw_4 ⟨rfl, rfl, Nat.le_of_ble_eq_true rfl, Nat.le_of_ble_eq_true rfl⟩ hl.1 rfl rfl (Nat.le_of_ble_eq_true rfl) ⟨Nat.le_of_ble_eq_true rfl, Nat.le_of_ble_eq_true rfl⟩ dX6_move_10) (fun r_10 q_10 => ?_)
    obtain rfl : r_10 = (inI b 0 ((n : Int) - 1)) := q_10
    refine lv_if_ne (tgt := 18) X.1 X.2.1 dX6_move_13 (by decide) (fun c_13 => ?_) (fun c_13 => ?_)
    · obtain ⟨xb, hxb, rfl⟩ := ru_nat hn c_13
      refine lv_aload_n X.1 X.2.1 dX6_move_18 rfl (lv_at hl 0 rfl) ?_
      refine r_get X hW.1 g_1 (v := .ref rl) (C := RX6) (T := TX6) (N := 5) rfl tin_X6 0 (by decide) tw_192 (fun _ h => h) rfl dX6_move_19 ?_
      refine lv_iload_n X.1 X.2.1 dX6_move_22 rfl (lv_at hl 1 rfl) ?_
      refine on_Sq (run_V (C := RJx4a65c) (As := [.int (nI xa)]) (rest := []) X (c_Jx4a65c_get_915e3 l G hp rl eR n mR hU6.1 cR gR (hU6.2.1.1 (by have := hU6.2.2.2.1; omega)) hU6.2.2.2.1 (Nat.lt_of_le_of_lt hU6.2.2.2.2.1 (by decide)) xa (by omega)) (rp_blind _) (rp_at X hW.1 hW.2.2) (recv X hW.1 g_2 (C := RJx4a65c) (T := TJx4a65c) (N := 3) rfl) mf_Jx4a65c_get_915e3 tw_264 tw_265 tw_266 ⟨rfl, rfl, Nat.le_of_ble_eq_true rfl, Nat.le_of_ble_eq_true rfl⟩ hl.1 rfl rfl (Nat.le_of_ble_eq_true rfl) ⟨Nat.le_of_ble_eq_true rfl, Nat.le_of_ble_eq_true rfl⟩ dX6_move_23) (fun r_23 q_23 => ?_)
      obtain rfl : r_23 = some (RA xa) := q_23.trans (hU6.2.2.2.2.2.1 xa (by omega)).1
      refine W.eq (g2 := F0 m 26 ls [.ref (RA xa)]) rfl ?_
      refine r_cast X hW.1 (hU6.2.2.2.2.2.1 xa (by omega)).2 (C := RX4) (T := TX4) (N := 6) rfl tw_221 dX6_move_26 ?_
      refine lv_astore_n (lv' := [(3, .ref (RA xa)), (0, .ref b6), (1, .int (nI xa)), (2, .int (nI xb))]) X.1 X.2.1 dX6_move_29 rfl hl (by decide) rfl (fun ls hl => ?_)
      refine lv_aload_n X.1 X.2.1 dX6_move_30 rfl (lv_at hl 1 rfl) ?_
      refine r_get X hW.1 g_1 (v := .ref rl) (C := RX6) (T := TX6) (N := 5) rfl tin_X6 0 (by decide) tw_192 (fun _ h => h) rfl dX6_move_31 ?_
      refine lv_iload_n X.1 X.2.1 dX6_move_34 rfl (lv_at hl 2 rfl) ?_
      have hLr := hU6.ls
      refine on_Wq (k' := 0) (n' := 0) (run_V (C := RJx4a65c) (As := [.int (nI xa)]) (rest := []) X (c_Jx4a65c_remove_915e3 l G A hp _ (fun q h => hA q (Nat.le_trans hW.2.2.1 h)) hW.2.1 rl eR n cR mR gR hLr hU6.els xa hxa (RA xa) (hU6.2.2.2.2.2.1 xa hxa).1) (wp_blind _) (wp_at X hW.1 hW.2.2) (recv X hW.1 g_2 (C := RJx4a65c) (T := TJx4a65c) (N := 3) rfl) mf_Jx4a65c_remove_915e3 tw_393 tw_394 tw_395 ⟨rfl, rfl, Nat.le_of_ble_eq_true rfl, Nat.le_of_ble_eq_true rfl⟩ hl.1 rfl rfl (Nat.le_of_ble_eq_true rfl) ⟨Nat.le_of_ble_eq_true rfl, Nat.le_of_ble_eq_true rfl⟩ dX6_move_35) hW (by omega) (by omega) (fun r_35 hp_8 H locs q_35 hW => ?_)
      obtain ⟨rfl, mR1, gR1, hL1, hg1, hF1⟩ := q_35
      refine W.eq (g2 := F0 m 38 ls [.ref (RA xa)]) rfl ?_
      have f_9 : hp_8 b6 = some (.inr (7, [.ref rl, .ref au, .ref pa, .int (nI e0), .int (nI e1)])) := hF1 _ _ g_1 (ne_look g_1 hLr.1 (by simp [alE])) (fun z => ne_look g_1 (hLr.2.1.1 z) (by simp [arQ]))
      have f_10 : hp_8 au = some (.inr (2, [.ref al, .ref p0, .ref pw, .int (bI sk)])) := hF1 _ _ g_3 (ne_look g_3 hLr.1 (by simp [alE])) (fun z => ne_look g_3 (hLr.2.1.1 z) (by simp [arQ]))
      have f_11 : hp_8 al = some (.inr (1, [.int mA, .ref eA, .int (nI k)])) := hF1 _ _ g_4 (Ne.symm hDJ.1) (fun z => ne_look g_4 (hLr.2.1.1 z) (by simp [arQ]))
      have f_12 : hp_8 pw = some (.inr (4, [.int (cs k 2), .int (cs k 4), .int (cs k 3)])) := hF1 _ _ g_5 (ne_look g_5 hLr.1 (by simp [alE])) (fun z => ne_look g_5 (hLr.2.1.1 z) (by simp [arQ]))
      have f_13 : hp_8 pa = some (.inr (0, [.ref vb, .int 0, .int (bI ml), .int (nI pn)])) := hF1 _ _ g_6 (ne_look g_6 hLr.1 (by simp [alE])) (fun z => ne_look g_6 (hLr.2.1.1 z) (by simp [arQ]))
      have f_14 : hp_8 vb = some (.inl (G.2.1 0, cv, .inl fb)) := hF1 _ _ g_7 (ne_look g_7 hLr.1 (by simp [alE])) (fun z => ne_look g_7 (hLr.2.1.1 z) (by simp [arQ]))
      have g_15 : hp_8 rl = some (.inr (1, [.int mR1, .ref eR, .int (nI (n - 1))])) := hL1.1
      have hC1 : CC G _ b6 rl au pa e0 e1 eR cR mR1 gR1 (fun i => RA (if i < xa then i else i + 1)) al p0 pw eA cA mA gA CA QA vb cv ml fb (n - 1, rmR R xa, hd, k, cs, sk, pn, pt) := cz_rl hCC hF1 hL1 (by omega) (fun i hi => by rw [hg1 i hi, rm_s]; have z9 := hU6.2.2.2.2.2.1 (if i < xa then i else i + 1) (by split <;> omega); exact ⟨z9.1, LFq.rc hLr hF1 z9.2⟩) (fun i j hi hj => by rw [rm_s]; exact hU6.2.2.2.2.2.2 (if i < xa then i else i + 1) j (by split <;> omega) hj) (Or.inl ⟨rfl, rfl⟩) (fun i j hi hj e9 => by have z9 := hDJ.2.2 _ _ (show (if i < xa then i else i + 1) < n by split <;> omega) (show (if j < xa then j else j + 1) < n by split <;> omega) e9; revert z9; split <;> split <;> omega) (by rw [rm_s]; exact uq_comp huq (fun i hi => by split <;> omega) (fun i j hi hj e9 => by revert e9; split <;> split <;> omega))
      refine lv_pop X.1 X.2.1 dX6_move_38 rfl ?_
      refine lv_aload_n X.1 X.2.1 dX6_move_39 rfl (lv_at hl 1 rfl) ?_
      refine r_get X hW.1 f_9 (v := .ref rl) (C := RX6) (T := TX6) (N := 5) rfl tin_X6 0 (by decide) tw_192 (fun _ h => h) rfl dX6_move_40 ?_
      refine lv_iload_n X.1 X.2.1 dX6_move_43 rfl (lv_at hl 3 rfl) ?_
      refine lv_aload_n X.1 X.2.1 dX6_move_44 rfl (lv_at hl 0 rfl) ?_
      have hLs : LSq G hp_8 rl eR (n - 1) cR mR1 gR1 := hL1
      refine on_Wv (k' := 0) (n' := 0) (run_V (C := RJx4a65c) (As := [.int (nI xb), .ref (RA xa)]) (rest := []) X (c_Jx4a65c_add_7a177 l G A hp_8 _ (fun q h => hA q (Nat.le_trans hW.2.2.1 h)) hW.2.1 rl eR (n - 1) cR mR1 gR1 hL1 (by have := hU6.2.2.2.1; omega) hC1.2.1.els xb (by omega) (RA xa) ⟨5, _, LFq.rc hLr hF1 (hU6.2.2.2.2.2.1 xa hxa).2, Or.inr rfl⟩) (wp_blind _) (wp_at X hW.1 hW.2.2) (recv X hW.1 g_15 (C := RJx4a65c) (T := TJx4a65c) (N := 3) rfl) mf_Jx4a65c_add_7a177 tw_406 tw_407 tw_408 ⟨rfl, rfl, Nat.le_of_ble_eq_true rfl, Nat.le_of_ble_eq_true rfl⟩ hl.1 rfl rfl (Nat.le_of_ble_eq_true rfl) ⟨Nat.le_of_ble_eq_true rfl, Nat.le_of_ble_eq_true rfl⟩ dX6_move_45) hW (by omega) (by omega) (fun hp_16 H locs q_45 hW => ?_)
      obtain ⟨mR2, gR2, hL2, hg2, hF2⟩ := q_45
      have f_17 : hp_16 b6 = some (.inr (7, [.ref rl, .ref au, .ref pa, .int (nI e0), .int (nI e1)])) := hF2 _ _ f_9 (ne_look f_9 hL1.1 (by simp [alE])) (fun z => ne_look f_9 (hL1.2.1.1 z) (by simp [arQ]))
      have f_18 : hp_16 au = some (.inr (2, [.ref al, .ref p0, .ref pw, .int (bI sk)])) := hF2 _ _ f_10 (ne_look f_10 hL1.1 (by simp [alE])) (fun z => ne_look f_10 (hL1.2.1.1 z) (by simp [arQ]))
      have f_19 : hp_16 al = some (.inr (1, [.int mA, .ref eA, .int (nI k)])) := hF2 _ _ f_11 (Ne.symm hDJ.1) (fun z => ne_look f_11 (hL1.2.1.1 z) (by simp [arQ]))
      have f_20 : hp_16 pw = some (.inr (4, [.int (cs k 2), .int (cs k 4), .int (cs k 3)])) := hF2 _ _ f_12 (ne_look f_12 hL1.1 (by simp [alE])) (fun z => ne_look f_12 (hL1.2.1.1 z) (by simp [arQ]))
      have f_21 : hp_16 pa = some (.inr (0, [.ref vb, .int 0, .int (bI ml), .int (nI pn)])) := hF2 _ _ f_13 (ne_look f_13 hL1.1 (by simp [alE])) (fun z => ne_look f_13 (hL1.2.1.1 z) (by simp [arQ]))
      have f_22 : hp_16 vb = some (.inl (G.2.1 0, cv, .inl fb)) := hF2 _ _ f_14 (ne_look f_14 hL1.1 (by simp [alE])) (fun z => ne_look f_14 (hL1.2.1.1 z) (by simp [arQ]))
      have hF3 : LFq hp hp_16 rl eR cR := LFq.tr hF1 hF2 (Or.inl ⟨rfl, rfl⟩)
      rw [show n - 1 + 1 = n by omega] at hL2 hg2
      have hC2 : CC G hp_16 b6 rl au pa e0 e1 eR cR mR2 gR2 (fun i => RA (mvS xa xb i)) al p0 pw eA cA mA gA CA QA vb cv ml fb (n, mvR R xa xb, hd, k, cs, sk, pn, pt) := cz_rl hCC hF3 hL2 hn (fun i hi => by rw [mv_g hg1 hg2 hxa hxb hi, mv_s]; have z9 := hU6.2.2.2.2.2.1 (mvS xa xb i) (mvS_lt hxa hxb hi); exact ⟨(mv_r hU6 hxa hxb hi), LFq.rc hLr hF3 z9.2⟩) (fun i j hi hj => by rw [mv_s]; exact hU6.2.2.2.2.2.2 (mvS xa xb i) j (mvS_lt hxa hxb hi) hj) (Or.inl ⟨rfl, rfl⟩) (fun i j hi hj e9 => mvS_in hxa hxb hi hj (hDJ.2.2 _ _ (mvS_lt hxa hxb hi) (mvS_lt hxa hxb hj) e9)) (by rw [mv_s]; exact uq_comp huq (fun i hi => mvS_lt hxa hxb hi) (fun i j hi hj e9 => mvS_in hxa hxb hi hj e9))
      refine lv_aload_n X.1 X.2.1 dX6_move_48 rfl (lv_at hl 1 rfl) ?_
      refine r_get X hW.1 f_17 (v := .ref au) (C := RX6) (T := TX6) (N := 5) rfl tin_X6 1 (by decide) tw_193 (fun _ h => h) rfl dX6_move_49 ?_
      refine on_Wv (k' := 0) (n' := 0) (run_V (C := RX0) (As := []) (rest := []) X (c_X0_restart l G A hp_16 _ (fun q h => hA q (Nat.le_trans hW.2.2.1 h)) hW.2.1 au al p0 pw eA cA mA gA CA QA k cs sk hC2.2.2.1) (wp_blind _) (wp_at X hW.1 hW.2.2) (recv X hW.1 f_18 (C := RX0) (T := TX0) (N := 4) rfl) mf_X0_restart tw_334 tw_335 tw_336 ⟨rfl, rfl, Nat.le_of_ble_eq_true rfl, Nat.le_of_ble_eq_true rfl⟩ hl.1 rfl rfl (Nat.le_of_ble_eq_true rfl) ⟨Nat.le_of_ble_eq_true rfl, Nat.le_of_ble_eq_true rfl⟩ dX6_move_52) hW (by omega) (by omega) (fun hp_23 H locs q_52 hW => ?_)
      obtain ⟨mA1, g1, hA1, hK1⟩ := q_52
      have hU1 := hC2.2.1.af hC2.2.2.1 hK1 hC2.2.2.2.2.2.1.1 hC2.2.2.2.2.2.1.2.1
      have hmx : mvS xa xb xb = xa := by unfold mvS; rw [if_neg (by omega), if_pos rfl]
      have g_24 : hp_23 (RA xa) = some (.inr (5, [.int (nI (R xa 0)), .int (nI (R xa 1)), .int (nI (R xa 2)), .int (nI (R xa 3)), .int (nI (loP (R xa))), .int (nI (hiP (R xa)))])) := by have z9 : hp_23 (RA (mvS xa xb xb)) = some (rcE (R (mvS xa xb xb))) := by { have y9 := (hU1.2.2.2.2.2.1 xb hxb).2; rw [mv_s] at y9; exact y9 }; rw [hmx] at z9; exact z9
      refine lv_aload_n X.1 X.2.1 dX6_move_55 rfl (lv_at hl 0 rfl) ?_
      refine r_getN X hW.1 g_24 (v := .int (nI (R xa 1))) (C := RX4) (T := TX4) (N := 6) rfl tin_X4 1 (by decide) tw_233 (fun _ h => h) rfl dX6_move_56 ?_
      exact wr_i X hr hlk hW ⟨(by rw [show fMove (n, R, hd, k, cs, sk, pn, pt) (nI xa) (nI xb) = nI (R (tn (nI xa)) 1) from if_neg (fun q => Or.elim q c_5 c_13), tn_n (by omega)]), by rw [show gMove (n, R, hd, k, cs, sk, pn, pt) (nI xa) (nI xb) = _ from if_neg (fun q => Or.elim q c_5 c_13), tn_n (by omega), tn_n (by omega)]; exact cz_au hC2 hA1 hK1 (Or.inl ⟨rfl, rfl⟩)⟩ (Nat.le_of_ble_eq_true rfl) (Nat.le_of_ble_eq_true rfl) dX6_move_59
    · refine lv_iconst (v := (-1)) X.1 X.2.1 dX6_move_16 (by decide) ?_
      exact wr_i X hr hlk hW ⟨(if_pos (Or.inr c_13)).symm, by rw [show gMove (n, R, hd, k, cs, sk, pn, pt) (nI xa) b = (n, R, hd, k, cs, sk, pn, pt) from if_pos (Or.inr c_13)]; exact ⟨rl, au, pa, e0, e1, eR, cR, mR, gR, RA, al, p0, pw, eA, cA, mA, gA, CA, QA, vb, cv, ml, fb, hCC⟩⟩ (Nat.le_of_ble_eq_true rfl) (Nat.le_of_ble_eq_true rfl) dX6_move_17

