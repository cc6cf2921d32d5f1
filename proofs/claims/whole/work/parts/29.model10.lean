theorem tk_step {g f : Nat → Int32} {r9 i : Nat} (hi : i < 2 ^ 30) (hr : 14 * r9 ≤ i) (h : ∀ j, g j = if 14 * r9 ≤ j ∧ j < i then f (j + 14) else f j) : ∀ j, upd g (nI i).toNatClampNeg (g (nI (i + 14)).toNatClampNeg) j = if 14 * r9 ≤ j ∧ j < i + 1 then f (j + 14) else f j := by
  intro j
  rw [nI_clamp (by omega), nI_clamp (by omega)]
  by_cases c : j = i
  · subst c
    rw [if_pos (by omega)]
    simp only [upd, if_true]
    rw [h, if_neg (by omega)]
  · simp only [upd, if_neg c]
    rw [h]
    by_cases d : 14 * r9 ≤ j ∧ j < i
    · rw [if_pos d, if_pos (by omega)]
    · rw [if_neg d, if_neg (by omega)]
set_option maxHeartbeats 4000000 in
set_option maxRecDepth 100000 in
theorem c_X7_takeOut (l : Launch) (G : HG) (A : Nat → Prop) (hp : HP) (sz : Nat) (hA : ∀ q, sz ≤ q → A q) (hO : Ow A hp) (M : Nat → Nat) (sc : Nat → Int32) (ar : Nat → Nat → Int32) (sm : Nat → Int64) (hM : MR G hp M sc ar sm) (n : Nat) (R : Nat → Nat → Nat) (hU : MU n R sc ar) (r9 : Nat) (hr9 : r9 < n) : Met l yX7_takeOut [.code yX7_takeOut cX7_takeOut 3 none] { frames := 0, cells := 0, slots := 0, locals := 0 } (va_Pc [.ref (M 0), .int (nI r9)] (WP G A sz hp)) (va_Qv (fun hp1 => ∃ g, MR G hp1 M (va_up sc 0 (nI (n - 1))) (va_up ar 0 g) sm ∧ ∀ j, g j = if 14 * r9 ≤ j ∧ j < 14 * (n - 1) then ar 0 (j + 14) else ar 0 j) (WB G A) A) 0 0 A := by
  refine wr_ofW (by decide) (Nat.le_of_ble_eq_true rfl) hO ?_
  intro p e s m args below meth c ls X hr hlk hnm hsz hW hl
  have hA : ∀ q, s.heap.size ≤ q → A q := fun q h => hA q (by omega)
  have hl : lv_has ls 3 [(0, .ref (M 0)), (1, .int (nI r9))] := hl
  have hn := hU.2.1
  refine lv_aload_n X.1 X.2.1 dX7_takeOut_0 rfl (lv_at hl 0 rfl) ?_
  refine lv_dup X.1 X.2.1 dX7_takeOut_1 rfl ?_
  refine r_get X hW.1 hM.1 (v := .int (sc 0)) (C := RX7) (T := TX7) (N := 19) rfl tin_X7 1 (by decide) tw_844 (fun _ h => h) rfl dX7_takeOut_2 ?_
  refine r_eqi (show ((sc 0) : Int32) = nI n from hU.1) ?_
  refine lv_iconst (v := 1) X.1 X.2.1 dX7_takeOut_5 (by decide) ?_
  refine lv_isub X.1 X.2.1 dX7_takeOut_6 ?_
  refine r_eqi (show (((nI n) - 1) : Int32) = nI (n - 1) from pk_sub (a := n) (b := 1) (by omega)) ?_
  refine r_put X hW hM.1 (v := .int (nI (n - 1))) (C := RX7) (T := TX7) (N := 19) rfl tin_X7 tyX7_ok nmX7 1 (Nat.le_of_ble_eq_true rfl) tw_844 (fun _ h => h) rfl rfl rfl (Nat.le_of_ble_eq_true rfl) dX7_takeOut_7 (fun hp_1 H locs hW eh_2 => ?_)
  have hM := mr_sc0 hM eh_2
  refine lv_bipush (v := 14) X.1 X.2.1 dX7_takeOut_10 (by decide) ?_
  refine lv_iload_n X.1 X.2.1 dX7_takeOut_12 rfl (lv_at hl 1 rfl) ?_
  refine lv_imul X.1 X.2.1 dX7_takeOut_13 ?_
  refine r_eqi (show (((14 : Int32) * (nI r9)) : Int32) = nI (14 * r9) from pk_mul 14 r9) ?_
  refine lv_istore_n (lv' := [(2, .int (nI (14 * r9))), (0, .ref (M 0)), (1, .int (nI r9))]) X.1 X.2.1 dX7_takeOut_14 rfl hl (by decide) rfl (fun ls hl => ?_)
  have L15 : ∀ (f : Nat) (i : Nat) (hpL : HP) (H : Heap) (locs : List Loc) (g : Nat → Int32), MR G hpL M (va_up sc 0 (nI (n - 1))) (va_up ar 0 g) sm → WS s G A hpL H locs → (i + f = 14 * (n - 1)) → (14 * r9 ≤ i) → (∀ j, g j = if 14 * r9 ≤ j ∧ j < i then ar 0 (j + 14) else ar 0 j) → ∀ ls, lv_has ls 3 [(0, .ref (M 0)), (1, .int (nI r9)), (2, .int (nI i))] → W p l e ({ frames := 0, cells := 0, slots := 0, locals := 0 } : Room) s m args below meth c H locs 0 0 (MQ below (va_Qv (fun hp1 => ∃ g, MR G hp1 M (va_up sc 0 (nI (n - 1))) (va_up ar 0 g) sm ∧ ∀ j, g j = if 14 * r9 ≤ j ∧ j < 14 * (n - 1) then ar 0 (j + 14) else ar 0 j) (WB G A) A) args s 0 0 A) (F0 m 15 ls []) := by
    intro f
    induction f with
    | zero =>
      intro i hpL H locs g hM hW h0 h1 h2 ls hl
      have h14 : i = 14 * (n - 1) := by omega
      refine lv_iload_n X.1 X.2.1 dX7_takeOut_15 rfl (lv_at hl 2 rfl) ?_
      refine lv_bipush (v := 14) X.1 X.2.1 dX7_takeOut_16 (by decide) ?_
      refine lv_aload_n X.1 X.2.1 dX7_takeOut_18 rfl (lv_at hl 0 rfl) ?_
      refine r_get X hW.1 hM.1 (v := .int (nI (n - 1))) (C := RX7) (T := TX7) (N := 19) rfl tin_X7 1 (by decide) tw_844 (fun _ h => h) rfl dX7_takeOut_19 ?_
      refine lv_imul X.1 X.2.1 dX7_takeOut_22 ?_
      refine r_eqi (show (((14 : Int32) * (nI (n - 1))) : Int32) = nI (14 * (n - 1)) from pk_mul 14 (n - 1)) ?_
      refine lv_icmp_ge (tgt := 47) X.1 X.2.1 dX7_takeOut_23 (by decide) (fun c_23 => ?_) (fun c_23 => absurd (nI_le (by omega) (by omega)) c_23)
      exact wr_v X hr hlk hW ⟨g, hM, by rw [← h14]; exact h2⟩ (Nat.le_of_ble_eq_true rfl) (Nat.le_of_ble_eq_true rfl) dX7_takeOut_47
    | succ f ih =>
      intro i hpL H locs g hM hW h0 h1 h2 ls hl
      have h14 : i < 14 * (n - 1) := by omega
      refine lv_iload_n X.1 X.2.1 dX7_takeOut_15 rfl (lv_at hl 2 rfl) ?_
      refine lv_bipush (v := 14) X.1 X.2.1 dX7_takeOut_16 (by decide) ?_
      refine lv_aload_n X.1 X.2.1 dX7_takeOut_18 rfl (lv_at hl 0 rfl) ?_
      refine r_get X hW.1 hM.1 (v := .int (nI (n - 1))) (C := RX7) (T := TX7) (N := 19) rfl tin_X7 1 (by decide) tw_844 (fun _ h => h) rfl dX7_takeOut_19 ?_
      refine lv_imul X.1 X.2.1 dX7_takeOut_22 ?_
      refine r_eqi (show (((14 : Int32) * (nI (n - 1))) : Int32) = nI (14 * (n - 1)) from pk_mul 14 (n - 1)) ?_
      refine lv_icmp_ge (tgt := 47) X.1 X.2.1 dX7_takeOut_23 (by decide) (fun c_23 => absurd c_23 (nI_ge (by omega) (by omega))) (fun c_23 => ?_)
      refine lv_aload_n X.1 X.2.1 dX7_takeOut_26 rfl (lv_at hl 0 rfl) ?_
      refine r_get X hW.1 hM.1 (v := .ref (M 1)) (C := RX7) (T := TX7) (N := 19) rfl tin_X7 0 (by decide) tw_843 (fun _ h => h) rfl dX7_takeOut_27 ?_
      refine lv_iload_n X.1 X.2.1 dX7_takeOut_30 rfl (lv_at hl 2 rfl) ?_
      refine lv_aload_n X.1 X.2.1 dX7_takeOut_31 rfl (lv_at hl 0 rfl) ?_
      refine r_get X hW.1 hM.1 (v := .ref (M 1)) (C := RX7) (T := TX7) (N := 19) rfl tin_X7 0 (by decide) tw_843 (fun _ h => h) rfl dX7_takeOut_32 ?_
      refine lv_iload_n X.1 X.2.1 dX7_takeOut_35 rfl (lv_at hl 2 rfl) ?_
      refine lv_bipush (v := 14) X.1 X.2.1 dX7_takeOut_36 (by decide) ?_
      refine lv_iadd X.1 X.2.1 dX7_takeOut_38 ?_
      refine r_eqi (show (((nI i) + 14) : Int32) = nI (i + 14) from nI_add i 14) ?_
      refine r_iald X hW.1 (hM.2.1 0 (by decide)) (show vp_in ((nI (i + 14))) 336 from vp_in_nI (n := (i + 14)) (by omega) (by decide)) dX7_takeOut_39 ?_
      refine r_iast X hW (hM.2.1 0 (by decide)) (show vp_in ((nI i)) 336 from vp_in_nI (n := i) (by omega) (by decide)) dX7_takeOut_40 (fun hp_3 H locs hW eh_4 => ?_)
      have hM := mr_ar hM 0 (by decide) eh_4
      refine lv_iinc (v := (nI (i + 1))) (lv' := [(2, .int (nI (i + 1))), (0, .ref (M 0)), (1, .int (nI r9))]) X.1 X.2.1 dX7_takeOut_41 hl (k := 2) rfl (nI_add i 1) (by decide) rfl (fun ls hl => ?_)
      refine lv_goto (tgt := 15) X.1 X.2.1 dX7_takeOut_44 (by decide) ?_
      exact ih (i + 1) _ _ _ _ (mr_uu hM) hW (by omega) (by omega) (tk_step (by omega) h1 h2) ls (lv_sub hl [1, 2, 0] rfl)
  exact L15 (14 * (n - 1) - 14 * r9) (14 * r9) _ _ _ _ (mr_id 0 hM) hW (by omega) (Nat.le_refl _) (fun j => (if_neg (by omega)).symm) ls (lv_sub hl [1, 2, 0] rfl)

def fRemove (z : ST) (a : Int32) : Int32 := if inI a 0 ((z.1 : Int) - 1) = 0 then -1 else nI (z.1 - 1)
def gRemove (z : ST) (a : Int32) : ST := if inI a 0 ((z.1 : Int) - 1) = 0 then z else gAnew (z.1 - 1, rmR z.2.1 (tn a), z.2.2)
set_option maxHeartbeats 4000000 in
set_option maxRecDepth 100000 in
theorem c_X7_remove (l : Launch) (G : HG) (A : Nat → Prop) (hp : HP) (sz : Nat) (hA : ∀ q, sz ≤ q → A q) (hO : Ow A hp) (M : Nat → Nat) (sc : Nat → Int32) (ar : Nat → Nat → Int32) (sm : Nat → Int64) (hM : MR G hp M sc ar sm) (n : Nat) (R : Nat → Nat → Nat) (hd : Nat → Nat) (k : Nat) (cs : Nat → Nat → Int32) (sk : Bool) (pn : Nat) (pt : Nat → Nat) (hz : MST (n, R, hd, k, cs, sk, pn, pt) sc ar) (a : Int32) : Met l yX7_remove [.code yX7_remove cX7_remove 2 (some .int)] { frames := 2, cells := 0, slots := 0, locals := 43 } (va_Pc [.ref (M 0), .int a] (WP G A sz hp)) (va_Qi (fun r hp1 => r = fRemove (n, R, hd, k, cs, sk, pn, pt) a ∧ ∃ sc1 ar1 sm1, MR G hp1 M sc1 ar1 sm1 ∧ MST (gRemove (n, R, hd, k, cs, sk, pn, pt) a) sc1 ar1) (WB G A) A) 0 0 A := by
  refine wr_ofW (by decide) (Nat.le_of_ble_eq_true rfl) hO ?_
  intro p e s m args below meth c ls X hr hlk hnm hsz hW hl
  have hA : ∀ q, s.heap.size ≤ q → A q := fun q h => hA q (by omega)
  have hl : lv_has ls 2 [(0, .ref (M 0)), (1, .int a)] := hl
  have hT : MT ar := hz.1
  have hU : MU n R sc ar := hz.2.1
  have hH2 : MH hd ar := hz.2.2.1
  have hau : MAu k cs sk sc ar := hz.2.2.2.1
  have hP : MP pn pt sc ar := hz.2.2.2.2
  have hn := hU.2.1
  have hk := hau.2.1
  refine lv_aload_n X.1 X.2.1 dX7_remove_0 rfl (lv_at hl 0 rfl) ?_
  refine lv_iload_n X.1 X.2.1 dX7_remove_1 rfl (lv_at hl 1 rfl) ?_
  refine on_Si (run_V (C := RX7) (As := [.int a]) (rest := []) X (c_X7_isRule l G hp M sc ar sm hM n R hU a ) (rp_blind _) (rp_at X hW.1 hW.2.2) (recv X hW.1 hM.1 (C := RX7) (T := TX7) (N := 19) rfl) mf_X7_isRule tw_930 tw_932 tw_31 ⟨rfl, rfl, Nat.le_of_ble_eq_true rfl, Nat.le_of_ble_eq_true rfl⟩ hl.1 rfl rfl (Nat.le_of_ble_eq_true rfl) ⟨Nat.le_of_ble_eq_true rfl, Nat.le_of_ble_eq_true rfl⟩ dX7_remove_2) (fun r_2 q_2 => ?_)
  obtain rfl : r_2 = (inI a 0 ((n : Int) - 1)) := q_2
  refine lv_if_ne (tgt := 10) X.1 X.2.1 dX7_remove_5 (by decide) (fun c_5 => ?_) (fun c_5 => ?_)
  · obtain ⟨xa, hxa, rfl⟩ := ru_nat hU.2.1 c_5
    refine lv_aload_n X.1 X.2.1 dX7_remove_10 rfl (lv_at hl 0 rfl) ?_
    refine lv_iload_n X.1 X.2.1 dX7_remove_11 rfl (lv_at hl 1 rfl) ?_
    refine on_Wv (k' := 0) (n' := 0) (run_V (C := RX7) (As := [.int (nI xa)]) (rest := []) X (c_X7_takeOut l G A hp _ (fun q h => hA q (Nat.le_trans hW.2.2.1 h)) hW.2.1 M sc ar sm hM n R hU xa (by omega)) (wp_blind _) (wp_at X hW.1 hW.2.2) (recv X hW.1 hM.1 (C := RX7) (T := TX7) (N := 19) rfl) mf_X7_takeOut tw_954 tw_956 tw_35 ⟨rfl, rfl, Nat.le_of_ble_eq_true rfl, Nat.le_of_ble_eq_true rfl⟩ hl.1 rfl rfl (Nat.le_of_ble_eq_true rfl) ⟨Nat.le_of_ble_eq_true rfl, Nat.le_of_ble_eq_true rfl⟩ dX7_remove_12) hW (by omega) (by omega) (fun hp_1 H locs q_12 hW => ?_)
    obtain ⟨g4, hM, hg4⟩ := q_12
    refine lv_aload_n X.1 X.2.1 dX7_remove_15 rfl (lv_at hl 0 rfl) ?_
    refine on_Wv (k' := 0) (n' := 0) (run_V (C := RX7) (As := []) (rest := []) X (c_X7_anew l G A hp_1 _ (fun q h => hA q (Nat.le_trans hW.2.2.1 h)) hW.2.1 M (va_up sc 0 (nI (n - 1))) (va_up ar 0 g4) sm hM) (wp_blind _) (wp_at X hW.1 hW.2.2) (recv X hW.1 hM.1 (C := RX7) (T := TX7) (N := 19) rfl) mf_X7_anew tw_839 tw_841 tw_26 ⟨rfl, rfl, Nat.le_of_ble_eq_true rfl, Nat.le_of_ble_eq_true rfl⟩ hl.1 rfl rfl (Nat.le_of_ble_eq_true rfl) ⟨Nat.le_of_ble_eq_true rfl, Nat.le_of_ble_eq_true rfl⟩ dX7_remove_16) hW (by omega) (by omega) (fun hp_2 H locs q_16 hW => ?_)
    have hM := q_16
    refine lv_aload_n X.1 X.2.1 dX7_remove_19 rfl (lv_at hl 0 rfl) ?_
    refine r_get X hW.1 hM.1 (v := .int ((anS (va_up sc 0 (nI (n - 1)))) 0)) (C := RX7) (T := TX7) (N := 19) rfl tin_X7 1 (by decide) tw_844 (fun _ h => h) rfl dX7_remove_20 ?_
    exact wr_i X hr hlk hW ⟨(if_neg c_5).symm, _, _, _, hM, by rw [show gRemove (n, R, hd, k, cs, sk, pn, pt) (nI xa) = _ from if_neg c_5, tn_n (by omega)]; exact MST.anew (z := (n - 1, rmR R xa, hd, k, cs, sk, pn, pt)) ⟨hT, mu_rm hU hxa hg4, hH2, hau, hP⟩⟩ (Nat.le_of_ble_eq_true rfl) (Nat.le_of_ble_eq_true rfl) dX7_remove_23
  · refine lv_iconst (v := (-1)) X.1 X.2.1 dX7_remove_8 (by decide) ?_
    exact wr_i X hr hlk hW ⟨(if_pos c_5).symm, _, _, _, hM, by rw [show gRemove (n, R, hd, k, cs, sk, pn, pt) a = (n, R, hd, k, cs, sk, pn, pt) from if_pos c_5]; exact hz⟩ (Nat.le_of_ble_eq_true rfl) (Nat.le_of_ble_eq_true rfl) dX7_remove_9

def mvR (R : Nat → Nat → Nat) (a b : Nat) : Nat → Nat → Nat := insR (rmR R a) b (R a)
def fMove (z : ST) (a b : Int32) : Int32 := if inI a 0 ((z.1 : Int) - 1) = 0 ∨ inI b 0 ((z.1 : Int) - 1) = 0 then -1 else nI (z.2.1 (tn a) 1)
def gMove (z : ST) (a b : Int32) : ST := if inI a 0 ((z.1 : Int) - 1) = 0 ∨ inI b 0 ((z.1 : Int) - 1) = 0 then z else gAnew (z.1, mvR z.2.1 (tn a) (tn b), z.2.2)
theorem fm_step {g : Nat → Int32} {i : Nat} {v : Int32} {q : Nat → Nat} (hi : i < 2 ^ 31) (h : ∀ j, j < i → g j = nI (q j)) (e : v = nI (q i)) : ∀ j, j < i + 1 → upd g (nI i).toNatClampNeg v j = nI (q j) := by
  intro j hj
  rw [nI_clamp hi]
  by_cases c : j = i
  · simp [upd, c, e]
  · simp [upd, c, h j (by omega)]
theorem dn_step {g f : Nat → Int32} {n y : Nat} (hy : 1 ≤ y) (hn : y + 14 ≤ n) (hn2 : n < 2 ^ 30) (h : ∀ j, g j = if y + 14 ≤ j ∧ j < n then f (j - 14) else f j) : ∀ j, upd g (nI ((y - 1) + 14)).toNatClampNeg (g (nI (y - 1)).toNatClampNeg) j = if (y - 1) + 14 ≤ j ∧ j < n then f (j - 14) else f j := by
  intro j
  rw [nI_clamp (by omega), nI_clamp (by omega)]
  by_cases c : j = (y - 1) + 14
  · subst c
    rw [if_pos (by omega)]
    simp only [upd, if_true]
    rw [h, if_neg (by omega)]
    exact congrArg f (by omega)
  · simp only [upd, if_neg c]
    rw [h]
    by_cases d : y + 14 ≤ j ∧ j < n
    · rw [if_pos d, if_pos (by omega)]
    · rw [if_neg d, if_neg (by omega)]
theorem dn_lt {y b : Nat} (hy : y < 2 ^ 30) (hb : b < 2 ^ 30) : (nI y - 1 : Int32) < nI b ↔ y ≤ b := by
  show (nI y - nI 1 : Int32) < nI b ↔ _
  rw [Int32.lt_iff_toInt_lt, pk_sub_toInt (a := y) (b := 1) (by omega) (by decide), nI_toInt (by omega)]
  omega
theorem dn_sub {y : Nat} (hy : 1 ≤ y) : (nI y - 1 : Int32) = nI (y - 1) := pk_sub (a := y) (b := 1) hy
theorem dn_dec {y : Nat} (hy : 1 ≤ y) : (nI (y - 1) - 1 : Int32) = nI y - 1 + (-1) := by
  rw [← dn_sub hy, Int32.sub_eq_add_neg]
theorem mv_step {g f : Nat → Int32} {b i : Nat} {q : Nat → Nat} {v : Int32} (hi : 14 * b + i < 2 ^ 31) (h14 : i < 14) (h1 : ∀ j, j < 14 * b ∨ 14 * b + 14 ≤ j → g j = f j) (h2 : ∀ j, j < i → g (14 * b + j) = nI (q j)) (e : v = nI (q i)) : (∀ j, j < 14 * b ∨ 14 * b + 14 ≤ j → upd g (nI (14 * b + i)).toNatClampNeg v j = f j) ∧ (∀ j, j < i + 1 → upd g (nI (14 * b + i)).toNatClampNeg v (14 * b + j) = nI (q j)) := by
  rw [nI_clamp hi]
  refine ⟨fun j hj => ?_, fun j hj => ?_⟩
  · have : ¬ j = 14 * b + i := by omega
    simp [upd, this, h1 j hj]
  · by_cases c : j = i
    · simp [upd, c, e]
    · simp [upd, c, h2 j (by omega)]
set_option maxHeartbeats 4000000 in
set_option maxRecDepth 100000 in
theorem c_X7_move (l : Launch) (G : HG) (A : Nat → Prop) (hp : HP) (sz : Nat) (hA : ∀ q, sz ≤ q → A q) (hO : Ow A hp) (M : Nat → Nat) (sc : Nat → Int32) (ar : Nat → Nat → Int32) (sm : Nat → Int64) (hM : MR G hp M sc ar sm) (n : Nat) (R : Nat → Nat → Nat) (hd : Nat → Nat) (k : Nat) (cs : Nat → Nat → Int32) (sk : Bool) (pn : Nat) (pt : Nat → Nat) (hz : MST (n, R, hd, k, cs, sk, pn, pt) sc ar) (a b : Int32) : Met l yX7_move [.code yX7_move cX7_move 4 (some .int)] { frames := 2, cells := 0, slots := 0, locals := 43 } (va_Pc [.ref (M 0), .int a, .int b] (WP G A sz hp)) (va_Qi (fun r hp1 => r = fMove (n, R, hd, k, cs, sk, pn, pt) a b ∧ ∃ sc1 ar1 sm1, MR G hp1 M sc1 ar1 sm1 ∧ MST (gMove (n, R, hd, k, cs, sk, pn, pt) a b) sc1 ar1) (WB G A) A) 0 0 A := by
  refine wr_ofW (by decide) (Nat.le_of_ble_eq_true rfl) hO ?_
  intro p e s m args below meth c ls X hr hlk hnm hsz hW hl
  have hA : ∀ q, s.heap.size ≤ q → A q := fun q h => hA q (by omega)
  have hl : lv_has ls 4 [(0, .ref (M 0)), (1, .int a), (2, .int b)] := hl
  have hT : MT ar := hz.1
  have hU : MU n R sc ar := hz.2.1
  have hH2 : MH hd ar := hz.2.2.1
  have hau : MAu k cs sk sc ar := hz.2.2.2.1
  have hP : MP pn pt sc ar := hz.2.2.2.2
  have hn := hU.2.1
  have hk := hau.2.1
  refine lv_aload_n X.1 X.2.1 dX7_move_0 rfl (lv_at hl 0 rfl) ?_
  refine lv_iload_n X.1 X.2.1 dX7_move_1 rfl (lv_at hl 1 rfl) ?_
  refine on_Si (run_V (C := RX7) (As := [.int a]) (rest := []) X (c_X7_isRule l G hp M sc ar sm hM n R hU a ) (rp_blind _) (rp_at X hW.1 hW.2.2) (recv X hW.1 hM.1 (C := RX7) (T := TX7) (N := 19) rfl) mf_X7_isRule tw_930 tw_932 tw_31 ⟨rfl, rfl, Nat.le_of_ble_eq_true rfl, Nat.le_of_ble_eq_true rfl⟩ hl.1 rfl rfl (Nat.le_of_ble_eq_true rfl) ⟨Nat.le_of_ble_eq_true rfl, Nat.le_of_ble_eq_true rfl⟩ dX7_move_2) (fun r_2 q_2 => ?_)
  obtain rfl : r_2 = (inI a 0 ((n : Int) - 1)) := q_2
  refine lv_if_eq (tgt := 16) X.1 X.2.1 dX7_move_5 (by decide) (fun c_5 => ?_) (fun c_5 => ?_)
  · refine lv_iconst (v := (-1)) X.1 X.2.1 dX7_move_16 (by decide) ?_
    exact wr_i X hr hlk hW ⟨(if_pos (Or.inl c_5)).symm, _, _, _, hM, by rw [show gMove (n, R, hd, k, cs, sk, pn, pt) a b = (n, R, hd, k, cs, sk, pn, pt) from if_pos (Or.inl c_5)]; exact hz⟩ (Nat.le_of_ble_eq_true rfl) (Nat.le_of_ble_eq_true rfl) dX7_move_17
  · obtain ⟨xa, hxa, rfl⟩ := ru_nat hU.2.1 c_5
    refine lv_aload_n X.1 X.2.1 dX7_move_8 rfl (lv_at hl 0 rfl) ?_
    refine lv_iload_n X.1 X.2.1 dX7_move_9 rfl (lv_at hl 2 rfl) ?_
    refine on_Si (run_V (C := RX7) (As := [.int b]) (rest := []) X (c_X7_isRule l G hp M sc ar sm hM n R hU b ) (rp_blind _) (rp_at X hW.1 hW.2.2) (recv X hW.1 hM.1 (C := RX7) (T := TX7) (N := 19) rfl) mf_X7_isRule tw_930 tw_932 tw_31 ⟨rfl, rfl, Nat.le_of_ble_eq_true rfl, Nat.le_of_ble_eq_true rfl⟩ hl.1 rfl rfl (Nat.le_of_ble_eq_true rfl) ⟨Nat.le_of_ble_eq_true rfl, Nat.le_of_ble_eq_true rfl⟩ dX7_move_10) (fun r_10 q_10 => ?_)
    obtain rfl : r_10 = (inI b 0 ((n : Int) - 1)) := q_10
    refine lv_if_ne (tgt := 18) X.1 X.2.1 dX7_move_13 (by decide) (fun c_13 => ?_) (fun c_13 => ?_)
    · obtain ⟨xb, hxb, rfl⟩ := ru_nat hU.2.1 c_13
      refine lv_iconst (v := 0) X.1 X.2.1 dX7_move_18 (by decide) ?_
      refine lv_istore_n (lv' := [(3, .int 0), (0, .ref (M 0)), (1, .int (nI xa)), (2, .int (nI xb))]) X.1 X.2.1 dX7_move_19 rfl hl (by decide) rfl (fun ls hl => ?_)
      have L20 : ∀ (f : Nat) (i : Nat) (hpL : HP) (H : Heap) (locs : List Loc) (g : Nat → Int32), MR G hpL M sc (va_up ar 10 g) sm → WS s G A hpL H locs → (i + f = 14) → (∀ j, j < i → g j = nI (R xa j)) → ∀ ls, lv_has ls 4 [(0, .ref (M 0)), (1, .int (nI xa)), (2, .int (nI xb)), (3, .int (nI i))] → W p l e ({ frames := 2, cells := 0, slots := 0, locals := 43 } : Room) s m args below meth c H locs 0 0 (MQ below (va_Qi (fun r hp1 => r = fMove (n, R, hd, k, cs, sk, pn, pt) (nI xa) (nI xb) ∧ ∃ sc1 ar1 sm1, MR G hp1 M sc1 ar1 sm1 ∧ MST (gMove (n, R, hd, k, cs, sk, pn, pt) (nI xa) (nI xb)) sc1 ar1) (WB G A) A) args s 0 0 A) (F0 m 20 ls []) := by
        intro f
        induction f with
        | zero =>
          intro i hpL H locs g hM hW h0 h1 ls hl
          have h14 : i = 14 := by omega
          have hfr : ∀ j, j < 14 → g j = nI (R xa j) := fun j hj => h1 j (by omega)
          have fg := g
          refine lv_iload_n X.1 X.2.1 dX7_move_20 rfl (lv_at hl 3 rfl) ?_
          refine lv_bipush (v := 14) X.1 X.2.1 dX7_move_21 (by decide) ?_
          refine lv_icmp_ge (tgt := 44) X.1 X.2.1 dX7_move_23 (by decide) (fun c_23 => ?_) (fun c_23 => absurd (nI_le (a := 14) (b := i) (by omega) (by omega)) c_23)
          refine lv_aload_n X.1 X.2.1 dX7_move_44 rfl (lv_at hl 0 rfl) ?_
          refine lv_iload_n X.1 X.2.1 dX7_move_45 rfl (lv_at hl 1 rfl) ?_
          refine on_Wv (k' := 0) (n' := 0) (run_V (C := RX7) (As := [.int (nI xa)]) (rest := []) X (c_X7_takeOut l G A hpL _ (fun q h => hA q (Nat.le_trans hW.2.2.1 h)) hW.2.1 M sc (va_up ar 10 g) sm hM n R hU xa (by omega)) (wp_blind _) (wp_at X hW.1 hW.2.2) (recv X hW.1 hM.1 (C := RX7) (T := TX7) (N := 19) rfl) mf_X7_takeOut tw_954 tw_956 tw_35 ⟨rfl, rfl, Nat.le_of_ble_eq_true rfl, Nat.le_of_ble_eq_true rfl⟩ hl.1 rfl rfl (Nat.le_of_ble_eq_true rfl) ⟨Nat.le_of_ble_eq_true rfl, Nat.le_of_ble_eq_true rfl⟩ dX7_move_46) hW (by omega) (by omega) (fun hp_1 H locs q_46 hW => ?_)
          obtain ⟨g5, hM, hg5⟩ := q_46
          refine lv_bipush (v := 14) X.1 X.2.1 dX7_move_49 (by decide) ?_
          refine lv_aload_n X.1 X.2.1 dX7_move_51 rfl (lv_at hl 0 rfl) ?_
          refine r_get X hW.1 hM.1 (v := .int (nI (n - 1))) (C := RX7) (T := TX7) (N := 19) rfl tin_X7 1 (by decide) tw_844 (fun _ h => h) rfl dX7_move_52 ?_
          refine lv_imul X.1 X.2.1 dX7_move_55 ?_
          refine r_eqi (show (((14 : Int32) * (nI (n - 1))) : Int32) = nI (14 * (n - 1)) from pk_mul 14 (n - 1)) ?_
          refine lv_iconst (v := 1) X.1 X.2.1 dX7_move_56 (by decide) ?_
          refine lv_isub X.1 X.2.1 dX7_move_57 ?_
          refine lv_istore_n (lv' := [(3, .int ((nI (14 * (n - 1))) - 1)), (0, .ref (M 0)), (1, .int (nI xa)), (2, .int (nI xb))]) X.1 X.2.1 dX7_move_58 rfl hl (by decide) rfl (fun ls hl => ?_)
          have L592 : ∀ (f2 : Nat) (y : Nat) (hpL : HP) (H : Heap) (locs : List Loc) (g2 : Nat → Int32), MR G hpL M (va_up sc 0 (nI (n - 1))) (va_up (va_up (va_up ar 10 g) 0 g5) 0 g2) sm → WS s G A hpL H locs → (y = f2 + 14 * xb) → (y ≤ 14 * (n - 1)) → (∀ j, g2 j = if y + 14 ≤ j ∧ j < 14 * n then g5 (j - 14) else g5 j) → ∀ ls, lv_has ls 4 [(0, .ref (M 0)), (1, .int (nI xa)), (2, .int (nI xb)), (3, .int (nI y - 1))] → W p l e ({ frames := 2, cells := 0, slots := 0, locals := 43 } : Room) s m args below meth c H locs 0 0 (MQ below (va_Qi (fun r hp1 => r = fMove (n, R, hd, k, cs, sk, pn, pt) (nI xa) (nI xb) ∧ ∃ sc1 ar1 sm1, MR G hp1 M sc1 ar1 sm1 ∧ MST (gMove (n, R, hd, k, cs, sk, pn, pt) (nI xa) (nI xb)) sc1 ar1) (WB G A) A) args s 0 0 A) (F0 m 59 ls []) := by
            intro f2
            induction f2 with
            | zero =>
              intro y hpL H locs g2 hM hW h20 h21 h22 ls hl
              have hy0 : y = 14 * xb := by omega
              subst hy0
              refine lv_iload_n X.1 X.2.1 dX7_move_59 rfl (lv_at hl 3 rfl) ?_
              refine lv_bipush (v := 14) X.1 X.2.1 dX7_move_60 (by decide) ?_
              refine lv_iload_n X.1 X.2.1 dX7_move_62 rfl (lv_at hl 2 rfl) ?_
              refine lv_imul X.1 X.2.1 dX7_move_63 ?_
              refine r_eqi (show (((14 : Int32) * (nI xb)) : Int32) = nI (14 * xb) from pk_mul 14 xb) ?_
              refine lv_icmp_lt (tgt := 88) X.1 X.2.1 dX7_move_64 (by decide) (fun c_64 => ?_) (fun c_64 => absurd ((dn_lt (by omega) (by omega)).mpr (by omega)) c_64)
              refine lv_iconst (v := 0) X.1 X.2.1 dX7_move_88 (by decide) ?_
              refine lv_istore_n (lv' := [(3, .int 0), (0, .ref (M 0)), (1, .int (nI xa)), (2, .int (nI xb))]) X.1 X.2.1 dX7_move_89 rfl hl (by decide) rfl (fun ls hl => ?_)
              have L903 : ∀ (f3 : Nat) (i3 : Nat) (hpL : HP) (H : Heap) (locs : List Loc) (g3 : Nat → Int32), MR G hpL M (va_up sc 0 (nI (n - 1))) (va_up (va_up (va_up (va_up ar 10 g) 0 g5) 0 g2) 0 g3) sm → WS s G A hpL H locs → (i3 + f3 = 14) → ((∀ j, j < 14 * xb ∨ 14 * xb + 14 ≤ j → g3 j = g2 j) ∧ (∀ j, j < i3 → g3 (14 * xb + j) = nI (R xa j))) → ∀ ls, lv_has ls 4 [(0, .ref (M 0)), (1, .int (nI xa)), (2, .int (nI xb)), (3, .int (nI i3))] → W p l e ({ frames := 2, cells := 0, slots := 0, locals := 43 } : Room) s m args below meth c H locs 0 0 (MQ below (va_Qi (fun r hp1 => r = fMove (n, R, hd, k, cs, sk, pn, pt) (nI xa) (nI xb) ∧ ∃ sc1 ar1 sm1, MR G hp1 M sc1 ar1 sm1 ∧ MST (gMove (n, R, hd, k, cs, sk, pn, pt) (nI xa) (nI xb)) sc1 ar1) (WB G A) A) args s 0 0 A) (F0 m 90 ls []) := by
                intro f3
                induction f3 with
                | zero =>
                  intro i3 hpL H locs g3 hM hW h30 h31 ls hl
                  have h14b : i3 = 14 := by omega
                  refine lv_iload_n X.1 X.2.1 dX7_move_90 rfl (lv_at hl 3 rfl) ?_
                  refine lv_bipush (v := 14) X.1 X.2.1 dX7_move_91 (by decide) ?_
                  refine lv_icmp_ge (tgt := 119) X.1 X.2.1 dX7_move_93 (by decide) (fun c_93 => ?_) (fun c_93 => absurd (nI_le (a := 14) (b := i3) (by omega) (by omega)) c_93)
                  refine lv_aload_n X.1 X.2.1 dX7_move_119 rfl (lv_at hl 0 rfl) ?_
                  refine lv_dup X.1 X.2.1 dX7_move_120 rfl ?_
                  refine r_get X hW.1 hM.1 (v := .int (nI (n - 1))) (C := RX7) (T := TX7) (N := 19) rfl tin_X7 1 (by decide) tw_844 (fun _ h => h) rfl dX7_move_121 ?_
                  refine lv_iconst (v := 1) X.1 X.2.1 dX7_move_124 (by decide) ?_
                  refine lv_iadd X.1 X.2.1 dX7_move_125 ?_
                  refine r_eqi (show (((nI (n - 1)) + 1) : Int32) = nI n from (nI_add (n - 1) 1).trans (by rw [show n - 1 + 1 = n by omega])) ?_
                  refine r_put X hW hM.1 (v := .int (nI n)) (C := RX7) (T := TX7) (N := 19) rfl tin_X7 tyX7_ok nmX7 1 (Nat.le_of_ble_eq_true rfl) tw_844 (fun _ h => h) rfl rfl rfl (Nat.le_of_ble_eq_true rfl) dX7_move_126 (fun hp_2 H locs hW eh_3 => ?_)
                  have hM := mr_sc0 hM eh_3
                  have hUf : MU n (mvR R xa xb) (va_up (va_up sc 0 (nI (n - 1))) 0 (nI n)) (va_up (va_up ar 0 g5) 0 g3) := by
                    have hx := mu_ins (mu_rm hU hxa hg5) (by omega) (show xb ≤ n - 1 by omega) (fun j hj => hU.2.2.2 xa j hxa hj) (g := g3) (fun j hj => ?_) (fun j hj => h31.2 j (by omega)) (fun j hj hj2 => ?_)
                    · rw [show n - 1 + 1 = n by omega] at hx
                      exact hx
                    · rw [h31.1 j (Or.inl hj), h22, if_neg (by omega)]; rfl
                    · rw [h31.1 j (Or.inr (by omega)), h22, if_pos (by omega)]; rfl
                  refine lv_aload_n X.1 X.2.1 dX7_move_129 rfl (lv_at hl 0 rfl) ?_
                  refine on_Wv (k' := 0) (n' := 0) (run_V (C := RX7) (As := []) (rest := []) X (c_X7_anew l G A hp_2 _ (fun q h => hA q (Nat.le_trans hW.2.2.1 h)) hW.2.1 M (va_up (va_up sc 0 (nI (n - 1))) 0 (nI n)) (va_up (va_up (va_up (va_up ar 10 g) 0 g5) 0 g2) 0 g3) sm hM) (wp_blind _) (wp_at X hW.1 hW.2.2) (recv X hW.1 hM.1 (C := RX7) (T := TX7) (N := 19) rfl) mf_X7_anew tw_839 tw_841 tw_26 ⟨rfl, rfl, Nat.le_of_ble_eq_true rfl, Nat.le_of_ble_eq_true rfl⟩ hl.1 rfl rfl (Nat.le_of_ble_eq_true rfl) ⟨Nat.le_of_ble_eq_true rfl, Nat.le_of_ble_eq_true rfl⟩ dX7_move_130) hW (by omega) (by omega) (fun hp_4 H locs q_130 hW => ?_)
                  have hM := q_130
                  refine lv_aload_n X.1 X.2.1 dX7_move_133 rfl (lv_at hl 0 rfl) ?_
                  refine lv_iload_n X.1 X.2.1 dX7_move_134 rfl (lv_at hl 2 rfl) ?_
                  refine lv_iconst (v := 1) X.1 X.2.1 dX7_move_135 (by decide) ?_
                  refine on_Si (run_V (C := RX7) (As := [.int (nI xb), .int 1]) (rest := []) X (c_X7_of l G hp_4 M (anS (va_up (va_up sc 0 (nI (n - 1))) 0 (nI n))) (anR (va_up (va_up (va_up (va_up ar 10 g) 0 g5) 0 g2) 0 g3)) sm hM xb 1 (by omega) (by decide)) (rp_blind _) (rp_at X hW.1 hW.2.2) (recv X hW.1 hM.1 (C := RX7) (T := TX7) (N := 19) rfl) mf_X7_of tw_922 tw_924 tw_30 ⟨rfl, rfl, Nat.le_of_ble_eq_true rfl, Nat.le_of_ble_eq_true rfl⟩ hl.1 rfl rfl (Nat.le_of_ble_eq_true rfl) ⟨Nat.le_of_ble_eq_true rfl, Nat.le_of_ble_eq_true rfl⟩ dX7_move_136) (fun r_136 q_136 => ?_)
                  exact wr_i X hr hlk hW ⟨(by rw [show fMove (n, R, hd, k, cs, sk, pn, pt) (nI xa) (nI xb) = nI (R (tn (nI xa)) 1) from if_neg (fun q => Or.elim q c_5 c_13), tn_n (by omega)]; exact q_136.trans (h31.2 1 (by omega))), _, _, _, hM, by rw [show gMove (n, R, hd, k, cs, sk, pn, pt) (nI xa) (nI xb) = _ from if_neg (fun q => Or.elim q c_5 c_13), tn_n (by omega), tn_n (by omega)]; exact MST.anew (z := (n, mvR R xa xb, hd, k, cs, sk, pn, pt)) ⟨hT, hUf, hH2, hau, hP⟩⟩ (Nat.le_of_ble_eq_true rfl) (Nat.le_of_ble_eq_true rfl) dX7_move_139
                | succ f3 ih3 =>
                  intro i3 hpL H locs g3 hM hW h30 h31 ls hl
                  have h14b : i3 < 14 := by omega
                  refine lv_iload_n X.1 X.2.1 dX7_move_90 rfl (lv_at hl 3 rfl) ?_
                  refine lv_bipush (v := 14) X.1 X.2.1 dX7_move_91 (by decide) ?_
                  refine lv_icmp_ge (tgt := 119) X.1 X.2.1 dX7_move_93 (by decide) (fun c_93 => absurd c_93 (nI_ge (a := i3) (b := 14) (by omega) (by decide))) (fun c_93 => ?_)
                  refine lv_aload_n X.1 X.2.1 dX7_move_96 rfl (lv_at hl 0 rfl) ?_
                  refine r_get X hW.1 hM.1 (v := .ref (M 1)) (C := RX7) (T := TX7) (N := 19) rfl tin_X7 0 (by decide) tw_843 (fun _ h => h) rfl dX7_move_97 ?_
                  refine lv_bipush (v := 14) X.1 X.2.1 dX7_move_100 (by decide) ?_
                  refine lv_iload_n X.1 X.2.1 dX7_move_102 rfl (lv_at hl 2 rfl) ?_
                  refine lv_imul X.1 X.2.1 dX7_move_103 ?_
                  refine r_eqi (show (((14 : Int32) * (nI xb)) : Int32) = nI (14 * xb) from pk_mul 14 xb) ?_
                  refine lv_iload_n X.1 X.2.1 dX7_move_104 rfl (lv_at hl 3 rfl) ?_
                  refine lv_iadd X.1 X.2.1 dX7_move_105 ?_
                  refine r_eqi (show (((nI (14 * xb)) + (nI i3)) : Int32) = nI ((14 * xb) + i3) from nI_add (14 * xb) i3) ?_
                  refine lv_aload_n X.1 X.2.1 dX7_move_106 rfl (lv_at hl 0 rfl) ?_
                  refine r_get X hW.1 hM.1 (v := .ref (M 11)) (C := RX7) (T := TX7) (N := 19) rfl tin_X7 14 (by decide) tw_857 (fun _ h => h) rfl dX7_move_107 ?_
                  refine lv_iload_n X.1 X.2.1 dX7_move_110 rfl (lv_at hl 3 rfl) ?_
                  refine r_iald X hW.1 (hM.2.1 10 (by decide)) (show vp_in ((nI i3)) 14 from vp_in_nI (n := i3) (by omega) (by decide)) dX7_move_111 ?_
                  refine r_iast X hW (hM.2.1 0 (by decide)) (show vp_in ((nI ((14 * xb) + i3))) 336 from vp_in_nI (n := ((14 * xb) + i3)) (by omega) (by decide)) dX7_move_112 (fun hp_5 H locs hW eh_6 => ?_)
                  have hM := mr_ar hM 0 (by decide) eh_6
                  refine lv_iinc (v := (nI (i3 + 1))) (lv' := [(3, .int (nI (i3 + 1))), (0, .ref (M 0)), (1, .int (nI xa)), (2, .int (nI xb))]) X.1 X.2.1 dX7_move_113 hl (k := 3) rfl (nI_add i3 1) (by decide) rfl (fun ls hl => ?_)
                  refine lv_goto (tgt := 90) X.1 X.2.1 dX7_move_116 (by decide) ?_
                  exact ih3 (i3 + 1) _ _ _ _ (mr_uu hM) hW (by omega) (mv_step (by omega) h14b h31.1 h31.2 (by rw [nI_clamp (by omega)]; exact hfr i3 h14b)) ls (lv_sub hl [1, 2, 3, 0] rfl)
              exact L903 14 0 _ _ _ _ (mr_id 0 hM) hW rfl ⟨fun j _ => rfl, fun j hj => absurd hj (Nat.not_lt_zero j)⟩ ls (lv_sub hl [1, 2, 3, 0] rfl)
            | succ f2 ih2 =>
              intro y hpL H locs g2 hM hW h20 h21 h22 ls hl
              have hy1 : 1 ≤ y ∧ 14 * xb < y := by omega
              refine lv_iload_n X.1 X.2.1 dX7_move_59 rfl (lv_at hl 3 rfl) ?_
              refine lv_bipush (v := 14) X.1 X.2.1 dX7_move_60 (by decide) ?_
              refine lv_iload_n X.1 X.2.1 dX7_move_62 rfl (lv_at hl 2 rfl) ?_
              refine lv_imul X.1 X.2.1 dX7_move_63 ?_
              refine r_eqi (show (((14 : Int32) * (nI xb)) : Int32) = nI (14 * xb) from pk_mul 14 xb) ?_
              refine lv_icmp_lt (tgt := 88) X.1 X.2.1 dX7_move_64 (by decide) (fun c_64 => absurd c_64 (fun q => absurd ((dn_lt (by omega) (by omega)).mp q) (by omega))) (fun c_64 => ?_)
              refine lv_aload_n X.1 X.2.1 dX7_move_67 rfl (lv_at hl 0 rfl) ?_
              refine r_get X hW.1 hM.1 (v := .ref (M 1)) (C := RX7) (T := TX7) (N := 19) rfl tin_X7 0 (by decide) tw_843 (fun _ h => h) rfl dX7_move_68 ?_
              refine lv_iload_n X.1 X.2.1 dX7_move_71 rfl (lv_at hl 3 rfl) ?_
              refine r_eqi (dn_sub (show 1 ≤ y by omega)) ?_
              refine lv_bipush (v := 14) X.1 X.2.1 dX7_move_72 (by decide) ?_
              refine lv_iadd X.1 X.2.1 dX7_move_74 ?_
              refine r_eqi (show (((nI (y - 1)) + 14) : Int32) = nI ((y - 1) + 14) from nI_add (y - 1) 14) ?_
              refine lv_aload_n X.1 X.2.1 dX7_move_75 rfl (lv_at hl 0 rfl) ?_
              refine r_get X hW.1 hM.1 (v := .ref (M 1)) (C := RX7) (T := TX7) (N := 19) rfl tin_X7 0 (by decide) tw_843 (fun _ h => h) rfl dX7_move_76 ?_
              refine lv_iload_n X.1 X.2.1 dX7_move_79 rfl (lv_at hl 3 rfl) ?_
              refine r_eqi (dn_sub (show 1 ≤ y by omega)) ?_
              refine r_iald X hW.1 (hM.2.1 0 (by decide)) (show vp_in ((nI (y - 1))) 336 from vp_in_nI (n := (y - 1)) (by omega) (by decide)) dX7_move_80 ?_
              refine r_iast X hW (hM.2.1 0 (by decide)) (show vp_in ((nI ((y - 1) + 14))) 336 from vp_in_nI (n := ((y - 1) + 14)) (by omega) (by decide)) dX7_move_81 (fun hp_7 H locs hW eh_8 => ?_)
              have hM := mr_ar hM 0 (by decide) eh_8
              obtain ⟨v_82, e_82⟩ : ∃ y9 : Int32, y9 = (nI y - 1) + (-1) := ⟨_, rfl⟩
              refine lv_iinc (v := v_82) (lv' := [(3, .int v_82), (0, .ref (M 0)), (1, .int (nI xa)), (2, .int (nI xb))]) X.1 X.2.1 dX7_move_82 hl (k := 3) rfl (by rw [e_82]; rfl) (by decide) rfl (fun ls hl => ?_)
              refine lv_goto (tgt := 59) X.1 X.2.1 dX7_move_85 (by decide) ?_
              exact ih2 (y - 1) _ _ _ _ (mr_uu hM) hW (by omega) (by omega) (dn_step (by omega) (by omega) (by omega) h22) ls (by rw [dn_dec (show 1 ≤ y by omega), ← e_82]; exact (lv_sub hl [1, 2, 3, 0] rfl))
          exact L592 (14 * (n - 1) - 14 * xb) (14 * (n - 1)) _ _ _ _ (mr_id 0 hM) hW (by omega) (Nat.le_refl _) (fun j => (if_neg (by omega)).symm) ls (lv_sub hl [1, 2, 3, 0] rfl)
        | succ f ih =>
          intro i hpL H locs g hM hW h0 h1 ls hl
          have h14 : i < 14 := by omega
          refine lv_iload_n X.1 X.2.1 dX7_move_20 rfl (lv_at hl 3 rfl) ?_
          refine lv_bipush (v := 14) X.1 X.2.1 dX7_move_21 (by decide) ?_
          refine lv_icmp_ge (tgt := 44) X.1 X.2.1 dX7_move_23 (by decide) (fun c_23 => absurd c_23 (nI_ge (a := i) (b := 14) (by omega) (by decide))) (fun c_23 => ?_)
          refine lv_aload_n X.1 X.2.1 dX7_move_26 rfl (lv_at hl 0 rfl) ?_
          refine r_get X hW.1 hM.1 (v := .ref (M 11)) (C := RX7) (T := TX7) (N := 19) rfl tin_X7 14 (by decide) tw_857 (fun _ h => h) rfl dX7_move_27 ?_
          refine lv_iload_n X.1 X.2.1 dX7_move_30 rfl (lv_at hl 3 rfl) ?_
          refine lv_aload_n X.1 X.2.1 dX7_move_31 rfl (lv_at hl 0 rfl) ?_
          refine lv_iload_n X.1 X.2.1 dX7_move_32 rfl (lv_at hl 1 rfl) ?_
          refine lv_iload_n X.1 X.2.1 dX7_move_33 rfl (lv_at hl 3 rfl) ?_
          refine on_Si (run_V (C := RX7) (As := [.int (nI xa), .int (nI i)]) (rest := [.int (nI i), .ref (M 11)]) X (c_X7_of l G hpL M sc (va_up ar 10 g) sm hM xa i (by omega) (by omega)) (rp_blind _) (rp_at X hW.1 hW.2.2) (recv X hW.1 hM.1 (C := RX7) (T := TX7) (N := 19) rfl) mf_X7_of tw_922 tw_924 tw_30 ⟨rfl, rfl, Nat.le_of_ble_eq_true rfl, Nat.le_of_ble_eq_true rfl⟩ hl.1 rfl rfl (Nat.le_of_ble_eq_true rfl) ⟨Nat.le_of_ble_eq_true rfl, Nat.le_of_ble_eq_true rfl⟩ dX7_move_34) (fun r_34 q_34 => ?_)
          obtain rfl : r_34 = nI (R xa i) := q_34.trans (hU.2.2.1 xa i (by omega) (by omega))
          refine r_iast X hW (hM.2.1 10 (by decide)) (show vp_in ((nI i)) 14 from vp_in_nI (n := i) (by omega) (by decide)) dX7_move_37 (fun hp_9 H locs hW eh_10 => ?_)
          have hM := mr_ar hM 10 (by decide) eh_10
          refine lv_iinc (v := (nI (i + 1))) (lv' := [(3, .int (nI (i + 1))), (0, .ref (M 0)), (1, .int (nI xa)), (2, .int (nI xb))]) X.1 X.2.1 dX7_move_38 hl (k := 3) rfl (nI_add i 1) (by decide) rfl (fun ls hl => ?_)
          refine lv_goto (tgt := 20) X.1 X.2.1 dX7_move_41 (by decide) ?_
          exact ih (i + 1) _ _ _ _ (mr_uu hM) hW (by omega) (fm_step (by omega) h1 rfl) ls (lv_sub hl [1, 2, 3, 0] rfl)
      exact L20 14 0 _ _ _ _ (mr_id 10 hM) hW rfl (fun j hj => absurd hj (Nat.not_lt_zero j)) ls (lv_sub hl [1, 2, 3, 0] rfl)
    · refine lv_iconst (v := (-1)) X.1 X.2.1 dX7_move_16 (by decide) ?_
      exact wr_i X hr hlk hW ⟨(if_pos (Or.inr c_13)).symm, _, _, _, hM, by rw [show gMove (n, R, hd, k, cs, sk, pn, pt) (nI xa) b = (n, R, hd, k, cs, sk, pn, pt) from if_pos (Or.inr c_13)]; exact hz⟩ (Nat.le_of_ble_eq_true rfl) (Nat.le_of_ble_eq_true rfl) dX7_move_17

