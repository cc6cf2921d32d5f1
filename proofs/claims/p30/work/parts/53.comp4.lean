/-! a range of a rule -/
def slR (q : Nat → Nat) (w lo hi : Nat) : Nat → Nat := fun j => if j = 5 + 2 * w then hi else if j = 4 + 2 * w then lo else q j
theorem an63 : ∀ a, a < 32 → a &&& 63 = a ∧ a &&& 32 = 0 := by decide +kernel
theorem and_fs (a b c d e m0 m1 m2 m3 m4 : Nat) (ha : a < 64) (hb : b < 64) (hc : c < 64) (hd : d < 64) (h0 : m0 < 64) (h1 : m1 < 64) (h2 : m2 < 64) (h3 : m3 < 64) : f5 a b c d e &&& f5 m0 m1 m2 m3 m4 = f5 (a &&& m0) (b &&& m1) (c &&& m2) (d &&& m3) (e &&& m4) := by
  unfold f5
  rw [and64 _ _ _ _ ha h0, and64 _ _ _ _ hb h1, and64 _ _ _ _ hc h2, and64 _ _ _ _ hd h3]
theorem or_fs (a b c d e m0 m1 m2 m3 m4 : Nat) (ha : a < 64) (hb : b < 64) (hc : c < 64) (hd : d < 64) (h0 : m0 < 64) (h1 : m1 < 64) (h2 : m2 < 64) (h3 : m3 < 64) : f5 a b c d e ||| f5 m0 m1 m2 m3 m4 = f5 (a ||| m0) (b ||| m1) (c ||| m2) (d ||| m3) (e ||| m4) := by
  unfold f5
  rw [or64 _ _ _ _ ha h0, or64 _ _ _ _ hb h1, or64 _ _ _ _ hc h2, or64 _ _ _ _ hd h3]
theorem an991 : ∀ a, a < 32 → a &&& 255 = a ∧ a &&& 224 = 0 := by decide +kernel
theorem sr_0 {a b c d e l : Nat} (ha : a < 32) (hb : b < 32) (hc : c < 32) (hd : d < 32) (he : e < 32) (hl : l < 32) : (f5 a b c d e &&& 4294967264) ||| (l * 1) = f5 l b c d e := by
  have e1 : (4294967264 : Nat) = f5 32 63 63 63 255 := by decide
  have e2 : l * 1 = f5 l 0 0 0 0 := by unfold f5; omega
  rw [e1, e2, and_fs _ _ _ _ _ _ _ _ _ _ (by omega) (by omega) (by omega) (by omega) (by decide) (by decide) (by decide) (by decide), (an63 a ha).2, (an63 b hb).1, (an63 c hc).1, (an63 d hd).1, (an991 e he).1, or_fs _ _ _ _ _ _ _ _ _ _ (by omega) (by omega) (by omega) (by omega) (by omega) (by omega) (by omega) (by omega)]
  simp only [Nat.or_zero, Nat.zero_or]
theorem sr_1 {a b c d e l : Nat} (ha : a < 32) (hb : b < 32) (hc : c < 32) (hd : d < 32) (he : e < 32) (hl : l < 32) : (f5 a b c d e &&& 4294965311) ||| (l * 64) = f5 a l c d e := by
  have e1 : (4294965311 : Nat) = f5 63 32 63 63 255 := by decide
  have e2 : l * 64 = f5 0 l 0 0 0 := by unfold f5; omega
  rw [e1, e2, and_fs _ _ _ _ _ _ _ _ _ _ (by omega) (by omega) (by omega) (by omega) (by decide) (by decide) (by decide) (by decide), (an63 a ha).1, (an63 b hb).2, (an63 c hc).1, (an63 d hd).1, (an991 e he).1, or_fs _ _ _ _ _ _ _ _ _ _ (by omega) (by omega) (by omega) (by omega) (by omega) (by omega) (by omega) (by omega)]
  simp only [Nat.or_zero, Nat.zero_or]
theorem sr_2 {a b c d e l : Nat} (ha : a < 32) (hb : b < 32) (hc : c < 32) (hd : d < 32) (he : e < 32) (hl : l < 32) : (f5 a b c d e &&& 4294840319) ||| (l * 4096) = f5 a b l d e := by
  have e1 : (4294840319 : Nat) = f5 63 63 32 63 255 := by decide
  have e2 : l * 4096 = f5 0 0 l 0 0 := by unfold f5; omega
  rw [e1, e2, and_fs _ _ _ _ _ _ _ _ _ _ (by omega) (by omega) (by omega) (by omega) (by decide) (by decide) (by decide) (by decide), (an63 a ha).1, (an63 b hb).1, (an63 c hc).2, (an63 d hd).1, (an991 e he).1, or_fs _ _ _ _ _ _ _ _ _ _ (by omega) (by omega) (by omega) (by omega) (by omega) (by omega) (by omega) (by omega)]
  simp only [Nat.or_zero, Nat.zero_or]
theorem sr_3 {a b c d e l : Nat} (ha : a < 32) (hb : b < 32) (hc : c < 32) (hd : d < 32) (he : e < 32) (hl : l < 32) : (f5 a b c d e &&& 4286840831) ||| (l * 262144) = f5 a b c l e := by
  have e1 : (4286840831 : Nat) = f5 63 63 63 32 255 := by decide
  have e2 : l * 262144 = f5 0 0 0 l 0 := by unfold f5; omega
  rw [e1, e2, and_fs _ _ _ _ _ _ _ _ _ _ (by omega) (by omega) (by omega) (by omega) (by decide) (by decide) (by decide) (by decide), (an63 a ha).1, (an63 b hb).1, (an63 c hc).1, (an63 d hd).2, (an991 e he).1, or_fs _ _ _ _ _ _ _ _ _ _ (by omega) (by omega) (by omega) (by omega) (by omega) (by omega) (by omega) (by omega)]
  simp only [Nat.or_zero, Nat.zero_or]
theorem sr_4 {a b c d e l : Nat} (ha : a < 32) (hb : b < 32) (hc : c < 32) (hd : d < 32) (he : e < 32) (hl : l < 32) : (f5 a b c d e &&& 3774873599) ||| (l * 16777216) = f5 a b c d l := by
  have e1 : (3774873599 : Nat) = f5 63 63 63 63 224 := by decide
  have e2 : l * 16777216 = f5 0 0 0 0 l := by unfold f5; omega
  rw [e1, e2, and_fs _ _ _ _ _ _ _ _ _ _ (by omega) (by omega) (by omega) (by omega) (by decide) (by decide) (by decide) (by decide), (an63 a ha).1, (an63 b hb).1, (an63 c hc).1, (an63 d hd).1, (an991 e he).2, or_fs _ _ _ _ _ _ _ _ _ _ (by omega) (by omega) (by omega) (by omega) (by omega) (by omega) (by omega) (by omega)]
  simp only [Nat.or_zero, Nat.zero_or]
set_option maxHeartbeats 4000000 in
set_option maxRecDepth 100000 in
theorem c_X4_setRange_0 (l : Launch) (G : HG) (A : Nat → Prop) (hp : HP) (sz : Nat) (hA : ∀ q, sz ≤ q → A q) (hO : Ow A hp) (r9 : Nat) (q : Nat → Nat) (hq : ∀ j, j < 14 → q j ≤ 25) (lo9 hi9 : Nat) (hlo : lo9 ≤ 25) (hhi : hi9 ≤ 25) (hr9 : hp r9 = some (rcE q)) : Met l yX4_setRange [.code yX4_setRange cX4_setRange 5 none] { frames := 0, cells := 0, slots := 0, locals := 0 } (va_Pc [.ref r9, .int 0, .int (nI lo9), .int (nI hi9)] (WP G A sz hp)) (va_Qv (fun hp1 => hp1 = va_up hp r9 (some (rcE (slR q 0 lo9 hi9)))) (WB G A) A) 0 0 A := by
  refine wr_ofW (by decide) (Nat.le_of_ble_eq_true rfl) hO ?_
  intro p e s m args below meth c ls X hr hlk hnm hsz hW hl
  have hA : ∀ q, s.heap.size ≤ q → A q := fun q h => hA q (by omega)
  have hl : lv_has ls 5 [(0, .ref r9), (1, .int 0), (2, .int (nI lo9)), (3, .int (nI hi9))] := hl
  have b4 := hq 4 (by decide)
  have b5 := hq 5 (by decide)
  have b6 := hq 6 (by decide)
  have b7 := hq 7 (by decide)
  have b8 := hq 8 (by decide)
  have b9 := hq 9 (by decide)
  have b10 := hq 10 (by decide)
  have b11 := hq 11 (by decide)
  have b12 := hq 12 (by decide)
  have b13 := hq 13 (by decide)
  refine lv_bipush (v := 6) X.1 X.2.1 dX4_setRange_0 (by decide) ?_
  refine lv_iload_n X.1 X.2.1 dX4_setRange_2 rfl (lv_at hl 1 rfl) ?_
  refine lv_imul X.1 X.2.1 dX4_setRange_3 ?_
  refine r_eqi (show (((6 : Int32) * 0) : Int32) = 0 from (by decide)) ?_
  refine lv_istore (lv' := [(4, .int 0), (0, .ref r9), (1, .int 0), (2, .int (nI lo9)), (3, .int (nI hi9))]) X.1 X.2.1 dX4_setRange_4 hl (by decide) rfl (fun ls hl => ?_)
  refine lv_aload_n X.1 X.2.1 dX4_setRange_6 rfl (lv_at hl 1 rfl) ?_
  refine lv_aload_n X.1 X.2.1 dX4_setRange_7 rfl (lv_at hl 1 rfl) ?_
  refine r_get X hW.1 hr9 (v := .int (nI (loP q))) (C := RX4) (T := TX4) (N := 6) rfl tin_X4 4 (by decide) tw_369 (fun _ h => h) rfl dX4_setRange_8 ?_
  refine lv_bipush (v := 31) X.1 X.2.1 dX4_setRange_11 (by decide) ?_
  refine lv_iload X.1 X.2.1 dX4_setRange_13 (lv_at hl 0 rfl) ?_
  refine lv_ishl X.1 X.2.1 dX4_setRange_15 ?_
  refine r_eqi (show (((31 : Int32) <<< (0 &&& 31)) : Int32) = 31 from (by decide)) ?_
  refine lv_iconst (v := (-1)) X.1 X.2.1 dX4_setRange_16 (by decide) ?_
  refine lv_ixor X.1 X.2.1 dX4_setRange_17 ?_
  refine r_eqi (show ((31 ^^^ (-1)) : Int32) = nI 4294967264 from (by decide)) ?_
  refine lv_iand X.1 X.2.1 dX4_setRange_18 ?_
  refine r_eqi (show (((nI (loP q)) &&& (nI 4294967264)) : Int32) = nI ((loP q) &&& 4294967264) from n_and (loP q) 4294967264) ?_
  refine lv_iload_n X.1 X.2.1 dX4_setRange_19 rfl (lv_at hl 3 rfl) ?_
  refine lv_iload X.1 X.2.1 dX4_setRange_20 (lv_at hl 0 rfl) ?_
  refine lv_ishl X.1 X.2.1 dX4_setRange_22 ?_
  refine r_eqi (show (((nI lo9) <<< (0 &&& 31)) : Int32) = nI (lo9 * 1) from pk_shlN (n := lo9) _ 0 (by decide) (by omega)) ?_
  refine lv_ior X.1 X.2.1 dX4_setRange_23 ?_
  refine r_eqi (show (((nI ((loP q) &&& 4294967264)) ||| (nI (lo9 * 1))) : Int32) = nI (((loP q) &&& 4294967264) ||| (lo9 * 1)) from n_or ((loP q) &&& 4294967264) (lo9 * 1)) ?_
  refine r_put X hW hr9 (v := .int (nI (((loP q) &&& 4294967264) ||| (lo9 * 1)))) (C := RX4) (T := TX4) (N := 6) rfl tin_X4 tyX4_ok nmX4 4 (Nat.le_of_ble_eq_true rfl) tw_369 (fun _ h => h) rfl rfl rfl (Nat.le_of_ble_eq_true rfl) dX4_setRange_24 (fun hp_1 H locs hW eh_2 => ?_)
  have f_3 : hp_1 r9 = some (.inr (5, [.int (nI (q 0)), .int (nI (q 1)), .int (nI (q 2)), .int (nI (q 3)), .int (nI (((loP q) &&& 4294967264) ||| (lo9 * 1))), .int (nI (hiP q))])) := by rw [eh_2]; exact va_up_self _ _ _
  refine lv_aload_n X.1 X.2.1 dX4_setRange_27 rfl (lv_at hl 1 rfl) ?_
  refine lv_aload_n X.1 X.2.1 dX4_setRange_28 rfl (lv_at hl 1 rfl) ?_
  refine r_get X hW.1 f_3 (v := .int (nI (hiP q))) (C := RX4) (T := TX4) (N := 6) rfl tin_X4 5 (by decide) tw_370 (fun _ h => h) rfl dX4_setRange_29 ?_
  refine lv_bipush (v := 31) X.1 X.2.1 dX4_setRange_32 (by decide) ?_
  refine lv_iload X.1 X.2.1 dX4_setRange_34 (lv_at hl 0 rfl) ?_
  refine lv_ishl X.1 X.2.1 dX4_setRange_36 ?_
  refine r_eqi (show (((31 : Int32) <<< (0 &&& 31)) : Int32) = 31 from (by decide)) ?_
  refine lv_iconst (v := (-1)) X.1 X.2.1 dX4_setRange_37 (by decide) ?_
  refine lv_ixor X.1 X.2.1 dX4_setRange_38 ?_
  refine r_eqi (show ((31 ^^^ (-1)) : Int32) = nI 4294967264 from (by decide)) ?_
  refine lv_iand X.1 X.2.1 dX4_setRange_39 ?_
  refine r_eqi (show (((nI (hiP q)) &&& (nI 4294967264)) : Int32) = nI ((hiP q) &&& 4294967264) from n_and (hiP q) 4294967264) ?_
  refine lv_iload_n X.1 X.2.1 dX4_setRange_40 rfl (lv_at hl 4 rfl) ?_
  refine lv_iload X.1 X.2.1 dX4_setRange_41 (lv_at hl 0 rfl) ?_
  refine lv_ishl X.1 X.2.1 dX4_setRange_43 ?_
  refine r_eqi (show (((nI hi9) <<< (0 &&& 31)) : Int32) = nI (hi9 * 1) from pk_shlN (n := hi9) _ 0 (by decide) (by omega)) ?_
  refine lv_ior X.1 X.2.1 dX4_setRange_44 ?_
  refine r_eqi (show (((nI ((hiP q) &&& 4294967264)) ||| (nI (hi9 * 1))) : Int32) = nI (((hiP q) &&& 4294967264) ||| (hi9 * 1)) from n_or ((hiP q) &&& 4294967264) (hi9 * 1)) ?_
  refine r_put X hW f_3 (v := .int (nI (((hiP q) &&& 4294967264) ||| (hi9 * 1)))) (C := RX4) (T := TX4) (N := 6) rfl tin_X4 tyX4_ok nmX4 5 (Nat.le_of_ble_eq_true rfl) tw_370 (fun _ h => h) rfl rfl rfl (Nat.le_of_ble_eq_true rfl) dX4_setRange_45 (fun hp_4 H locs hW eh_5 => ?_)
  have f_6 : hp_4 r9 = some (.inr (5, [.int (nI (q 0)), .int (nI (q 1)), .int (nI (q 2)), .int (nI (q 3)), .int (nI (((loP q) &&& 4294967264) ||| (lo9 * 1))), .int (nI (((hiP q) &&& 4294967264) ||| (hi9 * 1)))])) := by rw [eh_5]; exact va_up_self _ _ _
  have h1 : (loP q &&& 4294967264) ||| (lo9 * 1) = loP (slR q 0 lo9 hi9) := by rw [lo_f5, lo_f5]; exact sr_0 (by omega) (by omega) (by omega) (by omega) (by omega) (by omega)
  have h2 : (hiP q &&& 4294967264) ||| (hi9 * 1) = hiP (slR q 0 lo9 hi9) := by rw [hi_f5, hi_f5]; exact sr_0 (by omega) (by omega) (by omega) (by omega) (by omega) (by omega)
  exact wr_v X hr hlk hW (by rw [eh_5, eh_2, va_uu]; unfold rcE; rw [← h1, ← h2]; rfl) (Nat.le_of_ble_eq_true rfl) (Nat.le_of_ble_eq_true rfl) dX4_setRange_48

set_option maxHeartbeats 4000000 in
set_option maxRecDepth 100000 in
theorem c_X4_setRange_1 (l : Launch) (G : HG) (A : Nat → Prop) (hp : HP) (sz : Nat) (hA : ∀ q, sz ≤ q → A q) (hO : Ow A hp) (r9 : Nat) (q : Nat → Nat) (hq : ∀ j, j < 14 → q j ≤ 25) (lo9 hi9 : Nat) (hlo : lo9 ≤ 25) (hhi : hi9 ≤ 25) (hr9 : hp r9 = some (rcE q)) : Met l yX4_setRange [.code yX4_setRange cX4_setRange 5 none] { frames := 0, cells := 0, slots := 0, locals := 0 } (va_Pc [.ref r9, .int 1, .int (nI lo9), .int (nI hi9)] (WP G A sz hp)) (va_Qv (fun hp1 => hp1 = va_up hp r9 (some (rcE (slR q 1 lo9 hi9)))) (WB G A) A) 0 0 A := by
  refine wr_ofW (by decide) (Nat.le_of_ble_eq_true rfl) hO ?_
  intro p e s m args below meth c ls X hr hlk hnm hsz hW hl
  have hA : ∀ q, s.heap.size ≤ q → A q := fun q h => hA q (by omega)
  have hl : lv_has ls 5 [(0, .ref r9), (1, .int 1), (2, .int (nI lo9)), (3, .int (nI hi9))] := hl
  have b4 := hq 4 (by decide)
  have b5 := hq 5 (by decide)
  have b6 := hq 6 (by decide)
  have b7 := hq 7 (by decide)
  have b8 := hq 8 (by decide)
  have b9 := hq 9 (by decide)
  have b10 := hq 10 (by decide)
  have b11 := hq 11 (by decide)
  have b12 := hq 12 (by decide)
  have b13 := hq 13 (by decide)
  refine lv_bipush (v := 6) X.1 X.2.1 dX4_setRange_0 (by decide) ?_
  refine lv_iload_n X.1 X.2.1 dX4_setRange_2 rfl (lv_at hl 1 rfl) ?_
  refine lv_imul X.1 X.2.1 dX4_setRange_3 ?_
  refine r_eqi (show (((6 : Int32) * 1) : Int32) = 6 from (by decide)) ?_
  refine lv_istore (lv' := [(4, .int 6), (0, .ref r9), (1, .int 1), (2, .int (nI lo9)), (3, .int (nI hi9))]) X.1 X.2.1 dX4_setRange_4 hl (by decide) rfl (fun ls hl => ?_)
  refine lv_aload_n X.1 X.2.1 dX4_setRange_6 rfl (lv_at hl 1 rfl) ?_
  refine lv_aload_n X.1 X.2.1 dX4_setRange_7 rfl (lv_at hl 1 rfl) ?_
  refine r_get X hW.1 hr9 (v := .int (nI (loP q))) (C := RX4) (T := TX4) (N := 6) rfl tin_X4 4 (by decide) tw_369 (fun _ h => h) rfl dX4_setRange_8 ?_
  refine lv_bipush (v := 31) X.1 X.2.1 dX4_setRange_11 (by decide) ?_
  refine lv_iload X.1 X.2.1 dX4_setRange_13 (lv_at hl 0 rfl) ?_
  refine lv_ishl X.1 X.2.1 dX4_setRange_15 ?_
  refine r_eqi (show (((31 : Int32) <<< (6 &&& 31)) : Int32) = 1984 from (by decide)) ?_
  refine lv_iconst (v := (-1)) X.1 X.2.1 dX4_setRange_16 (by decide) ?_
  refine lv_ixor X.1 X.2.1 dX4_setRange_17 ?_
  refine r_eqi (show ((1984 ^^^ (-1)) : Int32) = nI 4294965311 from (by decide)) ?_
  refine lv_iand X.1 X.2.1 dX4_setRange_18 ?_
  refine r_eqi (show (((nI (loP q)) &&& (nI 4294965311)) : Int32) = nI ((loP q) &&& 4294965311) from n_and (loP q) 4294965311) ?_
  refine lv_iload_n X.1 X.2.1 dX4_setRange_19 rfl (lv_at hl 3 rfl) ?_
  refine lv_iload X.1 X.2.1 dX4_setRange_20 (lv_at hl 0 rfl) ?_
  refine lv_ishl X.1 X.2.1 dX4_setRange_22 ?_
  refine r_eqi (show (((nI lo9) <<< (6 &&& 31)) : Int32) = nI (lo9 * 64) from pk_shlN (n := lo9) _ 6 (by decide) (by omega)) ?_
  refine lv_ior X.1 X.2.1 dX4_setRange_23 ?_
  refine r_eqi (show (((nI ((loP q) &&& 4294965311)) ||| (nI (lo9 * 64))) : Int32) = nI (((loP q) &&& 4294965311) ||| (lo9 * 64)) from n_or ((loP q) &&& 4294965311) (lo9 * 64)) ?_
  refine r_put X hW hr9 (v := .int (nI (((loP q) &&& 4294965311) ||| (lo9 * 64)))) (C := RX4) (T := TX4) (N := 6) rfl tin_X4 tyX4_ok nmX4 4 (Nat.le_of_ble_eq_true rfl) tw_369 (fun _ h => h) rfl rfl rfl (Nat.le_of_ble_eq_true rfl) dX4_setRange_24 (fun hp_1 H locs hW eh_2 => ?_)
  have f_3 : hp_1 r9 = some (.inr (5, [.int (nI (q 0)), .int (nI (q 1)), .int (nI (q 2)), .int (nI (q 3)), .int (nI (((loP q) &&& 4294965311) ||| (lo9 * 64))), .int (nI (hiP q))])) := by rw [eh_2]; exact va_up_self _ _ _
  refine lv_aload_n X.1 X.2.1 dX4_setRange_27 rfl (lv_at hl 1 rfl) ?_
  refine lv_aload_n X.1 X.2.1 dX4_setRange_28 rfl (lv_at hl 1 rfl) ?_
  refine r_get X hW.1 f_3 (v := .int (nI (hiP q))) (C := RX4) (T := TX4) (N := 6) rfl tin_X4 5 (by decide) tw_370 (fun _ h => h) rfl dX4_setRange_29 ?_
  refine lv_bipush (v := 31) X.1 X.2.1 dX4_setRange_32 (by decide) ?_
  refine lv_iload X.1 X.2.1 dX4_setRange_34 (lv_at hl 0 rfl) ?_
  refine lv_ishl X.1 X.2.1 dX4_setRange_36 ?_
  refine r_eqi (show (((31 : Int32) <<< (6 &&& 31)) : Int32) = 1984 from (by decide)) ?_
  refine lv_iconst (v := (-1)) X.1 X.2.1 dX4_setRange_37 (by decide) ?_
  refine lv_ixor X.1 X.2.1 dX4_setRange_38 ?_
  refine r_eqi (show ((1984 ^^^ (-1)) : Int32) = nI 4294965311 from (by decide)) ?_
  refine lv_iand X.1 X.2.1 dX4_setRange_39 ?_
  refine r_eqi (show (((nI (hiP q)) &&& (nI 4294965311)) : Int32) = nI ((hiP q) &&& 4294965311) from n_and (hiP q) 4294965311) ?_
  refine lv_iload_n X.1 X.2.1 dX4_setRange_40 rfl (lv_at hl 4 rfl) ?_
  refine lv_iload X.1 X.2.1 dX4_setRange_41 (lv_at hl 0 rfl) ?_
  refine lv_ishl X.1 X.2.1 dX4_setRange_43 ?_
  refine r_eqi (show (((nI hi9) <<< (6 &&& 31)) : Int32) = nI (hi9 * 64) from pk_shlN (n := hi9) _ 6 (by decide) (by omega)) ?_
  refine lv_ior X.1 X.2.1 dX4_setRange_44 ?_
  refine r_eqi (show (((nI ((hiP q) &&& 4294965311)) ||| (nI (hi9 * 64))) : Int32) = nI (((hiP q) &&& 4294965311) ||| (hi9 * 64)) from n_or ((hiP q) &&& 4294965311) (hi9 * 64)) ?_
  refine r_put X hW f_3 (v := .int (nI (((hiP q) &&& 4294965311) ||| (hi9 * 64)))) (C := RX4) (T := TX4) (N := 6) rfl tin_X4 tyX4_ok nmX4 5 (Nat.le_of_ble_eq_true rfl) tw_370 (fun _ h => h) rfl rfl rfl (Nat.le_of_ble_eq_true rfl) dX4_setRange_45 (fun hp_4 H locs hW eh_5 => ?_)
  have f_6 : hp_4 r9 = some (.inr (5, [.int (nI (q 0)), .int (nI (q 1)), .int (nI (q 2)), .int (nI (q 3)), .int (nI (((loP q) &&& 4294965311) ||| (lo9 * 64))), .int (nI (((hiP q) &&& 4294965311) ||| (hi9 * 64)))])) := by rw [eh_5]; exact va_up_self _ _ _
  have h1 : (loP q &&& 4294965311) ||| (lo9 * 64) = loP (slR q 1 lo9 hi9) := by rw [lo_f5, lo_f5]; exact sr_1 (by omega) (by omega) (by omega) (by omega) (by omega) (by omega)
  have h2 : (hiP q &&& 4294965311) ||| (hi9 * 64) = hiP (slR q 1 lo9 hi9) := by rw [hi_f5, hi_f5]; exact sr_1 (by omega) (by omega) (by omega) (by omega) (by omega) (by omega)
  exact wr_v X hr hlk hW (by rw [eh_5, eh_2, va_uu]; unfold rcE; rw [← h1, ← h2]; rfl) (Nat.le_of_ble_eq_true rfl) (Nat.le_of_ble_eq_true rfl) dX4_setRange_48

set_option maxHeartbeats 4000000 in
set_option maxRecDepth 100000 in
theorem c_X4_setRange_2 (l : Launch) (G : HG) (A : Nat → Prop) (hp : HP) (sz : Nat) (hA : ∀ q, sz ≤ q → A q) (hO : Ow A hp) (r9 : Nat) (q : Nat → Nat) (hq : ∀ j, j < 14 → q j ≤ 25) (lo9 hi9 : Nat) (hlo : lo9 ≤ 25) (hhi : hi9 ≤ 25) (hr9 : hp r9 = some (rcE q)) : Met l yX4_setRange [.code yX4_setRange cX4_setRange 5 none] { frames := 0, cells := 0, slots := 0, locals := 0 } (va_Pc [.ref r9, .int 2, .int (nI lo9), .int (nI hi9)] (WP G A sz hp)) (va_Qv (fun hp1 => hp1 = va_up hp r9 (some (rcE (slR q 2 lo9 hi9)))) (WB G A) A) 0 0 A := by
  refine wr_ofW (by decide) (Nat.le_of_ble_eq_true rfl) hO ?_
  intro p e s m args below meth c ls X hr hlk hnm hsz hW hl
  have hA : ∀ q, s.heap.size ≤ q → A q := fun q h => hA q (by omega)
  have hl : lv_has ls 5 [(0, .ref r9), (1, .int 2), (2, .int (nI lo9)), (3, .int (nI hi9))] := hl
  have b4 := hq 4 (by decide)
  have b5 := hq 5 (by decide)
  have b6 := hq 6 (by decide)
  have b7 := hq 7 (by decide)
  have b8 := hq 8 (by decide)
  have b9 := hq 9 (by decide)
  have b10 := hq 10 (by decide)
  have b11 := hq 11 (by decide)
  have b12 := hq 12 (by decide)
  have b13 := hq 13 (by decide)
  refine lv_bipush (v := 6) X.1 X.2.1 dX4_setRange_0 (by decide) ?_
  refine lv_iload_n X.1 X.2.1 dX4_setRange_2 rfl (lv_at hl 1 rfl) ?_
  refine lv_imul X.1 X.2.1 dX4_setRange_3 ?_
  refine r_eqi (show (((6 : Int32) * 2) : Int32) = 12 from (by decide)) ?_
  refine lv_istore (lv' := [(4, .int 12), (0, .ref r9), (1, .int 2), (2, .int (nI lo9)), (3, .int (nI hi9))]) X.1 X.2.1 dX4_setRange_4 hl (by decide) rfl (fun ls hl => ?_)
  refine lv_aload_n X.1 X.2.1 dX4_setRange_6 rfl (lv_at hl 1 rfl) ?_
  refine lv_aload_n X.1 X.2.1 dX4_setRange_7 rfl (lv_at hl 1 rfl) ?_
  refine r_get X hW.1 hr9 (v := .int (nI (loP q))) (C := RX4) (T := TX4) (N := 6) rfl tin_X4 4 (by decide) tw_369 (fun _ h => h) rfl dX4_setRange_8 ?_
  refine lv_bipush (v := 31) X.1 X.2.1 dX4_setRange_11 (by decide) ?_
  refine lv_iload X.1 X.2.1 dX4_setRange_13 (lv_at hl 0 rfl) ?_
  refine lv_ishl X.1 X.2.1 dX4_setRange_15 ?_
  refine r_eqi (show (((31 : Int32) <<< (12 &&& 31)) : Int32) = 126976 from (by decide)) ?_
  refine lv_iconst (v := (-1)) X.1 X.2.1 dX4_setRange_16 (by decide) ?_
  refine lv_ixor X.1 X.2.1 dX4_setRange_17 ?_
  refine r_eqi (show ((126976 ^^^ (-1)) : Int32) = nI 4294840319 from (by decide)) ?_
  refine lv_iand X.1 X.2.1 dX4_setRange_18 ?_
  refine r_eqi (show (((nI (loP q)) &&& (nI 4294840319)) : Int32) = nI ((loP q) &&& 4294840319) from n_and (loP q) 4294840319) ?_
  refine lv_iload_n X.1 X.2.1 dX4_setRange_19 rfl (lv_at hl 3 rfl) ?_
  refine lv_iload X.1 X.2.1 dX4_setRange_20 (lv_at hl 0 rfl) ?_
  refine lv_ishl X.1 X.2.1 dX4_setRange_22 ?_
  refine r_eqi (show (((nI lo9) <<< (12 &&& 31)) : Int32) = nI (lo9 * 4096) from pk_shlN (n := lo9) _ 12 (by decide) (by omega)) ?_
  refine lv_ior X.1 X.2.1 dX4_setRange_23 ?_
  refine r_eqi (show (((nI ((loP q) &&& 4294840319)) ||| (nI (lo9 * 4096))) : Int32) = nI (((loP q) &&& 4294840319) ||| (lo9 * 4096)) from n_or ((loP q) &&& 4294840319) (lo9 * 4096)) ?_
  refine r_put X hW hr9 (v := .int (nI (((loP q) &&& 4294840319) ||| (lo9 * 4096)))) (C := RX4) (T := TX4) (N := 6) rfl tin_X4 tyX4_ok nmX4 4 (Nat.le_of_ble_eq_true rfl) tw_369 (fun _ h => h) rfl rfl rfl (Nat.le_of_ble_eq_true rfl) dX4_setRange_24 (fun hp_1 H locs hW eh_2 => ?_)
  have f_3 : hp_1 r9 = some (.inr (5, [.int (nI (q 0)), .int (nI (q 1)), .int (nI (q 2)), .int (nI (q 3)), .int (nI (((loP q) &&& 4294840319) ||| (lo9 * 4096))), .int (nI (hiP q))])) := by rw [eh_2]; exact va_up_self _ _ _
  refine lv_aload_n X.1 X.2.1 dX4_setRange_27 rfl (lv_at hl 1 rfl) ?_
  refine lv_aload_n X.1 X.2.1 dX4_setRange_28 rfl (lv_at hl 1 rfl) ?_
  refine r_get X hW.1 f_3 (v := .int (nI (hiP q))) (C := RX4) (T := TX4) (N := 6) rfl tin_X4 5 (by decide) tw_370 (fun _ h => h) rfl dX4_setRange_29 ?_
  refine lv_bipush (v := 31) X.1 X.2.1 dX4_setRange_32 (by decide) ?_
  refine lv_iload X.1 X.2.1 dX4_setRange_34 (lv_at hl 0 rfl) ?_
  refine lv_ishl X.1 X.2.1 dX4_setRange_36 ?_
  refine r_eqi (show (((31 : Int32) <<< (12 &&& 31)) : Int32) = 126976 from (by decide)) ?_
  refine lv_iconst (v := (-1)) X.1 X.2.1 dX4_setRange_37 (by decide) ?_
  refine lv_ixor X.1 X.2.1 dX4_setRange_38 ?_
  refine r_eqi (show ((126976 ^^^ (-1)) : Int32) = nI 4294840319 from (by decide)) ?_
  refine lv_iand X.1 X.2.1 dX4_setRange_39 ?_
  refine r_eqi (show (((nI (hiP q)) &&& (nI 4294840319)) : Int32) = nI ((hiP q) &&& 4294840319) from n_and (hiP q) 4294840319) ?_
  refine lv_iload_n X.1 X.2.1 dX4_setRange_40 rfl (lv_at hl 4 rfl) ?_
  refine lv_iload X.1 X.2.1 dX4_setRange_41 (lv_at hl 0 rfl) ?_
  refine lv_ishl X.1 X.2.1 dX4_setRange_43 ?_
  refine r_eqi (show (((nI hi9) <<< (12 &&& 31)) : Int32) = nI (hi9 * 4096) from pk_shlN (n := hi9) _ 12 (by decide) (by omega)) ?_
  refine lv_ior X.1 X.2.1 dX4_setRange_44 ?_
  refine r_eqi (show (((nI ((hiP q) &&& 4294840319)) ||| (nI (hi9 * 4096))) : Int32) = nI (((hiP q) &&& 4294840319) ||| (hi9 * 4096)) from n_or ((hiP q) &&& 4294840319) (hi9 * 4096)) ?_
  refine r_put X hW f_3 (v := .int (nI (((hiP q) &&& 4294840319) ||| (hi9 * 4096)))) (C := RX4) (T := TX4) (N := 6) rfl tin_X4 tyX4_ok nmX4 5 (Nat.le_of_ble_eq_true rfl) tw_370 (fun _ h => h) rfl rfl rfl (Nat.le_of_ble_eq_true rfl) dX4_setRange_45 (fun hp_4 H locs hW eh_5 => ?_)
  have f_6 : hp_4 r9 = some (.inr (5, [.int (nI (q 0)), .int (nI (q 1)), .int (nI (q 2)), .int (nI (q 3)), .int (nI (((loP q) &&& 4294840319) ||| (lo9 * 4096))), .int (nI (((hiP q) &&& 4294840319) ||| (hi9 * 4096)))])) := by rw [eh_5]; exact va_up_self _ _ _
  have h1 : (loP q &&& 4294840319) ||| (lo9 * 4096) = loP (slR q 2 lo9 hi9) := by rw [lo_f5, lo_f5]; exact sr_2 (by omega) (by omega) (by omega) (by omega) (by omega) (by omega)
  have h2 : (hiP q &&& 4294840319) ||| (hi9 * 4096) = hiP (slR q 2 lo9 hi9) := by rw [hi_f5, hi_f5]; exact sr_2 (by omega) (by omega) (by omega) (by omega) (by omega) (by omega)
  exact wr_v X hr hlk hW (by rw [eh_5, eh_2, va_uu]; unfold rcE; rw [← h1, ← h2]; rfl) (Nat.le_of_ble_eq_true rfl) (Nat.le_of_ble_eq_true rfl) dX4_setRange_48

set_option maxHeartbeats 4000000 in
set_option maxRecDepth 100000 in
theorem c_X4_setRange_3 (l : Launch) (G : HG) (A : Nat → Prop) (hp : HP) (sz : Nat) (hA : ∀ q, sz ≤ q → A q) (hO : Ow A hp) (r9 : Nat) (q : Nat → Nat) (hq : ∀ j, j < 14 → q j ≤ 25) (lo9 hi9 : Nat) (hlo : lo9 ≤ 25) (hhi : hi9 ≤ 25) (hr9 : hp r9 = some (rcE q)) : Met l yX4_setRange [.code yX4_setRange cX4_setRange 5 none] { frames := 0, cells := 0, slots := 0, locals := 0 } (va_Pc [.ref r9, .int 3, .int (nI lo9), .int (nI hi9)] (WP G A sz hp)) (va_Qv (fun hp1 => hp1 = va_up hp r9 (some (rcE (slR q 3 lo9 hi9)))) (WB G A) A) 0 0 A := by
  refine wr_ofW (by decide) (Nat.le_of_ble_eq_true rfl) hO ?_
  intro p e s m args below meth c ls X hr hlk hnm hsz hW hl
  have hA : ∀ q, s.heap.size ≤ q → A q := fun q h => hA q (by omega)
  have hl : lv_has ls 5 [(0, .ref r9), (1, .int 3), (2, .int (nI lo9)), (3, .int (nI hi9))] := hl
  have b4 := hq 4 (by decide)
  have b5 := hq 5 (by decide)
  have b6 := hq 6 (by decide)
  have b7 := hq 7 (by decide)
  have b8 := hq 8 (by decide)
  have b9 := hq 9 (by decide)
  have b10 := hq 10 (by decide)
  have b11 := hq 11 (by decide)
  have b12 := hq 12 (by decide)
  have b13 := hq 13 (by decide)
  refine lv_bipush (v := 6) X.1 X.2.1 dX4_setRange_0 (by decide) ?_
  refine lv_iload_n X.1 X.2.1 dX4_setRange_2 rfl (lv_at hl 1 rfl) ?_
  refine lv_imul X.1 X.2.1 dX4_setRange_3 ?_
  refine r_eqi (show (((6 : Int32) * 3) : Int32) = 18 from (by decide)) ?_
  refine lv_istore (lv' := [(4, .int 18), (0, .ref r9), (1, .int 3), (2, .int (nI lo9)), (3, .int (nI hi9))]) X.1 X.2.1 dX4_setRange_4 hl (by decide) rfl (fun ls hl => ?_)
  refine lv_aload_n X.1 X.2.1 dX4_setRange_6 rfl (lv_at hl 1 rfl) ?_
  refine lv_aload_n X.1 X.2.1 dX4_setRange_7 rfl (lv_at hl 1 rfl) ?_
  refine r_get X hW.1 hr9 (v := .int (nI (loP q))) (C := RX4) (T := TX4) (N := 6) rfl tin_X4 4 (by decide) tw_369 (fun _ h => h) rfl dX4_setRange_8 ?_
  refine lv_bipush (v := 31) X.1 X.2.1 dX4_setRange_11 (by decide) ?_
  refine lv_iload X.1 X.2.1 dX4_setRange_13 (lv_at hl 0 rfl) ?_
  refine lv_ishl X.1 X.2.1 dX4_setRange_15 ?_
  refine r_eqi (show (((31 : Int32) <<< (18 &&& 31)) : Int32) = 8126464 from (by decide)) ?_
  refine lv_iconst (v := (-1)) X.1 X.2.1 dX4_setRange_16 (by decide) ?_
  refine lv_ixor X.1 X.2.1 dX4_setRange_17 ?_
  refine r_eqi (show ((8126464 ^^^ (-1)) : Int32) = nI 4286840831 from (by decide)) ?_
  refine lv_iand X.1 X.2.1 dX4_setRange_18 ?_
  refine r_eqi (show (((nI (loP q)) &&& (nI 4286840831)) : Int32) = nI ((loP q) &&& 4286840831) from n_and (loP q) 4286840831) ?_
  refine lv_iload_n X.1 X.2.1 dX4_setRange_19 rfl (lv_at hl 3 rfl) ?_
  refine lv_iload X.1 X.2.1 dX4_setRange_20 (lv_at hl 0 rfl) ?_
  refine lv_ishl X.1 X.2.1 dX4_setRange_22 ?_
  refine r_eqi (show (((nI lo9) <<< (18 &&& 31)) : Int32) = nI (lo9 * 262144) from pk_shlN (n := lo9) _ 18 (by decide) (by omega)) ?_
  refine lv_ior X.1 X.2.1 dX4_setRange_23 ?_
  refine r_eqi (show (((nI ((loP q) &&& 4286840831)) ||| (nI (lo9 * 262144))) : Int32) = nI (((loP q) &&& 4286840831) ||| (lo9 * 262144)) from n_or ((loP q) &&& 4286840831) (lo9 * 262144)) ?_
  refine r_put X hW hr9 (v := .int (nI (((loP q) &&& 4286840831) ||| (lo9 * 262144)))) (C := RX4) (T := TX4) (N := 6) rfl tin_X4 tyX4_ok nmX4 4 (Nat.le_of_ble_eq_true rfl) tw_369 (fun _ h => h) rfl rfl rfl (Nat.le_of_ble_eq_true rfl) dX4_setRange_24 (fun hp_1 H locs hW eh_2 => ?_)
  have f_3 : hp_1 r9 = some (.inr (5, [.int (nI (q 0)), .int (nI (q 1)), .int (nI (q 2)), .int (nI (q 3)), .int (nI (((loP q) &&& 4286840831) ||| (lo9 * 262144))), .int (nI (hiP q))])) := by rw [eh_2]; exact va_up_self _ _ _
  refine lv_aload_n X.1 X.2.1 dX4_setRange_27 rfl (lv_at hl 1 rfl) ?_
  refine lv_aload_n X.1 X.2.1 dX4_setRange_28 rfl (lv_at hl 1 rfl) ?_
  refine r_get X hW.1 f_3 (v := .int (nI (hiP q))) (C := RX4) (T := TX4) (N := 6) rfl tin_X4 5 (by decide) tw_370 (fun _ h => h) rfl dX4_setRange_29 ?_
  refine lv_bipush (v := 31) X.1 X.2.1 dX4_setRange_32 (by decide) ?_
  refine lv_iload X.1 X.2.1 dX4_setRange_34 (lv_at hl 0 rfl) ?_
  refine lv_ishl X.1 X.2.1 dX4_setRange_36 ?_
  refine r_eqi (show (((31 : Int32) <<< (18 &&& 31)) : Int32) = 8126464 from (by decide)) ?_
  refine lv_iconst (v := (-1)) X.1 X.2.1 dX4_setRange_37 (by decide) ?_
  refine lv_ixor X.1 X.2.1 dX4_setRange_38 ?_
  refine r_eqi (show ((8126464 ^^^ (-1)) : Int32) = nI 4286840831 from (by decide)) ?_
  refine lv_iand X.1 X.2.1 dX4_setRange_39 ?_
  refine r_eqi (show (((nI (hiP q)) &&& (nI 4286840831)) : Int32) = nI ((hiP q) &&& 4286840831) from n_and (hiP q) 4286840831) ?_
  refine lv_iload_n X.1 X.2.1 dX4_setRange_40 rfl (lv_at hl 4 rfl) ?_
  refine lv_iload X.1 X.2.1 dX4_setRange_41 (lv_at hl 0 rfl) ?_
  refine lv_ishl X.1 X.2.1 dX4_setRange_43 ?_
  refine r_eqi (show (((nI hi9) <<< (18 &&& 31)) : Int32) = nI (hi9 * 262144) from pk_shlN (n := hi9) _ 18 (by decide) (by omega)) ?_
  refine lv_ior X.1 X.2.1 dX4_setRange_44 ?_
  refine r_eqi (show (((nI ((hiP q) &&& 4286840831)) ||| (nI (hi9 * 262144))) : Int32) = nI (((hiP q) &&& 4286840831) ||| (hi9 * 262144)) from n_or ((hiP q) &&& 4286840831) (hi9 * 262144)) ?_
  refine r_put X hW f_3 (v := .int (nI (((hiP q) &&& 4286840831) ||| (hi9 * 262144)))) (C := RX4) (T := TX4) (N := 6) rfl tin_X4 tyX4_ok nmX4 5 (Nat.le_of_ble_eq_true rfl) tw_370 (fun _ h => h) rfl rfl rfl (Nat.le_of_ble_eq_true rfl) dX4_setRange_45 (fun hp_4 H locs hW eh_5 => ?_)
  have f_6 : hp_4 r9 = some (.inr (5, [.int (nI (q 0)), .int (nI (q 1)), .int (nI (q 2)), .int (nI (q 3)), .int (nI (((loP q) &&& 4286840831) ||| (lo9 * 262144))), .int (nI (((hiP q) &&& 4286840831) ||| (hi9 * 262144)))])) := by rw [eh_5]; exact va_up_self _ _ _
  have h1 : (loP q &&& 4286840831) ||| (lo9 * 262144) = loP (slR q 3 lo9 hi9) := by rw [lo_f5, lo_f5]; exact sr_3 (by omega) (by omega) (by omega) (by omega) (by omega) (by omega)
  have h2 : (hiP q &&& 4286840831) ||| (hi9 * 262144) = hiP (slR q 3 lo9 hi9) := by rw [hi_f5, hi_f5]; exact sr_3 (by omega) (by omega) (by omega) (by omega) (by omega) (by omega)
  exact wr_v X hr hlk hW (by rw [eh_5, eh_2, va_uu]; unfold rcE; rw [← h1, ← h2]; rfl) (Nat.le_of_ble_eq_true rfl) (Nat.le_of_ble_eq_true rfl) dX4_setRange_48

set_option maxHeartbeats 4000000 in
set_option maxRecDepth 100000 in
theorem c_X4_setRange_4 (l : Launch) (G : HG) (A : Nat → Prop) (hp : HP) (sz : Nat) (hA : ∀ q, sz ≤ q → A q) (hO : Ow A hp) (r9 : Nat) (q : Nat → Nat) (hq : ∀ j, j < 14 → q j ≤ 25) (lo9 hi9 : Nat) (hlo : lo9 ≤ 25) (hhi : hi9 ≤ 25) (hr9 : hp r9 = some (rcE q)) : Met l yX4_setRange [.code yX4_setRange cX4_setRange 5 none] { frames := 0, cells := 0, slots := 0, locals := 0 } (va_Pc [.ref r9, .int 4, .int (nI lo9), .int (nI hi9)] (WP G A sz hp)) (va_Qv (fun hp1 => hp1 = va_up hp r9 (some (rcE (slR q 4 lo9 hi9)))) (WB G A) A) 0 0 A := by
  refine wr_ofW (by decide) (Nat.le_of_ble_eq_true rfl) hO ?_
  intro p e s m args below meth c ls X hr hlk hnm hsz hW hl
  have hA : ∀ q, s.heap.size ≤ q → A q := fun q h => hA q (by omega)
  have hl : lv_has ls 5 [(0, .ref r9), (1, .int 4), (2, .int (nI lo9)), (3, .int (nI hi9))] := hl
  have b4 := hq 4 (by decide)
  have b5 := hq 5 (by decide)
  have b6 := hq 6 (by decide)
  have b7 := hq 7 (by decide)
  have b8 := hq 8 (by decide)
  have b9 := hq 9 (by decide)
  have b10 := hq 10 (by decide)
  have b11 := hq 11 (by decide)
  have b12 := hq 12 (by decide)
  have b13 := hq 13 (by decide)
  refine lv_bipush (v := 6) X.1 X.2.1 dX4_setRange_0 (by decide) ?_
  refine lv_iload_n X.1 X.2.1 dX4_setRange_2 rfl (lv_at hl 1 rfl) ?_
  refine lv_imul X.1 X.2.1 dX4_setRange_3 ?_
  refine r_eqi (show (((6 : Int32) * 4) : Int32) = 24 from (by decide)) ?_
  refine lv_istore (lv' := [(4, .int 24), (0, .ref r9), (1, .int 4), (2, .int (nI lo9)), (3, .int (nI hi9))]) X.1 X.2.1 dX4_setRange_4 hl (by decide) rfl (fun ls hl => ?_)
  refine lv_aload_n X.1 X.2.1 dX4_setRange_6 rfl (lv_at hl 1 rfl) ?_
  refine lv_aload_n X.1 X.2.1 dX4_setRange_7 rfl (lv_at hl 1 rfl) ?_
  refine r_get X hW.1 hr9 (v := .int (nI (loP q))) (C := RX4) (T := TX4) (N := 6) rfl tin_X4 4 (by decide) tw_369 (fun _ h => h) rfl dX4_setRange_8 ?_
  refine lv_bipush (v := 31) X.1 X.2.1 dX4_setRange_11 (by decide) ?_
  refine lv_iload X.1 X.2.1 dX4_setRange_13 (lv_at hl 0 rfl) ?_
  refine lv_ishl X.1 X.2.1 dX4_setRange_15 ?_
  refine r_eqi (show (((31 : Int32) <<< (24 &&& 31)) : Int32) = 520093696 from (by decide)) ?_
  refine lv_iconst (v := (-1)) X.1 X.2.1 dX4_setRange_16 (by decide) ?_
  refine lv_ixor X.1 X.2.1 dX4_setRange_17 ?_
  refine r_eqi (show ((520093696 ^^^ (-1)) : Int32) = nI 3774873599 from (by decide)) ?_
  refine lv_iand X.1 X.2.1 dX4_setRange_18 ?_
  refine r_eqi (show (((nI (loP q)) &&& (nI 3774873599)) : Int32) = nI ((loP q) &&& 3774873599) from n_and (loP q) 3774873599) ?_
  refine lv_iload_n X.1 X.2.1 dX4_setRange_19 rfl (lv_at hl 3 rfl) ?_
  refine lv_iload X.1 X.2.1 dX4_setRange_20 (lv_at hl 0 rfl) ?_
  refine lv_ishl X.1 X.2.1 dX4_setRange_22 ?_
  refine r_eqi (show (((nI lo9) <<< (24 &&& 31)) : Int32) = nI (lo9 * 16777216) from pk_shlN (n := lo9) _ 24 (by decide) (by omega)) ?_
  refine lv_ior X.1 X.2.1 dX4_setRange_23 ?_
  refine r_eqi (show (((nI ((loP q) &&& 3774873599)) ||| (nI (lo9 * 16777216))) : Int32) = nI (((loP q) &&& 3774873599) ||| (lo9 * 16777216)) from n_or ((loP q) &&& 3774873599) (lo9 * 16777216)) ?_
  refine r_put X hW hr9 (v := .int (nI (((loP q) &&& 3774873599) ||| (lo9 * 16777216)))) (C := RX4) (T := TX4) (N := 6) rfl tin_X4 tyX4_ok nmX4 4 (Nat.le_of_ble_eq_true rfl) tw_369 (fun _ h => h) rfl rfl rfl (Nat.le_of_ble_eq_true rfl) dX4_setRange_24 (fun hp_1 H locs hW eh_2 => ?_)
  have f_3 : hp_1 r9 = some (.inr (5, [.int (nI (q 0)), .int (nI (q 1)), .int (nI (q 2)), .int (nI (q 3)), .int (nI (((loP q) &&& 3774873599) ||| (lo9 * 16777216))), .int (nI (hiP q))])) := by rw [eh_2]; exact va_up_self _ _ _
  refine lv_aload_n X.1 X.2.1 dX4_setRange_27 rfl (lv_at hl 1 rfl) ?_
  refine lv_aload_n X.1 X.2.1 dX4_setRange_28 rfl (lv_at hl 1 rfl) ?_
  refine r_get X hW.1 f_3 (v := .int (nI (hiP q))) (C := RX4) (T := TX4) (N := 6) rfl tin_X4 5 (by decide) tw_370 (fun _ h => h) rfl dX4_setRange_29 ?_
  refine lv_bipush (v := 31) X.1 X.2.1 dX4_setRange_32 (by decide) ?_
  refine lv_iload X.1 X.2.1 dX4_setRange_34 (lv_at hl 0 rfl) ?_
  refine lv_ishl X.1 X.2.1 dX4_setRange_36 ?_
  refine r_eqi (show (((31 : Int32) <<< (24 &&& 31)) : Int32) = 520093696 from (by decide)) ?_
  refine lv_iconst (v := (-1)) X.1 X.2.1 dX4_setRange_37 (by decide) ?_
  refine lv_ixor X.1 X.2.1 dX4_setRange_38 ?_
  refine r_eqi (show ((520093696 ^^^ (-1)) : Int32) = nI 3774873599 from (by decide)) ?_
  refine lv_iand X.1 X.2.1 dX4_setRange_39 ?_
  refine r_eqi (show (((nI (hiP q)) &&& (nI 3774873599)) : Int32) = nI ((hiP q) &&& 3774873599) from n_and (hiP q) 3774873599) ?_
  refine lv_iload_n X.1 X.2.1 dX4_setRange_40 rfl (lv_at hl 4 rfl) ?_
  refine lv_iload X.1 X.2.1 dX4_setRange_41 (lv_at hl 0 rfl) ?_
  refine lv_ishl X.1 X.2.1 dX4_setRange_43 ?_
  refine r_eqi (show (((nI hi9) <<< (24 &&& 31)) : Int32) = nI (hi9 * 16777216) from pk_shlN (n := hi9) _ 24 (by decide) (by omega)) ?_
  refine lv_ior X.1 X.2.1 dX4_setRange_44 ?_
  refine r_eqi (show (((nI ((hiP q) &&& 3774873599)) ||| (nI (hi9 * 16777216))) : Int32) = nI (((hiP q) &&& 3774873599) ||| (hi9 * 16777216)) from n_or ((hiP q) &&& 3774873599) (hi9 * 16777216)) ?_
  refine r_put X hW f_3 (v := .int (nI (((hiP q) &&& 3774873599) ||| (hi9 * 16777216)))) (C := RX4) (T := TX4) (N := 6) rfl tin_X4 tyX4_ok nmX4 5 (Nat.le_of_ble_eq_true rfl) tw_370 (fun _ h => h) rfl rfl rfl (Nat.le_of_ble_eq_true rfl) dX4_setRange_45 (fun hp_4 H locs hW eh_5 => ?_)
  have f_6 : hp_4 r9 = some (.inr (5, [.int (nI (q 0)), .int (nI (q 1)), .int (nI (q 2)), .int (nI (q 3)), .int (nI (((loP q) &&& 3774873599) ||| (lo9 * 16777216))), .int (nI (((hiP q) &&& 3774873599) ||| (hi9 * 16777216)))])) := by rw [eh_5]; exact va_up_self _ _ _
  have h1 : (loP q &&& 3774873599) ||| (lo9 * 16777216) = loP (slR q 4 lo9 hi9) := by rw [lo_f5, lo_f5]; exact sr_4 (by omega) (by omega) (by omega) (by omega) (by omega) (by omega)
  have h2 : (hiP q &&& 3774873599) ||| (hi9 * 16777216) = hiP (slR q 4 lo9 hi9) := by rw [hi_f5, hi_f5]; exact sr_4 (by omega) (by omega) (by omega) (by omega) (by omega) (by omega)
  exact wr_v X hr hlk hW (by rw [eh_5, eh_2, va_uu]; unfold rcE; rw [← h1, ← h2]; rfl) (Nat.le_of_ble_eq_true rfl) (Nat.le_of_ble_eq_true rfl) dX4_setRange_48
