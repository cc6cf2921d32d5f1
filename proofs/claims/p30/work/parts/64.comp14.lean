/-! lists: what stands, what a change leaves -/
abbrev arQ (G : HG) (cap : Nat) (f : Nat → Option Nat) : va_E := .inl (G.2.1 3, cap, .inr (.inr (.inr (.inr f))))
def LSq (G : HG) (hp : HP) (b9 ea n9 cap : Nat) (mc : Int32) (f9 : Nat → Option Nat) : Prop := hp b9 = some (alE mc ea n9) ∧ ((0 < cap → hp ea = some (arQ G cap f9)) ∧ (cap = 0 → ea = G.2.2 0)) ∧ n9 ≤ cap ∧ cap ≤ 34
def LFq (hp hp1 : HP) (b9 ea cap : Nat) : Prop := ∀ q e, hp q = some e → q ≠ b9 → (0 < cap → q ≠ ea) → hp1 q = some e
theorem LFq.rf {hp : HP} {b9 ea cap : Nat} : LFq hp hp b9 ea cap := fun _ _ h _ _ => h
theorem LFq.b {hp h1 h2 : HP} {b9 ea cap : Nat} {e : Option va_E} (h : LFq hp h1 b9 ea cap) (eh : h2 = va_up h1 b9 e) : LFq hp h2 b9 ea cap := fun q e1 h0 hb he => by
  rw [eh, va_up_ne _ _ hb]
  exact h q e1 h0 hb he
theorem LFq.ea {hp h1 h2 : HP} {b9 ea cap : Nat} {e : Option va_E} (h : LFq hp h1 b9 ea cap) (hc : 0 < cap) (eh : h2 = va_up h1 ea e) : LFq hp h2 b9 ea cap := fun q e1 h0 hb he => by
  rw [eh, va_up_ne _ _ (he hc)]
  exact h q e1 h0 hb he
theorem LFq.nw {hp h1 h2 : HP} {b9 ea cap q9 : Nat} {e : Option va_E} (h : LFq hp h1 b9 ea cap) (hn : hp q9 = none) (eh : h2 = va_up h1 q9 e) : LFq hp h2 b9 ea cap := fun q e1 h0 hb he => by
  rw [eh, va_up_ne _ _ (fun z => by rw [z, hn] at h0; cases h0)]
  exact h q e1 h0 hb he
theorem LFq.tr {hp h1 h2 : HP} {b9 ea cap ea1 cap1 : Nat} (h : LFq hp h1 b9 ea cap) (h' : LFq h1 h2 b9 ea1 cap1) (he : (ea1 = ea ∧ cap1 = cap) ∨ hp ea1 = none) : LFq hp h2 b9 ea cap := fun q e1 h0 hb hq => h' q e1 (h q e1 h0 hb hq) hb (fun c => by
  rcases he with ⟨rfl, rfl⟩ | he
  · exact hq c
  · exact fun z => by rw [z, he] at h0; cases h0)
set_option maxHeartbeats 4000000 in
set_option maxRecDepth 100000 in
theorem c_Jx4a65c_clear_da8c8 (l : Launch) (G : HG) (A : Nat → Prop) (hp : HP) (sz : Nat) (hA : ∀ q, sz ≤ q → A q) (hO : Ow A hp) (b9 ea n9 cap : Nat) (mc : Int32) (f9 : Nat → Option Nat) (hL : LSq G hp b9 ea n9 cap mc f9) : Met l yJx4a65c_clear_da8c8 [.code yJx4a65c_clear_da8c8 cJx4a65c_clear_da8c8 4 none] { frames := 0, cells := 0, slots := 0, locals := 0 } (va_Pc [.ref b9] (WP G A sz hp)) (va_Qv (fun hp1 => ∃ mc1 g, LSq G hp1 b9 ea 0 cap mc1 g ∧ LFq hp hp1 b9 ea cap) (WB G A) A) 0 0 A := by
  refine wr_ofW (by decide) (Nat.le_of_ble_eq_true rfl) hO ?_
  intro p e s m args below meth c ls X hr hlk hnm hsz hW hl
  have hA : ∀ q, s.heap.size ≤ q → A q := fun q h => hA q (by omega)
  have hl : lv_has ls 4 [(0, .ref b9)] := hl
  have hcap := hL.2.2.1
  have hcap2 := hL.2.2.2
  have hne : 0 < cap → ea ≠ b9 := fun q => ne_look (hL.2.1.1 q) hL.1 (by simp [arQ, alE])
  refine lv_aload_n X.1 X.2.1 dJx4a65c_clear_da8c8_0 rfl (lv_at hl 0 rfl) ?_
  refine lv_dup X.1 X.2.1 dJx4a65c_clear_da8c8_1 rfl ?_
  refine r_get X hW.1 hL.1 (v := .int mc) (C := RJx4a65c) (T := TJx4a65c) (N := 3) rfl tin_Jx4a65c 0 (by decide) tw_60 (u_same (tb_all (args := #[]) X.2.2.2.2.1 _ tw_61)) rfl dJx4a65c_clear_da8c8_2 ?_
  refine lv_iconst (v := 1) X.1 X.2.1 dJx4a65c_clear_da8c8_5 (by decide) ?_
  refine lv_iadd X.1 X.2.1 dJx4a65c_clear_da8c8_6 ?_
  refine r_put X hW hL.1 (v := .int (mc + 1)) (C := RJx4a65c) (T := TJx4a65c) (N := 3) rfl tin_Jx4a65c tyJx4a65c_ok nmJx4a65c 0 (Nat.le_of_ble_eq_true rfl) tw_60 (u_same (tb_all (args := #[]) X.2.2.2.2.1 _ tw_61)) rfl rfl rfl (Nat.le_of_ble_eq_true rfl) dJx4a65c_clear_da8c8_7 (fun hp_1 H locs hW eh_2 => ?_)
  have f_3 : hp_1 b9 = some (.inr (1, [.int (mc + 1), .ref ea, .int (nI n9)])) := by rw [eh_2]; exact va_up_self _ _ _
  refine lv_aload_n X.1 X.2.1 dJx4a65c_clear_da8c8_10 rfl (lv_at hl 0 rfl) ?_
  refine r_get X hW.1 f_3 (v := .ref ea) (C := RJx4a65c) (T := TJx4a65c) (N := 3) rfl tin_Jx4a65c 1 (by decide) tw_57 (fun _ h => h) rfl dJx4a65c_clear_da8c8_11 ?_
  refine lv_astore_n (lv' := [(1, .ref ea), (0, .ref b9)]) X.1 X.2.1 dJx4a65c_clear_da8c8_14 rfl hl (by decide) rfl (fun ls hl => ?_)
  refine lv_aload_n X.1 X.2.1 dJx4a65c_clear_da8c8_15 rfl (lv_at hl 1 rfl) ?_
  refine r_get X hW.1 f_3 (v := .int (nI n9)) (C := RJx4a65c) (T := TJx4a65c) (N := 3) rfl tin_Jx4a65c 2 (by decide) tw_58 (fun _ h => h) rfl dJx4a65c_clear_da8c8_16 ?_
  refine lv_istore_n (lv' := [(2, .int (nI n9)), (1, .ref ea), (0, .ref b9)]) X.1 X.2.1 dJx4a65c_clear_da8c8_19 rfl hl (by decide) rfl (fun ls hl => ?_)
  refine lv_aload_n X.1 X.2.1 dJx4a65c_clear_da8c8_20 rfl (lv_at hl 2 rfl) ?_
  refine lv_iconst (v := 0) X.1 X.2.1 dJx4a65c_clear_da8c8_21 (by decide) ?_
  refine lv_dup_x1 X.1 X.2.1 dJx4a65c_clear_da8c8_22 rfl rfl ?_
  refine r_put X hW f_3 (v := .int 0) (C := RJx4a65c) (T := TJx4a65c) (N := 3) rfl tin_Jx4a65c tyJx4a65c_ok nmJx4a65c 2 (Nat.le_of_ble_eq_true rfl) tw_58 (fun _ h => h) rfl rfl rfl (Nat.le_of_ble_eq_true rfl) dJx4a65c_clear_da8c8_23 (fun hp_4 H locs hW eh_5 => ?_)
  have f_6 : hp_4 b9 = some (.inr (1, [.int (mc + 1), .ref ea, .int 0])) := by rw [eh_5]; exact va_up_self _ _ _
  refine lv_istore_n (lv' := [(3, .int 0), (2, .int (nI n9)), (1, .ref ea), (0, .ref b9)]) X.1 X.2.1 dJx4a65c_clear_da8c8_26 rfl hl (by decide) rfl (fun ls hl => ?_)
  have L27 : ∀ (f : Nat) (i : Nat) (hpL : HP) (H : Heap) (locs : List Loc) (g : Nat → Option Nat), (hpL b9 = some (alE (mc + 1) ea 0)) → (0 < cap → hpL ea = some (arQ G cap g)) → (LFq hp hpL b9 ea cap) → WS s G A hpL H locs → (i + f = n9) → ∀ ls, lv_has ls 4 [(0, .ref b9), (1, .ref ea), (2, .int (nI n9)), (3, .int (nI i))] → W p l e ({ frames := 0, cells := 0, slots := 0, locals := 0 } : Room) s m args below meth c H locs 0 0 (MQ below (va_Qv (fun hp1 => ∃ mc1 g, LSq G hp1 b9 ea 0 cap mc1 g ∧ LFq hp hp1 b9 ea cap) (WB G A) A) args s 0 0 A) (F0 m 27 ls []) := by
    intro f
    induction f with
    | zero =>
      intro i hpL H locs g hb9 he9 hF9 hW h0 ls hl
      have g_7 : hpL b9 = some (.inr (1, [.int (mc + 1), .ref ea, .int 0])) := hb9
      refine lv_iload_n X.1 X.2.1 dJx4a65c_clear_da8c8_27 rfl (lv_at hl 3 rfl) ?_
      refine lv_iload_n X.1 X.2.1 dJx4a65c_clear_da8c8_28 rfl (lv_at hl 2 rfl) ?_
      refine lv_icmp_ge (tgt := 42) X.1 X.2.1 dJx4a65c_clear_da8c8_29 (by decide) (fun c_29 => ?_) (fun c_29 => absurd (nI_le (by omega) (by omega)) c_29)
      exact wr_v X hr hlk hW ⟨_, g, ⟨hb9, ⟨he9, hL.2.1.2⟩, Nat.zero_le _, hL.2.2.2⟩, hF9⟩ (Nat.le_of_ble_eq_true rfl) (Nat.le_of_ble_eq_true rfl) dJx4a65c_clear_da8c8_42
    | succ f ih =>
      intro i hpL H locs g hb9 he9 hF9 hW h0 ls hl
      have g_8 : hpL b9 = some (.inr (1, [.int (mc + 1), .ref ea, .int 0])) := hb9
      have g_9 : hpL ea = some (.inl (G.2.1 3, cap, .inr (.inr (.inr (.inr g))))) := he9 (by omega)
      refine lv_iload_n X.1 X.2.1 dJx4a65c_clear_da8c8_27 rfl (lv_at hl 3 rfl) ?_
      refine lv_iload_n X.1 X.2.1 dJx4a65c_clear_da8c8_28 rfl (lv_at hl 2 rfl) ?_
      refine lv_icmp_ge (tgt := 42) X.1 X.2.1 dJx4a65c_clear_da8c8_29 (by decide) (fun c_29 => absurd c_29 (nI_ge (by omega) (by omega))) (fun c_29 => ?_)
      refine lv_aload_n X.1 X.2.1 dJx4a65c_clear_da8c8_32 rfl (lv_at hl 1 rfl) ?_
      refine lv_iload_n X.1 X.2.1 dJx4a65c_clear_da8c8_33 rfl (lv_at hl 3 rfl) ?_
      refine lv_null X.1 X.2.1 dJx4a65c_clear_da8c8_34 ?_
      refine r_aastN X hW g_9 (show vp_in ((nI i)) cap from vp_in_nI (n := i) (by omega) (by omega)) dJx4a65c_clear_da8c8_35 (fun hp_10 H locs hW eh_11 => ?_)
      have f_12 : hp_10 ea = some (.inl (G.2.1 3, cap, .inr (.inr (.inr (.inr (va_up g (nI i).toNatClampNeg none)))))) := by rw [eh_11]; exact va_up_self _ _ _
      refine lv_iinc (v := (nI (i + 1))) (lv' := [(3, .int (nI (i + 1))), (0, .ref b9), (1, .ref ea), (2, .int (nI n9))]) X.1 X.2.1 dJx4a65c_clear_da8c8_36 hl (k := 3) rfl (nI_add i 1) (by decide) rfl (fun ls hl => ?_)
      refine lv_goto (tgt := 27) X.1 X.2.1 dJx4a65c_clear_da8c8_39 (by decide) ?_
      have f_13 : hp_10 b9 = some (.inr (1, [.int (mc + 1), .ref ea, .int 0])) := by rw [eh_11, va_up_ne _ _ (ne_look g_8 g_9 (by simp))]; exact g_8
      exact ih (i + 1) _ _ _ _ f_13 (fun _ => f_12) (LFq.ea hF9 (by omega) eh_11) hW (by omega) ls (lv_sub hl [1, 2, 3, 0] rfl)
  have hea0 : 0 < cap → hp_4 ea = some (arQ G cap f9) := fun q => by rw [eh_5, va_up_ne _ _ (hne q), eh_2, va_up_ne _ _ (hne q)]; exact hL.2.1.1 q
  exact L27 n9 0 _ _ _ f9 f_6 hea0 (LFq.b (LFq.b LFq.rf eh_2) eh_5) hW (by omega) ls (lv_sub hl [3, 2, 1, 0] rfl)

theorem isEls.le {hp hp1 : HP} {f : Nat → Option Nat} {sp k : Nat} (h : isEls hp f sp k) (hl : ∀ q e, hp q = some e → hp1 q = some e) : isEls hp1 f sp k := by
  obtain ⟨ci, hci, he⟩ := h
  refine ⟨ci, hci, fun i hi y hy => ?_⟩
  obtain ⟨vs, hv⟩ := he i hi y hy
  exact ⟨vs, hl _ _ hv⟩
theorem le_new {hp h2 : HP} {q9 : Nat} {e9 : Option va_E} (hn : hp q9 = none) (eh : h2 = va_up hp q9 e9) : ∀ q e, hp q = some e → h2 q = some e := fun q e h => by
  rw [eh, va_up_ne _ _ (fun z => by rw [z, hn] at h; cases h)]
  exact h
theorem isEl.lf {G : HG} {hp hp1 : HP} {b9 ea n9 cap v : Nat} {mc : Int32} {f9 : Nat → Option Nat} (h : isEl hp v) (hL : LSq G hp b9 ea n9 cap mc f9) (hF : LFq hp hp1 b9 ea cap) : isEl hp1 v := by
  obtain ⟨ci, vs, hv, hci⟩ := h
  refine ⟨ci, vs, hF _ _ hv (ne_look hv hL.1 ?_) (fun q => ne_look hv (hL.2.1.1 q) (by simp [arQ])), hci⟩
  rcases hci with rfl | rfl <;> simp [alE]
theorem isEls.lf {G : HG} {hp hp1 : HP} {b9 ea n9 cap sp k : Nat} {mc : Int32} {f f9 : Nat → Option Nat} (h : isEls hp f sp k) (hL : LSq G hp b9 ea n9 cap mc f9) (hF : LFq hp hp1 b9 ea cap) : isEls hp1 f sp k := by
  obtain ⟨ci, hci, he⟩ := h
  refine ⟨ci, hci, fun i hi y hy => ?_⟩
  obtain ⟨vs, hv⟩ := he i hi y hy
  refine ⟨vs, hF _ _ hv (ne_look hv hL.1 ?_) (fun q => ne_look hv (hL.2.1.1 q) (by simp [arQ]))⟩
  rcases hci with rfl | rfl <;> simp [alE]
theorem isEls.sub {hp : HP} {f : Nat → Option Nat} {sp k sp1 k1 : Nat} (h : isEls hp f sp k) (h1 : sp ≤ sp1) (h2 : sp1 + k1 ≤ sp + k) : isEls hp f sp1 k1 := by
  obtain ⟨ci, hci, he⟩ := h
  refine ⟨ci, hci, fun i hi y hy => he (sp1 + i - sp) (by omega) y ?_⟩
  rw [show sp + (sp1 + i - sp) = sp1 + i by omega]
  exact hy
theorem cpy_lt {f g : Nat → Option Nat} {k j : Nat} (h : j < k) : va_cpy f g 0 0 k j = f j := by
  unfold va_cpy
  rw [if_pos (by omega)]
  exact congrArg f (by omega)
set_option maxHeartbeats 4000000 in
set_option maxRecDepth 100000 in
theorem c_J8_newLength_cabcc (l : Launch) (G : HG) (hp : HP) (a9 b9 c9 : Nat) (ha : a9 < 2 ^ 20) (hb : b9 < 2 ^ 20) (hc : c9 < 2 ^ 20) (hb1 : 1 ≤ b9) : Met l yJ8_newLength_cabcc [.code yJ8_newLength_cabcc cJ8_newLength_cabcc 4 (some .int)] { frames := 1, cells := 0, slots := 0, locals := 14 } (va_Pc [.int (nI a9), .int (nI b9), .int (nI c9)] (RP G hp)) (vp_Si (fun r => r = nI (a9 + max b9 c9))) 0 0 (fun _ => False) := by
  refine ro_ofW (by decide) (Nat.le_of_ble_eq_true rfl) ?_
  intro p e s m args below meth c ls X hr hlk hH hl
  have hS : va_S (fun _ => False) s.heap s.heap [] := va_S.rf
  have hl : lv_has ls 4 [(0, .int (nI a9)), (1, .int (nI b9)), (2, .int (nI c9))] := hl
  refine lv_iload_n X.1 X.2.1 dJ8_newLength_cabcc_0 rfl (lv_at hl 0 rfl) ?_
  refine lv_iload_n X.1 X.2.1 dJ8_newLength_cabcc_1 rfl (lv_at hl 1 rfl) ?_
  refine lv_iload_n X.1 X.2.1 dJ8_newLength_cabcc_2 rfl (lv_at hl 2 rfl) ?_
  refine va_mmax X.1 X.2.1 (by rw [X.2.2.1]; exact hl.1.symm) X.2.2.2.1 (tb_all X.2.2.2.2.1 _ tw_407) (tb_all X.2.2.2.2.1 _ tw_323) (tb_all X.2.2.2.2.1 _ tw_29) (tb_all X.2.2.2.2.1 _ tw_math_max) (Nat.le_of_ble_eq_true rfl) (Nat.le_of_ble_eq_true rfl) (Nat.le_of_ble_eq_true rfl) (Nat.le_of_ble_eq_true rfl) dJ8_newLength_cabcc_3 ?_
  refine r_eqi (n_max b9 c9 (by omega) (by omega)) ?_
  refine lv_iadd X.1 X.2.1 dJ8_newLength_cabcc_6 ?_
  refine r_eqi (show (((nI a9) + (nI (max b9 c9))) : Int32) = nI (a9 + (max b9 c9)) from nI_add a9 (max b9 c9)) ?_
  refine lv_istore_n (lv' := [(3, .int (nI (a9 + (max b9 c9)))), (0, .int (nI a9)), (1, .int (nI b9)), (2, .int (nI c9))]) X.1 X.2.1 dJ8_newLength_cabcc_7 rfl hl (by decide) rfl (fun ls hl => ?_)
  refine lv_iconst (v := 0) X.1 X.2.1 dJ8_newLength_cabcc_8 (by decide) ?_
  refine lv_iload_n X.1 X.2.1 dJ8_newLength_cabcc_9 rfl (lv_at hl 0 rfl) ?_
  refine lv_icmp_ge (tgt := 21) X.1 X.2.1 dJ8_newLength_cabcc_10 (by decide) (fun c_10 => absurd c_10 (nI_ge (a := 0) (b := (a9 + (max b9 c9))) (by omega) (by omega))) (fun c_10 => ?_)
  refine lv_iload_n X.1 X.2.1 dJ8_newLength_cabcc_13 rfl (lv_at hl 0 rfl) ?_
  refine r_const X tw_408 dJ8_newLength_cabcc_14 ?_
  refine lv_icmp_gt (tgt := 21) X.1 X.2.1 dJ8_newLength_cabcc_16 (by decide) (fun c_16 => absurd c_16 (nI_nlt (a := 2147483639) (b := (a9 + (max b9 c9))) (by omega) (by omega))) (fun c_16 => ?_)
  refine lv_iload_n X.1 X.2.1 dJ8_newLength_cabcc_19 rfl (lv_at hl 0 rfl) ?_
  exact ro_i X hr hlk rfl dJ8_newLength_cabcc_20

set_option maxHeartbeats 4000000 in
set_option maxRecDepth 100000 in
theorem c_J7_copyOf_6403c (l : Launch) (G : HG) (A : Nat → Prop) (hp : HP) (sz : Nat) (hA : ∀ q, sz ≤ q → A q) (hO : Ow A hp) (ea cap : Nat) (f9 : Nat → Option Nat) (hea : hp ea = some (arQ G cap f9)) (hcap : cap ≤ 34) (N9 : Nat) (hN : cap ≤ N9) (hN2 : N9 ≤ 34) (hel : isEls hp f9 0 cap) : Met l yJ7_copyOf_6403c [.code yJ7_copyOf_6403c cJ7_copyOf_6403c 4 (some (.array (.object "java/lang/Object")))] { frames := 1, cells := 1, slots := 34, locals := 40 } (va_Pc [.ref ea, .int (nI N9), .ref (G.2.2 1)] (WP G A sz hp)) (va_Qq (fun r hp1 => ∃ q, r = some q ∧ hp q = none ∧ hp1 = va_up hp q (some (arQ G N9 (va_cpy f9 (fun _ => none) 0 0 cap)))) (WB G A) A) 1 34 A := by
  refine wr_ofW (by decide) (Nat.le_of_ble_eq_true rfl) hO ?_
  intro p e s m args below meth c ls X hr hlk hnm hsz hW hl
  have hA : ∀ q, s.heap.size ≤ q → A q := fun q h => hA q (by omega)
  have hl : lv_has ls 4 [(0, .ref ea), (1, .int (nI N9)), (2, .ref (G.2.2 1))] := hl
  refine lv_aload_n X.1 X.2.1 dJ7_copyOf_6403c_0 rfl (lv_at hl 2 rfl) ?_
  refine r_ldcM X tw_429 dJ7_copyOf_6403c_1 ?_
  refine lv_acmp_ne (rx := some (G.2.2 1)) (ry := some (G.2.2 1)) (tgt := 13) X.1 X.2.1 dJ7_copyOf_6403c_3 (by decide) (fun q => absurd rfl q) (fun _ => ?_)
  refine lv_iload_n X.1 X.2.1 dJ7_copyOf_6403c_6 rfl (lv_at hl 1 rfl) ?_
  refine r_newQ (k := 1) (n := 34) X hA hW (N := N9) (Int32.not_lt.mpr (nI_pos' (by omega))) (nI_clamp (by omega)) (by omega) (by omega) (by omega) (Nat.le_of_ble_eq_true rfl) (Nat.le_of_ble_eq_true rfl) tw_431 dJ7_copyOf_6403c_7 (fun q_7 hp_1 H hW eh_2 hn_3 => ?_)
  have ne_4 : ea ≠ q_7 := ne_none hea hn_3
  have f_5 : hp_1 q_7 = some (.inl (G.2.1 3, N9, .inr (.inr (.inr (.inr (fun _ => none)))))) := by rw [eh_2]; exact va_up_self _ _ _
  refine lv_goto (tgt := 24) X.1 X.2.1 dJ7_copyOf_6403c_10 (by decide) ?_
  refine lv_astore_n (lv' := [(3, .ref q_7), (0, .ref ea), (1, .int (nI N9)), (2, .ref (G.2.2 1))]) X.1 X.2.1 dJ7_copyOf_6403c_24 rfl hl (by decide) rfl (fun ls hl => ?_)
  refine lv_aload_n X.1 X.2.1 dJ7_copyOf_6403c_25 rfl (lv_at hl 1 rfl) ?_
  refine lv_iconst (v := 0) X.1 X.2.1 dJ7_copyOf_6403c_26 (by decide) ?_
  refine lv_aload_n X.1 X.2.1 dJ7_copyOf_6403c_27 rfl (lv_at hl 0 rfl) ?_
  refine lv_iconst (v := 0) X.1 X.2.1 dJ7_copyOf_6403c_28 (by decide) ?_
  refine lv_aload_n X.1 X.2.1 dJ7_copyOf_6403c_29 rfl (lv_at hl 1 rfl) ?_
  have f_6 : hp_1 ea = some (.inl (G.2.1 3, cap, .inr (.inr (.inr (.inr f9))))) := by rw [eh_2, va_up_ne _ _ ne_4]; exact hea
  refine r_alen X hW.1 f_6 3 rfl (v := nI cap) rfl dJ7_copyOf_6403c_30 ?_
  refine lv_iload_n X.1 X.2.1 dJ7_copyOf_6403c_31 rfl (lv_at hl 2 rfl) ?_
  refine va_mmin X.1 X.2.1 (by rw [X.2.2.1]; exact hl.1.symm) X.2.2.2.1 (tb_all X.2.2.2.2.1 _ tw_432) (tb_all X.2.2.2.2.1 _ tw_326) (tb_all X.2.2.2.2.1 _ tw_29) (tb_all X.2.2.2.2.1 _ tw_math_min) (Nat.le_of_ble_eq_true rfl) (Nat.le_of_ble_eq_true rfl) (Nat.le_of_ble_eq_true rfl) (Nat.le_of_ble_eq_true rfl) dJ7_copyOf_6403c_32 ?_
  refine r_eqi (n_min cap N9 (by omega) (by omega)) ?_
  refine r_eqi (show nI (min cap N9) = nI cap from by rw [Nat.min_eq_left hN]) ?_
  refine r_copyQ X hW f_6 f_5 0 0 cap (by omega) (by omega) (by omega) (by omega) (hel.le (le_new hn_3 eh_2)) tw_433 tw_245 tw_246 tw_31 hl.1 (Nat.le_of_ble_eq_true rfl) (Nat.le_of_ble_eq_true rfl) dJ7_copyOf_6403c_35 (fun hp_7 H locs hW eh_8 => ?_)
  have f_9 : hp_7 q_7 = some (.inl (G.2.1 3, N9, .inr (.inr (.inr (.inr (va_cpy f9 (fun _ => none) 0 0 cap)))))) := by rw [eh_8]; exact va_up_self _ _ _
  refine lv_aload_n X.1 X.2.1 dJ7_copyOf_6403c_38 rfl (lv_at hl 0 rfl) ?_
  exact wr_q (r := some q_7) X hr (Or.inr ⟨_, rfl⟩) hlk hW ⟨q_7, rfl, hn_3, by rw [eh_8, eh_2, va_uu]⟩ (Nat.le_of_ble_eq_true rfl) (Nat.le_of_ble_eq_true rfl) dJ7_copyOf_6403c_39


set_option maxHeartbeats 4000000 in
set_option maxRecDepth 100000 in
theorem c_J7_copyOf_1904c (l : Launch) (G : HG) (A : Nat → Prop) (hp : HP) (sz : Nat) (hA : ∀ q, sz ≤ q → A q) (hO : Ow A hp) (ea cap : Nat) (f9 : Nat → Option Nat) (hea : hp ea = some (arQ G cap f9)) (hcap : cap ≤ 34) (N9 : Nat) (hN : cap ≤ N9) (hN2 : N9 ≤ 34) (hel : isEls hp f9 0 cap) : Met l yJ7_copyOf_1904c [.code yJ7_copyOf_1904c cJ7_copyOf_1904c 2 (some (.array (.object "java/lang/Object")))] { frames := 2, cells := 1, slots := 34, locals := 63 } (va_Pc [.ref ea, .int (nI N9)] (WP G A sz hp)) (va_Qq (fun r hp1 => ∃ q, r = some q ∧ hp q = none ∧ hp1 = va_up hp q (some (arQ G N9 (va_cpy f9 (fun _ => none) 0 0 cap)))) (WB G A) A) 1 34 A := by
  refine wr_ofW (by decide) (Nat.le_of_ble_eq_true rfl) hO ?_
  intro p e s m args below meth c ls X hr hlk hnm hsz hW hl
  have hA : ∀ q, s.heap.size ≤ q → A q := fun q h => hA q (by omega)
  have hl : lv_has ls 2 [(0, .ref ea), (1, .int (nI N9))] := hl
  refine lv_aload_n X.1 X.2.1 dJ7_copyOf_1904c_0 rfl (lv_at hl 0 rfl) ?_
  refine lv_iload_n X.1 X.2.1 dJ7_copyOf_1904c_1 rfl (lv_at hl 1 rfl) ?_
  refine lv_aload_n X.1 X.2.1 dJ7_copyOf_1904c_2 rfl (lv_at hl 0 rfl) ?_
  refine r_getC X hW.1 hea hl.1 tw_415 tw_585 tw_416 tw_425 (Nat.le_of_ble_eq_true rfl) (Nat.le_of_ble_eq_true rfl) dJ7_copyOf_1904c_3 ?_
  refine on_Wq (k' := 1) (n' := 34) (run_S (As := [.ref ea, .int (nI N9), .ref (G.2.2 1)]) (rest := []) X (c_J7_copyOf_6403c l G A hp _ (fun q h => hA q (Nat.le_trans hW.2.2.1 h)) hW.2.1 ea cap f9 hea (by omega) N9 (by omega) (by omega) hel) (wp_blind _) (wp_at X hW.1 hW.2.2) mf_J7_copyOf_6403c tw_426 tw_427 ⟨rfl, rfl, Nat.le_of_ble_eq_true rfl, Nat.le_of_ble_eq_true rfl⟩ hl.1 rfl rfl (Nat.le_of_ble_eq_true rfl) ⟨Nat.le_of_ble_eq_true rfl, Nat.le_of_ble_eq_true rfl⟩ dJ7_copyOf_1904c_6) hW (by omega) (by omega) (fun r_6 hp_1 H locs q_6 hW => ?_)
  obtain ⟨qn, rfl, hqn, ehq⟩ := q_6
  refine W.eq (g2 := F0 m 9 ls [.ref qn]) rfl ?_
  have ne_2 : ea ≠ qn := ne_none hea hqn
  have f_3 : hp_1 qn = some (.inl (G.2.1 3, N9, .inr (.inr (.inr (.inr (va_cpy f9 (fun _ => none) 0 0 cap)))))) := by rw [ehq]; exact va_up_self _ _ _
  exact wr_q (r := some qn) X hr (Or.inr ⟨_, rfl⟩) hlk hW ⟨qn, rfl, hqn, ehq⟩ (Nat.le_of_ble_eq_true rfl) (Nat.le_of_ble_eq_true rfl) dJ7_copyOf_1904c_9
