/-! the component's rules -/
def obE (rl au pa : Nat) (h0 h1 : Nat) : va_E := .inr (7, [.ref rl, .ref au, .ref pa, .int (nI h0), .int (nI h1)])
/-- the list of rules: its cell, its row, the rules' cells RA i -/
def RU (G : HG) (hp : HP) (rl ea cap : Nat) (mc : Int32) (f9 : Nat → Option Nat) (RA : Nat → Nat) (n : Nat) (R : Nat → Nat → Nat) : Prop := hp rl = some (alE mc ea n) ∧ ((0 < cap → hp ea = some (.inl (G.2.1 3, cap, .inr (.inr (.inr (.inr f9)))))) ∧ (cap = 0 → ea = G.2.2 0)) ∧ n ≤ 24 ∧ n ≤ cap ∧ cap ≤ 34 ∧ (∀ i, i < n → f9 i = some (RA i) ∧ hp (RA i) = some (rcE (R i))) ∧ (∀ i k, i < n → k < 14 → R i k ≤ 25)
set_option maxHeartbeats 4000000 in
set_option maxRecDepth 100000 in
theorem c_X6_firstRule (l : Launch) (G : HG) (hp : HP) (b6 rl au pa h0 h1 : Nat) (hb6 : hp b6 = some (obE rl au pa h0 h1)) (ea cap : Nat) (mc : Int32) (f9 : Nat → Option Nat) (RA : Nat → Nat) (n : Nat) (R : Nat → Nat → Nat) (hU6 : RU G hp rl ea cap mc f9 RA n R) (p9 : Nat) (st la fo : Int32) (hp9 : hp p9 = some (poE st la fo)) (h : Nat) (hs : strH h ≤ 20) : Met l yX6_firstRule [.code yX6_firstRule cX6_firstRule 5 (some .int)] { frames := 3, cells := 0, slots := 0, locals := 64 } (va_Pc [.ref b6, .ref p9, .int (nI (pfN h))] (RP G hp)) (vp_Si (fun r => r = rlF n R h st la fo)) 0 0 (fun _ => False) := by
  refine ro_ofW (by decide) (Nat.le_of_ble_eq_true rfl) ?_
  intro p e s m args below meth c ls X hr hlk hH hl
  have hS : va_S (fun _ => False) s.heap s.heap [] := va_S.rf
  have hl : lv_has ls 5 [(0, .ref b6), (1, .ref p9), (2, .int (nI (pfN h)))] := hl
  have hn := hU6.2.2.1
  refine lv_iconst (v := 0) X.1 X.2.1 dX6_firstRule_0 (by decide) ?_
  refine lv_istore_n (lv' := [(3, .int 0), (0, .ref b6), (1, .ref p9), (2, .int (nI (pfN h)))]) X.1 X.2.1 dX6_firstRule_1 rfl hl (by decide) rfl (fun ls hl => ?_)
  have L2 : ∀ (f : Nat) (i : Nat), i + f = n → ruF (ruB R h st la fo) f i = rlF n R h st la fo → ∀ ls, lv_has ls 5 [(0, .ref b6), (1, .ref p9), (2, .int (nI (pfN h))), (3, .int (nI i))] → W p l e ({ frames := 3, cells := 0, slots := 0, locals := 64 } : Room) s m args below meth c s.heap [] 0 0 (MQ below (vp_Si (fun r => r = rlF n R h st la fo)) args s 0 0 (fun _ => False)) (F0 m 2 ls []) := by
    intro f
    induction f with
    | zero =>
      intro i h0 h1 ls hl
      refine lv_iload_n X.1 X.2.1 dX6_firstRule_2 rfl (lv_at hl 3 rfl) ?_
      refine lv_aload_n X.1 X.2.1 dX6_firstRule_3 rfl (lv_at hl 0 rfl) ?_
      refine r_get X hH hb6 (v := .ref rl) (C := RX6) (T := TX6) (N := 5) rfl tin_X6 0 (by decide) tw_148 (fun _ h => h) rfl dX6_firstRule_4 ?_
      refine on_Si (run_V (C := RJx4a65c) (As := []) (rest := [.int (nI i)]) X (c_Jx4a65c_size_8abf5 l G hp rl ea n mc hU6.1) (rp_blind _) (rp_at X hH hS) (recv X hH hU6.1 (C := RJx4a65c) (T := TJx4a65c) (N := 3) rfl) mf_Jx4a65c_size_8abf5 tw_247 tw_218 tw_219 ⟨rfl, rfl, Nat.le_of_ble_eq_true rfl, Nat.le_of_ble_eq_true rfl⟩ hl.1 rfl rfl (Nat.le_of_ble_eq_true rfl) ⟨Nat.le_of_ble_eq_true rfl, Nat.le_of_ble_eq_true rfl⟩ dX6_firstRule_7) (fun r_7 q_7 => ?_)
      obtain rfl : r_7 = (nI n) := q_7
      refine lv_icmp_ge (tgt := 52) X.1 X.2.1 dX6_firstRule_10 (by decide) (fun c_10 => ?_) (fun c_10 => absurd (nI_le (by omega) (by omega)) c_10)
      refine lv_bipush (v := (-6)) X.1 X.2.1 dX6_firstRule_52 (by decide) ?_
      exact ro_i X hr hlk (by show (-6 : Int32) = _; rw [← h1]; rfl) dX6_firstRule_54
    | succ f ih =>
      intro i h0 h1 ls hl
      have hin : i < n := by omega
      refine lv_iload_n X.1 X.2.1 dX6_firstRule_2 rfl (lv_at hl 3 rfl) ?_
      refine lv_aload_n X.1 X.2.1 dX6_firstRule_3 rfl (lv_at hl 0 rfl) ?_
      refine r_get X hH hb6 (v := .ref rl) (C := RX6) (T := TX6) (N := 5) rfl tin_X6 0 (by decide) tw_148 (fun _ h => h) rfl dX6_firstRule_4 ?_
      refine on_Si (run_V (C := RJx4a65c) (As := []) (rest := [.int (nI i)]) X (c_Jx4a65c_size_8abf5 l G hp rl ea n mc hU6.1) (rp_blind _) (rp_at X hH hS) (recv X hH hU6.1 (C := RJx4a65c) (T := TJx4a65c) (N := 3) rfl) mf_Jx4a65c_size_8abf5 tw_247 tw_218 tw_219 ⟨rfl, rfl, Nat.le_of_ble_eq_true rfl, Nat.le_of_ble_eq_true rfl⟩ hl.1 rfl rfl (Nat.le_of_ble_eq_true rfl) ⟨Nat.le_of_ble_eq_true rfl, Nat.le_of_ble_eq_true rfl⟩ dX6_firstRule_7) (fun r_7 q_7 => ?_)
      obtain rfl : r_7 = (nI n) := q_7
      refine lv_icmp_ge (tgt := 52) X.1 X.2.1 dX6_firstRule_10 (by decide) (fun c_10 => absurd c_10 (nI_ge (by omega) (by omega))) (fun c_10 => ?_)
      refine lv_aload_n X.1 X.2.1 dX6_firstRule_13 rfl (lv_at hl 0 rfl) ?_
      refine r_get X hH hb6 (v := .ref rl) (C := RX6) (T := TX6) (N := 5) rfl tin_X6 0 (by decide) tw_148 (fun _ h => h) rfl dX6_firstRule_14 ?_
      refine lv_iload_n X.1 X.2.1 dX6_firstRule_17 rfl (lv_at hl 3 rfl) ?_
      refine on_Sq (run_V (C := RJx4a65c) (As := [.int (nI i)]) (rest := []) X (c_Jx4a65c_get_915e3 l G hp rl ea n mc hU6.1 cap f9 (hU6.2.1.1 (by have := hU6.2.2.2.1; omega)) hU6.2.2.2.1 (Nat.lt_of_le_of_lt hU6.2.2.2.2.1 (by decide)) i (by omega)) (rp_blind _) (rp_at X hH hS) (recv X hH hU6.1 (C := RJx4a65c) (T := TJx4a65c) (N := 3) rfl) mf_Jx4a65c_get_915e3 tw_293 tw_222 tw_223 ⟨rfl, rfl, Nat.le_of_ble_eq_true rfl, Nat.le_of_ble_eq_true rfl⟩ hl.1 rfl rfl (Nat.le_of_ble_eq_true rfl) ⟨Nat.le_of_ble_eq_true rfl, Nat.le_of_ble_eq_true rfl⟩ dX6_firstRule_18) (fun r_18 q_18 => ?_)
      obtain rfl : r_18 = some (RA i) := q_18.trans (hU6.2.2.2.2.2.1 i (by omega)).1
      refine W.eq (g2 := F0 m 21 ls [.ref (RA i)]) rfl ?_
      refine r_cast X hH (hU6.2.2.2.2.2.1 i (by omega)).2 (C := RX4) (T := TX4) (N := 6) rfl tw_299 dX6_firstRule_21 ?_
      refine lv_astore (lv' := [(4, .ref (RA i)), (0, .ref b6), (1, .ref p9), (2, .int (nI (pfN h))), (3, .int (nI i))]) X.1 X.2.1 dX6_firstRule_24 hl (by decide) rfl (fun ls hl => ?_)
      refine lv_aload X.1 X.2.1 dX6_firstRule_26 (lv_at hl 0 rfl) ?_
      refine lv_aload_n X.1 X.2.1 dX6_firstRule_28 rfl (lv_at hl 2 rfl) ?_
      refine on_Si (run_V (C := RX4) (As := [.ref p9]) (rest := []) X (c_X4_isOpen l G hp (RA i) p9 (R i) (fun j hj => hU6.2.2.2.2.2.2 i j (by omega) hj) st la fo (hU6.2.2.2.2.2.1 i (by omega)).2 hp9) (rp_blind _) (rp_at X hH hS) (recv X hH (hU6.2.2.2.2.2.1 i (by omega)).2 (C := RX4) (T := TX4) (N := 6) rfl) mf_X4_isOpen tw_300 tw_301 tw_302 ⟨rfl, rfl, Nat.le_of_ble_eq_true rfl, Nat.le_of_ble_eq_true rfl⟩ hl.1 rfl rfl (Nat.le_of_ble_eq_true rfl) ⟨Nat.le_of_ble_eq_true rfl, Nat.le_of_ble_eq_true rfl⟩ dX6_firstRule_29) (fun r_29 q_29 => ?_)
      obtain rfl : r_29 = (bI (opB (R i) st la fo)) := q_29
      refine lv_if_eq (tgt := 46) X.1 X.2.1 dX6_firstRule_32 (by decide) (fun c_32 => ?_) (fun c_32 => ?_)
      · have g := bI_0 c_32
        refine lv_iinc (v := (nI (i + 1))) (lv' := [(3, .int (nI (i + 1))), (4, .ref (RA i)), (0, .ref b6), (1, .ref p9), (2, .int (nI (pfN h)))]) X.1 X.2.1 dX6_firstRule_46 hl (k := 4) rfl (nI_add i 1) (by decide) rfl (fun ls hl => ?_)
        refine lv_goto (tgt := 2) X.1 X.2.1 dX6_firstRule_49 (by decide) ?_
        exact ih (i + 1) (by omega) (by rw [← h1]; exact (if_neg (by rw [ruB, g, Bool.false_and]; decide)).symm) ls (lv_sub hl [2, 3, 4, 0] rfl)
      · have g := bI_1 c_32
        refine lv_aload X.1 X.2.1 dX6_firstRule_35 (lv_at hl 0 rfl) ?_
        refine lv_iload_n X.1 X.2.1 dX6_firstRule_37 rfl (lv_at hl 3 rfl) ?_
        refine on_Si (run_V (C := RX4) (As := [.int (nI (pfN h))]) (rest := []) X (c_X4_admits l G hp (RA i) (R i) (fun j hj => hU6.2.2.2.2.2.2 i j (by omega) hj) h hs (hU6.2.2.2.2.2.1 i (by omega)).2) (rp_blind _) (rp_at X hH hS) (recv X hH (hU6.2.2.2.2.2.1 i (by omega)).2 (C := RX4) (T := TX4) (N := 6) rfl) mf_X4_admits tw_304 tw_305 tw_306 ⟨rfl, rfl, Nat.le_of_ble_eq_true rfl, Nat.le_of_ble_eq_true rfl⟩ hl.1 rfl rfl (Nat.le_of_ble_eq_true rfl) ⟨Nat.le_of_ble_eq_true rfl, Nat.le_of_ble_eq_true rfl⟩ dX6_firstRule_38) (fun r_38 q_38 => ?_)
        obtain rfl : r_38 = (bI (fitB (R i) h)) := q_38
        refine lv_if_eq (tgt := 46) X.1 X.2.1 dX6_firstRule_41 (by decide) (fun c_41 => ?_) (fun c_41 => ?_)
        · have g2 := bI_0 c_41
          refine lv_iinc (v := (nI (i + 1))) (lv' := [(3, .int (nI (i + 1))), (4, .ref (RA i)), (0, .ref b6), (1, .ref p9), (2, .int (nI (pfN h)))]) X.1 X.2.1 dX6_firstRule_46 hl (k := 4) rfl (nI_add i 1) (by decide) rfl (fun ls hl => ?_)
          refine lv_goto (tgt := 2) X.1 X.2.1 dX6_firstRule_49 (by decide) ?_
          exact ih (i + 1) (by omega) (by rw [← h1]; exact (if_neg (by rw [ruB, g2, Bool.and_false]; decide)).symm) ls (lv_sub hl [2, 3, 4, 0] rfl)
        · have g2 := bI_1 c_41
          refine lv_iload_n X.1 X.2.1 dX6_firstRule_44 rfl (lv_at hl 4 rfl) ?_
          exact ro_i X hr hlk (by show nI i = _; rw [← h1]; exact (if_pos (by rw [ruB, g, g2]; rfl)).symm) dX6_firstRule_45
  exact L2 n 0 (by omega) rfl ls (lv_sub hl [1, 2, 3, 0] rfl)
