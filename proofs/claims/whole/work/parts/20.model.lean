/-! the reference's object: 13 cells at the addresses M; numbers sc, rows of ints ar, sums sm -/
def mfs (M : Nat → Nat) (sc : Nat → Int32) : List Value := [.ref (M 1), .int (sc 0), .ref (M 2), .ref (M 3), .ref (M 4), .ref (M 5), .ref (M 6), .ref (M 7), .ref (M 8), .ref (M 9), .int (sc 1), .int (sc 2), .ref (M 10), .int (sc 3), .ref (M 11), .ref (M 12), .int (sc 4), .int (sc 5), .int (sc 6)]
def mln : Nat → Nat
  | 0 => 336
  | 1 => 2
  | 2 => 32
  | 3 => 32
  | 4 => 12
  | 5 => 12
  | 6 => 13
  | 7 => 13
  | 8 => 13
  | 9 => 60
  | _ => 14
def MR (G : HG) (hp : HP) (M : Nat → Nat) (sc : Nat → Int32) (ar : Nat → Nat → Int32) (sm : Nat → Int64) : Prop :=
  hp (M 0) = some (.inr (8, mfs M sc)) ∧ (∀ i, i < 11 → hp (M (i + 1)) = some (.inl (G.2.1 1, mln i, .inl (ar i)))) ∧ hp (M 12) = some (.inl (G.2.1 2, 5, .inr (.inl sm))) ∧ (∀ i j, i < 13 → j < 13 → M i = M j → i = j)
theorem mr_ne {G : HG} {hp : HP} {M : Nat → Nat} {sc : Nat → Int32} {ar : Nat → Nat → Int32} {sm : Nat → Int64} (h : MR G hp M sc ar sm) {i j : Nat} (hi : i < 13) (hj : j < 13) (n : i ≠ j) : M i ≠ M j := fun q => n (h.2.2.2 i j hi hj q)
theorem mr_ar {G : HG} {hp hp1 : HP} {M : Nat → Nat} {sc : Nat → Int32} {ar : Nat → Nat → Int32} {sm : Nat → Int64} (h : MR G hp M sc ar sm) (i : Nat) (hi : i < 11) {f : Nat → Int32} (e : hp1 = va_up hp (M (i + 1)) (some (.inl (G.2.1 1, mln i, .inl f)))) : MR G hp1 M sc (va_up ar i f) sm := by
  subst e
  refine ⟨?_, fun j hj => ?_, ?_, h.2.2.2⟩
  · rw [va_up_ne _ _ (mr_ne h (by omega) (by omega) (by omega))]; exact h.1
  · by_cases c : j = i
    · subst c
      rw [va_up_self, va_up_self]
    · rw [va_up_ne _ _ (mr_ne h (by omega) (by omega) (by omega)), va_up_ne _ _ c]
      exact h.2.1 j hj
  · rw [va_up_ne _ _ (mr_ne h (by omega) (by omega) (by omega))]; exact h.2.2.1
theorem mr_sm {G : HG} {hp hp1 : HP} {M : Nat → Nat} {sc : Nat → Int32} {ar : Nat → Nat → Int32} {sm sm' : Nat → Int64} (h : MR G hp M sc ar sm) (e : hp1 = va_up hp (M 12) (some (.inl (G.2.1 2, 5, .inr (.inl sm'))))) : MR G hp1 M sc ar sm' := by
  subst e
  refine ⟨?_, fun j hj => ?_, ?_, h.2.2.2⟩
  · rw [va_up_ne _ _ (mr_ne h (by omega) (by omega) (by omega))]; exact h.1
  · rw [va_up_ne _ _ (mr_ne h (by omega) (by omega) (by omega))]; exact h.2.1 j hj
  · rw [va_up_self]
theorem mr_obj {G : HG} {hp hp1 : HP} {M : Nat → Nat} {sc sc' : Nat → Int32} {ar : Nat → Nat → Int32} {sm : Nat → Int64} (h : MR G hp M sc ar sm) (e : hp1 = va_up hp (M 0) (some (.inr (8, mfs M sc')))) : MR G hp1 M sc' ar sm := by
  subst e
  refine ⟨by rw [va_up_self], fun j hj => ?_, ?_, h.2.2.2⟩
  · rw [va_up_ne _ _ (mr_ne h (by omega) (by omega) (by omega))]; exact h.2.1 j hj
  · rw [va_up_ne _ _ (mr_ne h (by omega) (by omega) (by omega))]; exact h.2.2.1
theorem mr_sc0 {G : HG} {hp hp1 : HP} {M : Nat → Nat} {sc : Nat → Int32} {ar : Nat → Nat → Int32} {sm : Nat → Int64} {v : Int32} (h : MR G hp M sc ar sm) (e : hp1 = va_up hp (M 0) (some (.inr (8, (mfs M sc).set 1 (.int v))))) : MR G hp1 M (va_up sc 0 v) ar sm := mr_obj h (by rw [e]; rfl)
theorem mr_sc1 {G : HG} {hp hp1 : HP} {M : Nat → Nat} {sc : Nat → Int32} {ar : Nat → Nat → Int32} {sm : Nat → Int64} {v : Int32} (h : MR G hp M sc ar sm) (e : hp1 = va_up hp (M 0) (some (.inr (8, (mfs M sc).set 10 (.int v))))) : MR G hp1 M (va_up sc 1 v) ar sm := mr_obj h (by rw [e]; rfl)
theorem mr_sc2 {G : HG} {hp hp1 : HP} {M : Nat → Nat} {sc : Nat → Int32} {ar : Nat → Nat → Int32} {sm : Nat → Int64} {v : Int32} (h : MR G hp M sc ar sm) (e : hp1 = va_up hp (M 0) (some (.inr (8, (mfs M sc).set 11 (.int v))))) : MR G hp1 M (va_up sc 2 v) ar sm := mr_obj h (by rw [e]; rfl)
theorem mr_sc3 {G : HG} {hp hp1 : HP} {M : Nat → Nat} {sc : Nat → Int32} {ar : Nat → Nat → Int32} {sm : Nat → Int64} {v : Int32} (h : MR G hp M sc ar sm) (e : hp1 = va_up hp (M 0) (some (.inr (8, (mfs M sc).set 13 (.int v))))) : MR G hp1 M (va_up sc 3 v) ar sm := mr_obj h (by rw [e]; rfl)
theorem mr_sc4 {G : HG} {hp hp1 : HP} {M : Nat → Nat} {sc : Nat → Int32} {ar : Nat → Nat → Int32} {sm : Nat → Int64} {v : Int32} (h : MR G hp M sc ar sm) (e : hp1 = va_up hp (M 0) (some (.inr (8, (mfs M sc).set 16 (.int v))))) : MR G hp1 M (va_up sc 4 v) ar sm := mr_obj h (by rw [e]; rfl)
theorem mr_sc5 {G : HG} {hp hp1 : HP} {M : Nat → Nat} {sc : Nat → Int32} {ar : Nat → Nat → Int32} {sm : Nat → Int64} {v : Int32} (h : MR G hp M sc ar sm) (e : hp1 = va_up hp (M 0) (some (.inr (8, (mfs M sc).set 17 (.int v))))) : MR G hp1 M (va_up sc 5 v) ar sm := mr_obj h (by rw [e]; rfl)
theorem mr_sc6 {G : HG} {hp hp1 : HP} {M : Nat → Nat} {sc : Nat → Int32} {ar : Nat → Nat → Int32} {sm : Nat → Int64} {v : Int32} (h : MR G hp M sc ar sm) (e : hp1 = va_up hp (M 0) (some (.inr (8, (mfs M sc).set 18 (.int v))))) : MR G hp1 M (va_up sc 6 v) ar sm := mr_obj h (by rw [e]; rfl)
/-- the tables of the reference -/
def MT (ar : Nat → Nat → Int32) : Prop := (∀ k, k < 32 → ar 2 k = nI (pc5 k)) ∧ (∀ k, k < 32 → ar 3 k = nI (st5 k))
/-- its rules -/
def MU (n : Nat) (R : Nat → Nat → Nat) (sc : Nat → Int32) (ar : Nat → Nat → Int32) : Prop := sc 0 = nI n ∧ n ≤ 24 ∧ (∀ r k, r < n → k < 14 → ar 0 (14 * r + k) = nI (R r k)) ∧ (∀ r k, r < n → k < 14 → R r k ≤ 25)
theorem MT.len {ar : Nat → Nat → Int32} (h : MT ar) (c s : Nat) : ar 2 (nI (c / 32 ^ s % 32)).toNatClampNeg = nI (lenH c s) := by
  rw [nI_clamp (Nat.lt_trans (Nat.mod_lt _ (by decide)) (by decide)), h.1 _ (Nat.mod_lt _ (by decide))]
  rfl
theorem MT.str {ar : Nat → Nat → Int32} (h : MT ar) (c s : Nat) : ar 3 (nI (c / 32 ^ s % 32)).toNatClampNeg = nI (st5 (su c s)) := by
  rw [nI_clamp (Nat.lt_trans (Nat.mod_lt _ (by decide)) (by decide)), h.2 _ (Nat.mod_lt _ (by decide))]
  rfl
theorem in32 (c : Nat) : vp_in (nI (c % 32)) 32 := vp_in_nI (Nat.mod_lt _ (by decide)) (by decide)
set_option maxHeartbeats 4000000 in
set_option maxRecDepth 100000 in
theorem c_X7_length (l : Launch) (G : HG) (hp : HP) (M : Nat → Nat) (sc : Nat → Int32) (ar : Nat → Nat → Int32) (sm : Nat → Int64) (hM : MR G hp M sc ar sm) (hT : MT ar) (c9 s9 : Nat) (hc : c9 < 2 ^ 31) (hs : s9 < 4) : Met l yX7_length [.code yX7_length cX7_length 3 (some .int)] { frames := 0, cells := 0, slots := 0, locals := 0 } (va_Pc [.ref (M 0), .int (nI c9), .int (nI s9)] (RP G hp)) (vp_Si (fun r => r = nI (lenH c9 s9))) 0 0 (fun _ => False) := by
  refine ro_ofW (by decide) (Nat.le_of_ble_eq_true rfl) ?_
  intro p e s m args below meth c ls X hr hlk hH hl
  have hS : va_S (fun _ => False) s.heap s.heap [] := va_S.rf
  have hl : lv_has ls 3 [(0, .ref (M 0)), (1, .int (nI c9)), (2, .int (nI s9))] := hl
  refine lv_aload_n X.1 X.2.1 dX7_length_0 rfl (lv_at hl 0 rfl) ?_
  refine r_get X hH hM.1 (v := .ref (M 3)) (C := RX7) (T := TX7) (N := 19) rfl tin_X7 3 (by decide) tw_846 (fun _ h => h) rfl dX7_length_1 ?_
  refine lv_iload_n X.1 X.2.1 dX7_length_4 rfl (lv_at hl 1 rfl) ?_
  refine lv_iconst (v := 5) X.1 X.2.1 dX7_length_5 (by decide) ?_
  refine lv_iload_n X.1 X.2.1 dX7_length_6 rfl (lv_at hl 2 rfl) ?_
  refine lv_imul X.1 X.2.1 dX7_length_7 ?_
  refine r_eqi (show (((5 : Int32) * (nI s9)) : Int32) = nI (5 * s9) from pk_mul 5 s9) ?_
  refine lv_ishr X.1 X.2.1 dX7_length_8 ?_
  refine r_eqi (show (((nI c9) >>> ((nI (5 * s9)) &&& 31)) : Int32) = nI (c9 / 32 ^ s9) from shr5 c9 s9 (by omega) (by omega)) ?_
  refine lv_bipush (v := 31) X.1 X.2.1 dX7_length_9 (by decide) ?_
  refine lv_iand X.1 X.2.1 dX7_length_11 ?_
  refine r_eqi (show (((nI (c9 / 32 ^ s9)) &&& 31) : Int32) = nI ((c9 / 32 ^ s9) % 32) from n_and31 (c9 / 32 ^ s9)) ?_
  refine r_iald X hH (hM.2.1 2 (by decide)) (in32 _) dX7_length_12 ?_
  refine r_eqi (show (((ar 2) (nI ((c9 / 32 ^ s9) % 32)).toNatClampNeg) : Int32) = nI (lenH c9 s9) from hT.len c9 s9) ?_
  exact ro_i X hr hlk rfl dX7_length_13

set_option maxHeartbeats 4000000 in
set_option maxRecDepth 100000 in
theorem c_X7_strength (l : Launch) (G : HG) (hp : HP) (M : Nat → Nat) (sc : Nat → Int32) (ar : Nat → Nat → Int32) (sm : Nat → Int64) (hM : MR G hp M sc ar sm) (hT : MT ar) (h : Nat) (hh : h < 2 ^ 31) : Met l yX7_strength [.code yX7_strength cX7_strength 4 (some .int)] { frames := 0, cells := 0, slots := 0, locals := 0 } (va_Pc [.ref (M 0), .int (nI h)] (RP G hp)) (vp_Si (fun r => r = nI (strH h))) 0 0 (fun _ => False) := by
  refine ro_ofW (by decide) (Nat.le_of_ble_eq_true rfl) ?_
  intro p e s m args below meth c ls X hr hlk hH hl
  have hS : va_S (fun _ => False) s.heap s.heap [] := va_S.rf
  have hl : lv_has ls 4 [(0, .ref (M 0)), (1, .int (nI h))] := hl
  refine lv_iconst (v := 0) X.1 X.2.1 dX7_strength_0 (by decide) ?_
  refine lv_istore_n (lv' := [(2, .int 0), (0, .ref (M 0)), (1, .int (nI h))]) X.1 X.2.1 dX7_strength_1 rfl hl (by decide) rfl (fun ls hl => ?_)
  refine lv_iconst (v := 0) X.1 X.2.1 dX7_strength_2 (by decide) ?_
  refine lv_istore_n (lv' := [(3, .int 0), (2, .int 0), (0, .ref (M 0)), (1, .int (nI h))]) X.1 X.2.1 dX7_strength_3 rfl hl (by decide) rfl (fun ls hl => ?_)
  refine lv_iload_n X.1 X.2.1 dX7_strength_4 rfl (lv_at hl 0 rfl) ?_
  refine lv_iconst (v := 4) X.1 X.2.1 dX7_strength_5 (by decide) ?_
  refine lv_icmp_ge (tgt := 31) X.1 X.2.1 dX7_strength_6 (by decide) (fun c_6 => absurd c_6 (by decide)) (fun c_6 => ?_)
  refine lv_iload_n X.1 X.2.1 dX7_strength_9 rfl (lv_at hl 1 rfl) ?_
  refine lv_aload_n X.1 X.2.1 dX7_strength_10 rfl (lv_at hl 2 rfl) ?_
  refine r_get X hH hM.1 (v := .ref (M 4)) (C := RX7) (T := TX7) (N := 19) rfl tin_X7 4 (by decide) tw_847 (fun _ h => h) rfl dX7_strength_11 ?_
  refine lv_iload_n X.1 X.2.1 dX7_strength_14 rfl (lv_at hl 3 rfl) ?_
  refine lv_iconst (v := 5) X.1 X.2.1 dX7_strength_15 (by decide) ?_
  refine lv_iload_n X.1 X.2.1 dX7_strength_16 rfl (lv_at hl 0 rfl) ?_
  refine lv_imul X.1 X.2.1 dX7_strength_17 ?_
  refine r_eqi (show (((5 : Int32) * 0) : Int32) = 0 from (by decide)) ?_
  refine lv_ishr X.1 X.2.1 dX7_strength_18 ?_
  refine r_eqi (show (((nI h) >>> (0 &&& 31)) : Int32) = nI (h / 32 ^ 0) from shr5 h 0 (by omega) (by decide)) ?_
  refine lv_bipush (v := 31) X.1 X.2.1 dX7_strength_19 (by decide) ?_
  refine lv_iand X.1 X.2.1 dX7_strength_21 ?_
  refine r_eqi (show (((nI (h / 32 ^ 0)) &&& 31) : Int32) = nI ((h / 32 ^ 0) % 32) from n_and31 (h / 32 ^ 0)) ?_
  refine r_iald X hH (hM.2.1 3 (by decide)) (in32 _) dX7_strength_22 ?_
  refine r_eqi (show (((ar 3) (nI ((h / 32 ^ 0) % 32)).toNatClampNeg) : Int32) = nI (st5 (su h 0)) from hT.str h 0) ?_
  refine lv_iadd X.1 X.2.1 dX7_strength_23 ?_
  refine r_eqi (show (((0 : Int32) + (nI (st5 (su h 0)))) : Int32) = nI (0 + (st5 (su h 0))) from nI_add 0 (st5 (su h 0))) ?_
  refine lv_istore_n (lv' := [(2, .int (nI (0 + (st5 (su h 0))))), (3, .int 0), (0, .ref (M 0)), (1, .int (nI h))]) X.1 X.2.1 dX7_strength_24 rfl hl (by decide) rfl (fun ls hl => ?_)
  refine lv_iinc (v := 1) (lv' := [(3, .int 1), (2, .int (nI (0 + (st5 (su h 0))))), (0, .ref (M 0)), (1, .int (nI h))]) X.1 X.2.1 dX7_strength_25 hl (k := 1) rfl (by decide) (by decide) rfl (fun ls hl => ?_)
  refine lv_goto (tgt := 4) X.1 X.2.1 dX7_strength_28 (by decide) ?_
  refine lv_iload_n X.1 X.2.1 dX7_strength_4 rfl (lv_at hl 0 rfl) ?_
  refine lv_iconst (v := 4) X.1 X.2.1 dX7_strength_5 (by decide) ?_
  refine lv_icmp_ge (tgt := 31) X.1 X.2.1 dX7_strength_6 (by decide) (fun c_6 => absurd c_6 (by decide)) (fun c_6 => ?_)
  refine lv_iload_n X.1 X.2.1 dX7_strength_9 rfl (lv_at hl 1 rfl) ?_
  refine lv_aload_n X.1 X.2.1 dX7_strength_10 rfl (lv_at hl 2 rfl) ?_
  refine r_get X hH hM.1 (v := .ref (M 4)) (C := RX7) (T := TX7) (N := 19) rfl tin_X7 4 (by decide) tw_847 (fun _ h => h) rfl dX7_strength_11 ?_
  refine lv_iload_n X.1 X.2.1 dX7_strength_14 rfl (lv_at hl 3 rfl) ?_
  refine lv_iconst (v := 5) X.1 X.2.1 dX7_strength_15 (by decide) ?_
  refine lv_iload_n X.1 X.2.1 dX7_strength_16 rfl (lv_at hl 0 rfl) ?_
  refine lv_imul X.1 X.2.1 dX7_strength_17 ?_
  refine r_eqi (show (((5 : Int32) * 1) : Int32) = 5 from (by decide)) ?_
  refine lv_ishr X.1 X.2.1 dX7_strength_18 ?_
  refine r_eqi (show (((nI h) >>> (5 &&& 31)) : Int32) = nI (h / 32 ^ 1) from shr5 h 1 (by omega) (by decide)) ?_
  refine lv_bipush (v := 31) X.1 X.2.1 dX7_strength_19 (by decide) ?_
  refine lv_iand X.1 X.2.1 dX7_strength_21 ?_
  refine r_eqi (show (((nI (h / 32 ^ 1)) &&& 31) : Int32) = nI ((h / 32 ^ 1) % 32) from n_and31 (h / 32 ^ 1)) ?_
  refine r_iald X hH (hM.2.1 3 (by decide)) (in32 _) dX7_strength_22 ?_
  refine r_eqi (show (((ar 3) (nI ((h / 32 ^ 1) % 32)).toNatClampNeg) : Int32) = nI (st5 (su h 1)) from hT.str h 1) ?_
  refine lv_iadd X.1 X.2.1 dX7_strength_23 ?_
  refine r_eqi (show (((nI (0 + (st5 (su h 0)))) + (nI (st5 (su h 1)))) : Int32) = nI ((0 + (st5 (su h 0))) + (st5 (su h 1))) from nI_add (0 + (st5 (su h 0))) (st5 (su h 1))) ?_
  refine lv_istore_n (lv' := [(2, .int (nI ((0 + (st5 (su h 0))) + (st5 (su h 1))))), (3, .int 1), (0, .ref (M 0)), (1, .int (nI h))]) X.1 X.2.1 dX7_strength_24 rfl hl (by decide) rfl (fun ls hl => ?_)
  refine lv_iinc (v := 2) (lv' := [(3, .int 2), (2, .int (nI ((0 + (st5 (su h 0))) + (st5 (su h 1))))), (0, .ref (M 0)), (1, .int (nI h))]) X.1 X.2.1 dX7_strength_25 hl (k := 1) rfl (by decide) (by decide) rfl (fun ls hl => ?_)
  refine lv_goto (tgt := 4) X.1 X.2.1 dX7_strength_28 (by decide) ?_
  refine lv_iload_n X.1 X.2.1 dX7_strength_4 rfl (lv_at hl 0 rfl) ?_
  refine lv_iconst (v := 4) X.1 X.2.1 dX7_strength_5 (by decide) ?_
  refine lv_icmp_ge (tgt := 31) X.1 X.2.1 dX7_strength_6 (by decide) (fun c_6 => absurd c_6 (by decide)) (fun c_6 => ?_)
  refine lv_iload_n X.1 X.2.1 dX7_strength_9 rfl (lv_at hl 1 rfl) ?_
  refine lv_aload_n X.1 X.2.1 dX7_strength_10 rfl (lv_at hl 2 rfl) ?_
  refine r_get X hH hM.1 (v := .ref (M 4)) (C := RX7) (T := TX7) (N := 19) rfl tin_X7 4 (by decide) tw_847 (fun _ h => h) rfl dX7_strength_11 ?_
  refine lv_iload_n X.1 X.2.1 dX7_strength_14 rfl (lv_at hl 3 rfl) ?_
  refine lv_iconst (v := 5) X.1 X.2.1 dX7_strength_15 (by decide) ?_
  refine lv_iload_n X.1 X.2.1 dX7_strength_16 rfl (lv_at hl 0 rfl) ?_
  refine lv_imul X.1 X.2.1 dX7_strength_17 ?_
  refine r_eqi (show (((5 : Int32) * 2) : Int32) = 10 from (by decide)) ?_
  refine lv_ishr X.1 X.2.1 dX7_strength_18 ?_
  refine r_eqi (show (((nI h) >>> (10 &&& 31)) : Int32) = nI (h / 32 ^ 2) from shr5 h 2 (by omega) (by decide)) ?_
  refine lv_bipush (v := 31) X.1 X.2.1 dX7_strength_19 (by decide) ?_
  refine lv_iand X.1 X.2.1 dX7_strength_21 ?_
  refine r_eqi (show (((nI (h / 32 ^ 2)) &&& 31) : Int32) = nI ((h / 32 ^ 2) % 32) from n_and31 (h / 32 ^ 2)) ?_
  refine r_iald X hH (hM.2.1 3 (by decide)) (in32 _) dX7_strength_22 ?_
  refine r_eqi (show (((ar 3) (nI ((h / 32 ^ 2) % 32)).toNatClampNeg) : Int32) = nI (st5 (su h 2)) from hT.str h 2) ?_
  refine lv_iadd X.1 X.2.1 dX7_strength_23 ?_
  refine r_eqi (show (((nI ((0 + (st5 (su h 0))) + (st5 (su h 1)))) + (nI (st5 (su h 2)))) : Int32) = nI (((0 + (st5 (su h 0))) + (st5 (su h 1))) + (st5 (su h 2))) from nI_add ((0 + (st5 (su h 0))) + (st5 (su h 1))) (st5 (su h 2))) ?_
  refine lv_istore_n (lv' := [(2, .int (nI (((0 + (st5 (su h 0))) + (st5 (su h 1))) + (st5 (su h 2))))), (3, .int 2), (0, .ref (M 0)), (1, .int (nI h))]) X.1 X.2.1 dX7_strength_24 rfl hl (by decide) rfl (fun ls hl => ?_)
  refine lv_iinc (v := 3) (lv' := [(3, .int 3), (2, .int (nI (((0 + (st5 (su h 0))) + (st5 (su h 1))) + (st5 (su h 2))))), (0, .ref (M 0)), (1, .int (nI h))]) X.1 X.2.1 dX7_strength_25 hl (k := 1) rfl (by decide) (by decide) rfl (fun ls hl => ?_)
  refine lv_goto (tgt := 4) X.1 X.2.1 dX7_strength_28 (by decide) ?_
  refine lv_iload_n X.1 X.2.1 dX7_strength_4 rfl (lv_at hl 0 rfl) ?_
  refine lv_iconst (v := 4) X.1 X.2.1 dX7_strength_5 (by decide) ?_
  refine lv_icmp_ge (tgt := 31) X.1 X.2.1 dX7_strength_6 (by decide) (fun c_6 => absurd c_6 (by decide)) (fun c_6 => ?_)
  refine lv_iload_n X.1 X.2.1 dX7_strength_9 rfl (lv_at hl 1 rfl) ?_
  refine lv_aload_n X.1 X.2.1 dX7_strength_10 rfl (lv_at hl 2 rfl) ?_
  refine r_get X hH hM.1 (v := .ref (M 4)) (C := RX7) (T := TX7) (N := 19) rfl tin_X7 4 (by decide) tw_847 (fun _ h => h) rfl dX7_strength_11 ?_
  refine lv_iload_n X.1 X.2.1 dX7_strength_14 rfl (lv_at hl 3 rfl) ?_
  refine lv_iconst (v := 5) X.1 X.2.1 dX7_strength_15 (by decide) ?_
  refine lv_iload_n X.1 X.2.1 dX7_strength_16 rfl (lv_at hl 0 rfl) ?_
  refine lv_imul X.1 X.2.1 dX7_strength_17 ?_
  refine r_eqi (show (((5 : Int32) * 3) : Int32) = 15 from (by decide)) ?_
  refine lv_ishr X.1 X.2.1 dX7_strength_18 ?_
  refine r_eqi (show (((nI h) >>> (15 &&& 31)) : Int32) = nI (h / 32 ^ 3) from shr5 h 3 (by omega) (by decide)) ?_
  refine lv_bipush (v := 31) X.1 X.2.1 dX7_strength_19 (by decide) ?_
  refine lv_iand X.1 X.2.1 dX7_strength_21 ?_
  refine r_eqi (show (((nI (h / 32 ^ 3)) &&& 31) : Int32) = nI ((h / 32 ^ 3) % 32) from n_and31 (h / 32 ^ 3)) ?_
  refine r_iald X hH (hM.2.1 3 (by decide)) (in32 _) dX7_strength_22 ?_
  refine r_eqi (show (((ar 3) (nI ((h / 32 ^ 3) % 32)).toNatClampNeg) : Int32) = nI (st5 (su h 3)) from hT.str h 3) ?_
  refine lv_iadd X.1 X.2.1 dX7_strength_23 ?_
  refine r_eqi (show (((nI (((0 + (st5 (su h 0))) + (st5 (su h 1))) + (st5 (su h 2)))) + (nI (st5 (su h 3)))) : Int32) = nI ((((0 + (st5 (su h 0))) + (st5 (su h 1))) + (st5 (su h 2))) + (st5 (su h 3))) from nI_add (((0 + (st5 (su h 0))) + (st5 (su h 1))) + (st5 (su h 2))) (st5 (su h 3))) ?_
  refine lv_istore_n (lv' := [(2, .int (nI ((((0 + (st5 (su h 0))) + (st5 (su h 1))) + (st5 (su h 2))) + (st5 (su h 3))))), (3, .int 3), (0, .ref (M 0)), (1, .int (nI h))]) X.1 X.2.1 dX7_strength_24 rfl hl (by decide) rfl (fun ls hl => ?_)
  refine lv_iinc (v := 4) (lv' := [(3, .int 4), (2, .int (nI ((((0 + (st5 (su h 0))) + (st5 (su h 1))) + (st5 (su h 2))) + (st5 (su h 3))))), (0, .ref (M 0)), (1, .int (nI h))]) X.1 X.2.1 dX7_strength_25 hl (k := 1) rfl (by decide) (by decide) rfl (fun ls hl => ?_)
  refine lv_goto (tgt := 4) X.1 X.2.1 dX7_strength_28 (by decide) ?_
  refine lv_iload_n X.1 X.2.1 dX7_strength_4 rfl (lv_at hl 0 rfl) ?_
  refine lv_iconst (v := 4) X.1 X.2.1 dX7_strength_5 (by decide) ?_
  refine lv_icmp_ge (tgt := 31) X.1 X.2.1 dX7_strength_6 (by decide) (fun c_6 => ?_) (fun c_6 => absurd (by decide) c_6)
  refine lv_iload_n X.1 X.2.1 dX7_strength_31 rfl (lv_at hl 1 rfl) ?_
  exact ro_i X hr hlk (by show nI _ = nI _; refine congrArg nI ?_; unfold strH; omega) dX7_strength_32

set_option maxHeartbeats 4000000 in
set_option maxRecDepth 100000 in
theorem c_X7_size (l : Launch) (G : HG) (hp : HP) (M : Nat → Nat) (sc : Nat → Int32) (ar : Nat → Nat → Int32) (sm : Nat → Int64) (hM : MR G hp M sc ar sm) (hT : MT ar) (h : Nat) (hh : h < 2 ^ 31) : Met l yX7_size [.code yX7_size cX7_size 4 (some .int)] { frames := 1, cells := 0, slots := 0, locals := 22 } (va_Pc [.ref (M 0), .int (nI h)] (RP G hp)) (vp_Si (fun r => r = nI (sizeH h))) 0 0 (fun _ => False) := by
  refine ro_ofW (by decide) (Nat.le_of_ble_eq_true rfl) ?_
  intro p e s m args below meth c ls X hr hlk hH hl
  have hS : va_S (fun _ => False) s.heap s.heap [] := va_S.rf
  have hl : lv_has ls 4 [(0, .ref (M 0)), (1, .int (nI h))] := hl
  refine lv_iconst (v := 0) X.1 X.2.1 dX7_size_0 (by decide) ?_
  refine lv_istore_n (lv' := [(2, .int 0), (0, .ref (M 0)), (1, .int (nI h))]) X.1 X.2.1 dX7_size_1 rfl hl (by decide) rfl (fun ls hl => ?_)
  refine lv_iconst (v := 0) X.1 X.2.1 dX7_size_2 (by decide) ?_
  refine lv_istore_n (lv' := [(3, .int 0), (2, .int 0), (0, .ref (M 0)), (1, .int (nI h))]) X.1 X.2.1 dX7_size_3 rfl hl (by decide) rfl (fun ls hl => ?_)
  refine lv_iload_n X.1 X.2.1 dX7_size_4 rfl (lv_at hl 0 rfl) ?_
  refine lv_iconst (v := 4) X.1 X.2.1 dX7_size_5 (by decide) ?_
  refine lv_icmp_ge (tgt := 24) X.1 X.2.1 dX7_size_6 (by decide) (fun c_6 => absurd c_6 (by decide)) (fun c_6 => ?_)
  refine lv_iload_n X.1 X.2.1 dX7_size_9 rfl (lv_at hl 1 rfl) ?_
  refine lv_aload_n X.1 X.2.1 dX7_size_10 rfl (lv_at hl 2 rfl) ?_
  refine lv_iload_n X.1 X.2.1 dX7_size_11 rfl (lv_at hl 3 rfl) ?_
  refine lv_iload_n X.1 X.2.1 dX7_size_12 rfl (lv_at hl 0 rfl) ?_
  refine on_Si (run_V (C := RX7) (As := [.int (nI h), .int 0]) (rest := [.int 0]) X (c_X7_length l G hp M sc ar sm hM hT h 0 hh (by decide)) (rp_blind _) (rp_at X hH hS) (recv X hH hM.1 (C := RX7) (T := TX7) (N := 19) rfl) mf_X7_length tw_943 tw_945 tw_34 ⟨rfl, rfl, Nat.le_of_ble_eq_true rfl, Nat.le_of_ble_eq_true rfl⟩ hl.1 rfl rfl (Nat.le_of_ble_eq_true rfl) ⟨Nat.le_of_ble_eq_true rfl, Nat.le_of_ble_eq_true rfl⟩ dX7_size_13) (fun r_13 q_13 => ?_)
  obtain rfl : r_13 = (nI (lenH h 0)) := q_13
  refine lv_iadd X.1 X.2.1 dX7_size_16 ?_
  refine r_eqi (show (((0 : Int32) + (nI (lenH h 0))) : Int32) = nI (0 + (lenH h 0)) from nI_add 0 (lenH h 0)) ?_
  refine lv_istore_n (lv' := [(2, .int (nI (0 + (lenH h 0)))), (3, .int 0), (0, .ref (M 0)), (1, .int (nI h))]) X.1 X.2.1 dX7_size_17 rfl hl (by decide) rfl (fun ls hl => ?_)
  refine lv_iinc (v := 1) (lv' := [(3, .int 1), (2, .int (nI (0 + (lenH h 0)))), (0, .ref (M 0)), (1, .int (nI h))]) X.1 X.2.1 dX7_size_18 hl (k := 1) rfl (by decide) (by decide) rfl (fun ls hl => ?_)
  refine lv_goto (tgt := 4) X.1 X.2.1 dX7_size_21 (by decide) ?_
  refine lv_iload_n X.1 X.2.1 dX7_size_4 rfl (lv_at hl 0 rfl) ?_
  refine lv_iconst (v := 4) X.1 X.2.1 dX7_size_5 (by decide) ?_
  refine lv_icmp_ge (tgt := 24) X.1 X.2.1 dX7_size_6 (by decide) (fun c_6 => absurd c_6 (by decide)) (fun c_6 => ?_)
  refine lv_iload_n X.1 X.2.1 dX7_size_9 rfl (lv_at hl 1 rfl) ?_
  refine lv_aload_n X.1 X.2.1 dX7_size_10 rfl (lv_at hl 2 rfl) ?_
  refine lv_iload_n X.1 X.2.1 dX7_size_11 rfl (lv_at hl 3 rfl) ?_
  refine lv_iload_n X.1 X.2.1 dX7_size_12 rfl (lv_at hl 0 rfl) ?_
  refine on_Si (run_V (C := RX7) (As := [.int (nI h), .int 1]) (rest := [.int (nI (0 + (lenH h 0)))]) X (c_X7_length l G hp M sc ar sm hM hT h 1 hh (by decide)) (rp_blind _) (rp_at X hH hS) (recv X hH hM.1 (C := RX7) (T := TX7) (N := 19) rfl) mf_X7_length tw_943 tw_945 tw_34 ⟨rfl, rfl, Nat.le_of_ble_eq_true rfl, Nat.le_of_ble_eq_true rfl⟩ hl.1 rfl rfl (Nat.le_of_ble_eq_true rfl) ⟨Nat.le_of_ble_eq_true rfl, Nat.le_of_ble_eq_true rfl⟩ dX7_size_13) (fun r_13x q_13x => ?_)
  obtain rfl : r_13x = (nI (lenH h 1)) := q_13x
  refine lv_iadd X.1 X.2.1 dX7_size_16 ?_
  refine r_eqi (show (((nI (0 + (lenH h 0))) + (nI (lenH h 1))) : Int32) = nI ((0 + (lenH h 0)) + (lenH h 1)) from nI_add (0 + (lenH h 0)) (lenH h 1)) ?_
  refine lv_istore_n (lv' := [(2, .int (nI ((0 + (lenH h 0)) + (lenH h 1)))), (3, .int 1), (0, .ref (M 0)), (1, .int (nI h))]) X.1 X.2.1 dX7_size_17 rfl hl (by decide) rfl (fun ls hl => ?_)
  refine lv_iinc (v := 2) (lv' := [(3, .int 2), (2, .int (nI ((0 + (lenH h 0)) + (lenH h 1)))), (0, .ref (M 0)), (1, .int (nI h))]) X.1 X.2.1 dX7_size_18 hl (k := 1) rfl (by decide) (by decide) rfl (fun ls hl => ?_)
  refine lv_goto (tgt := 4) X.1 X.2.1 dX7_size_21 (by decide) ?_
  refine lv_iload_n X.1 X.2.1 dX7_size_4 rfl (lv_at hl 0 rfl) ?_
  refine lv_iconst (v := 4) X.1 X.2.1 dX7_size_5 (by decide) ?_
  refine lv_icmp_ge (tgt := 24) X.1 X.2.1 dX7_size_6 (by decide) (fun c_6 => absurd c_6 (by decide)) (fun c_6 => ?_)
  refine lv_iload_n X.1 X.2.1 dX7_size_9 rfl (lv_at hl 1 rfl) ?_
  refine lv_aload_n X.1 X.2.1 dX7_size_10 rfl (lv_at hl 2 rfl) ?_
  refine lv_iload_n X.1 X.2.1 dX7_size_11 rfl (lv_at hl 3 rfl) ?_
  refine lv_iload_n X.1 X.2.1 dX7_size_12 rfl (lv_at hl 0 rfl) ?_
  refine on_Si (run_V (C := RX7) (As := [.int (nI h), .int 2]) (rest := [.int (nI ((0 + (lenH h 0)) + (lenH h 1)))]) X (c_X7_length l G hp M sc ar sm hM hT h 2 hh (by decide)) (rp_blind _) (rp_at X hH hS) (recv X hH hM.1 (C := RX7) (T := TX7) (N := 19) rfl) mf_X7_length tw_943 tw_945 tw_34 ⟨rfl, rfl, Nat.le_of_ble_eq_true rfl, Nat.le_of_ble_eq_true rfl⟩ hl.1 rfl rfl (Nat.le_of_ble_eq_true rfl) ⟨Nat.le_of_ble_eq_true rfl, Nat.le_of_ble_eq_true rfl⟩ dX7_size_13) (fun r_13xx q_13xx => ?_)
  obtain rfl : r_13xx = (nI (lenH h 2)) := q_13xx
  refine lv_iadd X.1 X.2.1 dX7_size_16 ?_
  refine r_eqi (show (((nI ((0 + (lenH h 0)) + (lenH h 1))) + (nI (lenH h 2))) : Int32) = nI (((0 + (lenH h 0)) + (lenH h 1)) + (lenH h 2)) from nI_add ((0 + (lenH h 0)) + (lenH h 1)) (lenH h 2)) ?_
  refine lv_istore_n (lv' := [(2, .int (nI (((0 + (lenH h 0)) + (lenH h 1)) + (lenH h 2)))), (3, .int 2), (0, .ref (M 0)), (1, .int (nI h))]) X.1 X.2.1 dX7_size_17 rfl hl (by decide) rfl (fun ls hl => ?_)
  refine lv_iinc (v := 3) (lv' := [(3, .int 3), (2, .int (nI (((0 + (lenH h 0)) + (lenH h 1)) + (lenH h 2)))), (0, .ref (M 0)), (1, .int (nI h))]) X.1 X.2.1 dX7_size_18 hl (k := 1) rfl (by decide) (by decide) rfl (fun ls hl => ?_)
  refine lv_goto (tgt := 4) X.1 X.2.1 dX7_size_21 (by decide) ?_
  refine lv_iload_n X.1 X.2.1 dX7_size_4 rfl (lv_at hl 0 rfl) ?_
  refine lv_iconst (v := 4) X.1 X.2.1 dX7_size_5 (by decide) ?_
  refine lv_icmp_ge (tgt := 24) X.1 X.2.1 dX7_size_6 (by decide) (fun c_6 => absurd c_6 (by decide)) (fun c_6 => ?_)
  refine lv_iload_n X.1 X.2.1 dX7_size_9 rfl (lv_at hl 1 rfl) ?_
  refine lv_aload_n X.1 X.2.1 dX7_size_10 rfl (lv_at hl 2 rfl) ?_
  refine lv_iload_n X.1 X.2.1 dX7_size_11 rfl (lv_at hl 3 rfl) ?_
  refine lv_iload_n X.1 X.2.1 dX7_size_12 rfl (lv_at hl 0 rfl) ?_
  refine on_Si (run_V (C := RX7) (As := [.int (nI h), .int 3]) (rest := [.int (nI (((0 + (lenH h 0)) + (lenH h 1)) + (lenH h 2)))]) X (c_X7_length l G hp M sc ar sm hM hT h 3 hh (by decide)) (rp_blind _) (rp_at X hH hS) (recv X hH hM.1 (C := RX7) (T := TX7) (N := 19) rfl) mf_X7_length tw_943 tw_945 tw_34 ⟨rfl, rfl, Nat.le_of_ble_eq_true rfl, Nat.le_of_ble_eq_true rfl⟩ hl.1 rfl rfl (Nat.le_of_ble_eq_true rfl) ⟨Nat.le_of_ble_eq_true rfl, Nat.le_of_ble_eq_true rfl⟩ dX7_size_13) (fun r_13xxx q_13xxx => ?_)
  obtain rfl : r_13xxx = (nI (lenH h 3)) := q_13xxx
  refine lv_iadd X.1 X.2.1 dX7_size_16 ?_
  refine r_eqi (show (((nI (((0 + (lenH h 0)) + (lenH h 1)) + (lenH h 2))) + (nI (lenH h 3))) : Int32) = nI ((((0 + (lenH h 0)) + (lenH h 1)) + (lenH h 2)) + (lenH h 3)) from nI_add (((0 + (lenH h 0)) + (lenH h 1)) + (lenH h 2)) (lenH h 3)) ?_
  refine lv_istore_n (lv' := [(2, .int (nI ((((0 + (lenH h 0)) + (lenH h 1)) + (lenH h 2)) + (lenH h 3)))), (3, .int 3), (0, .ref (M 0)), (1, .int (nI h))]) X.1 X.2.1 dX7_size_17 rfl hl (by decide) rfl (fun ls hl => ?_)
  refine lv_iinc (v := 4) (lv' := [(3, .int 4), (2, .int (nI ((((0 + (lenH h 0)) + (lenH h 1)) + (lenH h 2)) + (lenH h 3)))), (0, .ref (M 0)), (1, .int (nI h))]) X.1 X.2.1 dX7_size_18 hl (k := 1) rfl (by decide) (by decide) rfl (fun ls hl => ?_)
  refine lv_goto (tgt := 4) X.1 X.2.1 dX7_size_21 (by decide) ?_
  refine lv_iload_n X.1 X.2.1 dX7_size_4 rfl (lv_at hl 0 rfl) ?_
  refine lv_iconst (v := 4) X.1 X.2.1 dX7_size_5 (by decide) ?_
  refine lv_icmp_ge (tgt := 24) X.1 X.2.1 dX7_size_6 (by decide) (fun c_6 => ?_) (fun c_6 => absurd (by decide) c_6)
  refine lv_iload_n X.1 X.2.1 dX7_size_24 rfl (lv_at hl 1 rfl) ?_
  exact ro_i X hr hlk (by show nI _ = nI _; refine congrArg nI ?_; unfold sizeH; omega) dX7_size_25

set_option maxHeartbeats 4000000 in
set_option maxRecDepth 100000 in
theorem c_X7_isHand (l : Launch) (G : HG) (hp : HP) (M : Nat → Nat) (sc : Nat → Int32) (ar : Nat → Nat → Int32) (sm : Nat → Int64) (hM : MR G hp M sc ar sm) (hT : MT ar) (v : Int32) : Met l yX7_isHand [.code yX7_isHand cX7_isHand 2 (some .boolean)] { frames := 2, cells := 0, slots := 0, locals := 45 } (va_Pc [.ref (M 0), .int v] (RP G hp)) (vp_Si (fun r => r = bI (handB v))) 0 0 (fun _ => False) := by
  refine ro_ofW (by decide) (Nat.le_of_ble_eq_true rfl) ?_
  intro p e s m args below meth c ls X hr hlk hH hl
  have hS : va_S (fun _ => False) s.heap s.heap [] := va_S.rf
  have hl : lv_has ls 2 [(0, .ref (M 0)), (1, .int v)] := hl
  refine lv_iload_n X.1 X.2.1 dX7_isHand_0 rfl (lv_at hl 1 rfl) ?_
  refine lv_iconst (v := 0) X.1 X.2.1 dX7_isHand_1 (by decide) ?_
  refine r_const X tw_934 dX7_isHand_2 ?_
  refine on_Si (run_S (As := [.int v, .int 0, .int 1048575]) (rest := []) X (c_X7_in l G hp v 0 1048575) (rp_blind _) (rp_at X hH hS) mf_X7_in tw_907 tw_908 ⟨rfl, rfl, Nat.le_of_ble_eq_true rfl, Nat.le_of_ble_eq_true rfl⟩ hl.1 rfl rfl (Nat.le_of_ble_eq_true rfl) ⟨Nat.le_of_ble_eq_true rfl, Nat.le_of_ble_eq_true rfl⟩ dX7_isHand_4) (fun r_4 q_4 => ?_)
  obtain rfl : r_4 = (inI v 0 1048575) := q_4
  refine lv_if_eq (tgt := 23) X.1 X.2.1 dX7_isHand_7 (by decide) (fun c_7 => ?_) (fun c_7 => ?_)
  · refine lv_iconst (v := 0) X.1 X.2.1 dX7_isHand_23 (by decide) ?_
    exact ro_z X hr hlk rfl (by show (_ : Int32) = _; rw [handB_out (inI_0 c_7)]; rfl) dX7_isHand_24
  · obtain ⟨x, hx, rfl⟩ := inI_nat (hi := 1048575) c_7 (by decide)
    have hz := sizeH_le x
    refine lv_aload_n X.1 X.2.1 dX7_isHand_10 rfl (lv_at hl 0 rfl) ?_
    refine lv_iload_n X.1 X.2.1 dX7_isHand_11 rfl (lv_at hl 1 rfl) ?_
    refine on_Si (run_V (C := RX7) (As := [.int (nI x)]) (rest := []) X (c_X7_size l G hp M sc ar sm hM hT x (by omega)) (rp_blind _) (rp_at X hH hS) (recv X hH hM.1 (C := RX7) (T := TX7) (N := 19) rfl) mf_X7_size tw_977 tw_979 tw_37 ⟨rfl, rfl, Nat.le_of_ble_eq_true rfl, Nat.le_of_ble_eq_true rfl⟩ hl.1 rfl rfl (Nat.le_of_ble_eq_true rfl) ⟨Nat.le_of_ble_eq_true rfl, Nat.le_of_ble_eq_true rfl⟩ dX7_isHand_12) (fun r_12 q_12 => ?_)
    obtain rfl : r_12 = (nI (sizeH x)) := q_12
    refine lv_iconst (v := 5) X.1 X.2.1 dX7_isHand_15 (by decide) ?_
    refine lv_icmp_ne (tgt := 23) X.1 X.2.1 dX7_isHand_16 (by decide) (fun c_16 => ?_) (fun c_16 => ?_)
    · have k_16 := k_ne (a := (sizeH x)) (b := 5) (by omega) (by omega) c_16
      refine lv_iconst (v := 0) X.1 X.2.1 dX7_isHand_23 (by decide) ?_
      exact ro_z X hr hlk rfl (by show (_ : Int32) = _; rw [handB_n hx, decide_eq_false k_16]; rfl) dX7_isHand_24
    · have k_16 := k_eq (a := (sizeH x)) (b := 5) (by omega) (by omega) c_16
      refine lv_iconst (v := 1) X.1 X.2.1 dX7_isHand_19 (by decide) ?_
      refine lv_goto (tgt := 24) X.1 X.2.1 dX7_isHand_20 (by decide) ?_
      exact ro_z X hr hlk rfl (by show (_ : Int32) = _; rw [handB_n hx, decide_eq_true k_16]; rfl) dX7_isHand_24

set_option maxHeartbeats 4000000 in
set_option maxRecDepth 100000 in
theorem c_X7_of (l : Launch) (G : HG) (hp : HP) (M : Nat → Nat) (sc : Nat → Int32) (ar : Nat → Nat → Int32) (sm : Nat → Int64) (hM : MR G hp M sc ar sm) (r9 k9 : Nat) (hr9 : r9 < 24) (hk9 : k9 < 14) : Met l yX7_of [.code yX7_of cX7_of 3 (some .int)] { frames := 0, cells := 0, slots := 0, locals := 0 } (va_Pc [.ref (M 0), .int (nI r9), .int (nI k9)] (RP G hp)) (vp_Si (fun r => r = ar 0 (14 * r9 + k9))) 0 0 (fun _ => False) := by
  refine ro_ofW (by decide) (Nat.le_of_ble_eq_true rfl) ?_
  intro p e s m args below meth c ls X hr hlk hH hl
  have hS : va_S (fun _ => False) s.heap s.heap [] := va_S.rf
  have hl : lv_has ls 3 [(0, .ref (M 0)), (1, .int (nI r9)), (2, .int (nI k9))] := hl
  refine lv_aload_n X.1 X.2.1 dX7_of_0 rfl (lv_at hl 0 rfl) ?_
  refine r_get X hH hM.1 (v := .ref (M 1)) (C := RX7) (T := TX7) (N := 19) rfl tin_X7 0 (by decide) tw_843 (fun _ h => h) rfl dX7_of_1 ?_
  refine lv_bipush (v := 14) X.1 X.2.1 dX7_of_4 (by decide) ?_
  refine lv_iload_n X.1 X.2.1 dX7_of_6 rfl (lv_at hl 1 rfl) ?_
  refine lv_imul X.1 X.2.1 dX7_of_7 ?_
  refine r_eqi (show (((14 : Int32) * (nI r9)) : Int32) = nI (14 * r9) from pk_mul 14 r9) ?_
  refine lv_iload_n X.1 X.2.1 dX7_of_8 rfl (lv_at hl 2 rfl) ?_
  refine lv_iadd X.1 X.2.1 dX7_of_9 ?_
  refine r_eqi (show (((nI (14 * r9)) + (nI k9)) : Int32) = nI ((14 * r9) + k9) from nI_add (14 * r9) k9) ?_
  refine r_iald X hH (hM.2.1 0 (by decide)) (show vp_in (nI (14 * r9 + k9)) 336 from vp_in_nI (by omega) (by decide)) dX7_of_10 ?_
  refine r_eqi (show (((ar 0) (nI ((14 * r9) + k9)).toNatClampNeg) : Int32) = ar 0 (14 * r9 + k9) from by rw [nI_clamp (by omega)]) ?_
  exact ro_i X hr hlk rfl dX7_of_11

set_option maxHeartbeats 4000000 in
set_option maxRecDepth 100000 in
theorem c_X7_isRule (l : Launch) (G : HG) (hp : HP) (M : Nat → Nat) (sc : Nat → Int32) (ar : Nat → Nat → Int32) (sm : Nat → Int64) (hM : MR G hp M sc ar sm) (n : Nat) (R : Nat → Nat → Nat) (hU : MU n R sc ar) (v : Int32) : Met l yX7_isRule [.code yX7_isRule cX7_isRule 2 (some .boolean)] { frames := 1, cells := 0, slots := 0, locals := 22 } (va_Pc [.ref (M 0), .int v] (RP G hp)) (vp_Si (fun r => r = inI v 0 ((n : Int) - 1))) 0 0 (fun _ => False) := by
  refine ro_ofW (by decide) (Nat.le_of_ble_eq_true rfl) ?_
  intro p e s m args below meth c ls X hr hlk hH hl
  have hS : va_S (fun _ => False) s.heap s.heap [] := va_S.rf
  have hl : lv_has ls 2 [(0, .ref (M 0)), (1, .int v)] := hl
  refine lv_iload_n X.1 X.2.1 dX7_isRule_0 rfl (lv_at hl 1 rfl) ?_
  refine lv_iconst (v := 0) X.1 X.2.1 dX7_isRule_1 (by decide) ?_
  refine lv_aload_n X.1 X.2.1 dX7_isRule_2 rfl (lv_at hl 0 rfl) ?_
  refine r_get X hH hM.1 (v := .int (sc 0)) (C := RX7) (T := TX7) (N := 19) rfl tin_X7 1 (by decide) tw_844 (fun _ h => h) rfl dX7_isRule_3 ?_
  refine lv_iconst (v := 1) X.1 X.2.1 dX7_isRule_6 (by decide) ?_
  refine lv_isub X.1 X.2.1 dX7_isRule_7 ?_
  refine on_Si (run_S (As := [.int v, .int 0, .int ((sc 0) - 1)]) (rest := []) X (c_X7_in l G hp v 0 ((sc 0) - 1)) (rp_blind _) (rp_at X hH hS) mf_X7_in tw_907 tw_908 ⟨rfl, rfl, Nat.le_of_ble_eq_true rfl, Nat.le_of_ble_eq_true rfl⟩ hl.1 rfl rfl (Nat.le_of_ble_eq_true rfl) ⟨Nat.le_of_ble_eq_true rfl, Nat.le_of_ble_eq_true rfl⟩ dX7_isRule_8) (fun r_8 q_8 => ?_)
  obtain rfl : r_8 = (inI v 0 ((sc 0) - 1).toInt) := q_8
  exact ro_z X hr hlk (inI_z _ _ _) (by show inI v 0 (sc 0 - 1).toInt = _; rw [show (sc 0 - 1 : Int32).toInt = (n : Int) - 1 by rw [hU.1]; exact pk_sub_toInt (a := n) (b := 1) (by have := hU.2.1; omega) (by decide)]) dX7_isRule_11

theorem inI_n {x a b : Nat} (hx : x < 2 ^ 31) (ha : a < 2 ^ 31) (hb : b < 2 ^ 31) : inI (nI x) (nI a).toInt (nI b).toInt = bI (decide (a ≤ x ∧ x ≤ b)) := by
  unfold inI bI
  rw [nI_toInt hx, nI_toInt ha, nI_toInt hb]
  by_cases h : a ≤ x ∧ x ≤ b
  · rw [if_pos (by omega), decide_eq_true h]; rfl
  · rw [if_neg (by omega), decide_eq_false h]; rfl
/-- whether a hand fits a rule -/
def fitB (q : Nat → Nat) (h : Nat) : Bool := decide (q 12 ≤ strH h ∧ strH h ≤ q 13) && (decide (q 4 ≤ lenH h 0 ∧ lenH h 0 ≤ q 5) && (decide (q 6 ≤ lenH h 1 ∧ lenH h 1 ≤ q 7) && (decide (q 8 ≤ lenH h 2 ∧ lenH h 2 ≤ q 9) && decide (q 10 ≤ lenH h 3 ∧ lenH h 3 ≤ q 11))))
/-- whether a rule is open in a state, with a last bid, forced or not -/
def opB (q : Nat → Nat) (st la fo : Int32) : Bool := decide (nI (q 0) = st) && (if q 1 = 25 then decide (fo = 0) else decide (la < nI (q 1)))
/-- the first of the rules r, r + 1 .. that has P -/
def ruF (P : Nat → Bool) : Nat → Nat → Int32
  | 0, _ => -6
  | f + 1, r => if P r = true then nI r else ruF P f (r + 1)
def ruB (R : Nat → Nat → Nat) (h : Nat) (st la fo : Int32) (r : Nat) : Bool := opB (R r) st la fo && fitB (R r) h
/-- the rule of a hand -/
def rlF (n : Nat) (R : Nat → Nat → Nat) (h : Nat) (st la fo : Int32) : Int32 := ruF (ruB R h st la fo) n 0
def anF (P : Nat → Bool) : Nat → Nat → Bool
  | 0, _ => false
  | f + 1, r => P r || anF P f (r + 1)
def thB (R : Nat → Nat → Nat) (st ca : Int32) (r : Nat) : Bool := decide (nI (R r 0) = st) && decide (nI (R r 1) = ca)
set_option maxHeartbeats 4000000 in
set_option maxRecDepth 100000 in
theorem c_X7_fitsRule (l : Launch) (G : HG) (hp : HP) (M : Nat → Nat) (sc : Nat → Int32) (ar : Nat → Nat → Int32) (sm : Nat → Int64) (hM : MR G hp M sc ar sm) (hT : MT ar) (n : Nat) (R : Nat → Nat → Nat) (hU : MU n R sc ar) (h : Nat) (hh : h < 2 ^ 31) (r9 : Nat) (hr9 : r9 < n) : Met l yX7_fitsRule [.code yX7_fitsRule cX7_fitsRule 5 (some .boolean)] { frames := 1, cells := 0, slots := 0, locals := 23 } (va_Pc [.ref (M 0), .int (nI h), .int (nI r9)] (RP G hp)) (vp_Si (fun r => r = bI (fitB (R r9) h))) 0 0 (fun _ => False) := by
  refine ro_ofW (by decide) (Nat.le_of_ble_eq_true rfl) ?_
  intro p e s m args below meth c ls X hr hlk hH hl
  have hS : va_S (fun _ => False) s.heap s.heap [] := va_S.rf
  have hl : lv_has ls 5 [(0, .ref (M 0)), (1, .int (nI h)), (2, .int (nI r9))] := hl
  have hn := hU.2.1
  have hs := strH_le h
  have := lenH_le h 0
  have := lenH_le h 1
  have := lenH_le h 2
  have := lenH_le h 3
  have := hU.2.2.2 r9 4 hr9 (by decide)
  have := hU.2.2.2 r9 5 hr9 (by decide)
  have := hU.2.2.2 r9 6 hr9 (by decide)
  have := hU.2.2.2 r9 7 hr9 (by decide)
  have := hU.2.2.2 r9 8 hr9 (by decide)
  have := hU.2.2.2 r9 9 hr9 (by decide)
  have := hU.2.2.2 r9 10 hr9 (by decide)
  have := hU.2.2.2 r9 11 hr9 (by decide)
  have := hU.2.2.2 r9 12 hr9 (by decide)
  have := hU.2.2.2 r9 13 hr9 (by decide)
  refine lv_aload_n X.1 X.2.1 dX7_fitsRule_0 rfl (lv_at hl 0 rfl) ?_
  refine lv_iload_n X.1 X.2.1 dX7_fitsRule_1 rfl (lv_at hl 1 rfl) ?_
  refine on_Si (run_V (C := RX7) (As := [.int (nI h)]) (rest := []) X (c_X7_strength l G hp M sc ar sm hM hT h hh) (rp_blind _) (rp_at X hH hS) (recv X hH hM.1 (C := RX7) (T := TX7) (N := 19) rfl) mf_X7_strength tw_939 tw_941 tw_33 ⟨rfl, rfl, Nat.le_of_ble_eq_true rfl, Nat.le_of_ble_eq_true rfl⟩ hl.1 rfl rfl (Nat.le_of_ble_eq_true rfl) ⟨Nat.le_of_ble_eq_true rfl, Nat.le_of_ble_eq_true rfl⟩ dX7_fitsRule_2) (fun r_2 q_2 => ?_)
  obtain rfl : r_2 = (nI (strH h)) := q_2
  refine lv_aload_n X.1 X.2.1 dX7_fitsRule_5 rfl (lv_at hl 0 rfl) ?_
  refine lv_iload_n X.1 X.2.1 dX7_fitsRule_6 rfl (lv_at hl 2 rfl) ?_
  refine lv_bipush (v := 12) X.1 X.2.1 dX7_fitsRule_7 (by decide) ?_
  refine on_Si (run_V (C := RX7) (As := [.int (nI r9), .int 12]) (rest := [.int (nI (strH h))]) X (c_X7_of l G hp M sc ar sm hM r9 12 (by omega) (by omega)) (rp_blind _) (rp_at X hH hS) (recv X hH hM.1 (C := RX7) (T := TX7) (N := 19) rfl) mf_X7_of tw_922 tw_924 tw_30 ⟨rfl, rfl, Nat.le_of_ble_eq_true rfl, Nat.le_of_ble_eq_true rfl⟩ hl.1 rfl rfl (Nat.le_of_ble_eq_true rfl) ⟨Nat.le_of_ble_eq_true rfl, Nat.le_of_ble_eq_true rfl⟩ dX7_fitsRule_9) (fun r_9 q_9 => ?_)
  obtain rfl : r_9 = nI (R r9 12) := q_9.trans (hU.2.2.1 r9 12 hr9 (by omega))
  refine lv_aload_n X.1 X.2.1 dX7_fitsRule_12 rfl (lv_at hl 0 rfl) ?_
  refine lv_iload_n X.1 X.2.1 dX7_fitsRule_13 rfl (lv_at hl 2 rfl) ?_
  refine lv_bipush (v := 13) X.1 X.2.1 dX7_fitsRule_14 (by decide) ?_
  refine on_Si (run_V (C := RX7) (As := [.int (nI r9), .int 13]) (rest := [.int (nI (R r9 12)), .int (nI (strH h))]) X (c_X7_of l G hp M sc ar sm hM r9 13 (by omega) (by omega)) (rp_blind _) (rp_at X hH hS) (recv X hH hM.1 (C := RX7) (T := TX7) (N := 19) rfl) mf_X7_of tw_922 tw_924 tw_30 ⟨rfl, rfl, Nat.le_of_ble_eq_true rfl, Nat.le_of_ble_eq_true rfl⟩ hl.1 rfl rfl (Nat.le_of_ble_eq_true rfl) ⟨Nat.le_of_ble_eq_true rfl, Nat.le_of_ble_eq_true rfl⟩ dX7_fitsRule_16) (fun r_16 q_16 => ?_)
  obtain rfl : r_16 = nI (R r9 13) := q_16.trans (hU.2.2.1 r9 13 hr9 (by omega))
  refine on_Si (run_S (As := [.int (nI (strH h)), .int (nI (R r9 12)), .int (nI (R r9 13))]) (rest := []) X (c_X7_in l G hp (nI (strH h)) (nI (R r9 12)) (nI (R r9 13))) (rp_blind _) (rp_at X hH hS) mf_X7_in tw_907 tw_908 ⟨rfl, rfl, Nat.le_of_ble_eq_true rfl, Nat.le_of_ble_eq_true rfl⟩ hl.1 rfl rfl (Nat.le_of_ble_eq_true rfl) ⟨Nat.le_of_ble_eq_true rfl, Nat.le_of_ble_eq_true rfl⟩ dX7_fitsRule_19) (fun r_19 q_19 => ?_)
  obtain rfl : r_19 = (inI (nI (strH h)) (nI (R r9 12)).toInt (nI (R r9 13)).toInt) := q_19
  refine r_eqi (inI_n (x := (strH h)) (a := (R r9 12)) (b := (R r9 13)) (by omega) (by omega) (by omega)) ?_
  refine lv_topi (fun v_22 e_22 => ?_)
  refine lv_istore_n (lv' := [(3, .int v_22), (0, .ref (M 0)), (1, .int (nI h)), (2, .int (nI r9))]) X.1 X.2.1 dX7_fitsRule_22 rfl hl (by decide) rfl (fun ls hl => ?_)
  refine lv_iconst (v := 0) X.1 X.2.1 dX7_fitsRule_23 (by decide) ?_
  refine lv_istore (lv' := [(4, .int 0), (3, .int v_22), (0, .ref (M 0)), (1, .int (nI h)), (2, .int (nI r9))]) X.1 X.2.1 dX7_fitsRule_24 hl (by decide) rfl (fun ls hl => ?_)
  refine lv_iload X.1 X.2.1 dX7_fitsRule_26 (lv_at hl 0 rfl) ?_
  refine lv_iconst (v := 4) X.1 X.2.1 dX7_fitsRule_28 (by decide) ?_
  refine lv_icmp_ge (tgt := 77) X.1 X.2.1 dX7_fitsRule_29 (by decide) (fun c_29 => absurd c_29 (by decide)) (fun c_29 => ?_)
  refine lv_iload_n X.1 X.2.1 dX7_fitsRule_32 rfl (lv_at hl 1 rfl) ?_
  refine lv_if_eq (tgt := 77) X.1 X.2.1 dX7_fitsRule_33 (by decide) (fun c_33 => ?_) (fun c_33 => ?_)
  · rw [e_22] at c_33
    have g := bI_0 c_33
    refine lv_iload_n X.1 X.2.1 dX7_fitsRule_77 rfl (lv_at hl 1 rfl) ?_
    exact ro_z X hr hlk (by rw [e_22]; exact bI_z _) (by show v_22 = _; rw [e_22]; unfold fitB; rw [g]; simp) dX7_fitsRule_78
  · rw [e_22] at c_33
    have g0 := bI_1 c_33
    refine lv_aload_n X.1 X.2.1 dX7_fitsRule_36 rfl (lv_at hl 2 rfl) ?_
    refine lv_iload_n X.1 X.2.1 dX7_fitsRule_37 rfl (lv_at hl 3 rfl) ?_
    refine lv_iload X.1 X.2.1 dX7_fitsRule_38 (lv_at hl 0 rfl) ?_
    refine on_Si (run_V (C := RX7) (As := [.int (nI h), .int 0]) (rest := []) X (c_X7_length l G hp M sc ar sm hM hT h 0 (by omega) (by decide)) (rp_blind _) (rp_at X hH hS) (recv X hH hM.1 (C := RX7) (T := TX7) (N := 19) rfl) mf_X7_length tw_943 tw_945 tw_34 ⟨rfl, rfl, Nat.le_of_ble_eq_true rfl, Nat.le_of_ble_eq_true rfl⟩ hl.1 rfl rfl (Nat.le_of_ble_eq_true rfl) ⟨Nat.le_of_ble_eq_true rfl, Nat.le_of_ble_eq_true rfl⟩ dX7_fitsRule_40) (fun r_40 q_40 => ?_)
    obtain rfl : r_40 = (nI (lenH h 0)) := q_40
    refine lv_aload_n X.1 X.2.1 dX7_fitsRule_43 rfl (lv_at hl 2 rfl) ?_
    refine lv_iload_n X.1 X.2.1 dX7_fitsRule_44 rfl (lv_at hl 4 rfl) ?_
    refine lv_iconst (v := 4) X.1 X.2.1 dX7_fitsRule_45 (by decide) ?_
    refine lv_iconst (v := 2) X.1 X.2.1 dX7_fitsRule_46 (by decide) ?_
    refine lv_iload X.1 X.2.1 dX7_fitsRule_47 (lv_at hl 0 rfl) ?_
    refine lv_imul X.1 X.2.1 dX7_fitsRule_49 ?_
    refine r_eqi (show (((2 : Int32) * 0) : Int32) = 0 from (by decide)) ?_
    refine lv_iadd X.1 X.2.1 dX7_fitsRule_50 ?_
    refine r_eqi (show (((4 : Int32) + 0) : Int32) = 4 from (by decide)) ?_
    refine on_Si (run_V (C := RX7) (As := [.int (nI r9), .int 4]) (rest := [.int (nI (lenH h 0))]) X (c_X7_of l G hp M sc ar sm hM r9 4 (by omega) (by omega)) (rp_blind _) (rp_at X hH hS) (recv X hH hM.1 (C := RX7) (T := TX7) (N := 19) rfl) mf_X7_of tw_922 tw_924 tw_30 ⟨rfl, rfl, Nat.le_of_ble_eq_true rfl, Nat.le_of_ble_eq_true rfl⟩ hl.1 rfl rfl (Nat.le_of_ble_eq_true rfl) ⟨Nat.le_of_ble_eq_true rfl, Nat.le_of_ble_eq_true rfl⟩ dX7_fitsRule_51) (fun r_51 q_51 => ?_)
    obtain rfl : r_51 = nI (R r9 4) := q_51.trans (hU.2.2.1 r9 4 hr9 (by omega))
    refine lv_aload_n X.1 X.2.1 dX7_fitsRule_54 rfl (lv_at hl 2 rfl) ?_
    refine lv_iload_n X.1 X.2.1 dX7_fitsRule_55 rfl (lv_at hl 4 rfl) ?_
    refine lv_iconst (v := 4) X.1 X.2.1 dX7_fitsRule_56 (by decide) ?_
    refine lv_iconst (v := 2) X.1 X.2.1 dX7_fitsRule_57 (by decide) ?_
    refine lv_iload X.1 X.2.1 dX7_fitsRule_58 (lv_at hl 0 rfl) ?_
    refine lv_imul X.1 X.2.1 dX7_fitsRule_60 ?_
    refine r_eqi (show (((2 : Int32) * 0) : Int32) = 0 from (by decide)) ?_
    refine lv_iadd X.1 X.2.1 dX7_fitsRule_61 ?_
    refine r_eqi (show (((4 : Int32) + 0) : Int32) = 4 from (by decide)) ?_
    refine lv_iconst (v := 1) X.1 X.2.1 dX7_fitsRule_62 (by decide) ?_
    refine lv_iadd X.1 X.2.1 dX7_fitsRule_63 ?_
    refine r_eqi (show (((4 : Int32) + 1) : Int32) = 5 from (by decide)) ?_
    refine on_Si (run_V (C := RX7) (As := [.int (nI r9), .int 5]) (rest := [.int (nI (R r9 4)), .int (nI (lenH h 0))]) X (c_X7_of l G hp M sc ar sm hM r9 5 (by omega) (by omega)) (rp_blind _) (rp_at X hH hS) (recv X hH hM.1 (C := RX7) (T := TX7) (N := 19) rfl) mf_X7_of tw_922 tw_924 tw_30 ⟨rfl, rfl, Nat.le_of_ble_eq_true rfl, Nat.le_of_ble_eq_true rfl⟩ hl.1 rfl rfl (Nat.le_of_ble_eq_true rfl) ⟨Nat.le_of_ble_eq_true rfl, Nat.le_of_ble_eq_true rfl⟩ dX7_fitsRule_64) (fun r_64 q_64 => ?_)
    obtain rfl : r_64 = nI (R r9 5) := q_64.trans (hU.2.2.1 r9 5 hr9 (by omega))
    refine on_Si (run_S (As := [.int (nI (lenH h 0)), .int (nI (R r9 4)), .int (nI (R r9 5))]) (rest := []) X (c_X7_in l G hp (nI (lenH h 0)) (nI (R r9 4)) (nI (R r9 5))) (rp_blind _) (rp_at X hH hS) mf_X7_in tw_907 tw_908 ⟨rfl, rfl, Nat.le_of_ble_eq_true rfl, Nat.le_of_ble_eq_true rfl⟩ hl.1 rfl rfl (Nat.le_of_ble_eq_true rfl) ⟨Nat.le_of_ble_eq_true rfl, Nat.le_of_ble_eq_true rfl⟩ dX7_fitsRule_67) (fun r_67 q_67 => ?_)
    obtain rfl : r_67 = (inI (nI (lenH h 0)) (nI (R r9 4)).toInt (nI (R r9 5)).toInt) := q_67
    refine r_eqi (inI_n (x := (lenH h 0)) (a := (R r9 4)) (b := (R r9 5)) (by omega) (by omega) (by omega)) ?_
    refine lv_topi (fun v_70 e_70 => ?_)
    refine lv_istore_n (lv' := [(3, .int v_70), (4, .int 0), (0, .ref (M 0)), (1, .int (nI h)), (2, .int (nI r9))]) X.1 X.2.1 dX7_fitsRule_70 rfl hl (by decide) rfl (fun ls hl => ?_)
    refine lv_iinc (v := 1) (lv' := [(4, .int 1), (3, .int v_70), (0, .ref (M 0)), (1, .int (nI h)), (2, .int (nI r9))]) X.1 X.2.1 dX7_fitsRule_71 hl (k := 1) rfl (by decide) (by decide) rfl (fun ls hl => ?_)
    refine lv_goto (tgt := 26) X.1 X.2.1 dX7_fitsRule_74 (by decide) ?_
    refine lv_iload X.1 X.2.1 dX7_fitsRule_26 (lv_at hl 0 rfl) ?_
    refine lv_iconst (v := 4) X.1 X.2.1 dX7_fitsRule_28 (by decide) ?_
    refine lv_icmp_ge (tgt := 77) X.1 X.2.1 dX7_fitsRule_29 (by decide) (fun c_29 => absurd c_29 (by decide)) (fun c_29 => ?_)
    refine lv_iload_n X.1 X.2.1 dX7_fitsRule_32 rfl (lv_at hl 1 rfl) ?_
    refine lv_if_eq (tgt := 77) X.1 X.2.1 dX7_fitsRule_33 (by decide) (fun c_33 => ?_) (fun c_33 => ?_)
    · rw [e_70] at c_33
      have g := bI_0 c_33
      refine lv_iload_n X.1 X.2.1 dX7_fitsRule_77 rfl (lv_at hl 1 rfl) ?_
      exact ro_z X hr hlk (by rw [e_70]; exact bI_z _) (by show v_70 = _; rw [e_70]; unfold fitB; rw [g0, g]; simp) dX7_fitsRule_78
    · rw [e_70] at c_33
      have g1 := bI_1 c_33
      refine lv_aload_n X.1 X.2.1 dX7_fitsRule_36 rfl (lv_at hl 2 rfl) ?_
      refine lv_iload_n X.1 X.2.1 dX7_fitsRule_37 rfl (lv_at hl 3 rfl) ?_
      refine lv_iload X.1 X.2.1 dX7_fitsRule_38 (lv_at hl 0 rfl) ?_
      refine on_Si (run_V (C := RX7) (As := [.int (nI h), .int 1]) (rest := []) X (c_X7_length l G hp M sc ar sm hM hT h 1 (by omega) (by decide)) (rp_blind _) (rp_at X hH hS) (recv X hH hM.1 (C := RX7) (T := TX7) (N := 19) rfl) mf_X7_length tw_943 tw_945 tw_34 ⟨rfl, rfl, Nat.le_of_ble_eq_true rfl, Nat.le_of_ble_eq_true rfl⟩ hl.1 rfl rfl (Nat.le_of_ble_eq_true rfl) ⟨Nat.le_of_ble_eq_true rfl, Nat.le_of_ble_eq_true rfl⟩ dX7_fitsRule_40) (fun r_40x q_40x => ?_)
      obtain rfl : r_40x = (nI (lenH h 1)) := q_40x
      refine lv_aload_n X.1 X.2.1 dX7_fitsRule_43 rfl (lv_at hl 2 rfl) ?_
      refine lv_iload_n X.1 X.2.1 dX7_fitsRule_44 rfl (lv_at hl 4 rfl) ?_
      refine lv_iconst (v := 4) X.1 X.2.1 dX7_fitsRule_45 (by decide) ?_
      refine lv_iconst (v := 2) X.1 X.2.1 dX7_fitsRule_46 (by decide) ?_
      refine lv_iload X.1 X.2.1 dX7_fitsRule_47 (lv_at hl 0 rfl) ?_
      refine lv_imul X.1 X.2.1 dX7_fitsRule_49 ?_
      refine r_eqi (show (((2 : Int32) * 1) : Int32) = 2 from (by decide)) ?_
      refine lv_iadd X.1 X.2.1 dX7_fitsRule_50 ?_
      refine r_eqi (show (((4 : Int32) + 2) : Int32) = 6 from (by decide)) ?_
      refine on_Si (run_V (C := RX7) (As := [.int (nI r9), .int 6]) (rest := [.int (nI (lenH h 1))]) X (c_X7_of l G hp M sc ar sm hM r9 6 (by omega) (by omega)) (rp_blind _) (rp_at X hH hS) (recv X hH hM.1 (C := RX7) (T := TX7) (N := 19) rfl) mf_X7_of tw_922 tw_924 tw_30 ⟨rfl, rfl, Nat.le_of_ble_eq_true rfl, Nat.le_of_ble_eq_true rfl⟩ hl.1 rfl rfl (Nat.le_of_ble_eq_true rfl) ⟨Nat.le_of_ble_eq_true rfl, Nat.le_of_ble_eq_true rfl⟩ dX7_fitsRule_51) (fun r_51x q_51x => ?_)
      obtain rfl : r_51x = nI (R r9 6) := q_51x.trans (hU.2.2.1 r9 6 hr9 (by omega))
      refine lv_aload_n X.1 X.2.1 dX7_fitsRule_54 rfl (lv_at hl 2 rfl) ?_
      refine lv_iload_n X.1 X.2.1 dX7_fitsRule_55 rfl (lv_at hl 4 rfl) ?_
      refine lv_iconst (v := 4) X.1 X.2.1 dX7_fitsRule_56 (by decide) ?_
      refine lv_iconst (v := 2) X.1 X.2.1 dX7_fitsRule_57 (by decide) ?_
      refine lv_iload X.1 X.2.1 dX7_fitsRule_58 (lv_at hl 0 rfl) ?_
      refine lv_imul X.1 X.2.1 dX7_fitsRule_60 ?_
      refine r_eqi (show (((2 : Int32) * 1) : Int32) = 2 from (by decide)) ?_
      refine lv_iadd X.1 X.2.1 dX7_fitsRule_61 ?_
      refine r_eqi (show (((4 : Int32) + 2) : Int32) = 6 from (by decide)) ?_
      refine lv_iconst (v := 1) X.1 X.2.1 dX7_fitsRule_62 (by decide) ?_
      refine lv_iadd X.1 X.2.1 dX7_fitsRule_63 ?_
      refine r_eqi (show (((6 : Int32) + 1) : Int32) = 7 from (by decide)) ?_
      refine on_Si (run_V (C := RX7) (As := [.int (nI r9), .int 7]) (rest := [.int (nI (R r9 6)), .int (nI (lenH h 1))]) X (c_X7_of l G hp M sc ar sm hM r9 7 (by omega) (by omega)) (rp_blind _) (rp_at X hH hS) (recv X hH hM.1 (C := RX7) (T := TX7) (N := 19) rfl) mf_X7_of tw_922 tw_924 tw_30 ⟨rfl, rfl, Nat.le_of_ble_eq_true rfl, Nat.le_of_ble_eq_true rfl⟩ hl.1 rfl rfl (Nat.le_of_ble_eq_true rfl) ⟨Nat.le_of_ble_eq_true rfl, Nat.le_of_ble_eq_true rfl⟩ dX7_fitsRule_64) (fun r_64x q_64x => ?_)
      obtain rfl : r_64x = nI (R r9 7) := q_64x.trans (hU.2.2.1 r9 7 hr9 (by omega))
      refine on_Si (run_S (As := [.int (nI (lenH h 1)), .int (nI (R r9 6)), .int (nI (R r9 7))]) (rest := []) X (c_X7_in l G hp (nI (lenH h 1)) (nI (R r9 6)) (nI (R r9 7))) (rp_blind _) (rp_at X hH hS) mf_X7_in tw_907 tw_908 ⟨rfl, rfl, Nat.le_of_ble_eq_true rfl, Nat.le_of_ble_eq_true rfl⟩ hl.1 rfl rfl (Nat.le_of_ble_eq_true rfl) ⟨Nat.le_of_ble_eq_true rfl, Nat.le_of_ble_eq_true rfl⟩ dX7_fitsRule_67) (fun r_67x q_67x => ?_)
      obtain rfl : r_67x = (inI (nI (lenH h 1)) (nI (R r9 6)).toInt (nI (R r9 7)).toInt) := q_67x
      refine r_eqi (inI_n (x := (lenH h 1)) (a := (R r9 6)) (b := (R r9 7)) (by omega) (by omega) (by omega)) ?_
      refine lv_topi (fun v_70x1 e_70x1 => ?_)
      refine lv_istore_n (lv' := [(3, .int v_70x1), (4, .int 1), (0, .ref (M 0)), (1, .int (nI h)), (2, .int (nI r9))]) X.1 X.2.1 dX7_fitsRule_70 rfl hl (by decide) rfl (fun ls hl => ?_)
      refine lv_iinc (v := 2) (lv' := [(4, .int 2), (3, .int v_70x1), (0, .ref (M 0)), (1, .int (nI h)), (2, .int (nI r9))]) X.1 X.2.1 dX7_fitsRule_71 hl (k := 1) rfl (by decide) (by decide) rfl (fun ls hl => ?_)
      refine lv_goto (tgt := 26) X.1 X.2.1 dX7_fitsRule_74 (by decide) ?_
      refine lv_iload X.1 X.2.1 dX7_fitsRule_26 (lv_at hl 0 rfl) ?_
      refine lv_iconst (v := 4) X.1 X.2.1 dX7_fitsRule_28 (by decide) ?_
      refine lv_icmp_ge (tgt := 77) X.1 X.2.1 dX7_fitsRule_29 (by decide) (fun c_29 => absurd c_29 (by decide)) (fun c_29 => ?_)
      refine lv_iload_n X.1 X.2.1 dX7_fitsRule_32 rfl (lv_at hl 1 rfl) ?_
      refine lv_if_eq (tgt := 77) X.1 X.2.1 dX7_fitsRule_33 (by decide) (fun c_33 => ?_) (fun c_33 => ?_)
      · rw [e_70x1] at c_33
        have g := bI_0 c_33
        refine lv_iload_n X.1 X.2.1 dX7_fitsRule_77 rfl (lv_at hl 1 rfl) ?_
        exact ro_z X hr hlk (by rw [e_70x1]; exact bI_z _) (by show v_70x1 = _; rw [e_70x1]; unfold fitB; rw [g0, g1, g]; simp) dX7_fitsRule_78
      · rw [e_70x1] at c_33
        have g2 := bI_1 c_33
        refine lv_aload_n X.1 X.2.1 dX7_fitsRule_36 rfl (lv_at hl 2 rfl) ?_
        refine lv_iload_n X.1 X.2.1 dX7_fitsRule_37 rfl (lv_at hl 3 rfl) ?_
        refine lv_iload X.1 X.2.1 dX7_fitsRule_38 (lv_at hl 0 rfl) ?_
        refine on_Si (run_V (C := RX7) (As := [.int (nI h), .int 2]) (rest := []) X (c_X7_length l G hp M sc ar sm hM hT h 2 (by omega) (by decide)) (rp_blind _) (rp_at X hH hS) (recv X hH hM.1 (C := RX7) (T := TX7) (N := 19) rfl) mf_X7_length tw_943 tw_945 tw_34 ⟨rfl, rfl, Nat.le_of_ble_eq_true rfl, Nat.le_of_ble_eq_true rfl⟩ hl.1 rfl rfl (Nat.le_of_ble_eq_true rfl) ⟨Nat.le_of_ble_eq_true rfl, Nat.le_of_ble_eq_true rfl⟩ dX7_fitsRule_40) (fun r_40xx q_40xx => ?_)
        obtain rfl : r_40xx = (nI (lenH h 2)) := q_40xx
        refine lv_aload_n X.1 X.2.1 dX7_fitsRule_43 rfl (lv_at hl 2 rfl) ?_
        refine lv_iload_n X.1 X.2.1 dX7_fitsRule_44 rfl (lv_at hl 4 rfl) ?_
        refine lv_iconst (v := 4) X.1 X.2.1 dX7_fitsRule_45 (by decide) ?_
        refine lv_iconst (v := 2) X.1 X.2.1 dX7_fitsRule_46 (by decide) ?_
        refine lv_iload X.1 X.2.1 dX7_fitsRule_47 (lv_at hl 0 rfl) ?_
        refine lv_imul X.1 X.2.1 dX7_fitsRule_49 ?_
        refine r_eqi (show (((2 : Int32) * 2) : Int32) = 4 from (by decide)) ?_
        refine lv_iadd X.1 X.2.1 dX7_fitsRule_50 ?_
        refine r_eqi (show (((4 : Int32) + 4) : Int32) = 8 from (by decide)) ?_
        refine on_Si (run_V (C := RX7) (As := [.int (nI r9), .int 8]) (rest := [.int (nI (lenH h 2))]) X (c_X7_of l G hp M sc ar sm hM r9 8 (by omega) (by omega)) (rp_blind _) (rp_at X hH hS) (recv X hH hM.1 (C := RX7) (T := TX7) (N := 19) rfl) mf_X7_of tw_922 tw_924 tw_30 ⟨rfl, rfl, Nat.le_of_ble_eq_true rfl, Nat.le_of_ble_eq_true rfl⟩ hl.1 rfl rfl (Nat.le_of_ble_eq_true rfl) ⟨Nat.le_of_ble_eq_true rfl, Nat.le_of_ble_eq_true rfl⟩ dX7_fitsRule_51) (fun r_51xx q_51xx => ?_)
        obtain rfl : r_51xx = nI (R r9 8) := q_51xx.trans (hU.2.2.1 r9 8 hr9 (by omega))
        refine lv_aload_n X.1 X.2.1 dX7_fitsRule_54 rfl (lv_at hl 2 rfl) ?_
        refine lv_iload_n X.1 X.2.1 dX7_fitsRule_55 rfl (lv_at hl 4 rfl) ?_
        refine lv_iconst (v := 4) X.1 X.2.1 dX7_fitsRule_56 (by decide) ?_
        refine lv_iconst (v := 2) X.1 X.2.1 dX7_fitsRule_57 (by decide) ?_
        refine lv_iload X.1 X.2.1 dX7_fitsRule_58 (lv_at hl 0 rfl) ?_
        refine lv_imul X.1 X.2.1 dX7_fitsRule_60 ?_
        refine r_eqi (show (((2 : Int32) * 2) : Int32) = 4 from (by decide)) ?_
        refine lv_iadd X.1 X.2.1 dX7_fitsRule_61 ?_
        refine r_eqi (show (((4 : Int32) + 4) : Int32) = 8 from (by decide)) ?_
        refine lv_iconst (v := 1) X.1 X.2.1 dX7_fitsRule_62 (by decide) ?_
        refine lv_iadd X.1 X.2.1 dX7_fitsRule_63 ?_
        refine r_eqi (show (((8 : Int32) + 1) : Int32) = 9 from (by decide)) ?_
        refine on_Si (run_V (C := RX7) (As := [.int (nI r9), .int 9]) (rest := [.int (nI (R r9 8)), .int (nI (lenH h 2))]) X (c_X7_of l G hp M sc ar sm hM r9 9 (by omega) (by omega)) (rp_blind _) (rp_at X hH hS) (recv X hH hM.1 (C := RX7) (T := TX7) (N := 19) rfl) mf_X7_of tw_922 tw_924 tw_30 ⟨rfl, rfl, Nat.le_of_ble_eq_true rfl, Nat.le_of_ble_eq_true rfl⟩ hl.1 rfl rfl (Nat.le_of_ble_eq_true rfl) ⟨Nat.le_of_ble_eq_true rfl, Nat.le_of_ble_eq_true rfl⟩ dX7_fitsRule_64) (fun r_64xx q_64xx => ?_)
        obtain rfl : r_64xx = nI (R r9 9) := q_64xx.trans (hU.2.2.1 r9 9 hr9 (by omega))
        refine on_Si (run_S (As := [.int (nI (lenH h 2)), .int (nI (R r9 8)), .int (nI (R r9 9))]) (rest := []) X (c_X7_in l G hp (nI (lenH h 2)) (nI (R r9 8)) (nI (R r9 9))) (rp_blind _) (rp_at X hH hS) mf_X7_in tw_907 tw_908 ⟨rfl, rfl, Nat.le_of_ble_eq_true rfl, Nat.le_of_ble_eq_true rfl⟩ hl.1 rfl rfl (Nat.le_of_ble_eq_true rfl) ⟨Nat.le_of_ble_eq_true rfl, Nat.le_of_ble_eq_true rfl⟩ dX7_fitsRule_67) (fun r_67xx q_67xx => ?_)
        obtain rfl : r_67xx = (inI (nI (lenH h 2)) (nI (R r9 8)).toInt (nI (R r9 9)).toInt) := q_67xx
        refine r_eqi (inI_n (x := (lenH h 2)) (a := (R r9 8)) (b := (R r9 9)) (by omega) (by omega) (by omega)) ?_
        refine lv_topi (fun v_70x2 e_70x2 => ?_)
        refine lv_istore_n (lv' := [(3, .int v_70x2), (4, .int 2), (0, .ref (M 0)), (1, .int (nI h)), (2, .int (nI r9))]) X.1 X.2.1 dX7_fitsRule_70 rfl hl (by decide) rfl (fun ls hl => ?_)
        refine lv_iinc (v := 3) (lv' := [(4, .int 3), (3, .int v_70x2), (0, .ref (M 0)), (1, .int (nI h)), (2, .int (nI r9))]) X.1 X.2.1 dX7_fitsRule_71 hl (k := 1) rfl (by decide) (by decide) rfl (fun ls hl => ?_)
        refine lv_goto (tgt := 26) X.1 X.2.1 dX7_fitsRule_74 (by decide) ?_
        refine lv_iload X.1 X.2.1 dX7_fitsRule_26 (lv_at hl 0 rfl) ?_
        refine lv_iconst (v := 4) X.1 X.2.1 dX7_fitsRule_28 (by decide) ?_
        refine lv_icmp_ge (tgt := 77) X.1 X.2.1 dX7_fitsRule_29 (by decide) (fun c_29 => absurd c_29 (by decide)) (fun c_29 => ?_)
        refine lv_iload_n X.1 X.2.1 dX7_fitsRule_32 rfl (lv_at hl 1 rfl) ?_
        refine lv_if_eq (tgt := 77) X.1 X.2.1 dX7_fitsRule_33 (by decide) (fun c_33 => ?_) (fun c_33 => ?_)
        · rw [e_70x2] at c_33
          have g := bI_0 c_33
          refine lv_iload_n X.1 X.2.1 dX7_fitsRule_77 rfl (lv_at hl 1 rfl) ?_
          exact ro_z X hr hlk (by rw [e_70x2]; exact bI_z _) (by show v_70x2 = _; rw [e_70x2]; unfold fitB; rw [g0, g1, g2, g]; simp) dX7_fitsRule_78
        · rw [e_70x2] at c_33
          have g3 := bI_1 c_33
          refine lv_aload_n X.1 X.2.1 dX7_fitsRule_36 rfl (lv_at hl 2 rfl) ?_
          refine lv_iload_n X.1 X.2.1 dX7_fitsRule_37 rfl (lv_at hl 3 rfl) ?_
          refine lv_iload X.1 X.2.1 dX7_fitsRule_38 (lv_at hl 0 rfl) ?_
          refine on_Si (run_V (C := RX7) (As := [.int (nI h), .int 3]) (rest := []) X (c_X7_length l G hp M sc ar sm hM hT h 3 (by omega) (by decide)) (rp_blind _) (rp_at X hH hS) (recv X hH hM.1 (C := RX7) (T := TX7) (N := 19) rfl) mf_X7_length tw_943 tw_945 tw_34 ⟨rfl, rfl, Nat.le_of_ble_eq_true rfl, Nat.le_of_ble_eq_true rfl⟩ hl.1 rfl rfl (Nat.le_of_ble_eq_true rfl) ⟨Nat.le_of_ble_eq_true rfl, Nat.le_of_ble_eq_true rfl⟩ dX7_fitsRule_40) (fun r_40xxx q_40xxx => ?_)
          obtain rfl : r_40xxx = (nI (lenH h 3)) := q_40xxx
          refine lv_aload_n X.1 X.2.1 dX7_fitsRule_43 rfl (lv_at hl 2 rfl) ?_
          refine lv_iload_n X.1 X.2.1 dX7_fitsRule_44 rfl (lv_at hl 4 rfl) ?_
          refine lv_iconst (v := 4) X.1 X.2.1 dX7_fitsRule_45 (by decide) ?_
          refine lv_iconst (v := 2) X.1 X.2.1 dX7_fitsRule_46 (by decide) ?_
          refine lv_iload X.1 X.2.1 dX7_fitsRule_47 (lv_at hl 0 rfl) ?_
          refine lv_imul X.1 X.2.1 dX7_fitsRule_49 ?_
          refine r_eqi (show (((2 : Int32) * 3) : Int32) = 6 from (by decide)) ?_
          refine lv_iadd X.1 X.2.1 dX7_fitsRule_50 ?_
          refine r_eqi (show (((4 : Int32) + 6) : Int32) = 10 from (by decide)) ?_
          refine on_Si (run_V (C := RX7) (As := [.int (nI r9), .int 10]) (rest := [.int (nI (lenH h 3))]) X (c_X7_of l G hp M sc ar sm hM r9 10 (by omega) (by omega)) (rp_blind _) (rp_at X hH hS) (recv X hH hM.1 (C := RX7) (T := TX7) (N := 19) rfl) mf_X7_of tw_922 tw_924 tw_30 ⟨rfl, rfl, Nat.le_of_ble_eq_true rfl, Nat.le_of_ble_eq_true rfl⟩ hl.1 rfl rfl (Nat.le_of_ble_eq_true rfl) ⟨Nat.le_of_ble_eq_true rfl, Nat.le_of_ble_eq_true rfl⟩ dX7_fitsRule_51) (fun r_51xxx q_51xxx => ?_)
          obtain rfl : r_51xxx = nI (R r9 10) := q_51xxx.trans (hU.2.2.1 r9 10 hr9 (by omega))
          refine lv_aload_n X.1 X.2.1 dX7_fitsRule_54 rfl (lv_at hl 2 rfl) ?_
          refine lv_iload_n X.1 X.2.1 dX7_fitsRule_55 rfl (lv_at hl 4 rfl) ?_
          refine lv_iconst (v := 4) X.1 X.2.1 dX7_fitsRule_56 (by decide) ?_
          refine lv_iconst (v := 2) X.1 X.2.1 dX7_fitsRule_57 (by decide) ?_
          refine lv_iload X.1 X.2.1 dX7_fitsRule_58 (lv_at hl 0 rfl) ?_
          refine lv_imul X.1 X.2.1 dX7_fitsRule_60 ?_
          refine r_eqi (show (((2 : Int32) * 3) : Int32) = 6 from (by decide)) ?_
          refine lv_iadd X.1 X.2.1 dX7_fitsRule_61 ?_
          refine r_eqi (show (((4 : Int32) + 6) : Int32) = 10 from (by decide)) ?_
          refine lv_iconst (v := 1) X.1 X.2.1 dX7_fitsRule_62 (by decide) ?_
          refine lv_iadd X.1 X.2.1 dX7_fitsRule_63 ?_
          refine r_eqi (show (((10 : Int32) + 1) : Int32) = 11 from (by decide)) ?_
          refine on_Si (run_V (C := RX7) (As := [.int (nI r9), .int 11]) (rest := [.int (nI (R r9 10)), .int (nI (lenH h 3))]) X (c_X7_of l G hp M sc ar sm hM r9 11 (by omega) (by omega)) (rp_blind _) (rp_at X hH hS) (recv X hH hM.1 (C := RX7) (T := TX7) (N := 19) rfl) mf_X7_of tw_922 tw_924 tw_30 ⟨rfl, rfl, Nat.le_of_ble_eq_true rfl, Nat.le_of_ble_eq_true rfl⟩ hl.1 rfl rfl (Nat.le_of_ble_eq_true rfl) ⟨Nat.le_of_ble_eq_true rfl, Nat.le_of_ble_eq_true rfl⟩ dX7_fitsRule_64) (fun r_64xxx q_64xxx => ?_)
          obtain rfl : r_64xxx = nI (R r9 11) := q_64xxx.trans (hU.2.2.1 r9 11 hr9 (by omega))
          refine on_Si (run_S (As := [.int (nI (lenH h 3)), .int (nI (R r9 10)), .int (nI (R r9 11))]) (rest := []) X (c_X7_in l G hp (nI (lenH h 3)) (nI (R r9 10)) (nI (R r9 11))) (rp_blind _) (rp_at X hH hS) mf_X7_in tw_907 tw_908 ⟨rfl, rfl, Nat.le_of_ble_eq_true rfl, Nat.le_of_ble_eq_true rfl⟩ hl.1 rfl rfl (Nat.le_of_ble_eq_true rfl) ⟨Nat.le_of_ble_eq_true rfl, Nat.le_of_ble_eq_true rfl⟩ dX7_fitsRule_67) (fun r_67xxx q_67xxx => ?_)
          obtain rfl : r_67xxx = (inI (nI (lenH h 3)) (nI (R r9 10)).toInt (nI (R r9 11)).toInt) := q_67xxx
          refine r_eqi (inI_n (x := (lenH h 3)) (a := (R r9 10)) (b := (R r9 11)) (by omega) (by omega) (by omega)) ?_
          refine lv_topi (fun v_70x3 e_70x3 => ?_)
          refine lv_istore_n (lv' := [(3, .int v_70x3), (4, .int 3), (0, .ref (M 0)), (1, .int (nI h)), (2, .int (nI r9))]) X.1 X.2.1 dX7_fitsRule_70 rfl hl (by decide) rfl (fun ls hl => ?_)
          refine lv_iinc (v := 4) (lv' := [(4, .int 4), (3, .int v_70x3), (0, .ref (M 0)), (1, .int (nI h)), (2, .int (nI r9))]) X.1 X.2.1 dX7_fitsRule_71 hl (k := 1) rfl (by decide) (by decide) rfl (fun ls hl => ?_)
          refine lv_goto (tgt := 26) X.1 X.2.1 dX7_fitsRule_74 (by decide) ?_
          refine lv_iload X.1 X.2.1 dX7_fitsRule_26 (lv_at hl 0 rfl) ?_
          refine lv_iconst (v := 4) X.1 X.2.1 dX7_fitsRule_28 (by decide) ?_
          refine lv_icmp_ge (tgt := 77) X.1 X.2.1 dX7_fitsRule_29 (by decide) (fun c_29 => ?_) (fun c_29 => absurd (by decide) c_29)
          refine lv_iload_n X.1 X.2.1 dX7_fitsRule_77 rfl (lv_at hl 1 rfl) ?_
          exact ro_z X hr hlk (by rw [e_70x3]; exact bI_z _) (by show v_70x3 = _; rw [e_70x3]; unfold fitB; rw [g0, g1, g2, g3]; simp) dX7_fitsRule_78

set_option maxHeartbeats 4000000 in
set_option maxRecDepth 100000 in
theorem c_X7_isOpen (l : Launch) (G : HG) (hp : HP) (M : Nat → Nat) (sc : Nat → Int32) (ar : Nat → Nat → Int32) (sm : Nat → Int64) (hM : MR G hp M sc ar sm) (n : Nat) (R : Nat → Nat → Nat) (hU : MU n R sc ar) (r9 : Nat) (hr9 : r9 < n) (st la fo : Int32) : Met l yX7_isOpen [.code yX7_isOpen cX7_isOpen 6 (some .boolean)] { frames := 1, cells := 0, slots := 0, locals := 22 } (va_Pc [.ref (M 0), .int (nI r9), .int st, .int la, .int fo] (RP G hp)) (vp_Si (fun r => r = bI (opB (R r9) st la fo))) 0 0 (fun _ => False) := by
  refine ro_ofW (by decide) (Nat.le_of_ble_eq_true rfl) ?_
  intro p e s m args below meth c ls X hr hlk hH hl
  have hS : va_S (fun _ => False) s.heap s.heap [] := va_S.rf
  have hl : lv_has ls 6 [(0, .ref (M 0)), (1, .int (nI r9)), (2, .int st), (3, .int la), (4, .int fo)] := hl
  have hn := hU.2.1
  have := hU.2.2.2 r9 0 hr9 (by decide)
  have := hU.2.2.2 r9 1 hr9 (by decide)
  refine lv_aload_n X.1 X.2.1 dX7_isOpen_0 rfl (lv_at hl 0 rfl) ?_
  refine lv_iload_n X.1 X.2.1 dX7_isOpen_1 rfl (lv_at hl 1 rfl) ?_
  refine lv_iconst (v := 1) X.1 X.2.1 dX7_isOpen_2 (by decide) ?_
  refine on_Si (run_V (C := RX7) (As := [.int (nI r9), .int 1]) (rest := []) X (c_X7_of l G hp M sc ar sm hM r9 1 (by omega) (by omega)) (rp_blind _) (rp_at X hH hS) (recv X hH hM.1 (C := RX7) (T := TX7) (N := 19) rfl) mf_X7_of tw_922 tw_924 tw_30 ⟨rfl, rfl, Nat.le_of_ble_eq_true rfl, Nat.le_of_ble_eq_true rfl⟩ hl.1 rfl rfl (Nat.le_of_ble_eq_true rfl) ⟨Nat.le_of_ble_eq_true rfl, Nat.le_of_ble_eq_true rfl⟩ dX7_isOpen_3) (fun r_3 q_3 => ?_)
  obtain rfl : r_3 = nI (R r9 1) := q_3.trans (hU.2.2.1 r9 1 hr9 (by omega))
  refine lv_istore (lv' := [(5, .int (nI (R r9 1))), (0, .ref (M 0)), (1, .int (nI r9)), (2, .int st), (3, .int la), (4, .int fo)]) X.1 X.2.1 dX7_isOpen_6 hl (by decide) rfl (fun ls hl => ?_)
  refine lv_aload_n X.1 X.2.1 dX7_isOpen_8 rfl (lv_at hl 1 rfl) ?_
  refine lv_iload_n X.1 X.2.1 dX7_isOpen_9 rfl (lv_at hl 2 rfl) ?_
  refine lv_iconst (v := 0) X.1 X.2.1 dX7_isOpen_10 (by decide) ?_
  refine on_Si (run_V (C := RX7) (As := [.int (nI r9), .int 0]) (rest := []) X (c_X7_of l G hp M sc ar sm hM r9 0 (by omega) (by omega)) (rp_blind _) (rp_at X hH hS) (recv X hH hM.1 (C := RX7) (T := TX7) (N := 19) rfl) mf_X7_of tw_922 tw_924 tw_30 ⟨rfl, rfl, Nat.le_of_ble_eq_true rfl, Nat.le_of_ble_eq_true rfl⟩ hl.1 rfl rfl (Nat.le_of_ble_eq_true rfl) ⟨Nat.le_of_ble_eq_true rfl, Nat.le_of_ble_eq_true rfl⟩ dX7_isOpen_11) (fun r_11 q_11 => ?_)
  obtain rfl : r_11 = nI (R r9 0) := q_11.trans (hU.2.2.1 r9 0 hr9 (by omega))
  refine lv_iload_n X.1 X.2.1 dX7_isOpen_14 rfl (lv_at hl 3 rfl) ?_
  refine lv_icmp_ne (tgt := 43) X.1 X.2.1 dX7_isOpen_15 (by decide) (fun c_15 => ?_) (fun c_15 => ?_)
  · refine lv_iconst (v := 0) X.1 X.2.1 dX7_isOpen_43 (by decide) ?_
    exact ro_z X hr hlk rfl (by show (_ : Int32) = bI _; unfold opB; rw [decide_eq_false c_15]; rfl) dX7_isOpen_44
  · refine lv_iload X.1 X.2.1 dX7_isOpen_18 (lv_at hl 0 rfl) ?_
    refine lv_bipush (v := 25) X.1 X.2.1 dX7_isOpen_20 (by decide) ?_
    refine lv_icmp_ne (tgt := 33) X.1 X.2.1 dX7_isOpen_22 (by decide) (fun c_22 => ?_) (fun c_22 => ?_)
    · have k_22 := k_ne (a := (R r9 1)) (b := 25) (by omega) (by omega) c_22
      refine lv_iload X.1 X.2.1 dX7_isOpen_33 (lv_at hl 0 rfl) ?_
      refine lv_iload_n X.1 X.2.1 dX7_isOpen_35 rfl (lv_at hl 4 rfl) ?_
      refine lv_icmp_le (tgt := 43) X.1 X.2.1 dX7_isOpen_36 (by decide) (fun c_36 => ?_) (fun c_36 => ?_)
      · refine lv_iconst (v := 0) X.1 X.2.1 dX7_isOpen_43 (by decide) ?_
        exact ro_z X hr hlk rfl (by show (_ : Int32) = bI _; unfold opB; rw [decide_eq_true c_15]; rw [if_neg k_22]; rw [decide_eq_false (Int32.not_lt.mpr c_36)]; rfl) dX7_isOpen_44
      · refine lv_iconst (v := 1) X.1 X.2.1 dX7_isOpen_39 (by decide) ?_
        refine lv_goto (tgt := 44) X.1 X.2.1 dX7_isOpen_40 (by decide) ?_
        exact ro_z X hr hlk rfl (by show (_ : Int32) = bI _; unfold opB; rw [decide_eq_true c_15]; rw [if_neg k_22]; rw [decide_eq_true (Int32.not_le.mp c_36)]; rfl) dX7_isOpen_44
    · have k_22 := k_eq (a := (R r9 1)) (b := 25) (by omega) (by omega) c_22
      refine lv_iload X.1 X.2.1 dX7_isOpen_25 (lv_at hl 5 rfl) ?_
      refine lv_if_ne (tgt := 43) X.1 X.2.1 dX7_isOpen_27 (by decide) (fun c_27 => ?_) (fun c_27 => ?_)
      · refine lv_iconst (v := 0) X.1 X.2.1 dX7_isOpen_43 (by decide) ?_
        exact ro_z X hr hlk rfl (by show (_ : Int32) = bI _; unfold opB; rw [decide_eq_true c_15]; rw [if_pos k_22]; rw [decide_eq_false c_27]; rfl) dX7_isOpen_44
      · refine lv_goto (tgt := 39) X.1 X.2.1 dX7_isOpen_30 (by decide) ?_
        refine lv_iconst (v := 1) X.1 X.2.1 dX7_isOpen_39 (by decide) ?_
        refine lv_goto (tgt := 44) X.1 X.2.1 dX7_isOpen_40 (by decide) ?_
        exact ro_z X hr hlk rfl (by show (_ : Int32) = bI _; unfold opB; rw [decide_eq_true c_15]; rw [if_pos k_22]; rw [decide_eq_true c_27]; rfl) dX7_isOpen_44

set_option maxHeartbeats 4000000 in
set_option maxRecDepth 100000 in
theorem c_X7_ruleFor (l : Launch) (G : HG) (hp : HP) (M : Nat → Nat) (sc : Nat → Int32) (ar : Nat → Nat → Int32) (sm : Nat → Int64) (hM : MR G hp M sc ar sm) (hT : MT ar) (n : Nat) (R : Nat → Nat → Nat) (hU : MU n R sc ar) (h : Nat) (hh : h < 2 ^ 31) (st la fo : Int32) : Met l yX7_ruleFor [.code yX7_ruleFor cX7_ruleFor 6 (some .int)] { frames := 2, cells := 0, slots := 0, locals := 47 } (va_Pc [.ref (M 0), .int (nI h), .int st, .int la, .int fo] (RP G hp)) (vp_Si (fun r => r = rlF n R h st la fo)) 0 0 (fun _ => False) := by
  refine ro_ofW (by decide) (Nat.le_of_ble_eq_true rfl) ?_
  intro p e s m args below meth c ls X hr hlk hH hl
  have hS : va_S (fun _ => False) s.heap s.heap [] := va_S.rf
  have hl : lv_has ls 6 [(0, .ref (M 0)), (1, .int (nI h)), (2, .int st), (3, .int la), (4, .int fo)] := hl
  have hn := hU.2.1
  refine lv_iconst (v := 0) X.1 X.2.1 dX7_ruleFor_0 (by decide) ?_
  refine lv_istore (lv' := [(5, .int 0), (0, .ref (M 0)), (1, .int (nI h)), (2, .int st), (3, .int la), (4, .int fo)]) X.1 X.2.1 dX7_ruleFor_1 hl (by decide) rfl (fun ls hl => ?_)
  have L3 : ∀ (f : Nat) (r : Nat), r + f = n → ruF (ruB R h st la fo) f r = rlF n R h st la fo → ∀ ls, lv_has ls 6 [(0, .ref (M 0)), (1, .int (nI h)), (2, .int st), (3, .int la), (4, .int fo), (5, .int (nI r))] → W p l e ({ frames := 2, cells := 0, slots := 0, locals := 47 } : Room) s m args below meth c s.heap [] 0 0 (MQ below (vp_Si (fun r => r = rlF n R h st la fo)) args s 0 0 (fun _ => False)) (F0 m 3 ls []) := by
    intro f
    induction f with
    | zero =>
      intro r h0 h1 ls hl
      refine lv_iload X.1 X.2.1 dX7_ruleFor_3 (lv_at hl 5 rfl) ?_
      refine lv_aload_n X.1 X.2.1 dX7_ruleFor_5 rfl (lv_at hl 0 rfl) ?_
      refine r_get X hH hM.1 (v := .int (sc 0)) (C := RX7) (T := TX7) (N := 19) rfl tin_X7 1 (by decide) tw_844 (fun _ h => h) rfl dX7_ruleFor_6 ?_
      refine lv_icmp_ge (tgt := 44) X.1 X.2.1 dX7_ruleFor_9 (by decide) (fun c_9 => ?_) (fun c_9 => absurd (by rw [hU.1]; exact nI_le (by omega) (by omega)) c_9)
      refine lv_bipush (v := (-6)) X.1 X.2.1 dX7_ruleFor_44 (by decide) ?_
      exact ro_i X hr hlk (by show (-6 : Int32) = _; rw [← h1]; rfl) dX7_ruleFor_46
    | succ f ih =>
      intro r h0 h1 ls hl
      refine lv_iload X.1 X.2.1 dX7_ruleFor_3 (lv_at hl 5 rfl) ?_
      refine lv_aload_n X.1 X.2.1 dX7_ruleFor_5 rfl (lv_at hl 0 rfl) ?_
      refine r_get X hH hM.1 (v := .int (sc 0)) (C := RX7) (T := TX7) (N := 19) rfl tin_X7 1 (by decide) tw_844 (fun _ h => h) rfl dX7_ruleFor_6 ?_
      refine lv_icmp_ge (tgt := 44) X.1 X.2.1 dX7_ruleFor_9 (by decide) (fun c_9 => absurd c_9 (by rw [hU.1]; exact nI_ge (by omega) (by omega))) (fun c_9 => ?_)
      refine lv_aload_n X.1 X.2.1 dX7_ruleFor_12 rfl (lv_at hl 0 rfl) ?_
      refine lv_iload X.1 X.2.1 dX7_ruleFor_13 (lv_at hl 5 rfl) ?_
      refine lv_iload_n X.1 X.2.1 dX7_ruleFor_15 rfl (lv_at hl 2 rfl) ?_
      refine lv_iload_n X.1 X.2.1 dX7_ruleFor_16 rfl (lv_at hl 3 rfl) ?_
      refine lv_iload X.1 X.2.1 dX7_ruleFor_17 (lv_at hl 4 rfl) ?_
      refine on_Si (run_V (C := RX7) (As := [.int (nI r), .int st, .int la, .int fo]) (rest := []) X (c_X7_isOpen l G hp M sc ar sm hM n R hU r (by omega) st la fo) (rp_blind _) (rp_at X hH hS) (recv X hH hM.1 (C := RX7) (T := TX7) (N := 19) rfl) mf_X7_isOpen tw_1010 tw_1012 tw_40 ⟨rfl, rfl, Nat.le_of_ble_eq_true rfl, Nat.le_of_ble_eq_true rfl⟩ hl.1 rfl rfl (Nat.le_of_ble_eq_true rfl) ⟨Nat.le_of_ble_eq_true rfl, Nat.le_of_ble_eq_true rfl⟩ dX7_ruleFor_19) (fun r_19 q_19 => ?_)
      obtain rfl : r_19 = (bI (opB (R r) st la fo)) := q_19
      refine lv_if_eq (tgt := 38) X.1 X.2.1 dX7_ruleFor_22 (by decide) (fun c_22 => ?_) (fun c_22 => ?_)
      · have g := bI_0 c_22
        refine lv_iinc (v := (nI (r + 1))) (lv' := [(5, .int (nI (r + 1))), (0, .ref (M 0)), (1, .int (nI h)), (2, .int st), (3, .int la), (4, .int fo)]) X.1 X.2.1 dX7_ruleFor_38 hl (k := 5) rfl (nI_add r 1) (by decide) rfl (fun ls hl => ?_)
        refine lv_goto (tgt := 3) X.1 X.2.1 dX7_ruleFor_41 (by decide) ?_
        exact ih (r + 1) (by omega) (by rw [← h1]; exact (if_neg (by rw [ruB, g, Bool.false_and]; decide)).symm) ls (lv_sub hl [1, 2, 3, 4, 5, 0] rfl)
      · have g := bI_1 c_22
        refine lv_aload_n X.1 X.2.1 dX7_ruleFor_25 rfl (lv_at hl 0 rfl) ?_
        refine lv_iload_n X.1 X.2.1 dX7_ruleFor_26 rfl (lv_at hl 1 rfl) ?_
        refine lv_iload X.1 X.2.1 dX7_ruleFor_27 (lv_at hl 5 rfl) ?_
        refine on_Si (run_V (C := RX7) (As := [.int (nI h), .int (nI r)]) (rest := []) X (c_X7_fitsRule l G hp M sc ar sm hM hT n R hU h hh r (by omega)) (rp_blind _) (rp_at X hH hS) (recv X hH hM.1 (C := RX7) (T := TX7) (N := 19) rfl) mf_X7_fitsRule tw_935 tw_937 tw_32 ⟨rfl, rfl, Nat.le_of_ble_eq_true rfl, Nat.le_of_ble_eq_true rfl⟩ hl.1 rfl rfl (Nat.le_of_ble_eq_true rfl) ⟨Nat.le_of_ble_eq_true rfl, Nat.le_of_ble_eq_true rfl⟩ dX7_ruleFor_29) (fun r_29 q_29 => ?_)
        obtain rfl : r_29 = (bI (fitB (R r) h)) := q_29
        refine lv_if_eq (tgt := 38) X.1 X.2.1 dX7_ruleFor_32 (by decide) (fun c_32 => ?_) (fun c_32 => ?_)
        · have g2 := bI_0 c_32
          refine lv_iinc (v := (nI (r + 1))) (lv' := [(5, .int (nI (r + 1))), (0, .ref (M 0)), (1, .int (nI h)), (2, .int st), (3, .int la), (4, .int fo)]) X.1 X.2.1 dX7_ruleFor_38 hl (k := 5) rfl (nI_add r 1) (by decide) rfl (fun ls hl => ?_)
          refine lv_goto (tgt := 3) X.1 X.2.1 dX7_ruleFor_41 (by decide) ?_
          exact ih (r + 1) (by omega) (by rw [← h1]; exact (if_neg (by rw [ruB, g2, Bool.and_false]; decide)).symm) ls (lv_sub hl [1, 2, 3, 4, 5, 0] rfl)
        · have g2 := bI_1 c_32
          refine lv_iload X.1 X.2.1 dX7_ruleFor_35 (lv_at hl 5 rfl) ?_
          exact ro_i X hr hlk (by show nI r = _; rw [← h1]; exact (if_pos (by rw [ruB, g, g2]; rfl)).symm) dX7_ruleFor_37
  exact L3 n 0 (by omega) rfl ls (lv_sub hl [1, 2, 3, 4, 5, 0] rfl)

