/-- the reference's auction: calls, rules, states, forced or not, last bids -/
def MAu (k : Nat) (cs : Nat → Nat → Int32) (sk : Bool) (sc : Nat → Int32) (ar : Nat → Nat → Int32) : Prop := sc 1 = nI k ∧ k ≤ 12 ∧ sc 2 = bI sk ∧ (∀ i, i < k → ar 4 i = cs i 0 ∧ ar 5 i = cs i 1) ∧ (∀ i, i ≤ k → ar 6 i = cs i 2 ∧ ar 7 i = cs i 3 ∧ ar 8 i = cs i 4)
/-- whether the auction is over -/
def ovB (k : Nat) (cs : Nat → Nat → Int32) (sk : Bool) : Bool := sk || (decide (k = 12) || (decide (0 < k) && decide (cs (k - 1) 0 = 25)))
/-- all of i, i + 2 .. (f of them) have P -/
def alF (P : Nat → Bool) : Nat → Nat → Bool
  | 0, _ => true
  | f + 1, i => P i && alF P f (i + 2)
def caB (n : Nat) (R : Nat → Nat → Nat) (cs : Nat → Nat → Int32) (h i : Nat) : Bool := decide (rlF n R h (cs i 2) (cs i 4) (cs i 3) = cs i 1)
/-- whether a hand fits the auction for a partner -/
def faB (n : Nat) (R : Nat → Nat → Nat) (k : Nat) (cs : Nat → Nat → Int32) (sk : Bool) (p h : Nat) : Bool := alF (caB n R cs h) ((k + 1 - p) / 2) p && (!(sk && decide (k % 2 = p)) || decide (rlF n R h (cs k 2) (cs k 4) (cs k 3) = -6))
def hidB (n : Nat) (R : Nat → Nat → Nat) (k : Nat) (cs : Nat → Nat → Int32) (sk : Bool) (p kn h : Nat) : Bool := decide (h &&& kn = 0) && faB n R k cs sk p h
theorem ruF_or (P : Nat → Bool) : ∀ f r, ruF P f r = -6 ∨ ∃ j, r ≤ j ∧ j < r + f ∧ P j = true ∧ ruF P f r = nI j
  | 0, _ => Or.inl rfl
  | f + 1, r => by
    unfold ruF
    by_cases h : P r = true
    · rw [if_pos h]
      exact Or.inr ⟨r, Nat.le_refl _, by omega, h, rfl⟩
    · rw [if_neg h]
      rcases ruF_or P f (r + 1) with q | ⟨j, q1, q2, q3, q4⟩
      · exact Or.inl q
      · exact Or.inr ⟨j, by omega, by omega, q3, q4⟩
theorem rlF_or (n : Nat) (R : Nat → Nat → Nat) (h : Nat) (st la fo : Int32) : rlF n R h st la fo = -6 ∨ ∃ j, j < n ∧ rlF n R h st la fo = nI j := by
  rcases ruF_or (ruB R h st la fo) n 0 with q | ⟨j, -, q2, -, q4⟩
  · exact Or.inl q
  · exact Or.inr ⟨j, by omega, q4⟩
theorem rlF_neg {n : Nat} {R : Nat → Nat → Nat} {h : Nat} {st la fo : Int32} (hn : n ≤ 24) (q : ¬ (0 : Int32) ≤ rlF n R h st la fo) : rlF n R h st la fo = -6 := by
  rcases rlF_or n R h st la fo with e | ⟨j, hj, e⟩
  · exact e
  · rw [e] at q
    exact absurd (nI_pos' (by omega)) q
theorem rlF_pos {n : Nat} {R : Nat → Nat → Nat} {h : Nat} {st la fo : Int32} (q : (0 : Int32) ≤ rlF n R h st la fo) : rlF n R h st la fo ≠ -6 := fun e => by
  rw [e] at q
  exact absurd q (by decide)
theorem hl_out {i : Nat} (h : i = 15504) : (1048575 : Int32) < nI (HL i) := by
  rw [h]
  exact nI_lt (a := 1048575) HL_end (Nat.lt_of_le_of_lt (HL_le (i := 15504) (by decide)) (by decide))
theorem hl_inn {i : Nat} (h : i < 15504) : ¬ (1048575 : Int32) < nI (HL i) := nI_nlt (a := 1048575) (by have := (HL_ok h).2.1; omega) (by decide)
set_option maxHeartbeats 4000000 in
set_option maxRecDepth 100000 in
theorem c_X7_isOver (l : Launch) (G : HG) (hp : HP) (M : Nat → Nat) (sc : Nat → Int32) (ar : Nat → Nat → Int32) (sm : Nat → Int64) (hM : MR G hp M sc ar sm) (k : Nat) (cs : Nat → Nat → Int32) (sk : Bool) (hau : MAu k cs sk sc ar) : Met l yX7_isOver [.code yX7_isOver cX7_isOver 1 (some .boolean)] { frames := 0, cells := 0, slots := 0, locals := 0 } (va_Pc [.ref (M 0)] (RP G hp)) (vp_Si (fun r => r = bI (ovB k cs sk))) 0 0 (fun _ => False) := by
  refine ro_ofW (by decide) (Nat.le_of_ble_eq_true rfl) ?_
  intro p e s m args below meth c ls X hr hlk hH hl
  have hS : va_S (fun _ => False) s.heap s.heap [] := va_S.rf
  have hl : lv_has ls 1 [(0, .ref (M 0))] := hl
  have hk := hau.2.1
  refine lv_aload_n X.1 X.2.1 dX7_isOver_0 rfl (lv_at hl 0 rfl) ?_
  refine r_get X hH hM.1 (v := .int (sc 2)) (C := RX7) (T := TX7) (N := 19) rfl tin_X7 11 (by decide) tw_854 (fun _ h => h) rfl dX7_isOver_1 ?_
  refine r_eqi (show ((sc 2) : Int32) = bI sk from hau.2.2.1) ?_
  refine lv_if_ne (tgt := 39) X.1 X.2.1 dX7_isOver_4 (by decide) (fun c_4 => ?_) (fun c_4 => ?_)
  · refine lv_iconst (v := 1) X.1 X.2.1 dX7_isOver_39 (by decide) ?_
    refine lv_goto (tgt := 44) X.1 X.2.1 dX7_isOver_40 (by decide) ?_
    exact ro_z X hr hlk rfl (by show (_ : Int32) = bI _; unfold ovB; rw [bI_1 c_4]; rfl) dX7_isOver_44
  · refine lv_aload_n X.1 X.2.1 dX7_isOver_7 rfl (lv_at hl 0 rfl) ?_
    refine r_get X hH hM.1 (v := .int (sc 1)) (C := RX7) (T := TX7) (N := 19) rfl tin_X7 10 (by decide) tw_853 (fun _ h => h) rfl dX7_isOver_8 ?_
    refine r_eqi (show ((sc 1) : Int32) = nI k from hau.1) ?_
    refine lv_bipush (v := 12) X.1 X.2.1 dX7_isOver_11 (by decide) ?_
    refine lv_icmp_eq (tgt := 39) X.1 X.2.1 dX7_isOver_13 (by decide) (fun c_13 => ?_) (fun c_13 => ?_)
    · have k_13 := k_eq (a := k) (b := 12) (by omega) (by omega) c_13
      refine lv_iconst (v := 1) X.1 X.2.1 dX7_isOver_39 (by decide) ?_
      refine lv_goto (tgt := 44) X.1 X.2.1 dX7_isOver_40 (by decide) ?_
      exact ro_z X hr hlk rfl (by show (_ : Int32) = bI _; unfold ovB; rw [bI_0 c_4]; rw [decide_eq_true k_13]; rfl) dX7_isOver_44
    · have k_13 := k_ne (a := k) (b := 12) (by omega) (by omega) c_13
      refine lv_aload_n X.1 X.2.1 dX7_isOver_16 rfl (lv_at hl 0 rfl) ?_
      refine r_get X hH hM.1 (v := .int (sc 1)) (C := RX7) (T := TX7) (N := 19) rfl tin_X7 10 (by decide) tw_853 (fun _ h => h) rfl dX7_isOver_17 ?_
      refine r_eqi (show ((sc 1) : Int32) = nI k from hau.1) ?_
      refine lv_if_le (tgt := 43) X.1 X.2.1 dX7_isOver_20 (by decide) (fun c_20 => ?_) (fun c_20 => ?_)
      · have k_20 := k_le (a := k) (b := 0) (by omega) (by omega) c_20
        refine lv_iconst (v := 0) X.1 X.2.1 dX7_isOver_43 (by decide) ?_
        exact ro_z X hr hlk rfl (by show (_ : Int32) = bI _; unfold ovB; rw [bI_0 c_4]; rw [decide_eq_false k_13]; rw [decide_eq_false (show ¬ 0 < k by omega)]; rfl) dX7_isOver_44
      · have k_20 := k_nle (a := k) (b := 0) (by omega) (by omega) c_20
        refine lv_aload_n X.1 X.2.1 dX7_isOver_23 rfl (lv_at hl 0 rfl) ?_
        refine r_get X hH hM.1 (v := .ref (M 5)) (C := RX7) (T := TX7) (N := 19) rfl tin_X7 5 (by decide) tw_848 (fun _ h => h) rfl dX7_isOver_24 ?_
        refine lv_aload_n X.1 X.2.1 dX7_isOver_27 rfl (lv_at hl 0 rfl) ?_
        refine r_get X hH hM.1 (v := .int (sc 1)) (C := RX7) (T := TX7) (N := 19) rfl tin_X7 10 (by decide) tw_853 (fun _ h => h) rfl dX7_isOver_28 ?_
        refine r_eqi (show ((sc 1) : Int32) = nI k from hau.1) ?_
        refine lv_iconst (v := 1) X.1 X.2.1 dX7_isOver_31 (by decide) ?_
        refine lv_isub X.1 X.2.1 dX7_isOver_32 ?_
        refine r_eqi (show (((nI k) - 1) : Int32) = nI (k - 1) from pk_sub (a := k) (b := 1) (by omega)) ?_
        refine r_iald X hH (hM.2.1 4 (by decide)) (show vp_in ((nI (k - 1))) 12 from vp_in_nI (n := (k - 1)) (by omega) (by decide)) dX7_isOver_33 ?_
        refine r_eqi (show (((ar 4) (nI (k - 1)).toNatClampNeg) : Int32) = cs (k - 1) 0 from by rw [nI_clamp (by omega)]; exact (hau.2.2.2.1 (k - 1) (by omega)).1) ?_
        refine lv_bipush (v := 25) X.1 X.2.1 dX7_isOver_34 (by decide) ?_
        refine lv_icmp_ne (tgt := 43) X.1 X.2.1 dX7_isOver_36 (by decide) (fun c_36 => ?_) (fun c_36 => ?_)
        · refine lv_iconst (v := 0) X.1 X.2.1 dX7_isOver_43 (by decide) ?_
          exact ro_z X hr hlk rfl (by show (_ : Int32) = bI _; unfold ovB; rw [bI_0 c_4]; rw [decide_eq_false k_13]; rw [decide_eq_true (show 0 < k by omega)]; rw [decide_eq_false c_36]; rfl) dX7_isOver_44
        · refine lv_iconst (v := 1) X.1 X.2.1 dX7_isOver_39 (by decide) ?_
          refine lv_goto (tgt := 44) X.1 X.2.1 dX7_isOver_40 (by decide) ?_
          exact ro_z X hr hlk rfl (by show (_ : Int32) = bI _; unfold ovB; rw [bI_0 c_4]; rw [decide_eq_false k_13]; rw [decide_eq_true (show 0 < k by omega)]; rw [decide_eq_true c_36]; rfl) dX7_isOver_44

set_option maxHeartbeats 4000000 in
set_option maxRecDepth 100000 in
theorem c_X7_fitsAuction (l : Launch) (G : HG) (hp : HP) (M : Nat → Nat) (sc : Nat → Int32) (ar : Nat → Nat → Int32) (sm : Nat → Int64) (hM : MR G hp M sc ar sm) (hT : MT ar) (n : Nat) (R : Nat → Nat → Nat) (hU : MU n R sc ar) (k : Nat) (cs : Nat → Nat → Int32) (sk : Bool) (hau : MAu k cs sk sc ar) (p9 h : Nat) (hp9 : p9 < 2) (hh : h < 2 ^ 31) : Met l yX7_fitsAuction [.code yX7_fitsAuction cX7_fitsAuction 5 (some .boolean)] { frames := 3, cells := 0, slots := 0, locals := 72 } (va_Pc [.ref (M 0), .int (nI p9), .int (nI h)] (RP G hp)) (vp_Si (fun r => r = bI (faB n R k cs sk p9 h))) 0 0 (fun _ => False) := by
  refine ro_ofW (by decide) (Nat.le_of_ble_eq_true rfl) ?_
  intro p e s m args below meth c ls X hr hlk hH hl
  have hS : va_S (fun _ => False) s.heap s.heap [] := va_S.rf
  have hl : lv_has ls 5 [(0, .ref (M 0)), (1, .int (nI p9)), (2, .int (nI h))] := hl
  have hk := hau.2.1
  have hn := hU.2.1
  refine lv_iconst (v := 1) X.1 X.2.1 dX7_fitsAuction_0 (by decide) ?_
  refine lv_istore_n (lv' := [(3, .int 1), (0, .ref (M 0)), (1, .int (nI p9)), (2, .int (nI h))]) X.1 X.2.1 dX7_fitsAuction_1 rfl hl (by decide) rfl (fun ls hl => ?_)
  refine lv_iload_n X.1 X.2.1 dX7_fitsAuction_2 rfl (lv_at hl 2 rfl) ?_
  refine lv_istore (lv' := [(4, .int (nI p9)), (3, .int 1), (0, .ref (M 0)), (1, .int (nI p9)), (2, .int (nI h))]) X.1 X.2.1 dX7_fitsAuction_3 hl (by decide) rfl (fun ls hl => ?_)
  have L5 : ∀ (f : Nat) (i : Nat) (b : Bool), (i + 2 * f = k ∨ i + 2 * f = k + 1) → alF (caB n R cs h) ((k + 1 - p9) / 2) p9 = (b && alF (caB n R cs h) f i) → ∀ ls, lv_has ls 5 [(0, .ref (M 0)), (1, .int (nI p9)), (2, .int (nI h)), (3, .int (bI b)), (4, .int (nI i))] → W p l e ({ frames := 3, cells := 0, slots := 0, locals := 72 } : Room) s m args below meth c s.heap [] 0 0 (MQ below (vp_Si (fun r => r = bI (faB n R k cs sk p9 h))) args s 0 0 (fun _ => False)) (F0 m 5 ls []) := by
    intro f
    induction f with
    | zero =>
      intro i b h0 h1 ls hl
      have ga : alF (caB n R cs h) ((k + 1 - p9) / 2) p9 = b := by rw [h1]; exact Bool.and_true b
      refine lv_iload X.1 X.2.1 dX7_fitsAuction_5 (lv_at hl 4 rfl) ?_
      refine lv_aload_n X.1 X.2.1 dX7_fitsAuction_7 rfl (lv_at hl 0 rfl) ?_
      refine r_get X hH hM.1 (v := .int (sc 1)) (C := RX7) (T := TX7) (N := 19) rfl tin_X7 10 (by decide) tw_853 (fun _ h => h) rfl dX7_fitsAuction_8 ?_
      refine r_eqi (show ((sc 1) : Int32) = nI k from hau.1) ?_
      refine lv_icmp_ge (tgt := 66) X.1 X.2.1 dX7_fitsAuction_11 (by decide) (fun c_11 => ?_) (fun c_11 => absurd (nI_le (by omega) (by omega)) c_11)
      refine lv_aload_n X.1 X.2.1 dX7_fitsAuction_66 rfl (lv_at hl 0 rfl) ?_
      refine r_get X hH hM.1 (v := .int (sc 2)) (C := RX7) (T := TX7) (N := 19) rfl tin_X7 11 (by decide) tw_854 (fun _ h => h) rfl dX7_fitsAuction_67 ?_
      refine r_eqi (show ((sc 2) : Int32) = bI sk from hau.2.2.1) ?_
      refine lv_if_eq (tgt := 87) X.1 X.2.1 dX7_fitsAuction_70 (by decide) (fun c_70 => ?_) (fun c_70 => ?_)
      · refine lv_iconst (v := 0) X.1 X.2.1 dX7_fitsAuction_87 (by decide) ?_
        refine lv_istore (lv' := [(4, .int 0), (0, .ref (M 0)), (1, .int (nI p9)), (2, .int (nI h)), (3, .int (bI b))]) X.1 X.2.1 dX7_fitsAuction_88 hl (by decide) rfl (fun ls hl => ?_)
        refine lv_iload_n X.1 X.2.1 dX7_fitsAuction_90 rfl (lv_at hl 4 rfl) ?_
        refine lv_if_eq (tgt := 138) X.1 X.2.1 dX7_fitsAuction_91 (by decide) (fun c_91 => ?_) (fun c_91 => ?_)
        · refine lv_iconst (v := 0) X.1 X.2.1 dX7_fitsAuction_138 (by decide) ?_
          exact ro_z X hr hlk rfl (by show (_ : Int32) = bI _; unfold faB; rw [ga]; rw [bI_0 c_91]; rfl) dX7_fitsAuction_139
        · refine lv_iload X.1 X.2.1 dX7_fitsAuction_94 (lv_at hl 0 rfl) ?_
          refine lv_if_eq (tgt := 134) X.1 X.2.1 dX7_fitsAuction_96 (by decide) (fun c_96 => ?_) (fun c_96 => absurd (by decide) c_96)
          refine lv_iconst (v := 1) X.1 X.2.1 dX7_fitsAuction_134 (by decide) ?_
          refine lv_goto (tgt := 139) X.1 X.2.1 dX7_fitsAuction_135 (by decide) ?_
          exact ro_z X hr hlk rfl (by show (_ : Int32) = bI _; unfold faB; rw [ga]; rw [bI_1 c_91]; rw [bI_0 c_70]; rfl) dX7_fitsAuction_139
      · refine lv_aload_n X.1 X.2.1 dX7_fitsAuction_73 rfl (lv_at hl 0 rfl) ?_
        refine r_get X hH hM.1 (v := .int (sc 1)) (C := RX7) (T := TX7) (N := 19) rfl tin_X7 10 (by decide) tw_853 (fun _ h => h) rfl dX7_fitsAuction_74 ?_
        refine r_eqi (show ((sc 1) : Int32) = nI k from hau.1) ?_
        refine lv_iconst (v := 2) X.1 X.2.1 dX7_fitsAuction_77 (by decide) ?_
        refine lv_irem X.1 X.2.1 dX7_fitsAuction_78 (by decide) ?_
        refine r_eqi (show (((nI k) - (nI k) / 2 * 2) : Int32) = nI (k % 2) from pk_rem (a := k) (d := 2) (by omega) (by omega) (by omega)) ?_
        refine lv_iload_n X.1 X.2.1 dX7_fitsAuction_79 rfl (lv_at hl 1 rfl) ?_
        refine lv_icmp_ne (tgt := 87) X.1 X.2.1 dX7_fitsAuction_80 (by decide) (fun c_80 => ?_) (fun c_80 => ?_)
        · have k_80 := k_ne (a := (k % 2)) (b := p9) (by omega) (by omega) c_80
          refine lv_iconst (v := 0) X.1 X.2.1 dX7_fitsAuction_87 (by decide) ?_
          refine lv_istore (lv' := [(4, .int 0), (0, .ref (M 0)), (1, .int (nI p9)), (2, .int (nI h)), (3, .int (bI b))]) X.1 X.2.1 dX7_fitsAuction_88 hl (by decide) rfl (fun ls hl => ?_)
          refine lv_iload_n X.1 X.2.1 dX7_fitsAuction_90 rfl (lv_at hl 4 rfl) ?_
          refine lv_if_eq (tgt := 138) X.1 X.2.1 dX7_fitsAuction_91 (by decide) (fun c_91 => ?_) (fun c_91 => ?_)
          · refine lv_iconst (v := 0) X.1 X.2.1 dX7_fitsAuction_138 (by decide) ?_
            exact ro_z X hr hlk rfl (by show (_ : Int32) = bI _; unfold faB; rw [ga]; rw [bI_0 c_91]; rfl) dX7_fitsAuction_139
          · refine lv_iload X.1 X.2.1 dX7_fitsAuction_94 (lv_at hl 0 rfl) ?_
            refine lv_if_eq (tgt := 134) X.1 X.2.1 dX7_fitsAuction_96 (by decide) (fun c_96 => ?_) (fun c_96 => absurd (by decide) c_96)
            refine lv_iconst (v := 1) X.1 X.2.1 dX7_fitsAuction_134 (by decide) ?_
            refine lv_goto (tgt := 139) X.1 X.2.1 dX7_fitsAuction_135 (by decide) ?_
            exact ro_z X hr hlk rfl (by show (_ : Int32) = bI _; unfold faB; rw [ga]; rw [bI_1 c_91]; rw [bI_1 c_70]; rw [decide_eq_false k_80]; rfl) dX7_fitsAuction_139
        · have k_80 := k_eq (a := (k % 2)) (b := p9) (by omega) (by omega) c_80
          refine lv_iconst (v := 1) X.1 X.2.1 dX7_fitsAuction_83 (by decide) ?_
          refine lv_goto (tgt := 88) X.1 X.2.1 dX7_fitsAuction_84 (by decide) ?_
          refine lv_istore (lv' := [(4, .int 1), (0, .ref (M 0)), (1, .int (nI p9)), (2, .int (nI h)), (3, .int (bI b))]) X.1 X.2.1 dX7_fitsAuction_88 hl (by decide) rfl (fun ls hl => ?_)
          refine lv_iload_n X.1 X.2.1 dX7_fitsAuction_90 rfl (lv_at hl 4 rfl) ?_
          refine lv_if_eq (tgt := 138) X.1 X.2.1 dX7_fitsAuction_91 (by decide) (fun c_91 => ?_) (fun c_91 => ?_)
          · refine lv_iconst (v := 0) X.1 X.2.1 dX7_fitsAuction_138 (by decide) ?_
            exact ro_z X hr hlk rfl (by show (_ : Int32) = bI _; unfold faB; rw [ga]; rw [bI_0 c_91]; rfl) dX7_fitsAuction_139
          · refine lv_iload X.1 X.2.1 dX7_fitsAuction_94 (lv_at hl 0 rfl) ?_
            refine lv_if_eq (tgt := 134) X.1 X.2.1 dX7_fitsAuction_96 (by decide) (fun c_96 => absurd c_96 (by decide)) (fun c_96 => ?_)
            refine lv_aload_n X.1 X.2.1 dX7_fitsAuction_99 rfl (lv_at hl 1 rfl) ?_
            refine lv_iload_n X.1 X.2.1 dX7_fitsAuction_100 rfl (lv_at hl 3 rfl) ?_
            refine lv_aload_n X.1 X.2.1 dX7_fitsAuction_101 rfl (lv_at hl 1 rfl) ?_
            refine r_get X hH hM.1 (v := .ref (M 7)) (C := RX7) (T := TX7) (N := 19) rfl tin_X7 7 (by decide) tw_850 (fun _ h => h) rfl dX7_fitsAuction_102 ?_
            refine lv_aload_n X.1 X.2.1 dX7_fitsAuction_105 rfl (lv_at hl 1 rfl) ?_
            refine r_get X hH hM.1 (v := .int (sc 1)) (C := RX7) (T := TX7) (N := 19) rfl tin_X7 10 (by decide) tw_853 (fun _ h => h) rfl dX7_fitsAuction_106 ?_
            refine r_eqi (show ((sc 1) : Int32) = nI k from hau.1) ?_
            refine r_iald X hH (hM.2.1 6 (by decide)) (show vp_in ((nI k)) 13 from vp_in_nI (n := k) (by omega) (by decide)) dX7_fitsAuction_109 ?_
            refine r_eqi (show (((ar 6) (nI k).toNatClampNeg) : Int32) = cs k 2 from by rw [nI_clamp (by omega)]; exact (hau.2.2.2.2 k (by omega)).1) ?_
            refine lv_aload_n X.1 X.2.1 dX7_fitsAuction_110 rfl (lv_at hl 1 rfl) ?_
            refine r_get X hH hM.1 (v := .ref (M 9)) (C := RX7) (T := TX7) (N := 19) rfl tin_X7 9 (by decide) tw_852 (fun _ h => h) rfl dX7_fitsAuction_111 ?_
            refine lv_aload_n X.1 X.2.1 dX7_fitsAuction_114 rfl (lv_at hl 1 rfl) ?_
            refine r_get X hH hM.1 (v := .int (sc 1)) (C := RX7) (T := TX7) (N := 19) rfl tin_X7 10 (by decide) tw_853 (fun _ h => h) rfl dX7_fitsAuction_115 ?_
            refine r_eqi (show ((sc 1) : Int32) = nI k from hau.1) ?_
            refine r_iald X hH (hM.2.1 8 (by decide)) (show vp_in ((nI k)) 13 from vp_in_nI (n := k) (by omega) (by decide)) dX7_fitsAuction_118 ?_
            refine r_eqi (show (((ar 8) (nI k).toNatClampNeg) : Int32) = cs k 4 from by rw [nI_clamp (by omega)]; exact (hau.2.2.2.2 k (by omega)).2.2) ?_
            refine lv_aload_n X.1 X.2.1 dX7_fitsAuction_119 rfl (lv_at hl 1 rfl) ?_
            refine r_get X hH hM.1 (v := .ref (M 8)) (C := RX7) (T := TX7) (N := 19) rfl tin_X7 8 (by decide) tw_851 (fun _ h => h) rfl dX7_fitsAuction_120 ?_
            refine lv_aload_n X.1 X.2.1 dX7_fitsAuction_123 rfl (lv_at hl 1 rfl) ?_
            refine r_get X hH hM.1 (v := .int (sc 1)) (C := RX7) (T := TX7) (N := 19) rfl tin_X7 10 (by decide) tw_853 (fun _ h => h) rfl dX7_fitsAuction_124 ?_
            refine r_eqi (show ((sc 1) : Int32) = nI k from hau.1) ?_
            refine r_iald X hH (hM.2.1 7 (by decide)) (show vp_in ((nI k)) 13 from vp_in_nI (n := k) (by omega) (by decide)) dX7_fitsAuction_127 ?_
            refine r_eqi (show (((ar 7) (nI k).toNatClampNeg) : Int32) = cs k 3 from by rw [nI_clamp (by omega)]; exact (hau.2.2.2.2 k (by omega)).2.1) ?_
            refine on_Si (run_V (C := RX7) (As := [.int (nI h), .int (cs k 2), .int (cs k 4), .int (cs k 3)]) (rest := []) X (c_X7_ruleFor l G hp M sc ar sm hM hT n R hU h hh (cs k 2) (cs k 4) (cs k 3)) (rp_blind _) (rp_at X hH hS) (recv X hH hM.1 (C := RX7) (T := TX7) (N := 19) rfl) mf_X7_ruleFor tw_1006 tw_1008 tw_39 ⟨rfl, rfl, Nat.le_of_ble_eq_true rfl, Nat.le_of_ble_eq_true rfl⟩ hl.1 rfl rfl (Nat.le_of_ble_eq_true rfl) ⟨Nat.le_of_ble_eq_true rfl, Nat.le_of_ble_eq_true rfl⟩ dX7_fitsAuction_128) (fun r_128 q_128 => ?_)
            obtain rfl : r_128 = (rlF n R h (cs k 2) (cs k 4) (cs k 3)) := q_128
            refine lv_if_ge (tgt := 138) X.1 X.2.1 dX7_fitsAuction_131 (by decide) (fun c_131 => ?_) (fun c_131 => ?_)
            · refine lv_iconst (v := 0) X.1 X.2.1 dX7_fitsAuction_138 (by decide) ?_
              exact ro_z X hr hlk rfl (by show (_ : Int32) = bI _; unfold faB; rw [ga]; rw [bI_1 c_91]; rw [bI_1 c_70]; rw [decide_eq_true k_80]; rw [decide_eq_false (rlF_pos c_131)]; rfl) dX7_fitsAuction_139
            · refine lv_iconst (v := 1) X.1 X.2.1 dX7_fitsAuction_134 (by decide) ?_
              refine lv_goto (tgt := 139) X.1 X.2.1 dX7_fitsAuction_135 (by decide) ?_
              exact ro_z X hr hlk rfl (by show (_ : Int32) = bI _; unfold faB; rw [ga]; rw [bI_1 c_91]; rw [bI_1 c_70]; rw [decide_eq_true k_80]; rw [decide_eq_true (rlF_neg hU.2.1 c_131)]; rfl) dX7_fitsAuction_139
    | succ f ih =>
      intro i b h0 h1 ls hl
      refine lv_iload X.1 X.2.1 dX7_fitsAuction_5 (lv_at hl 4 rfl) ?_
      refine lv_aload_n X.1 X.2.1 dX7_fitsAuction_7 rfl (lv_at hl 0 rfl) ?_
      refine r_get X hH hM.1 (v := .int (sc 1)) (C := RX7) (T := TX7) (N := 19) rfl tin_X7 10 (by decide) tw_853 (fun _ h => h) rfl dX7_fitsAuction_8 ?_
      refine r_eqi (show ((sc 1) : Int32) = nI k from hau.1) ?_
      refine lv_icmp_ge (tgt := 66) X.1 X.2.1 dX7_fitsAuction_11 (by decide) (fun c_11 => absurd c_11 (nI_ge (by omega) (by omega))) (fun c_11 => ?_)
      refine lv_iload_n X.1 X.2.1 dX7_fitsAuction_14 rfl (lv_at hl 3 rfl) ?_
      refine lv_if_eq (tgt := 66) X.1 X.2.1 dX7_fitsAuction_15 (by decide) (fun c_15 => ?_) (fun c_15 => ?_)
      · have ga : alF (caB n R cs h) ((k + 1 - p9) / 2) p9 = b := by rw [h1, bI_0 c_15]; rfl
        refine lv_aload_n X.1 X.2.1 dX7_fitsAuction_66 rfl (lv_at hl 0 rfl) ?_
        refine r_get X hH hM.1 (v := .int (sc 2)) (C := RX7) (T := TX7) (N := 19) rfl tin_X7 11 (by decide) tw_854 (fun _ h => h) rfl dX7_fitsAuction_67 ?_
        refine r_eqi (show ((sc 2) : Int32) = bI sk from hau.2.2.1) ?_
        refine lv_if_eq (tgt := 87) X.1 X.2.1 dX7_fitsAuction_70 (by decide) (fun c_70 => ?_) (fun c_70 => ?_)
        · refine lv_iconst (v := 0) X.1 X.2.1 dX7_fitsAuction_87 (by decide) ?_
          refine lv_istore (lv' := [(4, .int 0), (0, .ref (M 0)), (1, .int (nI p9)), (2, .int (nI h)), (3, .int (bI b))]) X.1 X.2.1 dX7_fitsAuction_88 hl (by decide) rfl (fun ls hl => ?_)
          refine lv_iload_n X.1 X.2.1 dX7_fitsAuction_90 rfl (lv_at hl 4 rfl) ?_
          refine lv_if_eq (tgt := 138) X.1 X.2.1 dX7_fitsAuction_91 (by decide) (fun c_91 => ?_) (fun c_91 => ?_)
          · refine lv_iconst (v := 0) X.1 X.2.1 dX7_fitsAuction_138 (by decide) ?_
            exact ro_z X hr hlk rfl (by show (_ : Int32) = bI _; unfold faB; rw [ga]; rw [bI_0 c_91]; rfl) dX7_fitsAuction_139
          · refine lv_iload X.1 X.2.1 dX7_fitsAuction_94 (lv_at hl 0 rfl) ?_
            refine lv_if_eq (tgt := 134) X.1 X.2.1 dX7_fitsAuction_96 (by decide) (fun c_96 => ?_) (fun c_96 => absurd (by decide) c_96)
            refine lv_iconst (v := 1) X.1 X.2.1 dX7_fitsAuction_134 (by decide) ?_
            refine lv_goto (tgt := 139) X.1 X.2.1 dX7_fitsAuction_135 (by decide) ?_
            exact ro_z X hr hlk rfl (by show (_ : Int32) = bI _; unfold faB; rw [ga]; rw [bI_1 c_91]; rw [bI_0 c_70]; rfl) dX7_fitsAuction_139
        · refine lv_aload_n X.1 X.2.1 dX7_fitsAuction_73 rfl (lv_at hl 0 rfl) ?_
          refine r_get X hH hM.1 (v := .int (sc 1)) (C := RX7) (T := TX7) (N := 19) rfl tin_X7 10 (by decide) tw_853 (fun _ h => h) rfl dX7_fitsAuction_74 ?_
          refine r_eqi (show ((sc 1) : Int32) = nI k from hau.1) ?_
          refine lv_iconst (v := 2) X.1 X.2.1 dX7_fitsAuction_77 (by decide) ?_
          refine lv_irem X.1 X.2.1 dX7_fitsAuction_78 (by decide) ?_
          refine r_eqi (show (((nI k) - (nI k) / 2 * 2) : Int32) = nI (k % 2) from pk_rem (a := k) (d := 2) (by omega) (by omega) (by omega)) ?_
          refine lv_iload_n X.1 X.2.1 dX7_fitsAuction_79 rfl (lv_at hl 1 rfl) ?_
          refine lv_icmp_ne (tgt := 87) X.1 X.2.1 dX7_fitsAuction_80 (by decide) (fun c_80 => ?_) (fun c_80 => ?_)
          · have k_80 := k_ne (a := (k % 2)) (b := p9) (by omega) (by omega) c_80
            refine lv_iconst (v := 0) X.1 X.2.1 dX7_fitsAuction_87 (by decide) ?_
            refine lv_istore (lv' := [(4, .int 0), (0, .ref (M 0)), (1, .int (nI p9)), (2, .int (nI h)), (3, .int (bI b))]) X.1 X.2.1 dX7_fitsAuction_88 hl (by decide) rfl (fun ls hl => ?_)
            refine lv_iload_n X.1 X.2.1 dX7_fitsAuction_90 rfl (lv_at hl 4 rfl) ?_
            refine lv_if_eq (tgt := 138) X.1 X.2.1 dX7_fitsAuction_91 (by decide) (fun c_91 => ?_) (fun c_91 => ?_)
            · refine lv_iconst (v := 0) X.1 X.2.1 dX7_fitsAuction_138 (by decide) ?_
              exact ro_z X hr hlk rfl (by show (_ : Int32) = bI _; unfold faB; rw [ga]; rw [bI_0 c_91]; rfl) dX7_fitsAuction_139
            · refine lv_iload X.1 X.2.1 dX7_fitsAuction_94 (lv_at hl 0 rfl) ?_
              refine lv_if_eq (tgt := 134) X.1 X.2.1 dX7_fitsAuction_96 (by decide) (fun c_96 => ?_) (fun c_96 => absurd (by decide) c_96)
              refine lv_iconst (v := 1) X.1 X.2.1 dX7_fitsAuction_134 (by decide) ?_
              refine lv_goto (tgt := 139) X.1 X.2.1 dX7_fitsAuction_135 (by decide) ?_
              exact ro_z X hr hlk rfl (by show (_ : Int32) = bI _; unfold faB; rw [ga]; rw [bI_1 c_91]; rw [bI_1 c_70]; rw [decide_eq_false k_80]; rfl) dX7_fitsAuction_139
          · have k_80 := k_eq (a := (k % 2)) (b := p9) (by omega) (by omega) c_80
            refine lv_iconst (v := 1) X.1 X.2.1 dX7_fitsAuction_83 (by decide) ?_
            refine lv_goto (tgt := 88) X.1 X.2.1 dX7_fitsAuction_84 (by decide) ?_
            refine lv_istore (lv' := [(4, .int 1), (0, .ref (M 0)), (1, .int (nI p9)), (2, .int (nI h)), (3, .int (bI b))]) X.1 X.2.1 dX7_fitsAuction_88 hl (by decide) rfl (fun ls hl => ?_)
            refine lv_iload_n X.1 X.2.1 dX7_fitsAuction_90 rfl (lv_at hl 4 rfl) ?_
            refine lv_if_eq (tgt := 138) X.1 X.2.1 dX7_fitsAuction_91 (by decide) (fun c_91 => ?_) (fun c_91 => ?_)
            · refine lv_iconst (v := 0) X.1 X.2.1 dX7_fitsAuction_138 (by decide) ?_
              exact ro_z X hr hlk rfl (by show (_ : Int32) = bI _; unfold faB; rw [ga]; rw [bI_0 c_91]; rfl) dX7_fitsAuction_139
            · refine lv_iload X.1 X.2.1 dX7_fitsAuction_94 (lv_at hl 0 rfl) ?_
              refine lv_if_eq (tgt := 134) X.1 X.2.1 dX7_fitsAuction_96 (by decide) (fun c_96 => absurd c_96 (by decide)) (fun c_96 => ?_)
              refine lv_aload_n X.1 X.2.1 dX7_fitsAuction_99 rfl (lv_at hl 1 rfl) ?_
              refine lv_iload_n X.1 X.2.1 dX7_fitsAuction_100 rfl (lv_at hl 3 rfl) ?_
              refine lv_aload_n X.1 X.2.1 dX7_fitsAuction_101 rfl (lv_at hl 1 rfl) ?_
              refine r_get X hH hM.1 (v := .ref (M 7)) (C := RX7) (T := TX7) (N := 19) rfl tin_X7 7 (by decide) tw_850 (fun _ h => h) rfl dX7_fitsAuction_102 ?_
              refine lv_aload_n X.1 X.2.1 dX7_fitsAuction_105 rfl (lv_at hl 1 rfl) ?_
              refine r_get X hH hM.1 (v := .int (sc 1)) (C := RX7) (T := TX7) (N := 19) rfl tin_X7 10 (by decide) tw_853 (fun _ h => h) rfl dX7_fitsAuction_106 ?_
              refine r_eqi (show ((sc 1) : Int32) = nI k from hau.1) ?_
              refine r_iald X hH (hM.2.1 6 (by decide)) (show vp_in ((nI k)) 13 from vp_in_nI (n := k) (by omega) (by decide)) dX7_fitsAuction_109 ?_
              refine r_eqi (show (((ar 6) (nI k).toNatClampNeg) : Int32) = cs k 2 from by rw [nI_clamp (by omega)]; exact (hau.2.2.2.2 k (by omega)).1) ?_
              refine lv_aload_n X.1 X.2.1 dX7_fitsAuction_110 rfl (lv_at hl 1 rfl) ?_
              refine r_get X hH hM.1 (v := .ref (M 9)) (C := RX7) (T := TX7) (N := 19) rfl tin_X7 9 (by decide) tw_852 (fun _ h => h) rfl dX7_fitsAuction_111 ?_
              refine lv_aload_n X.1 X.2.1 dX7_fitsAuction_114 rfl (lv_at hl 1 rfl) ?_
              refine r_get X hH hM.1 (v := .int (sc 1)) (C := RX7) (T := TX7) (N := 19) rfl tin_X7 10 (by decide) tw_853 (fun _ h => h) rfl dX7_fitsAuction_115 ?_
              refine r_eqi (show ((sc 1) : Int32) = nI k from hau.1) ?_
              refine r_iald X hH (hM.2.1 8 (by decide)) (show vp_in ((nI k)) 13 from vp_in_nI (n := k) (by omega) (by decide)) dX7_fitsAuction_118 ?_
              refine r_eqi (show (((ar 8) (nI k).toNatClampNeg) : Int32) = cs k 4 from by rw [nI_clamp (by omega)]; exact (hau.2.2.2.2 k (by omega)).2.2) ?_
              refine lv_aload_n X.1 X.2.1 dX7_fitsAuction_119 rfl (lv_at hl 1 rfl) ?_
              refine r_get X hH hM.1 (v := .ref (M 8)) (C := RX7) (T := TX7) (N := 19) rfl tin_X7 8 (by decide) tw_851 (fun _ h => h) rfl dX7_fitsAuction_120 ?_
              refine lv_aload_n X.1 X.2.1 dX7_fitsAuction_123 rfl (lv_at hl 1 rfl) ?_
              refine r_get X hH hM.1 (v := .int (sc 1)) (C := RX7) (T := TX7) (N := 19) rfl tin_X7 10 (by decide) tw_853 (fun _ h => h) rfl dX7_fitsAuction_124 ?_
              refine r_eqi (show ((sc 1) : Int32) = nI k from hau.1) ?_
              refine r_iald X hH (hM.2.1 7 (by decide)) (show vp_in ((nI k)) 13 from vp_in_nI (n := k) (by omega) (by decide)) dX7_fitsAuction_127 ?_
              refine r_eqi (show (((ar 7) (nI k).toNatClampNeg) : Int32) = cs k 3 from by rw [nI_clamp (by omega)]; exact (hau.2.2.2.2 k (by omega)).2.1) ?_
              refine on_Si (run_V (C := RX7) (As := [.int (nI h), .int (cs k 2), .int (cs k 4), .int (cs k 3)]) (rest := []) X (c_X7_ruleFor l G hp M sc ar sm hM hT n R hU h hh (cs k 2) (cs k 4) (cs k 3)) (rp_blind _) (rp_at X hH hS) (recv X hH hM.1 (C := RX7) (T := TX7) (N := 19) rfl) mf_X7_ruleFor tw_1006 tw_1008 tw_39 ⟨rfl, rfl, Nat.le_of_ble_eq_true rfl, Nat.le_of_ble_eq_true rfl⟩ hl.1 rfl rfl (Nat.le_of_ble_eq_true rfl) ⟨Nat.le_of_ble_eq_true rfl, Nat.le_of_ble_eq_true rfl⟩ dX7_fitsAuction_128) (fun r_128 q_128 => ?_)
              obtain rfl : r_128 = (rlF n R h (cs k 2) (cs k 4) (cs k 3)) := q_128
              refine lv_if_ge (tgt := 138) X.1 X.2.1 dX7_fitsAuction_131 (by decide) (fun c_131 => ?_) (fun c_131 => ?_)
              · refine lv_iconst (v := 0) X.1 X.2.1 dX7_fitsAuction_138 (by decide) ?_
                exact ro_z X hr hlk rfl (by show (_ : Int32) = bI _; unfold faB; rw [ga]; rw [bI_1 c_91]; rw [bI_1 c_70]; rw [decide_eq_true k_80]; rw [decide_eq_false (rlF_pos c_131)]; rfl) dX7_fitsAuction_139
              · refine lv_iconst (v := 1) X.1 X.2.1 dX7_fitsAuction_134 (by decide) ?_
                refine lv_goto (tgt := 139) X.1 X.2.1 dX7_fitsAuction_135 (by decide) ?_
                exact ro_z X hr hlk rfl (by show (_ : Int32) = bI _; unfold faB; rw [ga]; rw [bI_1 c_91]; rw [bI_1 c_70]; rw [decide_eq_true k_80]; rw [decide_eq_true (rlF_neg hU.2.1 c_131)]; rfl) dX7_fitsAuction_139
      · have g15 := bI_1 c_15
        refine lv_aload_n X.1 X.2.1 dX7_fitsAuction_18 rfl (lv_at hl 0 rfl) ?_
        refine lv_iload_n X.1 X.2.1 dX7_fitsAuction_19 rfl (lv_at hl 2 rfl) ?_
        refine lv_aload_n X.1 X.2.1 dX7_fitsAuction_20 rfl (lv_at hl 0 rfl) ?_
        refine r_get X hH hM.1 (v := .ref (M 7)) (C := RX7) (T := TX7) (N := 19) rfl tin_X7 7 (by decide) tw_850 (fun _ h => h) rfl dX7_fitsAuction_21 ?_
        refine lv_iload X.1 X.2.1 dX7_fitsAuction_24 (lv_at hl 4 rfl) ?_
        refine r_iald X hH (hM.2.1 6 (by decide)) (show vp_in ((nI i)) 13 from vp_in_nI (n := i) (by omega) (by decide)) dX7_fitsAuction_26 ?_
        refine r_eqi (show (((ar 6) (nI i).toNatClampNeg) : Int32) = cs i 2 from by rw [nI_clamp (by omega)]; exact (hau.2.2.2.2 i (by omega)).1) ?_
        refine lv_aload_n X.1 X.2.1 dX7_fitsAuction_27 rfl (lv_at hl 0 rfl) ?_
        refine r_get X hH hM.1 (v := .ref (M 9)) (C := RX7) (T := TX7) (N := 19) rfl tin_X7 9 (by decide) tw_852 (fun _ h => h) rfl dX7_fitsAuction_28 ?_
        refine lv_iload X.1 X.2.1 dX7_fitsAuction_31 (lv_at hl 4 rfl) ?_
        refine r_iald X hH (hM.2.1 8 (by decide)) (show vp_in ((nI i)) 13 from vp_in_nI (n := i) (by omega) (by decide)) dX7_fitsAuction_33 ?_
        refine r_eqi (show (((ar 8) (nI i).toNatClampNeg) : Int32) = cs i 4 from by rw [nI_clamp (by omega)]; exact (hau.2.2.2.2 i (by omega)).2.2) ?_
        refine lv_aload_n X.1 X.2.1 dX7_fitsAuction_34 rfl (lv_at hl 0 rfl) ?_
        refine r_get X hH hM.1 (v := .ref (M 8)) (C := RX7) (T := TX7) (N := 19) rfl tin_X7 8 (by decide) tw_851 (fun _ h => h) rfl dX7_fitsAuction_35 ?_
        refine lv_iload X.1 X.2.1 dX7_fitsAuction_38 (lv_at hl 4 rfl) ?_
        refine r_iald X hH (hM.2.1 7 (by decide)) (show vp_in ((nI i)) 13 from vp_in_nI (n := i) (by omega) (by decide)) dX7_fitsAuction_40 ?_
        refine r_eqi (show (((ar 7) (nI i).toNatClampNeg) : Int32) = cs i 3 from by rw [nI_clamp (by omega)]; exact (hau.2.2.2.2 i (by omega)).2.1) ?_
        refine on_Si (run_V (C := RX7) (As := [.int (nI h), .int (cs i 2), .int (cs i 4), .int (cs i 3)]) (rest := []) X (c_X7_ruleFor l G hp M sc ar sm hM hT n R hU h hh (cs i 2) (cs i 4) (cs i 3)) (rp_blind _) (rp_at X hH hS) (recv X hH hM.1 (C := RX7) (T := TX7) (N := 19) rfl) mf_X7_ruleFor tw_1006 tw_1008 tw_39 ⟨rfl, rfl, Nat.le_of_ble_eq_true rfl, Nat.le_of_ble_eq_true rfl⟩ hl.1 rfl rfl (Nat.le_of_ble_eq_true rfl) ⟨Nat.le_of_ble_eq_true rfl, Nat.le_of_ble_eq_true rfl⟩ dX7_fitsAuction_41) (fun r_41 q_41 => ?_)
        obtain rfl : r_41 = (rlF n R h (cs i 2) (cs i 4) (cs i 3)) := q_41
        refine lv_aload_n X.1 X.2.1 dX7_fitsAuction_44 rfl (lv_at hl 0 rfl) ?_
        refine r_get X hH hM.1 (v := .ref (M 6)) (C := RX7) (T := TX7) (N := 19) rfl tin_X7 6 (by decide) tw_849 (fun _ h => h) rfl dX7_fitsAuction_45 ?_
        refine lv_iload X.1 X.2.1 dX7_fitsAuction_48 (lv_at hl 4 rfl) ?_
        refine r_iald X hH (hM.2.1 5 (by decide)) (show vp_in ((nI i)) 12 from vp_in_nI (n := i) (by omega) (by decide)) dX7_fitsAuction_50 ?_
        refine r_eqi (show (((ar 5) (nI i).toNatClampNeg) : Int32) = cs i 1 from by rw [nI_clamp (by omega)]; exact (hau.2.2.2.1 i (by omega)).2) ?_
        refine lv_icmp_ne (tgt := 58) X.1 X.2.1 dX7_fitsAuction_51 (by decide) (fun c_51 => ?_) (fun c_51 => ?_)
        · refine lv_iconst (v := 0) X.1 X.2.1 dX7_fitsAuction_58 (by decide) ?_
          refine lv_istore_n (lv' := [(3, .int 0), (0, .ref (M 0)), (1, .int (nI p9)), (2, .int (nI h)), (4, .int (nI i))]) X.1 X.2.1 dX7_fitsAuction_59 rfl hl (by decide) rfl (fun ls hl => ?_)
          refine lv_iinc (v := (nI (i + 2))) (lv' := [(4, .int (nI (i + 2))), (3, .int 0), (0, .ref (M 0)), (1, .int (nI p9)), (2, .int (nI h))]) X.1 X.2.1 dX7_fitsAuction_60 hl (k := 4) rfl (nI_add i 2) (by decide) rfl (fun ls hl => ?_)
          refine lv_goto (tgt := 5) X.1 X.2.1 dX7_fitsAuction_63 (by decide) ?_
          exact ih (i + 2) false (by omega) (by rw [h1, g15]; show (true && (decide _ && _)) = _; rw [decide_eq_false c_51]; rfl) ls (lv_sub hl [2, 3, 4, 1, 0] rfl)
        · refine lv_iconst (v := 1) X.1 X.2.1 dX7_fitsAuction_54 (by decide) ?_
          refine lv_goto (tgt := 59) X.1 X.2.1 dX7_fitsAuction_55 (by decide) ?_
          refine lv_istore_n (lv' := [(3, .int 1), (0, .ref (M 0)), (1, .int (nI p9)), (2, .int (nI h)), (4, .int (nI i))]) X.1 X.2.1 dX7_fitsAuction_59 rfl hl (by decide) rfl (fun ls hl => ?_)
          refine lv_iinc (v := (nI (i + 2))) (lv' := [(4, .int (nI (i + 2))), (3, .int 1), (0, .ref (M 0)), (1, .int (nI p9)), (2, .int (nI h))]) X.1 X.2.1 dX7_fitsAuction_60 hl (k := 4) rfl (nI_add i 2) (by decide) rfl (fun ls hl => ?_)
          refine lv_goto (tgt := 5) X.1 X.2.1 dX7_fitsAuction_63 (by decide) ?_
          exact ih (i + 2) true (by omega) (by rw [h1, g15]; show (true && (decide _ && _)) = _; rw [decide_eq_true c_51]; rfl) ls (lv_sub hl [2, 3, 4, 1, 0] rfl)
  exact L5 ((k + 1 - p9) / 2) p9 true (by omega) (by rw [Bool.true_and]) ls (lv_sub hl [2, 3, 4, 1, 0] rfl)

set_option maxHeartbeats 4000000 in
set_option maxRecDepth 100000 in
theorem c_X7_manyWith (l : Launch) (G : HG) (hp : HP) (M : Nat → Nat) (sc : Nat → Int32) (ar : Nat → Nat → Int32) (sm : Nat → Int64) (hM : MR G hp M sc ar sm) (hT : MT ar) (n : Nat) (R : Nat → Nat → Nat) (hU : MU n R sc ar) (ru st la fo : Int32) : Met l yX7_manyWith [.code yX7_manyWith cX7_manyWith 7 (some .int)] { frames := 3, cells := 0, slots := 0, locals := 72 } (va_Pc [.ref (M 0), .int ru, .int st, .int la, .int fo] (RP G hp)) (vp_Si (fun r => r = nI (cntF (fun h => decide (rlF n R h st la fo = ru)) 15504))) 0 0 (fun _ => False) := by
  refine ro_ofW (by decide) (Nat.le_of_ble_eq_true rfl) ?_
  intro p e s m args below meth c ls X hr hlk hH hl
  have hS : va_S (fun _ => False) s.heap s.heap [] := va_S.rf
  have hl : lv_has ls 7 [(0, .ref (M 0)), (1, .int ru), (2, .int st), (3, .int la), (4, .int fo)] := hl
  have hn := hU.2.1
  refine lv_iconst (v := 0) X.1 X.2.1 dX7_manyWith_0 (by decide) ?_
  refine lv_istore (lv' := [(5, .int 0), (0, .ref (M 0)), (1, .int ru), (2, .int st), (3, .int la), (4, .int fo)]) X.1 X.2.1 dX7_manyWith_1 hl (by decide) rfl (fun ls hl => ?_)
  refine lv_bipush (v := 31) X.1 X.2.1 dX7_manyWith_3 (by decide) ?_
  refine lv_istore (lv' := [(6, .int 31), (5, .int 0), (0, .ref (M 0)), (1, .int ru), (2, .int st), (3, .int la), (4, .int fo)]) X.1 X.2.1 dX7_manyWith_5 hl (by decide) rfl (fun ls hl => ?_)
  have L7 : ∀ (f : Nat) (i : Nat), i + f = 15504 → ∀ ls, lv_has ls 7 [(0, .ref (M 0)), (1, .int ru), (2, .int st), (3, .int la), (4, .int fo), (5, .int (nI (cntF (fun h => decide (rlF n R h st la fo = ru)) i))), (6, .int (nI (HL i)))] → W p l e ({ frames := 3, cells := 0, slots := 0, locals := 72 } : Room) s m args below meth c s.heap [] 0 0 (MQ below (vp_Si (fun r => r = nI (cntF (fun h => decide (rlF n R h st la fo = ru)) 15504))) args s 0 0 (fun _ => False)) (F0 m 7 ls []) := by
    intro f
    induction f with
    | zero =>
      intro i h0 ls hl
      refine lv_iload X.1 X.2.1 dX7_manyWith_7 (lv_at hl 6 rfl) ?_
      refine r_const X tw_934 dX7_manyWith_9 ?_
      refine lv_icmp_gt (tgt := 48) X.1 X.2.1 dX7_manyWith_11 (by decide) (fun c_11 => ?_) (fun c_11 => absurd (hl_out (i := i) (by omega)) c_11)
      refine lv_iload X.1 X.2.1 dX7_manyWith_48 (lv_at hl 5 rfl) ?_
      exact ro_i X hr hlk (by show nI _ = nI _; rw [show i = 15504 by omega]) dX7_manyWith_50
    | succ f ih =>
      intro i h0 ls hl
      have hlt : i < 15504 := by omega
      obtain ⟨hk1, hk2, hk3, hk4, hk5, hk6, hk7⟩ := HL_ok hlt
      have hcl := cntF_le (fun h => decide (rlF n R h st la fo = ru)) i
      refine lv_iload X.1 X.2.1 dX7_manyWith_7 (lv_at hl 6 rfl) ?_
      refine r_const X tw_934 dX7_manyWith_9 ?_
      refine lv_icmp_gt (tgt := 48) X.1 X.2.1 dX7_manyWith_11 (by decide) (fun c_11 => absurd c_11 (hl_inn (i := i) (by omega))) (fun c_11 => ?_)
      refine lv_iload X.1 X.2.1 dX7_manyWith_14 (lv_at hl 5 rfl) ?_
      refine lv_aload_n X.1 X.2.1 dX7_manyWith_16 rfl (lv_at hl 0 rfl) ?_
      refine lv_iload X.1 X.2.1 dX7_manyWith_17 (lv_at hl 6 rfl) ?_
      refine lv_iload_n X.1 X.2.1 dX7_manyWith_19 rfl (lv_at hl 2 rfl) ?_
      refine lv_iload_n X.1 X.2.1 dX7_manyWith_20 rfl (lv_at hl 3 rfl) ?_
      refine lv_iload X.1 X.2.1 dX7_manyWith_21 (lv_at hl 4 rfl) ?_
      refine on_Si (run_V (C := RX7) (As := [.int (nI (HL i)), .int st, .int la, .int fo]) (rest := [.int (nI (cntF (fun h => decide (rlF n R h st la fo = ru)) i))]) X (c_X7_ruleFor l G hp M sc ar sm hM hT n R hU (HL i) (by omega) st la fo) (rp_blind _) (rp_at X hH hS) (recv X hH hM.1 (C := RX7) (T := TX7) (N := 19) rfl) mf_X7_ruleFor tw_1006 tw_1008 tw_39 ⟨rfl, rfl, Nat.le_of_ble_eq_true rfl, Nat.le_of_ble_eq_true rfl⟩ hl.1 rfl rfl (Nat.le_of_ble_eq_true rfl) ⟨Nat.le_of_ble_eq_true rfl, Nat.le_of_ble_eq_true rfl⟩ dX7_manyWith_23) (fun r_23 q_23 => ?_)
      obtain rfl : r_23 = (rlF n R (HL i) st la fo) := q_23
      refine lv_iload_n X.1 X.2.1 dX7_manyWith_26 rfl (lv_at hl 1 rfl) ?_
      refine lv_icmp_ne (tgt := 34) X.1 X.2.1 dX7_manyWith_27 (by decide) (fun c_27 => ?_) (fun c_27 => ?_)
      · have hy : ¬ decide (rlF n R (HL i) st la fo = ru) = true := fun q => c_27 (of_decide_eq_true q)
        refine lv_iconst (v := 0) X.1 X.2.1 dX7_manyWith_34 (by decide) ?_
        refine lv_iadd X.1 X.2.1 dX7_manyWith_35 ?_
        refine r_eqi (show (((nI (cntF (fun h => decide (rlF n R h st la fo = ru)) i)) + 0) : Int32) = nI (cntF (fun h => decide (rlF n R h st la fo = ru)) i) from nI_add (cntF (fun h => decide (rlF n R h st la fo = ru)) i) 0) ?_
        refine r_eqi (show ((nI (cntF (fun h => decide (rlF n R h st la fo = ru)) i)) : Int32) = nI (cntF (fun h => decide (rlF n R h st la fo = ru)) (i + 1)) from by skip; show _ = nI (cntF (fun h => decide (rlF n R h st la fo = ru)) i + (if (fun h => decide (rlF n R h st la fo = ru)) (HL i) = true then 1 else 0)); rw [if_neg hy]; rfl) ?_
        refine lv_istore (lv' := [(5, .int (nI (cntF (fun h => decide (rlF n R h st la fo = ru)) (i + 1)))), (0, .ref (M 0)), (1, .int ru), (2, .int st), (3, .int la), (4, .int fo), (6, .int (nI (HL i)))]) X.1 X.2.1 dX7_manyWith_36 hl (by decide) rfl (fun ls hl => ?_)
        refine lv_iload X.1 X.2.1 dX7_manyWith_38 (lv_at hl 6 rfl) ?_
        refine on_Si (run_S (As := [.int (nI (HL i))]) (rest := []) X (c_X7_nextHand l G hp (HL i) hk7 hk2) (rp_blind _) (rp_at X hH hS) mf_X7_nextHand tw_947 tw_948 ⟨rfl, rfl, Nat.le_of_ble_eq_true rfl, Nat.le_of_ble_eq_true rfl⟩ hl.1 rfl rfl (Nat.le_of_ble_eq_true rfl) ⟨Nat.le_of_ble_eq_true rfl, Nat.le_of_ble_eq_true rfl⟩ dX7_manyWith_40) (fun r_40 q_40 => ?_)
        obtain rfl : r_40 = (nI (nhN (HL i))) := q_40
        refine r_eqi (show nI (nhN (HL i)) = nI (HL (i + 1)) from rfl) ?_
        refine lv_istore (lv' := [(6, .int (nI (HL (i + 1)))), (5, .int (nI (cntF (fun h => decide (rlF n R h st la fo = ru)) (i + 1)))), (0, .ref (M 0)), (1, .int ru), (2, .int st), (3, .int la), (4, .int fo)]) X.1 X.2.1 dX7_manyWith_43 hl (by decide) rfl (fun ls hl => ?_)
        refine lv_goto (tgt := 7) X.1 X.2.1 dX7_manyWith_45 (by decide) ?_
        exact ih (i + 1) (by omega) ls (lv_sub hl [2, 3, 4, 5, 6, 1, 0] rfl)
      · have hy : decide (rlF n R (HL i) st la fo = ru) = true := decide_eq_true c_27
        refine lv_iconst (v := 1) X.1 X.2.1 dX7_manyWith_30 (by decide) ?_
        refine lv_goto (tgt := 35) X.1 X.2.1 dX7_manyWith_31 (by decide) ?_
        refine lv_iadd X.1 X.2.1 dX7_manyWith_35 ?_
        refine r_eqi (show (((nI (cntF (fun h => decide (rlF n R h st la fo = ru)) i)) + 1) : Int32) = nI ((cntF (fun h => decide (rlF n R h st la fo = ru)) i) + 1) from nI_add (cntF (fun h => decide (rlF n R h st la fo = ru)) i) 1) ?_
        refine r_eqi (show ((nI ((cntF (fun h => decide (rlF n R h st la fo = ru)) i) + 1)) : Int32) = nI (cntF (fun h => decide (rlF n R h st la fo = ru)) (i + 1)) from by skip; show _ = nI (cntF (fun h => decide (rlF n R h st la fo = ru)) i + (if (fun h => decide (rlF n R h st la fo = ru)) (HL i) = true then 1 else 0)); rw [if_pos hy]) ?_
        refine lv_istore (lv' := [(5, .int (nI (cntF (fun h => decide (rlF n R h st la fo = ru)) (i + 1)))), (0, .ref (M 0)), (1, .int ru), (2, .int st), (3, .int la), (4, .int fo), (6, .int (nI (HL i)))]) X.1 X.2.1 dX7_manyWith_36 hl (by decide) rfl (fun ls hl => ?_)
        refine lv_iload X.1 X.2.1 dX7_manyWith_38 (lv_at hl 6 rfl) ?_
        refine on_Si (run_S (As := [.int (nI (HL i))]) (rest := []) X (c_X7_nextHand l G hp (HL i) hk7 hk2) (rp_blind _) (rp_at X hH hS) mf_X7_nextHand tw_947 tw_948 ⟨rfl, rfl, Nat.le_of_ble_eq_true rfl, Nat.le_of_ble_eq_true rfl⟩ hl.1 rfl rfl (Nat.le_of_ble_eq_true rfl) ⟨Nat.le_of_ble_eq_true rfl, Nat.le_of_ble_eq_true rfl⟩ dX7_manyWith_40) (fun r_40 q_40 => ?_)
        obtain rfl : r_40 = (nI (nhN (HL i))) := q_40
        refine r_eqi (show nI (nhN (HL i)) = nI (HL (i + 1)) from rfl) ?_
        refine lv_istore (lv' := [(6, .int (nI (HL (i + 1)))), (5, .int (nI (cntF (fun h => decide (rlF n R h st la fo = ru)) (i + 1)))), (0, .ref (M 0)), (1, .int ru), (2, .int st), (3, .int la), (4, .int fo)]) X.1 X.2.1 dX7_manyWith_43 hl (by decide) rfl (fun ls hl => ?_)
        refine lv_goto (tgt := 7) X.1 X.2.1 dX7_manyWith_45 (by decide) ?_
        exact ih (i + 1) (by omega) ls (lv_sub hl [2, 3, 4, 5, 6, 1, 0] rfl)
  exact L7 15504 0 rfl ls (lv_sub hl [2, 3, 4, 5, 6, 1, 0] rfl)

