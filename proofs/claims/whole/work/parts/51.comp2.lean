/-! a rule's packed measures -/
theorem sw_ge4 {w : Nat} (h0 : ¬ nI w = 0) (h1 : ¬ nI w = 1) (h2 : ¬ nI w = 2) (h3 : ¬ nI w = 3) : 4 ≤ w := by
  rcases (show w = 0 ∨ w = 1 ∨ w = 2 ∨ w = 3 ∨ 4 ≤ w by omega) with h | h | h | h | h
  · exact absurd (by rw [h]; rfl) h0
  · exact absurd (by rw [h]; rfl) h1
  · exact absurd (by rw [h]; rfl) h2
  · exact absurd (by rw [h]; rfl) h3
  · exact h
theorem lo_get {q : Nat → Nat} (hq : ∀ j, j < 14 → q j ≤ 25) {w : Nat} (h4 : 4 ≤ w) (h14 : w < 14) (he : w % 2 = 0) : loP q / 2 ^ (6 * (w / 2 - 2)) % 32 = q w := by
  have b4 := hq 4 (by decide)
  have b6 := hq 6 (by decide)
  have b8 := hq 8 (by decide)
  have b10 := hq 10 (by decide)
  have b12 := hq 12 (by decide)
  unfold loP
  rcases (show w = 4 ∨ w = 6 ∨ w = 8 ∨ w = 10 ∨ w = 12 by omega) with h | h | h | h | h <;> subst h
  · show (q 4 + 64 * q 6 + 4096 * q 8 + 262144 * q 10 + 16777216 * q 12) / 1 % 32 = _; omega
  · show (q 4 + 64 * q 6 + 4096 * q 8 + 262144 * q 10 + 16777216 * q 12) / 64 % 32 = _; omega
  · show (q 4 + 64 * q 6 + 4096 * q 8 + 262144 * q 10 + 16777216 * q 12) / 4096 % 32 = _; omega
  · show (q 4 + 64 * q 6 + 4096 * q 8 + 262144 * q 10 + 16777216 * q 12) / 262144 % 32 = _; omega
  · show (q 4 + 64 * q 6 + 4096 * q 8 + 262144 * q 10 + 16777216 * q 12) / 16777216 % 32 = _; omega
theorem hi_get {q : Nat → Nat} (hq : ∀ j, j < 14 → q j ≤ 25) {w : Nat} (h4 : 4 ≤ w) (h14 : w < 14) (he : ¬ w % 2 = 0) : hiP q / 2 ^ (6 * (w / 2 - 2)) % 32 = q w := by
  have b4 := hq 5 (by decide)
  have b6 := hq 7 (by decide)
  have b8 := hq 9 (by decide)
  have b10 := hq 11 (by decide)
  have b12 := hq 13 (by decide)
  unfold hiP
  rcases (show w = 5 ∨ w = 7 ∨ w = 9 ∨ w = 11 ∨ w = 13 by omega) with h | h | h | h | h <;> subst h
  · show (q 5 + 64 * q 7 + 4096 * q 9 + 262144 * q 11 + 16777216 * q 13) / 1 % 32 = _; omega
  · show (q 5 + 64 * q 7 + 4096 * q 9 + 262144 * q 11 + 16777216 * q 13) / 64 % 32 = _; omega
  · show (q 5 + 64 * q 7 + 4096 * q 9 + 262144 * q 11 + 16777216 * q 13) / 4096 % 32 = _; omega
  · show (q 5 + 64 * q 7 + 4096 * q 9 + 262144 * q 11 + 16777216 * q 13) / 262144 % 32 = _; omega
  · show (q 5 + 64 * q 7 + 4096 * q 9 + 262144 * q 11 + 16777216 * q 13) / 16777216 % 32 = _; omega
theorem lo_lt {q : Nat → Nat} (hq : ∀ j, j < 14 → q j ≤ 25) : loP q < 2 ^ 29 ∧ hiP q < 2 ^ 29 := by
  have b4 := hq 4 (by decide)
  have b6 := hq 6 (by decide)
  have b8 := hq 8 (by decide)
  have b10 := hq 10 (by decide)
  have b12 := hq 12 (by decide)
  have c4 := hq 5 (by decide)
  have c6 := hq 7 (by decide)
  have c8 := hq 9 (by decide)
  have c10 := hq 11 (by decide)
  have c12 := hq 13 (by decide)
  unfold loP hiP
  omega
set_option maxHeartbeats 4000000 in
set_option maxRecDepth 100000 in
theorem c_X4_number (l : Launch) (G : HG) (hp : HP) (r9 : Nat) (q : Nat → Nat) (hq : ∀ j, j < 14 → q j ≤ 25) (w9 : Nat) (hw9 : w9 < 14) (hr9 : hp r9 = some (rcE q)) : Met l yX4_number [.code yX4_number cX4_number 2 (some .int)] { frames := 0, cells := 0, slots := 0, locals := 0 } (va_Pc [.ref r9, .int (nI w9)] (RP G hp)) (vp_Si (fun r => r = nI (q w9))) 0 0 (fun _ => False) := by
  refine ro_ofW (by decide) (Nat.le_of_ble_eq_true rfl) ?_
  intro p e s m args below meth c ls X hr hlk hH hl
  have hS : va_S (fun _ => False) s.heap s.heap [] := va_S.rf
  have hl : lv_has ls 2 [(0, .ref r9), (1, .int (nI w9))] := hl
  have hlh := lo_lt hq
  refine lv_iload_n X.1 X.2.1 dX4_number_0 rfl (lv_at hl 1 rfl) ?_
  refine (Decidable.em (((nI w9) : Int32) = 0)).elim (fun sw_1_0 => ?_) (fun sw_1_0 => ?_)
  · refine r_eqi sw_1_0 ?_
    refine lv_tableIn (off := 31) (tgt := 32) X.1 X.2.1 dX4_number_1 (by decide) (by decide) (by decide) (by decide) ?_
    refine lv_aload_n X.1 X.2.1 dX4_number_32 rfl (lv_at hl 0 rfl) ?_
    refine r_get X hH hr9 (v := .int (nI (q 0))) (C := RX4) (T := TX4) (N := 6) rfl tin_X4 0 (by decide) tw_228 (fun _ h => h) rfl dX4_number_33 ?_
    exact ro_i X hr hlk (by show nI (q 0) = nI (q w9); rw [show w9 = 0 from (nI_eq (b := 0) (by omega) (by decide)).mp sw_1_0]) dX4_number_36
  · skip
    refine (Decidable.em (((nI w9) : Int32) = 1)).elim (fun sw_1_1 => ?_) (fun sw_1_1 => ?_)
    · refine r_eqi sw_1_1 ?_
      refine lv_tableIn (off := 36) (tgt := 37) X.1 X.2.1 dX4_number_1 (by decide) (by decide) (by decide) (by decide) ?_
      refine lv_aload_n X.1 X.2.1 dX4_number_37 rfl (lv_at hl 0 rfl) ?_
      refine r_get X hH hr9 (v := .int (nI (q 1))) (C := RX4) (T := TX4) (N := 6) rfl tin_X4 1 (by decide) tw_231 (fun _ h => h) rfl dX4_number_38 ?_
      exact ro_i X hr hlk (by show nI (q 1) = nI (q w9); rw [show w9 = 1 from (nI_eq (b := 1) (by omega) (by decide)).mp sw_1_1]) dX4_number_41
    · skip
      refine (Decidable.em (((nI w9) : Int32) = 2)).elim (fun sw_1_2 => ?_) (fun sw_1_2 => ?_)
      · refine r_eqi sw_1_2 ?_
        refine lv_tableIn (off := 41) (tgt := 42) X.1 X.2.1 dX4_number_1 (by decide) (by decide) (by decide) (by decide) ?_
        refine lv_aload_n X.1 X.2.1 dX4_number_42 rfl (lv_at hl 0 rfl) ?_
        refine r_get X hH hr9 (v := .int (nI (q 2))) (C := RX4) (T := TX4) (N := 6) rfl tin_X4 2 (by decide) tw_235 (fun _ h => h) rfl dX4_number_43 ?_
        exact ro_i X hr hlk (by show nI (q 2) = nI (q w9); rw [show w9 = 2 from (nI_eq (b := 2) (by omega) (by decide)).mp sw_1_2]) dX4_number_46
      · skip
        refine (Decidable.em (((nI w9) : Int32) = 3)).elim (fun sw_1_3 => ?_) (fun sw_1_3 => ?_)
        · refine r_eqi sw_1_3 ?_
          refine lv_tableIn (off := 46) (tgt := 47) X.1 X.2.1 dX4_number_1 (by decide) (by decide) (by decide) (by decide) ?_
          refine lv_aload_n X.1 X.2.1 dX4_number_47 rfl (lv_at hl 0 rfl) ?_
          refine r_get X hH hr9 (v := .int (nI (q 3))) (C := RX4) (T := TX4) (N := 6) rfl tin_X4 3 (by decide) tw_238 (fun _ h => h) rfl dX4_number_48 ?_
          exact ro_i X hr hlk (by show nI (q 3) = nI (q w9); rw [show w9 = 3 from (nI_eq (b := 3) (by omega) (by decide)).mp sw_1_3]) dX4_number_51
        · skip
          have sn_1_0 := lv_neT sw_1_0 (k := 0) (a := 0) (by decide)
          have sn_1_1 := lv_neT sw_1_1 (k := 1) (a := 1) (by decide)
          have sn_1_2 := lv_neT sw_1_2 (k := 2) (a := 2) (by decide)
          have sn_1_3 := lv_neT sw_1_3 (k := 3) (a := 3) (by decide)
          refine lv_tableOut (tgt := 52) X.1 X.2.1 dX4_number_1 (by omega) (by decide) ?_
          have hw4 := sw_ge4 sw_1_0 sw_1_1 sw_1_2 sw_1_3
          refine lv_iload_n X.1 X.2.1 dX4_number_52 rfl (lv_at hl 1 rfl) ?_
          refine lv_iconst (v := 2) X.1 X.2.1 dX4_number_53 (by decide) ?_
          refine lv_irem X.1 X.2.1 dX4_number_54 (by decide) ?_
          refine r_eqi (show (((nI w9) - (nI w9) / 2 * 2) : Int32) = nI (w9 % 2) from pk_rem (a := w9) (d := 2) (by omega) (by omega) (by omega)) ?_
          refine lv_if_ne (tgt := 65) X.1 X.2.1 dX4_number_55 (by decide) (fun c_55 => ?_) (fun c_55 => ?_)
          · have k_55 := k_ne (a := (w9 % 2)) (b := 0) (by omega) (by omega) c_55
            refine lv_aload_n X.1 X.2.1 dX4_number_65 rfl (lv_at hl 0 rfl) ?_
            refine r_get X hH hr9 (v := .int (nI (hiP q))) (C := RX4) (T := TX4) (N := 6) rfl tin_X4 5 (by decide) tw_242 (fun _ h => h) rfl dX4_number_66 ?_
            refine lv_bipush (v := 6) X.1 X.2.1 dX4_number_69 (by decide) ?_
            refine lv_iload_n X.1 X.2.1 dX4_number_71 rfl (lv_at hl 1 rfl) ?_
            refine lv_iconst (v := 2) X.1 X.2.1 dX4_number_72 (by decide) ?_
            refine lv_idiv X.1 X.2.1 dX4_number_73 (by decide) ?_
            refine r_eqi (show (((nI w9) / 2) : Int32) = nI (w9 / 2) from pk_div (a := w9) (d := 2) (by omega) (by omega) (by omega)) ?_
            refine lv_iconst (v := 2) X.1 X.2.1 dX4_number_74 (by decide) ?_
            refine lv_isub X.1 X.2.1 dX4_number_75 ?_
            refine r_eqi (show (((nI (w9 / 2)) - 2) : Int32) = nI ((w9 / 2) - 2) from pk_sub (a := (w9 / 2)) (b := 2) (by omega)) ?_
            refine lv_imul X.1 X.2.1 dX4_number_76 ?_
            refine r_eqi (show (((6 : Int32) * (nI ((w9 / 2) - 2))) : Int32) = nI (6 * ((w9 / 2) - 2)) from pk_mul 6 ((w9 / 2) - 2)) ?_
            refine lv_ishr X.1 X.2.1 dX4_number_77 ?_
            refine r_eqi (show (((nI (hiP q)) >>> ((nI (6 * ((w9 / 2) - 2))) &&& 31)) : Int32) = nI ((hiP q) / 2 ^ (6 * (w9 / 2 - 2))) from shrV (hiP q) (6 * (w9 / 2 - 2)) (by omega) (by omega)) ?_
            refine lv_bipush (v := 31) X.1 X.2.1 dX4_number_78 (by decide) ?_
            refine lv_iand X.1 X.2.1 dX4_number_80 ?_
            refine r_eqi (show (((nI ((hiP q) / 2 ^ (6 * (w9 / 2 - 2)))) &&& 31) : Int32) = nI (((hiP q) / 2 ^ (6 * (w9 / 2 - 2))) % 32) from n_and31 ((hiP q) / 2 ^ (6 * (w9 / 2 - 2)))) ?_
            exact ro_i X hr hlk (by show nI _ = nI _; exact congrArg nI (hi_get hq hw4 hw9 k_55)) dX4_number_81
          · have k_55 := k_eq (a := (w9 % 2)) (b := 0) (by omega) (by omega) c_55
            refine lv_aload_n X.1 X.2.1 dX4_number_58 rfl (lv_at hl 0 rfl) ?_
            refine r_get X hH hr9 (v := .int (nI (loP q))) (C := RX4) (T := TX4) (N := 6) rfl tin_X4 4 (by decide) tw_241 (fun _ h => h) rfl dX4_number_59 ?_
            refine lv_goto (tgt := 69) X.1 X.2.1 dX4_number_62 (by decide) ?_
            refine lv_bipush (v := 6) X.1 X.2.1 dX4_number_69 (by decide) ?_
            refine lv_iload_n X.1 X.2.1 dX4_number_71 rfl (lv_at hl 1 rfl) ?_
            refine lv_iconst (v := 2) X.1 X.2.1 dX4_number_72 (by decide) ?_
            refine lv_idiv X.1 X.2.1 dX4_number_73 (by decide) ?_
            refine r_eqi (show (((nI w9) / 2) : Int32) = nI (w9 / 2) from pk_div (a := w9) (d := 2) (by omega) (by omega) (by omega)) ?_
            refine lv_iconst (v := 2) X.1 X.2.1 dX4_number_74 (by decide) ?_
            refine lv_isub X.1 X.2.1 dX4_number_75 ?_
            refine r_eqi (show (((nI (w9 / 2)) - 2) : Int32) = nI ((w9 / 2) - 2) from pk_sub (a := (w9 / 2)) (b := 2) (by omega)) ?_
            refine lv_imul X.1 X.2.1 dX4_number_76 ?_
            refine r_eqi (show (((6 : Int32) * (nI ((w9 / 2) - 2))) : Int32) = nI (6 * ((w9 / 2) - 2)) from pk_mul 6 ((w9 / 2) - 2)) ?_
            refine lv_ishr X.1 X.2.1 dX4_number_77 ?_
            refine r_eqi (show (((nI (loP q)) >>> ((nI (6 * ((w9 / 2) - 2))) &&& 31)) : Int32) = nI ((loP q) / 2 ^ (6 * (w9 / 2 - 2))) from shrV (loP q) (6 * (w9 / 2 - 2)) (by omega) (by omega)) ?_
            refine lv_bipush (v := 31) X.1 X.2.1 dX4_number_78 (by decide) ?_
            refine lv_iand X.1 X.2.1 dX4_number_80 ?_
            refine r_eqi (show (((nI ((loP q) / 2 ^ (6 * (w9 / 2 - 2)))) &&& 31) : Int32) = nI (((loP q) / 2 ^ (6 * (w9 / 2 - 2))) % 32) from n_and31 ((loP q) / 2 ^ (6 * (w9 / 2 - 2)))) ?_
            exact ro_i X hr hlk (by show nI _ = nI _; exact congrArg nI (lo_get hq hw4 hw9 k_55)) dX4_number_81

