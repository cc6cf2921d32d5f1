/-! limit -/
def lmR (R : Nat → Nat → Nat) (r w lo hi : Nat) : Nat → Nat → Nat := fun i => if i = r then (fun j => if j = 5 + 2 * w then hi else if j = 4 + 2 * w then lo else R r j) else R i
def mxI (w : Nat) : Int := if w = 4 then 20 else 5
def fLimit (z : ST) (a b d q : Int32) : Int32 := if inI a 0 ((z.1 : Int) - 1) = 0 then -1 else if inI b 0 4 = 0 ∨ inI q 0 (mxI (tn b)) = 0 ∨ inI d 0 q.toInt = 0 then -2 else nI (cntF (fitB (lmR z.2.1 (tn a) (tn b) (tn d) (tn q) (tn a))) 15504)
def gLimit (z : ST) (a b d q : Int32) : ST := if inI a 0 ((z.1 : Int) - 1) = 0 then z else if inI b 0 4 = 0 ∨ inI q 0 (mxI (tn b)) = 0 ∨ inI d 0 q.toInt = 0 then z else gAnew (z.1, lmR z.2.1 (tn a) (tn b) (tn d) (tn q), z.2.2)
theorem inI_natT {a : Int32} {h : Nat} (hh : h < 2 ^ 31) (q : ¬ inI a 0 (nI h).toInt = 0) : ∃ x : Nat, x ≤ h ∧ a = nI x := inI_nat (hi := h) (by rw [← nI_toInt hh]; exact q) hh
theorem mu_lim {n : Nat} {R : Nat → Nat → Nat} {sc : Nat → Int32} {ar : Nat → Nat → Int32} {r w lo hi : Nat} (h : MU n R sc ar) (hr : r < n) (hw : w ≤ 4) (hlo : lo ≤ 25) (hhi : hi ≤ 25) : MU n (lmR R r w lo hi) sc (va_up (va_up ar 0 (upd (ar 0) (nI (14 * r + 4 + 2 * w)).toNatClampNeg (nI lo))) 0 (upd (upd (ar 0) (nI (14 * r + 4 + 2 * w)).toNatClampNeg (nI lo)) (nI (14 * r + 4 + 2 * w + 1)).toNatClampNeg (nI hi))) := by
  have hn := h.2.1
  refine ⟨h.1, hn, fun i k hi2 hk => ?_, fun i k hi2 hk => ?_⟩
  · show upd (upd (ar 0) (nI (14 * r + 4 + 2 * w)).toNatClampNeg (nI lo)) (nI (14 * r + 4 + 2 * w + 1)).toNatClampNeg (nI hi) (14 * i + k) = nI (lmR R r w lo hi i k)
    rw [nI_clamp (by omega), nI_clamp (by omega)]
    have e := h.2.2.1 i k hi2 hk
    unfold lmR upd
    by_cases c : i = r
    · subst c
      rw [if_pos rfl]
      by_cases d : k = 5 + 2 * w
      · rw [if_pos (by omega), if_pos d]
      · rw [if_neg (by omega), if_neg d]
        by_cases f : k = 4 + 2 * w
        · rw [if_pos (by omega), if_pos f]
        · rw [if_neg (by omega), if_neg f]
          exact e
    · rw [if_neg c, if_neg (by omega), if_neg (by omega)]
      exact e
  · have e := h.2.2.2 i k hi2 hk
    show lmR R r w lo hi i k ≤ 25
    unfold lmR
    by_cases c : i = r
    · subst c
      rw [if_pos rfl]
      split
      · exact hhi
      · split
        · exact hlo
        · exact e
    · rw [if_neg c]
      exact e
set_option maxHeartbeats 4000000 in
set_option maxRecDepth 100000 in
theorem c_X7_limit (l : Launch) (G : HG) (A : Nat → Prop) (hp : HP) (sz : Nat) (hA : ∀ q, sz ≤ q → A q) (hO : Ow A hp) (M : Nat → Nat) (sc : Nat → Int32) (ar : Nat → Nat → Int32) (sm : Nat → Int64) (hM : MR G hp M sc ar sm) (n : Nat) (R : Nat → Nat → Nat) (hd : Nat → Nat) (k : Nat) (cs : Nat → Nat → Int32) (sk : Bool) (pn : Nat) (pt : Nat → Nat) (hz : MST (n, R, hd, k, cs, sk, pn, pt) sc ar) (a b d q : Int32) : Met l yX7_limit [.code yX7_limit cX7_limit 7 (some .int)] { frames := 2, cells := 0, slots := 0, locals := 47 } (va_Pc [.ref (M 0), .int a, .int b, .int d, .int q] (WP G A sz hp)) (va_Qi (fun r hp1 => r = fLimit (n, R, hd, k, cs, sk, pn, pt) a b d q ∧ ∃ sc1 ar1 sm1, MR G hp1 M sc1 ar1 sm1 ∧ MST (gLimit (n, R, hd, k, cs, sk, pn, pt) a b d q) sc1 ar1) (WB G A) A) 0 0 A := by
  refine wr_ofW (by decide) (Nat.le_of_ble_eq_true rfl) hO ?_
  intro p e s m args below meth c ls X hr hlk hnm hsz hW hl
  have hA : ∀ q, s.heap.size ≤ q → A q := fun q h => hA q (by omega)
  have hl : lv_has ls 7 [(0, .ref (M 0)), (1, .int a), (2, .int b), (3, .int d), (4, .int q)] := hl
  have hT : MT ar := hz.1
  have hU : MU n R sc ar := hz.2.1
  have hH2 : MH hd ar := hz.2.2.1
  have hau : MAu k cs sk sc ar := hz.2.2.2.1
  have hP : MP pn pt sc ar := hz.2.2.2.2
  have hn := hU.2.1
  have hk := hau.2.1
  refine lv_aload_n X.1 X.2.1 dX7_limit_0 rfl (lv_at hl 0 rfl) ?_
  refine lv_iload_n X.1 X.2.1 dX7_limit_1 rfl (lv_at hl 1 rfl) ?_
  refine on_Si (run_V (C := RX7) (As := [.int a]) (rest := []) X (c_X7_isRule l G hp M sc ar sm hM n R hU a ) (rp_blind _) (rp_at X hW.1 hW.2.2) (recv X hW.1 hM.1 (C := RX7) (T := TX7) (N := 19) rfl) mf_X7_isRule tw_930 tw_932 tw_31 ⟨rfl, rfl, Nat.le_of_ble_eq_true rfl, Nat.le_of_ble_eq_true rfl⟩ hl.1 rfl rfl (Nat.le_of_ble_eq_true rfl) ⟨Nat.le_of_ble_eq_true rfl, Nat.le_of_ble_eq_true rfl⟩ dX7_limit_2) (fun r_2 q_2 => ?_)
  obtain rfl : r_2 = (inI a 0 ((n : Int) - 1)) := q_2
  refine lv_if_ne (tgt := 10) X.1 X.2.1 dX7_limit_5 (by decide) (fun c_5 => ?_) (fun c_5 => ?_)
  · obtain ⟨xa, hxa, rfl⟩ := ru_nat hU.2.1 c_5
    refine lv_iload_n X.1 X.2.1 dX7_limit_10 rfl (lv_at hl 2 rfl) ?_
    refine lv_iconst (v := 0) X.1 X.2.1 dX7_limit_11 (by decide) ?_
    refine lv_iconst (v := 4) X.1 X.2.1 dX7_limit_12 (by decide) ?_
    refine on_Si (run_S (As := [.int b, .int 0, .int 4]) (rest := []) X (c_X7_in l G hp b 0 4) (rp_blind _) (rp_at X hW.1 hW.2.2) mf_X7_in tw_907 tw_908 ⟨rfl, rfl, Nat.le_of_ble_eq_true rfl, Nat.le_of_ble_eq_true rfl⟩ hl.1 rfl rfl (Nat.le_of_ble_eq_true rfl) ⟨Nat.le_of_ble_eq_true rfl, Nat.le_of_ble_eq_true rfl⟩ dX7_limit_13) (fun r_13 q_13 => ?_)
    obtain rfl : r_13 = (inI b 0 4) := q_13
    refine lv_if_eq (tgt := 49) X.1 X.2.1 dX7_limit_16 (by decide) (fun c_16 => ?_) (fun c_16 => ?_)
    · refine lv_bipush (v := (-2)) X.1 X.2.1 dX7_limit_49 (by decide) ?_
      exact wr_i X hr hlk hW ⟨((if_neg c_5).trans (if_pos (Or.inl c_16))).symm, _, _, _, hM, by rw [show gLimit (n, R, hd, k, cs, sk, pn, pt) (nI xa) b d q = (n, R, hd, k, cs, sk, pn, pt) from (if_neg c_5).trans (if_pos (Or.inl c_16))]; exact hz⟩ (Nat.le_of_ble_eq_true rfl) (Nat.le_of_ble_eq_true rfl) dX7_limit_51
    · obtain ⟨xb, hxb, rfl⟩ := inI_nat (hi := 4) c_16 (by decide)
      refine lv_iload X.1 X.2.1 dX7_limit_19 (lv_at hl 4 rfl) ?_
      refine lv_iconst (v := 0) X.1 X.2.1 dX7_limit_21 (by decide) ?_
      refine lv_iload_n X.1 X.2.1 dX7_limit_22 rfl (lv_at hl 2 rfl) ?_
      refine lv_iconst (v := 4) X.1 X.2.1 dX7_limit_23 (by decide) ?_
      refine lv_icmp_ne (tgt := 32) X.1 X.2.1 dX7_limit_24 (by decide) (fun c_24 => ?_) (fun c_24 => ?_)
      · have k_24 := k_ne (a := xb) (b := 4) (by omega) (by omega) c_24
        refine lv_iconst (v := 5) X.1 X.2.1 dX7_limit_32 (by decide) ?_
        refine on_Si (run_S (As := [.int q, .int 0, .int 5]) (rest := []) X (c_X7_in l G hp q 0 5) (rp_blind _) (rp_at X hW.1 hW.2.2) mf_X7_in tw_907 tw_908 ⟨rfl, rfl, Nat.le_of_ble_eq_true rfl, Nat.le_of_ble_eq_true rfl⟩ hl.1 rfl rfl (Nat.le_of_ble_eq_true rfl) ⟨Nat.le_of_ble_eq_true rfl, Nat.le_of_ble_eq_true rfl⟩ dX7_limit_33) (fun r_33 q_33 => ?_)
        obtain rfl : r_33 = (inI q 0 5) := q_33
        refine lv_if_eq (tgt := 49) X.1 X.2.1 dX7_limit_36 (by decide) (fun c_36 => ?_) (fun c_36 => ?_)
        · refine lv_bipush (v := (-2)) X.1 X.2.1 dX7_limit_49 (by decide) ?_
          exact wr_i X hr hlk hW ⟨((if_neg c_5).trans (if_pos (Or.inr (Or.inl (by rw [tn_n (by omega)]; unfold mxI; rw [if_neg k_24]; exact c_36))))).symm, _, _, _, hM, by rw [show gLimit (n, R, hd, k, cs, sk, pn, pt) (nI xa) (nI xb) d q = (n, R, hd, k, cs, sk, pn, pt) from (if_neg c_5).trans (if_pos (Or.inr (Or.inl (by rw [tn_n (by omega)]; unfold mxI; rw [if_neg k_24]; exact c_36))))]; exact hz⟩ (Nat.le_of_ble_eq_true rfl) (Nat.le_of_ble_eq_true rfl) dX7_limit_51
        · obtain ⟨xq, hxq, rfl⟩ := inI_nat (hi := 5) c_36 (by decide)
          refine lv_iload_n X.1 X.2.1 dX7_limit_39 rfl (lv_at hl 3 rfl) ?_
          refine lv_iconst (v := 0) X.1 X.2.1 dX7_limit_40 (by decide) ?_
          refine lv_iload X.1 X.2.1 dX7_limit_41 (lv_at hl 4 rfl) ?_
          refine on_Si (run_S (As := [.int d, .int 0, .int (nI xq)]) (rest := []) X (c_X7_in l G hp d 0 (nI xq)) (rp_blind _) (rp_at X hW.1 hW.2.2) mf_X7_in tw_907 tw_908 ⟨rfl, rfl, Nat.le_of_ble_eq_true rfl, Nat.le_of_ble_eq_true rfl⟩ hl.1 rfl rfl (Nat.le_of_ble_eq_true rfl) ⟨Nat.le_of_ble_eq_true rfl, Nat.le_of_ble_eq_true rfl⟩ dX7_limit_43) (fun r_43 q_43 => ?_)
          obtain rfl : r_43 = (inI d 0 (nI xq).toInt) := q_43
          refine lv_if_ne (tgt := 52) X.1 X.2.1 dX7_limit_46 (by decide) (fun c_46 => ?_) (fun c_46 => ?_)
          · obtain ⟨xd, hxd, rfl⟩ := inI_natT (h := xq) (by omega) c_46
            refine lv_aload_n X.1 X.2.1 dX7_limit_52 rfl (lv_at hl 0 rfl) ?_
            refine r_get X hW.1 hM.1 (v := .ref (M 1)) (C := RX7) (T := TX7) (N := 19) rfl tin_X7 0 (by decide) tw_843 (fun _ h => h) rfl dX7_limit_53 ?_
            refine lv_bipush (v := 14) X.1 X.2.1 dX7_limit_56 (by decide) ?_
            refine lv_iload_n X.1 X.2.1 dX7_limit_58 rfl (lv_at hl 1 rfl) ?_
            refine lv_imul X.1 X.2.1 dX7_limit_59 ?_
            refine r_eqi (show (((14 : Int32) * (nI xa)) : Int32) = nI (14 * xa) from pk_mul 14 xa) ?_
            refine lv_iconst (v := 4) X.1 X.2.1 dX7_limit_60 (by decide) ?_
            refine lv_iadd X.1 X.2.1 dX7_limit_61 ?_
            refine r_eqi (show (((nI (14 * xa)) + 4) : Int32) = nI ((14 * xa) + 4) from nI_add (14 * xa) 4) ?_
            refine lv_iconst (v := 2) X.1 X.2.1 dX7_limit_62 (by decide) ?_
            refine lv_iload_n X.1 X.2.1 dX7_limit_63 rfl (lv_at hl 2 rfl) ?_
            refine lv_imul X.1 X.2.1 dX7_limit_64 ?_
            refine r_eqi (show (((2 : Int32) * (nI xb)) : Int32) = nI (2 * xb) from pk_mul 2 xb) ?_
            refine lv_iadd X.1 X.2.1 dX7_limit_65 ?_
            refine r_eqi (show (((nI ((14 * xa) + 4)) + (nI (2 * xb))) : Int32) = nI (((14 * xa) + 4) + (2 * xb)) from nI_add ((14 * xa) + 4) (2 * xb)) ?_
            refine lv_iload_n X.1 X.2.1 dX7_limit_66 rfl (lv_at hl 3 rfl) ?_
            refine r_iast X hW (hM.2.1 0 (by decide)) (show vp_in ((nI (((14 * xa) + 4) + (2 * xb)))) 336 from vp_in_nI (n := (((14 * xa) + 4) + (2 * xb))) (by omega) (by decide)) dX7_limit_67 (fun hp_1 H locs hW eh_2 => ?_)
            have hM := mr_ar hM 0 (by decide) eh_2
            refine lv_aload_n X.1 X.2.1 dX7_limit_68 rfl (lv_at hl 0 rfl) ?_
            refine r_get X hW.1 hM.1 (v := .ref (M 1)) (C := RX7) (T := TX7) (N := 19) rfl tin_X7 0 (by decide) tw_843 (fun _ h => h) rfl dX7_limit_69 ?_
            refine lv_bipush (v := 14) X.1 X.2.1 dX7_limit_72 (by decide) ?_
            refine lv_iload_n X.1 X.2.1 dX7_limit_74 rfl (lv_at hl 1 rfl) ?_
            refine lv_imul X.1 X.2.1 dX7_limit_75 ?_
            refine r_eqi (show (((14 : Int32) * (nI xa)) : Int32) = nI (14 * xa) from pk_mul 14 xa) ?_
            refine lv_iconst (v := 4) X.1 X.2.1 dX7_limit_76 (by decide) ?_
            refine lv_iadd X.1 X.2.1 dX7_limit_77 ?_
            refine r_eqi (show (((nI (14 * xa)) + 4) : Int32) = nI ((14 * xa) + 4) from nI_add (14 * xa) 4) ?_
            refine lv_iconst (v := 2) X.1 X.2.1 dX7_limit_78 (by decide) ?_
            refine lv_iload_n X.1 X.2.1 dX7_limit_79 rfl (lv_at hl 2 rfl) ?_
            refine lv_imul X.1 X.2.1 dX7_limit_80 ?_
            refine r_eqi (show (((2 : Int32) * (nI xb)) : Int32) = nI (2 * xb) from pk_mul 2 xb) ?_
            refine lv_iadd X.1 X.2.1 dX7_limit_81 ?_
            refine r_eqi (show (((nI ((14 * xa) + 4)) + (nI (2 * xb))) : Int32) = nI (((14 * xa) + 4) + (2 * xb)) from nI_add ((14 * xa) + 4) (2 * xb)) ?_
            refine lv_iconst (v := 1) X.1 X.2.1 dX7_limit_82 (by decide) ?_
            refine lv_iadd X.1 X.2.1 dX7_limit_83 ?_
            refine r_eqi (show (((nI (((14 * xa) + 4) + (2 * xb))) + 1) : Int32) = nI ((((14 * xa) + 4) + (2 * xb)) + 1) from nI_add (((14 * xa) + 4) + (2 * xb)) 1) ?_
            refine lv_iload X.1 X.2.1 dX7_limit_84 (lv_at hl 4 rfl) ?_
            refine r_iast X hW (hM.2.1 0 (by decide)) (show vp_in ((nI ((((14 * xa) + 4) + (2 * xb)) + 1))) 336 from vp_in_nI (n := ((((14 * xa) + 4) + (2 * xb)) + 1)) (by omega) (by decide)) dX7_limit_86 (fun hp_3 H locs hW eh_4 => ?_)
            have hM := mr_ar hM 0 (by decide) eh_4
            refine lv_aload_n X.1 X.2.1 dX7_limit_87 rfl (lv_at hl 0 rfl) ?_
            refine on_Wv (k' := 0) (n' := 0) (run_V (C := RX7) (As := []) (rest := []) X (c_X7_anew l G A hp_3 _ (fun q h => hA q (Nat.le_trans hW.2.2.1 h)) hW.2.1 M sc (va_up (va_up ar 0 (upd (ar 0) (nI (((14 * xa) + 4) + (2 * xb))).toNatClampNeg (nI xd))) 0 (upd (upd (ar 0) (nI (((14 * xa) + 4) + (2 * xb))).toNatClampNeg (nI xd)) (nI ((((14 * xa) + 4) + (2 * xb)) + 1)).toNatClampNeg (nI xq))) sm hM) (wp_blind _) (wp_at X hW.1 hW.2.2) (recv X hW.1 hM.1 (C := RX7) (T := TX7) (N := 19) rfl) mf_X7_anew tw_839 tw_841 tw_26 ⟨rfl, rfl, Nat.le_of_ble_eq_true rfl, Nat.le_of_ble_eq_true rfl⟩ hl.1 rfl rfl (Nat.le_of_ble_eq_true rfl) ⟨Nat.le_of_ble_eq_true rfl, Nat.le_of_ble_eq_true rfl⟩ dX7_limit_88) hW (by omega) (by omega) (fun hp_5 H locs q_88 hW => ?_)
            have hM := q_88
            have hz3 : MST (gAnew (n, (lmR R xa xb xd xq), hd, k, cs, sk, pn, pt)) (anS sc) (anR (va_up (va_up ar 0 (upd (ar 0) (nI (((14 * xa) + 4) + (2 * xb))).toNatClampNeg (nI xd))) 0 (upd (upd (ar 0) (nI (((14 * xa) + 4) + (2 * xb))).toNatClampNeg (nI xd)) (nI ((((14 * xa) + 4) + (2 * xb)) + 1)).toNatClampNeg (nI xq)))) := MST.anew (z := (n, (lmR R xa xb xd xq), hd, k, cs, sk, pn, pt)) ⟨hT, mu_lim hU hxa (by omega) (by omega) (by omega), hH2, hau, hP⟩
            refine lv_iconst (v := 0) X.1 X.2.1 dX7_limit_91 (by decide) ?_
            refine lv_istore (lv' := [(5, .int 0), (0, .ref (M 0)), (1, .int (nI xa)), (2, .int (nI xb)), (3, .int (nI xd)), (4, .int (nI xq))]) X.1 X.2.1 dX7_limit_92 hl (by decide) rfl (fun ls hl => ?_)
            refine lv_bipush (v := 31) X.1 X.2.1 dX7_limit_94 (by decide) ?_
            refine lv_istore (lv' := [(6, .int 31), (5, .int 0), (0, .ref (M 0)), (1, .int (nI xa)), (2, .int (nI xb)), (3, .int (nI xd)), (4, .int (nI xq))]) X.1 X.2.1 dX7_limit_96 hl (by decide) rfl (fun ls hl => ?_)
            have L98 : ∀ (f : Nat) (i : Nat), i + f = 15504 → ∀ ls, lv_has ls 7 [(0, .ref (M 0)), (1, .int (nI xa)), (2, .int (nI xb)), (3, .int (nI xd)), (4, .int (nI xq)), (5, .int (nI (cntF (fitB ((lmR R xa xb xd xq) xa)) i))), (6, .int (nI (HL i)))] → W p l e ({ frames := 2, cells := 0, slots := 0, locals := 47 } : Room) s m args below meth c H locs 0 0 (MQ below (va_Qi (fun r hp1 => r = fLimit (n, R, hd, k, cs, sk, pn, pt) (nI xa) (nI xb) (nI xd) (nI xq) ∧ ∃ sc1 ar1 sm1, MR G hp1 M sc1 ar1 sm1 ∧ MST (gLimit (n, R, hd, k, cs, sk, pn, pt) (nI xa) (nI xb) (nI xd) (nI xq)) sc1 ar1) (WB G A) A) args s 0 0 A) (F0 m 98 ls []) := by
              intro f
              induction f with
              | zero =>
                intro i h0 ls hl
                refine lv_iload X.1 X.2.1 dX7_limit_98 (lv_at hl 6 rfl) ?_
                refine r_const X tw_934 dX7_limit_100 ?_
                refine lv_icmp_gt (tgt := 135) X.1 X.2.1 dX7_limit_102 (by decide) (fun c_102 => ?_) (fun c_102 => absurd (hl_out (i := i) (by omega)) c_102)
                refine lv_iload X.1 X.2.1 dX7_limit_135 (lv_at hl 5 rfl) ?_
                exact wr_i X hr hlk hW ⟨(by rw [show fLimit (n, R, hd, k, cs, sk, pn, pt) (nI xa) (nI xb) (nI xd) (nI xq) = _ from (if_neg c_5).trans (if_neg (fun z9 => Or.elim z9 c_16 (fun z9 => Or.elim z9 (fun z9 => c_36 (by rw [tn_n (by omega)] at z9; unfold mxI at z9; rw [if_neg k_24] at z9; exact z9)) c_46))), tn_n (by omega), tn_n (by omega), tn_n (by omega), tn_n (by omega), show (15504 : Nat) = i by omega]), _, _, _, hM, by rw [show gLimit (n, R, hd, k, cs, sk, pn, pt) (nI xa) (nI xb) (nI xd) (nI xq) = _ from (if_neg c_5).trans (if_neg (fun z9 => Or.elim z9 c_16 (fun z9 => Or.elim z9 (fun z9 => c_36 (by rw [tn_n (by omega)] at z9; unfold mxI at z9; rw [if_neg k_24] at z9; exact z9)) c_46))), tn_n (by omega), tn_n (by omega), tn_n (by omega), tn_n (by omega)]; exact hz3⟩ (Nat.le_of_ble_eq_true rfl) (Nat.le_of_ble_eq_true rfl) dX7_limit_137
              | succ f ih =>
                intro i h0 ls hl
                have hlt : i < 15504 := by omega
                obtain ⟨hk1, hk2, hk3, hk4, hk5, hk6, hk7⟩ := HL_ok hlt
                have hcl := cntF_le (fitB ((lmR R xa xb xd xq) xa)) i
                refine lv_iload X.1 X.2.1 dX7_limit_98 (lv_at hl 6 rfl) ?_
                refine r_const X tw_934 dX7_limit_100 ?_
                refine lv_icmp_gt (tgt := 135) X.1 X.2.1 dX7_limit_102 (by decide) (fun c_102 => absurd c_102 (hl_inn (i := i) (by omega))) (fun c_102 => ?_)
                refine lv_iload X.1 X.2.1 dX7_limit_105 (lv_at hl 5 rfl) ?_
                refine lv_aload_n X.1 X.2.1 dX7_limit_107 rfl (lv_at hl 0 rfl) ?_
                refine lv_iload X.1 X.2.1 dX7_limit_108 (lv_at hl 6 rfl) ?_
                refine lv_iload_n X.1 X.2.1 dX7_limit_110 rfl (lv_at hl 1 rfl) ?_
                refine on_Si (run_V (C := RX7) (As := [.int (nI (HL i)), .int (nI xa)]) (rest := [.int (nI (cntF (fitB ((lmR R xa xb xd xq) xa)) i))]) X (c_X7_fitsRule l G hp_5 M (anS sc) (anR (va_up (va_up ar 0 (upd (ar 0) (nI (((14 * xa) + 4) + (2 * xb))).toNatClampNeg (nI xd))) 0 (upd (upd (ar 0) (nI (((14 * xa) + 4) + (2 * xb))).toNatClampNeg (nI xd)) (nI ((((14 * xa) + 4) + (2 * xb)) + 1)).toNatClampNeg (nI xq)))) sm hM hT n (lmR R xa xb xd xq) hz3.2.1 (HL i) (by omega) xa hxa) (rp_blind _) (rp_at X hW.1 hW.2.2) (recv X hW.1 hM.1 (C := RX7) (T := TX7) (N := 19) rfl) mf_X7_fitsRule tw_935 tw_937 tw_32 ⟨rfl, rfl, Nat.le_of_ble_eq_true rfl, Nat.le_of_ble_eq_true rfl⟩ hl.1 rfl rfl (Nat.le_of_ble_eq_true rfl) ⟨Nat.le_of_ble_eq_true rfl, Nat.le_of_ble_eq_true rfl⟩ dX7_limit_111) (fun r_111 q_111 => ?_)
                obtain rfl : r_111 = (bI (fitB ((lmR R xa xb xd xq) xa) (HL i))) := q_111
                refine lv_if_eq (tgt := 121) X.1 X.2.1 dX7_limit_114 (by decide) (fun c_114 => ?_) (fun c_114 => ?_)
                · have hy : ¬ (fitB ((lmR R xa xb xd xq) xa)) (HL i) = true := fun q9 => Bool.false_ne_true ((bI_0 c_114).symm.trans q9)
                  refine lv_iconst (v := 0) X.1 X.2.1 dX7_limit_121 (by decide) ?_
                  refine lv_iadd X.1 X.2.1 dX7_limit_122 ?_
                  refine r_eqi (show (((nI (cntF (fitB ((lmR R xa xb xd xq) xa)) i)) + 0) : Int32) = nI (cntF (fitB ((lmR R xa xb xd xq) xa)) i) from nI_add (cntF (fitB ((lmR R xa xb xd xq) xa)) i) 0) ?_
                  refine r_eqi (show ((nI (cntF (fitB ((lmR R xa xb xd xq) xa)) i)) : Int32) = nI (cntF (fitB ((lmR R xa xb xd xq) xa)) (i + 1)) from by show _ = nI (cntF (fitB ((lmR R xa xb xd xq) xa)) i + (if (fitB ((lmR R xa xb xd xq) xa)) (HL i) = true then 1 else 0)); rw [if_neg hy]; rfl) ?_
                  refine lv_istore (lv' := [(5, .int (nI (cntF (fitB ((lmR R xa xb xd xq) xa)) (i + 1)))), (0, .ref (M 0)), (1, .int (nI xa)), (2, .int (nI xb)), (3, .int (nI xd)), (4, .int (nI xq)), (6, .int (nI (HL i)))]) X.1 X.2.1 dX7_limit_123 hl (by decide) rfl (fun ls hl => ?_)
                  refine lv_iload X.1 X.2.1 dX7_limit_125 (lv_at hl 6 rfl) ?_
                  refine on_Si (run_S (As := [.int (nI (HL i))]) (rest := []) X (c_X7_nextHand l G hp_5 (HL i) hk7 hk2) (rp_blind _) (rp_at X hW.1 hW.2.2) mf_X7_nextHand tw_947 tw_948 ⟨rfl, rfl, Nat.le_of_ble_eq_true rfl, Nat.le_of_ble_eq_true rfl⟩ hl.1 rfl rfl (Nat.le_of_ble_eq_true rfl) ⟨Nat.le_of_ble_eq_true rfl, Nat.le_of_ble_eq_true rfl⟩ dX7_limit_127) (fun r_127 q_127 => ?_)
                  obtain rfl : r_127 = (nI (nhN (HL i))) := q_127
                  refine r_eqi (show nI (nhN (HL i)) = nI (HL (i + 1)) from rfl) ?_
                  refine lv_istore (lv' := [(6, .int (nI (HL (i + 1)))), (5, .int (nI (cntF (fitB ((lmR R xa xb xd xq) xa)) (i + 1)))), (0, .ref (M 0)), (1, .int (nI xa)), (2, .int (nI xb)), (3, .int (nI xd)), (4, .int (nI xq))]) X.1 X.2.1 dX7_limit_130 hl (by decide) rfl (fun ls hl => ?_)
                  refine lv_goto (tgt := 98) X.1 X.2.1 dX7_limit_132 (by decide) ?_
                  exact ih (i + 1) (by omega) ls (lv_sub hl [2, 3, 4, 5, 6, 1, 0] rfl)
                · have hy : (fitB ((lmR R xa xb xd xq) xa)) (HL i) = true := bI_1 c_114
                  refine lv_iconst (v := 1) X.1 X.2.1 dX7_limit_117 (by decide) ?_
                  refine lv_goto (tgt := 122) X.1 X.2.1 dX7_limit_118 (by decide) ?_
                  refine lv_iadd X.1 X.2.1 dX7_limit_122 ?_
                  refine r_eqi (show (((nI (cntF (fitB ((lmR R xa xb xd xq) xa)) i)) + 1) : Int32) = nI ((cntF (fitB ((lmR R xa xb xd xq) xa)) i) + 1) from nI_add (cntF (fitB ((lmR R xa xb xd xq) xa)) i) 1) ?_
                  refine r_eqi (show ((nI ((cntF (fitB ((lmR R xa xb xd xq) xa)) i) + 1)) : Int32) = nI (cntF (fitB ((lmR R xa xb xd xq) xa)) (i + 1)) from by show _ = nI (cntF (fitB ((lmR R xa xb xd xq) xa)) i + (if (fitB ((lmR R xa xb xd xq) xa)) (HL i) = true then 1 else 0)); rw [if_pos hy]) ?_
                  refine lv_istore (lv' := [(5, .int (nI (cntF (fitB ((lmR R xa xb xd xq) xa)) (i + 1)))), (0, .ref (M 0)), (1, .int (nI xa)), (2, .int (nI xb)), (3, .int (nI xd)), (4, .int (nI xq)), (6, .int (nI (HL i)))]) X.1 X.2.1 dX7_limit_123 hl (by decide) rfl (fun ls hl => ?_)
                  refine lv_iload X.1 X.2.1 dX7_limit_125 (lv_at hl 6 rfl) ?_
                  refine on_Si (run_S (As := [.int (nI (HL i))]) (rest := []) X (c_X7_nextHand l G hp_5 (HL i) hk7 hk2) (rp_blind _) (rp_at X hW.1 hW.2.2) mf_X7_nextHand tw_947 tw_948 ⟨rfl, rfl, Nat.le_of_ble_eq_true rfl, Nat.le_of_ble_eq_true rfl⟩ hl.1 rfl rfl (Nat.le_of_ble_eq_true rfl) ⟨Nat.le_of_ble_eq_true rfl, Nat.le_of_ble_eq_true rfl⟩ dX7_limit_127) (fun r_127 q_127 => ?_)
                  obtain rfl : r_127 = (nI (nhN (HL i))) := q_127
                  refine r_eqi (show nI (nhN (HL i)) = nI (HL (i + 1)) from rfl) ?_
                  refine lv_istore (lv' := [(6, .int (nI (HL (i + 1)))), (5, .int (nI (cntF (fitB ((lmR R xa xb xd xq) xa)) (i + 1)))), (0, .ref (M 0)), (1, .int (nI xa)), (2, .int (nI xb)), (3, .int (nI xd)), (4, .int (nI xq))]) X.1 X.2.1 dX7_limit_130 hl (by decide) rfl (fun ls hl => ?_)
                  refine lv_goto (tgt := 98) X.1 X.2.1 dX7_limit_132 (by decide) ?_
                  exact ih (i + 1) (by omega) ls (lv_sub hl [2, 3, 4, 5, 6, 1, 0] rfl)
            exact L98 15504 0 rfl ls (lv_sub hl [2, 3, 4, 5, 6, 1, 0] rfl)
          · refine lv_bipush (v := (-2)) X.1 X.2.1 dX7_limit_49 (by decide) ?_
            exact wr_i X hr hlk hW ⟨((if_neg c_5).trans (if_pos (Or.inr (Or.inr c_46)))).symm, _, _, _, hM, by rw [show gLimit (n, R, hd, k, cs, sk, pn, pt) (nI xa) (nI xb) d (nI xq) = (n, R, hd, k, cs, sk, pn, pt) from (if_neg c_5).trans (if_pos (Or.inr (Or.inr c_46)))]; exact hz⟩ (Nat.le_of_ble_eq_true rfl) (Nat.le_of_ble_eq_true rfl) dX7_limit_51
      · have k_24 := k_eq (a := xb) (b := 4) (by omega) (by omega) c_24
        refine lv_bipush (v := 20) X.1 X.2.1 dX7_limit_27 (by decide) ?_
        refine lv_goto (tgt := 33) X.1 X.2.1 dX7_limit_29 (by decide) ?_
        refine on_Si (run_S (As := [.int q, .int 0, .int 20]) (rest := []) X (c_X7_in l G hp q 0 20) (rp_blind _) (rp_at X hW.1 hW.2.2) mf_X7_in tw_907 tw_908 ⟨rfl, rfl, Nat.le_of_ble_eq_true rfl, Nat.le_of_ble_eq_true rfl⟩ hl.1 rfl rfl (Nat.le_of_ble_eq_true rfl) ⟨Nat.le_of_ble_eq_true rfl, Nat.le_of_ble_eq_true rfl⟩ dX7_limit_33) (fun r_33 q_33 => ?_)
        obtain rfl : r_33 = (inI q 0 20) := q_33
        refine lv_if_eq (tgt := 49) X.1 X.2.1 dX7_limit_36 (by decide) (fun c_36 => ?_) (fun c_36 => ?_)
        · refine lv_bipush (v := (-2)) X.1 X.2.1 dX7_limit_49 (by decide) ?_
          exact wr_i X hr hlk hW ⟨((if_neg c_5).trans (if_pos (Or.inr (Or.inl (by rw [tn_n (by omega)]; unfold mxI; rw [if_pos k_24]; exact c_36))))).symm, _, _, _, hM, by rw [show gLimit (n, R, hd, k, cs, sk, pn, pt) (nI xa) (nI xb) d q = (n, R, hd, k, cs, sk, pn, pt) from (if_neg c_5).trans (if_pos (Or.inr (Or.inl (by rw [tn_n (by omega)]; unfold mxI; rw [if_pos k_24]; exact c_36))))]; exact hz⟩ (Nat.le_of_ble_eq_true rfl) (Nat.le_of_ble_eq_true rfl) dX7_limit_51
        · obtain ⟨xq, hxq, rfl⟩ := inI_nat (hi := 20) c_36 (by decide)
          refine lv_iload_n X.1 X.2.1 dX7_limit_39 rfl (lv_at hl 3 rfl) ?_
          refine lv_iconst (v := 0) X.1 X.2.1 dX7_limit_40 (by decide) ?_
          refine lv_iload X.1 X.2.1 dX7_limit_41 (lv_at hl 4 rfl) ?_
          refine on_Si (run_S (As := [.int d, .int 0, .int (nI xq)]) (rest := []) X (c_X7_in l G hp d 0 (nI xq)) (rp_blind _) (rp_at X hW.1 hW.2.2) mf_X7_in tw_907 tw_908 ⟨rfl, rfl, Nat.le_of_ble_eq_true rfl, Nat.le_of_ble_eq_true rfl⟩ hl.1 rfl rfl (Nat.le_of_ble_eq_true rfl) ⟨Nat.le_of_ble_eq_true rfl, Nat.le_of_ble_eq_true rfl⟩ dX7_limit_43) (fun r_43 q_43 => ?_)
          obtain rfl : r_43 = (inI d 0 (nI xq).toInt) := q_43
          refine lv_if_ne (tgt := 52) X.1 X.2.1 dX7_limit_46 (by decide) (fun c_46 => ?_) (fun c_46 => ?_)
          · obtain ⟨xd, hxd, rfl⟩ := inI_natT (h := xq) (by omega) c_46
            refine lv_aload_n X.1 X.2.1 dX7_limit_52 rfl (lv_at hl 0 rfl) ?_
            refine r_get X hW.1 hM.1 (v := .ref (M 1)) (C := RX7) (T := TX7) (N := 19) rfl tin_X7 0 (by decide) tw_843 (fun _ h => h) rfl dX7_limit_53 ?_
            refine lv_bipush (v := 14) X.1 X.2.1 dX7_limit_56 (by decide) ?_
            refine lv_iload_n X.1 X.2.1 dX7_limit_58 rfl (lv_at hl 1 rfl) ?_
            refine lv_imul X.1 X.2.1 dX7_limit_59 ?_
            refine r_eqi (show (((14 : Int32) * (nI xa)) : Int32) = nI (14 * xa) from pk_mul 14 xa) ?_
            refine lv_iconst (v := 4) X.1 X.2.1 dX7_limit_60 (by decide) ?_
            refine lv_iadd X.1 X.2.1 dX7_limit_61 ?_
            refine r_eqi (show (((nI (14 * xa)) + 4) : Int32) = nI ((14 * xa) + 4) from nI_add (14 * xa) 4) ?_
            refine lv_iconst (v := 2) X.1 X.2.1 dX7_limit_62 (by decide) ?_
            refine lv_iload_n X.1 X.2.1 dX7_limit_63 rfl (lv_at hl 2 rfl) ?_
            refine lv_imul X.1 X.2.1 dX7_limit_64 ?_
            refine r_eqi (show (((2 : Int32) * (nI xb)) : Int32) = nI (2 * xb) from pk_mul 2 xb) ?_
            refine lv_iadd X.1 X.2.1 dX7_limit_65 ?_
            refine r_eqi (show (((nI ((14 * xa) + 4)) + (nI (2 * xb))) : Int32) = nI (((14 * xa) + 4) + (2 * xb)) from nI_add ((14 * xa) + 4) (2 * xb)) ?_
            refine lv_iload_n X.1 X.2.1 dX7_limit_66 rfl (lv_at hl 3 rfl) ?_
            refine r_iast X hW (hM.2.1 0 (by decide)) (show vp_in ((nI (((14 * xa) + 4) + (2 * xb)))) 336 from vp_in_nI (n := (((14 * xa) + 4) + (2 * xb))) (by omega) (by decide)) dX7_limit_67 (fun hp_6 H locs hW eh_7 => ?_)
            have hM := mr_ar hM 0 (by decide) eh_7
            refine lv_aload_n X.1 X.2.1 dX7_limit_68 rfl (lv_at hl 0 rfl) ?_
            refine r_get X hW.1 hM.1 (v := .ref (M 1)) (C := RX7) (T := TX7) (N := 19) rfl tin_X7 0 (by decide) tw_843 (fun _ h => h) rfl dX7_limit_69 ?_
            refine lv_bipush (v := 14) X.1 X.2.1 dX7_limit_72 (by decide) ?_
            refine lv_iload_n X.1 X.2.1 dX7_limit_74 rfl (lv_at hl 1 rfl) ?_
            refine lv_imul X.1 X.2.1 dX7_limit_75 ?_
            refine r_eqi (show (((14 : Int32) * (nI xa)) : Int32) = nI (14 * xa) from pk_mul 14 xa) ?_
            refine lv_iconst (v := 4) X.1 X.2.1 dX7_limit_76 (by decide) ?_
            refine lv_iadd X.1 X.2.1 dX7_limit_77 ?_
            refine r_eqi (show (((nI (14 * xa)) + 4) : Int32) = nI ((14 * xa) + 4) from nI_add (14 * xa) 4) ?_
            refine lv_iconst (v := 2) X.1 X.2.1 dX7_limit_78 (by decide) ?_
            refine lv_iload_n X.1 X.2.1 dX7_limit_79 rfl (lv_at hl 2 rfl) ?_
            refine lv_imul X.1 X.2.1 dX7_limit_80 ?_
            refine r_eqi (show (((2 : Int32) * (nI xb)) : Int32) = nI (2 * xb) from pk_mul 2 xb) ?_
            refine lv_iadd X.1 X.2.1 dX7_limit_81 ?_
            refine r_eqi (show (((nI ((14 * xa) + 4)) + (nI (2 * xb))) : Int32) = nI (((14 * xa) + 4) + (2 * xb)) from nI_add ((14 * xa) + 4) (2 * xb)) ?_
            refine lv_iconst (v := 1) X.1 X.2.1 dX7_limit_82 (by decide) ?_
            refine lv_iadd X.1 X.2.1 dX7_limit_83 ?_
            refine r_eqi (show (((nI (((14 * xa) + 4) + (2 * xb))) + 1) : Int32) = nI ((((14 * xa) + 4) + (2 * xb)) + 1) from nI_add (((14 * xa) + 4) + (2 * xb)) 1) ?_
            refine lv_iload X.1 X.2.1 dX7_limit_84 (lv_at hl 4 rfl) ?_
            refine r_iast X hW (hM.2.1 0 (by decide)) (show vp_in ((nI ((((14 * xa) + 4) + (2 * xb)) + 1))) 336 from vp_in_nI (n := ((((14 * xa) + 4) + (2 * xb)) + 1)) (by omega) (by decide)) dX7_limit_86 (fun hp_8 H locs hW eh_9 => ?_)
            have hM := mr_ar hM 0 (by decide) eh_9
            refine lv_aload_n X.1 X.2.1 dX7_limit_87 rfl (lv_at hl 0 rfl) ?_
            refine on_Wv (k' := 0) (n' := 0) (run_V (C := RX7) (As := []) (rest := []) X (c_X7_anew l G A hp_8 _ (fun q h => hA q (Nat.le_trans hW.2.2.1 h)) hW.2.1 M sc (va_up (va_up ar 0 (upd (ar 0) (nI (((14 * xa) + 4) + (2 * xb))).toNatClampNeg (nI xd))) 0 (upd (upd (ar 0) (nI (((14 * xa) + 4) + (2 * xb))).toNatClampNeg (nI xd)) (nI ((((14 * xa) + 4) + (2 * xb)) + 1)).toNatClampNeg (nI xq))) sm hM) (wp_blind _) (wp_at X hW.1 hW.2.2) (recv X hW.1 hM.1 (C := RX7) (T := TX7) (N := 19) rfl) mf_X7_anew tw_839 tw_841 tw_26 ⟨rfl, rfl, Nat.le_of_ble_eq_true rfl, Nat.le_of_ble_eq_true rfl⟩ hl.1 rfl rfl (Nat.le_of_ble_eq_true rfl) ⟨Nat.le_of_ble_eq_true rfl, Nat.le_of_ble_eq_true rfl⟩ dX7_limit_88) hW (by omega) (by omega) (fun hp_10 H locs q_88 hW => ?_)
            have hM := q_88
            have hz3 : MST (gAnew (n, (lmR R xa xb xd xq), hd, k, cs, sk, pn, pt)) (anS sc) (anR (va_up (va_up ar 0 (upd (ar 0) (nI (((14 * xa) + 4) + (2 * xb))).toNatClampNeg (nI xd))) 0 (upd (upd (ar 0) (nI (((14 * xa) + 4) + (2 * xb))).toNatClampNeg (nI xd)) (nI ((((14 * xa) + 4) + (2 * xb)) + 1)).toNatClampNeg (nI xq)))) := MST.anew (z := (n, (lmR R xa xb xd xq), hd, k, cs, sk, pn, pt)) ⟨hT, mu_lim hU hxa (by omega) (by omega) (by omega), hH2, hau, hP⟩
            refine lv_iconst (v := 0) X.1 X.2.1 dX7_limit_91 (by decide) ?_
            refine lv_istore (lv' := [(5, .int 0), (0, .ref (M 0)), (1, .int (nI xa)), (2, .int (nI xb)), (3, .int (nI xd)), (4, .int (nI xq))]) X.1 X.2.1 dX7_limit_92 hl (by decide) rfl (fun ls hl => ?_)
            refine lv_bipush (v := 31) X.1 X.2.1 dX7_limit_94 (by decide) ?_
            refine lv_istore (lv' := [(6, .int 31), (5, .int 0), (0, .ref (M 0)), (1, .int (nI xa)), (2, .int (nI xb)), (3, .int (nI xd)), (4, .int (nI xq))]) X.1 X.2.1 dX7_limit_96 hl (by decide) rfl (fun ls hl => ?_)
            have L98 : ∀ (f : Nat) (i : Nat), i + f = 15504 → ∀ ls, lv_has ls 7 [(0, .ref (M 0)), (1, .int (nI xa)), (2, .int (nI xb)), (3, .int (nI xd)), (4, .int (nI xq)), (5, .int (nI (cntF (fitB ((lmR R xa xb xd xq) xa)) i))), (6, .int (nI (HL i)))] → W p l e ({ frames := 2, cells := 0, slots := 0, locals := 47 } : Room) s m args below meth c H locs 0 0 (MQ below (va_Qi (fun r hp1 => r = fLimit (n, R, hd, k, cs, sk, pn, pt) (nI xa) (nI xb) (nI xd) (nI xq) ∧ ∃ sc1 ar1 sm1, MR G hp1 M sc1 ar1 sm1 ∧ MST (gLimit (n, R, hd, k, cs, sk, pn, pt) (nI xa) (nI xb) (nI xd) (nI xq)) sc1 ar1) (WB G A) A) args s 0 0 A) (F0 m 98 ls []) := by
              intro f
              induction f with
              | zero =>
                intro i h0 ls hl
                refine lv_iload X.1 X.2.1 dX7_limit_98 (lv_at hl 6 rfl) ?_
                refine r_const X tw_934 dX7_limit_100 ?_
                refine lv_icmp_gt (tgt := 135) X.1 X.2.1 dX7_limit_102 (by decide) (fun c_102 => ?_) (fun c_102 => absurd (hl_out (i := i) (by omega)) c_102)
                refine lv_iload X.1 X.2.1 dX7_limit_135 (lv_at hl 5 rfl) ?_
                exact wr_i X hr hlk hW ⟨(by rw [show fLimit (n, R, hd, k, cs, sk, pn, pt) (nI xa) (nI xb) (nI xd) (nI xq) = _ from (if_neg c_5).trans (if_neg (fun z9 => Or.elim z9 c_16 (fun z9 => Or.elim z9 (fun z9 => c_36 (by rw [tn_n (by omega)] at z9; unfold mxI at z9; rw [if_pos k_24] at z9; exact z9)) c_46))), tn_n (by omega), tn_n (by omega), tn_n (by omega), tn_n (by omega), show (15504 : Nat) = i by omega]), _, _, _, hM, by rw [show gLimit (n, R, hd, k, cs, sk, pn, pt) (nI xa) (nI xb) (nI xd) (nI xq) = _ from (if_neg c_5).trans (if_neg (fun z9 => Or.elim z9 c_16 (fun z9 => Or.elim z9 (fun z9 => c_36 (by rw [tn_n (by omega)] at z9; unfold mxI at z9; rw [if_pos k_24] at z9; exact z9)) c_46))), tn_n (by omega), tn_n (by omega), tn_n (by omega), tn_n (by omega)]; exact hz3⟩ (Nat.le_of_ble_eq_true rfl) (Nat.le_of_ble_eq_true rfl) dX7_limit_137
              | succ f ih =>
                intro i h0 ls hl
                have hlt : i < 15504 := by omega
                obtain ⟨hk1, hk2, hk3, hk4, hk5, hk6, hk7⟩ := HL_ok hlt
                have hcl := cntF_le (fitB ((lmR R xa xb xd xq) xa)) i
                refine lv_iload X.1 X.2.1 dX7_limit_98 (lv_at hl 6 rfl) ?_
                refine r_const X tw_934 dX7_limit_100 ?_
                refine lv_icmp_gt (tgt := 135) X.1 X.2.1 dX7_limit_102 (by decide) (fun c_102 => absurd c_102 (hl_inn (i := i) (by omega))) (fun c_102 => ?_)
                refine lv_iload X.1 X.2.1 dX7_limit_105 (lv_at hl 5 rfl) ?_
                refine lv_aload_n X.1 X.2.1 dX7_limit_107 rfl (lv_at hl 0 rfl) ?_
                refine lv_iload X.1 X.2.1 dX7_limit_108 (lv_at hl 6 rfl) ?_
                refine lv_iload_n X.1 X.2.1 dX7_limit_110 rfl (lv_at hl 1 rfl) ?_
                refine on_Si (run_V (C := RX7) (As := [.int (nI (HL i)), .int (nI xa)]) (rest := [.int (nI (cntF (fitB ((lmR R xa xb xd xq) xa)) i))]) X (c_X7_fitsRule l G hp_10 M (anS sc) (anR (va_up (va_up ar 0 (upd (ar 0) (nI (((14 * xa) + 4) + (2 * xb))).toNatClampNeg (nI xd))) 0 (upd (upd (ar 0) (nI (((14 * xa) + 4) + (2 * xb))).toNatClampNeg (nI xd)) (nI ((((14 * xa) + 4) + (2 * xb)) + 1)).toNatClampNeg (nI xq)))) sm hM hT n (lmR R xa xb xd xq) hz3.2.1 (HL i) (by omega) xa hxa) (rp_blind _) (rp_at X hW.1 hW.2.2) (recv X hW.1 hM.1 (C := RX7) (T := TX7) (N := 19) rfl) mf_X7_fitsRule tw_935 tw_937 tw_32 ⟨rfl, rfl, Nat.le_of_ble_eq_true rfl, Nat.le_of_ble_eq_true rfl⟩ hl.1 rfl rfl (Nat.le_of_ble_eq_true rfl) ⟨Nat.le_of_ble_eq_true rfl, Nat.le_of_ble_eq_true rfl⟩ dX7_limit_111) (fun r_111 q_111 => ?_)
                obtain rfl : r_111 = (bI (fitB ((lmR R xa xb xd xq) xa) (HL i))) := q_111
                refine lv_if_eq (tgt := 121) X.1 X.2.1 dX7_limit_114 (by decide) (fun c_114 => ?_) (fun c_114 => ?_)
                · have hy : ¬ (fitB ((lmR R xa xb xd xq) xa)) (HL i) = true := fun q9 => Bool.false_ne_true ((bI_0 c_114).symm.trans q9)
                  refine lv_iconst (v := 0) X.1 X.2.1 dX7_limit_121 (by decide) ?_
                  refine lv_iadd X.1 X.2.1 dX7_limit_122 ?_
                  refine r_eqi (show (((nI (cntF (fitB ((lmR R xa xb xd xq) xa)) i)) + 0) : Int32) = nI (cntF (fitB ((lmR R xa xb xd xq) xa)) i) from nI_add (cntF (fitB ((lmR R xa xb xd xq) xa)) i) 0) ?_
                  refine r_eqi (show ((nI (cntF (fitB ((lmR R xa xb xd xq) xa)) i)) : Int32) = nI (cntF (fitB ((lmR R xa xb xd xq) xa)) (i + 1)) from by show _ = nI (cntF (fitB ((lmR R xa xb xd xq) xa)) i + (if (fitB ((lmR R xa xb xd xq) xa)) (HL i) = true then 1 else 0)); rw [if_neg hy]; rfl) ?_
                  refine lv_istore (lv' := [(5, .int (nI (cntF (fitB ((lmR R xa xb xd xq) xa)) (i + 1)))), (0, .ref (M 0)), (1, .int (nI xa)), (2, .int (nI xb)), (3, .int (nI xd)), (4, .int (nI xq)), (6, .int (nI (HL i)))]) X.1 X.2.1 dX7_limit_123 hl (by decide) rfl (fun ls hl => ?_)
                  refine lv_iload X.1 X.2.1 dX7_limit_125 (lv_at hl 6 rfl) ?_
                  refine on_Si (run_S (As := [.int (nI (HL i))]) (rest := []) X (c_X7_nextHand l G hp_10 (HL i) hk7 hk2) (rp_blind _) (rp_at X hW.1 hW.2.2) mf_X7_nextHand tw_947 tw_948 ⟨rfl, rfl, Nat.le_of_ble_eq_true rfl, Nat.le_of_ble_eq_true rfl⟩ hl.1 rfl rfl (Nat.le_of_ble_eq_true rfl) ⟨Nat.le_of_ble_eq_true rfl, Nat.le_of_ble_eq_true rfl⟩ dX7_limit_127) (fun r_127 q_127 => ?_)
                  obtain rfl : r_127 = (nI (nhN (HL i))) := q_127
                  refine r_eqi (show nI (nhN (HL i)) = nI (HL (i + 1)) from rfl) ?_
                  refine lv_istore (lv' := [(6, .int (nI (HL (i + 1)))), (5, .int (nI (cntF (fitB ((lmR R xa xb xd xq) xa)) (i + 1)))), (0, .ref (M 0)), (1, .int (nI xa)), (2, .int (nI xb)), (3, .int (nI xd)), (4, .int (nI xq))]) X.1 X.2.1 dX7_limit_130 hl (by decide) rfl (fun ls hl => ?_)
                  refine lv_goto (tgt := 98) X.1 X.2.1 dX7_limit_132 (by decide) ?_
                  exact ih (i + 1) (by omega) ls (lv_sub hl [2, 3, 4, 5, 6, 1, 0] rfl)
                · have hy : (fitB ((lmR R xa xb xd xq) xa)) (HL i) = true := bI_1 c_114
                  refine lv_iconst (v := 1) X.1 X.2.1 dX7_limit_117 (by decide) ?_
                  refine lv_goto (tgt := 122) X.1 X.2.1 dX7_limit_118 (by decide) ?_
                  refine lv_iadd X.1 X.2.1 dX7_limit_122 ?_
                  refine r_eqi (show (((nI (cntF (fitB ((lmR R xa xb xd xq) xa)) i)) + 1) : Int32) = nI ((cntF (fitB ((lmR R xa xb xd xq) xa)) i) + 1) from nI_add (cntF (fitB ((lmR R xa xb xd xq) xa)) i) 1) ?_
                  refine r_eqi (show ((nI ((cntF (fitB ((lmR R xa xb xd xq) xa)) i) + 1)) : Int32) = nI (cntF (fitB ((lmR R xa xb xd xq) xa)) (i + 1)) from by show _ = nI (cntF (fitB ((lmR R xa xb xd xq) xa)) i + (if (fitB ((lmR R xa xb xd xq) xa)) (HL i) = true then 1 else 0)); rw [if_pos hy]) ?_
                  refine lv_istore (lv' := [(5, .int (nI (cntF (fitB ((lmR R xa xb xd xq) xa)) (i + 1)))), (0, .ref (M 0)), (1, .int (nI xa)), (2, .int (nI xb)), (3, .int (nI xd)), (4, .int (nI xq)), (6, .int (nI (HL i)))]) X.1 X.2.1 dX7_limit_123 hl (by decide) rfl (fun ls hl => ?_)
                  refine lv_iload X.1 X.2.1 dX7_limit_125 (lv_at hl 6 rfl) ?_
                  refine on_Si (run_S (As := [.int (nI (HL i))]) (rest := []) X (c_X7_nextHand l G hp_10 (HL i) hk7 hk2) (rp_blind _) (rp_at X hW.1 hW.2.2) mf_X7_nextHand tw_947 tw_948 ⟨rfl, rfl, Nat.le_of_ble_eq_true rfl, Nat.le_of_ble_eq_true rfl⟩ hl.1 rfl rfl (Nat.le_of_ble_eq_true rfl) ⟨Nat.le_of_ble_eq_true rfl, Nat.le_of_ble_eq_true rfl⟩ dX7_limit_127) (fun r_127 q_127 => ?_)
                  obtain rfl : r_127 = (nI (nhN (HL i))) := q_127
                  refine r_eqi (show nI (nhN (HL i)) = nI (HL (i + 1)) from rfl) ?_
                  refine lv_istore (lv' := [(6, .int (nI (HL (i + 1)))), (5, .int (nI (cntF (fitB ((lmR R xa xb xd xq) xa)) (i + 1)))), (0, .ref (M 0)), (1, .int (nI xa)), (2, .int (nI xb)), (3, .int (nI xd)), (4, .int (nI xq))]) X.1 X.2.1 dX7_limit_130 hl (by decide) rfl (fun ls hl => ?_)
                  refine lv_goto (tgt := 98) X.1 X.2.1 dX7_limit_132 (by decide) ?_
                  exact ih (i + 1) (by omega) ls (lv_sub hl [2, 3, 4, 5, 6, 1, 0] rfl)
            exact L98 15504 0 rfl ls (lv_sub hl [2, 3, 4, 5, 6, 1, 0] rfl)
          · refine lv_bipush (v := (-2)) X.1 X.2.1 dX7_limit_49 (by decide) ?_
            exact wr_i X hr hlk hW ⟨((if_neg c_5).trans (if_pos (Or.inr (Or.inr c_46)))).symm, _, _, _, hM, by rw [show gLimit (n, R, hd, k, cs, sk, pn, pt) (nI xa) (nI xb) d (nI xq) = (n, R, hd, k, cs, sk, pn, pt) from (if_neg c_5).trans (if_pos (Or.inr (Or.inr c_46)))]; exact hz⟩ (Nat.le_of_ble_eq_true rfl) (Nat.le_of_ble_eq_true rfl) dX7_limit_51
  · refine lv_iconst (v := (-1)) X.1 X.2.1 dX7_limit_8 (by decide) ?_
    exact wr_i X hr hlk hW ⟨(if_pos c_5).symm, _, _, _, hM, by rw [show gLimit (n, R, hd, k, cs, sk, pn, pt) a b d q = (n, R, hd, k, cs, sk, pn, pt) from if_pos c_5]; exact hz⟩ (Nat.le_of_ble_eq_true rfl) (Nat.le_of_ble_eq_true rfl) dX7_limit_9

def gPad (z : ST) (pn : Nat) (pt : Nat → Nat) : ST := (z.1, z.2.1, z.2.2.1, z.2.2.2.1, z.2.2.2.2.1, z.2.2.2.2.2.1, pn, pt)
theorem mp_0 {pn : Nat} {pt : Nat → Nat} {sc : Nat → Int32} {ar : Nat → Nat → Int32} : MP 0 pt (va_up sc 3 0) ar := ⟨rfl, by decide, fun i h => absurd h (Nat.not_lt_zero i), fun i h => absurd h (Nat.not_lt_zero i)⟩
set_option maxHeartbeats 4000000 in
set_option maxRecDepth 100000 in
theorem c_X7_wipe (l : Launch) (G : HG) (A : Nat → Prop) (hp : HP) (sz : Nat) (hA : ∀ q, sz ≤ q → A q) (hO : Ow A hp) (M : Nat → Nat) (sc : Nat → Int32) (ar : Nat → Nat → Int32) (sm : Nat → Int64) (hM : MR G hp M sc ar sm) (n : Nat) (R : Nat → Nat → Nat) (hd : Nat → Nat) (k : Nat) (cs : Nat → Nat → Int32) (sk : Bool) (pn : Nat) (pt : Nat → Nat) (hz : MST (n, R, hd, k, cs, sk, pn, pt) sc ar) : Met l yX7_wipe [.code yX7_wipe cX7_wipe 2 (some .int)] { frames := 0, cells := 0, slots := 0, locals := 0 } (va_Pc [.ref (M 0)] (WP G A sz hp)) (va_Qi (fun r hp1 => r = nI pn ∧ ∃ sc1 ar1 sm1, MR G hp1 M sc1 ar1 sm1 ∧ MST (gPad (n, R, hd, k, cs, sk, pn, pt) 0 pt) sc1 ar1) (WB G A) A) 0 0 A := by
  refine wr_ofW (by decide) (Nat.le_of_ble_eq_true rfl) hO ?_
  intro p e s m args below meth c ls X hr hlk hnm hsz hW hl
  have hA : ∀ q, s.heap.size ≤ q → A q := fun q h => hA q (by omega)
  have hl : lv_has ls 2 [(0, .ref (M 0))] := hl
  have hT : MT ar := hz.1
  have hU : MU n R sc ar := hz.2.1
  have hH2 : MH hd ar := hz.2.2.1
  have hau : MAu k cs sk sc ar := hz.2.2.2.1
  have hP : MP pn pt sc ar := hz.2.2.2.2
  have hn := hU.2.1
  have hk := hau.2.1
  refine lv_aload_n X.1 X.2.1 dX7_wipe_0 rfl (lv_at hl 0 rfl) ?_
  refine r_get X hW.1 hM.1 (v := .int (sc 3)) (C := RX7) (T := TX7) (N := 19) rfl tin_X7 13 (by decide) tw_856 (fun _ h => h) rfl dX7_wipe_1 ?_
  refine r_eqi (show ((sc 3) : Int32) = nI pn from hP.1) ?_
  refine lv_istore_n (lv' := [(1, .int (nI pn)), (0, .ref (M 0))]) X.1 X.2.1 dX7_wipe_4 rfl hl (by decide) rfl (fun ls hl => ?_)
  refine lv_aload_n X.1 X.2.1 dX7_wipe_5 rfl (lv_at hl 1 rfl) ?_
  refine lv_iconst (v := 0) X.1 X.2.1 dX7_wipe_6 (by decide) ?_
  refine r_put X hW hM.1 (v := .int 0) (C := RX7) (T := TX7) (N := 19) rfl tin_X7 tyX7_ok nmX7 13 (Nat.le_of_ble_eq_true rfl) tw_856 (fun _ h => h) rfl rfl rfl (Nat.le_of_ble_eq_true rfl) dX7_wipe_7 (fun hp_1 H locs hW eh_2 => ?_)
  have hM := mr_sc3 hM eh_2
  refine lv_iload_n X.1 X.2.1 dX7_wipe_10 rfl (lv_at hl 0 rfl) ?_
  exact wr_i X hr hlk hW ⟨rfl, _, _, _, hM, hT, hU, hH2, hau, mp_0 (pn := pn)⟩ (Nat.le_of_ble_eq_true rfl) (Nat.le_of_ble_eq_true rfl) dX7_wipe_11

