/-! the law's rules and calls as rows of ints: fits, ruleOf, agrees -/
def lgP (q : Nat → Nat) : Nat → Nat
  | 0 => 0
  | w + 1 => lgP q w + (q (4 + 2 * w) + 8 * q (5 + 2 * w)) * 64 ^ w
/-- lengths and strengths of a rule, as the law packs them -/
def lgN (q : Nat → Nat) : Nat := lgP q 4
def sgN (q : Nat → Nat) : Nat := q 12 + 32 * q 13
def QB (q : Nat → Nat) : Prop := (∀ j, 4 ≤ j → j < 12 → q j ≤ 5) ∧ q 12 ≤ 20 ∧ q 13 ≤ 20 ∧ q 0 ≤ 7 ∧ q 1 ≤ 25 ∧ q 2 ≤ 7 ∧ q 3 ≤ 1
def RG (n : Nat) (R : Nat → Nat → Nat) (g : Nat → Int32) : Prop := n ≤ 8 ∧ ∀ k, k < n → QB (R k) ∧ g k = nI (R k 0) ∧ g (8 + k) = nI (R k 1) ∧ g (16 + k) = nI (lgN (R k)) ∧ g (24 + k) = nI (sgN (R k)) ∧ g (32 + k) = nI (R k 2) ∧ g (40 + k) = nI (R k 3)
/-- the calls, as the law keeps them -/
def CG (k : Nat) (cs : Nat → Nat → Int32) (sk : Bool) (c : Nat → Int32) : Prop := k ≤ 12 ∧ (∀ i, i < k → c (4 * i) = cs i 2 ∧ c (4 * i + 1) = cs i 4 ∧ c (4 * i + 2) = cs i 3 ∧ c (4 * i + 3) = cs i 1) ∧ (sk = true → c (4 * k) = cs k 2 ∧ c (4 * k + 1) = cs k 4 ∧ c (4 * k + 2) = cs k 3)
theorem n_and7 (a : Nat) : nI a &&& 7 = nI (a % 8) := by
  show nI a &&& nI 7 = _
  rw [n_and, show (7 : Nat) = 2 ^ 3 - 1 from rfl, Nat.and_two_pow_sub_one_eq_mod]
theorem lgN_eq (q : Nat → Nat) : lgN q = q 4 + 8 * q 5 + 64 * (q 6 + 8 * q 7) + 4096 * (q 8 + 8 * q 9) + 262144 * (q 10 + 8 * q 11) := by
  show (((0 + (q 4 + 8 * q 5) * 64 ^ 0) + (q 6 + 8 * q 7) * 64 ^ 1) + (q 8 + 8 * q 9) * 64 ^ 2) + (q 10 + 8 * q 11) * 64 ^ 3 = _
  omega
theorem fitB_iff (q : Nat → Nat) (h : Nat) : fitB q h = true ↔ (q 12 ≤ strH h ∧ strH h ≤ q 13) ∧ (q 4 ≤ lenH h 0 ∧ lenH h 0 ≤ q 5) ∧ (q 6 ≤ lenH h 1 ∧ lenH h 1 ≤ q 7) ∧ (q 8 ≤ lenH h 2 ∧ lenH h 2 ≤ q 9) ∧ (q 10 ≤ lenH h 3 ∧ lenH h 3 ≤ q 11) := by
  unfold fitB
  rw [Bool.and_eq_true, Bool.and_eq_true, Bool.and_eq_true, Bool.and_eq_true, decide_eq_true_iff, decide_eq_true_iff, decide_eq_true_iff, decide_eq_true_iff, decide_eq_true_iff]
theorem fit_no {q : Nat → Nat} {h : Nat} (n : ¬ ((q 12 ≤ strH h ∧ strH h ≤ q 13) ∧ (q 4 ≤ lenH h 0 ∧ lenH h 0 ≤ q 5) ∧ (q 6 ≤ lenH h 1 ∧ lenH h 1 ≤ q 7) ∧ (q 8 ≤ lenH h 2 ∧ lenH h 2 ≤ q 9) ∧ (q 10 ≤ lenH h 3 ∧ lenH h 3 ≤ q 11))) : 0 = bI (fitB q h) := by
  cases e : fitB q h with
  | false => rfl
  | true => exact absurd ((fitB_iff q h).mp e) n
theorem fit_ye {q : Nat → Nat} {h : Nat} (n : (q 12 ≤ strH h ∧ strH h ≤ q 13) ∧ (q 4 ≤ lenH h 0 ∧ lenH h 0 ≤ q 5) ∧ (q 6 ≤ lenH h 1 ∧ lenH h 1 ≤ q 7) ∧ (q 8 ≤ lenH h 2 ∧ lenH h 2 ≤ q 9) ∧ (q 10 ≤ lenH h 3 ∧ lenH h 3 ≤ q 11)) : 1 = bI (fitB q h) := by
  rw [(fitB_iff q h).mpr n]; rfl
theorem sp_lt (h : Nat) : spN h < 2 ^ 18 := by
  have q0 := lenH_le h 0; have q1 := lenH_le h 1; have q2 := lenH_le h 2; have q3 := lenH_le h 3; have q4 := strH_le h
  unfold spN
  omega
theorem sp_len (h s : Nat) (hs : s < 4) : spN h / 2 ^ (3 * s) % 8 = lenH h s := by
  have q0 := lenH_le h 0; have q1 := lenH_le h 1; have q2 := lenH_le h 2; have q3 := lenH_le h 3; have q4 := strH_le h
  unfold spN
  rcases (show s = 0 ∨ s = 1 ∨ s = 2 ∨ s = 3 by omega) with rfl | rfl | rfl | rfl
  · show _ / 1 % 8 = _; omega
  · show _ / 8 % 8 = _; omega
  · show _ / 64 % 8 = _; omega
  · show _ / 512 % 8 = _; omega
theorem sp_str (h : Nat) : spN h / 4096 = strH h := by
  have q0 := lenH_le h 0; have q1 := lenH_le h 1; have q2 := lenH_le h 2; have q3 := lenH_le h 3
  unfold spN
  omega
theorem lg_lo {q : Nat → Nat} (b : QB q) (s : Nat) (hs : s < 4) : lgN q / 2 ^ (6 * s) % 8 = q (4 + 2 * s) := by
  have h4 := b.1 4 (by omega) (by omega); have h5 := b.1 5 (by omega) (by omega); have h6 := b.1 6 (by omega) (by omega); have h7 := b.1 7 (by omega) (by omega)
  have h8 := b.1 8 (by omega) (by omega); have h9 := b.1 9 (by omega) (by omega); have ha := b.1 10 (by omega) (by omega); have hb := b.1 11 (by omega) (by omega)
  rw [lgN_eq]
  rcases (show s = 0 ∨ s = 1 ∨ s = 2 ∨ s = 3 by omega) with rfl | rfl | rfl | rfl
  · show _ / 1 % 8 = q 4; omega
  · show _ / 64 % 8 = q 6; omega
  · show _ / 4096 % 8 = q 8; omega
  · show _ / 262144 % 8 = q 10; omega
theorem lg_hi {q : Nat → Nat} (b : QB q) (s : Nat) (hs : s < 4) : lgN q / 2 ^ (6 * s + 3) % 8 = q (5 + 2 * s) := by
  have h4 := b.1 4 (by omega) (by omega); have h5 := b.1 5 (by omega) (by omega); have h6 := b.1 6 (by omega) (by omega); have h7 := b.1 7 (by omega) (by omega)
  have h8 := b.1 8 (by omega) (by omega); have h9 := b.1 9 (by omega) (by omega); have ha := b.1 10 (by omega) (by omega); have hb := b.1 11 (by omega) (by omega)
  rw [lgN_eq]
  rcases (show s = 0 ∨ s = 1 ∨ s = 2 ∨ s = 3 by omega) with rfl | rfl | rfl | rfl
  · show _ / 8 % 8 = q 5; omega
  · show _ / 512 % 8 = q 7; omega
  · show _ / 32768 % 8 = q 9; omega
  · show _ / 2097152 % 8 = q 11; omega
theorem lg_lt {q : Nat → Nat} (b : QB q) : lgN q < 2 ^ 25 := by
  have h4 := b.1 4 (by omega) (by omega); have h5 := b.1 5 (by omega) (by omega); have h6 := b.1 6 (by omega) (by omega); have h7 := b.1 7 (by omega) (by omega)
  have h8 := b.1 8 (by omega) (by omega); have h9 := b.1 9 (by omega) (by omega); have ha := b.1 10 (by omega) (by omega); have hb := b.1 11 (by omega) (by omega)
  rw [lgN_eq]
  omega
theorem shr7 {x : Nat} (hx : x < 2 ^ 31) {i : Nat} (hi : i < 32) : (nI x >>> (nI i &&& 31)) &&& 7 = nI (x / 2 ^ i % 8) := by rw [shr_l hx hi, n_and7]
theorem lt_step {Pw : Nat → Prop} {sw : Nat} (h1 : ∀ w, w < sw → Pw w) (a : Pw sw) : ∀ w, w < sw + 1 → Pw w := fun w hw => by
  rcases (show w < sw ∨ w = sw by omega) with q | q
  · exact h1 w q
  · rw [q]; exact a
theorem fit_s {q : Nat → Nat} {h s : Nat} (hs : s < 4) (n : ¬ (q (4 + 2 * s) ≤ lenH h s ∧ lenH h s ≤ q (5 + 2 * s))) : 0 = bI (fitB q h) := by
  refine fit_no (fun e => n ?_)
  rcases (show s = 0 ∨ s = 1 ∨ s = 2 ∨ s = 3 by omega) with rfl | rfl | rfl | rfl
  · exact e.2.1
  · exact e.2.2.1
  · exact e.2.2.2.1
  · exact e.2.2.2.2
set_option maxHeartbeats 4000000 in
set_option maxRecDepth 100000 in
theorem c_L_fits (l : Launch) (G : HG) (hp : HP) (ra h : Nat) (n : Nat) (R : Nat → Nat → Nat) (g : Nat → Int32) (hra : hp ra = some (.inl (G.2.1 1, 48, .inl g))) (hg : RG n R g) (k9 : Nat) (hk9 : k9 < n) : Met l yL_fits [.code yL_fits cL_fits 5 (some .boolean)] { frames := 0, cells := 0, slots := 0, locals := 0 } (va_Pc [.int (nI (spN h)), .ref ra, .int (nI k9)] (RP G hp)) (vp_Si (fun r => r = bI (fitB (R k9) h))) 0 0 (fun _ => False) := by
  refine ro_ofW (by decide) (Nat.le_of_ble_eq_true rfl) ?_
  intro p e s m args below meth c ls X hr hlk hH hl
  have hS : va_S (fun _ => False) s.heap s.heap [] := va_S.rf
  have hl : lv_has ls 5 [(0, .int (nI (spN h))), (1, .ref ra), (2, .int (nI k9))] := hl
  have hn8 := hg.1
  have hq := (hg.2 k9 hk9).1
  have hsp := sp_lt h
  have hlg := lg_lt hq
  have hb1 := hq.2.1
  have hb2 := hq.2.2.1
  have hl4 := strH_le h
  have hL : ∀ s, lenH h s ≤ 5 := lenH_le h
  refine lv_iconst (v := 0) X.1 X.2.1 dL_fits_0 (by decide) ?_
  refine lv_istore_n (lv' := [(3, .int 0), (0, .int (nI (spN h))), (1, .ref ra), (2, .int (nI k9))]) X.1 X.2.1 dL_fits_1 rfl hl (by decide) rfl (fun ls hl => ?_)
  have L2 : ∀ (f : Nat) (s9 : Nat), s9 + f = 4 → (∀ w, w < s9 → R k9 (4 + 2 * w) ≤ lenH h w ∧ lenH h w ≤ R k9 (5 + 2 * w)) → ∀ ls, lv_has ls 5 [(0, .int (nI (spN h))), (1, .ref ra), (2, .int (nI k9)), (3, .int (nI s9))] → W p l e ({ frames := 0, cells := 0, slots := 0, locals := 0 } : Room) s m args below meth c s.heap [] 0 0 (MQ below (vp_Si (fun r => r = bI (fitB (R k9) h))) args s 0 0 (fun _ => False)) (F0 m 2 ls []) := by
    intro f
    induction f with
    | zero =>
      intro s9 h0 h1 ls hl
      have e4 : s9 = 4 := by omega
      have w0 := h1 0 (by omega); have w1 := h1 1 (by omega); have w2 := h1 2 (by omega); have w3 := h1 3 (by omega)
      refine lv_iload_n X.1 X.2.1 dL_fits_2 rfl (lv_at hl 3 rfl) ?_
      refine lv_iconst (v := 4) X.1 X.2.1 dL_fits_3 (by decide) ?_
      refine lv_icmp_ge (tgt := 65) X.1 X.2.1 dL_fits_4 (by decide) (fun c_4 => ?_) (fun c_4 => absurd (nI_le (a := 4) (b := s9) (by omega) (by omega)) c_4)
      refine lv_iload_n X.1 X.2.1 dL_fits_65 rfl (lv_at hl 0 rfl) ?_
      refine lv_bipush (v := 12) X.1 X.2.1 dL_fits_66 (by decide) ?_
      refine lv_ishr X.1 X.2.1 dL_fits_68 ?_
      refine r_eqi (show (((nI (spN h)) >>> (12 &&& 31)) : Int32) = nI ((spN h) / 4096) from pk_shrN (n := (spN h)) (by omega) _ 12 (by decide)) ?_
      refine r_eqi (show ((nI ((spN h) / 4096)) : Int32) = nI (strH h) from by rw [sp_str]) ?_
      refine lv_aload_n X.1 X.2.1 dL_fits_69 rfl (lv_at hl 1 rfl) ?_
      refine lv_bipush (v := 24) X.1 X.2.1 dL_fits_70 (by decide) ?_
      refine lv_iload_n X.1 X.2.1 dL_fits_72 rfl (lv_at hl 2 rfl) ?_
      refine lv_iadd X.1 X.2.1 dL_fits_73 ?_
      refine r_eqi (show (((24 : Int32) + (nI k9)) : Int32) = nI (24 + k9) from nI_add 24 k9) ?_
      refine r_iald X hH hra (show vp_in ((nI (24 + k9))) 48 from vp_in_nI (n := (24 + k9)) (by omega) (by decide)) dL_fits_74 ?_
      refine r_eqi (show ((g (nI (24 + k9)).toNatClampNeg) : Int32) = nI (sgN (R k9)) from by rw [nI_clamp (by omega)]; exact (hg.2 k9 hk9).2.2.2.2.1) ?_
      refine lv_bipush (v := 31) X.1 X.2.1 dL_fits_75 (by decide) ?_
      refine lv_iand X.1 X.2.1 dL_fits_77 ?_
      refine r_eqi (show (((nI (sgN (R k9))) &&& 31) : Int32) = nI ((sgN (R k9)) % 32) from n_and31 (sgN (R k9))) ?_
      refine r_eqi (show ((nI ((sgN (R k9)) % 32)) : Int32) = nI (R k9 12) from by rw [show sgN (R k9) % 32 = R k9 12 by unfold sgN; omega]) ?_
      refine lv_icmp_lt (tgt := 103) X.1 X.2.1 dL_fits_78 (by decide) (fun c_78 => ?_) (fun c_78 => ?_)
      · have k_78 := k_lt (a := (strH h)) (b := (R k9 12)) (by omega) (by omega) c_78
        refine lv_iconst (v := 0) X.1 X.2.1 dL_fits_103 (by decide) ?_
        exact ro_z X hr hlk rfl (fit_no (fun e => absurd e.1.1 (Nat.not_le.mpr k_78))) dL_fits_104
      · have k_78 := k_nlt (a := (strH h)) (b := (R k9 12)) (by omega) (by omega) c_78
        refine lv_iload_n X.1 X.2.1 dL_fits_81 rfl (lv_at hl 0 rfl) ?_
        refine lv_bipush (v := 12) X.1 X.2.1 dL_fits_82 (by decide) ?_
        refine lv_ishr X.1 X.2.1 dL_fits_84 ?_
        refine r_eqi (show (((nI (spN h)) >>> (12 &&& 31)) : Int32) = nI ((spN h) / 4096) from pk_shrN (n := (spN h)) (by omega) _ 12 (by decide)) ?_
        refine r_eqi (show ((nI ((spN h) / 4096)) : Int32) = nI (strH h) from by rw [sp_str]) ?_
        refine lv_aload_n X.1 X.2.1 dL_fits_85 rfl (lv_at hl 1 rfl) ?_
        refine lv_bipush (v := 24) X.1 X.2.1 dL_fits_86 (by decide) ?_
        refine lv_iload_n X.1 X.2.1 dL_fits_88 rfl (lv_at hl 2 rfl) ?_
        refine lv_iadd X.1 X.2.1 dL_fits_89 ?_
        refine r_eqi (show (((24 : Int32) + (nI k9)) : Int32) = nI (24 + k9) from nI_add 24 k9) ?_
        refine r_iald X hH hra (show vp_in ((nI (24 + k9))) 48 from vp_in_nI (n := (24 + k9)) (by omega) (by decide)) dL_fits_90 ?_
        refine r_eqi (show ((g (nI (24 + k9)).toNatClampNeg) : Int32) = nI (sgN (R k9)) from by rw [nI_clamp (by omega)]; exact (hg.2 k9 hk9).2.2.2.2.1) ?_
        refine lv_iconst (v := 5) X.1 X.2.1 dL_fits_91 (by decide) ?_
        refine lv_ishr X.1 X.2.1 dL_fits_92 ?_
        refine r_eqi (show (((nI (sgN (R k9))) >>> (5 &&& 31)) : Int32) = nI ((sgN (R k9)) / 32) from pk_shrN (n := (sgN (R k9))) (by unfold sgN; omega) _ 5 (by decide)) ?_
        refine lv_bipush (v := 31) X.1 X.2.1 dL_fits_93 (by decide) ?_
        refine lv_iand X.1 X.2.1 dL_fits_95 ?_
        refine r_eqi (show (((nI ((sgN (R k9)) / 32)) &&& 31) : Int32) = nI (((sgN (R k9)) / 32) % 32) from n_and31 ((sgN (R k9)) / 32)) ?_
        refine r_eqi (show ((nI (((sgN (R k9)) / 32) % 32)) : Int32) = nI (R k9 13) from by rw [show sgN (R k9) / 32 % 32 = R k9 13 by unfold sgN; omega]) ?_
        refine lv_icmp_gt (tgt := 103) X.1 X.2.1 dL_fits_96 (by decide) (fun c_96 => ?_) (fun c_96 => ?_)
        · have k_96 := k_lt (a := (R k9 13)) (b := (strH h)) (by omega) (by omega) c_96
          refine lv_iconst (v := 0) X.1 X.2.1 dL_fits_103 (by decide) ?_
          exact ro_z X hr hlk rfl (fit_no (fun e => absurd e.1.2 (Nat.not_le.mpr k_96))) dL_fits_104
        · have k_96 := k_nlt (a := (R k9 13)) (b := (strH h)) (by omega) (by omega) c_96
          refine lv_iconst (v := 1) X.1 X.2.1 dL_fits_99 (by decide) ?_
          refine lv_goto (tgt := 104) X.1 X.2.1 dL_fits_100 (by decide) ?_
          exact ro_z X hr hlk rfl (fit_ye ⟨⟨k_78, k_96⟩, w0, w1, w2, w3⟩) dL_fits_104
    | succ f ih =>
      intro s9 h0 h1 ls hl
      have hs9 : s9 < 4 := by omega
      refine lv_iload_n X.1 X.2.1 dL_fits_2 rfl (lv_at hl 3 rfl) ?_
      refine lv_iconst (v := 4) X.1 X.2.1 dL_fits_3 (by decide) ?_
      refine lv_icmp_ge (tgt := 65) X.1 X.2.1 dL_fits_4 (by decide) (fun c_4 => absurd c_4 (nI_ge (a := s9) (b := 4) (by omega) (by decide))) (fun c_4 => ?_)
      refine lv_iload_n X.1 X.2.1 dL_fits_7 rfl (lv_at hl 0 rfl) ?_
      refine lv_iconst (v := 3) X.1 X.2.1 dL_fits_8 (by decide) ?_
      refine lv_iload_n X.1 X.2.1 dL_fits_9 rfl (lv_at hl 3 rfl) ?_
      refine lv_imul X.1 X.2.1 dL_fits_10 ?_
      refine r_eqi (show (((3 : Int32) * (nI s9)) : Int32) = nI (3 * s9) from pk_mul 3 s9) ?_
      refine lv_ishr X.1 X.2.1 dL_fits_11 ?_
      refine lv_bipush (v := 7) X.1 X.2.1 dL_fits_12 (by decide) ?_
      refine lv_iand X.1 X.2.1 dL_fits_14 ?_
      refine r_eqi (show ((((nI (spN h)) >>> ((nI (3 * s9)) &&& 31)) &&& 7) : Int32) = nI (lenH h s9) from by rw [shr7 (x := spN h) (i := 3 * s9) (by omega) (by omega), sp_len h s9 hs9]) ?_
      refine lv_istore (lv' := [(4, .int (nI (lenH h s9))), (0, .int (nI (spN h))), (1, .ref ra), (2, .int (nI k9)), (3, .int (nI s9))]) X.1 X.2.1 dL_fits_15 hl (by decide) rfl (fun ls hl => ?_)
      refine lv_iload X.1 X.2.1 dL_fits_17 (lv_at hl 0 rfl) ?_
      refine lv_aload_n X.1 X.2.1 dL_fits_19 rfl (lv_at hl 2 rfl) ?_
      refine lv_bipush (v := 16) X.1 X.2.1 dL_fits_20 (by decide) ?_
      refine lv_iload_n X.1 X.2.1 dL_fits_22 rfl (lv_at hl 3 rfl) ?_
      refine lv_iadd X.1 X.2.1 dL_fits_23 ?_
      refine r_eqi (show (((16 : Int32) + (nI k9)) : Int32) = nI (16 + k9) from nI_add 16 k9) ?_
      refine r_iald X hH hra (show vp_in ((nI (16 + k9))) 48 from vp_in_nI (n := (16 + k9)) (by omega) (by decide)) dL_fits_24 ?_
      refine r_eqi (show ((g (nI (16 + k9)).toNatClampNeg) : Int32) = nI (lgN (R k9)) from by rw [nI_clamp (by omega)]; exact (hg.2 k9 hk9).2.2.2.1) ?_
      refine lv_bipush (v := 6) X.1 X.2.1 dL_fits_25 (by decide) ?_
      refine lv_iload_n X.1 X.2.1 dL_fits_27 rfl (lv_at hl 4 rfl) ?_
      refine lv_imul X.1 X.2.1 dL_fits_28 ?_
      refine r_eqi (show (((6 : Int32) * (nI s9)) : Int32) = nI (6 * s9) from pk_mul 6 s9) ?_
      refine lv_ishr X.1 X.2.1 dL_fits_29 ?_
      refine lv_bipush (v := 7) X.1 X.2.1 dL_fits_30 (by decide) ?_
      refine lv_iand X.1 X.2.1 dL_fits_32 ?_
      refine r_eqi (show ((((nI (lgN (R k9))) >>> ((nI (6 * s9)) &&& 31)) &&& 7) : Int32) = nI (R k9 (4 + 2 * s9)) from by rw [shr7 (x := lgN (R k9)) (i := 6 * s9) (by omega) (by omega), lg_lo hq s9 hs9]) ?_
      refine lv_icmp_lt (tgt := 57) X.1 X.2.1 dL_fits_33 (by decide) (fun c_33 => ?_) (fun c_33 => ?_)
      · have k_33 := k_lt (a := (lenH h s9)) (b := (R k9 (4 + 2 * s9))) (by have := hL s9; have := hq.1 (4 + 2 * s9) (by omega) (by omega); omega) (by have := hL s9; have := hq.1 (4 + 2 * s9) (by omega) (by omega); omega) c_33
        refine lv_iconst (v := 0) X.1 X.2.1 dL_fits_57 (by decide) ?_
        exact ro_z X hr hlk rfl (fit_s hs9 (fun e => absurd e.1 (Nat.not_le.mpr k_33))) dL_fits_58
      · have k_33 := k_nlt (a := (lenH h s9)) (b := (R k9 (4 + 2 * s9))) (by have := hL s9; have := hq.1 (4 + 2 * s9) (by omega) (by omega); omega) (by have := hL s9; have := hq.1 (4 + 2 * s9) (by omega) (by omega); omega) c_33
        refine lv_iload X.1 X.2.1 dL_fits_36 (lv_at hl 0 rfl) ?_
        refine lv_aload_n X.1 X.2.1 dL_fits_38 rfl (lv_at hl 2 rfl) ?_
        refine lv_bipush (v := 16) X.1 X.2.1 dL_fits_39 (by decide) ?_
        refine lv_iload_n X.1 X.2.1 dL_fits_41 rfl (lv_at hl 3 rfl) ?_
        refine lv_iadd X.1 X.2.1 dL_fits_42 ?_
        refine r_eqi (show (((16 : Int32) + (nI k9)) : Int32) = nI (16 + k9) from nI_add 16 k9) ?_
        refine r_iald X hH hra (show vp_in ((nI (16 + k9))) 48 from vp_in_nI (n := (16 + k9)) (by omega) (by decide)) dL_fits_43 ?_
        refine r_eqi (show ((g (nI (16 + k9)).toNatClampNeg) : Int32) = nI (lgN (R k9)) from by rw [nI_clamp (by omega)]; exact (hg.2 k9 hk9).2.2.2.1) ?_
        refine lv_bipush (v := 6) X.1 X.2.1 dL_fits_44 (by decide) ?_
        refine lv_iload_n X.1 X.2.1 dL_fits_46 rfl (lv_at hl 4 rfl) ?_
        refine lv_imul X.1 X.2.1 dL_fits_47 ?_
        refine r_eqi (show (((6 : Int32) * (nI s9)) : Int32) = nI (6 * s9) from pk_mul 6 s9) ?_
        refine lv_iconst (v := 3) X.1 X.2.1 dL_fits_48 (by decide) ?_
        refine lv_iadd X.1 X.2.1 dL_fits_49 ?_
        refine r_eqi (show (((nI (6 * s9)) + 3) : Int32) = nI ((6 * s9) + 3) from nI_add (6 * s9) 3) ?_
        refine lv_ishr X.1 X.2.1 dL_fits_50 ?_
        refine lv_bipush (v := 7) X.1 X.2.1 dL_fits_51 (by decide) ?_
        refine lv_iand X.1 X.2.1 dL_fits_53 ?_
        refine r_eqi (show ((((nI (lgN (R k9))) >>> ((nI ((6 * s9) + 3)) &&& 31)) &&& 7) : Int32) = nI (R k9 (5 + 2 * s9)) from by rw [shr7 (x := lgN (R k9)) (i := 6 * s9 + 3) (by omega) (by omega), lg_hi hq s9 hs9]) ?_
        refine lv_icmp_le (tgt := 59) X.1 X.2.1 dL_fits_54 (by decide) (fun c_54 => ?_) (fun c_54 => ?_)
        · have k_54 := k_le (a := (lenH h s9)) (b := (R k9 (5 + 2 * s9))) (by have := hL s9; have := hq.1 (5 + 2 * s9) (by omega) (by omega); omega) (by have := hL s9; have := hq.1 (5 + 2 * s9) (by omega) (by omega); omega) c_54
          refine lv_iinc (v := (nI (s9 + 1))) (lv' := [(3, .int (nI (s9 + 1))), (4, .int (nI (lenH h s9))), (0, .int (nI (spN h))), (1, .ref ra), (2, .int (nI k9))]) X.1 X.2.1 dL_fits_59 hl (k := 4) rfl (nI_add s9 1) (by decide) rfl (fun ls hl => ?_)
          refine lv_goto (tgt := 2) X.1 X.2.1 dL_fits_62 (by decide) ?_
          exact ih (s9 + 1) (by omega) (lt_step h1 ⟨k_33, k_54⟩) ls (lv_sub hl [2, 3, 4, 0] rfl)
        · have k_54 := k_nle (a := (lenH h s9)) (b := (R k9 (5 + 2 * s9))) (by have := hL s9; have := hq.1 (5 + 2 * s9) (by omega) (by omega); omega) (by have := hL s9; have := hq.1 (5 + 2 * s9) (by omega) (by omega); omega) c_54
          refine lv_iconst (v := 0) X.1 X.2.1 dL_fits_57 (by decide) ?_
          exact ro_z X hr hlk rfl (fit_s hs9 (fun e => absurd e.2 (Nat.not_le.mpr k_54))) dL_fits_58
  exact L2 4 0 rfl (fun w hw => absurd hw (by omega)) ls (lv_sub hl [1, 2, 3, 0] rfl)

theorem op_no1 {q : Nat → Nat} {st la fo : Int32} {b : Bool} (h : ¬ nI (q 0) = st) : ¬ (opB q st la fo && b) = true := by
  unfold opB
  rw [decide_eq_false h]
  exact fun q => by cases q
theorem op_no2 {q : Nat → Nat} {st la fo : Int32} {b : Bool} (h2 : q 1 = 25) (h3 : ¬ fo = 0) : ¬ (opB q st la fo && b) = true := by
  unfold opB
  rw [if_pos h2, decide_eq_false h3, Bool.and_false]
  exact fun q => by cases q
theorem op_no3 {q : Nat → Nat} {st la fo : Int32} {b : Bool} (h2 : q 1 ≠ 25) (h3 : nI (q 1) ≤ la) : ¬ (opB q st la fo && b) = true := by
  unfold opB
  rw [if_neg h2, decide_eq_false (Int32.not_lt.mpr h3), Bool.and_false]
  exact fun q => by cases q
theorem op_ye2 {q : Nat → Nat} {st la fo : Int32} (h : nI (q 0) = st) (h2 : q 1 = 25) (h3 : fo = 0) : opB q st la fo = true := by
  unfold opB
  rw [if_pos h2, decide_eq_true h3, decide_eq_true h]; rfl
theorem op_ye3 {q : Nat → Nat} {st la fo : Int32} (h : nI (q 0) = st) (h2 : q 1 ≠ 25) (h3 : ¬ nI (q 1) ≤ la) : opB q st la fo = true := by
  unfold opB
  rw [if_neg h2, decide_eq_true (Int32.not_le.mp h3), decide_eq_true h]; rfl
set_option maxHeartbeats 4000000 in
set_option maxRecDepth 100000 in
theorem c_L_ruleOf (l : Launch) (G : HG) (hp : HP) (ra h : Nat) (n : Nat) (R : Nat → Nat → Nat) (g : Nat → Int32) (hra : hp ra = some (.inl (G.2.1 1, 48, .inl g))) (hg : RG n R g) (st la fo : Int32) : Met l yL_ruleOf [.code yL_ruleOf cL_ruleOf 8 (some .int)] { frames := 1, cells := 0, slots := 0, locals := 24 } (va_Pc [.int (nI (spN h)), .ref ra, .int (nI n), .int st, .int la, .int fo] (RP G hp)) (vp_Si (fun r => r = rlF n R h st la fo)) 0 0 (fun _ => False) := by
  refine ro_ofW (by decide) (Nat.le_of_ble_eq_true rfl) ?_
  intro p e s m args below meth c ls X hr hlk hH hl
  have hS : va_S (fun _ => False) s.heap s.heap [] := va_S.rf
  have hl : lv_has ls 8 [(0, .int (nI (spN h))), (1, .ref ra), (2, .int (nI n)), (3, .int st), (4, .int la), (5, .int fo)] := hl
  have hn8 := hg.1
  refine lv_iconst (v := 0) X.1 X.2.1 dL_ruleOf_0 (by decide) ?_
  refine lv_istore (lv' := [(6, .int 0), (0, .int (nI (spN h))), (1, .ref ra), (2, .int (nI n)), (3, .int st), (4, .int la), (5, .int fo)]) X.1 X.2.1 dL_ruleOf_1 hl (by decide) rfl (fun ls hl => ?_)
  have L3 : ∀ (f : Nat) (r9 : Nat), r9 + f = n → ruF (ruB R h st la fo) f r9 = rlF n R h st la fo → ∀ ls, lv_has ls 8 [(0, .int (nI (spN h))), (1, .ref ra), (2, .int (nI n)), (3, .int st), (4, .int la), (5, .int fo), (6, .int (nI r9))] → W p l e ({ frames := 1, cells := 0, slots := 0, locals := 24 } : Room) s m args below meth c s.heap [] 0 0 (MQ below (vp_Si (fun r => r = rlF n R h st la fo)) args s 0 0 (fun _ => False)) (F0 m 3 ls []) := by
    intro f
    induction f with
    | zero =>
      intro r9 h0 h1 ls hl
      refine lv_iload X.1 X.2.1 dL_ruleOf_3 (lv_at hl 6 rfl) ?_
      refine lv_iload_n X.1 X.2.1 dL_ruleOf_5 rfl (lv_at hl 2 rfl) ?_
      refine lv_icmp_ge (tgt := 80) X.1 X.2.1 dL_ruleOf_6 (by decide) (fun c_6 => ?_) (fun c_6 => absurd (nI_le (a := n) (b := r9) (by omega) (by omega)) c_6)
      refine lv_bipush (v := (-6)) X.1 X.2.1 dL_ruleOf_80 (by decide) ?_
      exact ro_i X hr hlk (by rw [← h1]; rfl) dL_ruleOf_82
    | succ f ih =>
      intro r9 h0 h1 ls hl
      have hr9 : r9 < n := by omega
      refine lv_iload X.1 X.2.1 dL_ruleOf_3 (lv_at hl 6 rfl) ?_
      refine lv_iload_n X.1 X.2.1 dL_ruleOf_5 rfl (lv_at hl 2 rfl) ?_
      refine lv_icmp_ge (tgt := 80) X.1 X.2.1 dL_ruleOf_6 (by decide) (fun c_6 => absurd c_6 (nI_ge (a := r9) (b := n) (by omega) (by omega))) (fun c_6 => ?_)
      refine lv_aload_n X.1 X.2.1 dL_ruleOf_9 rfl (lv_at hl 1 rfl) ?_
      refine lv_iload X.1 X.2.1 dL_ruleOf_10 (lv_at hl 6 rfl) ?_
      refine r_iald X hH hra (show vp_in ((nI r9)) 48 from vp_in_nI (n := r9) (by omega) (by decide)) dL_ruleOf_12 ?_
      refine r_eqi (show ((g (nI r9).toNatClampNeg) : Int32) = nI (R r9 0) from by rw [nI_clamp (by omega)]; exact (hg.2 r9 hr9).2.1) ?_
      refine lv_iload_n X.1 X.2.1 dL_ruleOf_13 rfl (lv_at hl 3 rfl) ?_
      refine lv_icmp_ne (tgt := 53) X.1 X.2.1 dL_ruleOf_14 (by decide) (fun c_14 => ?_) (fun c_14 => ?_)
      · have hno : ¬ (ruB R h st la fo r9) = true := op_no1 c_14
        refine lv_iconst (v := 0) X.1 X.2.1 dL_ruleOf_53 (by decide) ?_
        refine lv_istore (lv' := [(7, .int 0), (0, .int (nI (spN h))), (1, .ref ra), (2, .int (nI n)), (3, .int st), (4, .int la), (5, .int fo), (6, .int (nI r9))]) X.1 X.2.1 dL_ruleOf_54 hl (by decide) rfl (fun ls hl => ?_)
        refine lv_iload X.1 X.2.1 dL_ruleOf_56 (lv_at hl 0 rfl) ?_
        refine lv_if_eq (tgt := 74) X.1 X.2.1 dL_ruleOf_58 (by decide) (fun c_58 => ?_) (fun c_58 => absurd (by decide) c_58)
        refine lv_iinc (v := (nI (r9 + 1))) (lv' := [(6, .int (nI (r9 + 1))), (7, .int 0), (0, .int (nI (spN h))), (1, .ref ra), (2, .int (nI n)), (3, .int st), (4, .int la), (5, .int fo)]) X.1 X.2.1 dL_ruleOf_74 hl (k := 7) rfl (nI_add r9 1) (by decide) rfl (fun ls hl => ?_)
        refine lv_goto (tgt := 3) X.1 X.2.1 dL_ruleOf_77 (by decide) ?_
        exact ih (r9 + 1) (by omega) (by rw [← h1]; show _ = (if _ then _ else _); rw [if_neg hno]) ls (lv_sub hl [2, 3, 4, 5, 6, 7, 0] rfl)
      · have g14 : nI (R r9 0) = st := c_14
        refine lv_aload_n X.1 X.2.1 dL_ruleOf_17 rfl (lv_at hl 1 rfl) ?_
        refine lv_bipush (v := 8) X.1 X.2.1 dL_ruleOf_18 (by decide) ?_
        refine lv_iload X.1 X.2.1 dL_ruleOf_20 (lv_at hl 6 rfl) ?_
        refine lv_iadd X.1 X.2.1 dL_ruleOf_22 ?_
        refine r_eqi (show (((8 : Int32) + (nI r9)) : Int32) = nI (8 + r9) from nI_add 8 r9) ?_
        refine r_iald X hH hra (show vp_in ((nI (8 + r9))) 48 from vp_in_nI (n := (8 + r9)) (by omega) (by decide)) dL_ruleOf_23 ?_
        refine r_eqi (show ((g (nI (8 + r9)).toNatClampNeg) : Int32) = nI (R r9 1) from by rw [nI_clamp (by omega)]; exact (hg.2 r9 hr9).2.2.1) ?_
        refine lv_bipush (v := 25) X.1 X.2.1 dL_ruleOf_24 (by decide) ?_
        refine lv_icmp_ne (tgt := 37) X.1 X.2.1 dL_ruleOf_26 (by decide) (fun c_26 => ?_) (fun c_26 => ?_)
        · have k_26 := k_ne (a := (R r9 1)) (b := 25) (by have := (hg.2 r9 hr9).1.2.2.2.2.1; omega) (by have := (hg.2 r9 hr9).1.2.2.2.2.1; omega) c_26
          refine lv_aload_n X.1 X.2.1 dL_ruleOf_37 rfl (lv_at hl 1 rfl) ?_
          refine lv_bipush (v := 8) X.1 X.2.1 dL_ruleOf_38 (by decide) ?_
          refine lv_iload X.1 X.2.1 dL_ruleOf_40 (lv_at hl 6 rfl) ?_
          refine lv_iadd X.1 X.2.1 dL_ruleOf_42 ?_
          refine r_eqi (show (((8 : Int32) + (nI r9)) : Int32) = nI (8 + r9) from nI_add 8 r9) ?_
          refine r_iald X hH hra (show vp_in ((nI (8 + r9))) 48 from vp_in_nI (n := (8 + r9)) (by omega) (by decide)) dL_ruleOf_43 ?_
          refine r_eqi (show ((g (nI (8 + r9)).toNatClampNeg) : Int32) = nI (R r9 1) from by rw [nI_clamp (by omega)]; exact (hg.2 r9 hr9).2.2.1) ?_
          refine lv_iload X.1 X.2.1 dL_ruleOf_44 (lv_at hl 4 rfl) ?_
          refine lv_icmp_le (tgt := 53) X.1 X.2.1 dL_ruleOf_46 (by decide) (fun c_46 => ?_) (fun c_46 => ?_)
          · have hno : ¬ (ruB R h st la fo r9) = true := op_no3 k_26 c_46
            refine lv_iconst (v := 0) X.1 X.2.1 dL_ruleOf_53 (by decide) ?_
            refine lv_istore (lv' := [(7, .int 0), (0, .int (nI (spN h))), (1, .ref ra), (2, .int (nI n)), (3, .int st), (4, .int la), (5, .int fo), (6, .int (nI r9))]) X.1 X.2.1 dL_ruleOf_54 hl (by decide) rfl (fun ls hl => ?_)
            refine lv_iload X.1 X.2.1 dL_ruleOf_56 (lv_at hl 0 rfl) ?_
            refine lv_if_eq (tgt := 74) X.1 X.2.1 dL_ruleOf_58 (by decide) (fun c_58 => ?_) (fun c_58 => absurd (by decide) c_58)
            refine lv_iinc (v := (nI (r9 + 1))) (lv' := [(6, .int (nI (r9 + 1))), (7, .int 0), (0, .int (nI (spN h))), (1, .ref ra), (2, .int (nI n)), (3, .int st), (4, .int la), (5, .int fo)]) X.1 X.2.1 dL_ruleOf_74 hl (k := 7) rfl (nI_add r9 1) (by decide) rfl (fun ls hl => ?_)
            refine lv_goto (tgt := 3) X.1 X.2.1 dL_ruleOf_77 (by decide) ?_
            exact ih (r9 + 1) (by omega) (by rw [← h1]; show _ = (if _ then _ else _); rw [if_neg hno]) ls (lv_sub hl [2, 3, 4, 5, 6, 7, 0] rfl)
          · have hop : opB (R r9) st la fo = true := op_ye3 g14 k_26 c_46
            refine lv_iconst (v := 1) X.1 X.2.1 dL_ruleOf_49 (by decide) ?_
            refine lv_goto (tgt := 54) X.1 X.2.1 dL_ruleOf_50 (by decide) ?_
            refine lv_istore (lv' := [(7, .int 1), (0, .int (nI (spN h))), (1, .ref ra), (2, .int (nI n)), (3, .int st), (4, .int la), (5, .int fo), (6, .int (nI r9))]) X.1 X.2.1 dL_ruleOf_54 hl (by decide) rfl (fun ls hl => ?_)
            refine lv_iload X.1 X.2.1 dL_ruleOf_56 (lv_at hl 0 rfl) ?_
            refine lv_if_eq (tgt := 74) X.1 X.2.1 dL_ruleOf_58 (by decide) (fun c_58 => absurd c_58 (by decide)) (fun c_58 => ?_)
            refine lv_iload_n X.1 X.2.1 dL_ruleOf_61 rfl (lv_at hl 1 rfl) ?_
            refine lv_aload_n X.1 X.2.1 dL_ruleOf_62 rfl (lv_at hl 2 rfl) ?_
            refine lv_iload X.1 X.2.1 dL_ruleOf_63 (lv_at hl 7 rfl) ?_
            refine on_Si (run_S (As := [.int (nI (spN h)), .ref ra, .int (nI r9)]) (rest := []) X (c_L_fits l G hp ra h n R g hra hg r9 hr9) (rp_blind _) (rp_at X hH hS) mf_L_fits tw_475 tw_476 ⟨rfl, rfl, Nat.le_of_ble_eq_true rfl, Nat.le_of_ble_eq_true rfl⟩ hl.1 rfl rfl (Nat.le_of_ble_eq_true rfl) ⟨Nat.le_of_ble_eq_true rfl, Nat.le_of_ble_eq_true rfl⟩ dL_ruleOf_65) (fun r_65 q_65 => ?_)
            obtain rfl : r_65 = (bI (fitB (R r9) h)) := q_65
            refine lv_if_eq (tgt := 74) X.1 X.2.1 dL_ruleOf_68 (by decide) (fun c_68 => ?_) (fun c_68 => ?_)
            · have hno : ¬ (ruB R h st la fo r9) = true := by unfold ruB; rw [bI_0 c_68, Bool.and_false]; exact fun q => by cases q
              refine lv_iinc (v := (nI (r9 + 1))) (lv' := [(6, .int (nI (r9 + 1))), (7, .int 1), (0, .int (nI (spN h))), (1, .ref ra), (2, .int (nI n)), (3, .int st), (4, .int la), (5, .int fo)]) X.1 X.2.1 dL_ruleOf_74 hl (k := 7) rfl (nI_add r9 1) (by decide) rfl (fun ls hl => ?_)
              refine lv_goto (tgt := 3) X.1 X.2.1 dL_ruleOf_77 (by decide) ?_
              exact ih (r9 + 1) (by omega) (by rw [← h1]; show _ = (if _ then _ else _); rw [if_neg hno]) ls (lv_sub hl [2, 3, 4, 5, 6, 7, 0] rfl)
            · have hye : (ruB R h st la fo r9) = true := by unfold ruB; rw [bI_1 c_68, hop]; rfl
              refine lv_iload X.1 X.2.1 dL_ruleOf_71 (lv_at hl 7 rfl) ?_
              exact ro_i X hr hlk (by rw [← h1]; rw [show f + 1 = f + 1 from rfl]; show nI r9 = (if _ then _ else _); rw [if_pos hye]) dL_ruleOf_73
        · have k_26 := k_eq (a := (R r9 1)) (b := 25) (by have := (hg.2 r9 hr9).1.2.2.2.2.1; omega) (by have := (hg.2 r9 hr9).1.2.2.2.2.1; omega) c_26
          refine lv_iload X.1 X.2.1 dL_ruleOf_29 (lv_at hl 5 rfl) ?_
          refine lv_if_ne (tgt := 53) X.1 X.2.1 dL_ruleOf_31 (by decide) (fun c_31 => ?_) (fun c_31 => ?_)
          · have hno : ¬ (ruB R h st la fo r9) = true := op_no2 k_26 c_31
            refine lv_iconst (v := 0) X.1 X.2.1 dL_ruleOf_53 (by decide) ?_
            refine lv_istore (lv' := [(7, .int 0), (0, .int (nI (spN h))), (1, .ref ra), (2, .int (nI n)), (3, .int st), (4, .int la), (5, .int fo), (6, .int (nI r9))]) X.1 X.2.1 dL_ruleOf_54 hl (by decide) rfl (fun ls hl => ?_)
            refine lv_iload X.1 X.2.1 dL_ruleOf_56 (lv_at hl 0 rfl) ?_
            refine lv_if_eq (tgt := 74) X.1 X.2.1 dL_ruleOf_58 (by decide) (fun c_58 => ?_) (fun c_58 => absurd (by decide) c_58)
            refine lv_iinc (v := (nI (r9 + 1))) (lv' := [(6, .int (nI (r9 + 1))), (7, .int 0), (0, .int (nI (spN h))), (1, .ref ra), (2, .int (nI n)), (3, .int st), (4, .int la), (5, .int fo)]) X.1 X.2.1 dL_ruleOf_74 hl (k := 7) rfl (nI_add r9 1) (by decide) rfl (fun ls hl => ?_)
            refine lv_goto (tgt := 3) X.1 X.2.1 dL_ruleOf_77 (by decide) ?_
            exact ih (r9 + 1) (by omega) (by rw [← h1]; show _ = (if _ then _ else _); rw [if_neg hno]) ls (lv_sub hl [2, 3, 4, 5, 6, 7, 0] rfl)
          · have hop : opB (R r9) st la fo = true := op_ye2 g14 k_26 c_31
            refine lv_goto (tgt := 49) X.1 X.2.1 dL_ruleOf_34 (by decide) ?_
            refine lv_iconst (v := 1) X.1 X.2.1 dL_ruleOf_49 (by decide) ?_
            refine lv_goto (tgt := 54) X.1 X.2.1 dL_ruleOf_50 (by decide) ?_
            refine lv_istore (lv' := [(7, .int 1), (0, .int (nI (spN h))), (1, .ref ra), (2, .int (nI n)), (3, .int st), (4, .int la), (5, .int fo), (6, .int (nI r9))]) X.1 X.2.1 dL_ruleOf_54 hl (by decide) rfl (fun ls hl => ?_)
            refine lv_iload X.1 X.2.1 dL_ruleOf_56 (lv_at hl 0 rfl) ?_
            refine lv_if_eq (tgt := 74) X.1 X.2.1 dL_ruleOf_58 (by decide) (fun c_58 => absurd c_58 (by decide)) (fun c_58 => ?_)
            refine lv_iload_n X.1 X.2.1 dL_ruleOf_61 rfl (lv_at hl 1 rfl) ?_
            refine lv_aload_n X.1 X.2.1 dL_ruleOf_62 rfl (lv_at hl 2 rfl) ?_
            refine lv_iload X.1 X.2.1 dL_ruleOf_63 (lv_at hl 7 rfl) ?_
            refine on_Si (run_S (As := [.int (nI (spN h)), .ref ra, .int (nI r9)]) (rest := []) X (c_L_fits l G hp ra h n R g hra hg r9 hr9) (rp_blind _) (rp_at X hH hS) mf_L_fits tw_475 tw_476 ⟨rfl, rfl, Nat.le_of_ble_eq_true rfl, Nat.le_of_ble_eq_true rfl⟩ hl.1 rfl rfl (Nat.le_of_ble_eq_true rfl) ⟨Nat.le_of_ble_eq_true rfl, Nat.le_of_ble_eq_true rfl⟩ dL_ruleOf_65) (fun r_65 q_65 => ?_)
            obtain rfl : r_65 = (bI (fitB (R r9) h)) := q_65
            refine lv_if_eq (tgt := 74) X.1 X.2.1 dL_ruleOf_68 (by decide) (fun c_68 => ?_) (fun c_68 => ?_)
            · have hno : ¬ (ruB R h st la fo r9) = true := by unfold ruB; rw [bI_0 c_68, Bool.and_false]; exact fun q => by cases q
              refine lv_iinc (v := (nI (r9 + 1))) (lv' := [(6, .int (nI (r9 + 1))), (7, .int 1), (0, .int (nI (spN h))), (1, .ref ra), (2, .int (nI n)), (3, .int st), (4, .int la), (5, .int fo)]) X.1 X.2.1 dL_ruleOf_74 hl (k := 7) rfl (nI_add r9 1) (by decide) rfl (fun ls hl => ?_)
              refine lv_goto (tgt := 3) X.1 X.2.1 dL_ruleOf_77 (by decide) ?_
              exact ih (r9 + 1) (by omega) (by rw [← h1]; show _ = (if _ then _ else _); rw [if_neg hno]) ls (lv_sub hl [2, 3, 4, 5, 6, 7, 0] rfl)
            · have hye : (ruB R h st la fo r9) = true := by unfold ruB; rw [bI_1 c_68, hop]; rfl
              refine lv_iload X.1 X.2.1 dL_ruleOf_71 (lv_at hl 7 rfl) ?_
              exact ro_i X hr hlk (by rw [← h1]; rw [show f + 1 = f + 1 from rfl]; show nI r9 = (if _ then _ else _); rw [if_pos hye]) dL_ruleOf_73
  exact L3 n 0 (by omega) rfl ls (lv_sub hl [1, 2, 3, 4, 5, 6, 0] rfl)

theorem rlF_lt {n : Nat} (hn : n < 2 ^ 31) {R : Nat → Nat → Nat} {h : Nat} {st la fo : Int32} (c : ¬ rlF n R h st la fo ≥ 0) : rlF n R h st la fo = -6 := by
  rcases rlF_or n R h st la fo with q | ⟨j, hj, q⟩
  · exact q
  · exact absurd (by rw [q]; exact nI_pos' (by omega)) c
theorem rlF_ge {n : Nat} {R : Nat → Nat → Nat} {h : Nat} {st la fo : Int32} (c : rlF n R h st la fo ≥ 0) : ¬ rlF n R h st la fo = -6 := fun q => absurd (q ▸ c) (by decide)
set_option maxHeartbeats 4000000 in
set_option maxRecDepth 100000 in
theorem c_L_agrees (l : Launch) (G : HG) (hp : HP) (ra ca h : Nat) (n : Nat) (R : Nat → Nat → Nat) (g gc : Nat → Int32) (hra : hp ra = some (.inl (G.2.1 1, 48, .inl g))) (hca : hp ca = some (.inl (G.2.1 1, 52, .inl gc))) (hg : RG n R g) (k : Nat) (cs : Nat → Nat → Int32) (sk : Bool) (hcg : CG k cs sk gc) (p9 : Nat) (hp9 : p9 < 2) : Met l yL_agrees [.code yL_agrees cL_agrees 8 (some .boolean)] { frames := 2, cells := 0, slots := 0, locals := 51 } (va_Pc [.int (nI (spN h)), .ref ra, .int (nI n), .ref ca, .int (nI k), .int (bI sk), .int (nI p9)] (RP G hp)) (vp_Si (fun r => r = bI (faB n R k cs sk p9 h))) 0 0 (fun _ => False) := by
  refine ro_ofW (by decide) (Nat.le_of_ble_eq_true rfl) ?_
  intro p e s m args below meth c ls X hr hlk hH hl
  have hS : va_S (fun _ => False) s.heap s.heap [] := va_S.rf
  have hl : lv_has ls 8 [(0, .int (nI (spN h))), (1, .ref ra), (2, .int (nI n)), (3, .ref ca), (4, .int (nI k)), (5, .int (bI sk)), (6, .int (nI p9))] := hl
  have hn8 := hg.1
  have hk12 := hcg.1
  refine lv_iload X.1 X.2.1 dL_agrees_0 (lv_at hl 6 rfl) ?_
  refine lv_istore (lv' := [(7, .int (nI p9)), (0, .int (nI (spN h))), (1, .ref ra), (2, .int (nI n)), (3, .ref ca), (4, .int (nI k)), (5, .int (bI sk)), (6, .int (nI p9))]) X.1 X.2.1 dL_agrees_2 hl (by decide) rfl (fun ls hl => ?_)
  have L4 : ∀ (f : Nat) (i : Nat), (i + 2 * f = k ∨ i + 2 * f = k + 1) → alF (caB n R cs h) ((k + 1 - p9) / 2) p9 = alF (caB n R cs h) f i → ∀ ls, lv_has ls 8 [(0, .int (nI (spN h))), (1, .ref ra), (2, .int (nI n)), (3, .ref ca), (4, .int (nI k)), (5, .int (bI sk)), (6, .int (nI p9)), (7, .int (nI i))] → W p l e ({ frames := 2, cells := 0, slots := 0, locals := 51 } : Room) s m args below meth c s.heap [] 0 0 (MQ below (vp_Si (fun r => r = bI (faB n R k cs sk p9 h))) args s 0 0 (fun _ => False)) (F0 m 4 ls []) := by
    intro f
    induction f with
    | zero =>
      intro i h0 h1 ls hl
      have ga : alF (caB n R cs h) ((k + 1 - p9) / 2) p9 = true := by rw [h1]; rfl
      refine lv_iload X.1 X.2.1 dL_agrees_4 (lv_at hl 7 rfl) ?_
      refine lv_iload X.1 X.2.1 dL_agrees_6 (lv_at hl 4 rfl) ?_
      refine lv_icmp_ge (tgt := 58) X.1 X.2.1 dL_agrees_8 (by decide) (fun c_8 => ?_) (fun c_8 => absurd (nI_le (a := k) (b := i) (by omega) (by omega)) c_8)
      refine lv_iload X.1 X.2.1 dL_agrees_58 (lv_at hl 5 rfl) ?_
      refine lv_if_eq (tgt := 103) X.1 X.2.1 dL_agrees_60 (by decide) (fun c_60 => ?_) (fun c_60 => ?_)
      · refine lv_iconst (v := 1) X.1 X.2.1 dL_agrees_103 (by decide) ?_
        refine lv_goto (tgt := 108) X.1 X.2.1 dL_agrees_104 (by decide) ?_
        exact ro_z X hr hlk rfl (by show (_ : Int32) = bI (_ && _); rw [ga]; rw [bI_0 c_60]; rfl) dL_agrees_108
      · refine lv_iload X.1 X.2.1 dL_agrees_63 (lv_at hl 4 rfl) ?_
        refine lv_iconst (v := 2) X.1 X.2.1 dL_agrees_65 (by decide) ?_
        refine lv_irem X.1 X.2.1 dL_agrees_66 (by decide) ?_
        refine r_eqi (show (((nI k) - (nI k) / 2 * 2) : Int32) = nI (k % 2) from pk_rem (a := k) (d := 2) (by omega) (by omega) (by omega)) ?_
        refine lv_iload X.1 X.2.1 dL_agrees_67 (lv_at hl 6 rfl) ?_
        refine lv_icmp_ne (tgt := 103) X.1 X.2.1 dL_agrees_69 (by decide) (fun c_69 => ?_) (fun c_69 => ?_)
        · have k_69 := k_ne (a := (k % 2)) (b := p9) (by omega) (by omega) c_69
          refine lv_iconst (v := 1) X.1 X.2.1 dL_agrees_103 (by decide) ?_
          refine lv_goto (tgt := 108) X.1 X.2.1 dL_agrees_104 (by decide) ?_
          exact ro_z X hr hlk rfl (by show (_ : Int32) = bI (_ && _); rw [ga]; rw [bI_1 c_60]; rw [decide_eq_false k_69]; rfl) dL_agrees_108
        · have k_69 := k_eq (a := (k % 2)) (b := p9) (by omega) (by omega) c_69
          refine lv_iload_n X.1 X.2.1 dL_agrees_72 rfl (lv_at hl 0 rfl) ?_
          refine lv_aload_n X.1 X.2.1 dL_agrees_73 rfl (lv_at hl 1 rfl) ?_
          refine lv_iload_n X.1 X.2.1 dL_agrees_74 rfl (lv_at hl 2 rfl) ?_
          refine lv_aload_n X.1 X.2.1 dL_agrees_75 rfl (lv_at hl 3 rfl) ?_
          refine lv_iconst (v := 4) X.1 X.2.1 dL_agrees_76 (by decide) ?_
          refine lv_iload X.1 X.2.1 dL_agrees_77 (lv_at hl 4 rfl) ?_
          refine lv_imul X.1 X.2.1 dL_agrees_79 ?_
          refine r_eqi (show (((4 : Int32) * (nI k)) : Int32) = nI (4 * k) from pk_mul 4 k) ?_
          refine r_iald X hH hca (show vp_in ((nI (4 * k))) 52 from vp_in_nI (n := (4 * k)) (by omega) (by decide)) dL_agrees_80 ?_
          refine r_eqi (show ((gc (nI (4 * k)).toNatClampNeg) : Int32) = cs k 2 from by rw [nI_clamp (by omega)]; exact (hcg.2.2 (bI_1 c_60)).1) ?_
          refine lv_aload_n X.1 X.2.1 dL_agrees_81 rfl (lv_at hl 3 rfl) ?_
          refine lv_iconst (v := 4) X.1 X.2.1 dL_agrees_82 (by decide) ?_
          refine lv_iload X.1 X.2.1 dL_agrees_83 (lv_at hl 4 rfl) ?_
          refine lv_imul X.1 X.2.1 dL_agrees_85 ?_
          refine r_eqi (show (((4 : Int32) * (nI k)) : Int32) = nI (4 * k) from pk_mul 4 k) ?_
          refine lv_iconst (v := 1) X.1 X.2.1 dL_agrees_86 (by decide) ?_
          refine lv_iadd X.1 X.2.1 dL_agrees_87 ?_
          refine r_eqi (show (((nI (4 * k)) + 1) : Int32) = nI ((4 * k) + 1) from nI_add (4 * k) 1) ?_
          refine r_iald X hH hca (show vp_in ((nI ((4 * k) + 1))) 52 from vp_in_nI (n := ((4 * k) + 1)) (by omega) (by decide)) dL_agrees_88 ?_
          refine r_eqi (show ((gc (nI ((4 * k) + 1)).toNatClampNeg) : Int32) = cs k 4 from by rw [nI_clamp (by omega)]; exact (hcg.2.2 (bI_1 c_60)).2.1) ?_
          refine lv_aload_n X.1 X.2.1 dL_agrees_89 rfl (lv_at hl 3 rfl) ?_
          refine lv_iconst (v := 4) X.1 X.2.1 dL_agrees_90 (by decide) ?_
          refine lv_iload X.1 X.2.1 dL_agrees_91 (lv_at hl 4 rfl) ?_
          refine lv_imul X.1 X.2.1 dL_agrees_93 ?_
          refine r_eqi (show (((4 : Int32) * (nI k)) : Int32) = nI (4 * k) from pk_mul 4 k) ?_
          refine lv_iconst (v := 2) X.1 X.2.1 dL_agrees_94 (by decide) ?_
          refine lv_iadd X.1 X.2.1 dL_agrees_95 ?_
          refine r_eqi (show (((nI (4 * k)) + 2) : Int32) = nI ((4 * k) + 2) from nI_add (4 * k) 2) ?_
          refine r_iald X hH hca (show vp_in ((nI ((4 * k) + 2))) 52 from vp_in_nI (n := ((4 * k) + 2)) (by omega) (by decide)) dL_agrees_96 ?_
          refine r_eqi (show ((gc (nI ((4 * k) + 2)).toNatClampNeg) : Int32) = cs k 3 from by rw [nI_clamp (by omega)]; exact (hcg.2.2 (bI_1 c_60)).2.2) ?_
          refine on_Si (run_S (As := [.int (nI (spN h)), .ref ra, .int (nI n), .int (cs k 2), .int (cs k 4), .int (cs k 3)]) (rest := []) X (c_L_ruleOf l G hp ra h n R g hra hg (cs k 2) (cs k 4) (cs k 3)) (rp_blind _) (rp_at X hH hS) mf_L_ruleOf tw_472 tw_473 ⟨rfl, rfl, Nat.le_of_ble_eq_true rfl, Nat.le_of_ble_eq_true rfl⟩ hl.1 rfl rfl (Nat.le_of_ble_eq_true rfl) ⟨Nat.le_of_ble_eq_true rfl, Nat.le_of_ble_eq_true rfl⟩ dL_agrees_97) (fun r_97 q_97 => ?_)
          obtain rfl : r_97 = (rlF n R h (cs k 2) (cs k 4) (cs k 3)) := q_97
          refine lv_if_ge (tgt := 107) X.1 X.2.1 dL_agrees_100 (by decide) (fun c_100 => ?_) (fun c_100 => ?_)
          · refine lv_iconst (v := 0) X.1 X.2.1 dL_agrees_107 (by decide) ?_
            exact ro_z X hr hlk rfl (by show (_ : Int32) = bI (_ && _); rw [ga]; rw [bI_1 c_60]; rw [decide_eq_true k_69]; rw [decide_eq_false (rlF_ge c_100)]; rfl) dL_agrees_108
          · refine lv_iconst (v := 1) X.1 X.2.1 dL_agrees_103 (by decide) ?_
            refine lv_goto (tgt := 108) X.1 X.2.1 dL_agrees_104 (by decide) ?_
            exact ro_z X hr hlk rfl (by show (_ : Int32) = bI (_ && _); rw [ga]; rw [bI_1 c_60]; rw [decide_eq_true k_69]; rw [decide_eq_true (rlF_lt (by omega) c_100)]; rfl) dL_agrees_108
    | succ f ih =>
      intro i h0 h1 ls hl
      have hik : i < k := by omega
      refine lv_iload X.1 X.2.1 dL_agrees_4 (lv_at hl 7 rfl) ?_
      refine lv_iload X.1 X.2.1 dL_agrees_6 (lv_at hl 4 rfl) ?_
      refine lv_icmp_ge (tgt := 58) X.1 X.2.1 dL_agrees_8 (by decide) (fun c_8 => absurd c_8 (nI_ge (a := i) (b := k) (by omega) (by omega))) (fun c_8 => ?_)
      refine lv_iload_n X.1 X.2.1 dL_agrees_11 rfl (lv_at hl 0 rfl) ?_
      refine lv_aload_n X.1 X.2.1 dL_agrees_12 rfl (lv_at hl 1 rfl) ?_
      refine lv_iload_n X.1 X.2.1 dL_agrees_13 rfl (lv_at hl 2 rfl) ?_
      refine lv_aload_n X.1 X.2.1 dL_agrees_14 rfl (lv_at hl 3 rfl) ?_
      refine lv_iconst (v := 4) X.1 X.2.1 dL_agrees_15 (by decide) ?_
      refine lv_iload X.1 X.2.1 dL_agrees_16 (lv_at hl 7 rfl) ?_
      refine lv_imul X.1 X.2.1 dL_agrees_18 ?_
      refine r_eqi (show (((4 : Int32) * (nI i)) : Int32) = nI (4 * i) from pk_mul 4 i) ?_
      refine r_iald X hH hca (show vp_in ((nI (4 * i))) 52 from vp_in_nI (n := (4 * i)) (by omega) (by decide)) dL_agrees_19 ?_
      refine r_eqi (show ((gc (nI (4 * i)).toNatClampNeg) : Int32) = cs i 2 from by rw [nI_clamp (by omega)]; exact (hcg.2.1 i hik).1) ?_
      refine lv_aload_n X.1 X.2.1 dL_agrees_20 rfl (lv_at hl 3 rfl) ?_
      refine lv_iconst (v := 4) X.1 X.2.1 dL_agrees_21 (by decide) ?_
      refine lv_iload X.1 X.2.1 dL_agrees_22 (lv_at hl 7 rfl) ?_
      refine lv_imul X.1 X.2.1 dL_agrees_24 ?_
      refine r_eqi (show (((4 : Int32) * (nI i)) : Int32) = nI (4 * i) from pk_mul 4 i) ?_
      refine lv_iconst (v := 1) X.1 X.2.1 dL_agrees_25 (by decide) ?_
      refine lv_iadd X.1 X.2.1 dL_agrees_26 ?_
      refine r_eqi (show (((nI (4 * i)) + 1) : Int32) = nI ((4 * i) + 1) from nI_add (4 * i) 1) ?_
      refine r_iald X hH hca (show vp_in ((nI ((4 * i) + 1))) 52 from vp_in_nI (n := ((4 * i) + 1)) (by omega) (by decide)) dL_agrees_27 ?_
      refine r_eqi (show ((gc (nI ((4 * i) + 1)).toNatClampNeg) : Int32) = cs i 4 from by rw [nI_clamp (by omega)]; exact (hcg.2.1 i hik).2.1) ?_
      refine lv_aload_n X.1 X.2.1 dL_agrees_28 rfl (lv_at hl 3 rfl) ?_
      refine lv_iconst (v := 4) X.1 X.2.1 dL_agrees_29 (by decide) ?_
      refine lv_iload X.1 X.2.1 dL_agrees_30 (lv_at hl 7 rfl) ?_
      refine lv_imul X.1 X.2.1 dL_agrees_32 ?_
      refine r_eqi (show (((4 : Int32) * (nI i)) : Int32) = nI (4 * i) from pk_mul 4 i) ?_
      refine lv_iconst (v := 2) X.1 X.2.1 dL_agrees_33 (by decide) ?_
      refine lv_iadd X.1 X.2.1 dL_agrees_34 ?_
      refine r_eqi (show (((nI (4 * i)) + 2) : Int32) = nI ((4 * i) + 2) from nI_add (4 * i) 2) ?_
      refine r_iald X hH hca (show vp_in ((nI ((4 * i) + 2))) 52 from vp_in_nI (n := ((4 * i) + 2)) (by omega) (by decide)) dL_agrees_35 ?_
      refine r_eqi (show ((gc (nI ((4 * i) + 2)).toNatClampNeg) : Int32) = cs i 3 from by rw [nI_clamp (by omega)]; exact (hcg.2.1 i hik).2.2.1) ?_
      refine on_Si (run_S (As := [.int (nI (spN h)), .ref ra, .int (nI n), .int (cs i 2), .int (cs i 4), .int (cs i 3)]) (rest := []) X (c_L_ruleOf l G hp ra h n R g hra hg (cs i 2) (cs i 4) (cs i 3)) (rp_blind _) (rp_at X hH hS) mf_L_ruleOf tw_472 tw_473 ⟨rfl, rfl, Nat.le_of_ble_eq_true rfl, Nat.le_of_ble_eq_true rfl⟩ hl.1 rfl rfl (Nat.le_of_ble_eq_true rfl) ⟨Nat.le_of_ble_eq_true rfl, Nat.le_of_ble_eq_true rfl⟩ dL_agrees_36) (fun r_36 q_36 => ?_)
      obtain rfl : r_36 = (rlF n R h (cs i 2) (cs i 4) (cs i 3)) := q_36
      refine lv_aload_n X.1 X.2.1 dL_agrees_39 rfl (lv_at hl 3 rfl) ?_
      refine lv_iconst (v := 4) X.1 X.2.1 dL_agrees_40 (by decide) ?_
      refine lv_iload X.1 X.2.1 dL_agrees_41 (lv_at hl 7 rfl) ?_
      refine lv_imul X.1 X.2.1 dL_agrees_43 ?_
      refine r_eqi (show (((4 : Int32) * (nI i)) : Int32) = nI (4 * i) from pk_mul 4 i) ?_
      refine lv_iconst (v := 3) X.1 X.2.1 dL_agrees_44 (by decide) ?_
      refine lv_iadd X.1 X.2.1 dL_agrees_45 ?_
      refine r_eqi (show (((nI (4 * i)) + 3) : Int32) = nI ((4 * i) + 3) from nI_add (4 * i) 3) ?_
      refine r_iald X hH hca (show vp_in ((nI ((4 * i) + 3))) 52 from vp_in_nI (n := ((4 * i) + 3)) (by omega) (by decide)) dL_agrees_46 ?_
      refine r_eqi (show ((gc (nI ((4 * i) + 3)).toNatClampNeg) : Int32) = cs i 1 from by rw [nI_clamp (by omega)]; exact (hcg.2.1 i hik).2.2.2) ?_
      refine lv_icmp_eq (tgt := 52) X.1 X.2.1 dL_agrees_47 (by decide) (fun c_47 => ?_) (fun c_47 => ?_)
      · refine lv_iinc (v := (nI (i + 2))) (lv' := [(7, .int (nI (i + 2))), (0, .int (nI (spN h))), (1, .ref ra), (2, .int (nI n)), (3, .ref ca), (4, .int (nI k)), (5, .int (bI sk)), (6, .int (nI p9))]) X.1 X.2.1 dL_agrees_52 hl (k := 7) rfl (nI_add i 2) (by decide) rfl (fun ls hl => ?_)
        refine lv_goto (tgt := 4) X.1 X.2.1 dL_agrees_55 (by decide) ?_
        exact ih (i + 2) (by omega) (by rw [h1]; show (decide _ && _) = _; rw [decide_eq_true c_47]; rfl) ls (lv_sub hl [1, 2, 3, 4, 5, 6, 7, 0] rfl)
      · refine lv_iconst (v := 0) X.1 X.2.1 dL_agrees_50 (by decide) ?_
        exact ro_z X hr hlk rfl (by show (_ : Int32) = bI (_ && _); rw [h1]; show _ = bI ((decide _ && _) && _); rw [decide_eq_false c_47]; rfl) dL_agrees_51
  exact L4 ((k + 1 - p9) / 2) p9 (by omega) rfl ls (lv_sub hl [1, 2, 3, 4, 5, 6, 7, 0] rfl)

