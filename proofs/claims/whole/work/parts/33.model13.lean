/-! drawing -/
theorem shrV (a c : Nat) (ha : a < 2 ^ 31) (hc : c < 32) : nI a >>> (nI c &&& 31) = nI (a / 2 ^ c) := pk_shrN ha _ c (s_l _ hc)
theorem shlV (c : Nat) (hc : c < 31) : (1 : Int32) <<< (nI c &&& 31) = nI (2 ^ c) := by
  have h := pk_shlN (n := 1) (nI c &&& 31) c (s_l _ (by omega)) (by rw [Nat.one_mul]; exact Nat.pow_lt_pow_right (by decide) (by omega))
  rw [Nat.one_mul] at h
  exact h
/-- free places among c .. c + f - 1 -/
def frC (t : Nat) : Nat → Nat → Nat
  | 0, _ => 0
  | f + 1, c => (if t / 2 ^ c % 2 = 1 then 0 else 1) + frC t f (c + 1)
/-- the place with the number l of those that are free from c on -/
def clF (t : Nat) : Nat → Nat → Nat → Nat
  | 0, _, c => c
  | f + 1, l, c => if 0 < l ∨ t / 2 ^ c % 2 = 1 then clF t f (if t / 2 ^ c % 2 = 1 then l else l - 1) (c + 1) else c
theorem clF_ok (t : Nat) : ∀ f l c, l < frC t f c → c ≤ clF t f l c ∧ clF t f l c < c + f ∧ t / 2 ^ (clF t f l c) % 2 = 0
  | 0, l, c, h => absurd h (Nat.not_lt_zero l)
  | f + 1, l, c, h => by
    unfold frC at h
    unfold clF
    by_cases b : t / 2 ^ c % 2 = 1
    · rw [if_pos (Or.inr b), if_pos b]
      rw [if_pos b] at h
      have := clF_ok t f l (c + 1) (by omega)
      exact ⟨by omega, by omega, this.2.2⟩
    · rw [if_neg b] at h
      by_cases d : 0 < l
      · rw [if_pos (Or.inl d), if_neg b]
        have := clF_ok t f (l - 1) (c + 1) (by omega)
        exact ⟨by omega, by omega, this.2.2⟩
      · rw [if_neg (fun q => Or.elim q d b)]
        exact ⟨Nat.le_refl _, by omega, by omega⟩
theorem bit_or (t c j : Nat) : (t ||| 2 ^ c) / 2 ^ j % 2 = if j = c then 1 else t / 2 ^ j % 2 := by
  have e : ∀ x, x / 2 ^ j % 2 = (x.testBit j).toNat := fun x => (Nat.toNat_testBit x j).symm
  rw [e, e, Nat.testBit_or, Nat.testBit_two_pow]
  by_cases h : j = c
  · rw [if_pos h, decide_eq_true h.symm, Bool.or_true]; rfl
  · rw [if_neg h, decide_eq_false (fun q => h q.symm), Bool.or_false]
theorem frC_far (t c : Nat) : ∀ f j, c < j → frC (t ||| 2 ^ c) f j = frC t f j
  | 0, _, _ => rfl
  | f + 1, j, h => by
    unfold frC
    rw [bit_or, if_neg (show ¬ j = c by omega), frC_far t c f (j + 1) (by omega)]
theorem frC_or (t c : Nat) (hb : t / 2 ^ c % 2 = 0) : ∀ f j, j ≤ c → c < j + f → frC (t ||| 2 ^ c) f j + 1 = frC t f j
  | 0, j, h, h2 => by omega
  | f + 1, j, h, h2 => by
    unfold frC
    rw [bit_or]
    by_cases d : j = c
    · subst d
      rw [if_pos rfl, if_pos rfl, if_neg (by omega), frC_far t j f (j + 1) (by omega)]
      omega
    · rw [if_neg d]
      have := frC_or t c hb f (j + 1) (by omega) (by omega)
      omega
theorem frC_le (t : Nat) : ∀ f c, frC t f c ≤ f
  | 0, _ => Nat.le_refl 0
  | f + 1, c => by
    have := frC_le t f (c + 1)
    unfold frC
    split <;> omega
set_option maxHeartbeats 4000000 in
set_option maxRecDepth 100000 in
theorem c_X7_cardLeft (l : Launch) (G : HG) (hp : HP) (t9 n9 : Nat) (ht : t9 < 2 ^ 20) (hn9 : n9 < frC t9 20 0) : Met l yX7_cardLeft [.code yX7_cardLeft cX7_cardLeft 4 (some .int)] { frames := 0, cells := 0, slots := 0, locals := 0 } (va_Pc [.int (nI t9), .int (nI n9)] (RP G hp)) (vp_Si (fun r => r = nI (clF t9 20 n9 0))) 0 0 (fun _ => False) := by
  refine ro_ofW (by decide) (Nat.le_of_ble_eq_true rfl) ?_
  intro p e s m args below meth c ls X hr hlk hH hl
  have hS : va_S (fun _ => False) s.heap s.heap [] := va_S.rf
  have hl : lv_has ls 4 [(0, .int (nI t9)), (1, .int (nI n9))] := hl
  refine lv_iload_n X.1 X.2.1 dX7_cardLeft_0 rfl (lv_at hl 1 rfl) ?_
  refine lv_istore_n (lv' := [(2, .int (nI n9)), (0, .int (nI t9)), (1, .int (nI n9))]) X.1 X.2.1 dX7_cardLeft_1 rfl hl (by decide) rfl (fun ls hl => ?_)
  refine lv_iconst (v := 0) X.1 X.2.1 dX7_cardLeft_2 (by decide) ?_
  refine lv_istore_n (lv' := [(3, .int 0), (2, .int (nI n9)), (0, .int (nI t9)), (1, .int (nI n9))]) X.1 X.2.1 dX7_cardLeft_3 rfl hl (by decide) rfl (fun ls hl => ?_)
  have L4 : ∀ (f : Nat) (l9 : Nat) (c9 : Nat), (c9 + f = 20) → (l9 < frC t9 f c9) → (clF t9 f l9 c9 = clF t9 20 n9 0) → ∀ ls, lv_has ls 4 [(0, .int (nI t9)), (1, .int (nI n9)), (2, .int (nI l9)), (3, .int (nI c9))] → W p l e ({ frames := 0, cells := 0, slots := 0, locals := 0 } : Room) s m args below meth c s.heap [] 0 0 (MQ below (vp_Si (fun r => r = nI (clF t9 20 n9 0))) args s 0 0 (fun _ => False)) (F0 m 4 ls []) := by
    intro f
    induction f with
    | zero =>
      intro l9 c9 h0 h1 h2 ls hl
      exact absurd h1 (Nat.not_lt_zero _)
    | succ f ih =>
      intro l9 c9 h0 h1 h2 ls hl
      have h20 : c9 < 20 := by omega
      have hl9 : l9 < 2 ^ 31 := Nat.lt_of_lt_of_le h1 (Nat.le_trans (frC_le t9 _ _) (by omega))
      have hdv : t9 / 2 ^ c9 ≤ t9 := Nat.div_le_self _ _
      refine lv_iload_n X.1 X.2.1 dX7_cardLeft_4 rfl (lv_at hl 2 rfl) ?_
      refine lv_if_gt (tgt := 17) X.1 X.2.1 dX7_cardLeft_5 (by decide) (fun c_5 => ?_) (fun c_5 => ?_)
      · have k_5 := k_lt (a := 0) (b := l9) (by omega) (by omega) c_5
        refine lv_iload_n X.1 X.2.1 dX7_cardLeft_17 rfl (lv_at hl 2 rfl) ?_
        refine lv_iload_n X.1 X.2.1 dX7_cardLeft_18 rfl (lv_at hl 0 rfl) ?_
        refine lv_iload_n X.1 X.2.1 dX7_cardLeft_19 rfl (lv_at hl 3 rfl) ?_
        refine lv_ishr X.1 X.2.1 dX7_cardLeft_20 ?_
        refine r_eqi (show (((nI t9) >>> ((nI c9) &&& 31)) : Int32) = nI (t9 / 2 ^ c9) from shrV t9 c9 (by omega) (by omega)) ?_
        refine lv_iconst (v := 1) X.1 X.2.1 dX7_cardLeft_21 (by decide) ?_
        refine lv_iand X.1 X.2.1 dX7_cardLeft_22 ?_
        refine r_eqi (show (((nI (t9 / 2 ^ c9)) &&& 1) : Int32) = nI ((t9 / 2 ^ c9) % 2) from n_and1 (t9 / 2 ^ c9)) ?_
        refine lv_iconst (v := 1) X.1 X.2.1 dX7_cardLeft_23 (by decide) ?_
        refine lv_icmp_ne (tgt := 31) X.1 X.2.1 dX7_cardLeft_24 (by decide) (fun c_24 => ?_) (fun c_24 => ?_)
        · have k_24 := k_ne (a := ((t9 / 2 ^ c9) % 2)) (b := 1) (by omega) (by omega) c_24
          refine lv_iconst (v := 1) X.1 X.2.1 dX7_cardLeft_31 (by decide) ?_
          refine lv_isub X.1 X.2.1 dX7_cardLeft_32 ?_
          refine r_eqi (show (((nI l9) - 1) : Int32) = nI (l9 - 1) from pk_sub (a := l9) (b := 1) (by omega)) ?_
          refine lv_istore_n (lv' := [(2, .int (nI (l9 - 1))), (0, .int (nI t9)), (1, .int (nI n9)), (3, .int (nI c9))]) X.1 X.2.1 dX7_cardLeft_33 rfl hl (by decide) rfl (fun ls hl => ?_)
          refine lv_iinc (v := (nI (c9 + 1))) (lv' := [(3, .int (nI (c9 + 1))), (2, .int (nI (l9 - 1))), (0, .int (nI t9)), (1, .int (nI n9))]) X.1 X.2.1 dX7_cardLeft_34 hl (k := 3) rfl (nI_add c9 1) (by decide) rfl (fun ls hl => ?_)
          refine lv_goto (tgt := 4) X.1 X.2.1 dX7_cardLeft_37 (by decide) ?_
          exact ih (l9 - 1) (c9 + 1) (by omega) (by have q9 := h1; unfold frC at q9; rw [if_neg k_24] at q9; omega) (by rw [← h2]; exact ((if_pos (Or.inl k_5)).trans (congrArg (fun z => clF t9 f z (c9 + 1)) (if_neg k_24))).symm) ls (lv_sub hl [2, 3, 1, 0] rfl)
        · have k_24 := k_eq (a := ((t9 / 2 ^ c9) % 2)) (b := 1) (by omega) (by omega) c_24
          refine lv_iconst (v := 0) X.1 X.2.1 dX7_cardLeft_27 (by decide) ?_
          refine lv_goto (tgt := 32) X.1 X.2.1 dX7_cardLeft_28 (by decide) ?_
          refine lv_isub X.1 X.2.1 dX7_cardLeft_32 ?_
          refine r_eqi (show (((nI l9) - 0) : Int32) = nI l9 from Int32.sub_zero _) ?_
          refine lv_istore_n (lv' := [(2, .int (nI l9)), (0, .int (nI t9)), (1, .int (nI n9)), (3, .int (nI c9))]) X.1 X.2.1 dX7_cardLeft_33 rfl hl (by decide) rfl (fun ls hl => ?_)
          refine lv_iinc (v := (nI (c9 + 1))) (lv' := [(3, .int (nI (c9 + 1))), (2, .int (nI l9)), (0, .int (nI t9)), (1, .int (nI n9))]) X.1 X.2.1 dX7_cardLeft_34 hl (k := 3) rfl (nI_add c9 1) (by decide) rfl (fun ls hl => ?_)
          refine lv_goto (tgt := 4) X.1 X.2.1 dX7_cardLeft_37 (by decide) ?_
          exact ih l9 (c9 + 1) (by omega) (by have q9 := h1; unfold frC at q9; rw [if_pos k_24] at q9; omega) (by rw [← h2]; exact ((if_pos (Or.inr k_24)).trans (congrArg (fun z => clF t9 f z (c9 + 1)) (if_pos k_24))).symm) ls (lv_sub hl [2, 3, 1, 0] rfl)
      · have k_5 := k_nlt (a := 0) (b := l9) (by omega) (by omega) c_5
        refine lv_iload_n X.1 X.2.1 dX7_cardLeft_8 rfl (lv_at hl 0 rfl) ?_
        refine lv_iload_n X.1 X.2.1 dX7_cardLeft_9 rfl (lv_at hl 3 rfl) ?_
        refine lv_ishr X.1 X.2.1 dX7_cardLeft_10 ?_
        refine r_eqi (show (((nI t9) >>> ((nI c9) &&& 31)) : Int32) = nI (t9 / 2 ^ c9) from shrV t9 c9 (by omega) (by omega)) ?_
        refine lv_iconst (v := 1) X.1 X.2.1 dX7_cardLeft_11 (by decide) ?_
        refine lv_iand X.1 X.2.1 dX7_cardLeft_12 ?_
        refine r_eqi (show (((nI (t9 / 2 ^ c9)) &&& 1) : Int32) = nI ((t9 / 2 ^ c9) % 2) from n_and1 (t9 / 2 ^ c9)) ?_
        refine lv_iconst (v := 1) X.1 X.2.1 dX7_cardLeft_13 (by decide) ?_
        refine lv_icmp_ne (tgt := 40) X.1 X.2.1 dX7_cardLeft_14 (by decide) (fun c_14 => ?_) (fun c_14 => ?_)
        · have k_14 := k_ne (a := ((t9 / 2 ^ c9) % 2)) (b := 1) (by omega) (by omega) c_14
          refine lv_iload_n X.1 X.2.1 dX7_cardLeft_40 rfl (lv_at hl 3 rfl) ?_
          exact ro_i X hr hlk (by show nI c9 = _; rw [← h2]; exact congrArg nI (if_neg (fun q => Or.elim q (fun q => absurd q (by omega)) k_14)).symm) dX7_cardLeft_41
        · have k_14 := k_eq (a := ((t9 / 2 ^ c9) % 2)) (b := 1) (by omega) (by omega) c_14
          refine lv_iload_n X.1 X.2.1 dX7_cardLeft_17 rfl (lv_at hl 2 rfl) ?_
          refine lv_iload_n X.1 X.2.1 dX7_cardLeft_18 rfl (lv_at hl 0 rfl) ?_
          refine lv_iload_n X.1 X.2.1 dX7_cardLeft_19 rfl (lv_at hl 3 rfl) ?_
          refine lv_ishr X.1 X.2.1 dX7_cardLeft_20 ?_
          refine r_eqi (show (((nI t9) >>> ((nI c9) &&& 31)) : Int32) = nI (t9 / 2 ^ c9) from shrV t9 c9 (by omega) (by omega)) ?_
          refine lv_iconst (v := 1) X.1 X.2.1 dX7_cardLeft_21 (by decide) ?_
          refine lv_iand X.1 X.2.1 dX7_cardLeft_22 ?_
          refine r_eqi (show (((nI (t9 / 2 ^ c9)) &&& 1) : Int32) = nI ((t9 / 2 ^ c9) % 2) from n_and1 (t9 / 2 ^ c9)) ?_
          refine lv_iconst (v := 1) X.1 X.2.1 dX7_cardLeft_23 (by decide) ?_
          refine lv_icmp_ne (tgt := 31) X.1 X.2.1 dX7_cardLeft_24 (by decide) (fun c_24 => ?_) (fun c_24 => ?_)
          · have k_24 := k_ne (a := ((t9 / 2 ^ c9) % 2)) (b := 1) (by omega) (by omega) c_24
            exact absurd k_14 k_24
          · have k_24 := k_eq (a := ((t9 / 2 ^ c9) % 2)) (b := 1) (by omega) (by omega) c_24
            refine lv_iconst (v := 0) X.1 X.2.1 dX7_cardLeft_27 (by decide) ?_
            refine lv_goto (tgt := 32) X.1 X.2.1 dX7_cardLeft_28 (by decide) ?_
            refine lv_isub X.1 X.2.1 dX7_cardLeft_32 ?_
            refine r_eqi (show (((nI l9) - 0) : Int32) = nI l9 from Int32.sub_zero _) ?_
            refine lv_istore_n (lv' := [(2, .int (nI l9)), (0, .int (nI t9)), (1, .int (nI n9)), (3, .int (nI c9))]) X.1 X.2.1 dX7_cardLeft_33 rfl hl (by decide) rfl (fun ls hl => ?_)
            refine lv_iinc (v := (nI (c9 + 1))) (lv' := [(3, .int (nI (c9 + 1))), (2, .int (nI l9)), (0, .int (nI t9)), (1, .int (nI n9))]) X.1 X.2.1 dX7_cardLeft_34 hl (k := 3) rfl (nI_add c9 1) (by decide) rfl (fun ls hl => ?_)
            refine lv_goto (tgt := 4) X.1 X.2.1 dX7_cardLeft_37 (by decide) ?_
            exact ih l9 (c9 + 1) (by omega) (by have q9 := h1; unfold frC at q9; rw [if_pos k_24] at q9; omega) (by rw [← h2]; exact ((if_pos (Or.inr k_24)).trans (congrArg (fun z => clF t9 f z (c9 + 1)) (if_pos k_24))).symm) ls (lv_sub hl [2, 3, 1, 0] rfl)
  exact L4 20 n9 0 rfl hn9 rfl ls (lv_sub hl [2, 3, 1, 0] rfl)

/-- i cards drawn: the number, the cards, the first five -/
def drF (s : Nat) : Nat → Nat × Nat × Nat
  | 0 => (s, 0, 0)
  | i + 1 => (((drF s i).1 * 1103 + 12345) % 65536, (drF s i).2.1 ||| 2 ^ clF (drF s i).2.1 20 (((drF s i).1 * 1103 + 12345) % 65536 % (20 - i)) 0, if i = 4 then (drF s i).2.1 ||| 2 ^ clF (drF s i).2.1 20 (((drF s i).1 * 1103 + 12345) % 65536 % (20 - i)) 0 else (drF s i).2.2)
theorem frC_0 : ∀ f c, frC 0 f c = f
  | 0, _ => rfl
  | f + 1, c => by
    unfold frC
    rw [Nat.zero_div, if_neg (by decide), frC_0 f (c + 1)]
    omega
theorem drF_ok (s : Nat) (hs : s < 65536) : ∀ i, i ≤ 10 → (drF s i).1 < 65536 ∧ (drF s i).2.1 < 2 ^ 20 ∧ (drF s i).2.2 < 2 ^ 20 ∧ frC (drF s i).2.1 20 0 = 20 - i
  | 0, _ => ⟨hs, by show 0 < 2 ^ 20; decide, by show 0 < 2 ^ 20; decide, frC_0 20 0⟩
  | i + 1, h => by
    have ih := drF_ok s hs i (by omega)
    have hm : ((drF s i).1 * 1103 + 12345) % 65536 % (20 - i) < 20 - i := Nat.mod_lt _ (by omega)
    have hc := clF_ok (drF s i).2.1 20 (((drF s i).1 * 1103 + 12345) % 65536 % (20 - i)) 0 (by omega)
    have ht : (drF s i).2.1 ||| 2 ^ clF (drF s i).2.1 20 (((drF s i).1 * 1103 + 12345) % 65536 % (20 - i)) 0 < 2 ^ 20 := Nat.or_lt_two_pow ih.2.1 (Nat.pow_lt_pow_right (by decide) (by omega))
    have hf := frC_or (drF s i).2.1 _ hc.2.2 20 0 (Nat.zero_le _) hc.2.1
    refine ⟨Nat.mod_lt _ (by decide), ht, ?_, ?_⟩
    · show (if i = 4 then _ else (drF s i).2.2) < 2 ^ 20
      split
      · exact ht
      · exact ih.2.2.1
    · show frC ((drF s i).2.1 ||| 2 ^ clF (drF s i).2.1 20 (((drF s i).1 * 1103 + 12345) % 65536 % (20 - i)) 0) 20 0 = 20 - (i + 1)
      omega
/-- the two hands drawn -/
def drH (s : Nat) : Nat → Nat := fun i => if i = 0 then (drF s 10).2.2 else (drF s 10).2.1 &&& ((drF s 10).2.2 ^^^ 4294967295)
def fDraw (a : Int32) : Int32 := if inI a 0 65535 = 0 then -2 else nI (drF (tn a) 10).2.2
def gDraw (z : ST) (a : Int32) : ST := if inI a 0 65535 = 0 then z else gAnew (z.1, z.2.1, drH (tn a), z.2.2.2)
theorem mh_draw {ar : Nat → Nat → Int32} {s : Nat} (hs : s < 65536) : MH (drH s) (va_up (va_up ar 1 (upd (ar 1) (0 : Int32).toNatClampNeg (nI (drF s 10).2.2))) 1 (upd (upd (ar 1) (0 : Int32).toNatClampNeg (nI (drF s 10).2.2)) (1 : Int32).toNatClampNeg (nI ((drF s 10).2.1 &&& ((drF s 10).2.2 ^^^ 4294967295))))) := by
  have h := drF_ok s hs 10 (by decide)
  refine ⟨fun i hi => ?_, fun i hi => ?_⟩
  · show upd (upd (ar 1) 0 (nI (drF s 10).2.2)) 1 (nI ((drF s 10).2.1 &&& ((drF s 10).2.2 ^^^ 4294967295))) i = nI (drH s i)
    rcases (show i = 0 ∨ i = 1 by omega) with rfl | rfl
    · rfl
    · rfl
  · have h2 : (drF s 10).2.1 &&& ((drF s 10).2.2 ^^^ 4294967295) ≤ (drF s 10).2.1 := Nat.and_le_left
    unfold drH
    split <;> omega
set_option maxHeartbeats 4000000 in
set_option maxRecDepth 100000 in
theorem c_X7_draw (l : Launch) (G : HG) (A : Nat → Prop) (hp : HP) (sz : Nat) (hA : ∀ q, sz ≤ q → A q) (hO : Ow A hp) (M : Nat → Nat) (sc : Nat → Int32) (ar : Nat → Nat → Int32) (sm : Nat → Int64) (hM : MR G hp M sc ar sm) (n : Nat) (R : Nat → Nat → Nat) (hd : Nat → Nat) (k : Nat) (cs : Nat → Nat → Int32) (sk : Bool) (pn : Nat) (pt : Nat → Nat) (hz : MST (n, R, hd, k, cs, sk, pn, pt) sc ar) (a : Int32) : Met l yX7_draw [.code yX7_draw cX7_draw 6 (some .int)] { frames := 1, cells := 0, slots := 0, locals := 23 } (va_Pc [.ref (M 0), .int a] (WP G A sz hp)) (va_Qi (fun r hp1 => r = fDraw a ∧ ∃ sc1 ar1 sm1, MR G hp1 M sc1 ar1 sm1 ∧ MST (gDraw (n, R, hd, k, cs, sk, pn, pt) a) sc1 ar1) (WB G A) A) 0 0 A := by
  refine wr_ofW (by decide) (Nat.le_of_ble_eq_true rfl) hO ?_
  intro p e s m args below meth c ls X hr hlk hnm hsz hW hl
  have hA : ∀ q, s.heap.size ≤ q → A q := fun q h => hA q (by omega)
  have hl : lv_has ls 6 [(0, .ref (M 0)), (1, .int a)] := hl
  have hT : MT ar := hz.1
  have hU : MU n R sc ar := hz.2.1
  have hH2 : MH hd ar := hz.2.2.1
  have hau : MAu k cs sk sc ar := hz.2.2.2.1
  have hP : MP pn pt sc ar := hz.2.2.2.2
  have hn := hU.2.1
  have hk := hau.2.1
  refine lv_iload_n X.1 X.2.1 dX7_draw_0 rfl (lv_at hl 1 rfl) ?_
  refine lv_iconst (v := 0) X.1 X.2.1 dX7_draw_1 (by decide) ?_
  refine r_const X tw_985 dX7_draw_2 ?_
  refine on_Si (run_S (As := [.int a, .int 0, .int 65535]) (rest := []) X (c_X7_in l G hp a 0 65535) (rp_blind _) (rp_at X hW.1 hW.2.2) mf_X7_in tw_907 tw_908 ⟨rfl, rfl, Nat.le_of_ble_eq_true rfl, Nat.le_of_ble_eq_true rfl⟩ hl.1 rfl rfl (Nat.le_of_ble_eq_true rfl) ⟨Nat.le_of_ble_eq_true rfl, Nat.le_of_ble_eq_true rfl⟩ dX7_draw_4) (fun r_4 q_4 => ?_)
  obtain rfl : r_4 = (inI a 0 65535) := q_4
  refine lv_if_ne (tgt := 13) X.1 X.2.1 dX7_draw_7 (by decide) (fun c_7 => ?_) (fun c_7 => ?_)
  · obtain ⟨xa, hxa, rfl⟩ := inI_nat (hi := 65535) c_7 (by decide)
    refine lv_iload_n X.1 X.2.1 dX7_draw_13 rfl (lv_at hl 1 rfl) ?_
    refine lv_istore_n (lv' := [(2, .int (nI xa)), (0, .ref (M 0)), (1, .int (nI xa))]) X.1 X.2.1 dX7_draw_14 rfl hl (by decide) rfl (fun ls hl => ?_)
    refine lv_iconst (v := 0) X.1 X.2.1 dX7_draw_15 (by decide) ?_
    refine lv_istore_n (lv' := [(3, .int 0), (2, .int (nI xa)), (0, .ref (M 0)), (1, .int (nI xa))]) X.1 X.2.1 dX7_draw_16 rfl hl (by decide) rfl (fun ls hl => ?_)
    refine lv_iconst (v := 0) X.1 X.2.1 dX7_draw_17 (by decide) ?_
    refine lv_istore (lv' := [(4, .int 0), (3, .int 0), (2, .int (nI xa)), (0, .ref (M 0)), (1, .int (nI xa))]) X.1 X.2.1 dX7_draw_18 hl (by decide) rfl (fun ls hl => ?_)
    refine lv_iconst (v := 0) X.1 X.2.1 dX7_draw_20 (by decide) ?_
    refine lv_istore (lv' := [(5, .int 0), (4, .int 0), (3, .int 0), (2, .int (nI xa)), (0, .ref (M 0)), (1, .int (nI xa))]) X.1 X.2.1 dX7_draw_21 hl (by decide) rfl (fun ls hl => ?_)
    have L23 : ∀ (f : Nat) (i : Nat), i + f = 10 → ∀ ls, lv_has ls 6 [(0, .ref (M 0)), (1, .int (nI xa)), (2, .int (nI ((drF xa i).1))), (3, .int (nI ((drF xa i).2.1))), (4, .int (nI ((drF xa i).2.2))), (5, .int (nI i))] → W p l e ({ frames := 1, cells := 0, slots := 0, locals := 23 } : Room) s m args below meth c s.heap [] 0 0 (MQ below (va_Qi (fun r hp1 => r = fDraw (nI xa) ∧ ∃ sc1 ar1 sm1, MR G hp1 M sc1 ar1 sm1 ∧ MST (gDraw (n, R, hd, k, cs, sk, pn, pt) (nI xa)) sc1 ar1) (WB G A) A) args s 0 0 A) (F0 m 23 ls []) := by
      intro f
      induction f with
      | zero =>
        intro i h0 ls hl
        have h10 : i = 10 := by omega
        refine lv_iload X.1 X.2.1 dX7_draw_23 (lv_at hl 5 rfl) ?_
        refine lv_bipush (v := 10) X.1 X.2.1 dX7_draw_25 (by decide) ?_
        refine lv_icmp_ge (tgt := 79) X.1 X.2.1 dX7_draw_27 (by decide) (fun c_27 => ?_) (fun c_27 => absurd (nI_le (a := 10) (b := i) (by omega) (by omega)) c_27)
        obtain rfl : i = 10 := by omega
        have hdr := drF_ok xa (by omega) 10 (by decide)
        refine lv_aload_n X.1 X.2.1 dX7_draw_79 rfl (lv_at hl 0 rfl) ?_
        refine r_get X hW.1 hM.1 (v := .ref (M 2)) (C := RX7) (T := TX7) (N := 19) rfl tin_X7 2 (by decide) tw_845 (fun _ h => h) rfl dX7_draw_80 ?_
        refine lv_iconst (v := 0) X.1 X.2.1 dX7_draw_83 (by decide) ?_
        refine lv_iload X.1 X.2.1 dX7_draw_84 (lv_at hl 4 rfl) ?_
        refine r_iast X hW (hM.2.1 1 (by decide)) (show vp_in (0) 2 from vp_in_nI (n := 0) (by omega) (by decide)) dX7_draw_86 (fun hp_1 H locs hW eh_2 => ?_)
        have hM := mr_ar hM 1 (by decide) eh_2
        refine lv_aload_n X.1 X.2.1 dX7_draw_87 rfl (lv_at hl 0 rfl) ?_
        refine r_get X hW.1 hM.1 (v := .ref (M 2)) (C := RX7) (T := TX7) (N := 19) rfl tin_X7 2 (by decide) tw_845 (fun _ h => h) rfl dX7_draw_88 ?_
        refine lv_iconst (v := 1) X.1 X.2.1 dX7_draw_91 (by decide) ?_
        refine lv_iload_n X.1 X.2.1 dX7_draw_92 rfl (lv_at hl 3 rfl) ?_
        refine lv_iload X.1 X.2.1 dX7_draw_93 (lv_at hl 4 rfl) ?_
        refine lv_iconst (v := (-1)) X.1 X.2.1 dX7_draw_95 (by decide) ?_
        refine lv_ixor X.1 X.2.1 dX7_draw_96 ?_
        refine r_eqi (show (((nI ((drF xa 10).2.2)) ^^^ (-1)) : Int32) = nI (((drF xa 10).2.2) ^^^ 4294967295) from n_xor ((drF xa 10).2.2) 4294967295) ?_
        refine lv_iand X.1 X.2.1 dX7_draw_97 ?_
        refine r_eqi (show (((nI ((drF xa 10).2.1)) &&& (nI (((drF xa 10).2.2) ^^^ 4294967295))) : Int32) = nI (((drF xa 10).2.1) &&& (((drF xa 10).2.2) ^^^ 4294967295)) from n_and ((drF xa 10).2.1) (((drF xa 10).2.2) ^^^ 4294967295)) ?_
        refine r_iast X hW (hM.2.1 1 (by decide)) (show vp_in (1) 2 from vp_in_nI (n := 1) (by omega) (by decide)) dX7_draw_98 (fun hp_3 H locs hW eh_4 => ?_)
        have hM := mr_ar hM 1 (by decide) eh_4
        refine lv_aload_n X.1 X.2.1 dX7_draw_99 rfl (lv_at hl 0 rfl) ?_
        refine on_Wv (k' := 0) (n' := 0) (run_V (C := RX7) (As := []) (rest := []) X (c_X7_anew l G A hp_3 _ (fun q h => hA q (Nat.le_trans hW.2.2.1 h)) hW.2.1 M sc (va_up (va_up ar 1 (upd (ar 1) (0 : Int32).toNatClampNeg (nI ((drF xa 10).2.2)))) 1 (upd (upd (ar 1) (0 : Int32).toNatClampNeg (nI ((drF xa 10).2.2))) (1 : Int32).toNatClampNeg (nI (((drF xa 10).2.1) &&& (((drF xa 10).2.2) ^^^ 4294967295))))) sm hM) (wp_blind _) (wp_at X hW.1 hW.2.2) (recv X hW.1 hM.1 (C := RX7) (T := TX7) (N := 19) rfl) mf_X7_anew tw_839 tw_841 tw_26 ⟨rfl, rfl, Nat.le_of_ble_eq_true rfl, Nat.le_of_ble_eq_true rfl⟩ hl.1 rfl rfl (Nat.le_of_ble_eq_true rfl) ⟨Nat.le_of_ble_eq_true rfl, Nat.le_of_ble_eq_true rfl⟩ dX7_draw_100) hW (by omega) (by omega) (fun hp_5 H locs q_100 hW => ?_)
        have hM := q_100
        refine lv_iload X.1 X.2.1 dX7_draw_103 (lv_at hl 4 rfl) ?_
        exact wr_i X hr hlk hW ⟨(by rw [show fDraw (nI xa) = nI (drF (tn (nI xa)) 10).2.2 from if_neg c_7, tn_n (by omega)]), _, _, _, hM, by rw [show gDraw (n, R, hd, k, cs, sk, pn, pt) (nI xa) = gAnew (n, R, drH (tn (nI xa)), k, cs, sk, pn, pt) from if_neg c_7, tn_n (by omega)]; exact MST.anew (z := (n, R, drH xa, k, cs, sk, pn, pt)) ⟨hT, hU, mh_draw (by omega), hau, hP⟩⟩ (Nat.le_of_ble_eq_true rfl) (Nat.le_of_ble_eq_true rfl) dX7_draw_105
      | succ f ih =>
        intro i h0 ls hl
        have h10 : i < 10 := by omega
        have hdr := drF_ok xa (by omega) i (by omega)
        have hml : (((drF xa i).1 * 1103 + 12345) % 65536) % (20 - i) < 20 - i := Nat.mod_lt _ (by omega)
        have hcl := clF_ok (drF xa i).2.1 20 ((((drF xa i).1 * 1103 + 12345) % 65536) % (20 - i)) 0 (by omega)
        have hz9 : ((drF xa i).1 * 1103 + 12345) % 65536 < 65536 := Nat.mod_lt _ (by decide)
        refine lv_iload X.1 X.2.1 dX7_draw_23 (lv_at hl 5 rfl) ?_
        refine lv_bipush (v := 10) X.1 X.2.1 dX7_draw_25 (by decide) ?_
        refine lv_icmp_ge (tgt := 79) X.1 X.2.1 dX7_draw_27 (by decide) (fun c_27 => absurd c_27 (nI_ge (a := i) (b := 10) (by omega) (by decide))) (fun c_27 => ?_)
        refine lv_iload_n X.1 X.2.1 dX7_draw_30 rfl (lv_at hl 2 rfl) ?_
        refine lv_sipush (v := 1103) X.1 X.2.1 dX7_draw_31 (by decide) ?_
        refine lv_imul X.1 X.2.1 dX7_draw_34 ?_
        refine r_eqi (show (((nI ((drF xa i).1)) * 1103) : Int32) = nI (((drF xa i).1) * 1103) from pk_mul ((drF xa i).1) 1103) ?_
        refine lv_sipush (v := 12345) X.1 X.2.1 dX7_draw_35 (by decide) ?_
        refine lv_iadd X.1 X.2.1 dX7_draw_38 ?_
        refine r_eqi (show (((nI (((drF xa i).1) * 1103)) + 12345) : Int32) = nI ((((drF xa i).1) * 1103) + 12345) from nI_add (((drF xa i).1) * 1103) 12345) ?_
        refine r_const X tw_986 dX7_draw_39 ?_
        refine lv_irem X.1 X.2.1 dX7_draw_41 (by decide) ?_
        refine r_eqi (show (((nI ((((drF xa i).1) * 1103) + 12345)) - (nI ((((drF xa i).1) * 1103) + 12345)) / 65536 * 65536) : Int32) = nI (((((drF xa i).1) * 1103) + 12345) % 65536) from pk_rem (a := ((((drF xa i).1) * 1103) + 12345)) (d := 65536) (by omega) (by omega) (by omega)) ?_
        refine lv_istore_n (lv' := [(2, .int (nI (((((drF xa i).1) * 1103) + 12345) % 65536))), (0, .ref (M 0)), (1, .int (nI xa)), (3, .int (nI ((drF xa i).2.1))), (4, .int (nI ((drF xa i).2.2))), (5, .int (nI i))]) X.1 X.2.1 dX7_draw_42 rfl hl (by decide) rfl (fun ls hl => ?_)
        refine lv_iload_n X.1 X.2.1 dX7_draw_43 rfl (lv_at hl 3 rfl) ?_
        refine lv_iconst (v := 1) X.1 X.2.1 dX7_draw_44 (by decide) ?_
        refine lv_iload_n X.1 X.2.1 dX7_draw_45 rfl (lv_at hl 3 rfl) ?_
        refine lv_iload_n X.1 X.2.1 dX7_draw_46 rfl (lv_at hl 0 rfl) ?_
        refine lv_bipush (v := 20) X.1 X.2.1 dX7_draw_47 (by decide) ?_
        refine lv_iload X.1 X.2.1 dX7_draw_49 (lv_at hl 5 rfl) ?_
        refine lv_isub X.1 X.2.1 dX7_draw_51 ?_
        refine r_eqi (show (((20 : Int32) - (nI i)) : Int32) = nI (20 - i) from pk_sub (a := 20) (b := i) (by omega)) ?_
        refine lv_irem X.1 X.2.1 dX7_draw_52 (nI_ne0 (by omega) (by omega)) ?_
        refine r_eqi (show (((nI (((((drF xa i).1) * 1103) + 12345) % 65536)) - (nI (((((drF xa i).1) * 1103) + 12345) % 65536)) / (nI (20 - i)) * (nI (20 - i))) : Int32) = nI ((((((drF xa i).1) * 1103) + 12345) % 65536) % (20 - i)) from pk_rem (a := (((((drF xa i).1) * 1103) + 12345) % 65536)) (d := (20 - i)) (by omega) (by omega) (by omega)) ?_
        refine on_Si (run_S (As := [.int (nI ((drF xa i).2.1)), .int (nI ((((((drF xa i).1) * 1103) + 12345) % 65536) % (20 - i)))]) (rest := [.int 1, .int (nI ((drF xa i).2.1))]) X (c_X7_cardLeft l G hp ((drF xa i).2.1) ((((((drF xa i).1) * 1103) + 12345) % 65536) % (20 - i)) (by omega) (by omega)) (rp_blind _) (rp_at X hW.1 hW.2.2) mf_X7_cardLeft tw_987 tw_988 ⟨rfl, rfl, Nat.le_of_ble_eq_true rfl, Nat.le_of_ble_eq_true rfl⟩ hl.1 rfl rfl (Nat.le_of_ble_eq_true rfl) ⟨Nat.le_of_ble_eq_true rfl, Nat.le_of_ble_eq_true rfl⟩ dX7_draw_53) (fun r_53 q_53 => ?_)
        obtain rfl : r_53 = (nI (clF ((drF xa i).2.1) 20 ((((((drF xa i).1) * 1103) + 12345) % 65536) % (20 - i)) 0)) := q_53
        refine lv_ishl X.1 X.2.1 dX7_draw_56 ?_
        refine r_eqi (show ((1 <<< ((nI (clF ((drF xa i).2.1) 20 ((((((drF xa i).1) * 1103) + 12345) % 65536) % (20 - i)) 0)) &&& 31)) : Int32) = nI (2 ^ clF (drF xa i).2.1 20 ((((drF xa i).1 * 1103 + 12345) % 65536) % (20 - i)) 0) from shlV _ (by omega)) ?_
        refine lv_ior X.1 X.2.1 dX7_draw_57 ?_
        refine r_eqi (show (((nI ((drF xa i).2.1)) ||| (nI (2 ^ clF (drF xa i).2.1 20 ((((drF xa i).1 * 1103 + 12345) % 65536) % (20 - i)) 0))) : Int32) = nI (((drF xa i).2.1) ||| (2 ^ clF (drF xa i).2.1 20 ((((drF xa i).1 * 1103 + 12345) % 65536) % (20 - i)) 0)) from n_or ((drF xa i).2.1) (2 ^ clF (drF xa i).2.1 20 ((((drF xa i).1 * 1103 + 12345) % 65536) % (20 - i)) 0)) ?_
        refine lv_istore_n (lv' := [(3, .int (nI (((drF xa i).2.1) ||| (2 ^ clF (drF xa i).2.1 20 ((((drF xa i).1 * 1103 + 12345) % 65536) % (20 - i)) 0)))), (2, .int (nI (((((drF xa i).1) * 1103) + 12345) % 65536))), (0, .ref (M 0)), (1, .int (nI xa)), (4, .int (nI ((drF xa i).2.2))), (5, .int (nI i))]) X.1 X.2.1 dX7_draw_58 rfl hl (by decide) rfl (fun ls hl => ?_)
        refine lv_iload X.1 X.2.1 dX7_draw_59 (lv_at hl 5 rfl) ?_
        refine lv_iconst (v := 4) X.1 X.2.1 dX7_draw_61 (by decide) ?_
        refine lv_icmp_ne (tgt := 69) X.1 X.2.1 dX7_draw_62 (by decide) (fun c_62 => ?_) (fun c_62 => ?_)
        · have k_62 := k_ne (a := i) (b := 4) (by omega) (by omega) c_62
          refine lv_iload X.1 X.2.1 dX7_draw_69 (lv_at hl 4 rfl) ?_
          refine lv_istore (lv' := [(4, .int (nI ((drF xa i).2.2))), (3, .int (nI (((drF xa i).2.1) ||| (2 ^ clF (drF xa i).2.1 20 ((((drF xa i).1 * 1103 + 12345) % 65536) % (20 - i)) 0)))), (2, .int (nI (((((drF xa i).1) * 1103) + 12345) % 65536))), (0, .ref (M 0)), (1, .int (nI xa)), (5, .int (nI i))]) X.1 X.2.1 dX7_draw_71 hl (by decide) rfl (fun ls hl => ?_)
          refine lv_iinc (v := (nI (i + 1))) (lv' := [(5, .int (nI (i + 1))), (4, .int (nI ((drF xa i).2.2))), (3, .int (nI (((drF xa i).2.1) ||| (2 ^ clF (drF xa i).2.1 20 ((((drF xa i).1 * 1103 + 12345) % 65536) % (20 - i)) 0)))), (2, .int (nI (((((drF xa i).1) * 1103) + 12345) % 65536))), (0, .ref (M 0)), (1, .int (nI xa))]) X.1 X.2.1 dX7_draw_73 hl (k := 5) rfl (nI_add i 1) (by decide) rfl (fun ls hl => ?_)
          refine lv_goto (tgt := 23) X.1 X.2.1 dX7_draw_76 (by decide) ?_
          exact ih (i + 1) (by omega) ls (by rw [show drF xa (i + 1) = (((drF xa i).1 * 1103 + 12345) % 65536, (drF xa i).2.1 ||| 2 ^ clF (drF xa i).2.1 20 ((((drF xa i).1 * 1103 + 12345) % 65536) % (20 - i)) 0, (drF xa i).2.2) from congrArg (fun z => (((drF xa i).1 * 1103 + 12345) % 65536, (drF xa i).2.1 ||| 2 ^ clF (drF xa i).2.1 20 ((((drF xa i).1 * 1103 + 12345) % 65536) % (20 - i)) 0, z)) (if_neg k_62)]; exact (lv_sub hl [4, 5, 3, 2, 1, 0] rfl))
        · have k_62 := k_eq (a := i) (b := 4) (by omega) (by omega) c_62
          refine lv_iload_n X.1 X.2.1 dX7_draw_65 rfl (lv_at hl 0 rfl) ?_
          refine lv_goto (tgt := 71) X.1 X.2.1 dX7_draw_66 (by decide) ?_
          refine lv_istore (lv' := [(4, .int (nI (((drF xa i).2.1) ||| (2 ^ clF (drF xa i).2.1 20 ((((drF xa i).1 * 1103 + 12345) % 65536) % (20 - i)) 0)))), (3, .int (nI (((drF xa i).2.1) ||| (2 ^ clF (drF xa i).2.1 20 ((((drF xa i).1 * 1103 + 12345) % 65536) % (20 - i)) 0)))), (2, .int (nI (((((drF xa i).1) * 1103) + 12345) % 65536))), (0, .ref (M 0)), (1, .int (nI xa)), (5, .int (nI i))]) X.1 X.2.1 dX7_draw_71 hl (by decide) rfl (fun ls hl => ?_)
          refine lv_iinc (v := (nI (i + 1))) (lv' := [(5, .int (nI (i + 1))), (4, .int (nI (((drF xa i).2.1) ||| (2 ^ clF (drF xa i).2.1 20 ((((drF xa i).1 * 1103 + 12345) % 65536) % (20 - i)) 0)))), (3, .int (nI (((drF xa i).2.1) ||| (2 ^ clF (drF xa i).2.1 20 ((((drF xa i).1 * 1103 + 12345) % 65536) % (20 - i)) 0)))), (2, .int (nI (((((drF xa i).1) * 1103) + 12345) % 65536))), (0, .ref (M 0)), (1, .int (nI xa))]) X.1 X.2.1 dX7_draw_73 hl (k := 5) rfl (nI_add i 1) (by decide) rfl (fun ls hl => ?_)
          refine lv_goto (tgt := 23) X.1 X.2.1 dX7_draw_76 (by decide) ?_
          exact ih (i + 1) (by omega) ls (by rw [show drF xa (i + 1) = (((drF xa i).1 * 1103 + 12345) % 65536, (drF xa i).2.1 ||| 2 ^ clF (drF xa i).2.1 20 ((((drF xa i).1 * 1103 + 12345) % 65536) % (20 - i)) 0, (drF xa i).2.1 ||| 2 ^ clF (drF xa i).2.1 20 ((((drF xa i).1 * 1103 + 12345) % 65536) % (20 - i)) 0) from congrArg (fun z => (((drF xa i).1 * 1103 + 12345) % 65536, (drF xa i).2.1 ||| 2 ^ clF (drF xa i).2.1 20 ((((drF xa i).1 * 1103 + 12345) % 65536) % (20 - i)) 0, z)) (if_pos k_62)]; exact (lv_sub hl [4, 5, 3, 2, 1, 0] rfl))
    exact L23 10 0 rfl ls (lv_sub hl [4, 5, 3, 2, 1, 0] rfl)
  · refine lv_bipush (v := (-2)) X.1 X.2.1 dX7_draw_10 (by decide) ?_
    exact wr_i X hr hlk hW ⟨(if_pos c_7).symm, _, _, _, hM, by rw [show gDraw (n, R, hd, k, cs, sk, pn, pt) a = (n, R, hd, k, cs, sk, pn, pt) from if_pos c_7]; exact hz⟩ (Nat.le_of_ble_eq_true rfl) (Nat.le_of_ble_eq_true rfl) dX7_draw_12

