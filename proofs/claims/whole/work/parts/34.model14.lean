/-! characters in a long -/
theorem l9_bv (n : Nat) : (lN n).toBitVec = BitVec.ofNat 64 n := rfl
theorem l9_nat {n : Nat} (h : n < 2 ^ 64) : (lN n).toBitVec.toNat = n := by
  rw [l9_bv, BitVec.toNat_ofNat]
  exact Nat.mod_eq_of_lt h
theorem l_shrN {n : Nat} (h : n < 2 ^ 63) (s : Int64) (k : Nat) (hs : (s.toBitVec.smod 64).toNat = k) : lN n >>> s = lN (n / 2 ^ k) := by
  apply Int64.toInt_inj.mp
  have h2 : n / 2 ^ k ≤ n := Nat.div_le_self _ _
  have e : (lN n >>> s).toInt = (lN n).toInt >>> k := by
    show ((lN n).toBitVec.sshiftRight (s.toBitVec.smod 64).toNat).toInt = _
    rw [hs, BitVec.toInt_sshiftRight]
    rfl
  rw [e, pk_lT h, pk_lT (by omega), Int.shiftRight_eq_div_pow]
  rfl
theorem l_ushrN {n : Nat} (hn : n < 2 ^ 64) (t : UInt64) (k : Nat) (hs : (t.toBitVec % 64).toNat = k) : ((lN n).toUInt64 >>> t).toInt64 = lN (n / 2 ^ k) := by
  apply Int64.toBitVec_inj.mp
  apply BitVec.eq_of_toNat_eq
  have e : ((lN n).toUInt64 >>> t).toInt64.toBitVec = (lN n).toBitVec >>> k := by
    rw [← hs]
    exact UInt64.toBitVec_shiftRight _ _
  rw [e, BitVec.toNat_ushiftRight, Nat.shiftRight_eq_div_pow, l9_nat hn, l9_nat (Nat.lt_of_le_of_lt (Nat.div_le_self _ _) hn)]
theorem ls_l : ∀ n, n < 64 → ((Int32.toInt64 (nI n) &&& 63).toBitVec.smod 64).toNat = n := by decide +kernel
theorem lus_l : ∀ n, n < 64 → (((Int32.toInt64 (nI n)).toUInt64 &&& Int64.toUInt64 63).toBitVec % 64).toNat = n := by decide +kernel
theorem lN_and255 (n : Nat) : lN n &&& 255 = lN (n % 256) := by
  apply Int64.toBitVec_inj.mp
  show (lN n).toBitVec &&& (lN 255).toBitVec = _
  rw [l9_bv, l9_bv, l9_bv]
  apply BitVec.eq_of_toNat_eq
  rw [BitVec.toNat_and, BitVec.toNat_ofNat, BitVec.toNat_ofNat, BitVec.toNat_ofNat, show 255 % 2 ^ 64 = 2 ^ 8 - 1 from rfl, Nat.and_two_pow_sub_one_eq_mod]
  omega
def pcF : Nat → Nat → Option Nat
  | 0, x => if x = 0 then some 0 else none
  | f + 1, x => if x = 0 then some 0 else if 33 ≤ x % 256 ∧ x % 256 ≤ 126 then (pcF f (x / 256)).map (· + 1) else none
def chN (C m j : Nat) : Nat := C / 256 ^ (m - 1 - j) % 256
def fPut (z : ST) (C : Nat) : Int32 := match pcF 8 C with
  | none => -2
  | some m => if m = 0 then -2 else if 60 < z.2.2.2.2.2.2.1 + m then -4 else nI (z.2.2.2.2.2.2.1 + m)
def gPut (z : ST) (C : Nat) : ST := match pcF 8 C with
  | none => z
  | some m => if m = 0 then z else if 60 < z.2.2.2.2.2.2.1 + m then z else gPad z (z.2.2.2.2.2.2.1 + m) (fun i => if i < z.2.2.2.2.2.2.1 then z.2.2.2.2.2.2.2 i else chN C m (i - z.2.2.2.2.2.2.1))
theorem pu_none {z : ST} {C : Nat} (h : pcF 8 C = none) : -2 = fPut z C ∧ gPut z C = z := by
  unfold fPut gPut
  rw [h]
  exact ⟨rfl, rfl⟩
theorem pu_0 {z : ST} {C : Nat} (h : pcF 8 C = some 0) : -2 = fPut z C ∧ gPut z C = z := by
  unfold fPut gPut
  rw [h]
  exact ⟨rfl, rfl⟩
theorem pu_full {z : ST} {C m : Nat} (h : pcF 8 C = some m) (h0 : ¬ m = 0) (h1 : 60 < z.2.2.2.2.2.2.1 + m) : -4 = fPut z C ∧ gPut z C = z := by
  unfold fPut gPut
  rw [h]
  exact ⟨((if_neg h0).trans (if_pos h1)).symm, (if_neg h0).trans (if_pos h1)⟩
theorem pu_ok {z : ST} {C m : Nat} (h : pcF 8 C = some m) (h0 : ¬ m = 0) (h1 : ¬ 60 < z.2.2.2.2.2.2.1 + m) : nI (z.2.2.2.2.2.2.1 + m) = fPut z C ∧ gPut z C = gPad z (z.2.2.2.2.2.2.1 + m) (fun i => if i < z.2.2.2.2.2.2.1 then z.2.2.2.2.2.2.2 i else chN C m (i - z.2.2.2.2.2.2.1)) := by
  unfold fPut gPut
  rw [h]
  exact ⟨((if_neg h0).trans (if_neg h1)).symm, (if_neg h0).trans (if_neg h1)⟩
theorem pc_step {f i C y : Nat} (h : pcF 8 C = (pcF (f + 1) y).map (· + i)) (hy : ¬ y % 256 = 0) (hc : 33 ≤ y % 256 ∧ y % 256 ≤ 126) : pcF 8 C = (pcF f (y / 256)).map (· + (i + 1)) := by
  have e : pcF (f + 1) y = (pcF f (y / 256)).map (· + 1) := (if_neg (fun q => hy (by rw [q]))).trans (if_pos hc)
  rw [h, e, Option.map_map]
  congr 1
  funext x
  show x + 1 + i = x + (i + 1)
  omega
theorem pc_bad {f i C y : Nat} (h : pcF 8 C = (pcF (f + 1) y).map (· + i)) (hy : ¬ y = 0) (hc : ¬ (33 ≤ y % 256 ∧ y % 256 ≤ 126)) : pcF 8 C = none := by
  have e : pcF (f + 1) y = none := (if_neg hy).trans (if_neg hc)
  rw [h, e]; rfl
theorem pc_end {f i C y : Nat} (h : pcF 8 C = (pcF f y).map (· + i)) (hy : y = 0) : pcF 8 C = some i := by
  have e : pcF f y = some 0 := by cases f <;> exact if_pos hy
  rw [h, e]
  show some (0 + i) = _
  rw [Nat.zero_add]
theorem pc_bad0 {i C y : Nat} (h : pcF 8 C = (pcF 0 y).map (· + i)) (hy : ¬ y = 0) : pcF 8 C = none := by
  have e : pcF 0 y = none := if_neg hy
  rw [h, e]; rfl
theorem ch_lt {C i : Nat} (h8 : i ≤ 8) (h : ∀ j, j < i → C / 256 ^ j % 256 ≤ 126) (h0 : C / 256 ^ i = 0) : C < 2 ^ 63 := by
  have hp : 0 < 256 ^ i := Nat.pow_pos (by decide)
  have h1 : C < 256 ^ i := (Nat.div_eq_zero_iff_lt hp).mp h0
  by_cases c : i = 8
  · subst c
    have h7 := h 7 (by decide)
    have : C < 256 ^ 8 := h1
    omega
  · have : 256 ^ i ≤ 256 ^ 7 := Nat.pow_le_pow_right (by decide) (by omega)
    omega
theorem pu_step {g f : Nat → Int32} {b i : Nat} {q : Nat → Nat} {v : Int32} (hi : b + i < 2 ^ 31) (h1 : ∀ j, j < b → g j = f j) (h2 : ∀ j, j < i → g (b + j) = nI (q j)) (e : v = nI (q i)) : (∀ j, j < b → upd g (nI (b + i)).toNatClampNeg v j = f j) ∧ (∀ j, j < i + 1 → upd g (nI (b + i)).toNatClampNeg v (b + j) = nI (q j)) := by
  rw [nI_clamp hi]
  refine ⟨fun j hj => ?_, fun j hj => ?_⟩
  · have : ¬ j = b + i := by omega
    simp [upd, this, h1 j hj]
  · by_cases c : j = i
    · simp [upd, c, e]
    · simp [upd, c, h2 j (by omega)]
theorem mp_put {pn : Nat} {pt : Nat → Nat} {sc : Nat → Int32} {ar : Nat → Nat → Int32} {C m : Nat} {g : Nat → Int32} (h : MP pn pt sc ar) (hm : pn + m ≤ 60) (h1 : ∀ j, j < pn → g j = ar 9 j) (h2 : ∀ j, j < m → g (pn + j) = nI (chN C m j)) (hc : ∀ j, j < m → 33 ≤ C / 256 ^ j % 256 ∧ C / 256 ^ j % 256 ≤ 126) : MP (pn + m) (fun i => if i < pn then pt i else chN C m (i - pn)) (va_up sc 3 (nI (pn + m))) (va_up ar 9 g) := by
  refine ⟨rfl, hm, fun i hi => ?_, fun i hi => ?_⟩
  · show g i = nI (if i < pn then pt i else chN C m (i - pn))
    by_cases c : i < pn
    · rw [if_pos c, h1 i c]
      exact h.2.2.1 i c
    · rw [if_neg c]
      have := h2 (i - pn) (by omega)
      rw [show pn + (i - pn) = i by omega] at this
      exact this
  · show 33 ≤ (if i < pn then pt i else chN C m (i - pn)) ∧ (if i < pn then pt i else chN C m (i - pn)) ≤ 126
    by_cases c : i < pn
    · rw [if_pos c]
      exact h.2.2.2 i c
    · rw [if_neg c]
      exact hc (m - 1 - (i - pn)) (by omega)
theorem pk_lEQ_ {a : Nat} (ha : a < 2 ^ 64) : lN a = 0 ↔ a = 0 := by
  refine ⟨fun h => ?_, fun h => by rw [h]; rfl⟩
  have := congrArg (fun z : Int64 => z.toBitVec.toNat) h
  simp only [l9_nat ha] at this
  exact this
set_option maxHeartbeats 4000000 in
set_option maxRecDepth 100000 in
theorem c_X7_put (l : Launch) (G : HG) (A : Nat → Prop) (hp : HP) (sz : Nat) (hA : ∀ q, sz ≤ q → A q) (hO : Ow A hp) (M : Nat → Nat) (sc : Nat → Int32) (ar : Nat → Nat → Int32) (sm : Nat → Int64) (hM : MR G hp M sc ar sm) (n : Nat) (R : Nat → Nat → Nat) (hd : Nat → Nat) (k : Nat) (cs : Nat → Nat → Int32) (sk : Bool) (pn : Nat) (pt : Nat → Nat) (hz : MST (n, R, hd, k, cs, sk, pn, pt) sc ar) (C : Nat) (hC : C < 2 ^ 64) : Met l yX7_put [.code yX7_put cX7_put 7 (some .int)] { frames := 1, cells := 0, slots := 0, locals := 22 } (va_Pc [.ref (M 0), .long (lN C)] (WP G A sz hp)) (va_Qi (fun r hp1 => r = fPut (n, R, hd, k, cs, sk, pn, pt) C ∧ ∃ sc1 ar1 sm1, MR G hp1 M sc1 ar1 sm1 ∧ MST (gPut (n, R, hd, k, cs, sk, pn, pt) C) sc1 ar1) (WB G A) A) 0 0 A := by
  refine wr_ofW (by decide) (Nat.le_of_ble_eq_true rfl) hO ?_
  intro p e s m args below meth c ls X hr hlk hnm hsz hW hl
  have hA : ∀ q, s.heap.size ≤ q → A q := fun q h => hA q (by omega)
  have hl : lv_has ls 7 [(0, .ref (M 0)), (1, .long (lN C))] := hl
  have hT : MT ar := hz.1
  have hU : MU n R sc ar := hz.2.1
  have hH2 : MH hd ar := hz.2.2.1
  have hau : MAu k cs sk sc ar := hz.2.2.2.1
  have hP : MP pn pt sc ar := hz.2.2.2.2
  have hn := hU.2.1
  have hk := hau.2.1
  have hpn := hP.2.1
  refine lv_iconst (v := 0) X.1 X.2.1 dX7_put_0 (by decide) ?_
  refine lv_istore_n (lv' := [(3, .int 0), (0, .ref (M 0)), (1, .long (lN C))]) X.1 X.2.1 dX7_put_1 rfl hl (by decide) rfl (fun ls hl => ?_)
  refine lv_lload_n X.1 X.2.1 dX7_put_2 rfl (lv_at hl 2 rfl) ?_
  refine lv_lstore (lv' := [(4, .long (lN C)), (3, .int 0), (0, .ref (M 0)), (1, .long (lN C))]) X.1 X.2.1 dX7_put_3 hl (by decide) rfl (fun ls hl => ?_)
  have L5 : ∀ (f : Nat) (i : Nat) (y : Nat), i + f = 8 → y = C / 256 ^ i → pcF 8 C = (pcF f y).map (· + i) → (∀ j, j < i → 33 ≤ C / 256 ^ j % 256 ∧ C / 256 ^ j % 256 ≤ 126) → ∀ ls, lv_has ls 7 [(0, .ref (M 0)), (1, .long (lN C)), (3, .int (nI i)), (4, .long (lN y))] → W p l e ({ frames := 1, cells := 0, slots := 0, locals := 22 } : Room) s m args below meth c s.heap [] 0 0 (MQ below (va_Qi (fun r hp1 => r = fPut (n, R, hd, k, cs, sk, pn, pt) C ∧ ∃ sc1 ar1 sm1, MR G hp1 M sc1 ar1 sm1 ∧ MST (gPut (n, R, hd, k, cs, sk, pn, pt) C) sc1 ar1) (WB G A) A) args s 0 0 A) (F0 m 5 ls []) := by
    intro f
    induction f with
    | zero =>
      intro i y h0 h1 h2 h3 ls hl
      have h8 : i = 8 := by omega
      have hy64 : y < 2 ^ 64 := by rw [h1]; exact Nat.lt_of_le_of_lt (Nat.div_le_self _ _) hC
      refine lv_iload_n X.1 X.2.1 dX7_put_5 rfl (lv_at hl 2 rfl) ?_
      refine lv_bipush (v := 8) X.1 X.2.1 dX7_put_6 (by decide) ?_
      refine lv_icmp_ge (tgt := 55) X.1 X.2.1 dX7_put_8 (by decide) (fun c_8 => ?_) (fun c_8 => absurd (nI_le (a := 8) (b := i) (by omega) (by omega)) c_8)
      refine lv_iload_n X.1 X.2.1 dX7_put_55 rfl (lv_at hl 2 rfl) ?_
      refine lv_if_eq (tgt := 66) X.1 X.2.1 dX7_put_56 (by decide) (fun c_56 => ?_) (fun c_56 => ?_)
      · have k_56 := k_eq (a := i) (b := 0) (by omega) (by omega) c_56
        refine lv_bipush (v := (-2)) X.1 X.2.1 dX7_put_66 (by decide) ?_
        obtain ⟨hf, hg⟩ : -2 = fPut (n, R, hd, k, cs, sk, pn, pt) C ∧ gPut (n, R, hd, k, cs, sk, pn, pt) C = (n, R, hd, k, cs, sk, pn, pt) := (Nat.decEq y 0).rec (fun q9 => pu_none (pc_bad0 h2 q9)) (fun q9 => pu_0 (by rw [pc_end h2 q9, k_56]))
        exact wr_i X hr hlk hW ⟨hf, _, _, _, hM, by rw [hg]; exact hz⟩ (Nat.le_of_ble_eq_true rfl) (Nat.le_of_ble_eq_true rfl) dX7_put_68
      · have k_56 := k_ne (a := i) (b := 0) (by omega) (by omega) c_56
        refine lv_lload X.1 X.2.1 dX7_put_59 (lv_at hl 3 rfl) ?_
        refine lv_lconst (v := 0) X.1 X.2.1 dX7_put_61 (by decide) ?_
        refine r_lcmp X.1 X.2.1 dX7_put_62 ?_
        refine lv_if_eq (tgt := 69) X.1 X.2.1 dX7_put_63 (by decide) (fun c_63 => ?_) (fun c_63 => ?_)
        · have k63 : y = 0 := (pk_lEQ_ hy64).mp (lcI_0.mp c_63)
          have hC63 : C < 2 ^ 63 := ch_lt (by omega) (fun j hj => (h3 j hj).2) (by rw [← h1]; exact k63)
          refine lv_aload_n X.1 X.2.1 dX7_put_69 rfl (lv_at hl 0 rfl) ?_
          refine r_get X hW.1 hM.1 (v := .int (sc 3)) (C := RX7) (T := TX7) (N := 19) rfl tin_X7 13 (by decide) tw_856 (fun _ h => h) rfl dX7_put_70 ?_
          refine r_eqi (show ((sc 3) : Int32) = nI pn from hP.1) ?_
          refine lv_iload_n X.1 X.2.1 dX7_put_73 rfl (lv_at hl 2 rfl) ?_
          refine lv_iadd X.1 X.2.1 dX7_put_74 ?_
          refine r_eqi (show (((nI pn) + (nI i)) : Int32) = nI (pn + i) from nI_add pn i) ?_
          refine lv_bipush (v := 60) X.1 X.2.1 dX7_put_75 (by decide) ?_
          refine lv_icmp_le (tgt := 83) X.1 X.2.1 dX7_put_77 (by decide) (fun c_77 => ?_) (fun c_77 => ?_)
          · have k_77 := k_le (a := (pn + i)) (b := 60) (by omega) (by omega) c_77
            refine lv_iconst (v := 0) X.1 X.2.1 dX7_put_83 (by decide) ?_
            refine lv_istore (lv' := [(6, .int 0), (0, .ref (M 0)), (1, .long (lN C)), (3, .int (nI i)), (4, .long (lN y))]) X.1 X.2.1 dX7_put_84 hl (by decide) rfl (fun ls hl => ?_)
            have L862 : ∀ (f2 : Nat) (k9 : Nat) (hpL : HP) (H : Heap) (locs : List Loc) (g : Nat → Int32), MR G hpL M sc (va_up ar 9 g) sm → WS s G A hpL H locs → (k9 + f2 = i) → ((∀ j, j < pn → g j = ar 9 j) ∧ (∀ j, j < k9 → g (pn + j) = nI (chN C i j))) → ∀ ls, lv_has ls 7 [(0, .ref (M 0)), (1, .long (lN C)), (3, .int (nI i)), (4, .long (lN y)), (6, .int (nI k9))] → W p l e ({ frames := 1, cells := 0, slots := 0, locals := 22 } : Room) s m args below meth c H locs 0 0 (MQ below (va_Qi (fun r hp1 => r = fPut (n, R, hd, k, cs, sk, pn, pt) C ∧ ∃ sc1 ar1 sm1, MR G hp1 M sc1 ar1 sm1 ∧ MST (gPut (n, R, hd, k, cs, sk, pn, pt) C) sc1 ar1) (WB G A) A) args s 0 0 A) (F0 m 86 ls []) := by
              intro f2
              induction f2 with
              | zero =>
                intro k9 hpL H locs g hM hW h20 h21 ls hl
                have hk9 : k9 = i := by omega
                refine lv_iload X.1 X.2.1 dX7_put_86 (lv_at hl 4 rfl) ?_
                refine lv_iload_n X.1 X.2.1 dX7_put_88 rfl (lv_at hl 2 rfl) ?_
                refine lv_icmp_ge (tgt := 126) X.1 X.2.1 dX7_put_89 (by decide) (fun c_89 => ?_) (fun c_89 => absurd (nI_le (a := i) (b := k9) (by omega) (by omega)) c_89)
                refine lv_aload_n X.1 X.2.1 dX7_put_126 rfl (lv_at hl 0 rfl) ?_
                refine lv_dup X.1 X.2.1 dX7_put_127 rfl ?_
                refine r_get X hW.1 hM.1 (v := .int (sc 3)) (C := RX7) (T := TX7) (N := 19) rfl tin_X7 13 (by decide) tw_856 (fun _ h => h) rfl dX7_put_128 ?_
                refine r_eqi (show ((sc 3) : Int32) = nI pn from hP.1) ?_
                refine lv_iload_n X.1 X.2.1 dX7_put_131 rfl (lv_at hl 2 rfl) ?_
                refine lv_iadd X.1 X.2.1 dX7_put_132 ?_
                refine r_eqi (show (((nI pn) + (nI i)) : Int32) = nI (pn + i) from nI_add pn i) ?_
                refine r_put X hW hM.1 (v := .int (nI (pn + i))) (C := RX7) (T := TX7) (N := 19) rfl tin_X7 tyX7_ok nmX7 13 (Nat.le_of_ble_eq_true rfl) tw_856 (fun _ h => h) rfl rfl rfl (Nat.le_of_ble_eq_true rfl) dX7_put_133 (fun hp_1 H locs hW eh_2 => ?_)
                have hM := mr_sc3 hM eh_2
                refine lv_aload_n X.1 X.2.1 dX7_put_136 rfl (lv_at hl 0 rfl) ?_
                refine r_get X hW.1 hM.1 (v := .int (nI (pn + i))) (C := RX7) (T := TX7) (N := 19) rfl tin_X7 13 (by decide) tw_856 (fun _ h => h) rfl dX7_put_137 ?_
                obtain ⟨hf, hg⟩ := pu_ok (z := (n, R, hd, k, cs, sk, pn, pt)) (pc_end h2 k63) k_56 (show ¬ 60 < pn + i by omega)
                exact wr_i X hr hlk hW ⟨hf, _, _, _, hM, by rw [hg]; exact ⟨hT, hU, hH2, hau, mp_put hP (by omega) h21.1 (fun j hj => h21.2 j (by omega)) h3⟩⟩ (Nat.le_of_ble_eq_true rfl) (Nat.le_of_ble_eq_true rfl) dX7_put_140
              | succ f2 ih2 =>
                intro k9 hpL H locs g hM hW h20 h21 ls hl
                have hk9 : k9 < i := by omega
                refine lv_iload X.1 X.2.1 dX7_put_86 (lv_at hl 4 rfl) ?_
                refine lv_iload_n X.1 X.2.1 dX7_put_88 rfl (lv_at hl 2 rfl) ?_
                refine lv_icmp_ge (tgt := 126) X.1 X.2.1 dX7_put_89 (by decide) (fun c_89 => absurd c_89 (nI_ge (a := k9) (b := i) (by omega) (by omega))) (fun c_89 => ?_)
                refine lv_aload_n X.1 X.2.1 dX7_put_92 rfl (lv_at hl 0 rfl) ?_
                refine r_get X hW.1 hM.1 (v := .ref (M 10)) (C := RX7) (T := TX7) (N := 19) rfl tin_X7 12 (by decide) tw_855 (fun _ h => h) rfl dX7_put_93 ?_
                refine lv_aload_n X.1 X.2.1 dX7_put_96 rfl (lv_at hl 0 rfl) ?_
                refine r_get X hW.1 hM.1 (v := .int (sc 3)) (C := RX7) (T := TX7) (N := 19) rfl tin_X7 13 (by decide) tw_856 (fun _ h => h) rfl dX7_put_97 ?_
                refine r_eqi (show ((sc 3) : Int32) = nI pn from hP.1) ?_
                refine lv_iload X.1 X.2.1 dX7_put_100 (lv_at hl 4 rfl) ?_
                refine lv_iadd X.1 X.2.1 dX7_put_102 ?_
                refine r_eqi (show (((nI pn) + (nI k9)) : Int32) = nI (pn + k9) from nI_add pn k9) ?_
                refine lv_lload_n X.1 X.2.1 dX7_put_103 rfl (lv_at hl 1 rfl) ?_
                refine lv_bipush (v := 8) X.1 X.2.1 dX7_put_104 (by decide) ?_
                refine lv_iload_n X.1 X.2.1 dX7_put_106 rfl (lv_at hl 2 rfl) ?_
                refine lv_iconst (v := 1) X.1 X.2.1 dX7_put_107 (by decide) ?_
                refine lv_isub X.1 X.2.1 dX7_put_108 ?_
                refine r_eqi (show (((nI i) - 1) : Int32) = nI (i - 1) from pk_sub (a := i) (b := 1) (by omega)) ?_
                refine lv_iload X.1 X.2.1 dX7_put_109 (lv_at hl 4 rfl) ?_
                refine lv_isub X.1 X.2.1 dX7_put_111 ?_
                refine r_eqi (show (((nI (i - 1)) - (nI k9)) : Int32) = nI ((i - 1) - k9) from pk_sub (a := (i - 1)) (b := k9) (by omega)) ?_
                refine lv_imul X.1 X.2.1 dX7_put_112 ?_
                refine r_eqi (show (((8 : Int32) * (nI ((i - 1) - k9))) : Int32) = nI (8 * ((i - 1) - k9)) from pk_mul 8 ((i - 1) - k9)) ?_
                refine lv_lshr X.1 X.2.1 dX7_put_113 rfl ?_
                refine r_eql (show ((((lN C) >>> (Int32.toInt64 (nI (8 * ((i - 1) - k9))) &&& 63))) : Int64) = lN (C / 2 ^ (8 * ((i - 1) - k9))) from l_shrN hC63 _ _ (ls_l _ (by omega))) ?_
                refine r_const2 X tw_1107 dX7_put_114 ?_
                refine lv_land X.1 X.2.1 dX7_put_117 ?_
                refine r_eql (show (((lN (C / 2 ^ (8 * ((i - 1) - k9)))) &&& 255) : Int64) = lN ((C / 2 ^ (8 * ((i - 1) - k9))) % 256) from lN_and255 (C / 2 ^ (8 * ((i - 1) - k9)))) ?_
                refine lv_l2i X.1 X.2.1 dX7_put_118 rfl ?_
                refine r_eqi (show (((lN ((C / 2 ^ (8 * ((i - 1) - k9))) % 256)).toInt32) : Int32) = nI ((C / 2 ^ (8 * ((i - 1) - k9))) % 256) from lN_i _) ?_
                refine r_iast X hW (hM.2.1 9 (by decide)) (show vp_in ((nI (pn + k9))) 60 from vp_in_nI (n := (pn + k9)) (by omega) (by decide)) dX7_put_119 (fun hp_3 H locs hW eh_4 => ?_)
                have hM := mr_ar hM 9 (by decide) eh_4
                refine lv_iinc (v := (nI (k9 + 1))) (lv' := [(6, .int (nI (k9 + 1))), (0, .ref (M 0)), (1, .long (lN C)), (3, .int (nI i)), (4, .long (lN y))]) X.1 X.2.1 dX7_put_120 hl (k := 4) rfl (nI_add k9 1) (by decide) rfl (fun ls hl => ?_)
                refine lv_goto (tgt := 86) X.1 X.2.1 dX7_put_123 (by decide) ?_
                exact ih2 (k9 + 1) _ _ _ _ (mr_uu hM) hW (by omega) (pu_step (by omega) h21.1 h21.2 (by unfold chN; rw [Nat.pow_mul])) ls (lv_sub hl [1, 2, 3, 4, 0] rfl)
            exact L862 i 0 _ _ _ _ (mr_id 9 hM) hW (Nat.zero_add i) ⟨fun j _ => rfl, fun j hj => absurd hj (Nat.not_lt_zero j)⟩ ls (lv_sub hl [1, 2, 3, 4, 0] rfl)
          · have k_77 := k_nle (a := (pn + i)) (b := 60) (by omega) (by omega) c_77
            refine lv_bipush (v := (-4)) X.1 X.2.1 dX7_put_80 (by decide) ?_
            obtain ⟨hf, hg⟩ := pu_full (z := (n, R, hd, k, cs, sk, pn, pt)) (pc_end h2 k63) k_56 (show 60 < pn + i by omega)
            exact wr_i X hr hlk hW ⟨hf, _, _, _, hM, by rw [hg]; exact hz⟩ (Nat.le_of_ble_eq_true rfl) (Nat.le_of_ble_eq_true rfl) dX7_put_82
        · have k63 : ¬ y = 0 := fun q9 => c_63 (lcI_0.mpr (by rw [q9]; rfl))
          refine lv_bipush (v := (-2)) X.1 X.2.1 dX7_put_66 (by decide) ?_
          obtain ⟨hf, hg⟩ := pu_none (z := (n, R, hd, k, cs, sk, pn, pt)) (pc_bad0 h2 k63)
          exact wr_i X hr hlk hW ⟨hf, _, _, _, hM, by rw [hg]; exact hz⟩ (Nat.le_of_ble_eq_true rfl) (Nat.le_of_ble_eq_true rfl) dX7_put_68
    | succ f ih =>
      intro i y h0 h1 h2 h3 ls hl
      have h8 : i < 8 := by omega
      have hy64 : y < 2 ^ 64 := by rw [h1]; exact Nat.lt_of_le_of_lt (Nat.div_le_self _ _) hC
      refine lv_iload_n X.1 X.2.1 dX7_put_5 rfl (lv_at hl 2 rfl) ?_
      refine lv_bipush (v := 8) X.1 X.2.1 dX7_put_6 (by decide) ?_
      refine lv_icmp_ge (tgt := 55) X.1 X.2.1 dX7_put_8 (by decide) (fun c_8 => absurd c_8 (nI_ge (a := i) (b := 8) (by omega) (by decide))) (fun c_8 => ?_)
      refine lv_lload X.1 X.2.1 dX7_put_11 (lv_at hl 3 rfl) ?_
      refine r_const2 X tw_1107 dX7_put_13 ?_
      refine lv_land X.1 X.2.1 dX7_put_16 ?_
      refine r_eql (show (((lN y) &&& 255) : Int64) = lN (y % 256) from lN_and255 y) ?_
      refine lv_lconst (v := 0) X.1 X.2.1 dX7_put_17 (by decide) ?_
      refine r_lcmp X.1 X.2.1 dX7_put_18 ?_
      refine lv_if_eq (tgt := 55) X.1 X.2.1 dX7_put_19 (by decide) (fun c_19 => ?_) (fun c_19 => ?_)
      · have k19 : y % 256 = 0 := (lN_eq (b := 0) (by omega) (by decide)).mp (lcI_0.mp c_19)
        refine lv_iload_n X.1 X.2.1 dX7_put_55 rfl (lv_at hl 2 rfl) ?_
        refine lv_if_eq (tgt := 66) X.1 X.2.1 dX7_put_56 (by decide) (fun c_56 => ?_) (fun c_56 => ?_)
        · have k_56 := k_eq (a := i) (b := 0) (by omega) (by omega) c_56
          refine lv_bipush (v := (-2)) X.1 X.2.1 dX7_put_66 (by decide) ?_
          obtain ⟨hf, hg⟩ : -2 = fPut (n, R, hd, k, cs, sk, pn, pt) C ∧ gPut (n, R, hd, k, cs, sk, pn, pt) C = (n, R, hd, k, cs, sk, pn, pt) := (Nat.decEq y 0).rec (fun q9 => pu_none (pc_bad h2 q9 (fun q8 => absurd q8.1 (by omega)))) (fun q9 => pu_0 (by rw [pc_end h2 q9, k_56]))
          exact wr_i X hr hlk hW ⟨hf, _, _, _, hM, by rw [hg]; exact hz⟩ (Nat.le_of_ble_eq_true rfl) (Nat.le_of_ble_eq_true rfl) dX7_put_68
        · have k_56 := k_ne (a := i) (b := 0) (by omega) (by omega) c_56
          refine lv_lload X.1 X.2.1 dX7_put_59 (lv_at hl 3 rfl) ?_
          refine lv_lconst (v := 0) X.1 X.2.1 dX7_put_61 (by decide) ?_
          refine r_lcmp X.1 X.2.1 dX7_put_62 ?_
          refine lv_if_eq (tgt := 69) X.1 X.2.1 dX7_put_63 (by decide) (fun c_63 => ?_) (fun c_63 => ?_)
          · have k63 : y = 0 := (pk_lEQ_ hy64).mp (lcI_0.mp c_63)
            have hC63 : C < 2 ^ 63 := ch_lt (by omega) (fun j hj => (h3 j hj).2) (by rw [← h1]; exact k63)
            refine lv_aload_n X.1 X.2.1 dX7_put_69 rfl (lv_at hl 0 rfl) ?_
            refine r_get X hW.1 hM.1 (v := .int (sc 3)) (C := RX7) (T := TX7) (N := 19) rfl tin_X7 13 (by decide) tw_856 (fun _ h => h) rfl dX7_put_70 ?_
            refine r_eqi (show ((sc 3) : Int32) = nI pn from hP.1) ?_
            refine lv_iload_n X.1 X.2.1 dX7_put_73 rfl (lv_at hl 2 rfl) ?_
            refine lv_iadd X.1 X.2.1 dX7_put_74 ?_
            refine r_eqi (show (((nI pn) + (nI i)) : Int32) = nI (pn + i) from nI_add pn i) ?_
            refine lv_bipush (v := 60) X.1 X.2.1 dX7_put_75 (by decide) ?_
            refine lv_icmp_le (tgt := 83) X.1 X.2.1 dX7_put_77 (by decide) (fun c_77 => ?_) (fun c_77 => ?_)
            · have k_77 := k_le (a := (pn + i)) (b := 60) (by omega) (by omega) c_77
              refine lv_iconst (v := 0) X.1 X.2.1 dX7_put_83 (by decide) ?_
              refine lv_istore (lv' := [(6, .int 0), (0, .ref (M 0)), (1, .long (lN C)), (3, .int (nI i)), (4, .long (lN y))]) X.1 X.2.1 dX7_put_84 hl (by decide) rfl (fun ls hl => ?_)
              have L862 : ∀ (f2 : Nat) (k9 : Nat) (hpL : HP) (H : Heap) (locs : List Loc) (g : Nat → Int32), MR G hpL M sc (va_up ar 9 g) sm → WS s G A hpL H locs → (k9 + f2 = i) → ((∀ j, j < pn → g j = ar 9 j) ∧ (∀ j, j < k9 → g (pn + j) = nI (chN C i j))) → ∀ ls, lv_has ls 7 [(0, .ref (M 0)), (1, .long (lN C)), (3, .int (nI i)), (4, .long (lN y)), (6, .int (nI k9))] → W p l e ({ frames := 1, cells := 0, slots := 0, locals := 22 } : Room) s m args below meth c H locs 0 0 (MQ below (va_Qi (fun r hp1 => r = fPut (n, R, hd, k, cs, sk, pn, pt) C ∧ ∃ sc1 ar1 sm1, MR G hp1 M sc1 ar1 sm1 ∧ MST (gPut (n, R, hd, k, cs, sk, pn, pt) C) sc1 ar1) (WB G A) A) args s 0 0 A) (F0 m 86 ls []) := by
                intro f2
                induction f2 with
                | zero =>
                  intro k9 hpL H locs g hM hW h20 h21 ls hl
                  have hk9 : k9 = i := by omega
                  refine lv_iload X.1 X.2.1 dX7_put_86 (lv_at hl 4 rfl) ?_
                  refine lv_iload_n X.1 X.2.1 dX7_put_88 rfl (lv_at hl 2 rfl) ?_
                  refine lv_icmp_ge (tgt := 126) X.1 X.2.1 dX7_put_89 (by decide) (fun c_89 => ?_) (fun c_89 => absurd (nI_le (a := i) (b := k9) (by omega) (by omega)) c_89)
                  refine lv_aload_n X.1 X.2.1 dX7_put_126 rfl (lv_at hl 0 rfl) ?_
                  refine lv_dup X.1 X.2.1 dX7_put_127 rfl ?_
                  refine r_get X hW.1 hM.1 (v := .int (sc 3)) (C := RX7) (T := TX7) (N := 19) rfl tin_X7 13 (by decide) tw_856 (fun _ h => h) rfl dX7_put_128 ?_
                  refine r_eqi (show ((sc 3) : Int32) = nI pn from hP.1) ?_
                  refine lv_iload_n X.1 X.2.1 dX7_put_131 rfl (lv_at hl 2 rfl) ?_
                  refine lv_iadd X.1 X.2.1 dX7_put_132 ?_
                  refine r_eqi (show (((nI pn) + (nI i)) : Int32) = nI (pn + i) from nI_add pn i) ?_
                  refine r_put X hW hM.1 (v := .int (nI (pn + i))) (C := RX7) (T := TX7) (N := 19) rfl tin_X7 tyX7_ok nmX7 13 (Nat.le_of_ble_eq_true rfl) tw_856 (fun _ h => h) rfl rfl rfl (Nat.le_of_ble_eq_true rfl) dX7_put_133 (fun hp_5 H locs hW eh_6 => ?_)
                  have hM := mr_sc3 hM eh_6
                  refine lv_aload_n X.1 X.2.1 dX7_put_136 rfl (lv_at hl 0 rfl) ?_
                  refine r_get X hW.1 hM.1 (v := .int (nI (pn + i))) (C := RX7) (T := TX7) (N := 19) rfl tin_X7 13 (by decide) tw_856 (fun _ h => h) rfl dX7_put_137 ?_
                  obtain ⟨hf, hg⟩ := pu_ok (z := (n, R, hd, k, cs, sk, pn, pt)) (pc_end h2 k63) k_56 (show ¬ 60 < pn + i by omega)
                  exact wr_i X hr hlk hW ⟨hf, _, _, _, hM, by rw [hg]; exact ⟨hT, hU, hH2, hau, mp_put hP (by omega) h21.1 (fun j hj => h21.2 j (by omega)) h3⟩⟩ (Nat.le_of_ble_eq_true rfl) (Nat.le_of_ble_eq_true rfl) dX7_put_140
                | succ f2 ih2 =>
                  intro k9 hpL H locs g hM hW h20 h21 ls hl
                  have hk9 : k9 < i := by omega
                  refine lv_iload X.1 X.2.1 dX7_put_86 (lv_at hl 4 rfl) ?_
                  refine lv_iload_n X.1 X.2.1 dX7_put_88 rfl (lv_at hl 2 rfl) ?_
                  refine lv_icmp_ge (tgt := 126) X.1 X.2.1 dX7_put_89 (by decide) (fun c_89 => absurd c_89 (nI_ge (a := k9) (b := i) (by omega) (by omega))) (fun c_89 => ?_)
                  refine lv_aload_n X.1 X.2.1 dX7_put_92 rfl (lv_at hl 0 rfl) ?_
                  refine r_get X hW.1 hM.1 (v := .ref (M 10)) (C := RX7) (T := TX7) (N := 19) rfl tin_X7 12 (by decide) tw_855 (fun _ h => h) rfl dX7_put_93 ?_
                  refine lv_aload_n X.1 X.2.1 dX7_put_96 rfl (lv_at hl 0 rfl) ?_
                  refine r_get X hW.1 hM.1 (v := .int (sc 3)) (C := RX7) (T := TX7) (N := 19) rfl tin_X7 13 (by decide) tw_856 (fun _ h => h) rfl dX7_put_97 ?_
                  refine r_eqi (show ((sc 3) : Int32) = nI pn from hP.1) ?_
                  refine lv_iload X.1 X.2.1 dX7_put_100 (lv_at hl 4 rfl) ?_
                  refine lv_iadd X.1 X.2.1 dX7_put_102 ?_
                  refine r_eqi (show (((nI pn) + (nI k9)) : Int32) = nI (pn + k9) from nI_add pn k9) ?_
                  refine lv_lload_n X.1 X.2.1 dX7_put_103 rfl (lv_at hl 1 rfl) ?_
                  refine lv_bipush (v := 8) X.1 X.2.1 dX7_put_104 (by decide) ?_
                  refine lv_iload_n X.1 X.2.1 dX7_put_106 rfl (lv_at hl 2 rfl) ?_
                  refine lv_iconst (v := 1) X.1 X.2.1 dX7_put_107 (by decide) ?_
                  refine lv_isub X.1 X.2.1 dX7_put_108 ?_
                  refine r_eqi (show (((nI i) - 1) : Int32) = nI (i - 1) from pk_sub (a := i) (b := 1) (by omega)) ?_
                  refine lv_iload X.1 X.2.1 dX7_put_109 (lv_at hl 4 rfl) ?_
                  refine lv_isub X.1 X.2.1 dX7_put_111 ?_
                  refine r_eqi (show (((nI (i - 1)) - (nI k9)) : Int32) = nI ((i - 1) - k9) from pk_sub (a := (i - 1)) (b := k9) (by omega)) ?_
                  refine lv_imul X.1 X.2.1 dX7_put_112 ?_
                  refine r_eqi (show (((8 : Int32) * (nI ((i - 1) - k9))) : Int32) = nI (8 * ((i - 1) - k9)) from pk_mul 8 ((i - 1) - k9)) ?_
                  refine lv_lshr X.1 X.2.1 dX7_put_113 rfl ?_
                  refine r_eql (show ((((lN C) >>> (Int32.toInt64 (nI (8 * ((i - 1) - k9))) &&& 63))) : Int64) = lN (C / 2 ^ (8 * ((i - 1) - k9))) from l_shrN hC63 _ _ (ls_l _ (by omega))) ?_
                  refine r_const2 X tw_1107 dX7_put_114 ?_
                  refine lv_land X.1 X.2.1 dX7_put_117 ?_
                  refine r_eql (show (((lN (C / 2 ^ (8 * ((i - 1) - k9)))) &&& 255) : Int64) = lN ((C / 2 ^ (8 * ((i - 1) - k9))) % 256) from lN_and255 (C / 2 ^ (8 * ((i - 1) - k9)))) ?_
                  refine lv_l2i X.1 X.2.1 dX7_put_118 rfl ?_
                  refine r_eqi (show (((lN ((C / 2 ^ (8 * ((i - 1) - k9))) % 256)).toInt32) : Int32) = nI ((C / 2 ^ (8 * ((i - 1) - k9))) % 256) from lN_i _) ?_
                  refine r_iast X hW (hM.2.1 9 (by decide)) (show vp_in ((nI (pn + k9))) 60 from vp_in_nI (n := (pn + k9)) (by omega) (by decide)) dX7_put_119 (fun hp_7 H locs hW eh_8 => ?_)
                  have hM := mr_ar hM 9 (by decide) eh_8
                  refine lv_iinc (v := (nI (k9 + 1))) (lv' := [(6, .int (nI (k9 + 1))), (0, .ref (M 0)), (1, .long (lN C)), (3, .int (nI i)), (4, .long (lN y))]) X.1 X.2.1 dX7_put_120 hl (k := 4) rfl (nI_add k9 1) (by decide) rfl (fun ls hl => ?_)
                  refine lv_goto (tgt := 86) X.1 X.2.1 dX7_put_123 (by decide) ?_
                  exact ih2 (k9 + 1) _ _ _ _ (mr_uu hM) hW (by omega) (pu_step (by omega) h21.1 h21.2 (by unfold chN; rw [Nat.pow_mul])) ls (lv_sub hl [1, 2, 3, 4, 0] rfl)
              exact L862 i 0 _ _ _ _ (mr_id 9 hM) hW (Nat.zero_add i) ⟨fun j _ => rfl, fun j hj => absurd hj (Nat.not_lt_zero j)⟩ ls (lv_sub hl [1, 2, 3, 4, 0] rfl)
            · have k_77 := k_nle (a := (pn + i)) (b := 60) (by omega) (by omega) c_77
              refine lv_bipush (v := (-4)) X.1 X.2.1 dX7_put_80 (by decide) ?_
              obtain ⟨hf, hg⟩ := pu_full (z := (n, R, hd, k, cs, sk, pn, pt)) (pc_end h2 k63) k_56 (show 60 < pn + i by omega)
              exact wr_i X hr hlk hW ⟨hf, _, _, _, hM, by rw [hg]; exact hz⟩ (Nat.le_of_ble_eq_true rfl) (Nat.le_of_ble_eq_true rfl) dX7_put_82
          · have k63 : ¬ y = 0 := fun q9 => c_63 (lcI_0.mpr (by rw [q9]; rfl))
            refine lv_bipush (v := (-2)) X.1 X.2.1 dX7_put_66 (by decide) ?_
            obtain ⟨hf, hg⟩ := pu_none (z := (n, R, hd, k, cs, sk, pn, pt)) (pc_bad h2 k63 (fun q8 => absurd q8.1 (by omega)))
            exact wr_i X hr hlk hW ⟨hf, _, _, _, hM, by rw [hg]; exact hz⟩ (Nat.le_of_ble_eq_true rfl) (Nat.le_of_ble_eq_true rfl) dX7_put_68
      · have k19 : ¬ y % 256 = 0 := fun q9 => c_19 (lcI_0.mpr (by rw [q9]; rfl))
        refine lv_lload X.1 X.2.1 dX7_put_22 (lv_at hl 3 rfl) ?_
        refine r_const2 X tw_1107 dX7_put_24 ?_
        refine lv_land X.1 X.2.1 dX7_put_27 ?_
        refine r_eql (show (((lN y) &&& 255) : Int64) = lN (y % 256) from lN_and255 y) ?_
        refine lv_l2i X.1 X.2.1 dX7_put_28 rfl ?_
        refine r_eqi (show (((lN (y % 256)).toInt32) : Int32) = nI (y % 256) from lN_i _) ?_
        refine lv_bipush (v := 33) X.1 X.2.1 dX7_put_29 (by decide) ?_
        refine lv_bipush (v := 126) X.1 X.2.1 dX7_put_31 (by decide) ?_
        refine on_Si (run_S (As := [.int (nI (y % 256)), .int 33, .int 126]) (rest := []) X (c_X7_in l G hp (nI (y % 256)) 33 126) (rp_blind _) (rp_at X hW.1 hW.2.2) mf_X7_in tw_907 tw_908 ⟨rfl, rfl, Nat.le_of_ble_eq_true rfl, Nat.le_of_ble_eq_true rfl⟩ hl.1 rfl rfl (Nat.le_of_ble_eq_true rfl) ⟨Nat.le_of_ble_eq_true rfl, Nat.le_of_ble_eq_true rfl⟩ dX7_put_33) (fun r_33 q_33 => ?_)
        obtain rfl : r_33 = (inI (nI (y % 256)) 33 126) := q_33
        refine lv_if_ne (tgt := 42) X.1 X.2.1 dX7_put_36 (by decide) (fun c_36 => ?_) (fun c_36 => ?_)
        · have k36 : 33 ≤ y % 256 ∧ y % 256 ≤ 126 := by
            have q9 := inI_1 c_36
            rw [nI_toInt (by omega)] at q9
            omega
          refine lv_iinc (v := (nI (i + 1))) (lv' := [(3, .int (nI (i + 1))), (0, .ref (M 0)), (1, .long (lN C)), (4, .long (lN y))]) X.1 X.2.1 dX7_put_42 hl (k := 2) rfl (nI_add i 1) (by decide) rfl (fun ls hl => ?_)
          refine lv_lload X.1 X.2.1 dX7_put_45 (lv_at hl 3 rfl) ?_
          refine lv_bipush (v := 8) X.1 X.2.1 dX7_put_47 (by decide) ?_
          refine lv_lushr X.1 X.2.1 dX7_put_49 rfl ?_
          refine r_eql (show ((((lN y).toUInt64 >>> ((Int32.toInt64 8).toUInt64 &&& Int64.toUInt64 63)).toInt64) : Int64) = lN (y / 256) from l_ushrN hy64 _ 8 (lus_l 8 (by decide))) ?_
          refine lv_lstore (lv' := [(4, .long (lN (y / 256))), (3, .int (nI (i + 1))), (0, .ref (M 0)), (1, .long (lN C))]) X.1 X.2.1 dX7_put_50 hl (by decide) rfl (fun ls hl => ?_)
          refine lv_goto (tgt := 5) X.1 X.2.1 dX7_put_52 (by decide) ?_
          exact ih (i + 1) (y / 256) (by omega) (by rw [h1, Nat.div_div_eq_div_mul, ← Nat.pow_succ]) (pc_step h2 k19 k36) (fun j hj => by
                                        by_cases q9 : j = i
                                        · rw [q9, ← h1]; exact k36
                                        · exact h3 j (by omega)) ls (lv_sub hl [2, 3, 1, 0] rfl)
        · have k36 : ¬ (33 ≤ y % 256 ∧ y % 256 ≤ 126) := by
            have q9 := inI_0 c_36
            rw [nI_toInt (by omega)] at q9
            omega
          refine lv_bipush (v := (-2)) X.1 X.2.1 dX7_put_39 (by decide) ?_
          obtain ⟨hf, hg⟩ := pu_none (z := (n, R, hd, k, cs, sk, pn, pt)) (pc_bad h2 (fun q9 => k19 (by rw [q9])) k36)
          exact wr_i X hr hlk hW ⟨hf, _, _, _, hM, by rw [hg]; exact hz⟩ (Nat.le_of_ble_eq_true rfl) (Nat.le_of_ble_eq_true rfl) dX7_put_41
  exact L5 8 0 C rfl (by rw [Nat.pow_zero, Nat.div_one]) (by rw [show ((· + 0) : Nat → Nat) = id from rfl, Option.map_id]; rfl) (fun j hj => absurd hj (Nat.not_lt_zero j)) ls (lv_sub hl [2, 3, 1, 0] rfl)

