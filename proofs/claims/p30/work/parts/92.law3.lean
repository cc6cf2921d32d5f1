/-! the script beside a method's world; cell; winners; tricks -/
def RX (G : HG) (hp : HP) (b L : Nat) (xs : Nat → Int32) (U : State) : Prop := RP G hp U ∧ va_X b L xs U U.heap
def WX (G : HG) (A : Nat → Prop) (sz : Nat) (hp : HP) (b L : Nat) (xs : Nat → Int32) (U : State) : Prop := WP G A sz hp U ∧ va_X b L xs U U.heap
theorem va_Xlt {b L : Nat} {xs : Nat → Int32} {U : State} {H : Heap} (h : va_X b L xs U H) : b < H.size := by
  obtain ⟨scr, h1, -⟩ := h
  exact (Array.getElem?_eq_some_iff.mp h1).1
theorem rx_blind {G : HG} {hp : HP} {b L : Nat} {xs : Nat → Int32} (av : List Value) : FrameBlind (va_Pc av (RX G hp b L xs)) := fun a U g mk q => ⟨q.1, (rp_blind (G := G) (hp := hp) av a U g mk ⟨q.1, q.2.1⟩).2, va_X.moved (U := U.calling g mk a) (Vm.Alike.refl U.vm) q.2.2⟩
theorem wx_blind {G : HG} {A : Nat → Prop} {sz : Nat} {hp : HP} {b L : Nat} {xs : Nat → Int32} (av : List Value) : FrameBlind (va_Pc av (WX G A sz hp b L xs)) := fun a U g mk q => ⟨q.1, (wp_blind (G := G) (A := A) (sz := sz) (hp := hp) av a U g mk ⟨q.1, q.2.1⟩).2, va_X.moved (U := U.calling g mk a) (Vm.Alike.refl U.vm) q.2.2⟩
section VSC
variable {p : Program} {l : Launch} {e : Env} {R : Room} {s : State} {m : MethodId} {args : Array Value} {below : List Frame} {meth : Method} {c : Code} {H : Heap} {locs : List Loc} {cells slots : Nat} {Q : State → Prop} {cc : ByteArray} {pc nL : Nat} {ls : Array Slot} {rest : List Value} {G : HG} {A : Nat → Prop} {hp : HP} {own : String} {b L : Nat} {xs : Nat → Int32}
theorem rx_at (X : CX p c cc nL s m own G A) (hH : Hd G hp H) (hS : va_S A s.heap H locs) (hX : va_X b L xs s s.heap) (hb : b < s.heap.size) (hA : ¬ A b) : ∀ U : State, U.heap = H → s.WarmedH U.vm → RX G hp b L xs U := fun U hU hW => ⟨rp_at X hH hS U hU hW, by rw [hU]; exact (hX.kept (hS.2.1 b hb hA)).moved hW.alike⟩
theorem wx_at (X : CX p c cc nL s m own G A) (hH : Hd G hp H) (hS : va_S A s.heap H locs) (hX : va_X b L xs s s.heap) (hb : b < s.heap.size) (hA : ¬ A b) : ∀ U : State, U.heap = H → s.WarmedH U.vm → WX G A H.size hp b L xs U := fun U hU hW => ⟨wp_at X hH hS U hU hW, by rw [hU]; exact (hX.kept (hS.2.1 b hb hA)).moved hW.alike⟩
theorem rx_ofW {y : MethodName} {maxL : Nat} {ret : Option FieldType} {rm : Room} {av : List Value} {Qc : Array Value → State → Outcome → State → Prop} (hy : plainName y.cls = true) (hlen : (lg_sl av).length ≤ maxL)
    (body : ∀ p e s m args below meth c ls, CX p c cc maxL s m y.cls G (fun _ => False) → meth.sig.returnType = ret → meth.locks = false → Hd G hp s.heap → va_X b L xs s s.heap → b < s.heap.size → (¬ (fun _ : Nat => False) b) → lv_has ls maxL (lv_args 0 av) → W p l e rm s m args below meth c s.heap [] 0 0 (MQ below Qc args s 0 0 (fun _ => False)) (F0 m 0 ls [])) :
    Met l y [.code y cc maxL ret] rm (va_Pc av (RX G hp b L xs)) Qc 0 0 (fun _ => False) := by
  refine Met.ofW (cc := cc) (maxL := maxL) (ret := ret) hy rfl ?_
  intro p e s m args below meth c s₁ B hml hv
  obtain ⟨rfl, ⟨hT, hK, hH, hZ⟩, hX⟩ := hv
  rw [lg_entry_eq]
  exact body p e s m _ below meth c _ ⟨B.exec, B.bytes, hml, findClass_of_methodNamed B.named, hT, hK, hZ⟩ B.returns B.notSynchronized hH hX (va_Xlt hX) id (lv_entry av hlen)
theorem wx_ofW {y : MethodName} {maxL mc ms sz : Nat} {ret : Option FieldType} {rm : Room} {av : List Value} {Qc : Array Value → State → Outcome → State → Prop} (hy : plainName y.cls = true) (hlen : (lg_sl av).length ≤ maxL) (hO : Ow A hp)
    (body : ∀ p e s m args below meth c ls, CX p c cc maxL s m y.cls G A → meth.sig.returnType = ret → meth.locks = false → meth.name = y.name → s.heap.size = sz → WS s G A hp s.heap [] → va_X b L xs s s.heap → b < s.heap.size → lv_has ls maxL (lv_args 0 av) → W p l e rm s m args below meth c s.heap [] 0 0 (MQ below Qc args s mc ms A) (F0 m 0 ls [])) :
    Met l y [.code y cc maxL ret] rm (va_Pc av (WX G A sz hp b L xs)) Qc mc ms A := by
  refine Met.ofW (cc := cc) (maxL := maxL) (ret := ret) hy rfl ?_
  intro p e s m args below meth c s₁ B hml hv
  obtain ⟨rfl, ⟨hsz, hT, hK, hH, hZ⟩, hX⟩ := hv
  rw [lg_entry_eq]
  exact body p e s m _ below meth c _ ⟨B.exec, B.bytes, hml, findClass_of_methodNamed B.named, hT, hK, hZ⟩ B.returns B.notSynchronized (name_of_methodNamed B.named B.method).1 hsz ⟨hH, hO, va_S.rf⟩ hX (va_Xlt hX) (lv_entry av hlen)
end VSC
/-- 22 bits of a number -/
def mskF (x : Int32) : Nat := (x &&& 4194303).toBitVec.toNat
theorem msk_lt (x : Int32) : mskF x < 4194304 := by
  have h : mskF x = x.toBitVec.toNat &&& 4194303 := by
    unfold mskF
    rw [Int32.toBitVec_and, BitVec.toNat_and]; rfl
  rw [h]
  exact Nat.lt_succ_of_le Nat.and_le_right
theorem msk_i (x : Int32) : x &&& 4194303 = nI (mskF x) := by
  apply Int32.toBitVec_inj.mp
  simp [nI, mskF]
/-- a cell of the script, below n -/
def ceF (L : Nat) (xs : Nat → Int32) (k n : Nat) : Nat := (if L = 0 then k * 37 + 5 else mskF (xs (k % L) >>> (nI (k % 7) &&& 31))) % n
theorem ceF_lt (L : Nat) (xs : Nat → Int32) (k : Nat) {n : Nat} (h : 0 < n) : ceF L xs k n < n := Nat.mod_lt _ h
set_option maxHeartbeats 4000000 in
set_option maxRecDepth 100000 in
theorem c_L_cell (l : Launch) (G : HG) (hp : HP) (b9 L : Nat) (xs : Nat → Int32) (hL : L < 2 ^ 31) (k9 n9 : Nat) (hk9 : k9 < 1000) (hn0 : 0 < n9) (hn9 : n9 < 2 ^ 31) : Met l yL_cell [.code yL_cell cL_cell 3 (some .int)] { frames := 0, cells := 0, slots := 0, locals := 0 } (va_Pc [.ref b9, .int (nI k9), .int (nI n9)] (RX G hp b9 L xs)) (vp_Si (fun r => r = nI (ceF L xs k9 n9))) 0 0 (fun _ => False) := by
  refine rx_ofW (by decide) (Nat.le_of_ble_eq_true rfl) ?_
  intro p e s m args below meth c ls X hr hlk hH hX hXl hXA hl
  have hS : va_S (fun _ => False) s.heap s.heap [] := va_S.rf
  have hl : lv_has ls 3 [(0, .ref b9), (1, .int (nI k9)), (2, .int (nI n9))] := hl
  refine lv_aload_n X.1 X.2.1 dL_cell_0 rfl (lv_at hl 0 rfl) ?_
  refine va_slen X.1 X.2.1 hX hXl hXA hS dL_cell_1 ?_
  refine r_eqi (show (Int32.ofNat L : Int32) = nI L from rfl) ?_
  refine lv_if_ne (tgt := 14) X.1 X.2.1 dL_cell_2 (by decide) (fun c_2 => ?_) (fun c_2 => ?_)
  · have k_2 := k_ne (a := L) (b := 0) (by omega) (by omega) c_2
    refine lv_aload_n X.1 X.2.1 dL_cell_14 rfl (lv_at hl 0 rfl) ?_
    refine lv_iload_n X.1 X.2.1 dL_cell_15 rfl (lv_at hl 1 rfl) ?_
    refine lv_aload_n X.1 X.2.1 dL_cell_16 rfl (lv_at hl 0 rfl) ?_
    refine va_slen X.1 X.2.1 hX hXl hXA hS dL_cell_17 ?_
    refine r_eqi (show (Int32.ofNat L : Int32) = nI L from rfl) ?_
    refine lv_irem X.1 X.2.1 dL_cell_18 (fun q => by have := k_eq (a := L) (b := 0) (by omega) (by decide) q; omega) ?_
    refine r_eqi (show (((nI k9) - (nI k9) / (nI L) * (nI L)) : Int32) = nI (k9 % L) from pk_rem (a := k9) (d := L) (by omega) (by omega) (by omega)) ?_
    refine va_sld X.1 X.2.1 hX hXl hXA hS (vp_in_nI (Nat.mod_lt _ (by omega)) (by omega)) dL_cell_19 ?_
    refine r_eqi (show ((xs (nI (k9 % L)).toNatClampNeg) : Int32) = xs (k9 % L) from by rw [nI_clamp (by have := Nat.mod_lt k9 (show 0 < L by omega); omega)]) ?_
    refine lv_iload_n X.1 X.2.1 dL_cell_20 rfl (lv_at hl 1 rfl) ?_
    refine lv_bipush (v := 7) X.1 X.2.1 dL_cell_21 (by decide) ?_
    refine lv_irem X.1 X.2.1 dL_cell_23 (by decide) ?_
    refine r_eqi (show (((nI k9) - (nI k9) / 7 * 7) : Int32) = nI (k9 % 7) from pk_rem (a := k9) (d := 7) (by omega) (by omega) (by omega)) ?_
    refine lv_ishr X.1 X.2.1 dL_cell_24 ?_
    refine r_const X tw_334 dL_cell_25 ?_
    refine lv_iand X.1 X.2.1 dL_cell_27 ?_
    refine r_eqi (show ((((xs (k9 % L)) >>> ((nI (k9 % 7)) &&& 31)) &&& 4194303) : Int32) = nI (mskF (xs (k9 % L) >>> (nI (k9 % 7) &&& 31))) from msk_i _) ?_
    have hm := msk_lt (xs (k9 % L) >>> (nI (k9 % 7) &&& 31))
    refine lv_iload_n X.1 X.2.1 dL_cell_28 rfl (lv_at hl 2 rfl) ?_
    refine lv_irem X.1 X.2.1 dL_cell_29 (fun q => by have := k_eq (a := n9) (b := 0) (by omega) (by decide) q; omega) ?_
    refine r_eqi (show (((nI (mskF (xs (k9 % L) >>> (nI (k9 % 7) &&& 31)))) - (nI (mskF (xs (k9 % L) >>> (nI (k9 % 7) &&& 31)))) / (nI n9) * (nI n9)) : Int32) = nI ((mskF (xs (k9 % L) >>> (nI (k9 % 7) &&& 31))) % n9) from pk_rem (a := (mskF (xs (k9 % L) >>> (nI (k9 % 7) &&& 31)))) (d := n9) (by omega) (by omega) (by omega)) ?_
    exact ro_i X hr hlk (by show nI _ = nI _; unfold ceF; rw [if_neg k_2]) dL_cell_30
  · have k_2 := k_eq (a := L) (b := 0) (by omega) (by omega) c_2
    refine lv_iload_n X.1 X.2.1 dL_cell_5 rfl (lv_at hl 1 rfl) ?_
    refine lv_bipush (v := 37) X.1 X.2.1 dL_cell_6 (by decide) ?_
    refine lv_imul X.1 X.2.1 dL_cell_8 ?_
    refine r_eqi (show (((nI k9) * 37) : Int32) = nI (k9 * 37) from pk_mul k9 37) ?_
    refine lv_iconst (v := 5) X.1 X.2.1 dL_cell_9 (by decide) ?_
    refine lv_iadd X.1 X.2.1 dL_cell_10 ?_
    refine r_eqi (show (((nI (k9 * 37)) + 5) : Int32) = nI ((k9 * 37) + 5) from nI_add (k9 * 37) 5) ?_
    refine lv_goto (tgt := 28) X.1 X.2.1 dL_cell_11 (by decide) ?_
    have hm := msk_lt (xs (k9 % L) >>> (nI (k9 % 7) &&& 31))
    refine lv_iload_n X.1 X.2.1 dL_cell_28 rfl (lv_at hl 2 rfl) ?_
    refine lv_irem X.1 X.2.1 dL_cell_29 (fun q => by have := k_eq (a := n9) (b := 0) (by omega) (by decide) q; omega) ?_
    refine r_eqi (show (((nI ((k9 * 37) + 5)) - (nI ((k9 * 37) + 5)) / (nI n9) * (nI n9)) : Int32) = nI (((k9 * 37) + 5) % n9) from pk_rem (a := ((k9 * 37) + 5)) (d := n9) (by omega) (by omega) (by omega)) ?_
    exact ro_i X hr hlk (by show nI _ = nI _; unfold ceF; rw [if_pos k_2]) dL_cell_30

theorem su_bt (x s : Nat) {i : Nat} (hi : i < 5) : su x s / 2 ^ i % 2 = x / 2 ^ (5 * s + i) % 2 := by
  unfold su
  rw [Nat.pow_add, ← Nat.div_div_eq_div_mul, show (2 : Nat) ^ (5 * s) = 32 ^ s by rw [Nat.pow_mul]]
  rcases (show i = 0 ∨ i = 1 ∨ i = 2 ∨ i = 3 ∨ i = 4 by omega) with rfl | rfl | rfl | rfl | rfl
  · show _ / 1 % 2 = _ / 1 % 2; omega
  · show _ / 2 % 2 = _ / 2 % 2; omega
  · show _ / 4 % 2 = _ / 4 % 2; omega
  · show _ / 8 % 2 = _ / 8 % 2; omega
  · show _ / 16 % 2 = _ / 16 % 2; omega
theorem su_or (h m s : Nat) : su (h ||| m) s = su h s ||| su m s := by
  unfold su
  rw [show (32 : Nat) ^ s = 2 ^ (5 * s) by rw [Nat.pow_mul], ← Nat.shiftRight_eq_div_pow, ← Nat.shiftRight_eq_div_pow, ← Nat.shiftRight_eq_div_pow, Nat.shiftRight_or_distrib, show (32 : Nat) = 2 ^ 5 from rfl, Nat.or_mod_two_pow]
theorem su_su (h s : Nat) : su (su h s) 0 = su h s := by
  show su h s / 1 % 32 = su h s
  rw [Nat.div_one, Nat.mod_eq_of_lt (su_lt h s)]
theorem sz_su (h s : Nat) : sizeH (su h s) = lenH h s := by
  have hl := su_lt h s
  unfold sizeH lenH
  rw [su_su, show su (su h s) 1 = 0 by show su h s / 32 % 32 = 0; omega, show su (su h s) 2 = 0 by show su h s / 1024 % 32 = 0; omega, show su (su h s) 3 = 0 by show su h s / 32768 % 32 = 0; omega]
  rfl
theorem ld_eq {y j : Nat} (hj : j ≤ 5) (h : ∀ i, i < j → y / 2 ^ (4 - i) % 2 = 1) (h2 : j = 5 ∨ ¬ y / 2 ^ (4 - j) % 2 = 1) : ldN y = j := by
  rcases (show j = 0 ∨ j = 1 ∨ j = 2 ∨ j = 3 ∨ j = 4 ∨ j = 5 by omega) with rfl | rfl | rfl | rfl | rfl | rfl
  · have g0 : ¬ y / 16 % 2 = 1 := by simpa using h2
    unfold ldN
    rw [if_neg g0]
  · have g0 : y / 16 % 2 = 1 := h 0 (by omega)
    have g1 : ¬ y / 8 % 2 = 1 := by simpa using h2
    unfold ldN
    rw [if_pos g0, if_neg g1]
  · have g0 : y / 16 % 2 = 1 := h 0 (by omega)
    have g1 : y / 8 % 2 = 1 := h 1 (by omega)
    have g2 : ¬ y / 4 % 2 = 1 := by simpa using h2
    unfold ldN
    rw [if_pos g0, if_pos g1, if_neg g2]
  · have g0 : y / 16 % 2 = 1 := h 0 (by omega)
    have g1 : y / 8 % 2 = 1 := h 1 (by omega)
    have g2 : y / 4 % 2 = 1 := h 2 (by omega)
    have g3 : ¬ y / 2 % 2 = 1 := by simpa using h2
    unfold ldN
    rw [if_pos g0, if_pos g1, if_pos g2, if_neg g3]
  · have g0 : y / 16 % 2 = 1 := h 0 (by omega)
    have g1 : y / 8 % 2 = 1 := h 1 (by omega)
    have g2 : y / 4 % 2 = 1 := h 2 (by omega)
    have g3 : y / 2 % 2 = 1 := h 3 (by omega)
    have g4 : ¬ y % 2 = 1 := by simpa using h2
    unfold ldN
    rw [if_pos g0, if_pos g1, if_pos g2, if_pos g3, if_neg g4]
  · have g0 : y / 16 % 2 = 1 := h 0 (by omega)
    have g1 : y / 8 % 2 = 1 := h 1 (by omega)
    have g2 : y / 4 % 2 = 1 := h 2 (by omega)
    have g3 : y / 2 % 2 = 1 := h 3 (by omega)
    have g4 : y % 2 = 1 := by
      have := h 4 (by omega)
      rwa [show y / 2 ^ (4 - 4) = y from Nat.div_one y] at this
    unfold ldN
    rw [if_pos g0, if_pos g1, if_pos g2, if_pos g3, if_pos g4]
theorem wn_sub {s j : Nat} (hj : j < 5) : nI (5 * s + 5 - j) - 1 = nI (5 * s + 4 - j) := by
  rw [show (1 : Int32) = nI 1 from rfl, pk_sub (a := 5 * s + 5 - j) (b := 1) (by omega), show 5 * s + 5 - j - 1 = 5 * s + 4 - j by omega]
theorem wn_c0 {s j : Nat} (hs : s < 4) (hj : j = 5) : nI (5 * s + 5 - j) - 1 < nI (5 * s) := by
  rw [hj, Int32.lt_iff_toInt_lt, show (1 : Int32) = nI 1 from rfl, pk_sub_toInt (by omega) (by omega), nI_toInt (by omega)]
  omega
theorem wn_c1 {s j : Nat} (hs : s < 4) (hj : j < 5) : ¬ nI (5 * s + 5 - j) - 1 < nI (5 * s) := by
  rw [wn_sub hj]
  exact fun q => by
    have := k_lt (a := 5 * s + 4 - j) (b := 5 * s) (by omega) (by omega) q
    omega
theorem wn_dec {s j : Nat} (hj : j < 5) {v : Int32} (e : v = (nI (5 * s + 5 - j) - 1) + (-1)) : nI (5 * s + 5 - (j + 1)) - 1 = v := by
  rw [e, wn_sub hj, show 5 * s + 5 - (j + 1) = 5 * s + 4 - j by omega]
  exact Int32.sub_eq_add_neg _ _
theorem ld_fin {x s j : Nat} (hj : j ≤ 5) (h : ∀ i, i < j → x / 2 ^ (5 * s + 4 - i) % 2 = 1) (h2 : j = 5 ∨ ¬ x / 2 ^ (5 * s + 4 - j) % 2 = 1) : ldN (su x s) = j := by
  refine ld_eq hj (fun i hi => ?_) ?_
  · rw [su_bt x s (i := 4 - i) (by omega), show 5 * s + (4 - i) = 5 * s + 4 - i by omega]
    exact h i hi
  · rcases (show j = 5 ∨ j < 5 by omega) with q | q
    · exact Or.inl q
    · refine Or.inr ?_
      rw [su_bt x s (i := 4 - j) (by omega), show 5 * s + (4 - j) = 5 * s + 4 - j by omega]
      rcases h2 with h2 | h2
      · omega
      · exact h2
set_option maxHeartbeats 4000000 in
set_option maxRecDepth 100000 in
theorem c_L_winners (l : Launch) (G : HG) (hp : HP) (a b s9 : Nat) (ha : a ≤ 1048575) (hb : b ≤ 1048575) (hs : s9 < 4) : Met l yL_winners [.code yL_winners cL_winners 8 (some .int)] { frames := 1, cells := 0, slots := 0, locals := 22 } (va_Pc [.int (nI a), .int (nI b), .int (nI s9)] (RP G hp)) (vp_Si (fun r => r = nI (wnN (su a s9) (su b s9)))) 0 0 (fun _ => False) := by
  refine ro_ofW (by decide) (Nat.le_of_ble_eq_true rfl) ?_
  intro p e s m args below meth c ls X hr hlk hH hl
  have hS : va_S (fun _ => False) s.heap s.heap [] := va_S.rf
  have hl : lv_has ls 8 [(0, .int (nI a)), (1, .int (nI b)), (2, .int (nI s9))] := hl
  have hab : a ||| b < 2 ^ 20 := Nat.or_lt_two_pow (by omega) (by omega)
  have hla := lenH_le a s9
  have hlb := lenH_le b s9
  refine lv_iconst (v := 0) X.1 X.2.1 dL_winners_0 (by decide) ?_
  refine lv_istore_n (lv' := [(3, .int 0), (0, .int (nI a)), (1, .int (nI b)), (2, .int (nI s9))]) X.1 X.2.1 dL_winners_1 rfl hl (by decide) rfl (fun ls hl => ?_)
  refine lv_iload_n X.1 X.2.1 dL_winners_2 rfl (lv_at hl 1 rfl) ?_
  refine lv_iload_n X.1 X.2.1 dL_winners_3 rfl (lv_at hl 2 rfl) ?_
  refine lv_ior X.1 X.2.1 dL_winners_4 ?_
  refine r_eqi (show (((nI a) ||| (nI b)) : Int32) = nI (a ||| b) from n_or a b) ?_
  refine lv_istore (lv' := [(4, .int (nI (a ||| b))), (3, .int 0), (0, .int (nI a)), (1, .int (nI b)), (2, .int (nI s9))]) X.1 X.2.1 dL_winners_5 hl (by decide) rfl (fun ls hl => ?_)
  refine lv_iconst (v := 5) X.1 X.2.1 dL_winners_7 (by decide) ?_
  refine lv_iload_n X.1 X.2.1 dL_winners_8 rfl (lv_at hl 4 rfl) ?_
  refine lv_imul X.1 X.2.1 dL_winners_9 ?_
  refine r_eqi (show (((5 : Int32) * (nI s9)) : Int32) = nI (5 * s9) from pk_mul 5 s9) ?_
  refine lv_iconst (v := 4) X.1 X.2.1 dL_winners_10 (by decide) ?_
  refine lv_iadd X.1 X.2.1 dL_winners_11 ?_
  refine r_eqi (show (((nI (5 * s9)) + 4) : Int32) = nI ((5 * s9) + 4) from nI_add (5 * s9) 4) ?_
  refine lv_istore (lv' := [(5, .int (nI ((5 * s9) + 4))), (4, .int (nI (a ||| b))), (3, .int 0), (0, .int (nI a)), (1, .int (nI b)), (2, .int (nI s9))]) X.1 X.2.1 dL_winners_12 hl (by decide) rfl (fun ls hl => ?_)
  have hl : lv_has ls 8 [(5, .int (nI (5 * s9 + 5 - 0) - 1)), (4, .int (nI (a ||| b))), (3, .int 0), (0, .int (nI a)), (1, .int (nI b)), (2, .int (nI s9))] := by rw [show (nI (5 * s9 + 5 - 0) - 1 : Int32) = (nI ((5 * s9) + 4)) from (wn_sub (s := s9) (j := 0) (by decide)).trans (by rfl)]; exact hl
  have L14 : ∀ (f : Nat) (j : Nat), j + f = 5 → (∀ i, i < j → (a ||| b) / 2 ^ (5 * s9 + 4 - i) % 2 = 1) → ∀ ls, lv_has ls 8 [(0, .int (nI a)), (1, .int (nI b)), (2, .int (nI s9)), (3, .int (nI j)), (4, .int (nI (a ||| b))), (5, .int (nI (5 * s9 + 5 - j) - 1))] → W p l e ({ frames := 1, cells := 0, slots := 0, locals := 22 } : Room) s m args below meth c s.heap [] 0 0 (MQ below (vp_Si (fun r => r = nI (wnN (su a s9) (su b s9)))) args s 0 0 (fun _ => False)) (F0 m 14 ls []) := by
    intro f
    induction f with
    | zero =>
      intro j h0 h1 ls hl
      have hld : ldN (su (a ||| b) s9) = j := ld_fin (by omega) h1 (Or.inl (by omega))
      refine lv_iload X.1 X.2.1 dL_winners_14 (lv_at hl 5 rfl) ?_
      refine lv_iconst (v := 5) X.1 X.2.1 dL_winners_16 (by decide) ?_
      refine lv_iload_n X.1 X.2.1 dL_winners_17 rfl (lv_at hl 2 rfl) ?_
      refine lv_imul X.1 X.2.1 dL_winners_18 ?_
      refine r_eqi (show (((5 : Int32) * (nI s9)) : Int32) = nI (5 * s9) from pk_mul 5 s9) ?_
      refine lv_icmp_lt (tgt := 42) X.1 X.2.1 dL_winners_19 (by decide) (fun c_19 => ?_) (fun c_19 => absurd (wn_c0 hs (by omega)) c_19)
      refine lv_iload_n X.1 X.2.1 dL_winners_42 rfl (lv_at hl 0 rfl) ?_
      refine lv_iconst (v := 5) X.1 X.2.1 dL_winners_43 (by decide) ?_
      refine lv_iload_n X.1 X.2.1 dL_winners_44 rfl (lv_at hl 2 rfl) ?_
      refine lv_imul X.1 X.2.1 dL_winners_45 ?_
      refine r_eqi (show (((5 : Int32) * (nI s9)) : Int32) = nI (5 * s9) from pk_mul 5 s9) ?_
      refine lv_ishr X.1 X.2.1 dL_winners_46 ?_
      refine r_eqi (show (((nI a) >>> ((nI (5 * s9)) &&& 31)) : Int32) = nI (a / 32 ^ s9) from shr5 a s9 (by omega) (by omega)) ?_
      refine lv_bipush (v := 31) X.1 X.2.1 dL_winners_47 (by decide) ?_
      refine lv_iand X.1 X.2.1 dL_winners_49 ?_
      refine r_eqi (show (((nI (a / 32 ^ s9)) &&& 31) : Int32) = nI ((a / 32 ^ s9) % 32) from n_and31 (a / 32 ^ s9)) ?_
      refine r_eqi (show ((nI ((a / 32 ^ s9) % 32)) : Int32) = nI (su a s9) from rfl) ?_
      refine on_Si (run_S (As := [.int (nI (su a s9))]) (rest := []) X (c_L_many l G hp (su a s9) (Nat.le_trans (Nat.le_of_lt (su_lt _ _)) (by decide))) (rp_blind _) (rp_at X hH hS) mf_L_many tw_335 tw_336 ⟨rfl, rfl, Nat.le_of_ble_eq_true rfl, Nat.le_of_ble_eq_true rfl⟩ hl.1 rfl rfl (Nat.le_of_ble_eq_true rfl) ⟨Nat.le_of_ble_eq_true rfl, Nat.le_of_ble_eq_true rfl⟩ dL_winners_50) (fun r_50 q_50 => ?_)
      obtain rfl : r_50 = (nI (sizeH (su a s9))) := q_50
      refine r_eqi (show ((nI (sizeH (su a s9))) : Int32) = nI (lenH a s9) from by rw [sz_su]) ?_
      refine lv_istore (lv' := [(5, .int (nI (lenH a s9))), (0, .int (nI a)), (1, .int (nI b)), (2, .int (nI s9)), (3, .int (nI j)), (4, .int (nI (a ||| b)))]) X.1 X.2.1 dL_winners_53 hl (by decide) rfl (fun ls hl => ?_)
      refine lv_iload_n X.1 X.2.1 dL_winners_55 rfl (lv_at hl 2 rfl) ?_
      refine lv_iconst (v := 5) X.1 X.2.1 dL_winners_56 (by decide) ?_
      refine lv_iload_n X.1 X.2.1 dL_winners_57 rfl (lv_at hl 3 rfl) ?_
      refine lv_imul X.1 X.2.1 dL_winners_58 ?_
      refine r_eqi (show (((5 : Int32) * (nI s9)) : Int32) = nI (5 * s9) from pk_mul 5 s9) ?_
      refine lv_ishr X.1 X.2.1 dL_winners_59 ?_
      refine r_eqi (show (((nI b) >>> ((nI (5 * s9)) &&& 31)) : Int32) = nI (b / 32 ^ s9) from shr5 b s9 (by omega) (by omega)) ?_
      refine lv_bipush (v := 31) X.1 X.2.1 dL_winners_60 (by decide) ?_
      refine lv_iand X.1 X.2.1 dL_winners_62 ?_
      refine r_eqi (show (((nI (b / 32 ^ s9)) &&& 31) : Int32) = nI ((b / 32 ^ s9) % 32) from n_and31 (b / 32 ^ s9)) ?_
      refine r_eqi (show ((nI ((b / 32 ^ s9) % 32)) : Int32) = nI (su b s9) from rfl) ?_
      refine on_Si (run_S (As := [.int (nI (su b s9))]) (rest := []) X (c_L_many l G hp (su b s9) (Nat.le_trans (Nat.le_of_lt (su_lt _ _)) (by decide))) (rp_blind _) (rp_at X hH hS) mf_L_many tw_335 tw_336 ⟨rfl, rfl, Nat.le_of_ble_eq_true rfl, Nat.le_of_ble_eq_true rfl⟩ hl.1 rfl rfl (Nat.le_of_ble_eq_true rfl) ⟨Nat.le_of_ble_eq_true rfl, Nat.le_of_ble_eq_true rfl⟩ dL_winners_63) (fun r_63 q_63 => ?_)
      obtain rfl : r_63 = (nI (sizeH (su b s9))) := q_63
      refine r_eqi (show ((nI (sizeH (su b s9))) : Int32) = nI (lenH b s9) from by rw [sz_su]) ?_
      refine lv_istore (lv' := [(6, .int (nI (lenH b s9))), (5, .int (nI (lenH a s9))), (0, .int (nI a)), (1, .int (nI b)), (2, .int (nI s9)), (3, .int (nI j)), (4, .int (nI (a ||| b)))]) X.1 X.2.1 dL_winners_66 hl (by decide) rfl (fun ls hl => ?_)
      refine lv_iload X.1 X.2.1 dL_winners_68 (lv_at hl 1 rfl) ?_
      refine lv_iload X.1 X.2.1 dL_winners_70 (lv_at hl 0 rfl) ?_
      refine lv_icmp_le (tgt := 80) X.1 X.2.1 dL_winners_72 (by decide) (fun c_72 => ?_) (fun c_72 => ?_)
      · have k_72 := k_le (a := (lenH a s9)) (b := (lenH b s9)) (by omega) (by omega) c_72
        refine lv_iload X.1 X.2.1 dL_winners_80 (lv_at hl 0 rfl) ?_
        refine lv_istore (lv' := [(7, .int (nI (lenH b s9))), (6, .int (nI (lenH b s9))), (5, .int (nI (lenH a s9))), (0, .int (nI a)), (1, .int (nI b)), (2, .int (nI s9)), (3, .int (nI j)), (4, .int (nI (a ||| b)))]) X.1 X.2.1 dL_winners_82 hl (by decide) rfl (fun ls hl => ?_)
        refine lv_iload_n X.1 X.2.1 dL_winners_84 rfl (lv_at hl 6 rfl) ?_
        refine lv_iload X.1 X.2.1 dL_winners_85 (lv_at hl 0 rfl) ?_
        refine lv_icmp_ge (tgt := 94) X.1 X.2.1 dL_winners_87 (by decide) (fun c_87 => ?_) (fun c_87 => ?_)
        · have k_87 := k_le (a := (lenH b s9)) (b := j) (by omega) (by omega) c_87
          refine lv_iload X.1 X.2.1 dL_winners_94 (lv_at hl 0 rfl) ?_
          exact ro_i X hr hlk (by show nI _ = nI (min (ldN (su a s9 ||| su b s9)) (max (lenH a s9) (lenH b s9))); rw [← su_or, hld]; refine congrArg nI ?_; omega) dL_winners_96
        · have k_87 := k_nle (a := (lenH b s9)) (b := j) (by omega) (by omega) c_87
          refine lv_iload_n X.1 X.2.1 dL_winners_90 rfl (lv_at hl 6 rfl) ?_
          refine lv_goto (tgt := 96) X.1 X.2.1 dL_winners_91 (by decide) ?_
          exact ro_i X hr hlk (by show nI _ = nI (min (ldN (su a s9 ||| su b s9)) (max (lenH a s9) (lenH b s9))); rw [← su_or, hld]; refine congrArg nI ?_; omega) dL_winners_96
      · have k_72 := k_nle (a := (lenH a s9)) (b := (lenH b s9)) (by omega) (by omega) c_72
        refine lv_iload X.1 X.2.1 dL_winners_75 (lv_at hl 1 rfl) ?_
        refine lv_goto (tgt := 82) X.1 X.2.1 dL_winners_77 (by decide) ?_
        refine lv_istore (lv' := [(7, .int (nI (lenH a s9))), (6, .int (nI (lenH b s9))), (5, .int (nI (lenH a s9))), (0, .int (nI a)), (1, .int (nI b)), (2, .int (nI s9)), (3, .int (nI j)), (4, .int (nI (a ||| b)))]) X.1 X.2.1 dL_winners_82 hl (by decide) rfl (fun ls hl => ?_)
        refine lv_iload_n X.1 X.2.1 dL_winners_84 rfl (lv_at hl 6 rfl) ?_
        refine lv_iload X.1 X.2.1 dL_winners_85 (lv_at hl 0 rfl) ?_
        refine lv_icmp_ge (tgt := 94) X.1 X.2.1 dL_winners_87 (by decide) (fun c_87 => ?_) (fun c_87 => ?_)
        · have k_87 := k_le (a := (lenH a s9)) (b := j) (by omega) (by omega) c_87
          refine lv_iload X.1 X.2.1 dL_winners_94 (lv_at hl 0 rfl) ?_
          exact ro_i X hr hlk (by show nI _ = nI (min (ldN (su a s9 ||| su b s9)) (max (lenH a s9) (lenH b s9))); rw [← su_or, hld]; refine congrArg nI ?_; omega) dL_winners_96
        · have k_87 := k_nle (a := (lenH a s9)) (b := j) (by omega) (by omega) c_87
          refine lv_iload_n X.1 X.2.1 dL_winners_90 rfl (lv_at hl 6 rfl) ?_
          refine lv_goto (tgt := 96) X.1 X.2.1 dL_winners_91 (by decide) ?_
          exact ro_i X hr hlk (by show nI _ = nI (min (ldN (su a s9 ||| su b s9)) (max (lenH a s9) (lenH b s9))); rw [← su_or, hld]; refine congrArg nI ?_; omega) dL_winners_96
    | succ f ih =>
      intro j h0 h1 ls hl
      have hj5 : j < 5 := by omega
      refine lv_iload X.1 X.2.1 dL_winners_14 (lv_at hl 5 rfl) ?_
      refine lv_iconst (v := 5) X.1 X.2.1 dL_winners_16 (by decide) ?_
      refine lv_iload_n X.1 X.2.1 dL_winners_17 rfl (lv_at hl 2 rfl) ?_
      refine lv_imul X.1 X.2.1 dL_winners_18 ?_
      refine r_eqi (show (((5 : Int32) * (nI s9)) : Int32) = nI (5 * s9) from pk_mul 5 s9) ?_
      refine lv_icmp_lt (tgt := 42) X.1 X.2.1 dL_winners_19 (by decide) (fun c_19 => absurd c_19 (wn_c1 hs (by omega))) (fun c_19 => ?_)
      refine lv_iload X.1 X.2.1 dL_winners_22 (lv_at hl 4 rfl) ?_
      refine lv_iload X.1 X.2.1 dL_winners_24 (lv_at hl 5 rfl) ?_
      refine r_eqi (show ((nI (5 * s9 + 5 - j) - 1) : Int32) = nI (5 * s9 + 4 - j) from wn_sub hj5) ?_
      refine lv_ishr X.1 X.2.1 dL_winners_26 ?_
      refine r_eqi (show (((nI (a ||| b)) >>> ((nI (5 * s9 + 4 - j)) &&& 31)) : Int32) = nI ((a ||| b) / 2 ^ (5 * s9 + 4 - j)) from shr_l (by omega) (by omega)) ?_
      refine lv_iconst (v := 1) X.1 X.2.1 dL_winners_27 (by decide) ?_
      refine lv_iand X.1 X.2.1 dL_winners_28 ?_
      refine r_eqi (show (((nI ((a ||| b) / 2 ^ (5 * s9 + 4 - j))) &&& 1) : Int32) = nI (((a ||| b) / 2 ^ (5 * s9 + 4 - j)) % 2) from n_and1 ((a ||| b) / 2 ^ (5 * s9 + 4 - j))) ?_
      refine lv_iconst (v := 1) X.1 X.2.1 dL_winners_29 (by decide) ?_
      refine lv_icmp_ne (tgt := 42) X.1 X.2.1 dL_winners_30 (by decide) (fun c_30 => ?_) (fun c_30 => ?_)
      · have k_30 := k_ne (a := (((a ||| b) / 2 ^ (5 * s9 + 4 - j)) % 2)) (b := 1) (by omega) (by omega) c_30
        have hld : ldN (su (a ||| b) s9) = j := ld_fin (by omega) h1 (Or.inr k_30)
        refine lv_iload_n X.1 X.2.1 dL_winners_42 rfl (lv_at hl 0 rfl) ?_
        refine lv_iconst (v := 5) X.1 X.2.1 dL_winners_43 (by decide) ?_
        refine lv_iload_n X.1 X.2.1 dL_winners_44 rfl (lv_at hl 2 rfl) ?_
        refine lv_imul X.1 X.2.1 dL_winners_45 ?_
        refine r_eqi (show (((5 : Int32) * (nI s9)) : Int32) = nI (5 * s9) from pk_mul 5 s9) ?_
        refine lv_ishr X.1 X.2.1 dL_winners_46 ?_
        refine r_eqi (show (((nI a) >>> ((nI (5 * s9)) &&& 31)) : Int32) = nI (a / 32 ^ s9) from shr5 a s9 (by omega) (by omega)) ?_
        refine lv_bipush (v := 31) X.1 X.2.1 dL_winners_47 (by decide) ?_
        refine lv_iand X.1 X.2.1 dL_winners_49 ?_
        refine r_eqi (show (((nI (a / 32 ^ s9)) &&& 31) : Int32) = nI ((a / 32 ^ s9) % 32) from n_and31 (a / 32 ^ s9)) ?_
        refine r_eqi (show ((nI ((a / 32 ^ s9) % 32)) : Int32) = nI (su a s9) from rfl) ?_
        refine on_Si (run_S (As := [.int (nI (su a s9))]) (rest := []) X (c_L_many l G hp (su a s9) (Nat.le_trans (Nat.le_of_lt (su_lt _ _)) (by decide))) (rp_blind _) (rp_at X hH hS) mf_L_many tw_335 tw_336 ⟨rfl, rfl, Nat.le_of_ble_eq_true rfl, Nat.le_of_ble_eq_true rfl⟩ hl.1 rfl rfl (Nat.le_of_ble_eq_true rfl) ⟨Nat.le_of_ble_eq_true rfl, Nat.le_of_ble_eq_true rfl⟩ dL_winners_50) (fun r_50 q_50 => ?_)
        obtain rfl : r_50 = (nI (sizeH (su a s9))) := q_50
        refine r_eqi (show ((nI (sizeH (su a s9))) : Int32) = nI (lenH a s9) from by rw [sz_su]) ?_
        refine lv_istore (lv' := [(5, .int (nI (lenH a s9))), (0, .int (nI a)), (1, .int (nI b)), (2, .int (nI s9)), (3, .int (nI j)), (4, .int (nI (a ||| b)))]) X.1 X.2.1 dL_winners_53 hl (by decide) rfl (fun ls hl => ?_)
        refine lv_iload_n X.1 X.2.1 dL_winners_55 rfl (lv_at hl 2 rfl) ?_
        refine lv_iconst (v := 5) X.1 X.2.1 dL_winners_56 (by decide) ?_
        refine lv_iload_n X.1 X.2.1 dL_winners_57 rfl (lv_at hl 3 rfl) ?_
        refine lv_imul X.1 X.2.1 dL_winners_58 ?_
        refine r_eqi (show (((5 : Int32) * (nI s9)) : Int32) = nI (5 * s9) from pk_mul 5 s9) ?_
        refine lv_ishr X.1 X.2.1 dL_winners_59 ?_
        refine r_eqi (show (((nI b) >>> ((nI (5 * s9)) &&& 31)) : Int32) = nI (b / 32 ^ s9) from shr5 b s9 (by omega) (by omega)) ?_
        refine lv_bipush (v := 31) X.1 X.2.1 dL_winners_60 (by decide) ?_
        refine lv_iand X.1 X.2.1 dL_winners_62 ?_
        refine r_eqi (show (((nI (b / 32 ^ s9)) &&& 31) : Int32) = nI ((b / 32 ^ s9) % 32) from n_and31 (b / 32 ^ s9)) ?_
        refine r_eqi (show ((nI ((b / 32 ^ s9) % 32)) : Int32) = nI (su b s9) from rfl) ?_
        refine on_Si (run_S (As := [.int (nI (su b s9))]) (rest := []) X (c_L_many l G hp (su b s9) (Nat.le_trans (Nat.le_of_lt (su_lt _ _)) (by decide))) (rp_blind _) (rp_at X hH hS) mf_L_many tw_335 tw_336 ⟨rfl, rfl, Nat.le_of_ble_eq_true rfl, Nat.le_of_ble_eq_true rfl⟩ hl.1 rfl rfl (Nat.le_of_ble_eq_true rfl) ⟨Nat.le_of_ble_eq_true rfl, Nat.le_of_ble_eq_true rfl⟩ dL_winners_63) (fun r_63 q_63 => ?_)
        obtain rfl : r_63 = (nI (sizeH (su b s9))) := q_63
        refine r_eqi (show ((nI (sizeH (su b s9))) : Int32) = nI (lenH b s9) from by rw [sz_su]) ?_
        refine lv_istore (lv' := [(6, .int (nI (lenH b s9))), (5, .int (nI (lenH a s9))), (0, .int (nI a)), (1, .int (nI b)), (2, .int (nI s9)), (3, .int (nI j)), (4, .int (nI (a ||| b)))]) X.1 X.2.1 dL_winners_66 hl (by decide) rfl (fun ls hl => ?_)
        refine lv_iload X.1 X.2.1 dL_winners_68 (lv_at hl 1 rfl) ?_
        refine lv_iload X.1 X.2.1 dL_winners_70 (lv_at hl 0 rfl) ?_
        refine lv_icmp_le (tgt := 80) X.1 X.2.1 dL_winners_72 (by decide) (fun c_72 => ?_) (fun c_72 => ?_)
        · have k_72 := k_le (a := (lenH a s9)) (b := (lenH b s9)) (by omega) (by omega) c_72
          refine lv_iload X.1 X.2.1 dL_winners_80 (lv_at hl 0 rfl) ?_
          refine lv_istore (lv' := [(7, .int (nI (lenH b s9))), (6, .int (nI (lenH b s9))), (5, .int (nI (lenH a s9))), (0, .int (nI a)), (1, .int (nI b)), (2, .int (nI s9)), (3, .int (nI j)), (4, .int (nI (a ||| b)))]) X.1 X.2.1 dL_winners_82 hl (by decide) rfl (fun ls hl => ?_)
          refine lv_iload_n X.1 X.2.1 dL_winners_84 rfl (lv_at hl 6 rfl) ?_
          refine lv_iload X.1 X.2.1 dL_winners_85 (lv_at hl 0 rfl) ?_
          refine lv_icmp_ge (tgt := 94) X.1 X.2.1 dL_winners_87 (by decide) (fun c_87 => ?_) (fun c_87 => ?_)
          · have k_87 := k_le (a := (lenH b s9)) (b := j) (by omega) (by omega) c_87
            refine lv_iload X.1 X.2.1 dL_winners_94 (lv_at hl 0 rfl) ?_
            exact ro_i X hr hlk (by show nI _ = nI (min (ldN (su a s9 ||| su b s9)) (max (lenH a s9) (lenH b s9))); rw [← su_or, hld]; refine congrArg nI ?_; omega) dL_winners_96
          · have k_87 := k_nle (a := (lenH b s9)) (b := j) (by omega) (by omega) c_87
            refine lv_iload_n X.1 X.2.1 dL_winners_90 rfl (lv_at hl 6 rfl) ?_
            refine lv_goto (tgt := 96) X.1 X.2.1 dL_winners_91 (by decide) ?_
            exact ro_i X hr hlk (by show nI _ = nI (min (ldN (su a s9 ||| su b s9)) (max (lenH a s9) (lenH b s9))); rw [← su_or, hld]; refine congrArg nI ?_; omega) dL_winners_96
        · have k_72 := k_nle (a := (lenH a s9)) (b := (lenH b s9)) (by omega) (by omega) c_72
          refine lv_iload X.1 X.2.1 dL_winners_75 (lv_at hl 1 rfl) ?_
          refine lv_goto (tgt := 82) X.1 X.2.1 dL_winners_77 (by decide) ?_
          refine lv_istore (lv' := [(7, .int (nI (lenH a s9))), (6, .int (nI (lenH b s9))), (5, .int (nI (lenH a s9))), (0, .int (nI a)), (1, .int (nI b)), (2, .int (nI s9)), (3, .int (nI j)), (4, .int (nI (a ||| b)))]) X.1 X.2.1 dL_winners_82 hl (by decide) rfl (fun ls hl => ?_)
          refine lv_iload_n X.1 X.2.1 dL_winners_84 rfl (lv_at hl 6 rfl) ?_
          refine lv_iload X.1 X.2.1 dL_winners_85 (lv_at hl 0 rfl) ?_
          refine lv_icmp_ge (tgt := 94) X.1 X.2.1 dL_winners_87 (by decide) (fun c_87 => ?_) (fun c_87 => ?_)
          · have k_87 := k_le (a := (lenH a s9)) (b := j) (by omega) (by omega) c_87
            refine lv_iload X.1 X.2.1 dL_winners_94 (lv_at hl 0 rfl) ?_
            exact ro_i X hr hlk (by show nI _ = nI (min (ldN (su a s9 ||| su b s9)) (max (lenH a s9) (lenH b s9))); rw [← su_or, hld]; refine congrArg nI ?_; omega) dL_winners_96
          · have k_87 := k_nle (a := (lenH a s9)) (b := j) (by omega) (by omega) c_87
            refine lv_iload_n X.1 X.2.1 dL_winners_90 rfl (lv_at hl 6 rfl) ?_
            refine lv_goto (tgt := 96) X.1 X.2.1 dL_winners_91 (by decide) ?_
            exact ro_i X hr hlk (by show nI _ = nI (min (ldN (su a s9 ||| su b s9)) (max (lenH a s9) (lenH b s9))); rw [← su_or, hld]; refine congrArg nI ?_; omega) dL_winners_96
      · have k_30 := k_eq (a := (((a ||| b) / 2 ^ (5 * s9 + 4 - j)) % 2)) (b := 1) (by omega) (by omega) c_30
        refine lv_iinc (v := (nI (j + 1))) (lv' := [(3, .int (nI (j + 1))), (0, .int (nI a)), (1, .int (nI b)), (2, .int (nI s9)), (4, .int (nI (a ||| b))), (5, .int (nI (5 * s9 + 5 - j) - 1))]) X.1 X.2.1 dL_winners_33 hl (k := 3) rfl (nI_add j 1) (by decide) rfl (fun ls hl => ?_)
        obtain ⟨v_36, e_36⟩ : ∃ y9 : Int32, y9 = (nI (5 * s9 + 5 - j) - 1) + (-1) := ⟨_, rfl⟩
        refine lv_iinc (v := v_36) (lv' := [(5, .int v_36), (3, .int (nI (j + 1))), (0, .int (nI a)), (1, .int (nI b)), (2, .int (nI s9)), (4, .int (nI (a ||| b)))]) X.1 X.2.1 dL_winners_36 hl (k := 5) rfl (by rw [e_36]; rfl) (by decide) rfl (fun ls hl => ?_)
        refine lv_goto (tgt := 14) X.1 X.2.1 dL_winners_39 (by decide) ?_
        exact ih (j + 1) (by omega) (lt_step h1 k_30) ls (by rw [wn_dec (s := s9) (j := j) (by omega) e_36]; exact (lv_sub hl [2, 3, 4, 1, 5, 0] rfl))
  exact L14 5 0 rfl (fun i hi => absurd hi (by omega)) ls (lv_sub hl [3, 4, 5, 2, 1, 0] rfl)

def trQ (t a b : Nat) : Nat → Nat
  | 0 => 0
  | s + 1 => trQ t a b s + trS t a b s
theorem wn_le5 (a b : Nat) : wnN a b ≤ 5 := wnN_le a b
theorem trQ_le (t a b : Nat) : ∀ s, trQ t a b s ≤ 7 * s
  | 0 => Nat.le_refl 0
  | s + 1 => by
    have h1 := trQ_le t a b s
    have h2 := wnN_le (su a s) (su b s)
    have h3 := rfN_le a b s t
    have h4 := rfN_le b a s t
    unfold trQ trS
    split <;> omega
theorem tq_0 {t a b s : Nat} (h : t = 4 ∨ s = t) : trQ t a b (s + 1) = trQ t a b s + wnN (su a s) (su b s) := by
  show trQ t a b s + trS t a b s = _
  unfold trS
  rw [if_neg (fun q => by omega)]; rfl
theorem tq_1 {t a b s x y : Nat} (h1 : t ≠ 4) (h2 : s ≠ t) (r1 : rfN a b s t = x) (r2 : rfN b a s t = y) : trQ t a b (s + 1) = trQ t a b s + wnN (su a s) (su b s) + x + y := by
  show trQ t a b s + trS t a b s = _
  unfold trS
  rw [if_pos ⟨h1, h2⟩, r1, r2]
  omega
theorem pc5_z : ∀ x, x < 32 → (pc5 x = 0 ↔ x = 0) := by decide +kernel
theorem len_z (h s : Nat) : lenH h s = 0 ↔ su h s = 0 := pc5_z _ (su_lt h s)
theorem rf_1 {a b s t : Nat} (h : lenH a s ≠ 0) : rfN a b s t = 0 := if_neg (fun q => h ((len_z a s).mpr q.1))
theorem rf_2 {a b s t : Nat} (h : lenH b s ≤ 0) : rfN a b s t = 0 := if_neg (fun q => q.2.2 ((len_z b s).mp (by omega)))
theorem rf_3 {a b s t : Nat} (h : lenH a t ≤ 0) : rfN a b s t = 0 := if_neg (fun q => q.2.1 ((len_z a t).mp (by omega)))
theorem rf_4 {a b s t : Nat} (h1 : lenH a s = 0) (h2 : 0 < lenH b s) (h3 : 0 < lenH a t) : rfN a b s t = 1 := if_pos ⟨(len_z a s).mp h1, fun q => by have := (len_z a t).mpr q; omega, fun q => by have := (len_z b s).mpr q; omega⟩
theorem trQ_4 (t a b : Nat) : trN t a b = min (trQ t a b 4) 5 := by
  show min _ 5 = min (0 + trS t a b 0 + trS t a b 1 + trS t a b 2 + trS t a b 3) 5
  rw [Nat.zero_add]
set_option maxHeartbeats 4000000 in
set_option maxRecDepth 100000 in
theorem c_L_tricks (l : Launch) (G : HG) (hp : HP) (t9 a b : Nat) (ht : t9 < 5) (ha : a ≤ 1048575) (hb : b ≤ 1048575) : Met l yL_tricks [.code yL_tricks cL_tricks 7 (some .int)] { frames := 2, cells := 0, slots := 0, locals := 49 } (va_Pc [.int (nI t9), .int (nI a), .int (nI b)] (RP G hp)) (vp_Si (fun r => r = nI (trN t9 a b))) 0 0 (fun _ => False) := by
  refine ro_ofW (by decide) (Nat.le_of_ble_eq_true rfl) ?_
  intro p e s m args below meth c ls X hr hlk hH hl
  have hS : va_S (fun _ => False) s.heap s.heap [] := va_S.rf
  have hl : lv_has ls 7 [(0, .int (nI t9)), (1, .int (nI a)), (2, .int (nI b))] := hl
  refine lv_iconst (v := 0) X.1 X.2.1 dL_tricks_0 (by decide) ?_
  refine lv_istore_n (lv' := [(3, .int 0), (0, .int (nI t9)), (1, .int (nI a)), (2, .int (nI b))]) X.1 X.2.1 dL_tricks_1 rfl hl (by decide) rfl (fun ls hl => ?_)
  refine lv_iconst (v := 0) X.1 X.2.1 dL_tricks_2 (by decide) ?_
  refine lv_istore (lv' := [(4, .int 0), (3, .int 0), (0, .int (nI t9)), (1, .int (nI a)), (2, .int (nI b))]) X.1 X.2.1 dL_tricks_3 hl (by decide) rfl (fun ls hl => ?_)
  have L5 : ∀ (f : Nat) (i : Nat), i + f = 4 → ∀ ls, lv_has ls 7 [(0, .int (nI t9)), (1, .int (nI a)), (2, .int (nI b)), (3, .int (nI (trQ t9 a b i))), (4, .int (nI i))] → W p l e ({ frames := 2, cells := 0, slots := 0, locals := 49 } : Room) s m args below meth c s.heap [] 0 0 (MQ below (vp_Si (fun r => r = nI (trN t9 a b))) args s 0 0 (fun _ => False)) (F0 m 5 ls []) := by
    intro f
    induction f with
    | zero =>
      intro i h0 ls hl
      have hi4 : i = 4 := by omega
      have htq := trQ_le t9 a b i
      refine lv_iload X.1 X.2.1 dL_tricks_5 (lv_at hl 4 rfl) ?_
      refine lv_iconst (v := 4) X.1 X.2.1 dL_tricks_7 (by decide) ?_
      refine lv_icmp_ge (tgt := 130) X.1 X.2.1 dL_tricks_8 (by decide) (fun c_8 => ?_) (fun c_8 => absurd (nI_le (a := 4) (b := i) (by omega) (by omega)) c_8)
      refine lv_iload_n X.1 X.2.1 dL_tricks_130 rfl (lv_at hl 3 rfl) ?_
      refine lv_iconst (v := 5) X.1 X.2.1 dL_tricks_131 (by decide) ?_
      refine lv_icmp_le (tgt := 139) X.1 X.2.1 dL_tricks_132 (by decide) (fun c_132 => ?_) (fun c_132 => ?_)
      · have k_132 := k_le (a := (trQ t9 a b i)) (b := 5) (by omega) (by omega) c_132
        refine lv_iload_n X.1 X.2.1 dL_tricks_139 rfl (lv_at hl 3 rfl) ?_
        exact ro_i X hr hlk (by show nI _ = nI _; rw [trQ_4, ← hi4]; refine congrArg nI ?_; omega) dL_tricks_140
      · have k_132 := k_nle (a := (trQ t9 a b i)) (b := 5) (by omega) (by omega) c_132
        refine lv_iconst (v := 5) X.1 X.2.1 dL_tricks_135 (by decide) ?_
        refine lv_goto (tgt := 140) X.1 X.2.1 dL_tricks_136 (by decide) ?_
        exact ro_i X hr hlk (by show nI 5 = nI _; rw [trQ_4, ← hi4]; refine congrArg nI ?_; omega) dL_tricks_140
    | succ f ih =>
      intro i h0 ls hl
      have hi4 : i < 4 := by omega
      have htq := trQ_le t9 a b i
      have hla := lenH_le a i
      have hlb := lenH_le b i
      have hlt := lenH_le a t9
      have hlu := lenH_le b t9
      have hwn := wn_le5 (su a i) (su b i)
      refine lv_iload X.1 X.2.1 dL_tricks_5 (lv_at hl 4 rfl) ?_
      refine lv_iconst (v := 4) X.1 X.2.1 dL_tricks_7 (by decide) ?_
      refine lv_icmp_ge (tgt := 130) X.1 X.2.1 dL_tricks_8 (by decide) (fun c_8 => absurd c_8 (nI_ge (a := i) (b := 4) (by omega) (by decide))) (fun c_8 => ?_)
      refine lv_iload_n X.1 X.2.1 dL_tricks_11 rfl (lv_at hl 3 rfl) ?_
      refine lv_iload_n X.1 X.2.1 dL_tricks_12 rfl (lv_at hl 1 rfl) ?_
      refine lv_iload_n X.1 X.2.1 dL_tricks_13 rfl (lv_at hl 2 rfl) ?_
      refine lv_iload X.1 X.2.1 dL_tricks_14 (lv_at hl 4 rfl) ?_
      refine on_Si (run_S (As := [.int (nI a), .int (nI b), .int (nI i)]) (rest := [.int (nI (trQ t9 a b i))]) X (c_L_winners l G hp a b i (by omega) (by omega) (by omega)) (rp_blind _) (rp_at X hH hS) mf_L_winners tw_522 tw_523 ⟨rfl, rfl, Nat.le_of_ble_eq_true rfl, Nat.le_of_ble_eq_true rfl⟩ hl.1 rfl rfl (Nat.le_of_ble_eq_true rfl) ⟨Nat.le_of_ble_eq_true rfl, Nat.le_of_ble_eq_true rfl⟩ dL_tricks_16) (fun r_16 q_16 => ?_)
      obtain rfl : r_16 = (nI (wnN (su a i) (su b i))) := q_16
      refine lv_iadd X.1 X.2.1 dL_tricks_19 ?_
      refine r_eqi (show (((nI (trQ t9 a b i)) + (nI (wnN (su a i) (su b i)))) : Int32) = nI ((trQ t9 a b i) + (wnN (su a i) (su b i))) from nI_add (trQ t9 a b i) (wnN (su a i) (su b i))) ?_
      refine lv_istore_n (lv' := [(3, .int (nI ((trQ t9 a b i) + (wnN (su a i) (su b i))))), (0, .int (nI t9)), (1, .int (nI a)), (2, .int (nI b)), (4, .int (nI i))]) X.1 X.2.1 dL_tricks_20 rfl hl (by decide) rfl (fun ls hl => ?_)
      refine lv_iload_n X.1 X.2.1 dL_tricks_21 rfl (lv_at hl 2 rfl) ?_
      refine lv_iconst (v := 5) X.1 X.2.1 dL_tricks_22 (by decide) ?_
      refine lv_iload X.1 X.2.1 dL_tricks_23 (lv_at hl 4 rfl) ?_
      refine lv_imul X.1 X.2.1 dL_tricks_25 ?_
      refine r_eqi (show (((5 : Int32) * (nI i)) : Int32) = nI (5 * i) from pk_mul 5 i) ?_
      refine lv_ishr X.1 X.2.1 dL_tricks_26 ?_
      refine r_eqi (show (((nI a) >>> ((nI (5 * i)) &&& 31)) : Int32) = nI (a / 32 ^ i) from shr5 a i (by omega) (by omega)) ?_
      refine lv_bipush (v := 31) X.1 X.2.1 dL_tricks_27 (by decide) ?_
      refine lv_iand X.1 X.2.1 dL_tricks_29 ?_
      refine r_eqi (show (((nI (a / 32 ^ i)) &&& 31) : Int32) = nI ((a / 32 ^ i) % 32) from n_and31 (a / 32 ^ i)) ?_
      refine r_eqi (show ((nI ((a / 32 ^ i) % 32)) : Int32) = nI (su a i) from rfl) ?_
      refine on_Si (run_S (As := [.int (nI (su a i))]) (rest := []) X (c_L_many l G hp (su a i) (Nat.le_trans (Nat.le_of_lt (su_lt _ _)) (by decide))) (rp_blind _) (rp_at X hH hS) mf_L_many tw_335 tw_336 ⟨rfl, rfl, Nat.le_of_ble_eq_true rfl, Nat.le_of_ble_eq_true rfl⟩ hl.1 rfl rfl (Nat.le_of_ble_eq_true rfl) ⟨Nat.le_of_ble_eq_true rfl, Nat.le_of_ble_eq_true rfl⟩ dL_tricks_30) (fun r_30 q_30 => ?_)
      obtain rfl : r_30 = (nI (sizeH (su a i))) := q_30
      refine r_eqi (show ((nI (sizeH (su a i))) : Int32) = nI (lenH a i) from by rw [sz_su]) ?_
      refine lv_istore (lv' := [(5, .int (nI (lenH a i))), (3, .int (nI ((trQ t9 a b i) + (wnN (su a i) (su b i))))), (0, .int (nI t9)), (1, .int (nI a)), (2, .int (nI b)), (4, .int (nI i))]) X.1 X.2.1 dL_tricks_33 hl (by decide) rfl (fun ls hl => ?_)
      refine lv_iload_n X.1 X.2.1 dL_tricks_35 rfl (lv_at hl 4 rfl) ?_
      refine lv_iconst (v := 5) X.1 X.2.1 dL_tricks_36 (by decide) ?_
      refine lv_iload X.1 X.2.1 dL_tricks_37 (lv_at hl 5 rfl) ?_
      refine lv_imul X.1 X.2.1 dL_tricks_39 ?_
      refine r_eqi (show (((5 : Int32) * (nI i)) : Int32) = nI (5 * i) from pk_mul 5 i) ?_
      refine lv_ishr X.1 X.2.1 dL_tricks_40 ?_
      refine r_eqi (show (((nI b) >>> ((nI (5 * i)) &&& 31)) : Int32) = nI (b / 32 ^ i) from shr5 b i (by omega) (by omega)) ?_
      refine lv_bipush (v := 31) X.1 X.2.1 dL_tricks_41 (by decide) ?_
      refine lv_iand X.1 X.2.1 dL_tricks_43 ?_
      refine r_eqi (show (((nI (b / 32 ^ i)) &&& 31) : Int32) = nI ((b / 32 ^ i) % 32) from n_and31 (b / 32 ^ i)) ?_
      refine r_eqi (show ((nI ((b / 32 ^ i) % 32)) : Int32) = nI (su b i) from rfl) ?_
      refine on_Si (run_S (As := [.int (nI (su b i))]) (rest := []) X (c_L_many l G hp (su b i) (Nat.le_trans (Nat.le_of_lt (su_lt _ _)) (by decide))) (rp_blind _) (rp_at X hH hS) mf_L_many tw_335 tw_336 ⟨rfl, rfl, Nat.le_of_ble_eq_true rfl, Nat.le_of_ble_eq_true rfl⟩ hl.1 rfl rfl (Nat.le_of_ble_eq_true rfl) ⟨Nat.le_of_ble_eq_true rfl, Nat.le_of_ble_eq_true rfl⟩ dL_tricks_44) (fun r_44 q_44 => ?_)
      obtain rfl : r_44 = (nI (sizeH (su b i))) := q_44
      refine r_eqi (show ((nI (sizeH (su b i))) : Int32) = nI (lenH b i) from by rw [sz_su]) ?_
      refine lv_istore (lv' := [(6, .int (nI (lenH b i))), (5, .int (nI (lenH a i))), (3, .int (nI ((trQ t9 a b i) + (wnN (su a i) (su b i))))), (0, .int (nI t9)), (1, .int (nI a)), (2, .int (nI b)), (4, .int (nI i))]) X.1 X.2.1 dL_tricks_47 hl (by decide) rfl (fun ls hl => ?_)
      refine lv_iload_n X.1 X.2.1 dL_tricks_49 rfl (lv_at hl 3 rfl) ?_
      refine lv_iconst (v := 4) X.1 X.2.1 dL_tricks_50 (by decide) ?_
      refine lv_icmp_ge (tgt := 124) X.1 X.2.1 dL_tricks_51 (by decide) (fun c_51 => ?_) (fun c_51 => ?_)
      · have k_51 := k_le (a := 4) (b := t9) (by omega) (by omega) c_51
        refine lv_iinc (v := (nI (i + 1))) (lv' := [(4, .int (nI (i + 1))), (6, .int (nI (lenH b i))), (5, .int (nI (lenH a i))), (3, .int (nI ((trQ t9 a b i) + (wnN (su a i) (su b i))))), (0, .int (nI t9)), (1, .int (nI a)), (2, .int (nI b))]) X.1 X.2.1 dL_tricks_124 hl (k := 6) rfl (nI_add i 1) (by decide) rfl (fun ls hl => ?_)
        refine lv_goto (tgt := 5) X.1 X.2.1 dL_tricks_127 (by decide) ?_
        exact ih (i + 1) (by omega) ls (by rw [show nI (trQ t9 a b (i + 1)) = nI ((trQ t9 a b i) + (wnN (su a i) (su b i))) from congrArg nI (by have := tq_0 (t := t9) (a := a) (b := b) (s := i) (Or.inl (by omega)); omega)]; exact (lv_sub hl [4, 5, 6, 3, 0] rfl))
      · have k_51 := k_nle (a := 4) (b := t9) (by omega) (by omega) c_51
        refine lv_iload X.1 X.2.1 dL_tricks_54 (lv_at hl 6 rfl) ?_
        refine lv_iload_n X.1 X.2.1 dL_tricks_56 rfl (lv_at hl 3 rfl) ?_
        refine lv_icmp_eq (tgt := 124) X.1 X.2.1 dL_tricks_57 (by decide) (fun c_57 => ?_) (fun c_57 => ?_)
        · have k_57 := k_eq (a := i) (b := t9) (by omega) (by omega) c_57
          refine lv_iinc (v := (nI (i + 1))) (lv' := [(4, .int (nI (i + 1))), (6, .int (nI (lenH b i))), (5, .int (nI (lenH a i))), (3, .int (nI ((trQ t9 a b i) + (wnN (su a i) (su b i))))), (0, .int (nI t9)), (1, .int (nI a)), (2, .int (nI b))]) X.1 X.2.1 dL_tricks_124 hl (k := 6) rfl (nI_add i 1) (by decide) rfl (fun ls hl => ?_)
          refine lv_goto (tgt := 5) X.1 X.2.1 dL_tricks_127 (by decide) ?_
          exact ih (i + 1) (by omega) ls (by rw [show nI (trQ t9 a b (i + 1)) = nI ((trQ t9 a b i) + (wnN (su a i) (su b i))) from congrArg nI (by have := tq_0 (t := t9) (a := a) (b := b) (s := i) (Or.inr k_57); omega)]; exact (lv_sub hl [4, 5, 6, 3, 0] rfl))
        · have k_57 := k_ne (a := i) (b := t9) (by omega) (by omega) c_57
          refine lv_iload_n X.1 X.2.1 dL_tricks_60 rfl (lv_at hl 2 rfl) ?_
          refine lv_iload X.1 X.2.1 dL_tricks_61 (lv_at hl 1 rfl) ?_
          refine lv_if_ne (tgt := 89) X.1 X.2.1 dL_tricks_63 (by decide) (fun c_63 => ?_) (fun c_63 => ?_)
          · have k_63 := k_ne (a := (lenH a i)) (b := 0) (by omega) (by omega) c_63
            have r1 : rfN a b i t9 = 0 := rf_1 k_63
            refine lv_iconst (v := 0) X.1 X.2.1 dL_tricks_89 (by decide) ?_
            refine lv_iadd X.1 X.2.1 dL_tricks_90 ?_
            refine r_eqi (show (((nI ((trQ t9 a b i) + (wnN (su a i) (su b i)))) + 0) : Int32) = nI ((trQ t9 a b i) + (wnN (su a i) (su b i))) from nI_add ((trQ t9 a b i) + (wnN (su a i) (su b i))) 0) ?_
            refine lv_istore_n (lv' := [(3, .int (nI ((trQ t9 a b i) + (wnN (su a i) (su b i))))), (6, .int (nI (lenH b i))), (5, .int (nI (lenH a i))), (0, .int (nI t9)), (1, .int (nI a)), (2, .int (nI b)), (4, .int (nI i))]) X.1 X.2.1 dL_tricks_91 rfl hl (by decide) rfl (fun ls hl => ?_)
            refine lv_iload_n X.1 X.2.1 dL_tricks_92 rfl (lv_at hl 0 rfl) ?_
            refine lv_iload X.1 X.2.1 dL_tricks_93 (lv_at hl 1 rfl) ?_
            refine lv_if_ne (tgt := 121) X.1 X.2.1 dL_tricks_95 (by decide) (fun c_95 => ?_) (fun c_95 => ?_)
            · have k_95 := k_ne (a := (lenH b i)) (b := 0) (by omega) (by omega) c_95
              have r2 : rfN b a i t9 = 0 := rf_1 k_95
              refine lv_iconst (v := 0) X.1 X.2.1 dL_tricks_121 (by decide) ?_
              refine lv_iadd X.1 X.2.1 dL_tricks_122 ?_
              refine r_eqi (show (((nI ((trQ t9 a b i) + (wnN (su a i) (su b i)))) + 0) : Int32) = nI ((trQ t9 a b i) + (wnN (su a i) (su b i))) from nI_add ((trQ t9 a b i) + (wnN (su a i) (su b i))) 0) ?_
              refine lv_istore_n (lv' := [(3, .int (nI ((trQ t9 a b i) + (wnN (su a i) (su b i))))), (6, .int (nI (lenH b i))), (5, .int (nI (lenH a i))), (0, .int (nI t9)), (1, .int (nI a)), (2, .int (nI b)), (4, .int (nI i))]) X.1 X.2.1 dL_tricks_123 rfl hl (by decide) rfl (fun ls hl => ?_)
              refine lv_iinc (v := (nI (i + 1))) (lv' := [(4, .int (nI (i + 1))), (3, .int (nI ((trQ t9 a b i) + (wnN (su a i) (su b i))))), (6, .int (nI (lenH b i))), (5, .int (nI (lenH a i))), (0, .int (nI t9)), (1, .int (nI a)), (2, .int (nI b))]) X.1 X.2.1 dL_tricks_124 hl (k := 6) rfl (nI_add i 1) (by decide) rfl (fun ls hl => ?_)
              refine lv_goto (tgt := 5) X.1 X.2.1 dL_tricks_127 (by decide) ?_
              exact ih (i + 1) (by omega) ls (by rw [show nI (trQ t9 a b (i + 1)) = nI ((trQ t9 a b i) + (wnN (su a i) (su b i))) from congrArg nI (by have := tq_1 (t := t9) (a := a) (b := b) (s := i) (by omega) k_57 r1 r2; omega)]; exact (lv_sub hl [4, 5, 6, 1, 0] rfl))
            · have k_95 := k_eq (a := (lenH b i)) (b := 0) (by omega) (by omega) c_95
              refine lv_iload X.1 X.2.1 dL_tricks_98 (lv_at hl 2 rfl) ?_
              refine lv_if_le (tgt := 121) X.1 X.2.1 dL_tricks_100 (by decide) (fun c_100 => ?_) (fun c_100 => ?_)
              · have k_100 := k_le (a := (lenH a i)) (b := 0) (by omega) (by omega) c_100
                have r2 : rfN b a i t9 = 0 := rf_2 k_100
                refine lv_iconst (v := 0) X.1 X.2.1 dL_tricks_121 (by decide) ?_
                refine lv_iadd X.1 X.2.1 dL_tricks_122 ?_
                refine r_eqi (show (((nI ((trQ t9 a b i) + (wnN (su a i) (su b i)))) + 0) : Int32) = nI ((trQ t9 a b i) + (wnN (su a i) (su b i))) from nI_add ((trQ t9 a b i) + (wnN (su a i) (su b i))) 0) ?_
                refine lv_istore_n (lv' := [(3, .int (nI ((trQ t9 a b i) + (wnN (su a i) (su b i))))), (6, .int (nI (lenH b i))), (5, .int (nI (lenH a i))), (0, .int (nI t9)), (1, .int (nI a)), (2, .int (nI b)), (4, .int (nI i))]) X.1 X.2.1 dL_tricks_123 rfl hl (by decide) rfl (fun ls hl => ?_)
                refine lv_iinc (v := (nI (i + 1))) (lv' := [(4, .int (nI (i + 1))), (3, .int (nI ((trQ t9 a b i) + (wnN (su a i) (su b i))))), (6, .int (nI (lenH b i))), (5, .int (nI (lenH a i))), (0, .int (nI t9)), (1, .int (nI a)), (2, .int (nI b))]) X.1 X.2.1 dL_tricks_124 hl (k := 6) rfl (nI_add i 1) (by decide) rfl (fun ls hl => ?_)
                refine lv_goto (tgt := 5) X.1 X.2.1 dL_tricks_127 (by decide) ?_
                exact ih (i + 1) (by omega) ls (by rw [show nI (trQ t9 a b (i + 1)) = nI ((trQ t9 a b i) + (wnN (su a i) (su b i))) from congrArg nI (by have := tq_1 (t := t9) (a := a) (b := b) (s := i) (by omega) k_57 r1 r2; omega)]; exact (lv_sub hl [4, 5, 6, 1, 0] rfl))
              · have k_100 := k_nle (a := (lenH a i)) (b := 0) (by omega) (by omega) c_100
                refine lv_iload_n X.1 X.2.1 dL_tricks_103 rfl (lv_at hl 5 rfl) ?_
                refine lv_iconst (v := 5) X.1 X.2.1 dL_tricks_104 (by decide) ?_
                refine lv_iload_n X.1 X.2.1 dL_tricks_105 rfl (lv_at hl 3 rfl) ?_
                refine lv_imul X.1 X.2.1 dL_tricks_106 ?_
                refine r_eqi (show (((5 : Int32) * (nI t9)) : Int32) = nI (5 * t9) from pk_mul 5 t9) ?_
                refine lv_ishr X.1 X.2.1 dL_tricks_107 ?_
                refine r_eqi (show (((nI b) >>> ((nI (5 * t9)) &&& 31)) : Int32) = nI (b / 32 ^ t9) from shr5 b t9 (by omega) (by omega)) ?_
                refine lv_bipush (v := 31) X.1 X.2.1 dL_tricks_108 (by decide) ?_
                refine lv_iand X.1 X.2.1 dL_tricks_110 ?_
                refine r_eqi (show (((nI (b / 32 ^ t9)) &&& 31) : Int32) = nI ((b / 32 ^ t9) % 32) from n_and31 (b / 32 ^ t9)) ?_
                refine r_eqi (show ((nI ((b / 32 ^ t9) % 32)) : Int32) = nI (su b t9) from rfl) ?_
                refine on_Si (run_S (As := [.int (nI (su b t9))]) (rest := [.int (nI ((trQ t9 a b i) + (wnN (su a i) (su b i))))]) X (c_L_many l G hp (su b t9) (Nat.le_trans (Nat.le_of_lt (su_lt _ _)) (by decide))) (rp_blind _) (rp_at X hH hS) mf_L_many tw_335 tw_336 ⟨rfl, rfl, Nat.le_of_ble_eq_true rfl, Nat.le_of_ble_eq_true rfl⟩ hl.1 rfl rfl (Nat.le_of_ble_eq_true rfl) ⟨Nat.le_of_ble_eq_true rfl, Nat.le_of_ble_eq_true rfl⟩ dL_tricks_111) (fun r_111 q_111 => ?_)
                obtain rfl : r_111 = (nI (sizeH (su b t9))) := q_111
                refine r_eqi (show ((nI (sizeH (su b t9))) : Int32) = nI (lenH b t9) from by rw [sz_su]) ?_
                refine lv_if_le (tgt := 121) X.1 X.2.1 dL_tricks_114 (by decide) (fun c_114 => ?_) (fun c_114 => ?_)
                · have k_114 := k_le (a := (lenH b t9)) (b := 0) (by omega) (by omega) c_114
                  have r2 : rfN b a i t9 = 0 := rf_3 k_114
                  refine lv_iconst (v := 0) X.1 X.2.1 dL_tricks_121 (by decide) ?_
                  refine lv_iadd X.1 X.2.1 dL_tricks_122 ?_
                  refine r_eqi (show (((nI ((trQ t9 a b i) + (wnN (su a i) (su b i)))) + 0) : Int32) = nI ((trQ t9 a b i) + (wnN (su a i) (su b i))) from nI_add ((trQ t9 a b i) + (wnN (su a i) (su b i))) 0) ?_
                  refine lv_istore_n (lv' := [(3, .int (nI ((trQ t9 a b i) + (wnN (su a i) (su b i))))), (6, .int (nI (lenH b i))), (5, .int (nI (lenH a i))), (0, .int (nI t9)), (1, .int (nI a)), (2, .int (nI b)), (4, .int (nI i))]) X.1 X.2.1 dL_tricks_123 rfl hl (by decide) rfl (fun ls hl => ?_)
                  refine lv_iinc (v := (nI (i + 1))) (lv' := [(4, .int (nI (i + 1))), (3, .int (nI ((trQ t9 a b i) + (wnN (su a i) (su b i))))), (6, .int (nI (lenH b i))), (5, .int (nI (lenH a i))), (0, .int (nI t9)), (1, .int (nI a)), (2, .int (nI b))]) X.1 X.2.1 dL_tricks_124 hl (k := 6) rfl (nI_add i 1) (by decide) rfl (fun ls hl => ?_)
                  refine lv_goto (tgt := 5) X.1 X.2.1 dL_tricks_127 (by decide) ?_
                  exact ih (i + 1) (by omega) ls (by rw [show nI (trQ t9 a b (i + 1)) = nI ((trQ t9 a b i) + (wnN (su a i) (su b i))) from congrArg nI (by have := tq_1 (t := t9) (a := a) (b := b) (s := i) (by omega) k_57 r1 r2; omega)]; exact (lv_sub hl [4, 5, 6, 1, 0] rfl))
                · have k_114 := k_nle (a := (lenH b t9)) (b := 0) (by omega) (by omega) c_114
                  have r2 : rfN b a i t9 = 1 := rf_4 k_95 k_100 k_114
                  refine lv_iconst (v := 1) X.1 X.2.1 dL_tricks_117 (by decide) ?_
                  refine lv_goto (tgt := 122) X.1 X.2.1 dL_tricks_118 (by decide) ?_
                  refine lv_iadd X.1 X.2.1 dL_tricks_122 ?_
                  refine r_eqi (show (((nI ((trQ t9 a b i) + (wnN (su a i) (su b i)))) + 1) : Int32) = nI (((trQ t9 a b i) + (wnN (su a i) (su b i))) + 1) from nI_add ((trQ t9 a b i) + (wnN (su a i) (su b i))) 1) ?_
                  refine lv_istore_n (lv' := [(3, .int (nI (((trQ t9 a b i) + (wnN (su a i) (su b i))) + 1))), (6, .int (nI (lenH b i))), (5, .int (nI (lenH a i))), (0, .int (nI t9)), (1, .int (nI a)), (2, .int (nI b)), (4, .int (nI i))]) X.1 X.2.1 dL_tricks_123 rfl hl (by decide) rfl (fun ls hl => ?_)
                  refine lv_iinc (v := (nI (i + 1))) (lv' := [(4, .int (nI (i + 1))), (3, .int (nI (((trQ t9 a b i) + (wnN (su a i) (su b i))) + 1))), (6, .int (nI (lenH b i))), (5, .int (nI (lenH a i))), (0, .int (nI t9)), (1, .int (nI a)), (2, .int (nI b))]) X.1 X.2.1 dL_tricks_124 hl (k := 6) rfl (nI_add i 1) (by decide) rfl (fun ls hl => ?_)
                  refine lv_goto (tgt := 5) X.1 X.2.1 dL_tricks_127 (by decide) ?_
                  exact ih (i + 1) (by omega) ls (by rw [show nI (trQ t9 a b (i + 1)) = nI (((trQ t9 a b i) + (wnN (su a i) (su b i))) + 1) from congrArg nI (by have := tq_1 (t := t9) (a := a) (b := b) (s := i) (by omega) k_57 r1 r2; omega)]; exact (lv_sub hl [4, 5, 6, 1, 0] rfl))
          · have k_63 := k_eq (a := (lenH a i)) (b := 0) (by omega) (by omega) c_63
            refine lv_iload X.1 X.2.1 dL_tricks_66 (lv_at hl 0 rfl) ?_
            refine lv_if_le (tgt := 89) X.1 X.2.1 dL_tricks_68 (by decide) (fun c_68 => ?_) (fun c_68 => ?_)
            · have k_68 := k_le (a := (lenH b i)) (b := 0) (by omega) (by omega) c_68
              have r1 : rfN a b i t9 = 0 := rf_2 k_68
              refine lv_iconst (v := 0) X.1 X.2.1 dL_tricks_89 (by decide) ?_
              refine lv_iadd X.1 X.2.1 dL_tricks_90 ?_
              refine r_eqi (show (((nI ((trQ t9 a b i) + (wnN (su a i) (su b i)))) + 0) : Int32) = nI ((trQ t9 a b i) + (wnN (su a i) (su b i))) from nI_add ((trQ t9 a b i) + (wnN (su a i) (su b i))) 0) ?_
              refine lv_istore_n (lv' := [(3, .int (nI ((trQ t9 a b i) + (wnN (su a i) (su b i))))), (6, .int (nI (lenH b i))), (5, .int (nI (lenH a i))), (0, .int (nI t9)), (1, .int (nI a)), (2, .int (nI b)), (4, .int (nI i))]) X.1 X.2.1 dL_tricks_91 rfl hl (by decide) rfl (fun ls hl => ?_)
              refine lv_iload_n X.1 X.2.1 dL_tricks_92 rfl (lv_at hl 0 rfl) ?_
              refine lv_iload X.1 X.2.1 dL_tricks_93 (lv_at hl 1 rfl) ?_
              refine lv_if_ne (tgt := 121) X.1 X.2.1 dL_tricks_95 (by decide) (fun c_95 => ?_) (fun c_95 => ?_)
              · have k_95 := k_ne (a := (lenH b i)) (b := 0) (by omega) (by omega) c_95
                have r2 : rfN b a i t9 = 0 := rf_1 k_95
                refine lv_iconst (v := 0) X.1 X.2.1 dL_tricks_121 (by decide) ?_
                refine lv_iadd X.1 X.2.1 dL_tricks_122 ?_
                refine r_eqi (show (((nI ((trQ t9 a b i) + (wnN (su a i) (su b i)))) + 0) : Int32) = nI ((trQ t9 a b i) + (wnN (su a i) (su b i))) from nI_add ((trQ t9 a b i) + (wnN (su a i) (su b i))) 0) ?_
                refine lv_istore_n (lv' := [(3, .int (nI ((trQ t9 a b i) + (wnN (su a i) (su b i))))), (6, .int (nI (lenH b i))), (5, .int (nI (lenH a i))), (0, .int (nI t9)), (1, .int (nI a)), (2, .int (nI b)), (4, .int (nI i))]) X.1 X.2.1 dL_tricks_123 rfl hl (by decide) rfl (fun ls hl => ?_)
                refine lv_iinc (v := (nI (i + 1))) (lv' := [(4, .int (nI (i + 1))), (3, .int (nI ((trQ t9 a b i) + (wnN (su a i) (su b i))))), (6, .int (nI (lenH b i))), (5, .int (nI (lenH a i))), (0, .int (nI t9)), (1, .int (nI a)), (2, .int (nI b))]) X.1 X.2.1 dL_tricks_124 hl (k := 6) rfl (nI_add i 1) (by decide) rfl (fun ls hl => ?_)
                refine lv_goto (tgt := 5) X.1 X.2.1 dL_tricks_127 (by decide) ?_
                exact ih (i + 1) (by omega) ls (by rw [show nI (trQ t9 a b (i + 1)) = nI ((trQ t9 a b i) + (wnN (su a i) (su b i))) from congrArg nI (by have := tq_1 (t := t9) (a := a) (b := b) (s := i) (by omega) k_57 r1 r2; omega)]; exact (lv_sub hl [4, 5, 6, 1, 0] rfl))
              · have k_95 := k_eq (a := (lenH b i)) (b := 0) (by omega) (by omega) c_95
                refine lv_iload X.1 X.2.1 dL_tricks_98 (lv_at hl 2 rfl) ?_
                refine lv_if_le (tgt := 121) X.1 X.2.1 dL_tricks_100 (by decide) (fun c_100 => ?_) (fun c_100 => ?_)
                · have k_100 := k_le (a := (lenH a i)) (b := 0) (by omega) (by omega) c_100
                  have r2 : rfN b a i t9 = 0 := rf_2 k_100
                  refine lv_iconst (v := 0) X.1 X.2.1 dL_tricks_121 (by decide) ?_
                  refine lv_iadd X.1 X.2.1 dL_tricks_122 ?_
                  refine r_eqi (show (((nI ((trQ t9 a b i) + (wnN (su a i) (su b i)))) + 0) : Int32) = nI ((trQ t9 a b i) + (wnN (su a i) (su b i))) from nI_add ((trQ t9 a b i) + (wnN (su a i) (su b i))) 0) ?_
                  refine lv_istore_n (lv' := [(3, .int (nI ((trQ t9 a b i) + (wnN (su a i) (su b i))))), (6, .int (nI (lenH b i))), (5, .int (nI (lenH a i))), (0, .int (nI t9)), (1, .int (nI a)), (2, .int (nI b)), (4, .int (nI i))]) X.1 X.2.1 dL_tricks_123 rfl hl (by decide) rfl (fun ls hl => ?_)
                  refine lv_iinc (v := (nI (i + 1))) (lv' := [(4, .int (nI (i + 1))), (3, .int (nI ((trQ t9 a b i) + (wnN (su a i) (su b i))))), (6, .int (nI (lenH b i))), (5, .int (nI (lenH a i))), (0, .int (nI t9)), (1, .int (nI a)), (2, .int (nI b))]) X.1 X.2.1 dL_tricks_124 hl (k := 6) rfl (nI_add i 1) (by decide) rfl (fun ls hl => ?_)
                  refine lv_goto (tgt := 5) X.1 X.2.1 dL_tricks_127 (by decide) ?_
                  exact ih (i + 1) (by omega) ls (by rw [show nI (trQ t9 a b (i + 1)) = nI ((trQ t9 a b i) + (wnN (su a i) (su b i))) from congrArg nI (by have := tq_1 (t := t9) (a := a) (b := b) (s := i) (by omega) k_57 r1 r2; omega)]; exact (lv_sub hl [4, 5, 6, 1, 0] rfl))
                · have k_100 := k_nle (a := (lenH a i)) (b := 0) (by omega) (by omega) c_100
                  refine lv_iload_n X.1 X.2.1 dL_tricks_103 rfl (lv_at hl 5 rfl) ?_
                  refine lv_iconst (v := 5) X.1 X.2.1 dL_tricks_104 (by decide) ?_
                  refine lv_iload_n X.1 X.2.1 dL_tricks_105 rfl (lv_at hl 3 rfl) ?_
                  refine lv_imul X.1 X.2.1 dL_tricks_106 ?_
                  refine r_eqi (show (((5 : Int32) * (nI t9)) : Int32) = nI (5 * t9) from pk_mul 5 t9) ?_
                  refine lv_ishr X.1 X.2.1 dL_tricks_107 ?_
                  refine r_eqi (show (((nI b) >>> ((nI (5 * t9)) &&& 31)) : Int32) = nI (b / 32 ^ t9) from shr5 b t9 (by omega) (by omega)) ?_
                  refine lv_bipush (v := 31) X.1 X.2.1 dL_tricks_108 (by decide) ?_
                  refine lv_iand X.1 X.2.1 dL_tricks_110 ?_
                  refine r_eqi (show (((nI (b / 32 ^ t9)) &&& 31) : Int32) = nI ((b / 32 ^ t9) % 32) from n_and31 (b / 32 ^ t9)) ?_
                  refine r_eqi (show ((nI ((b / 32 ^ t9) % 32)) : Int32) = nI (su b t9) from rfl) ?_
                  refine on_Si (run_S (As := [.int (nI (su b t9))]) (rest := [.int (nI ((trQ t9 a b i) + (wnN (su a i) (su b i))))]) X (c_L_many l G hp (su b t9) (Nat.le_trans (Nat.le_of_lt (su_lt _ _)) (by decide))) (rp_blind _) (rp_at X hH hS) mf_L_many tw_335 tw_336 ⟨rfl, rfl, Nat.le_of_ble_eq_true rfl, Nat.le_of_ble_eq_true rfl⟩ hl.1 rfl rfl (Nat.le_of_ble_eq_true rfl) ⟨Nat.le_of_ble_eq_true rfl, Nat.le_of_ble_eq_true rfl⟩ dL_tricks_111) (fun r_111 q_111 => ?_)
                  obtain rfl : r_111 = (nI (sizeH (su b t9))) := q_111
                  refine r_eqi (show ((nI (sizeH (su b t9))) : Int32) = nI (lenH b t9) from by rw [sz_su]) ?_
                  refine lv_if_le (tgt := 121) X.1 X.2.1 dL_tricks_114 (by decide) (fun c_114 => ?_) (fun c_114 => ?_)
                  · have k_114 := k_le (a := (lenH b t9)) (b := 0) (by omega) (by omega) c_114
                    have r2 : rfN b a i t9 = 0 := rf_3 k_114
                    refine lv_iconst (v := 0) X.1 X.2.1 dL_tricks_121 (by decide) ?_
                    refine lv_iadd X.1 X.2.1 dL_tricks_122 ?_
                    refine r_eqi (show (((nI ((trQ t9 a b i) + (wnN (su a i) (su b i)))) + 0) : Int32) = nI ((trQ t9 a b i) + (wnN (su a i) (su b i))) from nI_add ((trQ t9 a b i) + (wnN (su a i) (su b i))) 0) ?_
                    refine lv_istore_n (lv' := [(3, .int (nI ((trQ t9 a b i) + (wnN (su a i) (su b i))))), (6, .int (nI (lenH b i))), (5, .int (nI (lenH a i))), (0, .int (nI t9)), (1, .int (nI a)), (2, .int (nI b)), (4, .int (nI i))]) X.1 X.2.1 dL_tricks_123 rfl hl (by decide) rfl (fun ls hl => ?_)
                    refine lv_iinc (v := (nI (i + 1))) (lv' := [(4, .int (nI (i + 1))), (3, .int (nI ((trQ t9 a b i) + (wnN (su a i) (su b i))))), (6, .int (nI (lenH b i))), (5, .int (nI (lenH a i))), (0, .int (nI t9)), (1, .int (nI a)), (2, .int (nI b))]) X.1 X.2.1 dL_tricks_124 hl (k := 6) rfl (nI_add i 1) (by decide) rfl (fun ls hl => ?_)
                    refine lv_goto (tgt := 5) X.1 X.2.1 dL_tricks_127 (by decide) ?_
                    exact ih (i + 1) (by omega) ls (by rw [show nI (trQ t9 a b (i + 1)) = nI ((trQ t9 a b i) + (wnN (su a i) (su b i))) from congrArg nI (by have := tq_1 (t := t9) (a := a) (b := b) (s := i) (by omega) k_57 r1 r2; omega)]; exact (lv_sub hl [4, 5, 6, 1, 0] rfl))
                  · have k_114 := k_nle (a := (lenH b t9)) (b := 0) (by omega) (by omega) c_114
                    have r2 : rfN b a i t9 = 1 := rf_4 k_95 k_100 k_114
                    refine lv_iconst (v := 1) X.1 X.2.1 dL_tricks_117 (by decide) ?_
                    refine lv_goto (tgt := 122) X.1 X.2.1 dL_tricks_118 (by decide) ?_
                    refine lv_iadd X.1 X.2.1 dL_tricks_122 ?_
                    refine r_eqi (show (((nI ((trQ t9 a b i) + (wnN (su a i) (su b i)))) + 1) : Int32) = nI (((trQ t9 a b i) + (wnN (su a i) (su b i))) + 1) from nI_add ((trQ t9 a b i) + (wnN (su a i) (su b i))) 1) ?_
                    refine lv_istore_n (lv' := [(3, .int (nI (((trQ t9 a b i) + (wnN (su a i) (su b i))) + 1))), (6, .int (nI (lenH b i))), (5, .int (nI (lenH a i))), (0, .int (nI t9)), (1, .int (nI a)), (2, .int (nI b)), (4, .int (nI i))]) X.1 X.2.1 dL_tricks_123 rfl hl (by decide) rfl (fun ls hl => ?_)
                    refine lv_iinc (v := (nI (i + 1))) (lv' := [(4, .int (nI (i + 1))), (3, .int (nI (((trQ t9 a b i) + (wnN (su a i) (su b i))) + 1))), (6, .int (nI (lenH b i))), (5, .int (nI (lenH a i))), (0, .int (nI t9)), (1, .int (nI a)), (2, .int (nI b))]) X.1 X.2.1 dL_tricks_124 hl (k := 6) rfl (nI_add i 1) (by decide) rfl (fun ls hl => ?_)
                    refine lv_goto (tgt := 5) X.1 X.2.1 dL_tricks_127 (by decide) ?_
                    exact ih (i + 1) (by omega) ls (by rw [show nI (trQ t9 a b (i + 1)) = nI (((trQ t9 a b i) + (wnN (su a i) (su b i))) + 1) from congrArg nI (by have := tq_1 (t := t9) (a := a) (b := b) (s := i) (by omega) k_57 r1 r2; omega)]; exact (lv_sub hl [4, 5, 6, 1, 0] rfl))
            · have k_68 := k_nle (a := (lenH b i)) (b := 0) (by omega) (by omega) c_68
              refine lv_iload_n X.1 X.2.1 dL_tricks_71 rfl (lv_at hl 4 rfl) ?_
              refine lv_iconst (v := 5) X.1 X.2.1 dL_tricks_72 (by decide) ?_
              refine lv_iload_n X.1 X.2.1 dL_tricks_73 rfl (lv_at hl 3 rfl) ?_
              refine lv_imul X.1 X.2.1 dL_tricks_74 ?_
              refine r_eqi (show (((5 : Int32) * (nI t9)) : Int32) = nI (5 * t9) from pk_mul 5 t9) ?_
              refine lv_ishr X.1 X.2.1 dL_tricks_75 ?_
              refine r_eqi (show (((nI a) >>> ((nI (5 * t9)) &&& 31)) : Int32) = nI (a / 32 ^ t9) from shr5 a t9 (by omega) (by omega)) ?_
              refine lv_bipush (v := 31) X.1 X.2.1 dL_tricks_76 (by decide) ?_
              refine lv_iand X.1 X.2.1 dL_tricks_78 ?_
              refine r_eqi (show (((nI (a / 32 ^ t9)) &&& 31) : Int32) = nI ((a / 32 ^ t9) % 32) from n_and31 (a / 32 ^ t9)) ?_
              refine r_eqi (show ((nI ((a / 32 ^ t9) % 32)) : Int32) = nI (su a t9) from rfl) ?_
              refine on_Si (run_S (As := [.int (nI (su a t9))]) (rest := [.int (nI ((trQ t9 a b i) + (wnN (su a i) (su b i))))]) X (c_L_many l G hp (su a t9) (Nat.le_trans (Nat.le_of_lt (su_lt _ _)) (by decide))) (rp_blind _) (rp_at X hH hS) mf_L_many tw_335 tw_336 ⟨rfl, rfl, Nat.le_of_ble_eq_true rfl, Nat.le_of_ble_eq_true rfl⟩ hl.1 rfl rfl (Nat.le_of_ble_eq_true rfl) ⟨Nat.le_of_ble_eq_true rfl, Nat.le_of_ble_eq_true rfl⟩ dL_tricks_79) (fun r_79 q_79 => ?_)
              obtain rfl : r_79 = (nI (sizeH (su a t9))) := q_79
              refine r_eqi (show ((nI (sizeH (su a t9))) : Int32) = nI (lenH a t9) from by rw [sz_su]) ?_
              refine lv_if_le (tgt := 89) X.1 X.2.1 dL_tricks_82 (by decide) (fun c_82 => ?_) (fun c_82 => ?_)
              · have k_82 := k_le (a := (lenH a t9)) (b := 0) (by omega) (by omega) c_82
                have r1 : rfN a b i t9 = 0 := rf_3 k_82
                refine lv_iconst (v := 0) X.1 X.2.1 dL_tricks_89 (by decide) ?_
                refine lv_iadd X.1 X.2.1 dL_tricks_90 ?_
                refine r_eqi (show (((nI ((trQ t9 a b i) + (wnN (su a i) (su b i)))) + 0) : Int32) = nI ((trQ t9 a b i) + (wnN (su a i) (su b i))) from nI_add ((trQ t9 a b i) + (wnN (su a i) (su b i))) 0) ?_
                refine lv_istore_n (lv' := [(3, .int (nI ((trQ t9 a b i) + (wnN (su a i) (su b i))))), (6, .int (nI (lenH b i))), (5, .int (nI (lenH a i))), (0, .int (nI t9)), (1, .int (nI a)), (2, .int (nI b)), (4, .int (nI i))]) X.1 X.2.1 dL_tricks_91 rfl hl (by decide) rfl (fun ls hl => ?_)
                refine lv_iload_n X.1 X.2.1 dL_tricks_92 rfl (lv_at hl 0 rfl) ?_
                refine lv_iload X.1 X.2.1 dL_tricks_93 (lv_at hl 1 rfl) ?_
                refine lv_if_ne (tgt := 121) X.1 X.2.1 dL_tricks_95 (by decide) (fun c_95 => ?_) (fun c_95 => ?_)
                · have k_95 := k_ne (a := (lenH b i)) (b := 0) (by omega) (by omega) c_95
                  have r2 : rfN b a i t9 = 0 := rf_1 k_95
                  refine lv_iconst (v := 0) X.1 X.2.1 dL_tricks_121 (by decide) ?_
                  refine lv_iadd X.1 X.2.1 dL_tricks_122 ?_
                  refine r_eqi (show (((nI ((trQ t9 a b i) + (wnN (su a i) (su b i)))) + 0) : Int32) = nI ((trQ t9 a b i) + (wnN (su a i) (su b i))) from nI_add ((trQ t9 a b i) + (wnN (su a i) (su b i))) 0) ?_
                  refine lv_istore_n (lv' := [(3, .int (nI ((trQ t9 a b i) + (wnN (su a i) (su b i))))), (6, .int (nI (lenH b i))), (5, .int (nI (lenH a i))), (0, .int (nI t9)), (1, .int (nI a)), (2, .int (nI b)), (4, .int (nI i))]) X.1 X.2.1 dL_tricks_123 rfl hl (by decide) rfl (fun ls hl => ?_)
                  refine lv_iinc (v := (nI (i + 1))) (lv' := [(4, .int (nI (i + 1))), (3, .int (nI ((trQ t9 a b i) + (wnN (su a i) (su b i))))), (6, .int (nI (lenH b i))), (5, .int (nI (lenH a i))), (0, .int (nI t9)), (1, .int (nI a)), (2, .int (nI b))]) X.1 X.2.1 dL_tricks_124 hl (k := 6) rfl (nI_add i 1) (by decide) rfl (fun ls hl => ?_)
                  refine lv_goto (tgt := 5) X.1 X.2.1 dL_tricks_127 (by decide) ?_
                  exact ih (i + 1) (by omega) ls (by rw [show nI (trQ t9 a b (i + 1)) = nI ((trQ t9 a b i) + (wnN (su a i) (su b i))) from congrArg nI (by have := tq_1 (t := t9) (a := a) (b := b) (s := i) (by omega) k_57 r1 r2; omega)]; exact (lv_sub hl [4, 5, 6, 1, 0] rfl))
                · have k_95 := k_eq (a := (lenH b i)) (b := 0) (by omega) (by omega) c_95
                  refine lv_iload X.1 X.2.1 dL_tricks_98 (lv_at hl 2 rfl) ?_
                  refine lv_if_le (tgt := 121) X.1 X.2.1 dL_tricks_100 (by decide) (fun c_100 => ?_) (fun c_100 => ?_)
                  · have k_100 := k_le (a := (lenH a i)) (b := 0) (by omega) (by omega) c_100
                    have r2 : rfN b a i t9 = 0 := rf_2 k_100
                    refine lv_iconst (v := 0) X.1 X.2.1 dL_tricks_121 (by decide) ?_
                    refine lv_iadd X.1 X.2.1 dL_tricks_122 ?_
                    refine r_eqi (show (((nI ((trQ t9 a b i) + (wnN (su a i) (su b i)))) + 0) : Int32) = nI ((trQ t9 a b i) + (wnN (su a i) (su b i))) from nI_add ((trQ t9 a b i) + (wnN (su a i) (su b i))) 0) ?_
                    refine lv_istore_n (lv' := [(3, .int (nI ((trQ t9 a b i) + (wnN (su a i) (su b i))))), (6, .int (nI (lenH b i))), (5, .int (nI (lenH a i))), (0, .int (nI t9)), (1, .int (nI a)), (2, .int (nI b)), (4, .int (nI i))]) X.1 X.2.1 dL_tricks_123 rfl hl (by decide) rfl (fun ls hl => ?_)
                    refine lv_iinc (v := (nI (i + 1))) (lv' := [(4, .int (nI (i + 1))), (3, .int (nI ((trQ t9 a b i) + (wnN (su a i) (su b i))))), (6, .int (nI (lenH b i))), (5, .int (nI (lenH a i))), (0, .int (nI t9)), (1, .int (nI a)), (2, .int (nI b))]) X.1 X.2.1 dL_tricks_124 hl (k := 6) rfl (nI_add i 1) (by decide) rfl (fun ls hl => ?_)
                    refine lv_goto (tgt := 5) X.1 X.2.1 dL_tricks_127 (by decide) ?_
                    exact ih (i + 1) (by omega) ls (by rw [show nI (trQ t9 a b (i + 1)) = nI ((trQ t9 a b i) + (wnN (su a i) (su b i))) from congrArg nI (by have := tq_1 (t := t9) (a := a) (b := b) (s := i) (by omega) k_57 r1 r2; omega)]; exact (lv_sub hl [4, 5, 6, 1, 0] rfl))
                  · have k_100 := k_nle (a := (lenH a i)) (b := 0) (by omega) (by omega) c_100
                    refine lv_iload_n X.1 X.2.1 dL_tricks_103 rfl (lv_at hl 5 rfl) ?_
                    refine lv_iconst (v := 5) X.1 X.2.1 dL_tricks_104 (by decide) ?_
                    refine lv_iload_n X.1 X.2.1 dL_tricks_105 rfl (lv_at hl 3 rfl) ?_
                    refine lv_imul X.1 X.2.1 dL_tricks_106 ?_
                    refine r_eqi (show (((5 : Int32) * (nI t9)) : Int32) = nI (5 * t9) from pk_mul 5 t9) ?_
                    refine lv_ishr X.1 X.2.1 dL_tricks_107 ?_
                    refine r_eqi (show (((nI b) >>> ((nI (5 * t9)) &&& 31)) : Int32) = nI (b / 32 ^ t9) from shr5 b t9 (by omega) (by omega)) ?_
                    refine lv_bipush (v := 31) X.1 X.2.1 dL_tricks_108 (by decide) ?_
                    refine lv_iand X.1 X.2.1 dL_tricks_110 ?_
                    refine r_eqi (show (((nI (b / 32 ^ t9)) &&& 31) : Int32) = nI ((b / 32 ^ t9) % 32) from n_and31 (b / 32 ^ t9)) ?_
                    refine r_eqi (show ((nI ((b / 32 ^ t9) % 32)) : Int32) = nI (su b t9) from rfl) ?_
                    refine on_Si (run_S (As := [.int (nI (su b t9))]) (rest := [.int (nI ((trQ t9 a b i) + (wnN (su a i) (su b i))))]) X (c_L_many l G hp (su b t9) (Nat.le_trans (Nat.le_of_lt (su_lt _ _)) (by decide))) (rp_blind _) (rp_at X hH hS) mf_L_many tw_335 tw_336 ⟨rfl, rfl, Nat.le_of_ble_eq_true rfl, Nat.le_of_ble_eq_true rfl⟩ hl.1 rfl rfl (Nat.le_of_ble_eq_true rfl) ⟨Nat.le_of_ble_eq_true rfl, Nat.le_of_ble_eq_true rfl⟩ dL_tricks_111) (fun r_111 q_111 => ?_)
                    obtain rfl : r_111 = (nI (sizeH (su b t9))) := q_111
                    refine r_eqi (show ((nI (sizeH (su b t9))) : Int32) = nI (lenH b t9) from by rw [sz_su]) ?_
                    refine lv_if_le (tgt := 121) X.1 X.2.1 dL_tricks_114 (by decide) (fun c_114 => ?_) (fun c_114 => ?_)
                    · have k_114 := k_le (a := (lenH b t9)) (b := 0) (by omega) (by omega) c_114
                      have r2 : rfN b a i t9 = 0 := rf_3 k_114
                      refine lv_iconst (v := 0) X.1 X.2.1 dL_tricks_121 (by decide) ?_
                      refine lv_iadd X.1 X.2.1 dL_tricks_122 ?_
                      refine r_eqi (show (((nI ((trQ t9 a b i) + (wnN (su a i) (su b i)))) + 0) : Int32) = nI ((trQ t9 a b i) + (wnN (su a i) (su b i))) from nI_add ((trQ t9 a b i) + (wnN (su a i) (su b i))) 0) ?_
                      refine lv_istore_n (lv' := [(3, .int (nI ((trQ t9 a b i) + (wnN (su a i) (su b i))))), (6, .int (nI (lenH b i))), (5, .int (nI (lenH a i))), (0, .int (nI t9)), (1, .int (nI a)), (2, .int (nI b)), (4, .int (nI i))]) X.1 X.2.1 dL_tricks_123 rfl hl (by decide) rfl (fun ls hl => ?_)
                      refine lv_iinc (v := (nI (i + 1))) (lv' := [(4, .int (nI (i + 1))), (3, .int (nI ((trQ t9 a b i) + (wnN (su a i) (su b i))))), (6, .int (nI (lenH b i))), (5, .int (nI (lenH a i))), (0, .int (nI t9)), (1, .int (nI a)), (2, .int (nI b))]) X.1 X.2.1 dL_tricks_124 hl (k := 6) rfl (nI_add i 1) (by decide) rfl (fun ls hl => ?_)
                      refine lv_goto (tgt := 5) X.1 X.2.1 dL_tricks_127 (by decide) ?_
                      exact ih (i + 1) (by omega) ls (by rw [show nI (trQ t9 a b (i + 1)) = nI ((trQ t9 a b i) + (wnN (su a i) (su b i))) from congrArg nI (by have := tq_1 (t := t9) (a := a) (b := b) (s := i) (by omega) k_57 r1 r2; omega)]; exact (lv_sub hl [4, 5, 6, 1, 0] rfl))
                    · have k_114 := k_nle (a := (lenH b t9)) (b := 0) (by omega) (by omega) c_114
                      have r2 : rfN b a i t9 = 1 := rf_4 k_95 k_100 k_114
                      refine lv_iconst (v := 1) X.1 X.2.1 dL_tricks_117 (by decide) ?_
                      refine lv_goto (tgt := 122) X.1 X.2.1 dL_tricks_118 (by decide) ?_
                      refine lv_iadd X.1 X.2.1 dL_tricks_122 ?_
                      refine r_eqi (show (((nI ((trQ t9 a b i) + (wnN (su a i) (su b i)))) + 1) : Int32) = nI (((trQ t9 a b i) + (wnN (su a i) (su b i))) + 1) from nI_add ((trQ t9 a b i) + (wnN (su a i) (su b i))) 1) ?_
                      refine lv_istore_n (lv' := [(3, .int (nI (((trQ t9 a b i) + (wnN (su a i) (su b i))) + 1))), (6, .int (nI (lenH b i))), (5, .int (nI (lenH a i))), (0, .int (nI t9)), (1, .int (nI a)), (2, .int (nI b)), (4, .int (nI i))]) X.1 X.2.1 dL_tricks_123 rfl hl (by decide) rfl (fun ls hl => ?_)
                      refine lv_iinc (v := (nI (i + 1))) (lv' := [(4, .int (nI (i + 1))), (3, .int (nI (((trQ t9 a b i) + (wnN (su a i) (su b i))) + 1))), (6, .int (nI (lenH b i))), (5, .int (nI (lenH a i))), (0, .int (nI t9)), (1, .int (nI a)), (2, .int (nI b))]) X.1 X.2.1 dL_tricks_124 hl (k := 6) rfl (nI_add i 1) (by decide) rfl (fun ls hl => ?_)
                      refine lv_goto (tgt := 5) X.1 X.2.1 dL_tricks_127 (by decide) ?_
                      exact ih (i + 1) (by omega) ls (by rw [show nI (trQ t9 a b (i + 1)) = nI (((trQ t9 a b i) + (wnN (su a i) (su b i))) + 1) from congrArg nI (by have := tq_1 (t := t9) (a := a) (b := b) (s := i) (by omega) k_57 r1 r2; omega)]; exact (lv_sub hl [4, 5, 6, 1, 0] rfl))
              · have k_82 := k_nle (a := (lenH a t9)) (b := 0) (by omega) (by omega) c_82
                have r1 : rfN a b i t9 = 1 := rf_4 k_63 k_68 k_82
                refine lv_iconst (v := 1) X.1 X.2.1 dL_tricks_85 (by decide) ?_
                refine lv_goto (tgt := 90) X.1 X.2.1 dL_tricks_86 (by decide) ?_
                refine lv_iadd X.1 X.2.1 dL_tricks_90 ?_
                refine r_eqi (show (((nI ((trQ t9 a b i) + (wnN (su a i) (su b i)))) + 1) : Int32) = nI (((trQ t9 a b i) + (wnN (su a i) (su b i))) + 1) from nI_add ((trQ t9 a b i) + (wnN (su a i) (su b i))) 1) ?_
                refine lv_istore_n (lv' := [(3, .int (nI (((trQ t9 a b i) + (wnN (su a i) (su b i))) + 1))), (6, .int (nI (lenH b i))), (5, .int (nI (lenH a i))), (0, .int (nI t9)), (1, .int (nI a)), (2, .int (nI b)), (4, .int (nI i))]) X.1 X.2.1 dL_tricks_91 rfl hl (by decide) rfl (fun ls hl => ?_)
                refine lv_iload_n X.1 X.2.1 dL_tricks_92 rfl (lv_at hl 0 rfl) ?_
                refine lv_iload X.1 X.2.1 dL_tricks_93 (lv_at hl 1 rfl) ?_
                refine lv_if_ne (tgt := 121) X.1 X.2.1 dL_tricks_95 (by decide) (fun c_95 => ?_) (fun c_95 => ?_)
                · have k_95 := k_ne (a := (lenH b i)) (b := 0) (by omega) (by omega) c_95
                  have r2 : rfN b a i t9 = 0 := rf_1 k_95
                  refine lv_iconst (v := 0) X.1 X.2.1 dL_tricks_121 (by decide) ?_
                  refine lv_iadd X.1 X.2.1 dL_tricks_122 ?_
                  refine r_eqi (show (((nI (((trQ t9 a b i) + (wnN (su a i) (su b i))) + 1)) + 0) : Int32) = nI (((trQ t9 a b i) + (wnN (su a i) (su b i))) + 1) from nI_add (((trQ t9 a b i) + (wnN (su a i) (su b i))) + 1) 0) ?_
                  refine lv_istore_n (lv' := [(3, .int (nI (((trQ t9 a b i) + (wnN (su a i) (su b i))) + 1))), (6, .int (nI (lenH b i))), (5, .int (nI (lenH a i))), (0, .int (nI t9)), (1, .int (nI a)), (2, .int (nI b)), (4, .int (nI i))]) X.1 X.2.1 dL_tricks_123 rfl hl (by decide) rfl (fun ls hl => ?_)
                  refine lv_iinc (v := (nI (i + 1))) (lv' := [(4, .int (nI (i + 1))), (3, .int (nI (((trQ t9 a b i) + (wnN (su a i) (su b i))) + 1))), (6, .int (nI (lenH b i))), (5, .int (nI (lenH a i))), (0, .int (nI t9)), (1, .int (nI a)), (2, .int (nI b))]) X.1 X.2.1 dL_tricks_124 hl (k := 6) rfl (nI_add i 1) (by decide) rfl (fun ls hl => ?_)
                  refine lv_goto (tgt := 5) X.1 X.2.1 dL_tricks_127 (by decide) ?_
                  exact ih (i + 1) (by omega) ls (by rw [show nI (trQ t9 a b (i + 1)) = nI (((trQ t9 a b i) + (wnN (su a i) (su b i))) + 1) from congrArg nI (by have := tq_1 (t := t9) (a := a) (b := b) (s := i) (by omega) k_57 r1 r2; omega)]; exact (lv_sub hl [4, 5, 6, 1, 0] rfl))
                · have k_95 := k_eq (a := (lenH b i)) (b := 0) (by omega) (by omega) c_95
                  refine lv_iload X.1 X.2.1 dL_tricks_98 (lv_at hl 2 rfl) ?_
                  refine lv_if_le (tgt := 121) X.1 X.2.1 dL_tricks_100 (by decide) (fun c_100 => ?_) (fun c_100 => ?_)
                  · have k_100 := k_le (a := (lenH a i)) (b := 0) (by omega) (by omega) c_100
                    have r2 : rfN b a i t9 = 0 := rf_2 k_100
                    refine lv_iconst (v := 0) X.1 X.2.1 dL_tricks_121 (by decide) ?_
                    refine lv_iadd X.1 X.2.1 dL_tricks_122 ?_
                    refine r_eqi (show (((nI (((trQ t9 a b i) + (wnN (su a i) (su b i))) + 1)) + 0) : Int32) = nI (((trQ t9 a b i) + (wnN (su a i) (su b i))) + 1) from nI_add (((trQ t9 a b i) + (wnN (su a i) (su b i))) + 1) 0) ?_
                    refine lv_istore_n (lv' := [(3, .int (nI (((trQ t9 a b i) + (wnN (su a i) (su b i))) + 1))), (6, .int (nI (lenH b i))), (5, .int (nI (lenH a i))), (0, .int (nI t9)), (1, .int (nI a)), (2, .int (nI b)), (4, .int (nI i))]) X.1 X.2.1 dL_tricks_123 rfl hl (by decide) rfl (fun ls hl => ?_)
                    refine lv_iinc (v := (nI (i + 1))) (lv' := [(4, .int (nI (i + 1))), (3, .int (nI (((trQ t9 a b i) + (wnN (su a i) (su b i))) + 1))), (6, .int (nI (lenH b i))), (5, .int (nI (lenH a i))), (0, .int (nI t9)), (1, .int (nI a)), (2, .int (nI b))]) X.1 X.2.1 dL_tricks_124 hl (k := 6) rfl (nI_add i 1) (by decide) rfl (fun ls hl => ?_)
                    refine lv_goto (tgt := 5) X.1 X.2.1 dL_tricks_127 (by decide) ?_
                    exact ih (i + 1) (by omega) ls (by rw [show nI (trQ t9 a b (i + 1)) = nI (((trQ t9 a b i) + (wnN (su a i) (su b i))) + 1) from congrArg nI (by have := tq_1 (t := t9) (a := a) (b := b) (s := i) (by omega) k_57 r1 r2; omega)]; exact (lv_sub hl [4, 5, 6, 1, 0] rfl))
                  · have k_100 := k_nle (a := (lenH a i)) (b := 0) (by omega) (by omega) c_100
                    refine lv_iload_n X.1 X.2.1 dL_tricks_103 rfl (lv_at hl 5 rfl) ?_
                    refine lv_iconst (v := 5) X.1 X.2.1 dL_tricks_104 (by decide) ?_
                    refine lv_iload_n X.1 X.2.1 dL_tricks_105 rfl (lv_at hl 3 rfl) ?_
                    refine lv_imul X.1 X.2.1 dL_tricks_106 ?_
                    refine r_eqi (show (((5 : Int32) * (nI t9)) : Int32) = nI (5 * t9) from pk_mul 5 t9) ?_
                    refine lv_ishr X.1 X.2.1 dL_tricks_107 ?_
                    refine r_eqi (show (((nI b) >>> ((nI (5 * t9)) &&& 31)) : Int32) = nI (b / 32 ^ t9) from shr5 b t9 (by omega) (by omega)) ?_
                    refine lv_bipush (v := 31) X.1 X.2.1 dL_tricks_108 (by decide) ?_
                    refine lv_iand X.1 X.2.1 dL_tricks_110 ?_
                    refine r_eqi (show (((nI (b / 32 ^ t9)) &&& 31) : Int32) = nI ((b / 32 ^ t9) % 32) from n_and31 (b / 32 ^ t9)) ?_
                    refine r_eqi (show ((nI ((b / 32 ^ t9) % 32)) : Int32) = nI (su b t9) from rfl) ?_
                    refine on_Si (run_S (As := [.int (nI (su b t9))]) (rest := [.int (nI (((trQ t9 a b i) + (wnN (su a i) (su b i))) + 1))]) X (c_L_many l G hp (su b t9) (Nat.le_trans (Nat.le_of_lt (su_lt _ _)) (by decide))) (rp_blind _) (rp_at X hH hS) mf_L_many tw_335 tw_336 ⟨rfl, rfl, Nat.le_of_ble_eq_true rfl, Nat.le_of_ble_eq_true rfl⟩ hl.1 rfl rfl (Nat.le_of_ble_eq_true rfl) ⟨Nat.le_of_ble_eq_true rfl, Nat.le_of_ble_eq_true rfl⟩ dL_tricks_111) (fun r_111 q_111 => ?_)
                    obtain rfl : r_111 = (nI (sizeH (su b t9))) := q_111
                    refine r_eqi (show ((nI (sizeH (su b t9))) : Int32) = nI (lenH b t9) from by rw [sz_su]) ?_
                    refine lv_if_le (tgt := 121) X.1 X.2.1 dL_tricks_114 (by decide) (fun c_114 => ?_) (fun c_114 => ?_)
                    · have k_114 := k_le (a := (lenH b t9)) (b := 0) (by omega) (by omega) c_114
                      have r2 : rfN b a i t9 = 0 := rf_3 k_114
                      refine lv_iconst (v := 0) X.1 X.2.1 dL_tricks_121 (by decide) ?_
                      refine lv_iadd X.1 X.2.1 dL_tricks_122 ?_
                      refine r_eqi (show (((nI (((trQ t9 a b i) + (wnN (su a i) (su b i))) + 1)) + 0) : Int32) = nI (((trQ t9 a b i) + (wnN (su a i) (su b i))) + 1) from nI_add (((trQ t9 a b i) + (wnN (su a i) (su b i))) + 1) 0) ?_
                      refine lv_istore_n (lv' := [(3, .int (nI (((trQ t9 a b i) + (wnN (su a i) (su b i))) + 1))), (6, .int (nI (lenH b i))), (5, .int (nI (lenH a i))), (0, .int (nI t9)), (1, .int (nI a)), (2, .int (nI b)), (4, .int (nI i))]) X.1 X.2.1 dL_tricks_123 rfl hl (by decide) rfl (fun ls hl => ?_)
                      refine lv_iinc (v := (nI (i + 1))) (lv' := [(4, .int (nI (i + 1))), (3, .int (nI (((trQ t9 a b i) + (wnN (su a i) (su b i))) + 1))), (6, .int (nI (lenH b i))), (5, .int (nI (lenH a i))), (0, .int (nI t9)), (1, .int (nI a)), (2, .int (nI b))]) X.1 X.2.1 dL_tricks_124 hl (k := 6) rfl (nI_add i 1) (by decide) rfl (fun ls hl => ?_)
                      refine lv_goto (tgt := 5) X.1 X.2.1 dL_tricks_127 (by decide) ?_
                      exact ih (i + 1) (by omega) ls (by rw [show nI (trQ t9 a b (i + 1)) = nI (((trQ t9 a b i) + (wnN (su a i) (su b i))) + 1) from congrArg nI (by have := tq_1 (t := t9) (a := a) (b := b) (s := i) (by omega) k_57 r1 r2; omega)]; exact (lv_sub hl [4, 5, 6, 1, 0] rfl))
                    · have k_114 := k_nle (a := (lenH b t9)) (b := 0) (by omega) (by omega) c_114
                      have r2 : rfN b a i t9 = 1 := rf_4 k_95 k_100 k_114
                      refine lv_iconst (v := 1) X.1 X.2.1 dL_tricks_117 (by decide) ?_
                      refine lv_goto (tgt := 122) X.1 X.2.1 dL_tricks_118 (by decide) ?_
                      refine lv_iadd X.1 X.2.1 dL_tricks_122 ?_
                      refine r_eqi (show (((nI (((trQ t9 a b i) + (wnN (su a i) (su b i))) + 1)) + 1) : Int32) = nI ((((trQ t9 a b i) + (wnN (su a i) (su b i))) + 1) + 1) from nI_add (((trQ t9 a b i) + (wnN (su a i) (su b i))) + 1) 1) ?_
                      refine lv_istore_n (lv' := [(3, .int (nI ((((trQ t9 a b i) + (wnN (su a i) (su b i))) + 1) + 1))), (6, .int (nI (lenH b i))), (5, .int (nI (lenH a i))), (0, .int (nI t9)), (1, .int (nI a)), (2, .int (nI b)), (4, .int (nI i))]) X.1 X.2.1 dL_tricks_123 rfl hl (by decide) rfl (fun ls hl => ?_)
                      refine lv_iinc (v := (nI (i + 1))) (lv' := [(4, .int (nI (i + 1))), (3, .int (nI ((((trQ t9 a b i) + (wnN (su a i) (su b i))) + 1) + 1))), (6, .int (nI (lenH b i))), (5, .int (nI (lenH a i))), (0, .int (nI t9)), (1, .int (nI a)), (2, .int (nI b))]) X.1 X.2.1 dL_tricks_124 hl (k := 6) rfl (nI_add i 1) (by decide) rfl (fun ls hl => ?_)
                      refine lv_goto (tgt := 5) X.1 X.2.1 dL_tricks_127 (by decide) ?_
                      exact ih (i + 1) (by omega) ls (by rw [show nI (trQ t9 a b (i + 1)) = nI ((((trQ t9 a b i) + (wnN (su a i) (su b i))) + 1) + 1) from congrArg nI (by have := tq_1 (t := t9) (a := a) (b := b) (s := i) (by omega) k_57 r1 r2; omega)]; exact (lv_sub hl [4, 5, 6, 1, 0] rfl))
  exact L5 4 0 rfl ls (lv_sub hl [2, 3, 4, 1, 0] rfl)

