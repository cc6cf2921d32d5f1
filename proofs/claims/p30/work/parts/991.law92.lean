/-! THE CLAIM OUT OF ONE WALK OF THE LAW'S BODY. Your part is whole_start (and what it stands on); all else here is the same for every law, but numbers. -/
def R_law : String := "BidLanguageLaw"
def lw_P (b : Addr) (xs : List Int32) (args : Array Value) (s : State) : Prop := args = #[.ref b] ∧ s.IntsAt b xs ∧ xs.length ≤ 260 ∧ (Jvm.Cond.and given_1 narrow_1).before args s = true
def lw_Q (_ : Array Value) (s : State) (o : Outcome) (t : State) : Prop := o = .returned (some (.int 1)) ∧ Framed s o t [] 600000 7302250
def lw_Z (below : List Frame) (a : Array Value) (s : State) : State → Prop := fun t => ∃ o, t.status = .running ∧ Ended t below o ∧ lw_Q a s o t
/-- the law's own end, with 1 on the stack, nothing written that was there before, its room as the claim has it -/
theorem lw_ret {p : Program} {l : Launch} {e : Env} {s : State} {m : MethodId} {below : List Frame} {meth : Method} {c : Code} {b : Nat} (hx : p.tables.exec = Jvm.exec) (hb : c.code = code) (hr : meth.sig.returnType = ret) (hlocks : meth.locks = false) {pc : Nat} {H : Heap} {ls : Array Slot} (hdg : decode code pc = .ok (.ireturn, 1)) : W p l e room_1 s m #[Value.ref b] below meth c H [] 600000 7302250 (lw_Z below #[Value.ref b] s) (F0 m pc ls [.int 1]) := by
  intro T hT X
  obtain ⟨fs, hret, hrun, hended, hW, hframe⟩ := X.leave (v := some (.int 1)) (hlocks := hlocks) (fun h => by rw [hr] at h; cases h)
  have hmeth' : T.vm.method? m = some meth := X.method'
  refine ⟨T.setFrames fs, ?_, .returned (some (.int 1)), hrun, hended, rfl, ⟨_, rfl⟩, hW, hframe⟩
  jvm_step X.here [X.here.top, hx, hb, hdg, hmeth', hr, ret, narrow_b1]
  (try refine ⟨rfl, ?_⟩); (try refine ⟨rfl, ?_⟩)
  first | (intro acts; rw [hret _ acts rfl rfl rfl]) | rw [hret _ _ rfl rfl rfl]
  exact Steps.refl _
/-- what holds at the law's entry: the machine, the code, the tables' words (any of lw_tbl by 'hts w (by decide +kernel)'), the script of L ints xs at the cell b, what the Statement gives of the start (any of its parts by flat_of_before) -/
def lw_At (p : Program) (s : State) (m : MethodId) (meth : Method) (c : Code) (b L : Nat) (xs : Nat → Int32) : Prop :=
  p.tables.exec = Jvm.exec ∧ c.code = code ∧ meth.sig.returnType = ret ∧ c.maxLocals = 8 ∧ s.vm.findClass R_law = some m.cls ∧ (∀ w ∈ lw_tbl, w.before #[Value.ref b] s = true) ∧ va_X b L xs s s.heap ∧ b < s.heap.size ∧ meth.locks = false ∧ (Jvm.Cond.and given_1 narrow_1).before #[Value.ref b] s = true
def A0 (s : State) : Nat → Prop := fun q => s.heap.size ≤ q
set_option maxHeartbeats 4000000 in
theorem law_tb {s : State} {b : Nat} (hts : ∀ w ∈ lw_tbl, w.before #[Value.ref b] s = true) : TB s := ⟨fun w hw => tb_w (tb_ok hw) (State.WarmedH.refl s) (hts w (List.mem_filter.mp hw).1), fun y hy => absurd hy List.not_mem_nil⟩
set_option maxHeartbeats 4000000 in
theorem law_world {s : State} {b : Nat} (hts : ∀ w ∈ lw_tbl, w.before #[Value.ref b] s = true) (hgv : (Jvm.Cond.and given_1 narrow_1).before #[Value.ref b] s = true) : ∃ G : HG, KK G s ∧ ZZ G (A0 s) s s.heap := by
  have hT : TB s := law_tb hts
  have hA : ∀ a : Nat, a < s.heap.size → ¬ A0 s a := fun a h => Nat.not_le.mpr h
  have hs := flat_of_before _ hgv
  obtain ⟨c0, f0, k0⟩ := u_known (args := #[]) (C := RJ4) (T := TJ4) (N := 4) (n := 4) (tb_all hT) tin_J4 (tb_all hT _ tw_118)
  obtain ⟨c1, f1, k1⟩ := u_known (args := #[]) (C := RJx4a65c) (T := TJx4a65c) (N := 3) (n := 3) (tb_all hT) tin_Jx4a65c (tb_all hT _ tw_44)
  obtain ⟨c2, f2, k2⟩ := u_known (args := #[]) (C := RX0) (T := TX0) (N := 4) (n := 4) (tb_all hT) tin_X0 (tb_all hT _ tw_70)
  obtain ⟨c3, f3, k3⟩ := u_known (args := #[]) (C := RX2) (T := TX2) (N := 3) (n := 3) (tb_all hT) tin_X2 (tb_all hT _ tw_491)
  obtain ⟨c4, f4, k4⟩ := u_known (args := #[]) (C := RX3) (T := TX3) (N := 3) (n := 3) (tb_all hT) tin_X3 (tb_all hT _ tw_78)
  obtain ⟨c5, f5, k5⟩ := u_known (args := #[]) (C := RX4) (T := TX4) (N := 6) (n := 6) (tb_all hT) tin_X4 (tb_all hT _ tw_354)
  obtain ⟨c6, f6, k6⟩ := u_known (args := #[]) (C := RX4) (T := TX4) (N := 6) (n := 6) (tb_all hT) tin_X4 (tb_all hT _ tw_354)
  obtain ⟨c7, f7, k7⟩ := u_known (args := #[]) (C := RX6) (T := TX6) (N := 5) (n := 5) (tb_all hT) tin_X6 (tb_all hT _ tw_36)
  obtain ⟨dC, dI, hKc⟩ : ∃ (dC : Nat → ClassId) (dI : Nat → Nat → Nat), ∀ (k : Nat) (q : vw_C), vwCl[k]? = some q → u_Kn s q.1 q.2.1 q.2.2 (dC k) (dI k) := by
    refine ⟨fun k => match k with | 0 => c0 | 1 => c1 | 2 => c2 | 3 => c3 | 4 => c4 | 5 => c5 | 6 => c6 | _ => c7, fun k => match k with | 0 => f0 | 1 => f1 | 2 => f2 | 3 => f3 | 4 => f4 | 5 => f5 | 6 => f6 | _ => f7, ?_⟩
    intro k q hq
    match k, hq with
    | 0, hq => cases hq; exact k0
    | 1, hq => cases hq; exact k1
    | 2, hq => cases hq; exact k2
    | 3, hq => cases hq; exact k3
    | 4, hq => cases hq; exact k4
    | 5, hq => cases hq; exact k5
    | 6, hq => cases hq; exact k6
    | 7, hq => cases hq; exact k7
    | k + 8, hq => simp [vwCl] at hq
  obtain ⟨a0, b0, e0, p0, q0, r0⟩ := Cond.arrayClass_spec (tb_all hT (args := #[]) _ tw_147)
  obtain ⟨a1, b1, e1, p1, q1, r1⟩ := Cond.arrayClass_spec (tb_all hT (args := #[]) _ tw_574)
  have hao : (Cond.arrayOver (.object "java/lang/Object")).before #[Value.ref b] s = true := hts (.arrayOver (.object "java/lang/Object")) (List.mem_of_getElem? (i := 430) (by decide +kernel))
  obtain ⟨e3, a3, b3, p3, -, q3, r3, w3⟩ := Cond.arrayOver_spec hao
  obtain ⟨mi, hmi⟩ := va_Mi.of (hs (.isRef (.mirror "[Ljava/lang/Object;")) (by decide +kernel))
  have hlen : (Term.length (.static "java/util/ArrayList" "DEFAULTCAPACITY_EMPTY_ELEMENTDATA" "[Ljava/lang/Object;")).eval #[Value.ref b] s none [] s = some (.int (Int32.ofNat 0)) := va_eqt (hs (.eq (.length (.static "java/util/ArrayList" "DEFAULTCAPACITY_EMPTY_ELEMENTDATA" "[Ljava/lang/Object;")) (.int 0)) (by decide +kernel))
  obtain ⟨t, ht, hTt⟩ := va_Tof (args := #[Value.ref b]) (tm := .static "java/util/ArrayList" "DEFAULTCAPACITY_EMPTY_ELEMENTDATA" "[Ljava/lang/Object;") (ty := .object "java/lang/Object") (N := 0) (f := fun _ => .null) (A := A0 s) (by decide) (hs (.arrayOf (.static "java/util/ArrayList" "DEFAULTCAPACITY_EMPTY_ELEMENTDATA" "[Ljava/lang/Object;") (.object "java/lang/Object")) (by decide +kernel)) hlen (fun j hj => absurd hj (Nat.not_lt_zero j)) hA
  refine ⟨((dC, dI), (fun k => match k with | 0 => a0 | 1 => a1 | 2 => a1 | _ => a3), fun k => match k with | 0 => t | _ => mi), ⟨⟨hKc, ?_⟩, va_AO.of hao, hmi, va_Dc.of (hts (.declares ⟨"java/lang/Object", "getClass", "()Ljava/lang/Class;"⟩) (List.mem_of_getElem? (i := 586) (by decide +kernel))), va_Nw.of rfl (hts (.castable "BidLanguage$Rule" "java/lang/Object") (List.mem_of_getElem? (i := 582) (by decide +kernel))), va_Nw.of rfl (hts (.castable "BidLanguage$MadeCall" "java/lang/Object") (List.mem_of_getElem? (i := 583) (by decide +kernel)))⟩, ?_⟩
  · intro k q hq
    match k, hq with
    | 0, hq => cases hq; exact ⟨fun n z => ⟨fun k h => (by cases h), b0, q0, e0, r0⟩, p0⟩
    | 1, hq => cases hq; exact ⟨fun n z => ⟨fun k h => (by cases h), b1, q1, e1, r1⟩, p1⟩
    | 2, hq => cases hq; exact ⟨fun n z => ⟨fun k h => (by cases h), b1, q1, e1, r1⟩, p1⟩
    | 3, hq => cases hq; exact ⟨fun n z => ⟨fun k h => (by cases h), b3, q3, e3, r3⟩, b3, e3, q3, r3, p3, w3⟩
    | k + 4, hq => simp [tyL] at hq
  · exact ⟨va_Zref (hts (.laysStatic "java/util/ArrayList" "DEFAULTCAPACITY_EMPTY_ELEMENTDATA" "[Ljava/lang/Object;") (List.mem_of_getElem? (i := 56) (by decide +kernel))) (hts (.initialized "java/util/ArrayList") (List.mem_of_getElem? (i := 18) (by decide +kernel))) ht hA, hTt, va_Zof (hts (.laysStatic "java/lang/String" "COMPACT_STRINGS" "Z") (List.mem_of_getElem? (i := 127) (by decide +kernel))) (hts (.initialized "java/lang/String") (List.mem_of_getElem? (i := 23) (by decide +kernel))) (va_eqi (hs (.eq (.static "java/lang/String" "COMPACT_STRINGS" "Z") (.int 1)) (by decide +kernel))) hA, trivial⟩
set_option maxHeartbeats 4000000 in
set_option maxRecDepth 100000 in
theorem law_walk {p : Program} {e : Env} {s : State} {m : MethodId} {below : List Frame} {meth : Method} {c : Code} {G : HG} {A : Nat → Prop} {hp : HP} {ls : Array Slot} (l : Launch) {b L : Nat} {xs : Nat → Int32} (hA : ∀ q, s.heap.size ≤ q → A q) (hAs : ∀ q, A q → s.heap.size ≤ q) (X : CX p c cL_law 8 s m R_law G A) (hX : va_X b L xs s s.heap) (hXl : b < s.heap.size) (hXA : ¬ A b) (hr : meth.sig.returnType = ret) (hlk : meth.locks = false) (hL : L < 2 ^ 31) (hW : WS s G A hp s.heap []) (hl : lv_has ls 8 [(0, .ref b)]) : W p l e room_1 s m #[Value.ref b] below meth c s.heap [] 0 0 (lw_Z below #[Value.ref b] s) (F0 m 0 ls []) := by
  refine r_new (k := 1) (n := 5) (fs := [.null, .null, .null, .int 0, .int 0]) X hA hW (C := RX6) (T := TX6) (N := 5) (ci := 7) rfl tin_X6 tyX6_ok tw_35 tw_36 tw_15 (fun j hj => by rcases (show j = 0 ∨ j = 1 ∨ j = 2 ∨ j = 3 ∨ j = 4 by omega) with rfl | rfl | rfl | rfl | rfl <;> rfl) (by omega) (by omega) (Nat.le_of_ble_eq_true rfl) (Nat.le_of_ble_eq_true rfl) dL_law_0 (fun b6 hp_1 H hW eh_2 hn_3 => ?_)
  have f_4 : hp_1 b6 = some (.inr (7, [.null, .null, .null, .int 0, .int 0])) := by rw [eh_2]; exact va_up_self _ _ _
  refine lv_dup X.1 X.2.1 dL_law_3 rfl ?_
  refine on_Wv (k' := 7) (n' := 38) (run_I (As := []) (rest := [.ref b6]) X (c_X6_init l G A hp_1 _ (fun q h => hA q (Nat.le_trans hW.2.2.1 h)) hW.2.1 b6 f_4) (wp_blind _) (wp_at X hW.1 hW.2.2) mf_X6_init tw_37 tw_38 rfl ⟨rfl, rfl, Nat.le_of_ble_eq_true rfl, Nat.le_of_ble_eq_true rfl⟩ hl.1 rfl rfl (Nat.le_of_ble_eq_true rfl) ⟨Nat.le_of_ble_eq_true rfl, Nat.le_of_ble_eq_true rfl⟩ dL_law_4) hW (by omega) (by omega) (fun hp_5 H locs q_4 hW => ?_)
  have hC : CP G hp_5 [] b6 (0, (fun _ _ => 0), (fun i => if i = 0 then 31 else 992), 0, cs0, false, 0, (fun _ => 0)) := cp_self q_4
  refine lv_astore_n (lv' := [(1, .ref b6), (0, .ref b)]) X.1 X.2.1 dL_law_7 rfl hl (by decide) rfl (fun ls hl => ?_)
  refine lv_bipush (v := 48) X.1 X.2.1 dL_law_8 (by decide) ?_
  refine r_newI (k := 8) (n := 86) X hA hW (N := 48) (by decide) (by decide) (by decide) (by omega) (by omega) (Nat.le_of_ble_eq_true rfl) (Nat.le_of_ble_eq_true rfl) tw_574 dL_law_10 (fun ra hp_6 H hW eh_7 hn_8 => ?_)
  have f_9 : hp_6 ra = some (.inl (G.2.1 1, 48, .inl (fun _ => 0))) := by rw [eh_7]; exact va_up_self _ _ _
  have hC := cp_new hC eh_7 hn_8
  refine lv_astore_n (lv' := [(2, .ref ra), (1, .ref b6), (0, .ref b)]) X.1 X.2.1 dL_law_12 rfl hl (by decide) rfl (fun ls hl => ?_)
  refine lv_aload_n X.1 X.2.1 dL_law_13 rfl (lv_at hl 1 rfl) ?_
  refine lv_aload_n X.1 X.2.1 dL_law_14 rfl (lv_at hl 2 rfl) ?_
  refine lv_aload_n X.1 X.2.1 dL_law_15 rfl (lv_at hl 0 rfl) ?_
  refine on_Wi (k' := 24) (n' := 406) (run_S (As := [.ref b6, .ref b, .ref ra]) (rest := []) X (c_L_lay l G A hp_6 _ (fun q h => hA q (Nat.le_trans hW.2.2.1 h)) hW.2.1 b6 b ra L xs hL hXA (fun i => if i = 0 then 31 else 992) 0 (fun _ => 0) (fun _ => 0) hC f_9) (wx_blind _) (wx_at X hW.1 hW.2.2 hX hXl hXA) mf_L_lay tw_338 tw_339 ⟨rfl, rfl, Nat.le_of_ble_eq_true rfl, Nat.le_of_ble_eq_true rfl⟩ hl.1 rfl rfl (Nat.le_of_ble_eq_true rfl) ⟨Nat.le_of_ble_eq_true rfl, Nat.le_of_ble_eq_true rfl⟩ dL_law_16) hW (by omega) (by omega) (fun r_16 hp_10 H locs q_16 hW => ?_)
  obtain ⟨n, R, g, er, hC, fra, hg⟩ := q_16
  subst er
  have hn8 := hg.1
  refine lv_istore_n (lv' := [(3, .int (nI n)), (2, .ref ra), (1, .ref b6), (0, .ref b)]) X.1 X.2.1 dL_law_19 rfl hl (by decide) rfl (fun ls hl => ?_)
  refine lv_iload_n X.1 X.2.1 dL_law_20 rfl (lv_at hl 0 rfl) ?_
  refine lv_if_lt (tgt := 87) X.1 X.2.1 dL_law_21 (by decide) (fun c_21 => absurd c_21 (nI_pos (by omega))) (fun c_21 => ?_)
  refine lv_aload_n X.1 X.2.1 dL_law_24 rfl (lv_at hl 2 rfl) ?_
  refine lv_aload_n X.1 X.2.1 dL_law_25 rfl (lv_at hl 3 rfl) ?_
  refine lv_bipush (v := 110) X.1 X.2.1 dL_law_26 (by decide) ?_
  refine r_const X tw_575 dL_law_28 ?_
  refine on_Si (run_S (As := [.ref b, .int 110, .int 65536]) (rest := [.ref b6]) X (c_L_cell l G hp_10 b L xs hL 110 65536 (by decide) (by decide) (by decide)) (rx_blind _) (rx_at X hW.1 hW.2.2 hX hXl hXA) mf_L_cell tw_331 tw_332 ⟨rfl, rfl, Nat.le_of_ble_eq_true rfl, Nat.le_of_ble_eq_true rfl⟩ hl.1 rfl rfl (Nat.le_of_ble_eq_true rfl) ⟨Nat.le_of_ble_eq_true rfl, Nat.le_of_ble_eq_true rfl⟩ dL_law_30) (fun r_30 q_30 => ?_)
  obtain rfl : r_30 = (nI (ceF L xs 110 65536)) := q_30
  obtain ⟨sd, esd⟩ : ∃ sd : Nat, sd = ceF L xs 110 65536 := ⟨_, rfl⟩
  have hsd : sd < 65536 := by rw [esd]; exact ceF_lt _ _ _ (by decide)
  refine r_eqi (show ((nI (ceF L xs 110 65536)) : Int32) = nI sd from by rw [esd]) ?_
  refine lc_wi (z := (n, R, (fun i => if i = 0 then 31 else 992), 0, cs0, false, 0, (fun _ => 0))) (As := [.int (nI sd)]) (rest := []) X hA hW hC (fun r hp1 h => h) (fun A9 hp9 hA9 hO9 hz9 => c_X6_draw l G A9 hp9 _ hA9 hO9 b6 n R (fun i => if i = 0 then 31 else 992) 0 cs0 false 0 (fun _ => 0) hz9 (nI sd)) mf_X6_draw tw_164 tw_165 tw_166 ⟨rfl, rfl, Nat.le_of_ble_eq_true rfl, Nat.le_of_ble_eq_true rfl⟩ hl.1 rfl rfl (Nat.le_of_ble_eq_true rfl) ⟨Nat.le_of_ble_eq_true rfl, Nat.le_of_ble_eq_true rfl⟩ dL_law_33 (fun hp_11 H locs hW hC hK => ?_)
  refine w_wid (k' := 24) (n' := 406) (by omega) (by omega) ?_
  have f_12 : hp_11 ra = some (.inl (G.2.1 1, 48, .inl g)) := (hK ra (by simp)).trans fra
  obtain ⟨hf9, hg9⟩ := dr_v (n := n) (R := R) (hd := (fun i => if i = 0 then 31 else 992)) (pn := 0) (pt := (fun _ => 0)) hsd
  rw [hg9] at hC
  obtain ⟨hd, ehd⟩ : ∃ hd : Nat → Nat, hd = drH sd := ⟨_, rfl⟩
  rw [← ehd] at hC
  have hh : ∀ i, i < 2 → hd i ≤ 1048575 ∧ sizeH (hd i) = 5 := by rw [ehd]; exact (dw_hands hsd).1
  have hdis : hd 0 &&& hd 1 = 0 := by rw [ehd]; exact (dw_hands hsd).2
  refine r_eqi (show ((fDraw (nI sd)) : Int32) = nI (hd 0) from by rw [hf9, ehd]) ?_
  refine lv_aload_n X.1 X.2.1 dL_law_36 rfl (lv_at hl 2 rfl) ?_
  refine lv_iconst (v := 0) X.1 X.2.1 dL_law_37 (by decide) ?_
  refine lv_iconst (v := 0) X.1 X.2.1 dL_law_38 (by decide) ?_
  refine lc_ri (z := (n, R, hd, 0, cs0, false, 0, (fun _ => 0))) (As := [.int 0, .int 0]) (rest := [.int (nI (hd 0))]) X hW.1 hW.2.2 hC (fun hp9 hz9 => c_X6_hand l G hp9 b6 n R hd 0 cs0 false 0 (fun _ => 0) hz9 (0 : Int32) (0 : Int32)) mf_X6_hand tw_182 tw_183 tw_184 ⟨rfl, rfl, Nat.le_of_ble_eq_true rfl, Nat.le_of_ble_eq_true rfl⟩ hl.1 rfl rfl (Nat.le_of_ble_eq_true rfl) ⟨Nat.le_of_ble_eq_true rfl, Nat.le_of_ble_eq_true rfl⟩ dL_law_39 ?_
  refine r_eqi (show ((fHand hd (0 : Int32) (0 : Int32)) : Int32) = nI (hd 0) from fh_0 (x := 0) (by omega)) ?_
  refine lv_icmp_ne (tgt := 87) X.1 X.2.1 dL_law_42 (by decide) (fun c_42 => absurd rfl c_42) (fun c_42 => ?_)
  refine lv_aload_n X.1 X.2.1 dL_law_45 rfl (lv_at hl 2 rfl) ?_
  refine lv_iconst (v := 0) X.1 X.2.1 dL_law_46 (by decide) ?_
  refine lv_iconst (v := 0) X.1 X.2.1 dL_law_47 (by decide) ?_
  refine lc_ri (z := (n, R, hd, 0, cs0, false, 0, (fun _ => 0))) (As := [.int 0, .int 0]) (rest := []) X hW.1 hW.2.2 hC (fun hp9 hz9 => c_X6_hand l G hp9 b6 n R hd 0 cs0 false 0 (fun _ => 0) hz9 (0 : Int32) (0 : Int32)) mf_X6_hand tw_182 tw_183 tw_184 ⟨rfl, rfl, Nat.le_of_ble_eq_true rfl, Nat.le_of_ble_eq_true rfl⟩ hl.1 rfl rfl (Nat.le_of_ble_eq_true rfl) ⟨Nat.le_of_ble_eq_true rfl, Nat.le_of_ble_eq_true rfl⟩ dL_law_48 ?_
  refine r_eqi (show ((fHand hd (0 : Int32) (0 : Int32)) : Int32) = nI (hd 0) from fh_0 (x := 0) (by omega)) ?_
  refine on_Si (run_S (As := [.int (nI (hd 0))]) (rest := []) X (c_L_many l G hp_11 (hd 0) (hh 0 (by omega)).1) (rp_blind _) (rp_at X hW.1 hW.2.2) mf_L_many tw_335 tw_336 ⟨rfl, rfl, Nat.le_of_ble_eq_true rfl, Nat.le_of_ble_eq_true rfl⟩ hl.1 rfl rfl (Nat.le_of_ble_eq_true rfl) ⟨Nat.le_of_ble_eq_true rfl, Nat.le_of_ble_eq_true rfl⟩ dL_law_51) (fun r_51 q_51 => ?_)
  obtain rfl : r_51 = (nI (sizeH (hd 0))) := q_51
  refine r_eqi (show ((nI (sizeH (hd 0))) : Int32) = 5 from by rw [(hh 0 (by omega)).2]; rfl) ?_
  refine lv_iconst (v := 5) X.1 X.2.1 dL_law_54 (by decide) ?_
  refine lv_icmp_ne (tgt := 87) X.1 X.2.1 dL_law_55 (by decide) (fun c_55 => absurd (by decide) c_55) (fun c_55 => ?_)
  refine lv_aload_n X.1 X.2.1 dL_law_58 rfl (lv_at hl 2 rfl) ?_
  refine lv_iconst (v := 1) X.1 X.2.1 dL_law_59 (by decide) ?_
  refine lv_iconst (v := 0) X.1 X.2.1 dL_law_60 (by decide) ?_
  refine lc_ri (z := (n, R, hd, 0, cs0, false, 0, (fun _ => 0))) (As := [.int 1, .int 0]) (rest := []) X hW.1 hW.2.2 hC (fun hp9 hz9 => c_X6_hand l G hp9 b6 n R hd 0 cs0 false 0 (fun _ => 0) hz9 (1 : Int32) (0 : Int32)) mf_X6_hand tw_182 tw_183 tw_184 ⟨rfl, rfl, Nat.le_of_ble_eq_true rfl, Nat.le_of_ble_eq_true rfl⟩ hl.1 rfl rfl (Nat.le_of_ble_eq_true rfl) ⟨Nat.le_of_ble_eq_true rfl, Nat.le_of_ble_eq_true rfl⟩ dL_law_61 ?_
  refine r_eqi (show ((fHand hd (1 : Int32) (0 : Int32)) : Int32) = nI (hd 1) from fh_0 (x := 1) (by omega)) ?_
  refine on_Si (run_S (As := [.int (nI (hd 1))]) (rest := []) X (c_L_many l G hp_11 (hd 1) (hh 1 (by omega)).1) (rp_blind _) (rp_at X hW.1 hW.2.2) mf_L_many tw_335 tw_336 ⟨rfl, rfl, Nat.le_of_ble_eq_true rfl, Nat.le_of_ble_eq_true rfl⟩ hl.1 rfl rfl (Nat.le_of_ble_eq_true rfl) ⟨Nat.le_of_ble_eq_true rfl, Nat.le_of_ble_eq_true rfl⟩ dL_law_64) (fun r_64 q_64 => ?_)
  obtain rfl : r_64 = (nI (sizeH (hd 1))) := q_64
  refine r_eqi (show ((nI (sizeH (hd 1))) : Int32) = 5 from by rw [(hh 1 (by omega)).2]; rfl) ?_
  refine lv_iconst (v := 5) X.1 X.2.1 dL_law_67 (by decide) ?_
  refine lv_icmp_ne (tgt := 87) X.1 X.2.1 dL_law_68 (by decide) (fun c_68 => absurd (by decide) c_68) (fun c_68 => ?_)
  refine lv_aload_n X.1 X.2.1 dL_law_71 rfl (lv_at hl 2 rfl) ?_
  refine lv_iconst (v := 0) X.1 X.2.1 dL_law_72 (by decide) ?_
  refine lv_iconst (v := 0) X.1 X.2.1 dL_law_73 (by decide) ?_
  refine lc_ri (z := (n, R, hd, 0, cs0, false, 0, (fun _ => 0))) (As := [.int 0, .int 0]) (rest := []) X hW.1 hW.2.2 hC (fun hp9 hz9 => c_X6_hand l G hp9 b6 n R hd 0 cs0 false 0 (fun _ => 0) hz9 (0 : Int32) (0 : Int32)) mf_X6_hand tw_182 tw_183 tw_184 ⟨rfl, rfl, Nat.le_of_ble_eq_true rfl, Nat.le_of_ble_eq_true rfl⟩ hl.1 rfl rfl (Nat.le_of_ble_eq_true rfl) ⟨Nat.le_of_ble_eq_true rfl, Nat.le_of_ble_eq_true rfl⟩ dL_law_74 ?_
  refine r_eqi (show ((fHand hd (0 : Int32) (0 : Int32)) : Int32) = nI (hd 0) from fh_0 (x := 0) (by omega)) ?_
  refine lv_aload_n X.1 X.2.1 dL_law_77 rfl (lv_at hl 2 rfl) ?_
  refine lv_iconst (v := 1) X.1 X.2.1 dL_law_78 (by decide) ?_
  refine lv_iconst (v := 0) X.1 X.2.1 dL_law_79 (by decide) ?_
  refine lc_ri (z := (n, R, hd, 0, cs0, false, 0, (fun _ => 0))) (As := [.int 1, .int 0]) (rest := [.int (nI (hd 0))]) X hW.1 hW.2.2 hC (fun hp9 hz9 => c_X6_hand l G hp9 b6 n R hd 0 cs0 false 0 (fun _ => 0) hz9 (1 : Int32) (0 : Int32)) mf_X6_hand tw_182 tw_183 tw_184 ⟨rfl, rfl, Nat.le_of_ble_eq_true rfl, Nat.le_of_ble_eq_true rfl⟩ hl.1 rfl rfl (Nat.le_of_ble_eq_true rfl) ⟨Nat.le_of_ble_eq_true rfl, Nat.le_of_ble_eq_true rfl⟩ dL_law_80 ?_
  refine r_eqi (show ((fHand hd (1 : Int32) (0 : Int32)) : Int32) = nI (hd 1) from fh_0 (x := 1) (by omega)) ?_
  refine lv_iand X.1 X.2.1 dL_law_83 ?_
  refine r_eqi (show (((nI (hd 0)) &&& (nI (hd 1))) : Int32) = nI ((hd 0) &&& (hd 1)) from n_and (hd 0) (hd 1)) ?_
  refine r_eqi (show ((nI ((hd 0) &&& (hd 1))) : Int32) = 0 from by rw [hdis]; rfl) ?_
  refine lv_if_eq (tgt := 89) X.1 X.2.1 dL_law_84 (by decide) (fun c_84 => ?_) (fun c_84 => absurd (by decide) c_84)
  refine lv_bipush (v := 52) X.1 X.2.1 dL_law_89 (by decide) ?_
  refine r_newI (k := 25) (n := 458) X hA hW (N := 52) (by decide) (by decide) (by decide) (by omega) (by omega) (Nat.le_of_ble_eq_true rfl) (Nat.le_of_ble_eq_true rfl) tw_574 dL_law_91 (fun ca hp_13 H hW eh_14 hn_15 => ?_)
  have f_16 : hp_13 ca = some (.inl (G.2.1 1, 52, .inl (fun _ => 0))) := by rw [eh_14]; exact va_up_self _ _ _
  have hC := cp_new hC eh_14 hn_15
  have ne_ra_ca : ra ≠ ca := ne_none f_12 hn_15
  refine lv_astore (lv' := [(4, .ref ca), (3, .int (nI n)), (2, .ref ra), (1, .ref b6), (0, .ref b)]) X.1 X.2.1 dL_law_93 hl (by decide) rfl (fun ls hl => ?_)
  replace hC := cp_swap hC
  refine lv_aload_n X.1 X.2.1 dL_law_95 rfl (lv_at hl 3 rfl) ?_
  refine lv_aload_n X.1 X.2.1 dL_law_96 rfl (lv_at hl 2 rfl) ?_
  refine lv_iload_n X.1 X.2.1 dL_law_97 rfl (lv_at hl 1 rfl) ?_
  refine lv_aload X.1 X.2.1 dL_law_98 (lv_at hl 0 rfl) ?_
  have f_17 : hp_13 ra = some (.inl (G.2.1 1, 48, .inl g)) := by rw [eh_14, va_up_ne _ _ (ne_none f_12 hn_15)]; exact f_12
  refine on_Wi (k' := 67) (n' := 1018) (run_S (As := [.ref b6, .ref ra, .int (nI n), .ref ca]) (rest := []) X (c_L_follow l G A hp_13 _ (fun q h => hA q (Nat.le_trans hW.2.2.1 h)) hW.2.1 b6 ra ca n R hd 0 (fun _ => 0) g (fun _ => 0) hC f_17 f_16 hg hh) (wp_blind _) (wp_at X hW.1 hW.2.2) mf_L_follow tw_462 tw_463 ⟨rfl, rfl, Nat.le_of_ble_eq_true rfl, Nat.le_of_ble_eq_true rfl⟩ hl.1 rfl rfl (Nat.le_of_ble_eq_true rfl) ⟨Nat.le_of_ble_eq_true rfl, Nat.le_of_ble_eq_true rfl⟩ dL_law_100) hW (by omega) (by omega) (fun r_100 hp_18 H locs q_100 hW => ?_)
  obtain ⟨k, cs, sk, gc, er, hC, fra, fca, hcg, hft, hst⟩ := q_100
  subst er
  have hk12 := hcg.1
  refine lv_istore (lv' := [(5, .int (nI k)), (4, .ref ca), (3, .int (nI n)), (2, .ref ra), (1, .ref b6), (0, .ref b)]) X.1 X.2.1 dL_law_103 hl (by decide) rfl (fun ls hl => ?_)
  refine lv_iload X.1 X.2.1 dL_law_105 (lv_at hl 0 rfl) ?_
  refine lv_if_ge (tgt := 112) X.1 X.2.1 dL_law_107 (by decide) (fun c_107 => ?_) (fun c_107 => absurd (nI_pos' (by omega)) c_107)
  rcases Bool.eq_false_or_eq_true sk with hsk | hsk
  · subst hsk
    refine lv_aload_n X.1 X.2.1 dL_law_112 rfl (lv_at hl 4 rfl) ?_
    refine lv_iconst (v := 5) X.1 X.2.1 dL_law_113 (by decide) ?_
    refine lc_ri (z := (n, R, hd, k, cs, true, 0, (fun _ => 0))) (As := [.int 5]) (rest := []) X hW.1 hW.2.2 hC (fun hp9 hz9 => c_X6_state l G hp9 b6 n R hd k cs true 0 (fun _ => 0) hz9 (5 : Int32)) mf_X6_state tw_248 tw_249 tw_250 ⟨rfl, rfl, Nat.le_of_ble_eq_true rfl, Nat.le_of_ble_eq_true rfl⟩ hl.1 rfl rfl (Nat.le_of_ble_eq_true rfl) ⟨Nat.le_of_ble_eq_true rfl, Nat.le_of_ble_eq_true rfl⟩ dL_law_114 ?_
    refine r_eqi (show ((fState n k cs true 0 (5 : Int32)) : Int32) = 2 from fs_5) ?_
    refine lv_iconst (v := 2) X.1 X.2.1 dL_law_117 (by decide) ?_
    refine lv_icmp_ne (tgt := 125) X.1 X.2.1 dL_law_118 (by decide) (fun c_118 => absurd (by decide) c_118) (fun c_118 => ?_)
    refine lv_iconst (v := 1) X.1 X.2.1 dL_law_121 (by decide) ?_
    refine lv_goto (tgt := 126) X.1 X.2.1 dL_law_122 (by decide) ?_
    refine lv_istore (lv' := [(6, .int 1), (5, .int (nI k)), (4, .ref ca), (3, .int (nI n)), (2, .ref ra), (1, .ref b6), (0, .ref b)]) X.1 X.2.1 dL_law_126 hl (by decide) rfl (fun ls hl => ?_)
    refine lv_aload_n X.1 X.2.1 dL_law_128 rfl (lv_at hl 5 rfl) ?_
    refine lv_iconst (v := 0) X.1 X.2.1 dL_law_129 (by decide) ?_
    refine lv_aload_n X.1 X.2.1 dL_law_130 rfl (lv_at hl 5 rfl) ?_
    refine lv_iconst (v := 0) X.1 X.2.1 dL_law_131 (by decide) ?_
    refine lv_iconst (v := 0) X.1 X.2.1 dL_law_132 (by decide) ?_
    refine lc_ri (z := (n, R, hd, k, cs, true, 0, (fun _ => 0))) (As := [.int 0, .int 0]) (rest := [.int 0, .ref b6]) X hW.1 hW.2.2 hC (fun hp9 hz9 => c_X6_hand l G hp9 b6 n R hd k cs true 0 (fun _ => 0) hz9 (0 : Int32) (0 : Int32)) mf_X6_hand tw_182 tw_183 tw_184 ⟨rfl, rfl, Nat.le_of_ble_eq_true rfl, Nat.le_of_ble_eq_true rfl⟩ hl.1 rfl rfl (Nat.le_of_ble_eq_true rfl) ⟨Nat.le_of_ble_eq_true rfl, Nat.le_of_ble_eq_true rfl⟩ dL_law_133 ?_
    refine r_eqi (show ((fHand hd (0 : Int32) (0 : Int32)) : Int32) = nI (hd 0) from fh_0 (x := 0) (by omega)) ?_
    refine lc_ri (z := (n, R, hd, k, cs, true, 0, (fun _ => 0))) (As := [.int 0, .int (nI (hd 0))]) (rest := []) X hW.1 hW.2.2 hC (fun hp9 hz9 => c_X6_fits l G hp9 b6 n R hd k cs true 0 (fun _ => 0) hz9 (0 : Int32) (nI (hd 0))) mf_X6_fits tw_275 tw_276 tw_277 ⟨rfl, rfl, Nat.le_of_ble_eq_true rfl, Nat.le_of_ble_eq_true rfl⟩ hl.1 rfl rfl (Nat.le_of_ble_eq_true rfl) ⟨Nat.le_of_ble_eq_true rfl, Nat.le_of_ble_eq_true rfl⟩ dL_law_136 ?_
    refine r_eqi (show ((fFits n R k cs true (0 : Int32) (nI (hd 0))) : Int32) = 1 from (ff_v (x := 0) (by omega) (hh 0 (by omega)).1 (hh 0 (by omega)).2).trans (by rw [fa_true hft hst (x := 0) (by omega)]; rfl)) ?_
    refine lv_iconst (v := 1) X.1 X.2.1 dL_law_139 (by decide) ?_
    refine lv_icmp_ne (tgt := 158) X.1 X.2.1 dL_law_140 (by decide) (fun c_140 => absurd (by decide) c_140) (fun c_140 => ?_)
    refine lv_aload_n X.1 X.2.1 dL_law_143 rfl (lv_at hl 5 rfl) ?_
    refine lv_iconst (v := 1) X.1 X.2.1 dL_law_144 (by decide) ?_
    refine lv_aload_n X.1 X.2.1 dL_law_145 rfl (lv_at hl 5 rfl) ?_
    refine lv_iconst (v := 1) X.1 X.2.1 dL_law_146 (by decide) ?_
    refine lv_iconst (v := 0) X.1 X.2.1 dL_law_147 (by decide) ?_
    refine lc_ri (z := (n, R, hd, k, cs, true, 0, (fun _ => 0))) (As := [.int 1, .int 0]) (rest := [.int 1, .ref b6]) X hW.1 hW.2.2 hC (fun hp9 hz9 => c_X6_hand l G hp9 b6 n R hd k cs true 0 (fun _ => 0) hz9 (1 : Int32) (0 : Int32)) mf_X6_hand tw_182 tw_183 tw_184 ⟨rfl, rfl, Nat.le_of_ble_eq_true rfl, Nat.le_of_ble_eq_true rfl⟩ hl.1 rfl rfl (Nat.le_of_ble_eq_true rfl) ⟨Nat.le_of_ble_eq_true rfl, Nat.le_of_ble_eq_true rfl⟩ dL_law_148 ?_
    refine r_eqi (show ((fHand hd (1 : Int32) (0 : Int32)) : Int32) = nI (hd 1) from fh_0 (x := 1) (by omega)) ?_
    refine lc_ri (z := (n, R, hd, k, cs, true, 0, (fun _ => 0))) (As := [.int 1, .int (nI (hd 1))]) (rest := []) X hW.1 hW.2.2 hC (fun hp9 hz9 => c_X6_fits l G hp9 b6 n R hd k cs true 0 (fun _ => 0) hz9 (1 : Int32) (nI (hd 1))) mf_X6_fits tw_275 tw_276 tw_277 ⟨rfl, rfl, Nat.le_of_ble_eq_true rfl, Nat.le_of_ble_eq_true rfl⟩ hl.1 rfl rfl (Nat.le_of_ble_eq_true rfl) ⟨Nat.le_of_ble_eq_true rfl, Nat.le_of_ble_eq_true rfl⟩ dL_law_151 ?_
    refine r_eqi (show ((fFits n R k cs true (1 : Int32) (nI (hd 1))) : Int32) = 1 from (ff_v (x := 1) (by omega) (hh 1 (by omega)).1 (hh 1 (by omega)).2).trans (by rw [fa_true hft hst (x := 1) (by omega)]; rfl)) ?_
    refine lv_iconst (v := 1) X.1 X.2.1 dL_law_154 (by decide) ?_
    refine lv_icmp_eq (tgt := 160) X.1 X.2.1 dL_law_155 (by decide) (fun c_155 => ?_) (fun c_155 => absurd (by decide) c_155)
    refine lv_aload_n X.1 X.2.1 dL_law_160 rfl (lv_at hl 6 rfl) ?_
    refine lv_bipush (v := 111) X.1 X.2.1 dL_law_161 (by decide) ?_
    refine lv_iconst (v := 2) X.1 X.2.1 dL_law_163 (by decide) ?_
    refine on_Si (run_S (As := [.ref b, .int 111, .int 2]) (rest := []) X (c_L_cell l G hp_18 b L xs hL 111 2 (by decide) (by decide) (by decide)) (rx_blind _) (rx_at X hW.1 hW.2.2 hX hXl hXA) mf_L_cell tw_331 tw_332 ⟨rfl, rfl, Nat.le_of_ble_eq_true rfl, Nat.le_of_ble_eq_true rfl⟩ hl.1 rfl rfl (Nat.le_of_ble_eq_true rfl) ⟨Nat.le_of_ble_eq_true rfl, Nat.le_of_ble_eq_true rfl⟩ dL_law_164) (fun r_164 q_164 => ?_)
    obtain rfl : r_164 = (nI (ceF L xs 111 2)) := q_164
    obtain ⟨z_167, ez_167⟩ : ∃ z : Nat, z = (ceF L xs 111 2) := ⟨_, rfl⟩
    refine r_eqi (show nI (ceF L xs 111 2) = nI z_167 from by rw [ez_167]) ?_
    have lz_167 : z_167 < 2 := by rw [ez_167]; exact ceF_lt _ _ _ (by decide)
    refine lv_istore (lv' := [(7, .int (nI z_167)), (6, .int 1), (5, .int (nI k)), (4, .ref ca), (3, .int (nI n)), (2, .ref ra), (1, .ref b6), (0, .ref b)]) X.1 X.2.1 dL_law_167 hl (by decide) rfl (fun ls hl => ?_)
    refine lv_aload_n X.1 X.2.1 dL_law_169 rfl (lv_at hl 6 rfl) ?_
    refine lv_aload_n X.1 X.2.1 dL_law_170 rfl (lv_at hl 5 rfl) ?_
    refine lv_iload_n X.1 X.2.1 dL_law_171 rfl (lv_at hl 4 rfl) ?_
    refine lv_aload X.1 X.2.1 dL_law_172 (lv_at hl 3 rfl) ?_
    refine lv_iload X.1 X.2.1 dL_law_174 (lv_at hl 2 rfl) ?_
    refine lv_iload X.1 X.2.1 dL_law_176 (lv_at hl 1 rfl) ?_
    refine lv_iload X.1 X.2.1 dL_law_178 (lv_at hl 0 rfl) ?_
    refine lv_aload_n X.1 X.2.1 dL_law_180 rfl (lv_at hl 6 rfl) ?_
    refine lv_iconst (v := 1) X.1 X.2.1 dL_law_181 (by decide) ?_
    refine lv_iload X.1 X.2.1 dL_law_182 (lv_at hl 0 rfl) ?_
    refine lv_isub X.1 X.2.1 dL_law_184 ?_
    refine r_eqi (show (((1 : Int32) - (nI z_167)) : Int32) = nI (1 - z_167) from pk_sub (a := 1) (b := z_167) (by omega)) ?_
    refine lv_iconst (v := 0) X.1 X.2.1 dL_law_185 (by decide) ?_
    refine lc_ri (z := (n, R, hd, k, cs, true, 0, (fun _ => 0))) (As := [.int (nI (1 - z_167)), .int 0]) (rest := [.int (nI z_167), .int 1, .int (nI k), .ref ca, .int (nI n), .ref ra, .ref b6]) X hW.1 hW.2.2 hC (fun hp9 hz9 => c_X6_hand l G hp9 b6 n R hd k cs true 0 (fun _ => 0) hz9 (nI (1 - z_167)) (0 : Int32)) mf_X6_hand tw_182 tw_183 tw_184 ⟨rfl, rfl, Nat.le_of_ble_eq_true rfl, Nat.le_of_ble_eq_true rfl⟩ hl.1 rfl rfl (Nat.le_of_ble_eq_true rfl) ⟨Nat.le_of_ble_eq_true rfl, Nat.le_of_ble_eq_true rfl⟩ dL_law_186 ?_
    refine r_eqi (show ((fHand hd (nI (1 - z_167)) (0 : Int32)) : Int32) = nI (hd (1 - z_167)) from fh_0 (x := (1 - z_167)) (by omega)) ?_
    refine on_Wi (k' := 70) (n' := 1033) (run_S (As := [.ref b6, .ref ra, .int (nI n), .ref ca, .int (nI k), .int 1, .int (nI z_167), .int (nI (hd (1 - z_167)))]) (rest := []) X (c_L_isTold l G A hp_18 _ (fun q h => hA q (Nat.le_trans hW.2.2.1 h)) hW.2.1 b6 ra ca n R hd k cs true 0 (fun _ => 0) g gc hC fra fca hg hcg hh z_167 (by omega) (hd (1 - z_167)) (hh (1 - z_167) (by omega)).1) (wp_blind _) (wp_at X hW.1 hW.2.2) mf_L_isTold tw_525 tw_526 ⟨rfl, rfl, Nat.le_of_ble_eq_true rfl, Nat.le_of_ble_eq_true rfl⟩ hl.1 rfl rfl (Nat.le_of_ble_eq_true rfl) ⟨Nat.le_of_ble_eq_true rfl, Nat.le_of_ble_eq_true rfl⟩ dL_law_189) hW (by omega) (by omega) (fun r_189 hp_19 H locs q_189 hW => ?_)
    obtain ⟨er, hkp⟩ := q_189
    subst er
    replace hC := cp_sub hC hkp (fun _ h => h)
    have fra := hkp _ _ fra
    have fca := hkp _ _ fca
    refine lv_if_ne (tgt := 197) X.1 X.2.1 dL_law_192 (by decide) (fun c_192 => ?_) (fun c_192 => absurd c_192 (by decide))
    refine lv_iload X.1 X.2.1 dL_law_197 (lv_at hl 1 rfl) ?_
    refine lv_if_eq (tgt := 221) X.1 X.2.1 dL_law_199 (by decide) (fun c_199 => absurd c_199 (by decide)) (fun c_199 => ?_)
    refine lv_aload_n X.1 X.2.1 dL_law_202 rfl (lv_at hl 6 rfl) ?_
    refine lc_wi (z := (n, R, hd, k, cs, true, 0, (fun _ => 0))) (As := []) (rest := []) X hA hW hC (fun r hp1 h => h) (fun A9 hp9 hA9 hO9 hz9 => c_X6_back l G A9 hp9 _ hA9 hO9 b6 n R hd k cs true 0 (fun _ => 0) hz9 ) mf_X6_back tw_209 tw_210 tw_211 ⟨rfl, rfl, Nat.le_of_ble_eq_true rfl, Nat.le_of_ble_eq_true rfl⟩ hl.1 rfl rfl (Nat.le_of_ble_eq_true rfl) ⟨Nat.le_of_ble_eq_true rfl, Nat.le_of_ble_eq_true rfl⟩ dL_law_203 (fun hp_20 H locs hW hC hK => ?_)
    refine w_wid (k' := 70) (n' := 1033) (by omega) (by omega) ?_
    have f_21 : hp_20 ra = some (.inl (G.2.1 1, 48, .inl g)) := (hK ra (by simp)).trans fra
    have f_22 : hp_20 ca = some (.inl (G.2.1 1, 52, .inl gc)) := (hK ca (by simp)).trans fca
    obtain ⟨hf9, hg9⟩ := bw_1 (n := n) (R := R) (hd := hd) (k := k) (cs := cs) (pn := 0) (pt := (fun _ => 0))
    rw [hg9] at hC
    refine r_eqi (show ((fBack (n, R, hd, k, cs, true, 0, (fun _ => 0))) : Int32) = nI k from hf9) ?_
    refine lv_iload X.1 X.2.1 dL_law_206 (lv_at hl 2 rfl) ?_
    refine lv_icmp_ne (tgt := 219) X.1 X.2.1 dL_law_208 (by decide) (fun c_208 => absurd rfl c_208) (fun c_208 => ?_)
    refine lv_aload_n X.1 X.2.1 dL_law_211 rfl (lv_at hl 6 rfl) ?_
    refine lv_iconst (v := 5) X.1 X.2.1 dL_law_212 (by decide) ?_
    refine lc_ri (z := (n, R, hd, k, cs, false, 0, (fun _ => 0))) (As := [.int 5]) (rest := []) X hW.1 hW.2.2 hC (fun hp9 hz9 => c_X6_state l G hp9 b6 n R hd k cs false 0 (fun _ => 0) hz9 (5 : Int32)) mf_X6_state tw_248 tw_249 tw_250 ⟨rfl, rfl, Nat.le_of_ble_eq_true rfl, Nat.le_of_ble_eq_true rfl⟩ hl.1 rfl rfl (Nat.le_of_ble_eq_true rfl) ⟨Nat.le_of_ble_eq_true rfl, Nat.le_of_ble_eq_true rfl⟩ dL_law_213 ?_
    refine r_eqi (show ((fState n k cs false 0 (5 : Int32)) : Int32) = 0 from by rw [fs_5, (hst rfl).2]; rfl) ?_
    refine lv_if_eq (tgt := 221) X.1 X.2.1 dL_law_216 (by decide) (fun c_216 => ?_) (fun c_216 => absurd (by decide) c_216)
    refine lv_iload X.1 X.2.1 dL_law_221 (lv_at hl 2 rfl) ?_
    refine lv_if_le (tgt := 267) X.1 X.2.1 dL_law_223 (by decide) (fun c_223 => ?_) (fun c_223 => ?_)
    · have k_223 := k_le (a := k) (b := 0) (by omega) (by omega) c_223
      refine lv_aload_n X.1 X.2.1 dL_law_267 rfl (lv_at hl 6 rfl) ?_
      refine lv_aload_n X.1 X.2.1 dL_law_268 rfl (lv_at hl 7 rfl) ?_
      refine lv_bipush (v := 113) X.1 X.2.1 dL_law_269 (by decide) ?_
      refine lv_iconst (v := 5) X.1 X.2.1 dL_law_271 (by decide) ?_
      refine on_Si (run_S (As := [.ref b, .int 113, .int 5]) (rest := [.ref b6]) X (c_L_cell l G hp_20 b L xs hL 113 5 (by decide) (by decide) (by decide)) (rx_blind _) (rx_at X hW.1 hW.2.2 hX hXl hXA) mf_L_cell tw_331 tw_332 ⟨rfl, rfl, Nat.le_of_ble_eq_true rfl, Nat.le_of_ble_eq_true rfl⟩ hl.1 rfl rfl (Nat.le_of_ble_eq_true rfl) ⟨Nat.le_of_ble_eq_true rfl, Nat.le_of_ble_eq_true rfl⟩ dL_law_272) (fun r_272 q_272 => ?_)
      obtain rfl : r_272 = (nI (ceF L xs 113 5)) := q_272
      refine lv_aload_n X.1 X.2.1 dL_law_275 rfl (lv_at hl 6 rfl) ?_
      refine lv_iconst (v := 0) X.1 X.2.1 dL_law_276 (by decide) ?_
      refine lv_iconst (v := 0) X.1 X.2.1 dL_law_277 (by decide) ?_
      refine lc_ri (z := (n, R, hd, k, cs, false, 0, (fun _ => 0))) (As := [.int 0, .int 0]) (rest := [.int (nI (ceF L xs 113 5)), .ref b6]) X hW.1 hW.2.2 hC (fun hp9 hz9 => c_X6_hand l G hp9 b6 n R hd k cs false 0 (fun _ => 0) hz9 (0 : Int32) (0 : Int32)) mf_X6_hand tw_182 tw_183 tw_184 ⟨rfl, rfl, Nat.le_of_ble_eq_true rfl, Nat.le_of_ble_eq_true rfl⟩ hl.1 rfl rfl (Nat.le_of_ble_eq_true rfl) ⟨Nat.le_of_ble_eq_true rfl, Nat.le_of_ble_eq_true rfl⟩ dL_law_278 ?_
      refine r_eqi (show ((fHand hd (0 : Int32) (0 : Int32)) : Int32) = nI (hd 0) from fh_0 (x := 0) (by omega)) ?_
      refine lv_aload_n X.1 X.2.1 dL_law_281 rfl (lv_at hl 6 rfl) ?_
      refine lv_iconst (v := 1) X.1 X.2.1 dL_law_282 (by decide) ?_
      refine lv_iconst (v := 0) X.1 X.2.1 dL_law_283 (by decide) ?_
      refine lc_ri (z := (n, R, hd, k, cs, false, 0, (fun _ => 0))) (As := [.int 1, .int 0]) (rest := [.int (nI (hd 0)), .int (nI (ceF L xs 113 5)), .ref b6]) X hW.1 hW.2.2 hC (fun hp9 hz9 => c_X6_hand l G hp9 b6 n R hd k cs false 0 (fun _ => 0) hz9 (1 : Int32) (0 : Int32)) mf_X6_hand tw_182 tw_183 tw_184 ⟨rfl, rfl, Nat.le_of_ble_eq_true rfl, Nat.le_of_ble_eq_true rfl⟩ hl.1 rfl rfl (Nat.le_of_ble_eq_true rfl) ⟨Nat.le_of_ble_eq_true rfl, Nat.le_of_ble_eq_true rfl⟩ dL_law_284 ?_
      refine r_eqi (show ((fHand hd (1 : Int32) (0 : Int32)) : Int32) = nI (hd 1) from fh_0 (x := 1) (by omega)) ?_
      refine lc_ri (z := (n, R, hd, k, cs, false, 0, (fun _ => 0))) (As := [.int (nI (ceF L xs 113 5)), .int (nI (hd 0)), .int (nI (hd 1))]) (rest := []) X hW.1 hW.2.2 hC (fun hp9 hz9 => c_X6_tricks l G hp9 b6 n R hd k cs false 0 (fun _ => 0) hz9 (nI (ceF L xs 113 5)) (nI (hd 0)) (nI (hd 1))) mf_X6_tricks tw_309 tw_310 tw_311 ⟨rfl, rfl, Nat.le_of_ble_eq_true rfl, Nat.le_of_ble_eq_true rfl⟩ hl.1 rfl rfl (Nat.le_of_ble_eq_true rfl) ⟨Nat.le_of_ble_eq_true rfl, Nat.le_of_ble_eq_true rfl⟩ dL_law_287 ?_
      refine r_eqi (show ((fTricks (nI (ceF L xs 113 5)) (nI (hd 0)) (nI (hd 1))) : Int32) = nI (trN (ceF L xs 113 5) (hd 0) (hd 1)) from ft_v (ceF_lt _ _ _ (by decide)) (hh 0 (by omega)).1 (hh 1 (by omega)).1 (hh 0 (by omega)).2 (hh 1 (by omega)).2 hdis) ?_
      refine lv_aload_n X.1 X.2.1 dL_law_290 rfl (lv_at hl 7 rfl) ?_
      refine lv_bipush (v := 113) X.1 X.2.1 dL_law_291 (by decide) ?_
      refine lv_iconst (v := 5) X.1 X.2.1 dL_law_293 (by decide) ?_
      refine on_Si (run_S (As := [.ref b, .int 113, .int 5]) (rest := [.int (nI (trN (ceF L xs 113 5) (hd 0) (hd 1)))]) X (c_L_cell l G hp_20 b L xs hL 113 5 (by decide) (by decide) (by decide)) (rx_blind _) (rx_at X hW.1 hW.2.2 hX hXl hXA) mf_L_cell tw_331 tw_332 ⟨rfl, rfl, Nat.le_of_ble_eq_true rfl, Nat.le_of_ble_eq_true rfl⟩ hl.1 rfl rfl (Nat.le_of_ble_eq_true rfl) ⟨Nat.le_of_ble_eq_true rfl, Nat.le_of_ble_eq_true rfl⟩ dL_law_294) (fun r_294 q_294 => ?_)
      obtain rfl : r_294 = (nI (ceF L xs 113 5)) := q_294
      refine lv_aload_n X.1 X.2.1 dL_law_297 rfl (lv_at hl 6 rfl) ?_
      refine lv_iconst (v := 0) X.1 X.2.1 dL_law_298 (by decide) ?_
      refine lv_iconst (v := 0) X.1 X.2.1 dL_law_299 (by decide) ?_
      refine lc_ri (z := (n, R, hd, k, cs, false, 0, (fun _ => 0))) (As := [.int 0, .int 0]) (rest := [.int (nI (ceF L xs 113 5)), .int (nI (trN (ceF L xs 113 5) (hd 0) (hd 1)))]) X hW.1 hW.2.2 hC (fun hp9 hz9 => c_X6_hand l G hp9 b6 n R hd k cs false 0 (fun _ => 0) hz9 (0 : Int32) (0 : Int32)) mf_X6_hand tw_182 tw_183 tw_184 ⟨rfl, rfl, Nat.le_of_ble_eq_true rfl, Nat.le_of_ble_eq_true rfl⟩ hl.1 rfl rfl (Nat.le_of_ble_eq_true rfl) ⟨Nat.le_of_ble_eq_true rfl, Nat.le_of_ble_eq_true rfl⟩ dL_law_300 ?_
      refine r_eqi (show ((fHand hd (0 : Int32) (0 : Int32)) : Int32) = nI (hd 0) from fh_0 (x := 0) (by omega)) ?_
      refine lv_aload_n X.1 X.2.1 dL_law_303 rfl (lv_at hl 6 rfl) ?_
      refine lv_iconst (v := 1) X.1 X.2.1 dL_law_304 (by decide) ?_
      refine lv_iconst (v := 0) X.1 X.2.1 dL_law_305 (by decide) ?_
      refine lc_ri (z := (n, R, hd, k, cs, false, 0, (fun _ => 0))) (As := [.int 1, .int 0]) (rest := [.int (nI (hd 0)), .int (nI (ceF L xs 113 5)), .int (nI (trN (ceF L xs 113 5) (hd 0) (hd 1)))]) X hW.1 hW.2.2 hC (fun hp9 hz9 => c_X6_hand l G hp9 b6 n R hd k cs false 0 (fun _ => 0) hz9 (1 : Int32) (0 : Int32)) mf_X6_hand tw_182 tw_183 tw_184 ⟨rfl, rfl, Nat.le_of_ble_eq_true rfl, Nat.le_of_ble_eq_true rfl⟩ hl.1 rfl rfl (Nat.le_of_ble_eq_true rfl) ⟨Nat.le_of_ble_eq_true rfl, Nat.le_of_ble_eq_true rfl⟩ dL_law_306 ?_
      refine r_eqi (show ((fHand hd (1 : Int32) (0 : Int32)) : Int32) = nI (hd 1) from fh_0 (x := 1) (by omega)) ?_
      refine on_Si (run_S (As := [.int (nI (ceF L xs 113 5)), .int (nI (hd 0)), .int (nI (hd 1))]) (rest := [.int (nI (trN (ceF L xs 113 5) (hd 0) (hd 1)))]) X (c_L_tricks l G hp_20 (ceF L xs 113 5) (hd 0) (hd 1) (ceF_lt _ _ _ (by decide)) (hh 0 (by omega)).1 (hh 1 (by omega)).1) (rp_blind _) (rp_at X hW.1 hW.2.2) mf_L_tricks tw_519 tw_520 ⟨rfl, rfl, Nat.le_of_ble_eq_true rfl, Nat.le_of_ble_eq_true rfl⟩ hl.1 rfl rfl (Nat.le_of_ble_eq_true rfl) ⟨Nat.le_of_ble_eq_true rfl, Nat.le_of_ble_eq_true rfl⟩ dL_law_309) (fun r_309 q_309 => ?_)
      obtain rfl : r_309 = (nI (trN (ceF L xs 113 5) (hd 0) (hd 1))) := q_309
      refine lv_icmp_ne (tgt := 319) X.1 X.2.1 dL_law_312 (by decide) (fun c_312 => absurd rfl c_312) (fun c_312 => ?_)
      refine lv_iconst (v := 1) X.1 X.2.1 dL_law_315 (by decide) ?_
      refine lv_goto (tgt := 320) X.1 X.2.1 dL_law_316 (by decide) ?_
      refine va_forget (fun q hq => hAs _ (hW.2.2.2.2 q hq)) ?_
      exact W.widen (Nat.le_of_ble_eq_true rfl) (Nat.le_of_ble_eq_true rfl) (lw_ret X.1 X.2.1 hr hlk dL_law_320)
    · have k_223 := k_nle (a := k) (b := 0) (by omega) (by omega) c_223
      refine lv_aload_n X.1 X.2.1 dL_law_226 rfl (lv_at hl 6 rfl) ?_
      refine lc_wi (z := (n, R, hd, k, cs, false, 0, (fun _ => 0))) (As := []) (rest := []) X hA hW hC (fun r hp1 h => h) (fun A9 hp9 hA9 hO9 hz9 => c_X6_back l G A9 hp9 _ hA9 hO9 b6 n R hd k cs false 0 (fun _ => 0) hz9 ) mf_X6_back tw_209 tw_210 tw_211 ⟨rfl, rfl, Nat.le_of_ble_eq_true rfl, Nat.le_of_ble_eq_true rfl⟩ hl.1 rfl rfl (Nat.le_of_ble_eq_true rfl) ⟨Nat.le_of_ble_eq_true rfl, Nat.le_of_ble_eq_true rfl⟩ dL_law_227 (fun hp_23 H locs hW hC hK => ?_)
      refine w_wid (k' := 70) (n' := 1033) (by omega) (by omega) ?_
      have f_24 : hp_23 ra = some (.inl (G.2.1 1, 48, .inl g)) := (hK ra (by simp)).trans f_21
      have f_25 : hp_23 ca = some (.inl (G.2.1 1, 52, .inl gc)) := (hK ca (by simp)).trans f_22
      obtain ⟨hf9, hg9⟩ := bw_2 (n := n) (R := R) (hd := hd) (cs := cs) (pn := 0) (pt := (fun _ => 0)) (k := k) k_223
      rw [hg9] at hC
      refine r_eqi (show ((fBack (n, R, hd, k, cs, false, 0, (fun _ => 0))) : Int32) = nI (k - 1) from hf9) ?_
      refine lv_iload X.1 X.2.1 dL_law_230 (lv_at hl 2 rfl) ?_
      refine lv_iconst (v := 1) X.1 X.2.1 dL_law_232 (by decide) ?_
      refine lv_isub X.1 X.2.1 dL_law_233 ?_
      refine r_eqi (show (((nI k) - 1) : Int32) = nI (k - 1) from pk_sub (a := k) (b := 1) (by omega)) ?_
      refine lv_icmp_ne (tgt := 265) X.1 X.2.1 dL_law_234 (by decide) (fun c_234 => absurd rfl c_234) (fun c_234 => ?_)
      refine lv_aload_n X.1 X.2.1 dL_law_237 rfl (lv_at hl 6 rfl) ?_
      refine lv_aload_n X.1 X.2.1 dL_law_238 rfl (lv_at hl 5 rfl) ?_
      refine lv_iload_n X.1 X.2.1 dL_law_239 rfl (lv_at hl 4 rfl) ?_
      refine lv_aload X.1 X.2.1 dL_law_240 (lv_at hl 3 rfl) ?_
      refine lv_iload X.1 X.2.1 dL_law_242 (lv_at hl 2 rfl) ?_
      refine lv_iconst (v := 1) X.1 X.2.1 dL_law_244 (by decide) ?_
      refine lv_isub X.1 X.2.1 dL_law_245 ?_
      refine r_eqi (show (((nI k) - 1) : Int32) = nI (k - 1) from pk_sub (a := k) (b := 1) (by omega)) ?_
      refine lv_iconst (v := 0) X.1 X.2.1 dL_law_246 (by decide) ?_
      refine lv_iconst (v := 1) X.1 X.2.1 dL_law_247 (by decide) ?_
      refine lv_iload X.1 X.2.1 dL_law_248 (lv_at hl 0 rfl) ?_
      refine lv_isub X.1 X.2.1 dL_law_250 ?_
      refine r_eqi (show (((1 : Int32) - (nI z_167)) : Int32) = nI (1 - z_167) from pk_sub (a := 1) (b := z_167) (by omega)) ?_
      refine lv_aload_n X.1 X.2.1 dL_law_251 rfl (lv_at hl 7 rfl) ?_
      refine lv_bipush (v := 112) X.1 X.2.1 dL_law_252 (by decide) ?_
      refine r_const X tw_529 dL_law_254 ?_
      refine on_Si (run_S (As := [.ref b, .int 112, .int 1048576]) (rest := [.int (nI (1 - z_167)), .int 0, .int (nI (k - 1)), .ref ca, .int (nI n), .ref ra, .ref b6]) X (c_L_cell l G hp_23 b L xs hL 112 1048576 (by decide) (by decide) (by decide)) (rx_blind _) (rx_at X hW.1 hW.2.2 hX hXl hXA) mf_L_cell tw_331 tw_332 ⟨rfl, rfl, Nat.le_of_ble_eq_true rfl, Nat.le_of_ble_eq_true rfl⟩ hl.1 rfl rfl (Nat.le_of_ble_eq_true rfl) ⟨Nat.le_of_ble_eq_true rfl, Nat.le_of_ble_eq_true rfl⟩ dL_law_256) (fun r_256 q_256 => ?_)
      obtain rfl : r_256 = (nI (ceF L xs 112 1048576)) := q_256
      refine on_Wi (k' := 73) (n' := 1048) (run_S (As := [.ref b6, .ref ra, .int (nI n), .ref ca, .int (nI (k - 1)), .int 0, .int (nI (1 - z_167)), .int (nI (ceF L xs 112 1048576))]) (rest := []) X (c_L_isTold l G A hp_23 _ (fun q h => hA q (Nat.le_trans hW.2.2.1 h)) hW.2.1 b6 ra ca n R hd (k - 1) cs false 0 (fun _ => 0) g gc hC f_24 f_25 hg (cg_back hcg) hh (1 - z_167) (by omega) (ceF L xs 112 1048576) (Nat.le_of_lt_succ (ceF_lt L xs 112 (by decide)))) (wp_blind _) (wp_at X hW.1 hW.2.2) mf_L_isTold tw_525 tw_526 ⟨rfl, rfl, Nat.le_of_ble_eq_true rfl, Nat.le_of_ble_eq_true rfl⟩ hl.1 rfl rfl (Nat.le_of_ble_eq_true rfl) ⟨Nat.le_of_ble_eq_true rfl, Nat.le_of_ble_eq_true rfl⟩ dL_law_259) hW (by omega) (by omega) (fun r_259 hp_26 H locs q_259 hW => ?_)
      obtain ⟨er, hkp⟩ := q_259
      subst er
      replace hC := cp_sub hC hkp (fun _ h => h)
      have fra := hkp _ _ f_24
      have fca := hkp _ _ f_25
      refine lv_if_ne (tgt := 267) X.1 X.2.1 dL_law_262 (by decide) (fun c_262 => ?_) (fun c_262 => absurd c_262 (by decide))
      refine lv_aload_n X.1 X.2.1 dL_law_267 rfl (lv_at hl 6 rfl) ?_
      refine lv_aload_n X.1 X.2.1 dL_law_268 rfl (lv_at hl 7 rfl) ?_
      refine lv_bipush (v := 113) X.1 X.2.1 dL_law_269 (by decide) ?_
      refine lv_iconst (v := 5) X.1 X.2.1 dL_law_271 (by decide) ?_
      refine on_Si (run_S (As := [.ref b, .int 113, .int 5]) (rest := [.ref b6]) X (c_L_cell l G hp_26 b L xs hL 113 5 (by decide) (by decide) (by decide)) (rx_blind _) (rx_at X hW.1 hW.2.2 hX hXl hXA) mf_L_cell tw_331 tw_332 ⟨rfl, rfl, Nat.le_of_ble_eq_true rfl, Nat.le_of_ble_eq_true rfl⟩ hl.1 rfl rfl (Nat.le_of_ble_eq_true rfl) ⟨Nat.le_of_ble_eq_true rfl, Nat.le_of_ble_eq_true rfl⟩ dL_law_272) (fun r_272 q_272 => ?_)
      obtain rfl : r_272 = (nI (ceF L xs 113 5)) := q_272
      refine lv_aload_n X.1 X.2.1 dL_law_275 rfl (lv_at hl 6 rfl) ?_
      refine lv_iconst (v := 0) X.1 X.2.1 dL_law_276 (by decide) ?_
      refine lv_iconst (v := 0) X.1 X.2.1 dL_law_277 (by decide) ?_
      refine lc_ri (z := (n, R, hd, (k - 1), cs, false, 0, (fun _ => 0))) (As := [.int 0, .int 0]) (rest := [.int (nI (ceF L xs 113 5)), .ref b6]) X hW.1 hW.2.2 hC (fun hp9 hz9 => c_X6_hand l G hp9 b6 n R hd (k - 1) cs false 0 (fun _ => 0) hz9 (0 : Int32) (0 : Int32)) mf_X6_hand tw_182 tw_183 tw_184 ⟨rfl, rfl, Nat.le_of_ble_eq_true rfl, Nat.le_of_ble_eq_true rfl⟩ hl.1 rfl rfl (Nat.le_of_ble_eq_true rfl) ⟨Nat.le_of_ble_eq_true rfl, Nat.le_of_ble_eq_true rfl⟩ dL_law_278 ?_
      refine r_eqi (show ((fHand hd (0 : Int32) (0 : Int32)) : Int32) = nI (hd 0) from fh_0 (x := 0) (by omega)) ?_
      refine lv_aload_n X.1 X.2.1 dL_law_281 rfl (lv_at hl 6 rfl) ?_
      refine lv_iconst (v := 1) X.1 X.2.1 dL_law_282 (by decide) ?_
      refine lv_iconst (v := 0) X.1 X.2.1 dL_law_283 (by decide) ?_
      refine lc_ri (z := (n, R, hd, (k - 1), cs, false, 0, (fun _ => 0))) (As := [.int 1, .int 0]) (rest := [.int (nI (hd 0)), .int (nI (ceF L xs 113 5)), .ref b6]) X hW.1 hW.2.2 hC (fun hp9 hz9 => c_X6_hand l G hp9 b6 n R hd (k - 1) cs false 0 (fun _ => 0) hz9 (1 : Int32) (0 : Int32)) mf_X6_hand tw_182 tw_183 tw_184 ⟨rfl, rfl, Nat.le_of_ble_eq_true rfl, Nat.le_of_ble_eq_true rfl⟩ hl.1 rfl rfl (Nat.le_of_ble_eq_true rfl) ⟨Nat.le_of_ble_eq_true rfl, Nat.le_of_ble_eq_true rfl⟩ dL_law_284 ?_
      refine r_eqi (show ((fHand hd (1 : Int32) (0 : Int32)) : Int32) = nI (hd 1) from fh_0 (x := 1) (by omega)) ?_
      refine lc_ri (z := (n, R, hd, (k - 1), cs, false, 0, (fun _ => 0))) (As := [.int (nI (ceF L xs 113 5)), .int (nI (hd 0)), .int (nI (hd 1))]) (rest := []) X hW.1 hW.2.2 hC (fun hp9 hz9 => c_X6_tricks l G hp9 b6 n R hd (k - 1) cs false 0 (fun _ => 0) hz9 (nI (ceF L xs 113 5)) (nI (hd 0)) (nI (hd 1))) mf_X6_tricks tw_309 tw_310 tw_311 ⟨rfl, rfl, Nat.le_of_ble_eq_true rfl, Nat.le_of_ble_eq_true rfl⟩ hl.1 rfl rfl (Nat.le_of_ble_eq_true rfl) ⟨Nat.le_of_ble_eq_true rfl, Nat.le_of_ble_eq_true rfl⟩ dL_law_287 ?_
      refine r_eqi (show ((fTricks (nI (ceF L xs 113 5)) (nI (hd 0)) (nI (hd 1))) : Int32) = nI (trN (ceF L xs 113 5) (hd 0) (hd 1)) from ft_v (ceF_lt _ _ _ (by decide)) (hh 0 (by omega)).1 (hh 1 (by omega)).1 (hh 0 (by omega)).2 (hh 1 (by omega)).2 hdis) ?_
      refine lv_aload_n X.1 X.2.1 dL_law_290 rfl (lv_at hl 7 rfl) ?_
      refine lv_bipush (v := 113) X.1 X.2.1 dL_law_291 (by decide) ?_
      refine lv_iconst (v := 5) X.1 X.2.1 dL_law_293 (by decide) ?_
      refine on_Si (run_S (As := [.ref b, .int 113, .int 5]) (rest := [.int (nI (trN (ceF L xs 113 5) (hd 0) (hd 1)))]) X (c_L_cell l G hp_26 b L xs hL 113 5 (by decide) (by decide) (by decide)) (rx_blind _) (rx_at X hW.1 hW.2.2 hX hXl hXA) mf_L_cell tw_331 tw_332 ⟨rfl, rfl, Nat.le_of_ble_eq_true rfl, Nat.le_of_ble_eq_true rfl⟩ hl.1 rfl rfl (Nat.le_of_ble_eq_true rfl) ⟨Nat.le_of_ble_eq_true rfl, Nat.le_of_ble_eq_true rfl⟩ dL_law_294) (fun r_294 q_294 => ?_)
      obtain rfl : r_294 = (nI (ceF L xs 113 5)) := q_294
      refine lv_aload_n X.1 X.2.1 dL_law_297 rfl (lv_at hl 6 rfl) ?_
      refine lv_iconst (v := 0) X.1 X.2.1 dL_law_298 (by decide) ?_
      refine lv_iconst (v := 0) X.1 X.2.1 dL_law_299 (by decide) ?_
      refine lc_ri (z := (n, R, hd, (k - 1), cs, false, 0, (fun _ => 0))) (As := [.int 0, .int 0]) (rest := [.int (nI (ceF L xs 113 5)), .int (nI (trN (ceF L xs 113 5) (hd 0) (hd 1)))]) X hW.1 hW.2.2 hC (fun hp9 hz9 => c_X6_hand l G hp9 b6 n R hd (k - 1) cs false 0 (fun _ => 0) hz9 (0 : Int32) (0 : Int32)) mf_X6_hand tw_182 tw_183 tw_184 ⟨rfl, rfl, Nat.le_of_ble_eq_true rfl, Nat.le_of_ble_eq_true rfl⟩ hl.1 rfl rfl (Nat.le_of_ble_eq_true rfl) ⟨Nat.le_of_ble_eq_true rfl, Nat.le_of_ble_eq_true rfl⟩ dL_law_300 ?_
      refine r_eqi (show ((fHand hd (0 : Int32) (0 : Int32)) : Int32) = nI (hd 0) from fh_0 (x := 0) (by omega)) ?_
      refine lv_aload_n X.1 X.2.1 dL_law_303 rfl (lv_at hl 6 rfl) ?_
      refine lv_iconst (v := 1) X.1 X.2.1 dL_law_304 (by decide) ?_
      refine lv_iconst (v := 0) X.1 X.2.1 dL_law_305 (by decide) ?_
      refine lc_ri (z := (n, R, hd, (k - 1), cs, false, 0, (fun _ => 0))) (As := [.int 1, .int 0]) (rest := [.int (nI (hd 0)), .int (nI (ceF L xs 113 5)), .int (nI (trN (ceF L xs 113 5) (hd 0) (hd 1)))]) X hW.1 hW.2.2 hC (fun hp9 hz9 => c_X6_hand l G hp9 b6 n R hd (k - 1) cs false 0 (fun _ => 0) hz9 (1 : Int32) (0 : Int32)) mf_X6_hand tw_182 tw_183 tw_184 ⟨rfl, rfl, Nat.le_of_ble_eq_true rfl, Nat.le_of_ble_eq_true rfl⟩ hl.1 rfl rfl (Nat.le_of_ble_eq_true rfl) ⟨Nat.le_of_ble_eq_true rfl, Nat.le_of_ble_eq_true rfl⟩ dL_law_306 ?_
      refine r_eqi (show ((fHand hd (1 : Int32) (0 : Int32)) : Int32) = nI (hd 1) from fh_0 (x := 1) (by omega)) ?_
      refine on_Si (run_S (As := [.int (nI (ceF L xs 113 5)), .int (nI (hd 0)), .int (nI (hd 1))]) (rest := [.int (nI (trN (ceF L xs 113 5) (hd 0) (hd 1)))]) X (c_L_tricks l G hp_26 (ceF L xs 113 5) (hd 0) (hd 1) (ceF_lt _ _ _ (by decide)) (hh 0 (by omega)).1 (hh 1 (by omega)).1) (rp_blind _) (rp_at X hW.1 hW.2.2) mf_L_tricks tw_519 tw_520 ⟨rfl, rfl, Nat.le_of_ble_eq_true rfl, Nat.le_of_ble_eq_true rfl⟩ hl.1 rfl rfl (Nat.le_of_ble_eq_true rfl) ⟨Nat.le_of_ble_eq_true rfl, Nat.le_of_ble_eq_true rfl⟩ dL_law_309) (fun r_309 q_309 => ?_)
      obtain rfl : r_309 = (nI (trN (ceF L xs 113 5) (hd 0) (hd 1))) := q_309
      refine lv_icmp_ne (tgt := 319) X.1 X.2.1 dL_law_312 (by decide) (fun c_312 => absurd rfl c_312) (fun c_312 => ?_)
      refine lv_iconst (v := 1) X.1 X.2.1 dL_law_315 (by decide) ?_
      refine lv_goto (tgt := 320) X.1 X.2.1 dL_law_316 (by decide) ?_
      refine va_forget (fun q hq => hAs _ (hW.2.2.2.2 q hq)) ?_
      exact W.widen (Nat.le_of_ble_eq_true rfl) (Nat.le_of_ble_eq_true rfl) (lw_ret X.1 X.2.1 hr hlk dL_law_320)
  · subst hsk
    refine lv_aload_n X.1 X.2.1 dL_law_112 rfl (lv_at hl 4 rfl) ?_
    refine lv_iconst (v := 5) X.1 X.2.1 dL_law_113 (by decide) ?_
    refine lc_ri (z := (n, R, hd, k, cs, false, 0, (fun _ => 0))) (As := [.int 5]) (rest := []) X hW.1 hW.2.2 hC (fun hp9 hz9 => c_X6_state l G hp9 b6 n R hd k cs false 0 (fun _ => 0) hz9 (5 : Int32)) mf_X6_state tw_248 tw_249 tw_250 ⟨rfl, rfl, Nat.le_of_ble_eq_true rfl, Nat.le_of_ble_eq_true rfl⟩ hl.1 rfl rfl (Nat.le_of_ble_eq_true rfl) ⟨Nat.le_of_ble_eq_true rfl, Nat.le_of_ble_eq_true rfl⟩ dL_law_114 ?_
    refine r_eqi (show ((fState n k cs false 0 (5 : Int32)) : Int32) = bI (ovB k cs false) from fs_5) ?_
    refine lv_iconst (v := 2) X.1 X.2.1 dL_law_117 (by decide) ?_
    refine lv_icmp_ne (tgt := 125) X.1 X.2.1 dL_law_118 (by decide) (fun c_118 => ?_) (fun c_118 => absurd c_118 (by cases ovB k cs false <;> decide))
    refine lv_iconst (v := 0) X.1 X.2.1 dL_law_125 (by decide) ?_
    refine lv_istore (lv' := [(6, .int 0), (5, .int (nI k)), (4, .ref ca), (3, .int (nI n)), (2, .ref ra), (1, .ref b6), (0, .ref b)]) X.1 X.2.1 dL_law_126 hl (by decide) rfl (fun ls hl => ?_)
    refine lv_aload_n X.1 X.2.1 dL_law_128 rfl (lv_at hl 5 rfl) ?_
    refine lv_iconst (v := 0) X.1 X.2.1 dL_law_129 (by decide) ?_
    refine lv_aload_n X.1 X.2.1 dL_law_130 rfl (lv_at hl 5 rfl) ?_
    refine lv_iconst (v := 0) X.1 X.2.1 dL_law_131 (by decide) ?_
    refine lv_iconst (v := 0) X.1 X.2.1 dL_law_132 (by decide) ?_
    refine lc_ri (z := (n, R, hd, k, cs, false, 0, (fun _ => 0))) (As := [.int 0, .int 0]) (rest := [.int 0, .ref b6]) X hW.1 hW.2.2 hC (fun hp9 hz9 => c_X6_hand l G hp9 b6 n R hd k cs false 0 (fun _ => 0) hz9 (0 : Int32) (0 : Int32)) mf_X6_hand tw_182 tw_183 tw_184 ⟨rfl, rfl, Nat.le_of_ble_eq_true rfl, Nat.le_of_ble_eq_true rfl⟩ hl.1 rfl rfl (Nat.le_of_ble_eq_true rfl) ⟨Nat.le_of_ble_eq_true rfl, Nat.le_of_ble_eq_true rfl⟩ dL_law_133 ?_
    refine r_eqi (show ((fHand hd (0 : Int32) (0 : Int32)) : Int32) = nI (hd 0) from fh_0 (x := 0) (by omega)) ?_
    refine lc_ri (z := (n, R, hd, k, cs, false, 0, (fun _ => 0))) (As := [.int 0, .int (nI (hd 0))]) (rest := []) X hW.1 hW.2.2 hC (fun hp9 hz9 => c_X6_fits l G hp9 b6 n R hd k cs false 0 (fun _ => 0) hz9 (0 : Int32) (nI (hd 0))) mf_X6_fits tw_275 tw_276 tw_277 ⟨rfl, rfl, Nat.le_of_ble_eq_true rfl, Nat.le_of_ble_eq_true rfl⟩ hl.1 rfl rfl (Nat.le_of_ble_eq_true rfl) ⟨Nat.le_of_ble_eq_true rfl, Nat.le_of_ble_eq_true rfl⟩ dL_law_136 ?_
    refine r_eqi (show ((fFits n R k cs false (0 : Int32) (nI (hd 0))) : Int32) = 1 from (ff_v (x := 0) (by omega) (hh 0 (by omega)).1 (hh 0 (by omega)).2).trans (by rw [fa_true hft hst (x := 0) (by omega)]; rfl)) ?_
    refine lv_iconst (v := 1) X.1 X.2.1 dL_law_139 (by decide) ?_
    refine lv_icmp_ne (tgt := 158) X.1 X.2.1 dL_law_140 (by decide) (fun c_140 => absurd (by decide) c_140) (fun c_140 => ?_)
    refine lv_aload_n X.1 X.2.1 dL_law_143 rfl (lv_at hl 5 rfl) ?_
    refine lv_iconst (v := 1) X.1 X.2.1 dL_law_144 (by decide) ?_
    refine lv_aload_n X.1 X.2.1 dL_law_145 rfl (lv_at hl 5 rfl) ?_
    refine lv_iconst (v := 1) X.1 X.2.1 dL_law_146 (by decide) ?_
    refine lv_iconst (v := 0) X.1 X.2.1 dL_law_147 (by decide) ?_
    refine lc_ri (z := (n, R, hd, k, cs, false, 0, (fun _ => 0))) (As := [.int 1, .int 0]) (rest := [.int 1, .ref b6]) X hW.1 hW.2.2 hC (fun hp9 hz9 => c_X6_hand l G hp9 b6 n R hd k cs false 0 (fun _ => 0) hz9 (1 : Int32) (0 : Int32)) mf_X6_hand tw_182 tw_183 tw_184 ⟨rfl, rfl, Nat.le_of_ble_eq_true rfl, Nat.le_of_ble_eq_true rfl⟩ hl.1 rfl rfl (Nat.le_of_ble_eq_true rfl) ⟨Nat.le_of_ble_eq_true rfl, Nat.le_of_ble_eq_true rfl⟩ dL_law_148 ?_
    refine r_eqi (show ((fHand hd (1 : Int32) (0 : Int32)) : Int32) = nI (hd 1) from fh_0 (x := 1) (by omega)) ?_
    refine lc_ri (z := (n, R, hd, k, cs, false, 0, (fun _ => 0))) (As := [.int 1, .int (nI (hd 1))]) (rest := []) X hW.1 hW.2.2 hC (fun hp9 hz9 => c_X6_fits l G hp9 b6 n R hd k cs false 0 (fun _ => 0) hz9 (1 : Int32) (nI (hd 1))) mf_X6_fits tw_275 tw_276 tw_277 ⟨rfl, rfl, Nat.le_of_ble_eq_true rfl, Nat.le_of_ble_eq_true rfl⟩ hl.1 rfl rfl (Nat.le_of_ble_eq_true rfl) ⟨Nat.le_of_ble_eq_true rfl, Nat.le_of_ble_eq_true rfl⟩ dL_law_151 ?_
    refine r_eqi (show ((fFits n R k cs false (1 : Int32) (nI (hd 1))) : Int32) = 1 from (ff_v (x := 1) (by omega) (hh 1 (by omega)).1 (hh 1 (by omega)).2).trans (by rw [fa_true hft hst (x := 1) (by omega)]; rfl)) ?_
    refine lv_iconst (v := 1) X.1 X.2.1 dL_law_154 (by decide) ?_
    refine lv_icmp_eq (tgt := 160) X.1 X.2.1 dL_law_155 (by decide) (fun c_155 => ?_) (fun c_155 => absurd (by decide) c_155)
    refine lv_aload_n X.1 X.2.1 dL_law_160 rfl (lv_at hl 6 rfl) ?_
    refine lv_bipush (v := 111) X.1 X.2.1 dL_law_161 (by decide) ?_
    refine lv_iconst (v := 2) X.1 X.2.1 dL_law_163 (by decide) ?_
    refine on_Si (run_S (As := [.ref b, .int 111, .int 2]) (rest := []) X (c_L_cell l G hp_18 b L xs hL 111 2 (by decide) (by decide) (by decide)) (rx_blind _) (rx_at X hW.1 hW.2.2 hX hXl hXA) mf_L_cell tw_331 tw_332 ⟨rfl, rfl, Nat.le_of_ble_eq_true rfl, Nat.le_of_ble_eq_true rfl⟩ hl.1 rfl rfl (Nat.le_of_ble_eq_true rfl) ⟨Nat.le_of_ble_eq_true rfl, Nat.le_of_ble_eq_true rfl⟩ dL_law_164) (fun r_164 q_164 => ?_)
    obtain rfl : r_164 = (nI (ceF L xs 111 2)) := q_164
    obtain ⟨z_167, ez_167⟩ : ∃ z : Nat, z = (ceF L xs 111 2) := ⟨_, rfl⟩
    refine r_eqi (show nI (ceF L xs 111 2) = nI z_167 from by rw [ez_167]) ?_
    have lz_167 : z_167 < 2 := by rw [ez_167]; exact ceF_lt _ _ _ (by decide)
    refine lv_istore (lv' := [(7, .int (nI z_167)), (6, .int 0), (5, .int (nI k)), (4, .ref ca), (3, .int (nI n)), (2, .ref ra), (1, .ref b6), (0, .ref b)]) X.1 X.2.1 dL_law_167 hl (by decide) rfl (fun ls hl => ?_)
    refine lv_aload_n X.1 X.2.1 dL_law_169 rfl (lv_at hl 6 rfl) ?_
    refine lv_aload_n X.1 X.2.1 dL_law_170 rfl (lv_at hl 5 rfl) ?_
    refine lv_iload_n X.1 X.2.1 dL_law_171 rfl (lv_at hl 4 rfl) ?_
    refine lv_aload X.1 X.2.1 dL_law_172 (lv_at hl 3 rfl) ?_
    refine lv_iload X.1 X.2.1 dL_law_174 (lv_at hl 2 rfl) ?_
    refine lv_iload X.1 X.2.1 dL_law_176 (lv_at hl 1 rfl) ?_
    refine lv_iload X.1 X.2.1 dL_law_178 (lv_at hl 0 rfl) ?_
    refine lv_aload_n X.1 X.2.1 dL_law_180 rfl (lv_at hl 6 rfl) ?_
    refine lv_iconst (v := 1) X.1 X.2.1 dL_law_181 (by decide) ?_
    refine lv_iload X.1 X.2.1 dL_law_182 (lv_at hl 0 rfl) ?_
    refine lv_isub X.1 X.2.1 dL_law_184 ?_
    refine r_eqi (show (((1 : Int32) - (nI z_167)) : Int32) = nI (1 - z_167) from pk_sub (a := 1) (b := z_167) (by omega)) ?_
    refine lv_iconst (v := 0) X.1 X.2.1 dL_law_185 (by decide) ?_
    refine lc_ri (z := (n, R, hd, k, cs, false, 0, (fun _ => 0))) (As := [.int (nI (1 - z_167)), .int 0]) (rest := [.int (nI z_167), .int 0, .int (nI k), .ref ca, .int (nI n), .ref ra, .ref b6]) X hW.1 hW.2.2 hC (fun hp9 hz9 => c_X6_hand l G hp9 b6 n R hd k cs false 0 (fun _ => 0) hz9 (nI (1 - z_167)) (0 : Int32)) mf_X6_hand tw_182 tw_183 tw_184 ⟨rfl, rfl, Nat.le_of_ble_eq_true rfl, Nat.le_of_ble_eq_true rfl⟩ hl.1 rfl rfl (Nat.le_of_ble_eq_true rfl) ⟨Nat.le_of_ble_eq_true rfl, Nat.le_of_ble_eq_true rfl⟩ dL_law_186 ?_
    refine r_eqi (show ((fHand hd (nI (1 - z_167)) (0 : Int32)) : Int32) = nI (hd (1 - z_167)) from fh_0 (x := (1 - z_167)) (by omega)) ?_
    refine on_Wi (k' := 70) (n' := 1033) (run_S (As := [.ref b6, .ref ra, .int (nI n), .ref ca, .int (nI k), .int 0, .int (nI z_167), .int (nI (hd (1 - z_167)))]) (rest := []) X (c_L_isTold l G A hp_18 _ (fun q h => hA q (Nat.le_trans hW.2.2.1 h)) hW.2.1 b6 ra ca n R hd k cs false 0 (fun _ => 0) g gc hC fra fca hg hcg hh z_167 (by omega) (hd (1 - z_167)) (hh (1 - z_167) (by omega)).1) (wp_blind _) (wp_at X hW.1 hW.2.2) mf_L_isTold tw_525 tw_526 ⟨rfl, rfl, Nat.le_of_ble_eq_true rfl, Nat.le_of_ble_eq_true rfl⟩ hl.1 rfl rfl (Nat.le_of_ble_eq_true rfl) ⟨Nat.le_of_ble_eq_true rfl, Nat.le_of_ble_eq_true rfl⟩ dL_law_189) hW (by omega) (by omega) (fun r_189 hp_27 H locs q_189 hW => ?_)
    obtain ⟨er, hkp⟩ := q_189
    subst er
    replace hC := cp_sub hC hkp (fun _ h => h)
    have fra := hkp _ _ fra
    have fca := hkp _ _ fca
    refine lv_if_ne (tgt := 197) X.1 X.2.1 dL_law_192 (by decide) (fun c_192 => ?_) (fun c_192 => absurd c_192 (by decide))
    refine lv_iload X.1 X.2.1 dL_law_197 (lv_at hl 1 rfl) ?_
    refine lv_if_eq (tgt := 221) X.1 X.2.1 dL_law_199 (by decide) (fun c_199 => ?_) (fun c_199 => absurd (by decide) c_199)
    refine lv_iload X.1 X.2.1 dL_law_221 (lv_at hl 2 rfl) ?_
    refine lv_if_le (tgt := 267) X.1 X.2.1 dL_law_223 (by decide) (fun c_223 => ?_) (fun c_223 => ?_)
    · have k_223 := k_le (a := k) (b := 0) (by omega) (by omega) c_223
      refine lv_aload_n X.1 X.2.1 dL_law_267 rfl (lv_at hl 6 rfl) ?_
      refine lv_aload_n X.1 X.2.1 dL_law_268 rfl (lv_at hl 7 rfl) ?_
      refine lv_bipush (v := 113) X.1 X.2.1 dL_law_269 (by decide) ?_
      refine lv_iconst (v := 5) X.1 X.2.1 dL_law_271 (by decide) ?_
      refine on_Si (run_S (As := [.ref b, .int 113, .int 5]) (rest := [.ref b6]) X (c_L_cell l G hp_27 b L xs hL 113 5 (by decide) (by decide) (by decide)) (rx_blind _) (rx_at X hW.1 hW.2.2 hX hXl hXA) mf_L_cell tw_331 tw_332 ⟨rfl, rfl, Nat.le_of_ble_eq_true rfl, Nat.le_of_ble_eq_true rfl⟩ hl.1 rfl rfl (Nat.le_of_ble_eq_true rfl) ⟨Nat.le_of_ble_eq_true rfl, Nat.le_of_ble_eq_true rfl⟩ dL_law_272) (fun r_272 q_272 => ?_)
      obtain rfl : r_272 = (nI (ceF L xs 113 5)) := q_272
      refine lv_aload_n X.1 X.2.1 dL_law_275 rfl (lv_at hl 6 rfl) ?_
      refine lv_iconst (v := 0) X.1 X.2.1 dL_law_276 (by decide) ?_
      refine lv_iconst (v := 0) X.1 X.2.1 dL_law_277 (by decide) ?_
      refine lc_ri (z := (n, R, hd, k, cs, false, 0, (fun _ => 0))) (As := [.int 0, .int 0]) (rest := [.int (nI (ceF L xs 113 5)), .ref b6]) X hW.1 hW.2.2 hC (fun hp9 hz9 => c_X6_hand l G hp9 b6 n R hd k cs false 0 (fun _ => 0) hz9 (0 : Int32) (0 : Int32)) mf_X6_hand tw_182 tw_183 tw_184 ⟨rfl, rfl, Nat.le_of_ble_eq_true rfl, Nat.le_of_ble_eq_true rfl⟩ hl.1 rfl rfl (Nat.le_of_ble_eq_true rfl) ⟨Nat.le_of_ble_eq_true rfl, Nat.le_of_ble_eq_true rfl⟩ dL_law_278 ?_
      refine r_eqi (show ((fHand hd (0 : Int32) (0 : Int32)) : Int32) = nI (hd 0) from fh_0 (x := 0) (by omega)) ?_
      refine lv_aload_n X.1 X.2.1 dL_law_281 rfl (lv_at hl 6 rfl) ?_
      refine lv_iconst (v := 1) X.1 X.2.1 dL_law_282 (by decide) ?_
      refine lv_iconst (v := 0) X.1 X.2.1 dL_law_283 (by decide) ?_
      refine lc_ri (z := (n, R, hd, k, cs, false, 0, (fun _ => 0))) (As := [.int 1, .int 0]) (rest := [.int (nI (hd 0)), .int (nI (ceF L xs 113 5)), .ref b6]) X hW.1 hW.2.2 hC (fun hp9 hz9 => c_X6_hand l G hp9 b6 n R hd k cs false 0 (fun _ => 0) hz9 (1 : Int32) (0 : Int32)) mf_X6_hand tw_182 tw_183 tw_184 ⟨rfl, rfl, Nat.le_of_ble_eq_true rfl, Nat.le_of_ble_eq_true rfl⟩ hl.1 rfl rfl (Nat.le_of_ble_eq_true rfl) ⟨Nat.le_of_ble_eq_true rfl, Nat.le_of_ble_eq_true rfl⟩ dL_law_284 ?_
      refine r_eqi (show ((fHand hd (1 : Int32) (0 : Int32)) : Int32) = nI (hd 1) from fh_0 (x := 1) (by omega)) ?_
      refine lc_ri (z := (n, R, hd, k, cs, false, 0, (fun _ => 0))) (As := [.int (nI (ceF L xs 113 5)), .int (nI (hd 0)), .int (nI (hd 1))]) (rest := []) X hW.1 hW.2.2 hC (fun hp9 hz9 => c_X6_tricks l G hp9 b6 n R hd k cs false 0 (fun _ => 0) hz9 (nI (ceF L xs 113 5)) (nI (hd 0)) (nI (hd 1))) mf_X6_tricks tw_309 tw_310 tw_311 ⟨rfl, rfl, Nat.le_of_ble_eq_true rfl, Nat.le_of_ble_eq_true rfl⟩ hl.1 rfl rfl (Nat.le_of_ble_eq_true rfl) ⟨Nat.le_of_ble_eq_true rfl, Nat.le_of_ble_eq_true rfl⟩ dL_law_287 ?_
      refine r_eqi (show ((fTricks (nI (ceF L xs 113 5)) (nI (hd 0)) (nI (hd 1))) : Int32) = nI (trN (ceF L xs 113 5) (hd 0) (hd 1)) from ft_v (ceF_lt _ _ _ (by decide)) (hh 0 (by omega)).1 (hh 1 (by omega)).1 (hh 0 (by omega)).2 (hh 1 (by omega)).2 hdis) ?_
      refine lv_aload_n X.1 X.2.1 dL_law_290 rfl (lv_at hl 7 rfl) ?_
      refine lv_bipush (v := 113) X.1 X.2.1 dL_law_291 (by decide) ?_
      refine lv_iconst (v := 5) X.1 X.2.1 dL_law_293 (by decide) ?_
      refine on_Si (run_S (As := [.ref b, .int 113, .int 5]) (rest := [.int (nI (trN (ceF L xs 113 5) (hd 0) (hd 1)))]) X (c_L_cell l G hp_27 b L xs hL 113 5 (by decide) (by decide) (by decide)) (rx_blind _) (rx_at X hW.1 hW.2.2 hX hXl hXA) mf_L_cell tw_331 tw_332 ⟨rfl, rfl, Nat.le_of_ble_eq_true rfl, Nat.le_of_ble_eq_true rfl⟩ hl.1 rfl rfl (Nat.le_of_ble_eq_true rfl) ⟨Nat.le_of_ble_eq_true rfl, Nat.le_of_ble_eq_true rfl⟩ dL_law_294) (fun r_294 q_294 => ?_)
      obtain rfl : r_294 = (nI (ceF L xs 113 5)) := q_294
      refine lv_aload_n X.1 X.2.1 dL_law_297 rfl (lv_at hl 6 rfl) ?_
      refine lv_iconst (v := 0) X.1 X.2.1 dL_law_298 (by decide) ?_
      refine lv_iconst (v := 0) X.1 X.2.1 dL_law_299 (by decide) ?_
      refine lc_ri (z := (n, R, hd, k, cs, false, 0, (fun _ => 0))) (As := [.int 0, .int 0]) (rest := [.int (nI (ceF L xs 113 5)), .int (nI (trN (ceF L xs 113 5) (hd 0) (hd 1)))]) X hW.1 hW.2.2 hC (fun hp9 hz9 => c_X6_hand l G hp9 b6 n R hd k cs false 0 (fun _ => 0) hz9 (0 : Int32) (0 : Int32)) mf_X6_hand tw_182 tw_183 tw_184 ⟨rfl, rfl, Nat.le_of_ble_eq_true rfl, Nat.le_of_ble_eq_true rfl⟩ hl.1 rfl rfl (Nat.le_of_ble_eq_true rfl) ⟨Nat.le_of_ble_eq_true rfl, Nat.le_of_ble_eq_true rfl⟩ dL_law_300 ?_
      refine r_eqi (show ((fHand hd (0 : Int32) (0 : Int32)) : Int32) = nI (hd 0) from fh_0 (x := 0) (by omega)) ?_
      refine lv_aload_n X.1 X.2.1 dL_law_303 rfl (lv_at hl 6 rfl) ?_
      refine lv_iconst (v := 1) X.1 X.2.1 dL_law_304 (by decide) ?_
      refine lv_iconst (v := 0) X.1 X.2.1 dL_law_305 (by decide) ?_
      refine lc_ri (z := (n, R, hd, k, cs, false, 0, (fun _ => 0))) (As := [.int 1, .int 0]) (rest := [.int (nI (hd 0)), .int (nI (ceF L xs 113 5)), .int (nI (trN (ceF L xs 113 5) (hd 0) (hd 1)))]) X hW.1 hW.2.2 hC (fun hp9 hz9 => c_X6_hand l G hp9 b6 n R hd k cs false 0 (fun _ => 0) hz9 (1 : Int32) (0 : Int32)) mf_X6_hand tw_182 tw_183 tw_184 ⟨rfl, rfl, Nat.le_of_ble_eq_true rfl, Nat.le_of_ble_eq_true rfl⟩ hl.1 rfl rfl (Nat.le_of_ble_eq_true rfl) ⟨Nat.le_of_ble_eq_true rfl, Nat.le_of_ble_eq_true rfl⟩ dL_law_306 ?_
      refine r_eqi (show ((fHand hd (1 : Int32) (0 : Int32)) : Int32) = nI (hd 1) from fh_0 (x := 1) (by omega)) ?_
      refine on_Si (run_S (As := [.int (nI (ceF L xs 113 5)), .int (nI (hd 0)), .int (nI (hd 1))]) (rest := [.int (nI (trN (ceF L xs 113 5) (hd 0) (hd 1)))]) X (c_L_tricks l G hp_27 (ceF L xs 113 5) (hd 0) (hd 1) (ceF_lt _ _ _ (by decide)) (hh 0 (by omega)).1 (hh 1 (by omega)).1) (rp_blind _) (rp_at X hW.1 hW.2.2) mf_L_tricks tw_519 tw_520 ⟨rfl, rfl, Nat.le_of_ble_eq_true rfl, Nat.le_of_ble_eq_true rfl⟩ hl.1 rfl rfl (Nat.le_of_ble_eq_true rfl) ⟨Nat.le_of_ble_eq_true rfl, Nat.le_of_ble_eq_true rfl⟩ dL_law_309) (fun r_309 q_309 => ?_)
      obtain rfl : r_309 = (nI (trN (ceF L xs 113 5) (hd 0) (hd 1))) := q_309
      refine lv_icmp_ne (tgt := 319) X.1 X.2.1 dL_law_312 (by decide) (fun c_312 => absurd rfl c_312) (fun c_312 => ?_)
      refine lv_iconst (v := 1) X.1 X.2.1 dL_law_315 (by decide) ?_
      refine lv_goto (tgt := 320) X.1 X.2.1 dL_law_316 (by decide) ?_
      refine va_forget (fun q hq => hAs _ (hW.2.2.2.2 q hq)) ?_
      exact W.widen (Nat.le_of_ble_eq_true rfl) (Nat.le_of_ble_eq_true rfl) (lw_ret X.1 X.2.1 hr hlk dL_law_320)
    · have k_223 := k_nle (a := k) (b := 0) (by omega) (by omega) c_223
      refine lv_aload_n X.1 X.2.1 dL_law_226 rfl (lv_at hl 6 rfl) ?_
      refine lc_wi (z := (n, R, hd, k, cs, false, 0, (fun _ => 0))) (As := []) (rest := []) X hA hW hC (fun r hp1 h => h) (fun A9 hp9 hA9 hO9 hz9 => c_X6_back l G A9 hp9 _ hA9 hO9 b6 n R hd k cs false 0 (fun _ => 0) hz9 ) mf_X6_back tw_209 tw_210 tw_211 ⟨rfl, rfl, Nat.le_of_ble_eq_true rfl, Nat.le_of_ble_eq_true rfl⟩ hl.1 rfl rfl (Nat.le_of_ble_eq_true rfl) ⟨Nat.le_of_ble_eq_true rfl, Nat.le_of_ble_eq_true rfl⟩ dL_law_227 (fun hp_28 H locs hW hC hK => ?_)
      refine w_wid (k' := 70) (n' := 1033) (by omega) (by omega) ?_
      have f_29 : hp_28 ra = some (.inl (G.2.1 1, 48, .inl g)) := (hK ra (by simp)).trans fra
      have f_30 : hp_28 ca = some (.inl (G.2.1 1, 52, .inl gc)) := (hK ca (by simp)).trans fca
      obtain ⟨hf9, hg9⟩ := bw_2 (n := n) (R := R) (hd := hd) (cs := cs) (pn := 0) (pt := (fun _ => 0)) (k := k) k_223
      rw [hg9] at hC
      refine r_eqi (show ((fBack (n, R, hd, k, cs, false, 0, (fun _ => 0))) : Int32) = nI (k - 1) from hf9) ?_
      refine lv_iload X.1 X.2.1 dL_law_230 (lv_at hl 2 rfl) ?_
      refine lv_iconst (v := 1) X.1 X.2.1 dL_law_232 (by decide) ?_
      refine lv_isub X.1 X.2.1 dL_law_233 ?_
      refine r_eqi (show (((nI k) - 1) : Int32) = nI (k - 1) from pk_sub (a := k) (b := 1) (by omega)) ?_
      refine lv_icmp_ne (tgt := 265) X.1 X.2.1 dL_law_234 (by decide) (fun c_234 => absurd rfl c_234) (fun c_234 => ?_)
      refine lv_aload_n X.1 X.2.1 dL_law_237 rfl (lv_at hl 6 rfl) ?_
      refine lv_aload_n X.1 X.2.1 dL_law_238 rfl (lv_at hl 5 rfl) ?_
      refine lv_iload_n X.1 X.2.1 dL_law_239 rfl (lv_at hl 4 rfl) ?_
      refine lv_aload X.1 X.2.1 dL_law_240 (lv_at hl 3 rfl) ?_
      refine lv_iload X.1 X.2.1 dL_law_242 (lv_at hl 2 rfl) ?_
      refine lv_iconst (v := 1) X.1 X.2.1 dL_law_244 (by decide) ?_
      refine lv_isub X.1 X.2.1 dL_law_245 ?_
      refine r_eqi (show (((nI k) - 1) : Int32) = nI (k - 1) from pk_sub (a := k) (b := 1) (by omega)) ?_
      refine lv_iconst (v := 0) X.1 X.2.1 dL_law_246 (by decide) ?_
      refine lv_iconst (v := 1) X.1 X.2.1 dL_law_247 (by decide) ?_
      refine lv_iload X.1 X.2.1 dL_law_248 (lv_at hl 0 rfl) ?_
      refine lv_isub X.1 X.2.1 dL_law_250 ?_
      refine r_eqi (show (((1 : Int32) - (nI z_167)) : Int32) = nI (1 - z_167) from pk_sub (a := 1) (b := z_167) (by omega)) ?_
      refine lv_aload_n X.1 X.2.1 dL_law_251 rfl (lv_at hl 7 rfl) ?_
      refine lv_bipush (v := 112) X.1 X.2.1 dL_law_252 (by decide) ?_
      refine r_const X tw_529 dL_law_254 ?_
      refine on_Si (run_S (As := [.ref b, .int 112, .int 1048576]) (rest := [.int (nI (1 - z_167)), .int 0, .int (nI (k - 1)), .ref ca, .int (nI n), .ref ra, .ref b6]) X (c_L_cell l G hp_28 b L xs hL 112 1048576 (by decide) (by decide) (by decide)) (rx_blind _) (rx_at X hW.1 hW.2.2 hX hXl hXA) mf_L_cell tw_331 tw_332 ⟨rfl, rfl, Nat.le_of_ble_eq_true rfl, Nat.le_of_ble_eq_true rfl⟩ hl.1 rfl rfl (Nat.le_of_ble_eq_true rfl) ⟨Nat.le_of_ble_eq_true rfl, Nat.le_of_ble_eq_true rfl⟩ dL_law_256) (fun r_256 q_256 => ?_)
      obtain rfl : r_256 = (nI (ceF L xs 112 1048576)) := q_256
      refine on_Wi (k' := 73) (n' := 1048) (run_S (As := [.ref b6, .ref ra, .int (nI n), .ref ca, .int (nI (k - 1)), .int 0, .int (nI (1 - z_167)), .int (nI (ceF L xs 112 1048576))]) (rest := []) X (c_L_isTold l G A hp_28 _ (fun q h => hA q (Nat.le_trans hW.2.2.1 h)) hW.2.1 b6 ra ca n R hd (k - 1) cs false 0 (fun _ => 0) g gc hC f_29 f_30 hg (cg_back hcg) hh (1 - z_167) (by omega) (ceF L xs 112 1048576) (Nat.le_of_lt_succ (ceF_lt L xs 112 (by decide)))) (wp_blind _) (wp_at X hW.1 hW.2.2) mf_L_isTold tw_525 tw_526 ⟨rfl, rfl, Nat.le_of_ble_eq_true rfl, Nat.le_of_ble_eq_true rfl⟩ hl.1 rfl rfl (Nat.le_of_ble_eq_true rfl) ⟨Nat.le_of_ble_eq_true rfl, Nat.le_of_ble_eq_true rfl⟩ dL_law_259) hW (by omega) (by omega) (fun r_259 hp_31 H locs q_259 hW => ?_)
      obtain ⟨er, hkp⟩ := q_259
      subst er
      replace hC := cp_sub hC hkp (fun _ h => h)
      have fra := hkp _ _ f_29
      have fca := hkp _ _ f_30
      refine lv_if_ne (tgt := 267) X.1 X.2.1 dL_law_262 (by decide) (fun c_262 => ?_) (fun c_262 => absurd c_262 (by decide))
      refine lv_aload_n X.1 X.2.1 dL_law_267 rfl (lv_at hl 6 rfl) ?_
      refine lv_aload_n X.1 X.2.1 dL_law_268 rfl (lv_at hl 7 rfl) ?_
      refine lv_bipush (v := 113) X.1 X.2.1 dL_law_269 (by decide) ?_
      refine lv_iconst (v := 5) X.1 X.2.1 dL_law_271 (by decide) ?_
      refine on_Si (run_S (As := [.ref b, .int 113, .int 5]) (rest := [.ref b6]) X (c_L_cell l G hp_31 b L xs hL 113 5 (by decide) (by decide) (by decide)) (rx_blind _) (rx_at X hW.1 hW.2.2 hX hXl hXA) mf_L_cell tw_331 tw_332 ⟨rfl, rfl, Nat.le_of_ble_eq_true rfl, Nat.le_of_ble_eq_true rfl⟩ hl.1 rfl rfl (Nat.le_of_ble_eq_true rfl) ⟨Nat.le_of_ble_eq_true rfl, Nat.le_of_ble_eq_true rfl⟩ dL_law_272) (fun r_272 q_272 => ?_)
      obtain rfl : r_272 = (nI (ceF L xs 113 5)) := q_272
      refine lv_aload_n X.1 X.2.1 dL_law_275 rfl (lv_at hl 6 rfl) ?_
      refine lv_iconst (v := 0) X.1 X.2.1 dL_law_276 (by decide) ?_
      refine lv_iconst (v := 0) X.1 X.2.1 dL_law_277 (by decide) ?_
      refine lc_ri (z := (n, R, hd, (k - 1), cs, false, 0, (fun _ => 0))) (As := [.int 0, .int 0]) (rest := [.int (nI (ceF L xs 113 5)), .ref b6]) X hW.1 hW.2.2 hC (fun hp9 hz9 => c_X6_hand l G hp9 b6 n R hd (k - 1) cs false 0 (fun _ => 0) hz9 (0 : Int32) (0 : Int32)) mf_X6_hand tw_182 tw_183 tw_184 ⟨rfl, rfl, Nat.le_of_ble_eq_true rfl, Nat.le_of_ble_eq_true rfl⟩ hl.1 rfl rfl (Nat.le_of_ble_eq_true rfl) ⟨Nat.le_of_ble_eq_true rfl, Nat.le_of_ble_eq_true rfl⟩ dL_law_278 ?_
      refine r_eqi (show ((fHand hd (0 : Int32) (0 : Int32)) : Int32) = nI (hd 0) from fh_0 (x := 0) (by omega)) ?_
      refine lv_aload_n X.1 X.2.1 dL_law_281 rfl (lv_at hl 6 rfl) ?_
      refine lv_iconst (v := 1) X.1 X.2.1 dL_law_282 (by decide) ?_
      refine lv_iconst (v := 0) X.1 X.2.1 dL_law_283 (by decide) ?_
      refine lc_ri (z := (n, R, hd, (k - 1), cs, false, 0, (fun _ => 0))) (As := [.int 1, .int 0]) (rest := [.int (nI (hd 0)), .int (nI (ceF L xs 113 5)), .ref b6]) X hW.1 hW.2.2 hC (fun hp9 hz9 => c_X6_hand l G hp9 b6 n R hd (k - 1) cs false 0 (fun _ => 0) hz9 (1 : Int32) (0 : Int32)) mf_X6_hand tw_182 tw_183 tw_184 ⟨rfl, rfl, Nat.le_of_ble_eq_true rfl, Nat.le_of_ble_eq_true rfl⟩ hl.1 rfl rfl (Nat.le_of_ble_eq_true rfl) ⟨Nat.le_of_ble_eq_true rfl, Nat.le_of_ble_eq_true rfl⟩ dL_law_284 ?_
      refine r_eqi (show ((fHand hd (1 : Int32) (0 : Int32)) : Int32) = nI (hd 1) from fh_0 (x := 1) (by omega)) ?_
      refine lc_ri (z := (n, R, hd, (k - 1), cs, false, 0, (fun _ => 0))) (As := [.int (nI (ceF L xs 113 5)), .int (nI (hd 0)), .int (nI (hd 1))]) (rest := []) X hW.1 hW.2.2 hC (fun hp9 hz9 => c_X6_tricks l G hp9 b6 n R hd (k - 1) cs false 0 (fun _ => 0) hz9 (nI (ceF L xs 113 5)) (nI (hd 0)) (nI (hd 1))) mf_X6_tricks tw_309 tw_310 tw_311 ⟨rfl, rfl, Nat.le_of_ble_eq_true rfl, Nat.le_of_ble_eq_true rfl⟩ hl.1 rfl rfl (Nat.le_of_ble_eq_true rfl) ⟨Nat.le_of_ble_eq_true rfl, Nat.le_of_ble_eq_true rfl⟩ dL_law_287 ?_
      refine r_eqi (show ((fTricks (nI (ceF L xs 113 5)) (nI (hd 0)) (nI (hd 1))) : Int32) = nI (trN (ceF L xs 113 5) (hd 0) (hd 1)) from ft_v (ceF_lt _ _ _ (by decide)) (hh 0 (by omega)).1 (hh 1 (by omega)).1 (hh 0 (by omega)).2 (hh 1 (by omega)).2 hdis) ?_
      refine lv_aload_n X.1 X.2.1 dL_law_290 rfl (lv_at hl 7 rfl) ?_
      refine lv_bipush (v := 113) X.1 X.2.1 dL_law_291 (by decide) ?_
      refine lv_iconst (v := 5) X.1 X.2.1 dL_law_293 (by decide) ?_
      refine on_Si (run_S (As := [.ref b, .int 113, .int 5]) (rest := [.int (nI (trN (ceF L xs 113 5) (hd 0) (hd 1)))]) X (c_L_cell l G hp_31 b L xs hL 113 5 (by decide) (by decide) (by decide)) (rx_blind _) (rx_at X hW.1 hW.2.2 hX hXl hXA) mf_L_cell tw_331 tw_332 ⟨rfl, rfl, Nat.le_of_ble_eq_true rfl, Nat.le_of_ble_eq_true rfl⟩ hl.1 rfl rfl (Nat.le_of_ble_eq_true rfl) ⟨Nat.le_of_ble_eq_true rfl, Nat.le_of_ble_eq_true rfl⟩ dL_law_294) (fun r_294 q_294 => ?_)
      obtain rfl : r_294 = (nI (ceF L xs 113 5)) := q_294
      refine lv_aload_n X.1 X.2.1 dL_law_297 rfl (lv_at hl 6 rfl) ?_
      refine lv_iconst (v := 0) X.1 X.2.1 dL_law_298 (by decide) ?_
      refine lv_iconst (v := 0) X.1 X.2.1 dL_law_299 (by decide) ?_
      refine lc_ri (z := (n, R, hd, (k - 1), cs, false, 0, (fun _ => 0))) (As := [.int 0, .int 0]) (rest := [.int (nI (ceF L xs 113 5)), .int (nI (trN (ceF L xs 113 5) (hd 0) (hd 1)))]) X hW.1 hW.2.2 hC (fun hp9 hz9 => c_X6_hand l G hp9 b6 n R hd (k - 1) cs false 0 (fun _ => 0) hz9 (0 : Int32) (0 : Int32)) mf_X6_hand tw_182 tw_183 tw_184 ⟨rfl, rfl, Nat.le_of_ble_eq_true rfl, Nat.le_of_ble_eq_true rfl⟩ hl.1 rfl rfl (Nat.le_of_ble_eq_true rfl) ⟨Nat.le_of_ble_eq_true rfl, Nat.le_of_ble_eq_true rfl⟩ dL_law_300 ?_
      refine r_eqi (show ((fHand hd (0 : Int32) (0 : Int32)) : Int32) = nI (hd 0) from fh_0 (x := 0) (by omega)) ?_
      refine lv_aload_n X.1 X.2.1 dL_law_303 rfl (lv_at hl 6 rfl) ?_
      refine lv_iconst (v := 1) X.1 X.2.1 dL_law_304 (by decide) ?_
      refine lv_iconst (v := 0) X.1 X.2.1 dL_law_305 (by decide) ?_
      refine lc_ri (z := (n, R, hd, (k - 1), cs, false, 0, (fun _ => 0))) (As := [.int 1, .int 0]) (rest := [.int (nI (hd 0)), .int (nI (ceF L xs 113 5)), .int (nI (trN (ceF L xs 113 5) (hd 0) (hd 1)))]) X hW.1 hW.2.2 hC (fun hp9 hz9 => c_X6_hand l G hp9 b6 n R hd (k - 1) cs false 0 (fun _ => 0) hz9 (1 : Int32) (0 : Int32)) mf_X6_hand tw_182 tw_183 tw_184 ⟨rfl, rfl, Nat.le_of_ble_eq_true rfl, Nat.le_of_ble_eq_true rfl⟩ hl.1 rfl rfl (Nat.le_of_ble_eq_true rfl) ⟨Nat.le_of_ble_eq_true rfl, Nat.le_of_ble_eq_true rfl⟩ dL_law_306 ?_
      refine r_eqi (show ((fHand hd (1 : Int32) (0 : Int32)) : Int32) = nI (hd 1) from fh_0 (x := 1) (by omega)) ?_
      refine on_Si (run_S (As := [.int (nI (ceF L xs 113 5)), .int (nI (hd 0)), .int (nI (hd 1))]) (rest := [.int (nI (trN (ceF L xs 113 5) (hd 0) (hd 1)))]) X (c_L_tricks l G hp_31 (ceF L xs 113 5) (hd 0) (hd 1) (ceF_lt _ _ _ (by decide)) (hh 0 (by omega)).1 (hh 1 (by omega)).1) (rp_blind _) (rp_at X hW.1 hW.2.2) mf_L_tricks tw_519 tw_520 ⟨rfl, rfl, Nat.le_of_ble_eq_true rfl, Nat.le_of_ble_eq_true rfl⟩ hl.1 rfl rfl (Nat.le_of_ble_eq_true rfl) ⟨Nat.le_of_ble_eq_true rfl, Nat.le_of_ble_eq_true rfl⟩ dL_law_309) (fun r_309 q_309 => ?_)
      obtain rfl : r_309 = (nI (trN (ceF L xs 113 5) (hd 0) (hd 1))) := q_309
      refine lv_icmp_ne (tgt := 319) X.1 X.2.1 dL_law_312 (by decide) (fun c_312 => absurd rfl c_312) (fun c_312 => ?_)
      refine lv_iconst (v := 1) X.1 X.2.1 dL_law_315 (by decide) ?_
      refine lv_goto (tgt := 320) X.1 X.2.1 dL_law_316 (by decide) ?_
      refine va_forget (fun q hq => hAs _ (hW.2.2.2.2 q hq)) ?_
      exact W.widen (Nat.le_of_ble_eq_true rfl) (Nat.le_of_ble_eq_true rfl) (lw_ret X.1 X.2.1 hr hlk dL_law_320)

