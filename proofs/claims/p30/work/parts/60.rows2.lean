/-! rows: static fields, lists' rows, class objects, calls of inherited methods -/
section VJ
variable {p : Program} {l : Launch} {e : Env} {R : Room} {s : State} {m : MethodId} {args : Array Value} {below : List Frame} {meth : Method} {c : Code} {H : Heap} {locs : List Loc} {cells slots : Nat} {Q : State → Prop} {cc : ByteArray} {pc nL : Nat} {ls : Array Slot} {rest st0 : List Value} {G : HG} {A : Nat → Prop} {hp : HP} {own : String}
variable {y : MethodName} {bytes : ByteArray} {maxL n index mc ms : Nat} {ret : Option FieldType} {rm : Room} {P : State → Prop} {Qc : Array Value → State → Outcome → State → Prop} {free : Addr → Prop} {As : List Value}
theorem run_SU {b : Nat} {C : String} {cC : ClassId} (X : CX p c cc nL s m own G A) (hM : Met l y [.code y bytes maxL ret] rm (va_Pc (.ref b :: As) P) Qc mc ms free) (hbl : FrameBlind (va_Pc (.ref b :: As) P)) (hP : ∀ U : State, U.heap = H → s.WarmedH U.vm → P U) (hr : ∃ cell : Cell, H[b]? = some cell ∧ cell.vm.isStatics = false ∧ s.vm.findClass C = some cell.cls) (hat : ClassAt s C cC) (mf : MF y bytes maxL ret n) (hl : Cond.methodLink own index y ∈ tG) (hsm : Cond.sameMethod y.cls y.cls y.name y.desc ∈ tG) (hsu : Cond.superclass own y.cls ∈ tG) (hi : Cond.instanceMethod y ∈ tG) (hno : y.name ≠ "<init>") (hR : RM rm R maxL mc ms) (hsz : ls.size = nL) (hn : As.length = n) (hstack : st0 = As.reverse ++ .ref b :: rest) (hW : (rest.map fun v => v.category).sum ≤ 8) (hf : cells + mc ≤ R.cells ∧ slots + ms ≤ R.slots) (hdg : decode cc pc = .ok (.invokespecial index, 3)) :
    va_Run p l e R s m args below meth c H locs cells slots mc ms (F0 m pc ls st0) rest (Qc (.ref b :: As).toArray) free :=
  va_runSU (Ts := tG) (C := C) hat ⟨X.1, X.2.1, X.2.2.1, X.2.2.2.1, tb_all X.2.2.2.2.1⟩ hM ⟨⟨hR.1, hR.2.1, hR.2.2.1, hR.2.2.2, code_w X.2.2.2.2.1 mf.1, List.mem_singleton.mpr rfl⟩, tb_all X.2.2.2.2.1 _ hl, tb_all X.2.2.2.2.1 _ hsm, tb_all X.2.2.2.2.1 _ hsu, tb_all X.2.2.2.2.1 _ hi, tb_all X.2.2.2.2.1 _ mf.2.1, tb_all X.2.2.2.2.1 _ mf.1, hno, mf.len⟩ ⟨hbl, hr, fun U hU hW => ⟨rfl, hP U hU hW⟩⟩ rfl hn hsz hstack (lv_room hW) hdg hf
theorem cl_at (X : CX p c cc nL s m own G A) {ci : Nat} {q : vw_C} (hc : vwCl[ci]? = some q) : ClassAt s q.1 (G.1.1 ci) := (X.2.2.2.2.2.1.1.1 ci _ hc).2
theorem r_getD (X : CX p c cc nL s m own G A) (hS : va_S A s.heap H locs) (hl : Cond.fieldLink own index "java/util/ArrayList" "DEFAULTCAPACITY_EMPTY_ELEMENTDATA" "[Ljava/lang/Object;" ∈ tG) (hdg : decode cc pc = .ok (.getstatic index, 3)) (kk : W p l e R s m args below meth c H locs cells slots Q (F0 m (pc + 3) ls (.ref (G.2.2 0) :: rest))) : W p l e R s m args below meth c H locs cells slots Q (F0 m pc ls rest) :=
  va_gets X.1 X.2.1 X.2.2.2.2.2.2.1 hS X.2.2.2.1 (tb_all X.2.2.2.2.1 _ hl) (fun _ h => h) hdg kk
theorem r_getCS (X : CX p c cc nL s m own G A) (hS : va_S A s.heap H locs) (hl : Cond.fieldLink own index "java/lang/String" "COMPACT_STRINGS" "Z" ∈ tG) (hdg : decode cc pc = .ok (.getstatic index, 3)) (kk : W p l e R s m args below meth c H locs cells slots Q (F0 m (pc + 3) ls (.int 1 :: rest))) : W p l e R s m args below meth c H locs cells slots Q (F0 m pc ls rest) :=
  va_gets X.1 X.2.1 X.2.2.2.2.2.2.2.2.1 hS X.2.2.2.1 (tb_all X.2.2.2.2.1 _ hl) (fun _ h => h) hdg kk
theorem r_tlen (X : CX p c cc nL s m own G A) (hS : va_S A s.heap H locs) (hdg : decode cc pc = .ok (.arraylength, 1)) (kk : W p l e R s m args below meth c H locs cells slots Q (F0 m (pc + 1) ls (.int 0 :: rest))) : W p l e R s m args below meth c H locs cells slots Q (F0 m pc ls (.ref (G.2.2 0) :: rest)) :=
  va_tlen X.1 X.2.1 X.2.2.2.2.2.2.2.1 hS (v := 0) rfl hdg kk
theorem nfw : nativeFrameWords "java/lang/System" "arraycopy" 5 ≤ 29 := by decide +kernel
theorem clamp0 {z : Int32} {k : Nat} (h : z = nI k) (hk : k < 2 ^ 31) : ¬ z < 0 ∧ z.toNatClampNeg = k := by
  subst h
  exact ⟨Int32.not_lt.mpr (nI_pos' hk), nI_clamp hk⟩
/-- elements of a row that a copy may move -/
def isEls (hp : HP) (f : Nat → Option Nat) (sp k : Nat) : Prop := ∃ ci, (ci = 3 ∨ ci = 5) ∧ ∀ i, i < k → ∀ y, f (sp + i) = some y → ∃ vs, hp y = some (.inr (ci, vs))
theorem r_copyQ (X : CX p c cc nL s m own G A) (hW : WS s G A hp H locs) {a0 a n0 n1 : Nat} {f g : Nat → Option Nat} (h0 : hp a0 = some (.inl (G.2.1 3, n0, .inr (.inr (.inr (.inr f)))))) (h1 : hp a = some (.inl (G.2.1 3, n1, .inr (.inr (.inr (.inr g)))))) (sp dp k : Nat) (hs : sp + k ≤ n0) (hd : dp + k ≤ n1) (hb0 : n0 < 2 ^ 20) (hb1 : n1 < 2 ^ 20) (hel : isEls hp f sp k) (hl : Cond.methodLink own index arraycopyName ∈ tG) (hst : Cond.static arraycopyName ∈ tG) (hna : Cond.native arraycopyName ∈ tG) (hin : Cond.initialized "java/lang/System" ∈ tG) (hsz : ls.size = nL) (hfr : 1 ≤ R.frames) (hlo : (rest.map fun v => v.category).sum + 40 ≤ R.locals) (hdg : decode cc pc = .ok (.invokestatic index, 3))
    (kk : ∀ (hp1 : HP) (H1 : Heap) (locs1 : List Loc), WS s G A hp1 H1 locs1 → hp1 = va_up hp a (some (.inl (G.2.1 3, n1, .inr (.inr (.inr (.inr (va_cpy f g sp dp k))))))) → W p l e R s m args below meth c H1 locs1 cells slots Q (F0 m (pc + 3) ls rest)) : W p l e R s m args below meth c H locs cells slots Q (F0 m pc ls (.int (nI k) :: .int (nI dp) :: .ref a :: .int (nI sp) :: .ref a0 :: rest)) := by
  obtain ⟨ci, hci, hel⟩ := hel
  obtain ⟨j0, hj0⟩ := en_get hW.1 h0
  obtain ⟨j1, hj1⟩ := en_get hW.1 h1
  obtain ⟨es, es'⟩ := clamp0 (rfl : nI sp = nI sp) (by omega)
  obtain ⟨ed, ed'⟩ := clamp0 (rfl : nI dp = nI dp) (by omega)
  obtain ⟨ek, ek'⟩ := clamp0 (rfl : nI k = nI k) (by omega)
  have hb := nfw
  have key : ∀ C : String, (∀ i : Nat, i < (nI k).toNatClampNeg → ∀ y : Nat, f ((nI sp).toNatClampNeg + i) = some y → ∃ cellV : Cell, H[y]? = some cellV ∧ cellV.vm.isStatics = false ∧ s.vm.findClass C = some cellV.cls) → va_Nw (.castable C "java/lang/Object") s → W p l e R s m args below meth c H locs cells slots Q (F0 m pc ls (.int (nI k) :: .int (nI dp) :: .ref a :: .int (nI sp) :: .ref a0 :: rest)) := fun C hC hN => va_copyq (D := G.1) (cl := vwCl) (ws := en hp H.size) (tys := tyL G) (C := C) X.1 X.2.1 (X.2.2.1.trans hsz.symm) X.2.2.2.1 (tb_all X.2.2.2.2.1 _ hl) (tb_all X.2.2.2.2.1 _ hna) (tb_all X.2.2.2.2.1 _ hst) (tb_all X.2.2.2.2.1 _ hin) X.2.2.2.2.2.1.1 (en_P _ hW.1) (en_D _ hW.2.1) hW.2.2 j0 j1 3 3 hj0 hj1 rfl rfl es ed ek (by rw [es', ek']; exact hs) (by rw [ed', ek']; exact hd) hC (vb_asgC hN) hfr (by omega) hdg (fun H1 locs1 hP _ hS => by
      rw [es', ed', ek'] at hP
      exact kk _ H1 locs1 (ws_set hW h1 hj1 hP hS) rfl)
  rcases hci with rfl | rfl
  · refine key RX2 (fun i hi y hy => ?_) X.2.2.2.2.2.1.2.2.2.2.2
    rw [ek'] at hi
    rw [es'] at hy
    obtain ⟨vs, hv⟩ := hel i hi y hy
    exact recv X hW.1 hv (C := RX2) (T := TX2) (N := 3) rfl
  · refine key RX4 (fun i hi y hy => ?_) X.2.2.2.2.2.1.2.2.2.2.1
    rw [ek'] at hi
    rw [es'] at hy
    obtain ⟨vs, hv⟩ := hel i hi y hy
    exact recv X hW.1 hv (C := RX4) (T := TX4) (N := 6) rfl
theorem recvQ (X : CX p c cc nL s m own G A) (hH : Hd G hp H) {a n0 : Nat} {f : Nat → Option Nat} (h0 : hp a = some (.inl (G.2.1 3, n0, .inr (.inr (.inr (.inr f)))))) : ∃ cell : Cell, H[a]? = some cell ∧ cell.vm.isStatics = false ∧ s.vm.findClass "[Ljava/lang/Object;" = some cell.cls :=
  ⟨_, hH a _ h0, rfl, va_nmO (C := "java/lang/Object") (X.2.2.2.2.2.1.1.2 3 _ rfl).2 (by decide)⟩
theorem r_getC (X : CX p c cc nL s m own G A) (hH : Hd G hp H) {a n0 : Nat} {f : Nat → Option Nat} (h0 : hp a = some (.inl (G.2.1 3, n0, .inr (.inr (.inr (.inr f)))))) (hsz : ls.size = nL) (hl : Cond.methodLink own index ⟨"java/lang/Object", "getClass", "()Ljava/lang/Class;"⟩ ∈ tG) (hse : Cond.selects "[Ljava/lang/Object;" ⟨"java/lang/Object", "getClass", "()Ljava/lang/Class;"⟩ ⟨"java/lang/Object", "getClass", "()Ljava/lang/Class;"⟩ ∈ tG) (hi : Cond.instanceMethod ⟨"java/lang/Object", "getClass", "()Ljava/lang/Class;"⟩ ∈ tG) (hna : Cond.native ⟨"java/lang/Object", "getClass", "()Ljava/lang/Class;"⟩ ∈ tG) (hfr : 1 ≤ R.frames) (hlo : (rest.map fun v => v.category).sum + 14 ≤ R.locals) (hdg : decode cc pc = .ok (.invokevirtual index, 3))
    (kk : W p l e R s m args below meth c H locs cells slots Q (F0 m (pc + 3) ls (.ref (G.2.2 1) :: rest))) : W p l e R s m args below meth c H locs cells slots Q (F0 m pc ls (.ref a :: rest)) :=
  va_getC X.1 X.2.1 (X.2.2.1.trans hsz.symm) X.2.2.2.1 (tb_all X.2.2.2.2.1 _ hl) (va_Dc.use X.2.2.2.2.2.1.2.2.2.1) (tb_all X.2.2.2.2.1 _ hse) (tb_all X.2.2.2.2.1 _ hi) (tb_all X.2.2.2.2.1 _ hna) X.2.2.2.2.2.1.2.2.1 (recvQ X hH h0) hfr hlo hdg kk
theorem r_ldcM (X : CX p c cc nL s m own G A) (hl : Cond.classLink own index "[Ljava/lang/Object;" ∈ tG) (hdg : decode cc pc = .ok (.ldc index, 2)) (kk : W p l e R s m args below meth c H locs cells slots Q (F0 m (pc + 2) ls (.ref (G.2.2 1) :: rest))) : W p l e R s m args below meth c H locs cells slots Q (F0 m pc ls rest) :=
  va_ldcM X.1 X.2.1 X.2.2.2.1 (tb_all X.2.2.2.2.1 _ hl) X.2.2.2.2.2.1.2.2.1 hdg kk
end VJ
