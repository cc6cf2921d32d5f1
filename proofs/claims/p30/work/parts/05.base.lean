/-! what goes along with every walk: the tables' words, the known part of the heap as a partial function of addresses -/
theorem tb_w {args a' : Array Value} {s U : State} {w : Cond} (hok : tOk w = true) (hW : s.WarmedH U.vm) (h : w.before args s = true) : w.before a' U = true := by
  cases w with
  | arrayClass ty => exact word_at hW (Or.inr ⟨_, rfl⟩) h
  | fieldLinkNest a i b n d hh => exact va_tabs rfl (rfl : (s.setVm U.vm).vm = U.vm) (Cond.fieldLinkNest_warmed hW h)
  | methodLinkNest a i x hh => exact va_tabs rfl (rfl : (s.setVm U.vm).vm = U.vm) (Cond.methodLinkNest_warmed hW h)
  | _ => exact word_at hW (Or.inl hok) h
theorem pv_warm {args args' : Array Value} {s U : State} {y : MethodName} (hW : s.WarmedH U.vm) (h : (Cond.privateMethod y).before args s = true) : (Cond.privateMethod y).before args' U = true := by
  have hal := hW.alike
  have e0 : U.methodNamed? y = (s.setVm U.vm).methodNamed? y := rfl
  have e1 : U.methodNamed? y = s.methodNamed? y := by rw [e0, State.methodNamed?_setVm hal]
  have e2 : U.vm.method? = s.vm.method? := funext hal.method?
  simp only [Cond.before, Cond.holds, Cond.value] at h ⊢
  rw [e1, e2]; exact h
/-- private methods that are called on an object of a subclass: none here -/
def pvL : List MethodName := []
def TB (s : State) : Prop := (∀ w ∈ tG, w.before #[] s = true) ∧ ∀ y ∈ pvL, (Cond.privateMethod y).before #[] s = true
theorem tb_ok {w : Cond} (h : w ∈ tG) : tOk w = true := (List.mem_filter.mp h).2
theorem tb_moved {s U : State} (h : TB s) (hW : s.WarmedH U.vm) : TB U := ⟨fun w hw => tb_w (tb_ok hw) hW (h.1 w hw), fun y hy => pv_warm hW (h.2 y hy)⟩
theorem pv_all {s : State} {args : Array Value} (h : TB s) {y : MethodName} (hy : y ∈ pvL) : (Cond.privateMethod y).before args s = true := pv_warm (State.WarmedH.refl s) (h.2 y hy)
theorem tb_all {s : State} {args : Array Value} (h : TB s) : ∀ w ∈ tG, w.before args s = true := fun w hw => tb_w (tb_ok hw) (State.WarmedH.refl s) (h.1 w hw)
abbrev HP : Type := Nat → Option va_E
abbrev HG : Type := va_G × (Nat → ClassId) × (Nat → Nat)
/-- the heap holds what hp says -/
def Hd (G : HG) (hp : HP) (H : Heap) : Prop := ∀ (a : Nat) (e : va_E), hp a = some e → va_at G.1 vwCl (a, e) H
def Ow (A : Nat → Prop) (hp : HP) : Prop := ∀ (a : Nat) (e : va_E), hp a = some e → A a
abbrev tyL (G : HG) : List (ClassId × FieldType) := [(G.2.1 0, .byte), (G.2.1 1, .int), (G.2.1 2, .int), (G.2.1 3, .object "java/lang/Object")]
def KK (G : HG) (U : State) : Prop := va_K G.1 vwCl (tyL G) U ∧ va_AO "java/lang/Object" U ∧ va_Mi "[Ljava/lang/Object;" (G.2.2 1) U ∧ va_Dc U ∧ va_Nw (.castable "BidLanguage$Rule" "java/lang/Object") U ∧ va_Nw (.castable "BidLanguage$MadeCall" "java/lang/Object") U
theorem ca_moved {a b : String} {u U : State} (hvm : u.vm.Alike U.vm) (h : va_Nw (.castable a b) u) : va_Nw (.castable a b) U := va_tabs rfl (rfl : (u.setVm U.vm).vm = U.vm) (by rw [Cond.castable_setVm hvm]; exact h)
theorem KK.moved {G : HG} {u U : State} (hvm : u.vm.Alike U.vm) (h : KK G u) : KK G U := ⟨va_K.moved hvm h.1, va_AO.moved hvm h.2.1, va_Mi.moved hvm h.2.2.1, va_Dc.moved hvm h.2.2.2.1, ca_moved hvm h.2.2.2.2.1, ca_moved hvm h.2.2.2.2.2⟩
def ZZ (G : HG) (A : Nat → Prop) (U : State) (H : Heap) : Prop := va_Z "java/util/ArrayList" "DEFAULTCAPACITY_EMPTY_ELEMENTDATA" "[Ljava/lang/Object;" (.ref (G.2.2 0)) A U H ∧ va_T (.object "java/lang/Object") (G.2.2 0) 0 (fun _ => .null) A U H ∧ va_Z "java/lang/String" "COMPACT_STRINGS" "Z" (.int 1) A U H ∧ True
theorem ZZ.moved {G : HG} {A : Nat → Prop} {u U : State} {H : Heap} (hvm : u.vm.Alike U.vm) (h : ZZ G A u H) : ZZ G A U H := ⟨va_Z.moved hvm h.1, va_T.moved hvm h.2.1, va_Z.moved hvm h.2.2.1, trivial⟩
theorem ZZ.kept {G : HG} {A : Nat → Prop} {U : State} {H H1 : Heap} (h : ZZ G A U H) (hq : ∀ a : Nat, a < H.size → ¬ A a → H1[a]? = H[a]?) : ZZ G A U H1 := ⟨h.1.kept hq, h.2.1.kept hq, h.2.2.1.kept hq, trivial⟩
theorem ZZ.narrow {G : HG} {A B : Nat → Prop} {U : State} {H : Heap} (h : ZZ G A U H) (hAB : ∀ q, B q → A q) : ZZ G B U H := ⟨h.1.narrow hAB, h.2.1.narrow hAB, h.2.2.1.narrow hAB, trivial⟩
theorem ZZ.at {G : HG} {A : Nat → Prop} {s U : State} {H : Heap} {locs : List Loc} (h : ZZ G A s s.heap) (hS : va_S A s.heap H locs) (hvm : s.vm.Alike U.vm) (hU : U.heap = H) : ZZ G A U U.heap := by
  rw [hU]
  exact (h.kept hS.2.1).moved hvm
/-- the start of a method that only reads -/
def RP (G : HG) (hp : HP) (U : State) : Prop := TB U ∧ KK G U ∧ Hd G hp U.heap ∧ ZZ G (fun _ => False) U U.heap
/-- the start of a method that may write the cells in A -/
def WP (G : HG) (A : Nat → Prop) (sz : Nat) (hp : HP) (U : State) : Prop := U.heap.size = sz ∧ TB U ∧ KK G U ∧ Hd G hp U.heap ∧ ZZ G A U U.heap
/-- its end -/
def WB (G : HG) (A : Nat → Prop) (hp : HP) (t : State) : Prop := Hd G hp t.heap ∧ Ow A hp
theorem rp_blind {G : HG} {hp : HP} (av : List Value) : FrameBlind (va_Pc av (RP G hp)) := fun a U g mk q => ⟨q.1, tb_moved (U := U.calling g mk a) q.2.1 (State.WarmedH.refl U), KK.moved (U := U.calling g mk a) (Vm.Alike.refl U.vm) q.2.2.1, q.2.2.2.1, ZZ.moved (U := U.calling g mk a) (Vm.Alike.refl U.vm) q.2.2.2.2⟩
theorem wp_blind {G : HG} {A : Nat → Prop} {sz : Nat} {hp : HP} (av : List Value) : FrameBlind (va_Pc av (WP G A sz hp)) := fun a U g mk q => ⟨q.1, q.2.1, tb_moved (U := U.calling g mk a) q.2.2.1 (State.WarmedH.refl U), KK.moved (U := U.calling g mk a) (Vm.Alike.refl U.vm) q.2.2.2.1, q.2.2.2.2.1, ZZ.moved (U := U.calling g mk a) (Vm.Alike.refl U.vm) q.2.2.2.2.2⟩
/-! the known part as a list, for the kit's rows -/
def en (hp : HP) (n : Nat) : va_W := (List.range n).filterMap (fun q => (hp q).map (fun e => (q, e)))
theorem en_mem {hp : HP} {n : Nat} {q : Nat × va_E} : q ∈ en hp n ↔ q.1 < n ∧ hp q.1 = some q.2 := by
  unfold en
  rw [List.mem_filterMap]
  constructor
  · rintro ⟨x, hx, h⟩
    cases hv : hp x with
    | none => rw [hv] at h; cases h
    | some e =>
      rw [hv] at h
      cases h
      exact ⟨List.mem_range.mp hx, hv⟩
  · rintro ⟨h1, h2⟩
    exact ⟨q.1, List.mem_range.mpr h1, by rw [h2]; rfl⟩
theorem en_succ (hp : HP) (n : Nat) : en hp (n + 1) = en hp n ++ ((hp n).map (fun e => (n, e))).toList := by
  unfold en
  rw [List.range_succ, List.filterMap_append]
  cases hv : hp n with
  | none => simp [hv]
  | some e => simp [hv]
theorem en_inj (hp : HP) : ∀ (n i j : Nat) (x y : Nat × va_E), (en hp n)[i]? = some x → (en hp n)[j]? = some y → x.1 = y.1 → i = j := by
  intro n
  induction n with
  | zero => intro i j x y hx; simp [en] at hx
  | succ n ih =>
    intro i j x y hx hy hxy
    rw [en_succ] at hx hy
    have tl : ∀ (k : Nat) (z : Nat × va_E), ((hp n).map (fun e => (n, e))).toList[k]? = some z → k = 0 ∧ z.1 = n := by
      intro k z hz
      cases hv : hp n with
      | none => rw [hv] at hz; simp at hz
      | some e =>
        rw [hv] at hz
        cases k with
        | zero => simp at hz; rw [← hz]; exact ⟨rfl, rfl⟩
        | succ k => simp at hz
    have lt : ∀ (k : Nat) (z : Nat × va_E), (en hp n)[k]? = some z → z.1 < n := fun k z hz => (en_mem.mp (List.mem_of_getElem? hz)).1
    by_cases hi : i < (en hp n).length
    · rw [List.getElem?_append_left hi] at hx
      by_cases hj : j < (en hp n).length
      · rw [List.getElem?_append_left hj] at hy
        exact ih i j x y hx hy hxy
      · rw [List.getElem?_append_right (by omega)] at hy
        have h1 := lt i x hx
        have h2 := (tl _ _ hy).2
        omega
    · rw [List.getElem?_append_right (by omega)] at hx
      by_cases hj : j < (en hp n).length
      · rw [List.getElem?_append_left hj] at hy
        have h1 := lt j y hy
        have h2 := (tl _ _ hx).2
        omega
      · rw [List.getElem?_append_right (by omega)] at hy
        have h1 := (tl _ _ hx).1
        have h2 := (tl _ _ hy).1
        omega
theorem en_D {A : Nat → Prop} {hp : HP} (n : Nat) (hO : Ow A hp) : va_D A (en hp n) := ⟨fun i j x y hx hy h => en_inj hp n i j x y hx hy h, fun k q hk => hO q.1 q.2 (en_mem.mp (List.mem_of_getElem? hk)).2⟩
theorem en_P {G : HG} {hp : HP} {H : Heap} (n : Nat) (hH : Hd G hp H) : va_P G.1 vwCl (en hp n) H := fun k q hk => hH q.1 q.2 (en_mem.mp (List.mem_of_getElem? hk)).2
theorem Hd.lt {G : HG} {hp : HP} {H : Heap} (hH : Hd G hp H) {a : Nat} {e : va_E} (he : hp a = some e) : a < H.size := (hH a e he).lt
theorem en_get {G : HG} {hp : HP} {H : Heap} (hH : Hd G hp H) {a : Nat} {e : va_E} (he : hp a = some e) : ∃ i : Nat, (en hp H.size)[i]? = some (a, e) := List.getElem?_of_mem (en_mem.mpr ⟨hH.lt he, he⟩)
theorem en_set {G : HG} {hp : HP} {H H1 : Heap} {a i : Nat} {e e' : va_E} (hH : Hd G hp H) (hi : (en hp H.size)[i]? = some (a, e)) (hP : va_P G.1 vwCl ((en hp H.size).set i (a, e')) H1) : Hd G (va_up hp a (some e')) H1 := by
  intro b x hbx
  have hil : i < (en hp H.size).length := (List.getElem?_eq_some_iff.mp hi).1
  by_cases hb : b = a
  · subst hb
    rw [va_up_self] at hbx
    cases hbx
    exact hP i (b, e') (by rw [List.getElem?_set_self hil])
  · rw [va_up_ne _ _ hb] at hbx
    obtain ⟨j, hj⟩ := en_get hH hbx
    have hij : i ≠ j := fun h => by
      subst h
      rw [hi] at hj
      cases hj
      exact hb rfl
    exact hP j (b, x) (by rw [List.getElem?_set_ne hij]; exact hj)
theorem en_app {G : HG} {hp : HP} {H H1 : Heap} {q : Nat} {e' : va_E} (hH : Hd G hp H) (hP : va_P G.1 vwCl (en hp H.size ++ [(q, e')]) H1) : Hd G (va_up hp q (some e')) H1 := by
  intro b x hbx
  by_cases hb : b = q
  · subst hb
    rw [va_up_self] at hbx
    cases hbx
    exact hP (en hp H.size).length (b, e') (by simp)
  · rw [va_up_ne _ _ hb] at hbx
    obtain ⟨j, hj⟩ := en_get hH hbx
    have hjl : j < (en hp H.size).length := (List.getElem?_eq_some_iff.mp hj).1
    exact hP j (b, x) (by rw [List.getElem?_append_left hjl]; exact hj)
theorem en_new {A : Nat → Prop} {hp : HP} {n q : Nat} {e' : va_E} (hD : va_D A (en hp n ++ [(q, e')])) (hlt : ∀ b x, hp b = some x → b < n) : hp q = none := by
  cases hv : hp q with
  | none => rfl
  | some x =>
    obtain ⟨j, hj⟩ := List.getElem?_of_mem (en_mem.mpr (show (q, x).1 < n ∧ hp (q, x).1 = some (q, x).2 from ⟨hlt q x hv, hv⟩))
    have hjl : j < (en hp n).length := (List.getElem?_eq_some_iff.mp hj).1
    have h1 := hD.1 j (en hp n).length (q, x) (q, e') (by rw [List.getElem?_append_left hjl]; exact hj) (by simp) rfl
    omega
theorem Ow.up {A : Nat → Prop} {hp : HP} (hO : Ow A hp) {a : Nat} (ha : A a) (e : va_E) : Ow A (va_up hp a (some e)) := by
  intro b x hbx
  by_cases hb : b = a
  · rw [hb]; exact ha
  · rw [va_up_ne _ _ hb] at hbx
    exact hO b x hbx
theorem hd1 {G : HG} {hp : HP} {H : Heap} {a : Nat} {e : va_E} (hH : Hd G hp H) (he : hp a = some e) : va_P G.1 vwCl [(a, e)] H := by
  intro k q hq
  cases k with
  | zero => cases hq; exact hH _ _ he
  | succ k => simp at hq
/-- the state of a walk that writes -/
def WS (s : State) (G : HG) (A : Nat → Prop) (hp : HP) (H : Heap) (locs : List Loc) : Prop := Hd G hp H ∧ Ow A hp ∧ va_S A s.heap H locs
/-- what stays through a walk -/
def CX (p : Program) (c : Code) (cc : ByteArray) (nL : Nat) (s : State) (m : MethodId) (own : String) (G : HG) (A : Nat → Prop) : Prop := p.tables.exec = Jvm.exec ∧ c.code = cc ∧ c.maxLocals = nL ∧ s.vm.findClass own = some m.cls ∧ TB s ∧ KK G s ∧ ZZ G A s s.heap
/-- a method's own facts -/
def MF (y : MethodName) (bytes : ByteArray) (maxL : Nat) (ret : Option FieldType) (n : Nat) : Prop := Cond.code y bytes maxL ret ∈ tG ∧ Cond.initialized y.cls ∈ tG ∧ y.cls ≠ "java/lang/invoke/MethodHandle" ∧ y.cls ≠ "java/lang/invoke/VarHandle" ∧ (parseMethodDescriptor y.desc).map (fun d => d.parameters.length) = some n
theorem MF.len {y : MethodName} {bytes : ByteArray} {maxL n : Nat} {ret : Option FieldType} (h : MF y bytes maxL ret n) : ∀ sig, parseMethodDescriptor y.desc = some sig → n = sig.parameters.length := fun sig hs => by
  have h2 := h.2.2.2.2
  rw [hs] at h2
  exact (Option.some.inj h2).symm
theorem code_w {y : MethodName} {bytes : ByteArray} {maxL : Nat} {ret : Option FieldType} {s : State} (hT : TB s) (h : Cond.code y bytes maxL ret ∈ tG) : ∀ w ∈ [Cond.code y bytes maxL ret], ∀ (a' : Array Value) (U : State), s.WarmedH U.vm → w.before a' U = true := fun w hw a' U hW => by
  rw [List.mem_singleton.mp hw]
  exact tb_w (tb_ok h) hW (hT.1 _ h)
section VA
variable {p : Program} {l : Launch} {e : Env} {R : Room} {s : State} {m : MethodId} {args : Array Value} {below : List Frame} {meth : Method} {c : Code} {H : Heap} {locs : List Loc} {cells slots : Nat} {Q : State → Prop} {cc : ByteArray} {pc nL : Nat} {ls : Array Slot} {rest : List Value} {G : HG} {A : Nat → Prop} {hp : HP} {own : String}
theorem rp_at (X : CX p c cc nL s m own G A) (hH : Hd G hp H) (hS : va_S A s.heap H locs) : ∀ U : State, U.heap = H → s.WarmedH U.vm → RP G hp U := fun U hU hW => ⟨tb_moved X.2.2.2.2.1 hW, KK.moved hW.alike X.2.2.2.2.2.1, by rw [hU]; exact hH, (ZZ.at X.2.2.2.2.2.2 hS hW.alike hU).narrow (fun _ h => h.elim)⟩
theorem wp_at (X : CX p c cc nL s m own G A) (hH : Hd G hp H) (hS : va_S A s.heap H locs) : ∀ U : State, U.heap = H → s.WarmedH U.vm → WP G A H.size hp U := fun U hU hW => ⟨by rw [hU], tb_moved X.2.2.2.2.1 hW, KK.moved hW.alike X.2.2.2.2.2.1, by rw [hU]; exact hH, ZZ.at X.2.2.2.2.2.2 hS hW.alike hU⟩
/-- a method that only reads, from its entry -/
theorem ro_ofW {y : MethodName} {maxL : Nat} {ret : Option FieldType} {rm : Room} {av : List Value} {Qc : Array Value → State → Outcome → State → Prop} (hy : plainName y.cls = true) (hlen : (lg_sl av).length ≤ maxL)
    (body : ∀ p e s m args below meth c ls, CX p c cc maxL s m y.cls G (fun _ => False) → meth.sig.returnType = ret → meth.locks = false → Hd G hp s.heap → lv_has ls maxL (lv_args 0 av) → W p l e rm s m args below meth c s.heap [] 0 0 (MQ below Qc args s 0 0 (fun _ => False)) (F0 m 0 ls [])) :
    Met l y [.code y cc maxL ret] rm (va_Pc av (RP G hp)) Qc 0 0 (fun _ => False) := by
  refine Met.ofW (cc := cc) (maxL := maxL) (ret := ret) hy rfl ?_
  intro p e s m args below meth c s₁ B hml hv
  obtain ⟨rfl, hT, hK, hH, hZ⟩ := hv
  rw [lg_entry_eq]
  exact body p e s m _ below meth c _ ⟨B.exec, B.bytes, hml, findClass_of_methodNamed B.named, hT, hK, hZ⟩ B.returns B.notSynchronized hH (lv_entry av hlen)
/-- a method that may write, from its entry -/
theorem wr_ofW {y : MethodName} {maxL mc ms sz : Nat} {ret : Option FieldType} {rm : Room} {av : List Value} {Qc : Array Value → State → Outcome → State → Prop} (hy : plainName y.cls = true) (hlen : (lg_sl av).length ≤ maxL) (hO : Ow A hp)
    (body : ∀ p e s m args below meth c ls, CX p c cc maxL s m y.cls G A → meth.sig.returnType = ret → meth.locks = false → meth.name = y.name → s.heap.size = sz → WS s G A hp s.heap [] → lv_has ls maxL (lv_args 0 av) → W p l e rm s m args below meth c s.heap [] 0 0 (MQ below Qc args s mc ms A) (F0 m 0 ls [])) :
    Met l y [.code y cc maxL ret] rm (va_Pc av (WP G A sz hp)) Qc mc ms A := by
  refine Met.ofW (cc := cc) (maxL := maxL) (ret := ret) hy rfl ?_
  intro p e s m args below meth c s₁ B hml hv
  obtain ⟨rfl, hsz, hT, hK, hH, hZ⟩ := hv
  rw [lg_entry_eq]
  exact body p e s m _ below meth c _ ⟨B.exec, B.bytes, hml, findClass_of_methodNamed B.named, hT, hK, hZ⟩ B.returns B.notSynchronized (name_of_methodNamed B.named B.method).1 hsz ⟨hH, hO, va_S.rf⟩ (lv_entry av hlen)
end VA
