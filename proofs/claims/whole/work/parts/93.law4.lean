/-! the law's start: the world that the tables and the given part of the start make -/
set_option maxHeartbeats 4000000 in
theorem law_tb {s : State} {b : Nat} (hts : ∀ w ∈ lw_tbl, w.before #[Value.ref b] s = true) : TB s := by
  refine ⟨fun w hw => tb_w (tb_ok hw) (State.WarmedH.refl s) (hts w (List.mem_filter.mp hw).1), fun y hy => ?_⟩
  rcases List.mem_cons.mp hy with rfl | hy
  · exact pv_warm (State.WarmedH.refl s) (hts (.privateMethod ⟨"java/lang/AbstractStringBuilder", "ensureCapacityInternal", "(I)V"⟩) (List.mem_of_getElem? (i := 652) (by decide +kernel)))
  · rcases List.mem_cons.mp hy with rfl | hy
    · exact pv_warm (State.WarmedH.refl s) (hts (.privateMethod ⟨"java/lang/AbstractStringBuilder", "newCapacity", "(I)I"⟩) (List.mem_of_getElem? (i := 656) (by decide +kernel)))
    · exact absurd hy List.not_mem_nil
set_option maxHeartbeats 4000000 in
theorem law_world {s : State} {b : Nat} (hts : ∀ w ∈ lw_tbl, w.before #[Value.ref b] s = true) (hgv : (Jvm.Cond.and given_1 narrow_1).before #[Value.ref b] s = true) : ∃ G : HG, KK G s ∧ ZZ G (A0 s) s s.heap := by
  have hT : TB s := law_tb hts
  have hA : ∀ a : Nat, a < s.heap.size → ¬ A0 s a := fun a h => Nat.not_le.mpr h
  have hs := flat_of_before _ hgv
  obtain ⟨c0, f0, k0⟩ := u_known (args := #[]) (C := RJ4) (T := TJ4) (N := 4) (n := 4) (tb_all hT) tin_J4 (tb_all hT _ tw_161)
  obtain ⟨c1, f1, k1⟩ := u_known (args := #[]) (C := RJx4a65c) (T := TJx4a65c) (N := 3) (n := 3) (tb_all hT) tin_Jx4a65c (tb_all hT _ tw_87)
  obtain ⟨c2, f2, k2⟩ := u_known (args := #[]) (C := RX0) (T := TX0) (N := 4) (n := 4) (tb_all hT) tin_X0 (tb_all hT _ tw_113)
  obtain ⟨c3, f3, k3⟩ := u_known (args := #[]) (C := RX2) (T := TX2) (N := 3) (n := 3) (tb_all hT) tin_X2 (tb_all hT _ tw_492)
  obtain ⟨c4, f4, k4⟩ := u_known (args := #[]) (C := RX3) (T := TX3) (N := 3) (n := 3) (tb_all hT) tin_X3 (tb_all hT _ tw_121)
  obtain ⟨c5, f5, k5⟩ := u_known (args := #[]) (C := RX4) (T := TX4) (N := 6) (n := 6) (tb_all hT) tin_X4 (tb_all hT _ tw_222)
  obtain ⟨c6, f6, k6⟩ := u_known (args := #[]) (C := RX5) (T := TX5) (N := 4) (n := 4) (tb_all hT) tin_X5 (tb_all hT _ tw_751)
  obtain ⟨c7, f7, k7⟩ := u_known (args := #[]) (C := RX6) (T := TX6) (N := 5) (n := 5) (tb_all hT) tin_X6 (tb_all hT _ tw_79)
  obtain ⟨c8, f8, k8⟩ := u_known (args := #[]) (C := RX7) (T := TX7) (N := 19) (n := 19) (tb_all hT) tin_X7 (tb_all hT _ tw_834)
  obtain ⟨dC, dI, hKc⟩ : ∃ (dC : Nat → ClassId) (dI : Nat → Nat → Nat), ∀ (k : Nat) (q : vw_C), vwCl[k]? = some q → u_Kn s q.1 q.2.1 q.2.2 (dC k) (dI k) := by
    refine ⟨fun k => match k with | 0 => c0 | 1 => c1 | 2 => c2 | 3 => c3 | 4 => c4 | 5 => c5 | 6 => c6 | 7 => c7 | _ => c8, fun k => match k with | 0 => f0 | 1 => f1 | 2 => f2 | 3 => f3 | 4 => f4 | 5 => f5 | 6 => f6 | 7 => f7 | _ => f8, ?_⟩
    intro k q hq
    match k, hq with
    | 0, hq => cases hq; exact k0
    | 1, hq => cases hq; exact k1
    | 2, hq => cases hq; exact k2
    | 3, hq => cases hq; exact k3
    | 4, hq => cases hq; exact k4
    | 5, hq => cases hq; exact k5
    | 6, hq => cases hq; exact k6
    | 7, hq => cases hq; exact k7
    | 8, hq => cases hq; exact k8
    | k + 9, hq => simp [vwCl] at hq
  obtain ⟨a0, b0, e0, p0, q0, r0⟩ := Cond.arrayClass_spec (tb_all hT (args := #[]) _ tw_191)
  obtain ⟨a1, b1, e1, p1, q1, r1⟩ := Cond.arrayClass_spec (tb_all hT (args := #[]) _ tw_901)
  obtain ⟨a2, b2, e2, p2, q2, r2⟩ := Cond.arrayClass_spec (tb_all hT (args := #[]) _ tw_902)
  have hao : (Cond.arrayOver (.object "java/lang/Object")).before #[Value.ref b] s = true := hts (.arrayOver (.object "java/lang/Object")) (List.mem_of_getElem? (i := 324) (by decide +kernel))
  obtain ⟨e3, a3, b3, p3, -, q3, r3, w3⟩ := Cond.arrayOver_spec hao
  obtain ⟨mi, hmi⟩ := va_Mi.of (hs (.isRef (.mirror "[Ljava/lang/Object;")) (by decide +kernel))
  have hlen : (Term.length (.static "java/util/ArrayList" "DEFAULTCAPACITY_EMPTY_ELEMENTDATA" "[Ljava/lang/Object;")).eval #[Value.ref b] s none [] s = some (.int (Int32.ofNat 0)) := va_eqt (hs (.eq (.length (.static "java/util/ArrayList" "DEFAULTCAPACITY_EMPTY_ELEMENTDATA" "[Ljava/lang/Object;")) (.int 0)) (by decide +kernel))
  obtain ⟨t, ht, hTt⟩ := va_Tof (args := #[Value.ref b]) (tm := .static "java/util/ArrayList" "DEFAULTCAPACITY_EMPTY_ELEMENTDATA" "[Ljava/lang/Object;") (ty := .object "java/lang/Object") (N := 0) (f := fun _ => .null) (A := A0 s) (by decide) (hs (.arrayOf (.static "java/util/ArrayList" "DEFAULTCAPACITY_EMPTY_ELEMENTDATA" "[Ljava/lang/Object;") (.object "java/lang/Object")) (by decide +kernel)) hlen (fun j hj => absurd hj (Nat.not_lt_zero j)) hA
  refine ⟨((dC, dI), (fun k => match k with | 0 => a0 | 1 => a1 | 2 => a2 | _ => a3), fun k => match k with | 0 => t | _ => mi), ⟨⟨hKc, ?_⟩, va_AO.of hao, hmi, va_Dc.of (hts (.declares ⟨"java/lang/Object", "getClass", "()Ljava/lang/Class;"⟩) (List.mem_of_getElem? (i := 1163) (by decide +kernel))), va_Nw.of rfl (hts (.castable "BidLanguage$Rule" "java/lang/Object") (List.mem_of_getElem? (i := 1158) (by decide +kernel))), va_Nw.of rfl (hts (.castable "BidLanguage$MadeCall" "java/lang/Object") (List.mem_of_getElem? (i := 1159) (by decide +kernel)))⟩, ?_⟩
  · intro k q hq
    match k, hq with
    | 0, hq => cases hq; exact ⟨fun n z => ⟨fun k h => (by cases h), b0, q0, e0, r0⟩, p0⟩
    | 1, hq => cases hq; exact ⟨fun n z => ⟨fun k h => (by cases h), b1, q1, e1, r1⟩, p1⟩
    | 2, hq => cases hq; exact ⟨fun n z => ⟨fun k h => (by cases h), b2, q2, e2, r2⟩, p2⟩
    | 3, hq => cases hq; exact ⟨fun n z => ⟨fun k h => (by cases h), b3, q3, e3, r3⟩, b3, e3, q3, r3, p3, w3⟩
    | k + 4, hq => simp [tyL] at hq
  · exact ⟨va_Zref (hts (.laysStatic "java/util/ArrayList" "DEFAULTCAPACITY_EMPTY_ELEMENTDATA" "[Ljava/lang/Object;") (List.mem_of_getElem? (i := 99) (by decide +kernel))) (hts (.initialized "java/util/ArrayList") (List.mem_of_getElem? (i := 58) (by decide +kernel))) ht hA, hTt, va_Zof (hts (.laysStatic "java/lang/String" "COMPACT_STRINGS" "Z") (List.mem_of_getElem? (i := 170) (by decide +kernel))) (hts (.initialized "java/lang/String") (List.mem_of_getElem? (i := 63) (by decide +kernel))) (va_eqi (hs (.eq (.static "java/lang/String" "COMPACT_STRINGS" "Z") (.int 1)) (by decide +kernel))) hA, va_Zqof (hts (.laysStatic "jdk/internal/util/Preconditions" "SIOOBE_FORMATTER" "Ljava/util/function/BiFunction;") (List.mem_of_getElem? (i := 699) (by decide +kernel))) (hts (.initialized "jdk/internal/util/Preconditions") (List.mem_of_getElem? (i := 68) (by decide +kernel))) (hs (.isRef (.static "jdk/internal/util/Preconditions" "SIOOBE_FORMATTER" "Ljava/util/function/BiFunction;")) (by decide +kernel)) hA⟩
