/-! comparing longs -/
def lcI (x y : Int64) : Int32 := if y < x then 1 else if x = y then 0 else -1
section VLC
variable {p : Program} {l : Launch} {e : Env} {R : Room} {s : State} {m : MethodId} {args : Array Value} {below : List Frame} {meth : Method} {c : Code} {H : Heap} {locs : List Loc} {cells slots : Nat} {Q : State → Prop} {cc : ByteArray} {pc : Nat} {ls : Array Slot} {rest : List Value}
theorem r_lcmp (hexec : p.tables.exec = Jvm.exec) (hb : c.code = cc) {x y : Int64} (hdg : decode cc pc = .ok (.lcmp, 1))
    (k : W p l e R s m args below meth c H locs cells slots Q (F0 m (pc + 1) ls (.int (lcI x y) :: rest))) : W p l e R s m args below meth c H locs cells slots Q (F0 m pc ls (.long y :: .long x :: rest)) := by
  intro T hT X
  obtain ⟨t, a, b⟩ := k T hT X
  refine ⟨t, ?_, b⟩
  unfold lcI at a
  jvm_step X.here [X.here.top, hexec, hb, hdg]
  by_cases h1 : y < x
  · rw [if_pos h1] at a ⊢
    exact a
  · rw [if_neg h1] at a ⊢
    by_cases h2 : x = y
    · rw [if_pos h2] at a ⊢
      exact a
    · rw [if_neg h2] at a ⊢
      exact a
end VLC
theorem lcI_lt {x y : Int64} : lcI x y < 0 ↔ x < y := by
  have e : x < y ↔ x.toInt < y.toInt := Int64.lt_iff_toInt_lt
  unfold lcI
  by_cases h1 : y < x
  · rw [if_pos h1, e]
    rw [Int64.lt_iff_toInt_lt] at h1
    exact ⟨fun q => absurd q (by decide), fun q => by omega⟩
  · rw [if_neg h1, e]
    rw [Int64.lt_iff_toInt_lt] at h1
    by_cases h2 : x = y
    · rw [if_pos h2]
      have := congrArg Int64.toInt h2
      exact ⟨fun q => absurd q (by decide), fun q => by omega⟩
    · rw [if_neg h2]
      have : ¬ x.toInt = y.toInt := fun q => h2 (Int64.toInt_inj.mp q)
      exact ⟨fun _ => by omega, fun _ => by decide⟩
