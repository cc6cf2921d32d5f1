/-! THE CLAIM OUT OF ONE WALK OF THE LAW'S BODY. Your part is whole_start (and what it stands on); all else here is the same for every law, but numbers. -/
def R_law : String := "BidLanguageLaw"
def lw_P (b : Addr) (xs : List Int32) (args : Array Value) (s : State) : Prop := args = #[.ref b] ∧ s.IntsAt b xs ∧ xs.length ≤ 2560 ∧ (Jvm.Cond.and given_1 narrow_1).before args s = true
def lw_Q (_ : Array Value) (s : State) (o : Outcome) (t : State) : Prop := o = .returned (some (.int 1)) ∧ Framed s o t [] 600000 7302250
def lw_Z (below : List Frame) (a : Array Value) (s : State) : State → Prop := fun t => ∃ o, t.status = .running ∧ Ended t below o ∧ lw_Q a s o t
/-- the law's own end, with 1 on the stack, nothing written that was there before, its room as the claim has it -/
theorem lw_ret {p : Program} {l : Launch} {e : Env} {s : State} {m : MethodId} {below : List Frame} {meth : Method} {c : Code} {b : Nat} (hx : p.tables.exec = Jvm.exec) (hb : c.code = code) (hr : meth.sig.returnType = ret) (hlocks : meth.locks = false) {pc : Nat} {H : Heap} {ls : Array Slot} (hdg : decode code pc = .ok (.ireturn, 1)) : W p l e room_1 s m #[Value.ref b] below meth c H [] 600000 7302250 (lw_Z below #[Value.ref b] s) (F0 m pc ls [.int 1]) := by
  intro T hT X
  obtain ⟨fs, hret, hrun, hended, hW, hframe⟩ := X.leave (v := some (.int 1)) (hlocks := hlocks) (fun h => by rw [hr] at h; cases h)
  have hmeth' : T.vm.method? m = some meth := X.method'
  refine ⟨T.setFrames fs, ?_, .returned (some (.int 1)), hrun, hended, rfl, ⟨_, rfl⟩, hW, hframe⟩
  jvm_step X.here [X.here.top, hx, hb, hdg, hmeth', hr, ret, narrow_b1]
  (try refine ⟨rfl, ?_⟩); (try refine ⟨rfl, ?_⟩)
  first | (intro acts; rw [hret _ acts rfl rfl rfl]) | rw [hret _ _ rfl rfl rfl]
  exact Steps.refl _
/-- what holds at the law's entry: the machine, the code, the tables' words (any of lw_tbl by 'hts w (by decide +kernel)'), the script of L ints xs at the cell b, what the Statement gives of the start (any of its parts by flat_of_before) -/
def lw_At (p : Program) (s : State) (m : MethodId) (meth : Method) (c : Code) (b L : Nat) (xs : Nat → Int32) : Prop :=
  p.tables.exec = Jvm.exec ∧ c.code = code ∧ meth.sig.returnType = ret ∧ c.maxLocals = 4 ∧ s.vm.findClass R_law = some m.cls ∧ (∀ w ∈ lw_tbl, w.before #[Value.ref b] s = true) ∧ va_X b L xs s s.heap ∧ b < s.heap.size ∧ meth.locks = false ∧ (Jvm.Cond.and given_1 narrow_1).before #[Value.ref b] s = true
/-! the law's two programs side by side: one heap, two known parts that are apart -/
def AW (hp : HP) (sz : Nat) : Nat → Prop := fun q => hp q ≠ none ∨ sz ≤ q
def A0 (s : State) : Nat → Prop := fun q => s.heap.size ≤ q
/-- the component is in the state zC, the reference in the state zR -/
def LI (G : HG) (s : State) (b6 b7 : Nat) (zC zR : ST) (H : Heap) (locs : List Loc) : Prop := ∃ (hpC hpR : HP) (M : Nat → Nat) (sc : Nat → Int32) (ar : Nat → Nat → Int32) (sm : Nat → Int64), Hd G hpC H ∧ CZ G hpC b6 zC ∧ Hd G hpR H ∧ M 0 = b7 ∧ MR G hpR M sc ar sm ∧ MST zR sc ar ∧ (∀ q, hpC q ≠ none → hpR q = none) ∧ (∀ q, hpC q ≠ none → s.heap.size ≤ q) ∧ (∀ q, hpR q ≠ none → s.heap.size ≤ q) ∧ va_S (A0 s) s.heap H locs
theorem hd_kept {G : HG} {hp : HP} {H H1 : Heap} (h : Hd G hp H) (hq : ∀ q e, hp q = some e → H1[q]? = H[q]?) : Hd G hp H1 := fun a e he => (h a e he).kept (hq a e he)
theorem aw_lo {hp : HP} {sz : Nat} : ∀ q, sz ≤ q → AW hp sz q := fun q h => Or.inr h
theorem aw_ow {hp : HP} {sz : Nat} : Ow (AW hp sz) hp := fun a e h => Or.inl (by rw [h]; exact Option.some_ne_none e)
theorem cz_recv {G : HG} {hp : HP} {b6 : Nat} {z : ST} (h : CZ G hp b6 z) : ∃ fs, hp b6 = some (.inr (7, fs)) := by
  obtain ⟨rl, au, pa, e0, e1, eR, cR, mR, gR, RA, al, p0, pw, eA, cA, mA, gA, CA, QA, vb, cv, ml, fb, h⟩ := h
  exact ⟨_, h.1⟩
theorem li_x {G : HG} {s : State} {b6 b7 : Nat} {zC zR : ST} {H : Heap} {locs : List Loc} (h : LI G s b6 b7 zC zR H locs) : va_S (A0 s) s.heap H locs := by
  obtain ⟨hpC, hpR, M, sc, ar, sm, -, -, -, -, -, -, -, -, -, hS⟩ := h
  exact hS
section VLW
variable {p : Program} {l : Launch} {e : Env} {R : Room} {s : State} {m : MethodId} {args : Array Value} {below : List Frame} {meth : Method} {c : Code} {H : Heap} {locs : List Loc} {cells slots : Nat} {Q : State → Prop} {cc : ByteArray} {pc nL : Nat} {ls : Array Slot} {rest st0 : List Value} {G : HG} {own : String}
variable {y : MethodName} {bytes : ByteArray} {maxL n index mc ms k' n' : Nat} {ret : Option FieldType} {rm : Room} {As : List Value} {b6 b7 : Nat} {zC zR z1 : ST}
theorem wp_at2 {A : Nat → Prop} {hp : HP} (X : CX p c cc nL s m own G (A0 s)) (hH : Hd G hp H) (hS : va_S (A0 s) s.heap H locs) (hAB : ∀ q, A q → A0 s q) : ∀ U : State, U.heap = H → s.WarmedH U.vm → WP G A H.size hp U := fun U hU hW => ⟨by rw [hU], tb_moved X.2.2.2.2.1 hW, KK.moved hW.alike X.2.2.2.2.2.1, by rw [hU]; exact hH, (ZZ.at X.2.2.2.2.2.2 hS hW.alike hU).narrow hAB⟩
theorem aw_in {hp : HP} (hS : va_S (A0 s) s.heap H locs) (h1 : ∀ q, hp q ≠ none → s.heap.size ≤ q) : ∀ q, AW hp H.size q → A0 s q := fun q h => by
  rcases h with h | h
  · exact h1 q h
  · exact Nat.le_trans hS.1 h
theorem lc_ri {f : Int32} (X : CX p c cc nL s m own G (A0 s)) (L : LI G s b6 b7 zC zR H locs) (hM : ∀ hp : HP, CZ G hp b6 zC → Met l y [.code y bytes maxL (some .int)] rm (va_Pc (.ref b6 :: As) (RP G hp)) (vp_Si (fun r => r = f)) 0 0 (fun _ => False)) (mf : MF y bytes maxL (some .int) n) (hl : Cond.methodLink own index y ∈ tG) (hi : Cond.instanceMethod y ∈ tG) (hse : Cond.selects RX6 y y ∈ tG) (hRM : RM rm R maxL 0 0) (hsz : ls.size = nL) (hn : As.length = n) (hstack : st0 = As.reverse ++ .ref b6 :: rest) (hW : (rest.map fun v => v.category).sum ≤ 8) (hf : cells + 0 ≤ R.cells ∧ slots + 0 ≤ R.slots) (hdg : decode cc pc = .ok (.invokevirtual index, 3)) (kk : W p l e R s m args below meth c H locs cells slots Q (F0 m (pc + 3) ls (.int f :: rest))) : W p l e R s m args below meth c H locs cells slots Q (F0 m pc ls st0) := by
  obtain ⟨hpC, hpR, M, sc, ar, sm, h1, h2, h3, h4, h5, h6, h7, h8, h9, hS⟩ := L
  obtain ⟨fs, he⟩ := cz_recv h2
  exact on_Si (run_V (C := RX6) X (hM hpC h2) (rp_blind _) (rp_at X h1 hS) (recv X h1 he (ci := 7) rfl) mf hl hi hse hRM hsz hn hstack hW hf hdg) (fun r q => by rw [q]; exact kk)
theorem lc_wi {f : Int32} {post : Int32 → HP → Prop} (X : CX p c cc nL s m own G (A0 s)) (L : LI G s b6 b7 zC zR H locs) (hpo : ∀ r hp1, post r hp1 → r = f ∧ CZ G hp1 b6 z1) (hM : ∀ (A : Nat → Prop) (hp : HP), (∀ q, H.size ≤ q → A q) → Ow A hp → CZ G hp b6 zC → Met l y [.code y bytes maxL (some .int)] rm (va_Pc (.ref b6 :: As) (WP G A H.size hp)) (va_Qi post (WB G A) A) mc ms A) (mf : MF y bytes maxL (some .int) n) (hl : Cond.methodLink own index y ∈ tG) (hi : Cond.instanceMethod y ∈ tG) (hse : Cond.selects RX6 y y ∈ tG) (hRM : RM rm R maxL mc ms) (hsz : ls.size = nL) (hn : As.length = n) (hstack : st0 = As.reverse ++ .ref b6 :: rest) (hW : (rest.map fun v => v.category).sum ≤ 8) (hf : cells + mc ≤ R.cells ∧ slots + ms ≤ R.slots) (hdg : decode cc pc = .ok (.invokevirtual index, 3)) (kk : ∀ (H1 : Heap) (locs1 : List Loc), LI G s b6 b7 z1 zR H1 locs1 → W p l e R s m args below meth c H1 locs1 (cells + mc) (slots + ms) Q (F0 m (pc + 3) ls (.int f :: rest))) : W p l e R s m args below meth c H locs cells slots Q (F0 m pc ls st0) := by
  obtain ⟨hpC, hpR, M, sc, ar, sm, h1, h2, h3, h4, h5, h6, h7, h8, h9, hS⟩ := L
  obtain ⟨fs, he⟩ := cz_recv h2
  refine va_calli (run_V (C := RX6) X (hM (AW hpC H.size) hpC aw_lo aw_ow h2) (wp_blind _) (wp_at2 X h1 hS (aw_in hS h8)) (recv X h1 he (ci := 7) rfl) mf hl hi hse hRM hsz hn hstack hW hf hdg) hS (fun q _ h => aw_in hS h8 q h) (aw_in hS h8) (fun r hp1 t H1 locs1 ht _ hpo1 hB hz hk hS1 => ?_)
  obtain ⟨rfl, hC1⟩ := hpo r hp1 hpo1
  refine kk H1 locs1 ⟨hp1, hpR, M, sc, ar, sm, by rw [← ht]; exact hB.1, hC1, hd_kept h3 (fun q x hx => hk q (h3.lt hx) (fun hw => ?_)), h4, h5, h6, fun q hq => ?_, fun q hq => ?_, h9, hS1⟩
  · rcases hw with hw | hw
    · rw [h7 q hw] at hx; cases hx
    · exact Nat.not_lt.mpr hw (h3.lt hx)
  · obtain ⟨x, hx⟩ := Option.ne_none_iff_exists'.mp hq
    rcases hB.2 q x hx with hw | hw
    · exact h7 q hw
    · cases hv : hpR q with
      | none => rfl
      | some x2 => exact absurd (h3.lt hv) (Nat.not_lt.mpr hw)
  · obtain ⟨x, hx⟩ := Option.ne_none_iff_exists'.mp hq
    exact aw_in hS h8 q (hB.2 q x hx)
theorem lr_ri {f : Int32} (X : CX p c cc nL s m own G (A0 s)) (L : LI G s b6 b7 zC zR H locs) (hM : ∀ (hp : HP) (M : Nat → Nat) (sc : Nat → Int32) (ar : Nat → Nat → Int32) (sm : Nat → Int64), M 0 = b7 → MR G hp M sc ar sm → MST zR sc ar → Met l y [.code y bytes maxL (some .int)] rm (va_Pc (.ref (M 0) :: As) (RP G hp)) (vp_Si (fun r => r = f)) 0 0 (fun _ => False)) (mf : MF y bytes maxL (some .int) n) (hl : Cond.methodLink own index y ∈ tG) (hi : Cond.instanceMethod y ∈ tG) (hse : Cond.selects RX7 y y ∈ tG) (hRM : RM rm R maxL 0 0) (hsz : ls.size = nL) (hn : As.length = n) (hstack : st0 = As.reverse ++ .ref b7 :: rest) (hW : (rest.map fun v => v.category).sum ≤ 8) (hf : cells + 0 ≤ R.cells ∧ slots + 0 ≤ R.slots) (hdg : decode cc pc = .ok (.invokevirtual index, 3)) (kk : W p l e R s m args below meth c H locs cells slots Q (F0 m (pc + 3) ls (.int f :: rest))) : W p l e R s m args below meth c H locs cells slots Q (F0 m pc ls st0) := by
  obtain ⟨hpC, hpR, M, sc, ar, sm, h1, h2, h3, h4, h5, h6, h7, h8, h9, hS⟩ := L
  have hm := hM hpR M sc ar sm h4 h5 h6
  rw [h4] at hm
  exact on_Si (run_V (C := RX7) X hm (rp_blind _) (rp_at X h3 hS) (recv X h3 (by rw [← h4]; exact h5.1) (ci := 8) rfl) mf hl hi hse hRM hsz hn hstack hW hf hdg) (fun r q => by rw [q]; exact kk)
theorem lr_wi {f : Int32} {post : (Nat → Nat) → Int32 → HP → Prop} (X : CX p c cc nL s m own G (A0 s)) (L : LI G s b6 b7 zC zR H locs) (hpo : ∀ M r hp1, post M r hp1 → r = f ∧ ∃ sc1 ar1 sm1, MR G hp1 M sc1 ar1 sm1 ∧ MST z1 sc1 ar1) (hM : ∀ (A : Nat → Prop) (hp : HP) (M : Nat → Nat) (sc : Nat → Int32) (ar : Nat → Nat → Int32) (sm : Nat → Int64), (∀ q, H.size ≤ q → A q) → Ow A hp → M 0 = b7 → MR G hp M sc ar sm → MST zR sc ar → Met l y [.code y bytes maxL (some .int)] rm (va_Pc (.ref (M 0) :: As) (WP G A H.size hp)) (va_Qi (post M) (WB G A) A) mc ms A) (mf : MF y bytes maxL (some .int) n) (hl : Cond.methodLink own index y ∈ tG) (hi : Cond.instanceMethod y ∈ tG) (hse : Cond.selects RX7 y y ∈ tG) (hRM : RM rm R maxL mc ms) (hsz : ls.size = nL) (hn : As.length = n) (hstack : st0 = As.reverse ++ .ref b7 :: rest) (hW : (rest.map fun v => v.category).sum ≤ 8) (hf : cells + mc ≤ R.cells ∧ slots + ms ≤ R.slots) (hdg : decode cc pc = .ok (.invokevirtual index, 3)) (kk : ∀ (H1 : Heap) (locs1 : List Loc), LI G s b6 b7 zC z1 H1 locs1 → W p l e R s m args below meth c H1 locs1 (cells + mc) (slots + ms) Q (F0 m (pc + 3) ls (.int f :: rest))) : W p l e R s m args below meth c H locs cells slots Q (F0 m pc ls st0) := by
  obtain ⟨hpC, hpR, M, sc, ar, sm, h1, h2, h3, h4, h5, h6, h7, h8, h9, hS⟩ := L
  have hm := hM (AW hpR H.size) hpR M sc ar sm aw_lo aw_ow h4 h5 h6
  rw [h4] at hm
  refine va_calli (run_V (C := RX7) X hm (wp_blind _) (wp_at2 X h3 hS (aw_in hS h9)) (recv X h3 (by rw [← h4]; exact h5.1) (ci := 8) rfl) mf hl hi hse hRM hsz hn hstack hW hf hdg) hS (fun q _ h => aw_in hS h9 q h) (aw_in hS h9) (fun r hp1 t H1 locs1 ht _ hpo1 hB hz hk hS1 => ?_)
  obtain ⟨rfl, sc1, ar1, sm1, g1, g2⟩ := hpo M r hp1 hpo1
  refine kk H1 locs1 ⟨hpC, hp1, M, sc1, ar1, sm1, hd_kept h1 (fun q x hx => hk q (h1.lt hx) (fun hw => ?_)), h2, by rw [← ht]; exact hB.1, h4, g1, g2, fun q hq => ?_, h8, fun q hq => ?_, hS1⟩
  · rcases hw with hw | hw
    · exact hw (h7 q (by rw [hx]; exact Option.some_ne_none x))
    · exact Nat.not_lt.mpr hw (h1.lt hx)
  · obtain ⟨x2, hx2⟩ := Option.ne_none_iff_exists'.mp hq
    cases hv : hp1 q with
    | none => rfl
    | some x =>
      rcases hB.2 q x hv with hw | hw
      · exact absurd (h7 q hq) hw
      · exact absurd (h1.lt hx2) (Nat.not_lt.mpr hw)
  · obtain ⟨x, hx⟩ := Option.ne_none_iff_exists'.mp hq
    exact aw_in hS h9 q (hB.2 q x hx)
theorem lc_rl {f : Int64} (X : CX p c cc nL s m own G (A0 s)) (L : LI G s b6 b7 zC zR H locs) (hM : ∀ hp : HP, CZ G hp b6 zC → Met l y [.code y bytes maxL (some .long)] rm (va_Pc (.ref b6 :: As) (RP G hp)) (vp_Sl (fun r => r = f)) 0 0 (fun _ => False)) (mf : MF y bytes maxL (some .long) n) (hl : Cond.methodLink own index y ∈ tG) (hi : Cond.instanceMethod y ∈ tG) (hse : Cond.selects RX6 y y ∈ tG) (hRM : RM rm R maxL 0 0) (hsz : ls.size = nL) (hn : As.length = n) (hstack : st0 = As.reverse ++ .ref b6 :: rest) (hW : (rest.map fun v => v.category).sum ≤ 8) (hf : cells + 0 ≤ R.cells ∧ slots + 0 ≤ R.slots) (hdg : decode cc pc = .ok (.invokevirtual index, 3)) (kk : W p l e R s m args below meth c H locs cells slots Q (F0 m (pc + 3) ls (.long f :: rest))) : W p l e R s m args below meth c H locs cells slots Q (F0 m pc ls st0) := by
  obtain ⟨hpC, hpR, M, sc, ar, sm, h1, h2, h3, h4, h5, h6, h7, h8, h9, hS⟩ := L
  obtain ⟨fs, he⟩ := cz_recv h2
  exact on_Sl (run_V (C := RX6) X (hM hpC h2) (rp_blind _) (rp_at X h1 hS) (recv X h1 he (ci := 7) rfl) mf hl hi hse hRM hsz hn hstack hW hf hdg) (fun r q => by rw [q]; exact kk)
theorem lr_wl {f : Int64} {post : (Nat → Nat) → Int64 → HP → Prop} (X : CX p c cc nL s m own G (A0 s)) (L : LI G s b6 b7 zC zR H locs) (hpo : ∀ M r hp1, post M r hp1 → r = f ∧ ∃ sc1 ar1 sm1, MR G hp1 M sc1 ar1 sm1 ∧ MST z1 sc1 ar1) (hM : ∀ (A : Nat → Prop) (hp : HP) (M : Nat → Nat) (sc : Nat → Int32) (ar : Nat → Nat → Int32) (sm : Nat → Int64), (∀ q, H.size ≤ q → A q) → Ow A hp → M 0 = b7 → MR G hp M sc ar sm → MST zR sc ar → Met l y [.code y bytes maxL (some .long)] rm (va_Pc (.ref (M 0) :: As) (WP G A H.size hp)) (va_Ql (post M) (WB G A) A) mc ms A) (mf : MF y bytes maxL (some .long) n) (hl : Cond.methodLink own index y ∈ tG) (hi : Cond.instanceMethod y ∈ tG) (hse : Cond.selects RX7 y y ∈ tG) (hRM : RM rm R maxL mc ms) (hsz : ls.size = nL) (hn : As.length = n) (hstack : st0 = As.reverse ++ .ref b7 :: rest) (hW : (rest.map fun v => v.category).sum ≤ 8) (hf : cells + mc ≤ R.cells ∧ slots + ms ≤ R.slots) (hdg : decode cc pc = .ok (.invokevirtual index, 3)) (kk : ∀ (H1 : Heap) (locs1 : List Loc), LI G s b6 b7 zC z1 H1 locs1 → W p l e R s m args below meth c H1 locs1 (cells + mc) (slots + ms) Q (F0 m (pc + 3) ls (.long f :: rest))) : W p l e R s m args below meth c H locs cells slots Q (F0 m pc ls st0) := by
  obtain ⟨hpC, hpR, M, sc, ar, sm, h1, h2, h3, h4, h5, h6, h7, h8, h9, hS⟩ := L
  have hm := hM (AW hpR H.size) hpR M sc ar sm aw_lo aw_ow h4 h5 h6
  rw [h4] at hm
  refine va_calll (run_V (C := RX7) X hm (wp_blind _) (wp_at2 X h3 hS (aw_in hS h9)) (recv X h3 (by rw [← h4]; exact h5.1) (ci := 8) rfl) mf hl hi hse hRM hsz hn hstack hW hf hdg) hS (fun q _ h => aw_in hS h9 q h) (aw_in hS h9) (fun r hp1 t H1 locs1 ht _ hpo1 hB hz hk hS1 => ?_)
  obtain ⟨rfl, sc1, ar1, sm1, g1, g2⟩ := hpo M r hp1 hpo1
  refine kk H1 locs1 ⟨hpC, hp1, M, sc1, ar1, sm1, hd_kept h1 (fun q x hx => hk q (h1.lt hx) (fun hw => ?_)), h2, by rw [← ht]; exact hB.1, h4, g1, g2, fun q hq => ?_, h8, fun q hq => ?_, hS1⟩
  · rcases hw with hw | hw
    · exact hw (h7 q (by rw [hx]; exact Option.some_ne_none x))
    · exact Nat.not_lt.mpr hw (h1.lt hx)
  · obtain ⟨x2, hx2⟩ := Option.ne_none_iff_exists'.mp hq
    cases hv : hp1 q with
    | none => rfl
    | some x =>
      rcases hB.2 q x hv with hw | hw
      · exact absurd (h7 q hq) hw
      · exact absurd (h1.lt hx2) (Nat.not_lt.mpr hw)
  · obtain ⟨x, hx⟩ := Option.ne_none_iff_exists'.mp hq
    exact aw_in hS h9 q (hB.2 q x hx)
theorem li_uq (L : LI G s b6 b7 zC zR H locs) : UQ zC.1 zC.2.1 := by
  obtain ⟨hpC, hpR, M, sc, ar, sm, -, h2, -⟩ := L
  obtain ⟨rl, au, pa, e0, e1, eR, cR, mR, gR, RA, al, p0, pw, eA, cA, mA, gA, CA, QA, vb, cv, ml, fb, h⟩ := h2
  exact h.2.2.2.2.2.2
end VLW
theorem lcI_self (x : Int64) : lcI x x = 0 := by
  unfold lcI
  rw [if_neg (Int64.lt_irrefl), if_pos rfl]
theorem long_of (x : Int64) : ∃ C : Nat, C < 2 ^ 64 ∧ x = lN C := ⟨x.toBitVec.toNat, x.toBitVec.isLt, by
  apply Int64.toBitVec_inj.mp
  simp [lN]⟩
