/-! the component in a larger known part: apart from the rows of the law (their addresses: ex) -/
def CP (G : HG) (hp : HP) (ex : List Nat) (b6 : Nat) (z : ST) : Prop := ∃ hpC : HP, CZ G hpC b6 z ∧ (∀ q e, hpC q = some e → hp q = some e) ∧ ∀ q, q ∈ ex → hpC q = none ∧ hp q ≠ none
theorem cp_up {G : HG} {hp hp1 : HP} {ex : List Nat} {b6 : Nat} {z : ST} {a : Nat} {x : va_E} (h : CP G hp ex b6 z) (e : hp1 = va_up hp a (some x)) (ha : a ∈ ex) : CP G hp1 ex b6 z := by
  subst e
  obtain ⟨hpC, h1, h2, h3⟩ := h
  refine ⟨hpC, h1, fun q e hq => ?_, fun q hq => ⟨(h3 q hq).1, ?_⟩⟩
  · by_cases c : q = a
    · subst c
      rw [(h3 q ha).1] at hq
      cases hq
    · rw [va_up_ne _ _ c]; exact h2 q e hq
  · by_cases c : q = a
    · subst c
      rw [va_up_self]; exact Option.some_ne_none x
    · rw [va_up_ne _ _ c]; exact (h3 q hq).2
theorem cp_new {G : HG} {hp hp1 : HP} {ex : List Nat} {b6 : Nat} {z : ST} {a : Nat} {x : va_E} (h : CP G hp ex b6 z) (e : hp1 = va_up hp a (some x)) (hn : hp a = none) : CP G hp1 (a :: ex) b6 z := by
  subst e
  obtain ⟨hpC, h1, h2, h3⟩ := h
  refine ⟨hpC, h1, fun q e hq => ?_, fun q hq => ?_⟩
  · rw [va_up_ne _ _ (fun c => by subst c; rw [h2 q e hq] at hn; cases hn)]; exact h2 q e hq
  · rcases List.mem_cons.mp hq with c | c
    · subst c
      refine ⟨?_, by rw [va_up_self]; exact Option.some_ne_none x⟩
      cases hv : hpC q with
      | none => rfl
      | some e => rw [h2 q e hv] at hn; cases hn
    · refine ⟨(h3 q c).1, ?_⟩
      rw [va_up_ne _ _ (fun d => by subst d; exact (h3 q c).2 hn)]
      exact (h3 q c).2
theorem cp_sub {G : HG} {hp hp1 : HP} {ex ex1 : List Nat} {b6 : Nat} {z : ST} (h : CP G hp ex b6 z) (hk : ∀ q e, hp q = some e → hp1 q = some e) (hs : ∀ q, q ∈ ex1 → q ∈ ex) : CP G hp1 ex1 b6 z := by
  obtain ⟨hpC, h1, h2, h3⟩ := h
  refine ⟨hpC, h1, fun q e hq => hk q e (h2 q e hq), fun q hq => ⟨(h3 q (hs q hq)).1, ?_⟩⟩
  obtain ⟨x, hx⟩ := Option.ne_none_iff_exists'.mp (h3 q (hs q hq)).2
  rw [hk q x hx]; exact Option.some_ne_none x
theorem cp_uq {G : HG} {hp : HP} {ex : List Nat} {b6 : Nat} {z : ST} (h : CP G hp ex b6 z) : z.1 ≤ 24 ∧ z.2.2.2.1 ≤ 12 ∧ ∀ i, i < 2 → z.2.2.1 i ≤ 1048575 := by
  obtain ⟨hpC, h1, -⟩ := h
  obtain ⟨rl, au, pa, e0, e1, eR, cR, mR, gR, RA, al, p0, pw, eA, cA, mA, gA, CA, QA, vb, cv, ml, fb, h⟩ := h1
  exact ⟨h.2.1.2.2.1, h.2.2.1.2.2.2.1, fun i hi => (h.2.2.2.2.1.2 i hi).1⟩
def AW (hp : HP) (sz : Nat) : Nat → Prop := fun q => hp q ≠ none ∨ sz ≤ q
theorem hd_kept {G : HG} {hp : HP} {H H1 : Heap} (h : Hd G hp H) (hq : ∀ q e, hp q = some e → H1[q]? = H[q]?) : Hd G hp H1 := fun a e he => (h a e he).kept (hq a e he)
theorem hd_sub {G : HG} {hp hpC : HP} {H : Heap} (h : Hd G hp H) (hs : ∀ q e, hpC q = some e → hp q = some e) : Hd G hpC H := fun a e he => h a e (hs a e he)
theorem aw_lo {hp : HP} {sz : Nat} : ∀ q, sz ≤ q → AW hp sz q := fun q h => Or.inr h
theorem aw_ow {hp : HP} {sz : Nat} : Ow (AW hp sz) hp := fun a e h => Or.inl (by rw [h]; exact Option.some_ne_none e)
theorem cz_recv {G : HG} {hp : HP} {b6 : Nat} {z : ST} (h : CZ G hp b6 z) : ∃ fs, hp b6 = some (.inr (7, fs)) := by
  obtain ⟨rl, au, pa, e0, e1, eR, cR, mR, gR, RA, al, p0, pw, eA, cA, mA, gA, CA, QA, vb, cv, ml, fb, h⟩ := h
  exact ⟨_, h.1⟩
section VLW
variable {p : Program} {l : Launch} {e : Env} {R : Room} {s : State} {m : MethodId} {args : Array Value} {below : List Frame} {meth : Method} {c : Code} {H : Heap} {locs : List Loc} {cells slots : Nat} {Q : State → Prop} {cc : ByteArray} {pc nL : Nat} {ls : Array Slot} {rest st0 : List Value} {G : HG} {A : Nat → Prop} {hp : HP} {own : String}
variable {y : MethodName} {bytes : ByteArray} {maxL n index mc ms k' n' : Nat} {ret : Option FieldType} {rm : Room} {As : List Value} {b6 : Nat} {z z1 : ST} {ex : List Nat}
theorem wp_at2 {B : Nat → Prop} (X : CX p c cc nL s m own G A) (hH : Hd G hp H) (hS : va_S A s.heap H locs) (hAB : ∀ q, B q → A q) : ∀ U : State, U.heap = H → s.WarmedH U.vm → WP G B H.size hp U := fun U hU hW => ⟨by rw [hU], tb_moved X.2.2.2.2.1 hW, KK.moved hW.alike X.2.2.2.2.2.1, by rw [hU]; exact hH, (ZZ.at X.2.2.2.2.2.2 hS hW.alike hU).narrow hAB⟩
theorem lc_ri {f : Int32} (X : CX p c cc nL s m own G A) (hH : Hd G hp H) (hS : va_S A s.heap H locs) (hC : CP G hp ex b6 z) (hM : ∀ hp : HP, CZ G hp b6 z → Met l y [.code y bytes maxL (some .int)] rm (va_Pc (.ref b6 :: As) (RP G hp)) (vp_Si (fun r => r = f)) 0 0 (fun _ => False)) (mf : MF y bytes maxL (some .int) n) (hl : Cond.methodLink own index y ∈ tG) (hi : Cond.instanceMethod y ∈ tG) (hse : Cond.selects RX6 y y ∈ tG) (hRM : RM rm R maxL 0 0) (hsz : ls.size = nL) (hn : As.length = n) (hstack : st0 = As.reverse ++ .ref b6 :: rest) (hW : (rest.map fun v => v.category).sum ≤ 8) (hf : cells + 0 ≤ R.cells ∧ slots + 0 ≤ R.slots) (hdg : decode cc pc = .ok (.invokevirtual index, 3)) (kk : W p l e R s m args below meth c H locs cells slots Q (F0 m (pc + 3) ls (.int f :: rest))) : W p l e R s m args below meth c H locs cells slots Q (F0 m pc ls st0) := by
  obtain ⟨hpC, h2, h3, h4⟩ := hC
  obtain ⟨fs, he⟩ := cz_recv h2
  have h1 := hd_sub hH h3
  exact on_Si (run_V (C := RX6) X (hM hpC h2) (rp_blind _) (rp_at X h1 hS) (recv X h1 he (ci := 7) rfl) mf hl hi hse hRM hsz hn hstack hW hf hdg) (fun r q => by rw [q]; exact kk)
theorem lc_rl {f : Int64} (X : CX p c cc nL s m own G A) (hH : Hd G hp H) (hS : va_S A s.heap H locs) (hC : CP G hp ex b6 z) (hM : ∀ hp : HP, CZ G hp b6 z → Met l y [.code y bytes maxL (some .long)] rm (va_Pc (.ref b6 :: As) (RP G hp)) (vp_Sl (fun r => r = f)) 0 0 (fun _ => False)) (mf : MF y bytes maxL (some .long) n) (hl : Cond.methodLink own index y ∈ tG) (hi : Cond.instanceMethod y ∈ tG) (hse : Cond.selects RX6 y y ∈ tG) (hRM : RM rm R maxL 0 0) (hsz : ls.size = nL) (hn : As.length = n) (hstack : st0 = As.reverse ++ .ref b6 :: rest) (hW : (rest.map fun v => v.category).sum ≤ 8) (hf : cells + 0 ≤ R.cells ∧ slots + 0 ≤ R.slots) (hdg : decode cc pc = .ok (.invokevirtual index, 3)) (kk : W p l e R s m args below meth c H locs cells slots Q (F0 m (pc + 3) ls (.long f :: rest))) : W p l e R s m args below meth c H locs cells slots Q (F0 m pc ls st0) := by
  obtain ⟨hpC, h2, h3, h4⟩ := hC
  obtain ⟨fs, he⟩ := cz_recv h2
  have h1 := hd_sub hH h3
  exact on_Sl (run_V (C := RX6) X (hM hpC h2) (rp_blind _) (rp_at X h1 hS) (recv X h1 he (ci := 7) rfl) mf hl hi hse hRM hsz hn hstack hW hf hdg) (fun r q => by rw [q]; exact kk)
theorem lc_wi {f : Int32} {post : Int32 → HP → Prop} (X : CX p c cc nL s m own G A) (hA : ∀ q, s.heap.size ≤ q → A q) (hWS : WS s G A hp H locs) (hC : CP G hp ex b6 z) (hpo : ∀ r hp1, post r hp1 → r = f ∧ CZ G hp1 b6 z1) (hM : ∀ (A : Nat → Prop) (hp : HP), (∀ q, H.size ≤ q → A q) → Ow A hp → CZ G hp b6 z → Met l y [.code y bytes maxL (some .int)] rm (va_Pc (.ref b6 :: As) (WP G A H.size hp)) (va_Qi post (WB G A) A) mc ms A) (mf : MF y bytes maxL (some .int) n) (hl : Cond.methodLink own index y ∈ tG) (hi : Cond.instanceMethod y ∈ tG) (hse : Cond.selects RX6 y y ∈ tG) (hRM : RM rm R maxL mc ms) (hsz : ls.size = nL) (hn : As.length = n) (hstack : st0 = As.reverse ++ .ref b6 :: rest) (hW : (rest.map fun v => v.category).sum ≤ 8) (hf : cells + mc ≤ R.cells ∧ slots + ms ≤ R.slots) (hdg : decode cc pc = .ok (.invokevirtual index, 3)) (kk : ∀ (hp1 : HP) (H1 : Heap) (locs1 : List Loc), WS s G A hp1 H1 locs1 → CP G hp1 ex b6 z1 → (∀ q, q ∈ ex → hp1 q = hp q) → W p l e R s m args below meth c H1 locs1 (cells + mc) (slots + ms) Q (F0 m (pc + 3) ls (.int f :: rest))) : W p l e R s m args below meth c H locs cells slots Q (F0 m pc ls st0) := by
  obtain ⟨hH, hO, hS⟩ := hWS
  obtain ⟨hpC, h2, h3, h4⟩ := hC
  obtain ⟨fs, he⟩ := cz_recv h2
  have h1 := hd_sub hH h3
  have hin : ∀ q, AW hpC H.size q → A q := fun q h => by
    rcases h with h | h
    · obtain ⟨x, hx⟩ := Option.ne_none_iff_exists'.mp h
      exact hO q x (h3 q x hx)
    · exact hA q (Nat.le_trans hS.1 h)
  refine va_calli (run_V (C := RX6) X (hM (AW hpC H.size) hpC aw_lo aw_ow h2) (wp_blind _) (wp_at2 X h1 hS hin) (recv X h1 he (ci := 7) rfl) mf hl hi hse hRM hsz hn hstack hW hf hdg) hS (fun q _ h => hin q h) hin (fun r hp1 t H1 locs1 ht _ hpo1 hB hz hk hS1 => ?_)
  obtain ⟨rfl, hC1⟩ := hpo r hp1 hpo1
  have hnw : ∀ q, q ∈ ex → ¬ AW hpC H.size q := fun q hq hw => by
    rcases hw with hw | hw
    · exact hw (h4 q hq).1
    · obtain ⟨x, hx⟩ := Option.ne_none_iff_exists'.mp (h4 q hq).2
      exact Nat.not_lt.mpr hw (hH.lt hx)
  have hno : ∀ q, q ∈ ex → hp1 q = none := fun q hq => by
    cases hv : hp1 q with
    | none => rfl
    | some x => exact absurd (hB.2 q x hv) (hnw q hq)
  refine kk (fun q => if q ∈ ex then hp q else hp1 q) H1 locs1 ⟨fun a x ha => ?_, fun a x ha => ?_, hS1⟩ ⟨hp1, hC1, fun q x hq => ?_, fun q hq => ⟨hno q hq, ?_⟩⟩ (fun q hq => if_pos hq)
  · by_cases c9 : a ∈ ex
    · replace ha : (if a ∈ ex then hp a else hp1 a) = some x := ha
      rw [if_pos c9] at ha
      exact (hH a x ha).kept (hk a (hH.lt ha) (hnw a c9))
    · replace ha : (if a ∈ ex then hp a else hp1 a) = some x := ha
      rw [if_neg c9] at ha
      have := hB.1 a x ha
      rw [ht] at this
      exact this
  · by_cases c9 : a ∈ ex
    · replace ha : (if a ∈ ex then hp a else hp1 a) = some x := ha
      rw [if_pos c9] at ha
      exact hO a x ha
    · replace ha : (if a ∈ ex then hp a else hp1 a) = some x := ha
      rw [if_neg c9] at ha
      exact hin a (hB.2 a x ha)
  · show (if q ∈ ex then hp q else hp1 q) = some x
    rw [if_neg (fun c9 => by rw [hno q c9] at hq; cases hq)]
    exact hq
  · show (if q ∈ ex then hp q else hp1 q) ≠ none
    rw [if_pos hq]
    exact (h4 q hq).2
end VLW
/-! the component's answers, where the arguments are right -/
theorem inI_ne {x : Nat} {hi : Int} (h : (x : Int) ≤ hi) (hx : x < 2 ^ 31) : ¬ inI (nI x) 0 hi = 0 := by
  unfold inI
  rw [nI_toInt hx, if_pos ⟨by omega, h⟩]
  decide
theorem fh_0 {hd : Nat → Nat} {x : Nat} (h : x < 2) : fHand hd (nI x) 0 = nI (hd x) := by
  unfold fHand
  rw [if_neg (inI_ne (by omega) (by omega)), if_neg (show ¬ inI (0 : Int32) 0 5 = 0 by decide), if_pos (show tn 0 = 0 by decide), tn_n (by omega)]
theorem fs_0 {n k : Nat} {cs : Nat → Nat → Int32} {sk : Bool} {pn : Nat} : fState n k cs sk pn 0 = nI k := if_pos rfl
theorem fs_1 {n k : Nat} {cs : Nat → Nat → Int32} {sk : Bool} {pn : Nat} : fState n k cs sk pn 1 = cs k 2 := (if_neg (by decide)).trans (if_pos rfl)
theorem fs_2 {n k : Nat} {cs : Nat → Nat → Int32} {sk : Bool} {pn : Nat} : fState n k cs sk pn 2 = cs k 4 := (if_neg (by decide)).trans ((if_neg (by decide)).trans (if_pos rfl))
theorem fs_3 {n k : Nat} {cs : Nat → Nat → Int32} {sk : Bool} {pn : Nat} : fState n k cs sk pn 3 = cs k 3 := (if_neg (by decide)).trans ((if_neg (by decide)).trans ((if_neg (by decide)).trans (if_pos rfl)))
theorem fs_4 {n k : Nat} {cs : Nat → Nat → Int32} {sk : Bool} {pn : Nat} : fState n k cs sk pn 4 = nI (k % 2) := (if_neg (by decide)).trans ((if_neg (by decide)).trans ((if_neg (by decide)).trans ((if_neg (by decide)).trans (if_pos rfl))))
theorem fs_5 {n k : Nat} {cs : Nat → Nat → Int32} {sk : Bool} {pn : Nat} : fState n k cs sk pn 5 = if sk = true then 2 else bI (ovB k cs sk) := (if_neg (by decide)).trans ((if_neg (by decide)).trans ((if_neg (by decide)).trans ((if_neg (by decide)).trans ((if_neg (by decide)).trans (if_pos rfl)))))
theorem fr_v {n : Nat} {R : Nat → Nat → Nat} {k : Nat} {cs : Nat → Nat → Int32} {sk : Bool} {h : Nat} (hh : h ≤ 1048575) (hz : sizeH h = 5) (ho : ovB k cs sk = false) : fRuleOf n R k cs sk (nI h) = rlF n R h (cs k 2) (cs k 4) (cs k 3) := by
  unfold fRuleOf
  rw [handB_n hh, decide_eq_true hz, if_neg (fun q => by cases q), ho, if_neg (fun q => by cases q), tn_n (by omega)]
theorem fm_v {k : Nat} {cs : Nat → Nat → Int32} {i w : Nat} (hi : i < k) (hk : k ≤ 12) (hw : w ≤ 3) : fMade k cs (nI i) (nI w) = cs i w := by
  unfold fMade
  rw [if_neg (inI_ne (by omega) (by omega)), if_neg (inI_ne (by omega) (by omega)), tn_n (by omega), tn_n (by omega)]
theorem fn_v {n : Nat} {R : Nat → Nat → Nat} {k : Nat} {cs : Nat → Nat → Int32} {sk : Bool} {x kn : Nat} (hx : x < 2) (hk : kn ≤ 1048575) : fHands n R k cs sk (nI x) (nI kn) = nI (cntF (hidB n R k cs sk x kn) 15504) := by
  unfold fHands
  rw [if_neg (inI_ne (by omega) (by omega)), if_neg (inI_ne (by omega) (by omega)), tn_n (by omega), tn_n (by omega)]
theorem ff_v {n : Nat} {R : Nat → Nat → Nat} {k : Nat} {cs : Nat → Nat → Int32} {sk : Bool} {x h : Nat} (hx : x < 2) (hh : h ≤ 1048575) (hz : sizeH h = 5) : fFits n R k cs sk (nI x) (nI h) = bI (faB n R k cs sk x h) := by
  unfold fFits
  rw [if_neg (inI_ne (by omega) (by omega)), handB_n hh, decide_eq_true hz, if_neg (fun q => by cases q), tn_n (by omega), tn_n (by omega)]
theorem fw_v {n : Nat} {R : Nat → Nat → Nat} {k : Nat} {cs : Nat → Nat → Int32} {sk : Bool} {x kn w : Nat} (hx : x < 2) (hk : kn ≤ 1048575) (hw : w ≤ 11) : fShown n R k cs sk (nI x) (nI kn) (nI w) = if (shF (hidB n R k cs sk x kn) w 15504).1 = true then nI (shF (hidB n R k cs sk x kn) w 15504).2 else -6 := by
  unfold fShown
  rw [if_neg (inI_ne (by omega) (by omega)), if_neg (fun q => q.elim (inI_ne (by omega) (by omega)) (inI_ne (by omega) (by omega))), tn_n (by omega), tn_n (by omega), tn_n (by omega)]
theorem ft_v {t a b : Nat} (ht : t < 5) (ha : a ≤ 1048575) (hb : b ≤ 1048575) (za : sizeH a = 5) (zb : sizeH b = 5) (hab : a &&& b = 0) : fTricks (nI t) (nI a) (nI b) = nI (trN t a b) := by
  unfold fTricks
  rw [handB_n ha, handB_n hb, decide_eq_true za, decide_eq_true zb, tn_n (by omega), tn_n (by omega), tn_n (by omega), if_neg]
  intro q
  rcases q with q | q | q | q
  · exact inI_ne (x := t) (hi := 4) (by omega) (by omega) q
  · cases q
  · cases q
  · exact q hab
