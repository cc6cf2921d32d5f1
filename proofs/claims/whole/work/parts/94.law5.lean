/-! the law from its entry -/
set_option maxHeartbeats 4000000 in
theorem whole_start {p : Program} {e : Env} {s : State} {m : MethodId} {below : List Frame} {meth : Method} {c : Code} (l : Launch) (hflags : l.flags = flags0) {b L : Nat} {xs : Nat → Int32} (hL : L ≤ 2560) (C0 : lw_At p s m meth c b L xs) : W p l e room_1 s m #[Value.ref b] below meth c s.heap [] 0 0 (lw_Z below #[Value.ref b] s) (entryFrame m ([Value.ref b] : List Value).toArray 4) := by
  obtain ⟨hx, hb, hr, hml, hown, hts, hX, hbl, hlk, hgv⟩ := id C0
  obtain ⟨G, hKK, hZZ⟩ := law_world hts hgv
  have X : CX p c cL_law 4 s m R_law G (A0 s) := ⟨hx, hb, hml, hown, law_tb hts, hKK, hZZ⟩
  have hA : ∀ q : Nat, s.heap.size ≤ q → A0 s q := fun _ h => h
  have hW : WS s G (A0 s) (fun _ => none) s.heap [] := ⟨fun a x h => (by cases h), fun a x h => (by cases h), va_S.rf⟩
  have hl := lv_entry ([.ref b]) (n := 4) (Nat.le_of_ble_eq_true rfl)
  rw [lg_entry_eq]
  generalize (lg_sl ([.ref b]) ++ List.replicate (4 - (lg_sl ([.ref b])).length) Slot.unset).toArray = ls at hl ⊢
  have hl : lv_has ls 4 [(0, .ref b)] := hl
  refine r_new (k := 1) (n := 5) (fs := [.null, .null, .null, .int 0, .int 0]) (hp := fun _ => none) X hA hW (C := RX6) (T := TX6) (N := 5) (ci := 7) rfl tin_X6 tyX6_ok tw_78 tw_79 tw_55 (fun j hj => by rcases (show j = 0 ∨ j = 1 ∨ j = 2 ∨ j = 3 ∨ j = 4 by omega) with rfl | rfl | rfl | rfl | rfl <;> rfl) (by omega) (by omega) (Nat.le_of_ble_eq_true rfl) (Nat.le_of_ble_eq_true rfl) dL_law_0 (fun q6 hp1 H hW eh hn => ?_)
  refine lv_dup X.1 X.2.1 dL_law_3 rfl ?_
  have f6 : hp1 q6 = some (.inr (7, [.null, .null, .null, .int 0, .int 0])) := by rw [eh]; exact va_up_self _ _ _
  refine on_Wv (k' := 7) (n' := 38) (run_I (As := []) (rest := [.ref q6]) X (c_X6_init l G (A0 s) hp1 H.size (fun q h => hA q (Nat.le_trans hW.2.2.1 h)) hW.2.1 q6 f6) (wp_blind _) (wp_at X hW.1 hW.2.2) mf_X6_init tw_80 tw_81 rfl ⟨rfl, rfl, Nat.le_of_ble_eq_true rfl, Nat.le_of_ble_eq_true rfl⟩ hl.1 rfl rfl (Nat.le_of_ble_eq_true rfl) ⟨Nat.le_of_ble_eq_true rfl, Nat.le_of_ble_eq_true rfl⟩ dL_law_4) hW (by omega) (by omega) (fun hpC H locs hC hW => ?_)
  refine lv_astore_n (lv' := [(1, .ref q6), (0, .ref b)]) X.1 X.2.1 dL_law_7 rfl hl (by decide) rfl (fun ls hl => ?_)
  refine r_new (k := 8) (n := 57) (fs := [.null, .int 0, .null, .null, .null, .null, .null, .null, .null, .null, .int 0, .int 0, .null, .int 0, .null, .null, .int 0, .int 0, .int 0]) (hp := hpC) X hA hW (C := RX7) (T := TX7) (N := 19) (ci := 8) rfl tin_X7 tyX7_ok tw_833 tw_834 tw_65 (fun j hj => by rcases (show j = 0 ∨ j = 1 ∨ j = 2 ∨ j = 3 ∨ j = 4 ∨ j = 5 ∨ j = 6 ∨ j = 7 ∨ j = 8 ∨ j = 9 ∨ j = 10 ∨ j = 11 ∨ j = 12 ∨ j = 13 ∨ j = 14 ∨ j = 15 ∨ j = 16 ∨ j = 17 ∨ j = 18 by omega) with rfl | rfl | rfl | rfl | rfl | rfl | rfl | rfl | rfl | rfl | rfl | rfl | rfl | rfl | rfl | rfl | rfl | rfl | rfl <;> rfl) (by omega) (by omega) (Nat.le_of_ble_eq_true rfl) (Nat.le_of_ble_eq_true rfl) dL_law_8 (fun q7 hp3 H hW eh hn => ?_)
  refine lv_dup X.1 X.2.1 dL_law_11 rfl ?_
  obtain ⟨hpR, eR⟩ : ∃ hpR : HP, hpR = va_up (fun _ => none) q7 (some (.inr (8, [.null, .int 0, .null, .null, .null, .null, .null, .null, .null, .null, .int 0, .int 0, .null, .int 0, .null, .null, .int 0, .int 0, .int 0]))) := ⟨_, rfl⟩
  have f7 : hpR q7 = some (.inr (8, [.null, .int 0, .null, .null, .null, .null, .null, .null, .null, .null, .int 0, .int 0, .null, .int 0, .null, .null, .int 0, .int 0, .int 0])) := by rw [eR]; exact va_up_self _ _ _
  have nR : ∀ q, q ≠ q7 → hpR q = none := fun q h => by rw [eR, va_up_ne _ _ h]
  have f8 : hp3 q7 = some (.inr (8, [.null, .int 0, .null, .null, .null, .null, .null, .null, .null, .null, .int 0, .int 0, .null, .int 0, .null, .null, .int 0, .int 0, .int 0])) := by rw [eh]; exact va_up_self _ _ _
  have n7 : ∀ q x, hpC q = some x → q ≠ q7 := fun q x h z => by rw [z, hn] at h; cases h
  have h1 : Hd G hpC H := fun a x h => hW.1 a x (by rw [eh, va_up_ne _ _ (n7 a x h)]; exact h)
  have h3 : Hd G hpR H := fun a x h => by
    by_cases z : a = q7
    · subst z
      rw [f7] at h
      exact hW.1 a x (by rw [f8]; exact h)
    · rw [nR a z] at h
      cases h
  have h8 : ∀ q, hpC q ≠ none → s.heap.size ≤ q := fun q h => by
    obtain ⟨x, hx9⟩ := Option.ne_none_iff_exists'.mp h
    exact hW.2.1 q x (by rw [eh, va_up_ne _ _ (n7 q x hx9)]; exact hx9)
  have h9 : ∀ q, hpR q ≠ none → s.heap.size ≤ q := fun q h => by
    by_cases z : q = q7
    · subst z
      exact hW.2.1 q _ f8
    · exact absurd (nR q z) h
  have h7 : ∀ q, hpC q ≠ none → hpR q = none := fun q h => by
    obtain ⟨x, hx9⟩ := Option.ne_none_iff_exists'.mp h
    exact nR q (n7 q x hx9)
  have hS := hW.2.2
  refine va_callv (run_I (As := []) (rest := [.ref q7]) X (c_X7_init l G (AW hpR H.size) hpR H.size aw_lo aw_ow q7 f7) (wp_blind _) (wp_at2 X h3 hS (aw_in hS h9)) mf_X7_init tw_835 tw_836 rfl ⟨rfl, rfl, Nat.le_of_ble_eq_true rfl, Nat.le_of_ble_eq_true rfl⟩ hl.1 rfl rfl (Nat.le_of_ble_eq_true rfl) ⟨Nat.le_of_ble_eq_true rfl, Nat.le_of_ble_eq_true rfl⟩ dL_law_12) hS (fun q _ h => aw_in hS h9 q h) (aw_in hS h9) (fun hp4 t H1 locs1 ht _ hpo1 hB hz hk hS1 => ?_)
  obtain ⟨M, sc, ar, sm, h4, h5, h6⟩ := hpo1
  have L0 : LI G s q6 q7 z0 z0 H1 locs1 := by
    refine ⟨hpC, hp4, M, sc, ar, sm, hd_kept h1 (fun q x hx => hk q (h1.lt hx) (fun hw => ?_)), hC, by rw [← ht]; exact hB.1, h4, h5, h6, fun q hq => ?_, h8, fun q hq => ?_, hS1⟩
    · rcases hw with hw | hw
      · exact hw (h7 q (by rw [hx]; exact Option.some_ne_none x))
      · exact Nat.not_lt.mpr hw (h1.lt hx)
    · obtain ⟨x2, hx2⟩ := Option.ne_none_iff_exists'.mp hq
      cases hv : hp4 q with
      | none => rfl
      | some x =>
        rcases hB.2 q x hv with hw | hw
        · exact absurd (h7 q hq) hw
        · exact absurd (h1.lt hx2) (Nat.not_lt.mpr hw)
    · obtain ⟨x, hx⟩ := Option.ne_none_iff_exists'.mp hq
      exact aw_in hS h9 q (hB.2 q x hx)
  refine lv_astore_n (lv' := [(2, .ref q7), (1, .ref q6), (0, .ref b)]) X.1 X.2.1 dL_law_15 rfl hl (by decide) rfl (fun ls hl => ?_)
  refine lv_iconst (v := 0) X.1 X.2.1 dL_law_16 (by decide) ?_
  refine lv_istore_n (lv' := [(3, .int 0), (2, .ref q7), (1, .ref q6), (0, .ref b)]) X.1 X.2.1 dL_law_17 rfl hl (by decide) rfl (fun ls hl => ?_)
  exact W.widen (by decide) (by decide) (law_loop l X hX hbl hr hlk hL 512 0 0 z0 H1 locs1 ls rfl nI_0.symm L0 (lv_sub hl [3, 2, 1, 0] rfl))
set_option maxHeartbeats 4000000 in
theorem lw_walk (l : Launch) (hflags : l.flags = flags0) (b : Addr) (xs : List Int32) : MetFree l x (headSpec (Jvm.Cond.code x code maxLocals ret :: tables_1) room_1) (lw_P b xs) (fun _ _ _ _ _ => True) lw_Q := by
  refine MetFree.of_bodyS (code := code) (maxLocals := maxLocals) (ret := ret) (by decide) ?_ ?_
  · intro args s m h hn
    obtain ⟨meth, c, h1, h2, h3, h4, h5, h6, -, -⟩ := Cond.code_spec hn (atoms_spec (ws := Jvm.Cond.code x code maxLocals ret :: tables_1) h _ List.mem_cons_self)
    exact ⟨meth, c, h1, h2, h3, h4, h5, h6⟩
  · intro p e s m args below meth c s₁ B hml0 hP _
    obtain ⟨rfl, hx, hbd, hgv⟩ := hP
    obtain ⟨scr, harrAt, hlist, hof, hsmall⟩ := hx
    obtain ⟨hcb, hkn, -, -⟩ := State.arrayAt?_spec harrAt
    have hown : s.vm.findClass R_law = some m.cls := findClass_of_methodNamed B.named
    have hts0 : ∀ c ∈ (Jvm.Cond.code x code maxLocals ret :: tables_1), c.before #[Value.ref b] s = true := atoms_spec (ws := Jvm.Cond.code x code maxLocals ret :: tables_1) B.pre
    have hts : ∀ w ∈ lw_tbl, w.before #[Value.ref b] s = true := k2_hts_sels lw_privs (fun w hw => hts0 w (List.mem_cons_of_mem _ hw)) lw_privs_ok
    have hml : c.maxLocals = 4 := B.maxLocals_eq (hts0 _ List.mem_cons_self)
    have X₀ : Stand p l e room_1 s m #[Value.ref b] below meth c s₁ [] 0 0 := Stand.of_body B
    have hh0 : s₁.heap = s.heap := by rw [B.state]; rfl
    have hsz : scr.slots.size = xs.length := by rw [← Array.length_toList, hlist, List.length_map]
    have hval : ∀ j : Nat, j < xs.length → scr.slots[j]? = some (.int (xs.getD j 0)) := fun j hj => by
      rw [← Array.getElem?_toList, hlist]
      simp [hj]
    have hbl : b < s.heap.size := (Array.getElem?_eq_some_iff.mp hcb).1
    have hX : va_X b xs.length (fun j => xs.getD j 0) s s.heap := ⟨scr, hcb, hof, hkn, hsz, hval⟩
    have K : W p l e room_1 s m #[Value.ref b] below meth c s₁.heap [] 0 0 (lw_Z below #[Value.ref b] s) (entryFrame m ([Value.ref b] : List Value).toArray 4) := by
      rw [hh0]
      exact whole_start l hflags hbd ⟨B.exec, B.bytes, B.returns, hml, hown, hts, hX, hbl, B.notSynchronized, hgv⟩
    obtain ⟨t, a1, o, b1, b2, b3⟩ := K s₁ rfl X₀
    exact ⟨t, o, a1, b1, b2, b3⟩
theorem lw_pre_spec {args : Array Value} {s : State} (h : (Jvm.Cond.and given_1 narrow_1).before args s = true) (hr : rest_1_c.before args s = true) : ∃ (b : Addr) (xs : List Int32), lw_P b xs args s := by
  have hs := flat_of_before _ h
  have hq := flat_of_before _ hr
  have hc : (Cond.count 1).before args s = true := hs _ (by decide +kernel)
  have harr : (Cond.arrayOf (.arg 0) .int).before args s = true := hs _ (by decide +kernel)
  have hle : (Cond.le (.length (.arg 0)) (.int 2560)).before args s = true := hs _ (by decide +kernel)
  have hlen : (Cond.isInt (.length (.arg 0))).before args s = true := hq _ (by decide +kernel)
  have hall : (Cond.all (.arg 0) (.isInt (.elem (.arg 0) (.index 0)))).before args s = true := hq _ (by decide +kernel)
  obtain ⟨b, xs, hb, hx⟩ := State.ints_of_pre rfl harr hlen hall
  have hsm : xs.length < 2 ^ 31 := hx.choose_spec.2.2.2
  have hev : (Term.length (.arg 0)).eval args s none [] s = some (.int xs.length.toInt32) := hx.length_eval hb
  have hv := Cond.le_ints hev (show (Term.int 2560).eval args s none [] s = some (.int 2560) from rfl)
  have hd : xs.length.toInt32 ≤ 2560 := by
    simpa [Cond.before, Cond.holds, hv] using hle
  have hN : xs.length ≤ 2560 := (Int32.ofNat_le_ofNat hsm (by decide)).mp (show Int32.ofNat xs.length ≤ Int32.ofNat 2560 from hd)
  exact ⟨b, xs, Cond.one_arg hc (show args[0]? = some (.ref b) from hb), hx, hN, h⟩
theorem lw_comes (l : Launch) (hflags : l.flags = flags0) : Comes l x (Jvm.Cond.code x code maxLocals ret :: tables_1) room_1 (fun tb e args s => Calls_1 tb e args s ∧ rest_1 tb e args s ∧ Pre_1 tb e args s)
    (fun _ _ args s o t => lw_Q args s o t) := by
  intro p e ha hc hk s m args below hf hfit hheap happ hpre
  obtain ⟨b, xs, hP⟩ := lw_pre_spec hpre.2.2 hpre.2.1
  obtain ⟨k, o, h1, h2, h3, hQ⟩ := lw_walk l hflags b xs p e ha hc hk s m args below hf ((Spec.applies_iff_loose hf).mp happ).1 hP trivial
  exact ⟨k, o, h1, h2, h3, hQ⟩
theorem lw_frame {s t : State} {o : Outcome} {args : Array Value} (h : Framed s o t [] 600000 7302250) :
    Framed s o t (fieldLocs frame_1_writes args s ++ arrayLocs frame_1_arrays args s ++ staticLocs frame_1_statics s) 600000 7302250 := h
theorem lw_limb (L : Cond) (hL : ∀ (args : Array Value) (s t : State), L.after args s (.returned (some (.int 1))) t = true) :
    ArmFor flags0 classFile x code maxLocals ret World_1 tables_1 room_1 Calls_1 rest_1 Pre_1
      (fun tb e a s o t => postC L tb e a s o t ∧ Framed s o t (fieldLocs frame_1_writes a s ++ arrayLocs frame_1_arrays a s ++ staticLocs frame_1_statics s) 600000 7302250) := by
  intro l hflags _ _ p e ha hc hk s m args below hf hfit hheap happ hpre
  obtain ⟨k, o, h1, h2, h3, rfl, hF⟩ := lw_comes l hflags p e ha hc hk s m args below hf hfit hheap happ hpre
  exact ⟨k, _, h1, h2, h3, hL args s _, lw_frame hF⟩
theorem i_vc : Claimed_1_1 ∧ Claimed_1_2 := ⟨lw_limb limb_1_1 (fun args s t => by simp [limb_1_1, Cond.after, Cond.holds, Cond.value]), lw_limb limb_1_2 (fun args s t => Cond.after_iff.mpr (by
  first | (rw [show limb_1_2 = Cond.eq .result (.int 1) from rfl, Cond.eq_ints (x := 1) (y := 1) rfl rfl]; simp; done) | (simp [limb_1_2, Cond.value, Term.eval]; done)))⟩
