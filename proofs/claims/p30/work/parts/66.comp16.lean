/-! the auction's writers -/
def AFq (hp hp1 : HP) (au al eA cA : Nat) : Prop := ∀ q e, hp q = some e → q ≠ au → q ≠ al → (0 < cA → q ≠ eA) → hp1 q = some e
theorem AFq.rf {hp : HP} {au al eA cA : Nat} : AFq hp hp au al eA cA := fun _ _ h _ _ _ => h
theorem AFq.au {hp h1 h2 : HP} {au al eA cA : Nat} {e : Option va_E} (h : AFq hp h1 au al eA cA) (eh : h2 = va_up h1 au e) : AFq hp h2 au al eA cA := fun q e1 h0 ha hb hc => by
  rw [eh, va_up_ne _ _ ha]
  exact h q e1 h0 ha hb hc
theorem AFq.nw {hp h1 h2 : HP} {au al eA cA q9 : Nat} {e : Option va_E} (h : AFq hp h1 au al eA cA) (hn : hp q9 = none) (eh : h2 = va_up h1 q9 e) : AFq hp h2 au al eA cA := fun q e1 h0 ha hb hc => by
  rw [eh, va_up_ne _ _ (fun z => by rw [z, hn] at h0; cases h0)]
  exact h q e1 h0 ha hb hc
theorem AFq.lf {hp h1 h2 : HP} {au al eA cA : Nat} (h : AFq hp h1 au al eA cA) (h' : LFq h1 h2 al eA cA) : AFq hp h2 au al eA cA := fun q e1 h0 ha hb hc => h' q e1 (h q e1 h0 ha hb hc) hb hc
theorem LSq.le {G : HG} {hp hp1 : HP} {b9 ea n9 cap : Nat} {mc : Int32} {f9 : Nat → Option Nat} (h : LSq G hp b9 ea n9 cap mc f9) (hl : ∀ q e, hp q = some e → hp1 q = some e) : LSq G hp1 b9 ea n9 cap mc f9 := ⟨hl _ _ h.1, ⟨fun q => hl _ _ (h.2.1.1 q), h.2.1.2⟩, h.2.2⟩
theorem LSq.up {G : HG} {hp hp1 : HP} {b9 ea n9 cap x : Nat} {mc : Int32} {f9 : Nat → Option Nat} {e : Option va_E} (h : LSq G hp b9 ea n9 cap mc f9) (eh : hp1 = va_up hp x e) (h1 : b9 ≠ x) (h2 : 0 < cap → ea ≠ x) : LSq G hp1 b9 ea n9 cap mc f9 := ⟨by rw [eh, va_up_ne _ _ h1]; exact h.1, ⟨fun q => by rw [eh, va_up_ne _ _ (h2 q)]; exact h.2.1.1 q, h.2.1.2⟩, h.2.2⟩
section AUS
variable {G : HG} {hp hp3 : HP} {au al p0 pw eA cA : Nat} {mA : Int32} {gA : Nat → Option Nat} {CA QA : Nat → Nat} {k : Nat} {cs : Nat → Nat → Int32} {sk : Bool}
theorem AU.ls (h : AU G hp au al p0 pw eA cA mA gA CA QA k cs sk) : LSq G hp al eA k cA mA gA := ⟨h.2.1, h.2.2.1, h.2.2.2.2.1, h.2.2.2.2.2.1⟩
theorem AU.els (h : AU G hp au al p0 pw eA cA mA gA CA QA k cs sk) : isEls hp gA 0 k := by
  refine ⟨3, Or.inl rfl, fun i hi y hy => ?_⟩
  rw [Nat.zero_add, (h.2.2.2.2.2.2.1 i hi).1] at hy
  cases hy
  exact ⟨_, (h.2.2.2.2.2.2.1 i hi).2.1⟩
theorem AU.po (h : AU G hp au al p0 pw eA cA mA gA CA QA k cs sk) (hK : AFq hp hp3 au al eA cA) {q : Nat} {a b c : Int32} (hq : hp q = some (poE a b c)) : hp3 q = some (poE a b c) :=
  hK _ _ hq (ne_look hq h.1 (by simp [poE, auE])) (ne_look hq h.2.1 (by simp [poE, alE])) (fun z => ne_look hq (h.2.2.1.1 z) (by simp [poE]))
theorem AU.mc (h : AU G hp au al p0 pw eA cA mA gA CA QA k cs sk) (hK : AFq hp hp3 au al eA cA) {q b : Nat} {a c : Int32} (hq : hp q = some (mcE a c b)) : hp3 q = some (mcE a c b) :=
  hK _ _ hq (ne_look hq h.1 (by simp [mcE, auE])) (ne_look hq h.2.1 (by simp [mcE, alE])) (fun z => ne_look hq (h.2.2.1.1 z) (by simp [mcE]))
theorem au_adC (h : AU G hp au al p0 pw eA cA mA gA CA QA k cs sk) (hk : k < 12) {pw1 eA1 cA1 qm : Nat} {mA1 v0 v1 v2 v3 v4 : Int32} {g : Nat → Option Nat} (hau : hp3 au = some (auE al p0 pw1 sk)) (hal : LSq G hp3 al eA1 (k + 1) cA1 mA1 g) (hg : ∀ j, j < k → g j = gA j) (hgk : g k = some qm) (hqm : hp3 qm = some (mcE v0 v1 pw)) (hpw1 : hp3 pw1 = some (poE v2 v4 v3)) (hK : AFq hp hp3 au al eA cA) : AU G hp3 au al p0 pw1 eA1 cA1 mA1 g (fun i => if i = k then qm else CA i) (fun i => if i = k then pw else QA i) (k + 1) (csC cs k v0 v1 v2 v3 v4) sk := by
  refine ⟨hau, hal.1, hal.2.1, by omega, hal.2.2.1, hal.2.2.2, fun i hi => ?_, ?_, h.po hK h.2.2.2.2.2.2.2.2⟩
  · show g i = some (if i = k then qm else CA i) ∧ hp3 (if i = k then qm else CA i) = some (mcE (csC cs k v0 v1 v2 v3 v4 i 0) (csC cs k v0 v1 v2 v3 v4 i 1) (if i = k then pw else QA i)) ∧ hp3 (if i = k then pw else QA i) = some (poE (csC cs k v0 v1 v2 v3 v4 i 2) (csC cs k v0 v1 v2 v3 v4 i 4) (csC cs k v0 v1 v2 v3 v4 i 3))
    by_cases c : i = k
    · subst c
      rw [if_pos rfl, if_pos rfl]
      refine ⟨hgk, ?_, ?_⟩
      · rw [hqm]; simp [csC]
      · rw [h.po hK h.2.2.2.2.2.2.2.1]; simp [csC]
    · have hi2 : i < k := by omega
      obtain ⟨h1, h2, h3⟩ := h.2.2.2.2.2.2.1 i hi2
      rw [if_neg c, if_neg c]
      refine ⟨(hg i hi2).trans h1, ?_, ?_⟩
      · rw [h.mc hK h2]; simp [csC, c, show ¬ i = k + 1 by omega]
      · rw [h.po hK h3]; simp [csC, c, show ¬ i = k + 1 by omega]
  · rw [hpw1]; simp [csC]
theorem au_re (h : AU G hp au al p0 pw eA cA mA gA CA QA k cs sk) {mA1 : Int32} {g : Nat → Option Nat} (hau : hp3 au = some (auE al p0 p0 false)) (hal : LSq G hp3 al eA 0 cA mA1 g) (hK : AFq hp hp3 au al eA cA) : AU G hp3 au al p0 p0 eA cA mA1 g CA QA 0 cs0 false :=
  ⟨hau, hal.1, hal.2.1, by omega, hal.2.2.1, hal.2.2.2, fun i hi => absurd hi (Nat.not_lt_zero i), h.po hK h.2.2.2.2.2.2.2.2, h.po hK h.2.2.2.2.2.2.2.2⟩
theorem au_bk (h : AU G hp au al p0 pw eA cA mA gA CA QA k cs sk) {pw1 k1 : Nat} {mA1 : Int32} {g : Nat → Option Nat} (hk : k1 ≤ k) (hpw : hp pw1 = some (poE (cs k1 2) (cs k1 4) (cs k1 3))) (hau : hp3 au = some (auE al p0 pw1 false)) (hal : LSq G hp3 al eA k1 cA mA1 g) (hg : ∀ j, j < k1 → g j = gA j) (hK : AFq hp hp3 au al eA cA) : AU G hp3 au al p0 pw1 eA cA mA1 g CA QA k1 cs false := by
  have := h.2.2.2.1
  refine ⟨hau, hal.1, hal.2.1, by omega, hal.2.2.1, hal.2.2.2, fun i hi => ?_, h.po hK hpw, h.po hK h.2.2.2.2.2.2.2.2⟩
  obtain ⟨h1, h2, h3⟩ := h.2.2.2.2.2.2.1 i (by omega)
  exact ⟨(hg i hi).trans h1, h.mc hK h2, h.po hK h3⟩
end AUS
theorem LSq.upN {G : HG} {hp hp1 : HP} {b9 ea n9 cap x ci : Nat} {mc : Int32} {f9 : Nat → Option Nat} {vs : List Value} {e : va_E} (h : LSq G hp b9 ea n9 cap mc f9) (eh : hp1 = va_up hp x (some e)) (hx : hp x = some (.inr (ci, vs))) (hci : ci ≠ 1) : LSq G hp1 b9 ea n9 cap mc f9 := h.up eh (ne_look h.1 hx (by simp [alE]; omega)) (fun z => ne_look (h.2.1.1 z) hx (by simp [arQ]))
set_option maxHeartbeats 4000000 in
set_option maxRecDepth 100000 in
theorem c_X0_restart (l : Launch) (G : HG) (A : Nat → Prop) (hp : HP) (sz : Nat) (hA : ∀ q, sz ≤ q → A q) (hO : Ow A hp) (au al p0 pw eA cA : Nat) (mA : Int32) (gA : Nat → Option Nat) (CA QA : Nat → Nat) (k : Nat) (cs : Nat → Nat → Int32) (sk : Bool) (hU9 : AU G hp au al p0 pw eA cA mA gA CA QA k cs sk) : Met l yX0_restart [.code yX0_restart cX0_restart 1 none] { frames := 1, cells := 0, slots := 0, locals := 23 } (va_Pc [.ref au] (WP G A sz hp)) (va_Qv (fun hp1 => ∃ mA1 g, AU G hp1 au al p0 p0 eA cA mA1 g CA QA 0 cs0 false ∧ AFq hp hp1 au al eA cA) (WB G A) A) 0 0 A := by
  refine wr_ofW (by decide) (Nat.le_of_ble_eq_true rfl) hO ?_
  intro p e s m args below meth c ls X hr hlk hnm hsz hW hl
  have hA : ∀ q, s.heap.size ≤ q → A q := fun q h => hA q (by omega)
  have hl : lv_has ls 1 [(0, .ref au)] := hl
  have hk := hU9.2.2.2.1
  have hL := hU9.ls
  have g_1 : hp au = some (.inr (2, [.ref al, .ref p0, .ref pw, .int (bI sk)])) := hU9.1
  have g_2 : hp al = some (.inr (1, [.int mA, .ref eA, .int (nI k)])) := hU9.2.1
  have hau0 := g_1
  refine lv_aload_n X.1 X.2.1 dX0_restart_0 rfl (lv_at hl 0 rfl) ?_
  refine r_get X hW.1 g_1 (v := .ref al) (C := RX0) (T := TX0) (N := 4) rfl tin_X0 0 (by decide) tw_101 (fun _ h => h) rfl dX0_restart_1 ?_
  refine on_Wv (k' := 0) (n' := 0) (run_V (C := RJx4a65c) (As := []) (rest := []) X (c_Jx4a65c_clear_da8c8 l G A hp _ (fun q h => hA q (Nat.le_trans hW.2.2.1 h)) hW.2.1 al eA k cA mA gA hL) (wp_blind _) (wp_at X hW.1 hW.2.2) (recv X hW.1 g_2 (C := RJx4a65c) (T := TJx4a65c) (N := 3) rfl) mf_Jx4a65c_clear_da8c8 tw_178 tw_179 tw_180 ⟨rfl, rfl, Nat.le_of_ble_eq_true rfl, Nat.le_of_ble_eq_true rfl⟩ hl.1 rfl rfl (Nat.le_of_ble_eq_true rfl) ⟨Nat.le_of_ble_eq_true rfl, Nat.le_of_ble_eq_true rfl⟩ dX0_restart_4) hW (by omega) (by omega) (fun hp_3 H locs q_4 hW => ?_)
  obtain ⟨mA1, g1, hL1, hF1⟩ := q_4
  have f_4 : hp_3 au = some (.inr (2, [.ref al, .ref p0, .ref pw, .int (bI sk)])) := hF1 _ _ g_1 (ne_look hau0 hU9.2.1 (by simp [alE])) (fun z => ne_look g_1 (hL.2.1.1 z) (by simp [arQ]))
  have g_5 : hp_3 al = some (.inr (1, [.int mA1, .ref eA, .int (nI 0)])) := hL1.1
  refine lv_aload_n X.1 X.2.1 dX0_restart_7 rfl (lv_at hl 0 rfl) ?_
  refine lv_aload_n X.1 X.2.1 dX0_restart_8 rfl (lv_at hl 0 rfl) ?_
  refine r_get X hW.1 f_4 (v := .ref p0) (C := RX0) (T := TX0) (N := 4) rfl tin_X0 1 (by decide) tw_103 (fun _ h => h) rfl dX0_restart_9 ?_
  refine r_put X hW f_4 (v := .ref p0) (C := RX0) (T := TX0) (N := 4) rfl tin_X0 tyX0_ok nmX0 2 (Nat.le_of_ble_eq_true rfl) tw_104 (fun _ h => h) rfl rfl rfl (Nat.le_of_ble_eq_true rfl) dX0_restart_12 (fun hp_6 H locs hW eh_7 => ?_)
  have f_8 : hp_6 au = some (.inr (2, [.ref al, .ref p0, .ref p0, .int (bI sk)])) := by rw [eh_7]; exact va_up_self _ _ _
  refine lv_aload_n X.1 X.2.1 dX0_restart_15 rfl (lv_at hl 0 rfl) ?_
  refine lv_iconst (v := 0) X.1 X.2.1 dX0_restart_16 (by decide) ?_
  refine r_put X hW f_8 (v := .int 0) (C := RX0) (T := TX0) (N := 4) rfl tin_X0 tyX0_ok nmX0 3 (Nat.le_of_ble_eq_true rfl) tw_106 (fun _ h => h) rfl (by decide) rfl (Nat.le_of_ble_eq_true rfl) dX0_restart_17 (fun hp_9 H locs hW eh_10 => ?_)
  have f_11 : hp_9 au = some (.inr (2, [.ref al, .ref p0, .ref p0, .int 0])) := by rw [eh_10]; exact va_up_self _ _ _
  exact wr_v X hr hlk hW ⟨mA1, g1, au_re hU9 f_11 (LSq.upN (LSq.upN hL1 eh_7 f_4 (by decide)) eh_10 f_8 (by decide)) (AFq.au (AFq.au (AFq.lf AFq.rf hF1) eh_7) eh_10), (AFq.au (AFq.au (AFq.lf AFq.rf hF1) eh_7) eh_10)⟩ (Nat.le_of_ble_eq_true rfl) (Nat.le_of_ble_eq_true rfl) dX0_restart_20

theorem le_two {hp h1 h2 : HP} {q9 : Nat} {e1 e2 : Option va_E} (hn : hp q9 = none) (eh : h1 = va_up hp q9 e1) (eh2 : h2 = va_up h1 q9 e2) : ∀ q e, hp q = some e → h2 q = some e := le_new hn (by rw [eh2, eh, va_uu])
theorem AFq.le {hp h1 : HP} {au al eA cA : Nat} (h : ∀ q e, hp q = some e → h1 q = some e) : AFq hp h1 au al eA cA := fun q e h0 _ _ _ => h q e h0
theorem none_le {hp h1 : HP} {q : Nat} (hl : ∀ q e, hp q = some e → h1 q = some e) (h : h1 q = none) : hp q = none := by
  cases c : hp q with
  | none => rfl
  | some e => rw [hl q e c] at h; cases h
theorem AFq.no {hp h1 : HP} {au al eA cA q : Nat} {e : va_E} {G : HG} {eA1 n1 cA1 : Nat} {mc1 : Int32} {f1 : Nat → Option Nat} (hK : AFq hp h1 au al eA cA) (h : h1 q = none) (ha : h1 au = some e) (hl : LSq G h1 al eA1 n1 cA1 mc1 f1) (hE : 0 < cA → ∃ e1, h1 eA = some e1) : hp q = none := by
  cases c : hp q with
  | none => rfl
  | some e0 =>
    have : h1 q = some e0 := hK q e0 c (fun z => by rw [z, ha] at h; cases h) (fun z => by rw [z, hl.1] at h; cases h) (fun z y => by obtain ⟨e1, he⟩ := hE z; rw [y, he] at h; cases h)
    rw [this] at h
    cases h
set_option maxHeartbeats 4000000 in
set_option maxRecDepth 100000 in
theorem c_X0_add (l : Launch) (G : HG) (A : Nat → Prop) (hp : HP) (sz : Nat) (hA : ∀ q, sz ≤ q → A q) (hO : Ow A hp) (au al p0 pw eA cA : Nat) (mA : Int32) (gA : Nat → Option Nat) (CA QA : Nat → Nat) (k : Nat) (cs : Nat → Nat → Int32) (sk : Bool) (hU9 : AU G hp au al p0 pw eA cA mA gA CA QA k cs sk) (r9 : Nat) (q : Nat → Nat) (hr9 : hp r9 = some (rcE q)) (hq : ∀ j, j < 14 → q j ≤ 25) (rn : Nat) (hk9 : k < 12) : Met l yX0_add [.code yX0_add cX0_add 3 none] { frames := 7, cells := 3, slots := 40, locals := 171 } (va_Pc [.ref au, .ref r9, .int (nI rn)] (WP G A sz hp)) (va_Qv (fun hp1 => ∃ pw1 eA1 cA1 mA1 g CA1 QA1, AU G hp1 au al p0 pw1 eA1 cA1 mA1 g CA1 QA1 (k + 1) (csC cs k (nI (q 1)) (nI rn) (if q 1 = 25 then cs k 2 else nI (q 2)) (if q 1 = 25 then cs k 3 else nI (q 3)) (if q 1 = 25 then cs k 4 else nI (q 1))) sk ∧ AFq hp hp1 au al eA cA ∧ ((eA1 = eA ∧ cA1 = cA) ∨ hp eA1 = none)) (WB G A) A) 3 40 A := by
  refine wr_ofW (by decide) (Nat.le_of_ble_eq_true rfl) hO ?_
  intro p e s m args below meth c ls X hr hlk hnm hsz hW hl
  have hA : ∀ q, s.heap.size ≤ q → A q := fun q h => hA q (by omega)
  have hl : lv_has ls 3 [(0, .ref au), (1, .ref r9), (2, .int (nI rn))] := hl
  have hk := hU9.2.2.2.1
  have hL := hU9.ls
  have hq1 := hq 1 (by decide)
  have g_1 : hp au = some (.inr (2, [.ref al, .ref p0, .ref pw, .int (bI sk)])) := hU9.1
  have g_2 : hp al = some (.inr (1, [.int mA, .ref eA, .int (nI k)])) := hU9.2.1
  have g_3 : hp pw = some (.inr (4, [.int (cs k 2), .int (cs k 4), .int (cs k 3)])) := hU9.2.2.2.2.2.2.2.1
  have g_4 : hp r9 = some (.inr (5, [.int (nI (q 0)), .int (nI (q 1)), .int (nI (q 2)), .int (nI (q 3)), .int (nI (loP q)), .int (nI (hiP q))])) := hr9
  have hau0 := g_1
  refine lv_aload_n X.1 X.2.1 dX0_add_0 rfl (lv_at hl 0 rfl) ?_
  refine r_get X hW.1 g_1 (v := .ref al) (C := RX0) (T := TX0) (N := 4) rfl tin_X0 0 (by decide) tw_101 (fun _ h => h) rfl dX0_add_1 ?_
  refine r_new (k := 1) (n := 3) (fs := [.int 0, .int 0, .null]) X hA hW (C := RX2) (T := TX2) (N := 3) (ci := 3) rfl tin_X2 tyX2_ok tw_235 tw_491 tw_34 (fun j hj => by rcases (show j = 0 ∨ j = 1 ∨ j = 2 by omega) with rfl | rfl | rfl <;> rfl) (by omega) (by omega) (Nat.le_of_ble_eq_true rfl) (Nat.le_of_ble_eq_true rfl) dX0_add_4 (fun q_4 hp_5 H hW eh_6 hn_7 => ?_)
  have ne_8 : au ≠ q_4 := ne_none g_1 hn_7
  have ne_9 : al ≠ q_4 := ne_none g_2 hn_7
  have ne_10 : pw ≠ q_4 := ne_none g_3 hn_7
  have ne_11 : r9 ≠ q_4 := ne_none g_4 hn_7
  have f_12 : hp_5 q_4 = some (.inr (3, [.int 0, .int 0, .null])) := by rw [eh_6]; exact va_up_self _ _ _
  refine lv_dup X.1 X.2.1 dX0_add_7 rfl ?_
  refine lv_aload_n X.1 X.2.1 dX0_add_8 rfl (lv_at hl 1 rfl) ?_
  have f_13 : hp_5 r9 = some (.inr (5, [.int (nI (q 0)), .int (nI (q 1)), .int (nI (q 2)), .int (nI (q 3)), .int (nI (loP q)), .int (nI (hiP q))])) := by rw [eh_6, va_up_ne _ _ ne_11]; exact g_4
  refine r_getN X hW.1 f_13 (v := .int (nI (q 1))) (C := RX4) (T := TX4) (N := 6) rfl tin_X4 1 (by decide) tw_363 (fun _ h => h) rfl dX0_add_9 ?_
  refine lv_iload_n X.1 X.2.1 dX0_add_12 rfl (lv_at hl 2 rfl) ?_
  refine lv_aload_n X.1 X.2.1 dX0_add_13 rfl (lv_at hl 0 rfl) ?_
  have f_14 : hp_5 au = some (.inr (2, [.ref al, .ref p0, .ref pw, .int (bI sk)])) := by rw [eh_6, va_up_ne _ _ ne_8]; exact g_1
  refine r_get X hW.1 f_14 (v := .ref pw) (C := RX0) (T := TX0) (N := 4) rfl tin_X0 2 (by decide) tw_104 (fun _ h => h) rfl dX0_add_14 ?_
  refine on_Wv (k' := 1) (n' := 3) (run_I (As := [.int (nI (q 1)), .int (nI rn), .ref pw]) (rest := [.ref q_4, .ref al]) X (c_X2_init l G A hp_5 _ (fun q h => hA q (Nat.le_trans hW.2.2.1 h)) hW.2.1 q_4 (nI (q 1)) (nI rn) pw f_12) (wp_blind _) (wp_at X hW.1 hW.2.2) mf_X2_init tw_492 tw_493 rfl ⟨rfl, rfl, Nat.le_of_ble_eq_true rfl, Nat.le_of_ble_eq_true rfl⟩ hl.1 rfl rfl (Nat.le_of_ble_eq_true rfl) ⟨Nat.le_of_ble_eq_true rfl, Nat.le_of_ble_eq_true rfl⟩ dX0_add_17) hW (by omega) (by omega) (fun hp_15 H locs q_17 hW => ?_)
  have f_16 : hp_15 q_4 = some (.inr (3, [.int (nI (q 1)), .int (nI rn), .ref pw])) := by rw [q_17]; exact va_up_self _ _ _
  have f_17 : hp_15 au = some (.inr (2, [.ref al, .ref p0, .ref pw, .int (bI sk)])) := by rw [q_17, va_up_ne _ _ ne_8]; exact f_14
  have f_18 : hp_15 al = some (.inr (1, [.int mA, .ref eA, .int (nI k)])) := by rw [q_17, va_up_ne _ _ ne_9, eh_6, va_up_ne _ _ ne_9]; exact g_2
  have f_19 : hp_15 pw = some (.inr (4, [.int (cs k 2), .int (cs k 4), .int (cs k 3)])) := by rw [q_17, va_up_ne _ _ ne_10, eh_6, va_up_ne _ _ ne_10]; exact g_3
  have f_20 : hp_15 r9 = some (.inr (5, [.int (nI (q 0)), .int (nI (q 1)), .int (nI (q 2)), .int (nI (q 3)), .int (nI (loP q)), .int (nI (hiP q))])) := by rw [q_17, va_up_ne _ _ ne_11]; exact f_13
  have hle1 := le_two hn_7 eh_6 q_17
  have hL1 := hL.le hle1
  refine on_Wi (k' := 2) (n' := 37) (run_V (C := RJx4a65c) (As := [.ref q_4]) (rest := []) X (c_Jx4a65c_add_9ea2d l G A hp_15 _ (fun q h => hA q (Nat.le_trans hW.2.2.1 h)) hW.2.1 al eA k cA mA gA hL1 (by omega) (hU9.els.le hle1) q_4 ⟨3, _, f_16, Or.inl rfl⟩) (wp_blind _) (wp_at X hW.1 hW.2.2) (recv X hW.1 f_18 (C := RJx4a65c) (T := TJx4a65c) (N := 3) rfl) mf_Jx4a65c_add_9ea2d tw_510 tw_389 tw_390 ⟨rfl, rfl, Nat.le_of_ble_eq_true rfl, Nat.le_of_ble_eq_true rfl⟩ hl.1 rfl rfl (Nat.le_of_ble_eq_true rfl) ⟨Nat.le_of_ble_eq_true rfl, Nat.le_of_ble_eq_true rfl⟩ dX0_add_20) hW (by omega) (by omega) (fun r_20 hp_21 H locs q_20 hW => ?_)
  obtain ⟨rfl, mA1, eA1, cA1, g1, hL2, hg1, hg2, hF2, hea⟩ := q_20
  replace hea : (eA1 = eA ∧ cA1 = cA) ∨ hp eA1 = none := hea.imp id (none_le hle1)
  have hK1 : AFq hp hp_21 au al eA cA := AFq.lf (AFq.le hle1) hF2
  have f_22 : hp_21 au = some (.inr (2, [.ref al, .ref p0, .ref pw, .int (bI sk)])) := hF2 _ _ f_17 (ne_look hau0 hU9.2.1 (by simp [alE])) (fun z => ne_look f_17 (hL1.2.1.1 z) (by simp [arQ]))
  have f_23 : hp_21 pw = some (.inr (4, [.int (cs k 2), .int (cs k 4), .int (cs k 3)])) := hF2 _ _ f_19 (ne_look f_19 hL1.1 (by simp [alE])) (fun z => ne_look f_19 (hL1.2.1.1 z) (by simp [arQ]))
  have f_24 : hp_21 r9 = some (.inr (5, [.int (nI (q 0)), .int (nI (q 1)), .int (nI (q 2)), .int (nI (q 3)), .int (nI (loP q)), .int (nI (hiP q))])) := hF2 _ _ f_20 (ne_look f_20 hL1.1 (by simp [alE])) (fun z => ne_look f_20 (hL1.2.1.1 z) (by simp [arQ]))
  have f_25 : hp_21 q_4 = some (.inr (3, [.int (nI (q 1)), .int (nI rn), .ref pw])) := hF2 _ _ f_16 (ne_look f_16 hL1.1 (by simp [alE])) (fun z => ne_look f_16 (hL1.2.1.1 z) (by simp [arQ]))
  have g_26 : hp_21 al = some (.inr (1, [.int mA1, .ref eA1, .int (nI (k + 1))])) := hL2.1
  refine lv_pop X.1 X.2.1 dX0_add_23 rfl ?_
  refine lv_aload_n X.1 X.2.1 dX0_add_24 rfl (lv_at hl 1 rfl) ?_
  refine r_getN X hW.1 f_24 (v := .int (nI (q 1))) (C := RX4) (T := TX4) (N := 6) rfl tin_X4 1 (by decide) tw_363 (fun _ h => h) rfl dX0_add_25 ?_
  refine lv_bipush (v := 25) X.1 X.2.1 dX0_add_28 (by decide) ?_
  refine lv_icmp_eq (tgt := 56) X.1 X.2.1 dX0_add_30 (by decide) (fun c_30 => ?_) (fun c_30 => ?_)
  · have k_30 := k_eq (a := (q 1)) (b := 25) (by omega) (by omega) c_30
    exact wr_v X hr hlk hW ⟨pw, eA1, cA1, mA1, g1, _, _, by rw [if_pos k_30, if_pos k_30, if_pos k_30]; exact au_adC hU9 hk9 f_22 hL2 hg1 hg2 f_25 f_23 hK1, hK1, hea⟩ (Nat.le_of_ble_eq_true rfl) (Nat.le_of_ble_eq_true rfl) dX0_add_56
  · have k_30 := k_ne (a := (q 1)) (b := 25) (by omega) (by omega) c_30
    refine lv_aload_n X.1 X.2.1 dX0_add_33 rfl (lv_at hl 0 rfl) ?_
    refine r_new (k := 3) (n := 40) (fs := [.int 0, .int 0, .int 0]) X hA hW (C := RX3) (T := TX3) (N := 3) (ci := 4) rfl tin_X3 tyX3_ok tw_77 tw_78 tw_20 (fun j hj => by rcases (show j = 0 ∨ j = 1 ∨ j = 2 by omega) with rfl | rfl | rfl <;> rfl) (by omega) (by omega) (Nat.le_of_ble_eq_true rfl) (Nat.le_of_ble_eq_true rfl) dX0_add_34 (fun q_34 hp_27 H hW eh_28 hn_29 => ?_)
    have ne_30 : au ≠ q_34 := ne_none f_22 hn_29
    have ne_31 : pw ≠ q_34 := ne_none f_23 hn_29
    have ne_32 : r9 ≠ q_34 := ne_none f_24 hn_29
    have ne_33 : q_4 ≠ q_34 := ne_none f_25 hn_29
    have ne_34 : al ≠ q_34 := ne_none g_26 hn_29
    have f_35 : hp_27 q_34 = some (.inr (4, [.int 0, .int 0, .int 0])) := by rw [eh_28]; exact va_up_self _ _ _
    refine lv_dup X.1 X.2.1 dX0_add_37 rfl ?_
    refine lv_aload_n X.1 X.2.1 dX0_add_38 rfl (lv_at hl 1 rfl) ?_
    have f_36 : hp_27 r9 = some (.inr (5, [.int (nI (q 0)), .int (nI (q 1)), .int (nI (q 2)), .int (nI (q 3)), .int (nI (loP q)), .int (nI (hiP q))])) := by rw [eh_28, va_up_ne _ _ ne_32]; exact f_24
    refine r_getN X hW.1 f_36 (v := .int (nI (q 2))) (C := RX4) (T := TX4) (N := 6) rfl tin_X4 2 (by decide) tw_366 (fun _ h => h) rfl dX0_add_39 ?_
    refine lv_aload_n X.1 X.2.1 dX0_add_42 rfl (lv_at hl 1 rfl) ?_
    refine r_getN X hW.1 f_36 (v := .int (nI (q 1))) (C := RX4) (T := TX4) (N := 6) rfl tin_X4 1 (by decide) tw_363 (fun _ h => h) rfl dX0_add_43 ?_
    refine lv_aload_n X.1 X.2.1 dX0_add_46 rfl (lv_at hl 1 rfl) ?_
    refine r_getN X hW.1 f_36 (v := .int (nI (q 3))) (C := RX4) (T := TX4) (N := 6) rfl tin_X4 3 (by decide) tw_368 (fun _ h => h) rfl dX0_add_47 ?_
    refine on_Wv (k' := 3) (n' := 40) (run_I (As := [.int (nI (q 2)), .int (nI (q 1)), .int (nI (q 3))]) (rest := [.ref q_34, .ref au]) X (c_X3_init l G A hp_27 _ (fun q h => hA q (Nat.le_trans hW.2.2.1 h)) hW.2.1 q_34 (nI (q 2)) (nI (q 1)) (nI (q 3)) f_35) (wp_blind _) (wp_at X hW.1 hW.2.2) mf_X3_init tw_79 tw_80 rfl ⟨rfl, rfl, Nat.le_of_ble_eq_true rfl, Nat.le_of_ble_eq_true rfl⟩ hl.1 rfl rfl (Nat.le_of_ble_eq_true rfl) ⟨Nat.le_of_ble_eq_true rfl, Nat.le_of_ble_eq_true rfl⟩ dX0_add_50) hW (by omega) (by omega) (fun hp_37 H locs q_50 hW => ?_)
    have f_38 : hp_37 q_34 = some (.inr (4, [.int (nI (q 2)), .int (nI (q 1)), .int (nI (q 3))])) := by rw [q_50]; exact va_up_self _ _ _
    have f_39 : hp_37 au = some (.inr (2, [.ref al, .ref p0, .ref pw, .int (bI sk)])) := by rw [q_50, va_up_ne _ _ ne_30, eh_28, va_up_ne _ _ ne_30]; exact f_22
    refine r_put X hW f_39 (v := .ref q_34) (C := RX0) (T := TX0) (N := 4) rfl tin_X0 tyX0_ok nmX0 2 (Nat.le_of_ble_eq_true rfl) tw_104 (fun _ h => h) rfl rfl rfl (Nat.le_of_ble_eq_true rfl) dX0_add_53 (fun hp_40 H locs hW eh_41 => ?_)
    have f_42 : hp_40 au = some (.inr (2, [.ref al, .ref p0, .ref q_34, .int (bI sk)])) := by rw [eh_41]; exact va_up_self _ _ _
    exact wr_v X hr hlk hW ⟨q_34, eA1, cA1, mA1, g1, _, _, by rw [if_neg k_30, if_neg k_30, if_neg k_30]; exact au_adC hU9 hk9 f_42 (LSq.upN (LSq.le hL2 (le_two hn_29 eh_28 q_50)) eh_41 f_39 (by decide)) hg1 hg2 (show (_ : Option va_E) = some (.inr (3, [.int (nI (q 1)), .int (nI rn), .ref pw])) by rw [eh_41, va_up_ne _ _ (Ne.symm ne_8), q_50, va_up_ne _ _ ne_33, eh_28, va_up_ne _ _ ne_33]; exact f_25) (show (_ : Option va_E) = some (.inr (4, [.int (nI (q 2)), .int (nI (q 1)), .int (nI (q 3))])) by rw [eh_41, va_up_ne _ _ (Ne.symm ne_30)]; exact f_38) (AFq.au (fun q9 e9 z1 z2 z3 z4 => le_two hn_29 eh_28 q_50 q9 e9 (hK1 q9 e9 z1 z2 z3 z4)) eh_41), (AFq.au (fun q9 e9 z1 z2 z3 z4 => le_two hn_29 eh_28 q_50 q9 e9 (hK1 q9 e9 z1 z2 z3 z4)) eh_41), hea⟩ (Nat.le_of_ble_eq_true rfl) (Nat.le_of_ble_eq_true rfl) dX0_add_56

set_option maxHeartbeats 4000000 in
set_option maxRecDepth 100000 in
theorem c_X0_takeBack (l : Launch) (G : HG) (A : Nat → Prop) (hp : HP) (sz : Nat) (hA : ∀ q, sz ≤ q → A q) (hO : Ow A hp) (au al p0 pw eA cA : Nat) (mA : Int32) (gA : Nat → Option Nat) (CA QA : Nat → Nat) (k : Nat) (cs : Nat → Nat → Int32) (sk : Bool) (hU9 : AU G hp au al p0 pw eA cA mA gA CA QA k cs sk) : Met l yX0_takeBack [.code yX0_takeBack cX0_takeBack 2 (some .boolean)] { frames := 3, cells := 0, slots := 0, locals := 86 } (va_Pc [.ref au] (WP G A sz hp)) (va_Qi (fun r hp1 => r = (if k = 0 ∧ sk = false then 0 else 1) ∧ ∃ pw1 mA1 g, AU G hp1 au al p0 pw1 eA cA mA1 g CA QA (if sk = true then k else k - 1) cs false ∧ AFq hp hp1 au al eA cA) (WB G A) A) 0 0 A := by
  refine wr_ofW (by decide) (Nat.le_of_ble_eq_true rfl) hO ?_
  intro p e s m args below meth c ls X hr hlk hnm hsz hW hl
  have hA : ∀ q, s.heap.size ≤ q → A q := fun q h => hA q (by omega)
  have hl : lv_has ls 2 [(0, .ref au)] := hl
  have hk := hU9.2.2.2.1
  have hL := hU9.ls
  have g_1 : hp au = some (.inr (2, [.ref al, .ref p0, .ref pw, .int (bI sk)])) := hU9.1
  have g_2 : hp al = some (.inr (1, [.int mA, .ref eA, .int (nI k)])) := hU9.2.1
  have hau0 := g_1
  refine lv_aload_n X.1 X.2.1 dX0_takeBack_0 rfl (lv_at hl 0 rfl) ?_
  refine r_get X hW.1 g_1 (v := .int (bI sk)) (C := RX0) (T := TX0) (N := 4) rfl tin_X0 3 (by decide) tw_106 (fun _ h => h) rfl dX0_takeBack_1 ?_
  refine lv_if_eq (tgt := 14) X.1 X.2.1 dX0_takeBack_4 (by decide) (fun c_4 => ?_) (fun c_4 => ?_)
  · refine lv_aload_n X.1 X.2.1 dX0_takeBack_14 rfl (lv_at hl 0 rfl) ?_
    refine r_get X hW.1 g_1 (v := .ref al) (C := RX0) (T := TX0) (N := 4) rfl tin_X0 0 (by decide) tw_101 (fun _ h => h) rfl dX0_takeBack_15 ?_
    refine on_Si (run_V (C := RJx4a65c) (As := []) (rest := []) X (c_Jx4a65c_size_8abf5 l G hp al eA k mA g_2) (rp_blind _) (rp_at X hW.1 hW.2.2) (recv X hW.1 g_2 (C := RJx4a65c) (T := TJx4a65c) (N := 3) rfl) mf_Jx4a65c_size_8abf5 tw_217 tw_218 tw_219 ⟨rfl, rfl, Nat.le_of_ble_eq_true rfl, Nat.le_of_ble_eq_true rfl⟩ hl.1 rfl rfl (Nat.le_of_ble_eq_true rfl) ⟨Nat.le_of_ble_eq_true rfl, Nat.le_of_ble_eq_true rfl⟩ dX0_takeBack_18) (fun r_18 q_18 => ?_)
    obtain rfl : r_18 = (nI k) := q_18
    refine lv_istore_n (lv' := [(1, .int (nI k)), (0, .ref au)]) X.1 X.2.1 dX0_takeBack_21 rfl hl (by decide) rfl (fun ls hl => ?_)
    refine lv_iload_n X.1 X.2.1 dX0_takeBack_22 rfl (lv_at hl 0 rfl) ?_
    refine lv_if_ne (tgt := 28) X.1 X.2.1 dX0_takeBack_23 (by decide) (fun c_23 => ?_) (fun c_23 => ?_)
    · have k_23 := k_ne (a := k) (b := 0) (by omega) (by omega) c_23
      refine lv_aload_n X.1 X.2.1 dX0_takeBack_28 rfl (lv_at hl 1 rfl) ?_
      refine lv_aload_n X.1 X.2.1 dX0_takeBack_29 rfl (lv_at hl 1 rfl) ?_
      refine r_get X hW.1 g_1 (v := .ref al) (C := RX0) (T := TX0) (N := 4) rfl tin_X0 0 (by decide) tw_101 (fun _ h => h) rfl dX0_takeBack_30 ?_
      refine lv_iload_n X.1 X.2.1 dX0_takeBack_33 rfl (lv_at hl 0 rfl) ?_
      refine lv_iconst (v := 1) X.1 X.2.1 dX0_takeBack_34 (by decide) ?_
      refine lv_isub X.1 X.2.1 dX0_takeBack_35 ?_
      refine r_eqi (show (((nI k) - 1) : Int32) = nI (k - 1) from pk_sub (a := k) (b := 1) (by omega)) ?_
      refine on_Sq (run_V (C := RJx4a65c) (As := [.int (nI (k - 1))]) (rest := [.ref au]) X (c_Jx4a65c_get_915e3 l G hp al eA k mA hU9.2.1 cA gA (hU9.2.2.1.1 (by have := hU9.2.2.2.2.1; omega)) hU9.2.2.2.2.1 (Nat.lt_of_le_of_lt hU9.2.2.2.2.2.1 (by decide)) (k - 1) (by omega)) (rp_blind _) (rp_at X hW.1 hW.2.2) (recv X hW.1 g_2 (C := RJx4a65c) (T := TJx4a65c) (N := 3) rfl) mf_Jx4a65c_get_915e3 tw_221 tw_222 tw_223 ⟨rfl, rfl, Nat.le_of_ble_eq_true rfl, Nat.le_of_ble_eq_true rfl⟩ hl.1 rfl rfl (Nat.le_of_ble_eq_true rfl) ⟨Nat.le_of_ble_eq_true rfl, Nat.le_of_ble_eq_true rfl⟩ dX0_takeBack_36) (fun r_36 q_36 => ?_)
      obtain rfl : r_36 = some (CA (k - 1)) := q_36.trans (hU9.2.2.2.2.2.2.1 (k - 1) (by omega)).1
      refine W.eq (g2 := F0 m 39 ls [.ref (CA (k - 1)), .ref au]) rfl ?_
      refine r_cast X hW.1 (hU9.2.2.2.2.2.2.1 (k - 1) (by omega)).2.1 (C := RX2) (T := TX2) (N := 3) rfl tw_235 dX0_takeBack_39 ?_
      refine r_getN X hW.1 (hU9.2.2.2.2.2.2.1 (k - 1) (by omega)).2.1 (v := .ref (QA (k - 1))) (C := RX2) (T := TX2) (N := 3) rfl tin_X2 2 (by decide) tw_501 (fun _ h => h) rfl dX0_takeBack_42 ?_
      refine r_put X hW g_1 (v := .ref (QA (k - 1))) (C := RX0) (T := TX0) (N := 4) rfl tin_X0 tyX0_ok nmX0 2 (Nat.le_of_ble_eq_true rfl) tw_104 (fun _ h => h) rfl rfl rfl (Nat.le_of_ble_eq_true rfl) dX0_takeBack_45 (fun hp_3 H locs hW eh_4 => ?_)
      have f_5 : hp_3 au = some (.inr (2, [.ref al, .ref p0, .ref (QA (k - 1)), .int (bI sk)])) := by rw [eh_4]; exact va_up_self _ _ _
      refine lv_aload_n X.1 X.2.1 dX0_takeBack_48 rfl (lv_at hl 1 rfl) ?_
      refine r_get X hW.1 f_5 (v := .ref al) (C := RX0) (T := TX0) (N := 4) rfl tin_X0 0 (by decide) tw_101 (fun _ h => h) rfl dX0_takeBack_49 ?_
      refine lv_iload_n X.1 X.2.1 dX0_takeBack_52 rfl (lv_at hl 0 rfl) ?_
      refine lv_iconst (v := 1) X.1 X.2.1 dX0_takeBack_53 (by decide) ?_
      refine lv_isub X.1 X.2.1 dX0_takeBack_54 ?_
      refine r_eqi (show (((nI k) - 1) : Int32) = nI (k - 1) from pk_sub (a := k) (b := 1) (by omega)) ?_
      have f_6 : hp_3 al = some (.inr (1, [.int mA, .ref eA, .int (nI k)])) := by rw [eh_4, va_up_ne _ _ (Ne.symm (ne_look hau0 hU9.2.1 (by simp [alE])))]; exact g_2
      have hL1 := LSq.upN hL eh_4 hau0 (by decide)
      have hK0 : AFq hp hp_3 au al eA cA := AFq.au AFq.rf eh_4
      have hel1 : isEls hp_3 gA 0 k := ⟨3, Or.inl rfl, fun i hi y hy => by rw [Nat.zero_add, (hU9.2.2.2.2.2.2.1 i hi).1] at hy; cases hy; exact ⟨_, hU9.mc hK0 (hU9.2.2.2.2.2.2.1 i hi).2.1⟩⟩
      refine on_Wq (k' := 0) (n' := 0) (run_V (C := RJx4a65c) (As := [.int (nI (k - 1))]) (rest := []) X (c_Jx4a65c_remove_915e3 l G A hp_3 _ (fun q h => hA q (Nat.le_trans hW.2.2.1 h)) hW.2.1 al eA k cA mA gA hL1 hel1 (k - 1) (by omega) (CA (k - 1)) (hU9.2.2.2.2.2.2.1 (k - 1) (by omega)).1) (wp_blind _) (wp_at X hW.1 hW.2.2) (recv X hW.1 f_6 (C := RJx4a65c) (T := TJx4a65c) (N := 3) rfl) mf_Jx4a65c_remove_915e3 tw_236 tw_237 tw_238 ⟨rfl, rfl, Nat.le_of_ble_eq_true rfl, Nat.le_of_ble_eq_true rfl⟩ hl.1 rfl rfl (Nat.le_of_ble_eq_true rfl) ⟨Nat.le_of_ble_eq_true rfl, Nat.le_of_ble_eq_true rfl⟩ dX0_takeBack_55) hW (by omega) (by omega) (fun r_55 hp_7 H locs q_55 hW => ?_)
      obtain ⟨rfl, mA1, g1, hL2, hg1, hF2⟩ := q_55
      refine W.eq (g2 := F0 m 58 ls [.ref (CA (k - 1))]) rfl ?_
      have hK1 : AFq hp hp_7 au al eA cA := AFq.lf hK0 hF2
      have f_8 : hp_7 au = some (.inr (2, [.ref al, .ref p0, .ref (QA (k - 1)), .int (bI sk)])) := hF2 _ _ f_5 (ne_look hau0 hU9.2.1 (by simp [alE])) (fun z => ne_look f_5 (hL1.2.1.1 z) (by simp [arQ]))
      have g_9 : hp_7 al = some (.inr (1, [.int mA1, .ref eA, .int (nI (k - 1))])) := hL2.1
      refine lv_pop X.1 X.2.1 dX0_takeBack_58 rfl ?_
      refine lv_iconst (v := 1) X.1 X.2.1 dX0_takeBack_59 (by decide) ?_
      exact wr_z X hr hlk rfl hW ⟨(if_neg (fun z => k_23 z.1)).symm, QA (k - 1), mA1, g1, by rw [if_neg (fun z => Bool.false_ne_true ((bI_0 c_4).symm.trans z))]; exact au_bk hU9 (Nat.sub_le _ _) (hU9.2.2.2.2.2.2.1 (k - 1) (by omega)).2.2 (by have z9 := f_8; rw [show bI sk = bI false from congrArg bI (bI_0 c_4)] at z9; exact z9) hL2 (fun j hj => by rw [hg1 j hj, if_pos hj]) hK1, hK1⟩ (Nat.le_of_ble_eq_true rfl) (Nat.le_of_ble_eq_true rfl) dX0_takeBack_60
    · have k_23 := k_eq (a := k) (b := 0) (by omega) (by omega) c_23
      refine lv_iconst (v := 0) X.1 X.2.1 dX0_takeBack_26 (by decide) ?_
      exact wr_z X hr hlk rfl hW ⟨(if_pos ⟨k_23, bI_0 c_4⟩).symm, pw, mA, gA, by rw [if_neg (fun z => Bool.false_ne_true ((bI_0 c_4).symm.trans z)), k_23]; have z9 := hU9; rw [k_23, bI_0 c_4] at z9; exact z9, AFq.rf⟩ (Nat.le_of_ble_eq_true rfl) (Nat.le_of_ble_eq_true rfl) dX0_takeBack_27
  · refine lv_aload_n X.1 X.2.1 dX0_takeBack_7 rfl (lv_at hl 0 rfl) ?_
    refine lv_iconst (v := 0) X.1 X.2.1 dX0_takeBack_8 (by decide) ?_
    refine r_put X hW g_1 (v := .int 0) (C := RX0) (T := TX0) (N := 4) rfl tin_X0 tyX0_ok nmX0 3 (Nat.le_of_ble_eq_true rfl) tw_106 (fun _ h => h) rfl (by decide) rfl (Nat.le_of_ble_eq_true rfl) dX0_takeBack_9 (fun hp_10 H locs hW eh_11 => ?_)
    have f_12 : hp_10 au = some (.inr (2, [.ref al, .ref p0, .ref pw, .int 0])) := by rw [eh_11]; exact va_up_self _ _ _
    refine lv_iconst (v := 1) X.1 X.2.1 dX0_takeBack_12 (by decide) ?_
    exact wr_z X hr hlk rfl hW ⟨(if_neg (fun z => Bool.false_ne_true (z.2.symm.trans (bI_1 c_4)))).symm, pw, mA, gA, by rw [if_pos (bI_1 c_4)]; exact au_bk hU9 (Nat.le_refl _) hU9.2.2.2.2.2.2.2.1 f_12 (LSq.upN hL eh_11 hau0 (by decide)) (fun _ _ => rfl) (AFq.au AFq.rf eh_11), AFq.au AFq.rf eh_11⟩ (Nat.le_of_ble_eq_true rfl) (Nat.le_of_ble_eq_true rfl) dX0_takeBack_13

def IFq (hp hp1 : HP) (au : Nat) : Prop := ∀ q e, hp q = some e → q ≠ au → hp1 q = some e
theorem IF.rf {hp : HP} {au : Nat} : IFq hp hp au := fun _ _ h _ => h
theorem IF.tw {hp h1 h2 : HP} {au : Nat} (h : IFq hp h1 au) (hl : ∀ q e, h1 q = some e → h2 q = some e) : IFq hp h2 au := fun q e h0 ha => hl q e (h q e h0 ha)
theorem IF.au {hp h1 h2 : HP} {au : Nat} {e : Option va_E} (h : IFq hp h1 au) (eh : h2 = va_up h1 au e) : IFq hp h2 au := fun q e1 h0 ha => by
  rw [eh, va_up_ne _ _ ha]
  exact h q e1 h0 ha
set_option maxHeartbeats 4000000 in
set_option maxRecDepth 100000 in
theorem c_X0_init (l : Launch) (G : HG) (A : Nat → Prop) (hp : HP) (sz : Nat) (hA : ∀ q, sz ≤ q → A q) (hO : Ow A hp) (au : Nat) (hau : hp au = some (.inr (2, [.null, .null, .null, .int 0]))) : Met l yX0_init [.code yX0_init cX0_init 1 none] { frames := 4, cells := 2, slots := 6, locals := 72 } (va_Pc [.ref au] (WP G A sz hp)) (va_Qv (fun hp1 => ∃ al p0, AU G hp1 au al p0 p0 (G.2.2 0) 0 0 (fun _ => none) (fun _ => 0) (fun _ => 0) 0 cs0 false ∧ IFq hp hp1 au ∧ hp al = none) (WB G A) A) 2 6 A := by
  refine wr_ofW (by decide) (Nat.le_of_ble_eq_true rfl) hO ?_
  intro p e s m args below meth c ls X hr hlk hnm hsz hW hl
  have hA : ∀ q, s.heap.size ≤ q → A q := fun q h => hA q (by omega)
  have hl : lv_has ls 1 [(0, .ref au)] := hl
  refine lv_aload_n X.1 X.2.1 dX0_init_0 rfl (lv_at hl 0 rfl) ?_
  refine W.objInit X.1 X.2.1 X.2.2.2.1 (tb_all X.2.2.2.2.1 _ tw_74) (tb_all X.2.2.2.2.1 _ tw_41) (tb_all X.2.2.2.2.1 _ tw_objinit) rfl (by rw [X.2.2.1]; exact hl.1) rfl dX0_init_1 (Nat.le_of_ble_eq_true rfl) (Nat.le_of_ble_eq_true rfl) ?_
  refine W.eq (g2 := F0 m 4 ls []) rfl ?_
  refine lv_aload_n X.1 X.2.1 dX0_init_4 rfl (lv_at hl 0 rfl) ?_
  refine r_new (k := 1) (n := 3) (fs := [.int 0, .null, .int 0]) X hA hW (C := RJx4a65c) (T := TJx4a65c) (N := 3) (ci := 1) rfl tin_Jx4a65c tyJx4a65c_ok tw_75 tw_44 tw_18 (fun j hj => by rcases (show j = 0 ∨ j = 1 ∨ j = 2 by omega) with rfl | rfl | rfl <;> rfl) (by omega) (by omega) (Nat.le_of_ble_eq_true rfl) (Nat.le_of_ble_eq_true rfl) dX0_init_5 (fun q_5 hp_1 H hW eh_2 hn_3 => ?_)
  have ne_4 : au ≠ q_5 := ne_none hau hn_3
  have f_5 : hp_1 q_5 = some (.inr (1, [.int 0, .null, .int 0])) := by rw [eh_2]; exact va_up_self _ _ _
  refine lv_dup X.1 X.2.1 dX0_init_8 rfl ?_
  refine on_Wv (k' := 1) (n' := 3) (run_I (As := []) (rest := [.ref q_5, .ref au]) X (c_Jx4a65c_init_da8c8 l G A hp_1 _ (fun q h => hA q (Nat.le_trans hW.2.2.1 h)) hW.2.1 q_5 f_5) (wp_blind _) (wp_at X hW.1 hW.2.2) mf_Jx4a65c_init_da8c8 tw_76 tw_46 rfl ⟨rfl, rfl, Nat.le_of_ble_eq_true rfl, Nat.le_of_ble_eq_true rfl⟩ hl.1 rfl rfl (Nat.le_of_ble_eq_true rfl) ⟨Nat.le_of_ble_eq_true rfl, Nat.le_of_ble_eq_true rfl⟩ dX0_init_9) hW (by omega) (by omega) (fun hp_6 H locs q_9 hW => ?_)
  have f_7 : hp_6 q_5 = some (.inr (1, [.int 0, .ref (G.2.2 0), .int (nI 0)])) := by rw [q_9]; exact va_up_self _ _ _
  have f_8 : hp_6 au = some (.inr (2, [.null, .null, .null, .int 0])) := by rw [q_9, va_up_ne _ _ ne_4, eh_2, va_up_ne _ _ ne_4]; exact hau
  refine r_putF X hW f_8 (v := .ref q_5) (C := RX0) (T := TX0) (N := 4) rfl tin_X0 tyX0_ok nmX0 0 (Nat.le_of_ble_eq_true rfl) tw_101 (fun _ h => h) rfl hnm rfl rfl rfl (Nat.le_of_ble_eq_true rfl) dX0_init_12 (fun hp_9 H locs hW eh_10 => ?_)
  have f_11 : hp_9 au = some (.inr (2, [.ref q_5, .null, .null, .int 0])) := by rw [eh_10]; exact va_up_self _ _ _
  refine lv_aload_n X.1 X.2.1 dX0_init_15 rfl (lv_at hl 0 rfl) ?_
  refine r_new (k := 2) (n := 6) (fs := [.int 0, .int 0, .int 0]) X hA hW (C := RX3) (T := TX3) (N := 3) (ci := 4) rfl tin_X3 tyX3_ok tw_77 tw_78 tw_20 (fun j hj => by rcases (show j = 0 ∨ j = 1 ∨ j = 2 by omega) with rfl | rfl | rfl <;> rfl) (by omega) (by omega) (Nat.le_of_ble_eq_true rfl) (Nat.le_of_ble_eq_true rfl) dX0_init_16 (fun q_16 hp_12 H hW eh_13 hn_14 => ?_)
  have ne_15 : au ≠ q_16 := ne_none f_11 hn_14
  have f_17 : hp_9 q_5 = some (.inr (1, [.int 0, .ref (G.2.2 0), .int (nI 0)])) := by rw [eh_10, va_up_ne _ _ (Ne.symm ne_4)]; exact f_7
  have ne_16 : q_5 ≠ q_16 := ne_none f_17 hn_14
  have f_18 : hp_12 q_16 = some (.inr (4, [.int 0, .int 0, .int 0])) := by rw [eh_13]; exact va_up_self _ _ _
  refine lv_dup X.1 X.2.1 dX0_init_19 rfl ?_
  refine lv_iconst (v := 0) X.1 X.2.1 dX0_init_20 (by decide) ?_
  refine lv_bipush (v := (-6)) X.1 X.2.1 dX0_init_21 (by decide) ?_
  refine lv_iconst (v := 0) X.1 X.2.1 dX0_init_23 (by decide) ?_
  refine on_Wv (k' := 2) (n' := 6) (run_I (As := [.int 0, .int (-6), .int 0]) (rest := [.ref q_16, .ref au]) X (c_X3_init l G A hp_12 _ (fun q h => hA q (Nat.le_trans hW.2.2.1 h)) hW.2.1 q_16 0 (-6) 0 f_18) (wp_blind _) (wp_at X hW.1 hW.2.2) mf_X3_init tw_79 tw_80 rfl ⟨rfl, rfl, Nat.le_of_ble_eq_true rfl, Nat.le_of_ble_eq_true rfl⟩ hl.1 rfl rfl (Nat.le_of_ble_eq_true rfl) ⟨Nat.le_of_ble_eq_true rfl, Nat.le_of_ble_eq_true rfl⟩ dX0_init_24) hW (by omega) (by omega) (fun hp_19 H locs q_24 hW => ?_)
  have f_20 : hp_19 q_16 = some (.inr (4, [.int 0, .int (-6), .int 0])) := by rw [q_24]; exact va_up_self _ _ _
  have f_21 : hp_19 au = some (.inr (2, [.ref q_5, .null, .null, .int 0])) := by rw [q_24, va_up_ne _ _ ne_15, eh_13, va_up_ne _ _ ne_15]; exact f_11
  refine r_putF X hW f_21 (v := .ref q_16) (C := RX0) (T := TX0) (N := 4) rfl tin_X0 tyX0_ok nmX0 1 (Nat.le_of_ble_eq_true rfl) tw_103 (fun _ h => h) rfl hnm rfl rfl rfl (Nat.le_of_ble_eq_true rfl) dX0_init_27 (fun hp_22 H locs hW eh_23 => ?_)
  have f_24 : hp_22 au = some (.inr (2, [.ref q_5, .ref q_16, .null, .int 0])) := by rw [eh_23]; exact va_up_self _ _ _
  refine lv_aload_n X.1 X.2.1 dX0_init_30 rfl (lv_at hl 0 rfl) ?_
  refine lv_aload_n X.1 X.2.1 dX0_init_31 rfl (lv_at hl 0 rfl) ?_
  refine r_get X hW.1 f_24 (v := .ref q_16) (C := RX0) (T := TX0) (N := 4) rfl tin_X0 1 (by decide) tw_103 (fun _ h => h) rfl dX0_init_32 ?_
  refine r_put X hW f_24 (v := .ref q_16) (C := RX0) (T := TX0) (N := 4) rfl tin_X0 tyX0_ok nmX0 2 (Nat.le_of_ble_eq_true rfl) tw_104 (fun _ h => h) rfl rfl rfl (Nat.le_of_ble_eq_true rfl) dX0_init_35 (fun hp_25 H locs hW eh_26 => ?_)
  have f_27 : hp_25 au = some (.inr (2, [.ref q_5, .ref q_16, .ref q_16, .int 0])) := by rw [eh_26]; exact va_up_self _ _ _
  refine lv_aload_n X.1 X.2.1 dX0_init_38 rfl (lv_at hl 0 rfl) ?_
  refine lv_iconst (v := 0) X.1 X.2.1 dX0_init_39 (by decide) ?_
  refine r_put X hW f_27 (v := .int 0) (C := RX0) (T := TX0) (N := 4) rfl tin_X0 tyX0_ok nmX0 3 (Nat.le_of_ble_eq_true rfl) tw_106 (fun _ h => h) rfl (by decide) rfl (Nat.le_of_ble_eq_true rfl) dX0_init_40 (fun hp_28 H locs hW eh_29 => ?_)
  have f_30 : hp_28 au = some (.inr (2, [.ref q_5, .ref q_16, .ref q_16, .int 0])) := by rw [eh_29]; exact va_up_self _ _ _
  exact wr_v X hr hlk hW ⟨q_5, q_16, ⟨f_30, (show (_ : Option va_E) = some (.inr (1, [.int 0, .ref (G.2.2 0), .int (nI 0)])) by rw [eh_29, va_up_ne _ _ (Ne.symm ne_4), eh_26, va_up_ne _ _ (Ne.symm ne_4), eh_23, va_up_ne _ _ (Ne.symm ne_4), q_24, va_up_ne _ _ ne_16, eh_13, va_up_ne _ _ ne_16]; exact f_17), ⟨fun z => absurd z (by decide), fun _ => rfl⟩, by decide, Nat.le_refl _, by decide, fun i hi => absurd hi (Nat.not_lt_zero i), (show (_ : Option va_E) = some (.inr (4, [.int 0, .int (-6), .int 0])) by rw [eh_29, va_up_ne _ _ (Ne.symm ne_15), eh_26, va_up_ne _ _ (Ne.symm ne_15), eh_23, va_up_ne _ _ (Ne.symm ne_15)]; exact f_20), (show (_ : Option va_E) = some (.inr (4, [.int 0, .int (-6), .int 0])) by rw [eh_29, va_up_ne _ _ (Ne.symm ne_15), eh_26, va_up_ne _ _ (Ne.symm ne_15), eh_23, va_up_ne _ _ (Ne.symm ne_15)]; exact f_20)⟩, (IF.au (IF.au (IF.au (IF.tw (IF.au (IF.tw IF.rf (le_two hn_3 eh_2 q_9)) eh_10) (le_two hn_14 eh_13 q_24)) eh_23) eh_26) eh_29), hn_3⟩ (Nat.le_of_ble_eq_true rfl) (Nat.le_of_ble_eq_true rfl) dX0_init_43
