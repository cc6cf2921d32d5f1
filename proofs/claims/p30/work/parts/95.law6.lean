/-! all hands gone through: what is counted and shown, hand by hand -/
theorem kp_up {hp hp1 hp2 : HP} {a : Nat} {x : Option va_E} (hk : ∀ q e, hp q = some e → hp1 q = some e) (e : hp2 = va_up hp1 a x) (hn : hp a = none) : ∀ q e, hp q = some e → hp2 q = some e := fun q e9 hq => by
  rw [e, va_up_ne _ _ (fun c => by rw [c, hn] at hq; cases hq)]
  exact hk q e9 hq
theorem kp_none {hp hp1 : HP} {a : Nat} (hk : ∀ q e, hp q = some e → hp1 q = some e) (hn : hp1 a = none) : hp a = none := by
  cases hv : hp a with
  | none => rfl
  | some x => rw [hk a x hv] at hn; cases hn
theorem he_out {i : Nat} (h : i = 15504) : nI (HL i) ≥ 1048576 := by
  subst h
  exact nI_le (a := 1048576) (b := HL 15504) HL_end (Nat.lt_of_le_of_lt (HL_le (Nat.le_refl _)) (by decide))
theorem he_in {i : Nat} (h : i < 15504) : ¬ nI (HL i) ≥ 1048576 := by
  have := (HL_ok h).2.1
  exact nI_ge (a := HL i) (b := 1048576) (by omega) (by decide)
theorem cn_yes {P : Nat → Bool} {i : Nat} (h : P (HL i) = true) : cntF P (i + 1) = cntF P i + 1 := by
  show cntF P i + (if P (HL i) = true then 1 else 0) = _
  rw [if_pos h]
theorem cn_no {P : Nat → Bool} {i : Nat} (h : ¬ P (HL i) = true) : cntF P (i + 1) = cntF P i := by
  show cntF P i + (if P (HL i) = true then 1 else 0) = _
  rw [if_neg h]; rfl
theorem sh_no {P : Nat → Bool} {w i : Nat} (h : ¬ P (HL i) = true) : shF P w (i + 1) = shF P w i := if_neg h
theorem sh_ye {P : Nat → Bool} {w i : Nat} (h : P (HL i) = true) : shF P w (i + 1) = (true, if (shF P w i).1 = true then jsN (shF P w i).2 (snN (HL i) w) w else snN (HL i) w) := if_pos h
theorem sh_0 {P : Nat → Bool} {w : Nat} : ∀ i, cntF P i = 0 → shF P w i = (false, 0)
  | 0, _ => rfl
  | i + 1, h => by
    by_cases c : P (HL i) = true
    · rw [cn_yes c] at h; omega
    · rw [cn_no c] at h
      rw [sh_no c]
      exact sh_0 i h
theorem sh_1 {P : Nat → Bool} {w : Nat} : ∀ i, ¬ cntF P i = 0 → (shF P w i).1 = true
  | 0, h => absurd rfl h
  | i + 1, h => by
    by_cases c : P (HL i) = true
    · rw [sh_ye c]
    · rw [cn_no c] at h
      rw [sh_no c]
      exact sh_1 i h
theorem sn_lo {h w : Nat} (hw : w < 5) : snN h (2 * w) = measN h w := by
  unfold snN
  rw [if_neg (by omega), show 2 * w / 2 = w by omega]
theorem sn_hi {h w : Nat} (hw : w < 5) : snN h (2 * w + 1) = measN h w := by
  unfold snN
  rw [if_neg (by omega), show (2 * w + 1) / 2 = w by omega]
theorem js_lo {a b w : Nat} (hw : w < 5) : jsN a b (2 * w) = min a b := by
  unfold jsN
  rw [if_neg (by omega), if_neg (by omega), if_pos (by omega)]
theorem js_hi {a b w : Nat} (hw : w < 5) : jsN a b (2 * w + 1) = max a b := by
  unfold jsN
  rw [if_neg (by omega), if_neg (by omega), if_neg (by omega)]
theorem lo_0 {P : Nat → Bool} {w i : Nat} (hw : w < 5) (hP : P (HL i) = true) (h : cntF P i = 0) : measN (HL i) w = (shF P (2 * w) (i + 1)).2 := by
  rw [sh_ye hP, sh_0 i h, sn_lo hw]; rfl
theorem lo_1 {P : Nat → Bool} {w i : Nat} (hw : w < 5) (hP : P (HL i) = true) (h : ¬ cntF P i = 0) (h2 : measN (HL i) w < (shF P (2 * w) i).2) : measN (HL i) w = (shF P (2 * w) (i + 1)).2 := by
  rw [sh_ye hP]
  show _ = if (shF P (2 * w) i).1 = true then _ else _
  rw [if_pos (sh_1 i h), js_lo hw, sn_lo hw]
  omega
theorem lo_2 {P : Nat → Bool} {w i : Nat} (hw : w < 5) (hP : P (HL i) = true) (h : ¬ cntF P i = 0) (h2 : (shF P (2 * w) i).2 ≤ measN (HL i) w) : (shF P (2 * w) i).2 = (shF P (2 * w) (i + 1)).2 := by
  rw [sh_ye hP]
  show _ = if (shF P (2 * w) i).1 = true then _ else _
  rw [if_pos (sh_1 i h), js_lo hw, sn_lo hw]
  omega
theorem hi_1 {P : Nat → Bool} {w i : Nat} (hw : w < 5) (hP : P (HL i) = true) (h2 : (shF P (2 * w + 1) i).2 < measN (HL i) w) : measN (HL i) w = (shF P (2 * w + 1) (i + 1)).2 := by
  rw [sh_ye hP]
  show _ = if (shF P (2 * w + 1) i).1 = true then _ else _
  by_cases h : cntF P i = 0
  · rw [sh_0 i h, sn_hi hw]; rfl
  · rw [if_pos (sh_1 i h), js_hi hw, sn_hi hw]
    omega
theorem hi_2 {P : Nat → Bool} {w i : Nat} (hw : w < 5) (hP : P (HL i) = true) (h2 : measN (HL i) w ≤ (shF P (2 * w + 1) i).2) : (shF P (2 * w + 1) i).2 = (shF P (2 * w + 1) (i + 1)).2 := by
  rw [sh_ye hP]
  show _ = if (shF P (2 * w + 1) i).1 = true then _ else _
  by_cases h : cntF P i = 0
  · rw [sh_0 i h] at h2 ⊢
    rw [if_neg (fun q => by cases q), sn_hi hw]
    omega
  · rw [if_pos (sh_1 i h), js_hi hw, sn_hi hw]
    omega
/-- the cards that all have, as the law has them -/
def alN (P : Nat → Bool) (i : Nat) : Nat := if cntF P i = 0 then 1048575 else (shF P 10 i).2
theorem al_ye {P : Nat → Bool} {i : Nat} (hi : HL i ≤ 1048575) (hP : P (HL i) = true) : alN P i &&& HL i = alN P (i + 1) := by
  unfold alN
  have hc : ¬ cntF P (i + 1) = 0 := by rw [cn_yes hP]; omega
  rw [if_neg hc, sh_ye hP]
  show _ = if (shF P 10 i).1 = true then _ else _
  by_cases h : cntF P i = 0
  · rw [if_pos h, sh_0 i h, if_neg (fun q => by cases q), Nat.and_comm, show (1048575 : Nat) = 2 ^ 20 - 1 from rfl, Nat.and_two_pow_sub_one_eq_mod, Nat.mod_eq_of_lt (by omega)]
    rfl
  · rw [if_neg h, if_pos (sh_1 i h)]
    rfl
theorem al_no {P : Nat → Bool} {i : Nat} (hP : ¬ P (HL i) = true) : alN P (i + 1) = alN P i := by
  unfold alN
  rw [cn_no hP, sh_no hP]
theorem so_ye {P : Nat → Bool} {i : Nat} (hP : P (HL i) = true) : (shF P 11 i).2 ||| HL i = (shF P 11 (i + 1)).2 := by
  rw [sh_ye hP]
  show _ = if (shF P 11 i).1 = true then _ else _
  by_cases h : cntF P i = 0
  · rw [sh_0 i h, if_neg (fun q => by cases q)]
    show 0 ||| HL i = HL i
    rw [Nat.zero_or]
  · rw [if_pos (sh_1 i h)]
    rfl
theorem al_lt {P : Nat → Bool} {i : Nat} (h : i ≤ 15504) : alN P i < 2 ^ 20 := by
  have := shF_le P 10 i h
  unfold alN
  split
  · decide
  · exact this
def suO (ow : Bool) (P : Nat → Bool) (f : Nat → Nat) (i : Nat) : Nat := if ow = true then sumF P f i else 0
theorem su_ye {ow : Bool} {P : Nat → Bool} {f : Nat → Nat} {i : Nat} (ho : ow = true) (hP : P (HL i) = true) : suO ow P f i + f (HL i) = suO ow P f (i + 1) := by
  unfold suO
  rw [if_pos ho, if_pos ho]
  show _ = sumF P f i + (if P (HL i) = true then f (HL i) else 0)
  rw [if_pos hP]
theorem su_nn {ow : Bool} {P : Nat → Bool} {f : Nat → Nat} {i j : Nat} (ho : ow = false) : suO ow P f i = suO ow P f j := by
  unfold suO
  rw [if_neg (by rw [ho]; exact fun q => by cases q), if_neg (by rw [ho]; exact fun q => by cases q)]
theorem su_no {ow : Bool} {P : Nat → Bool} {f : Nat → Nat} {i : Nat} (hP : ¬ P (HL i) = true) : suO ow P f (i + 1) = suO ow P f i := by
  unfold suO
  by_cases c : ow = true
  · rw [if_pos c, if_pos c]
    show sumF P f i + (if P (HL i) = true then f (HL i) else 0) = _
    rw [if_neg hP]; rfl
  · rw [if_neg c, if_neg c]
theorem su_le {ow : Bool} {P : Nat → Bool} {f : Nat → Nat} (hf : ∀ h, f h ≤ 5) {i : Nat} (hi : i ≤ 15504) : suO ow P f i ≤ 77520 := by
  have h1 := sumF_le P f hf i
  have h2 := cntF_le P i
  unfold suO
  split
  · omega
  · omega
/-- the law's three rows: least, most, sums; the row j stands at the hand I j -/
def TX (P : Nat → Bool) (ow : Bool) (own : Nat) (I : Nat → Nat) (gl gm gs : Nat → Int32) : Prop := ∀ j, j < 5 → gl j = nI (shF P (2 * j) (I j)).2 ∧ gm j = nI (shF P (2 * j + 1) (I j)).2 ∧ gs j = nI (suO ow P (trN j own) (I j))
def IW (w i j : Nat) : Nat := if j < w then i + 1 else i
theorem tx_0 {P : Nat → Bool} {ow : Bool} {own : Nat} : TX P ow own (fun _ => 0) (fun _ => 0) (fun _ => 0) (fun _ => 0) := fun j _ => ⟨rfl, rfl, by
  show (0 : Int32) = nI (suO ow P (trN j own) 0)
  unfold suO
  split <;> rfl⟩
theorem tx_no {P : Nat → Bool} {ow : Bool} {own i : Nat} {gl gm gs : Nat → Int32} (h : TX P ow own (fun _ => i) gl gm gs) (hP : ¬ P (HL i) = true) : TX P ow own (fun _ => i + 1) gl gm gs := fun j hj => by
  have := h j hj
  show gl j = nI (shF P (2 * j) (i + 1)).2 ∧ gm j = nI (shF P (2 * j + 1) (i + 1)).2 ∧ gs j = nI (suO ow P (trN j own) (i + 1))
  rw [sh_no hP, sh_no hP, su_no hP]
  exact this
theorem tx_w0 {P : Nat → Bool} {ow : Bool} {own i : Nat} {gl gm gs : Nat → Int32} (h : TX P ow own (fun _ => i) gl gm gs) : TX P ow own (IW 0 i) gl gm gs := fun j hj => by
  rw [show IW 0 i j = i from if_neg (Nat.not_lt_zero j)]
  exact h j hj
theorem tx_w5 {P : Nat → Bool} {ow : Bool} {own i w : Nat} {gl gm gs : Nat → Int32} (h : TX P ow own (IW w i) gl gm gs) (hw : w = 5) : TX P ow own (fun _ => i + 1) gl gm gs := fun j hj => by
  have := h j hj
  rw [show IW w i j = i + 1 from if_pos (by omega)] at this
  exact this
theorem tx_at {P : Nat → Bool} {ow : Bool} {own i w : Nat} {gl gm gs : Nat → Int32} (h : TX P ow own (IW w i) gl gm gs) (hw : w < 5) : gl w = nI (shF P (2 * w) i).2 ∧ gm w = nI (shF P (2 * w + 1) i).2 ∧ gs w = nI (suO ow P (trN w own) i) := by
  have := h w hw
  rw [show IW w i w = i from if_neg (Nat.lt_irrefl w)] at this
  exact this
theorem tx_step {P : Nat → Bool} {ow : Bool} {own i w : Nat} {gl gm gs : Nat → Int32} (h : TX P ow own (IW w i) gl gm gs) (hw : w < 5) : TX P ow own (IW (w + 1) i) (upd gl (nI w).toNatClampNeg (nI (shF P (2 * w) (i + 1)).2)) (upd gm (nI w).toNatClampNeg (nI (shF P (2 * w + 1) (i + 1)).2)) (upd gs (nI w).toNatClampNeg (nI (suO ow P (trN w own) (i + 1)))) := fun j hj => by
  by_cases c : j = w
  · subst c
    rw [upd_s (by omega), upd_s (by omega), upd_s (by omega), show IW (j + 1) i j = i + 1 from if_pos (Nat.lt_succ_self j)]
    exact ⟨rfl, rfl, rfl⟩
  · rw [upd_n (by omega) c, upd_n (by omega) c, upd_n (by omega) c, show IW (w + 1) i j = IW w i j by unfold IW; split <;> split <;> omega]
    exact h j hj
theorem fn_i {n : Nat} {R : Nat → Nat → Nat} {k : Nat} {cs : Nat → Nat → Int32} {sk : Bool} {x kn i : Nat} {P : Nat → Bool} (eP : P = hidB n R k cs sk x kn) (hi : i = 15504) (hx : x < 2) (hk : kn ≤ 1048575) : fHands n R k cs sk (nI x) (nI kn) = nI (cntF P i) := by
  rw [fn_v hx hk, eP, hi]
theorem fw_i {n : Nat} {R : Nat → Nat → Nat} {k : Nat} {cs : Nat → Nat → Int32} {sk : Bool} {x kn w i : Nat} {P : Nat → Bool} (eP : P = hidB n R k cs sk x kn) (hi : i = 15504) (hx : x < 2) (hk : kn ≤ 1048575) (hw : w ≤ 11) : fShown n R k cs sk (nI x) (nI kn) (nI w) = if cntF P i = 0 then -6 else nI (shF P w i).2 := by
  rw [fw_v hx hk hw, ← eP, ← hi]
  by_cases c : cntF P i = 0
  · rw [if_pos c, sh_0 i c, if_neg (fun q => by cases q)]
  · rw [if_neg c, if_pos (sh_1 i c)]
theorem fe_i {n : Nat} {R : Nat → Nat → Nat} {hd : Nat → Nat} {k : Nat} {cs : Nat → Nat → Int32} {sk : Bool} {pn : Nat} {pt : Nat → Nat} {x kn j i : Nat} {P : Nat → Bool} {ow : Bool} (eP : P = hidB n R k cs sk x kn) (hi : i = 15504) (hx : x < 2) (hj : j ≤ 4) (ho : ow = true) (hkn : kn = hd (1 - x)) : fExp (n, R, hd, k, cs, sk, pn, pt) (nI (1 - x)) (nI j) = lN (suO ow P (trN j (hd (1 - x))) i) := by
  rw [ex_fin (x := 1 - x) (y := j) (by omega) hj (inI_ne (by omega) (by omega)) (inI_ne (by omega) (by omega)) pn pt]
  unfold suT suO
  rw [if_pos ho, eP, hkn, show 1 - (1 - x) = x by omega, hi]
theorem fc_i {n : Nat} {R : Nat → Nat → Nat} {hd : Nat → Nat} {k : Nat} {cs : Nat → Nat → Int32} {sk : Bool} {pn : Nat} {pt : Nat → Nat} {x kn i : Nat} {P : Nat → Bool} {ow : Bool} (eP : P = hidB n R k cs sk x kn) (hi : i = 15504) (hx : x < 2) (ho : ow = true) (hkn : kn = hd (1 - x)) : fCon (n, R, hd, k, cs, sk, pn, pt) (nI (1 - x)) = coN (fun j => suO ow P (trN j (hd (1 - x))) i) (cntF P i) := by
  rw [ls_fin (x := 1 - x) (by omega) (inI_ne (by omega) (by omega)) pn pt]
  have e1 : suT n R hd k cs sk (1 - x) = fun j => suO ow P (trN j (hd (1 - x))) i := by
    funext j
    unfold suT suO
    rw [if_pos ho, eP, hkn, show 1 - (1 - x) = x by omega, hi]
  have e2 : hmN n R hd k cs sk (1 - x) = cntF P i := by
    unfold hmN
    rw [eP, hkn, show 1 - (1 - x) = x by omega, hi]
  rw [e1, e2]
theorem hid_yes {n : Nat} {R : Nat → Nat → Nat} {k : Nat} {cs : Nat → Nat → Int32} {sk : Bool} {x kn h : Nat} {P : Nat → Bool} (eP : P = hidB n R k cs sk x kn) (h1 : faB n R k cs sk x h = true) (h2 : h &&& kn = 0) : P h = true := by
  subst eP
  unfold hidB
  rw [decide_eq_true h2, h1]; rfl
theorem hid_no1 {n : Nat} {R : Nat → Nat → Nat} {k : Nat} {cs : Nat → Nat → Int32} {sk : Bool} {x kn h : Nat} {P : Nat → Bool} (eP : P = hidB n R k cs sk x kn) (h1 : faB n R k cs sk x h = false) : ¬ P h = true := by
  subst eP
  unfold hidB
  rw [h1, Bool.and_false]
  exact fun q => by cases q
theorem hid_no2 {n : Nat} {R : Nat → Nat → Nat} {k : Nat} {cs : Nat → Nat → Int32} {sk : Bool} {x kn h : Nat} {P : Nat → Bool} (eP : P = hidB n R k cs sk x kn) (h2 : ¬ h &&& kn = 0) : ¬ P h = true := by
  subst eP
  unfold hidB
  rw [decide_eq_false h2]
  exact fun q => by cases q
theorem lcI_self (x : Int64) : lcI x x = 0 := by
  unfold lcI
  rw [if_neg (Int64.lt_irrefl), if_pos rfl]
