/-! the rules that are laid: pure -/
theorem anF_snoc (P : Nat → Bool) : ∀ f r, anF P (f + 1) r = (anF P f r || P (r + f))
  | 0, r => by
    unfold anF anF
    rw [Bool.or_false, Bool.false_or]; rfl
  | f + 1, r => by
    have h := anF_snoc P f (r + 1)
    rw [show anF P (f + 1 + 1) r = (P r || anF P (f + 1) (r + 1)) from rfl, h, ← Bool.or_assoc, show anF P (f + 1) r = (P r || anF P f (r + 1)) from rfl, show r + 1 + f = r + (f + 1) by omega]
theorem th_1 {R : Nat → Nat → Nat} {st ca : Int32} {j : Nat} (h1 : nI (R j 0) = st) (h2 : nI (R j 1) = ca) : bI (anF (thB R st ca) j 0) ||| 1 = bI (anF (thB R st ca) (j + 1) 0) := by
  rw [anF_snoc, show thB R st ca (0 + j) = true by unfold thB; rw [Nat.zero_add, decide_eq_true h1, decide_eq_true h2]; rfl, Bool.or_true]
  cases anF (thB R st ca) j 0 <;> rfl
theorem th_0 {R : Nat → Nat → Nat} {st ca : Int32} {j : Nat} (h : ¬ (nI (R j 0) = st ∧ nI (R j 1) = ca)) : bI (anF (thB R st ca) j 0) ||| 0 = bI (anF (thB R st ca) (j + 1) 0) := by
  have e : thB R st ca (0 + j) = false := by
    unfold thB
    rw [Nat.zero_add]
    by_cases h1 : nI (R j 0) = st
    · rw [decide_eq_true h1, decide_eq_false (fun q => h ⟨h1, q⟩)]; rfl
    · rw [decide_eq_false h1]; rfl
  rw [anF_snoc, e, Bool.or_false]
  cases anF (thB R st ca) j 0 <;> rfl
section LAYS
variable {n : Nat} {R : Nat → Nat → Nat} {hd : Nat → Nat} {pn : Nat} {pt : Nat → Nat} {st ca nx fo : Nat}
theorem fr_args (hst : st ≤ 7) (hca : ca ≤ 25) (hnx : nx ≤ 7) (hfo : fo ≤ 1) : ¬ (inI (nI st) 0 7 = 0 ∨ inI (nI ca) 0 25 = 0 ∨ inI (nI nx) 0 7 = 0 ∨ inI (nI fo) 0 1 = 0) := by
  rintro (q | q | q | q)
  · exact inI_ne (x := st) (hi := 7) (by omega) (by omega) q
  · exact inI_ne (x := ca) (hi := 25) (by omega) (by omega) q
  · exact inI_ne (x := nx) (hi := 7) (by omega) (by omega) q
  · exact inI_ne (x := fo) (hi := 1) (by omega) (by omega) q
theorem fr_no (hn : n ≤ 8) (hst : st ≤ 7) (hca : ca ≤ 25) (hnx : nx ≤ 7) (hfo : fo ≤ 1) (h : anF (thB R (nI st) (nI ca)) n 0 = true) : fRule (n, R, hd, 0, cs0, false, pn, pt) (nI st) (nI ca) (nI nx) (nI fo) = -5 ∧ gRule (n, R, hd, 0, cs0, false, pn, pt) (nI st) (nI ca) (nI nx) (nI fo) = (n, R, hd, 0, cs0, false, pn, pt) := by
  have hn24 : ¬ n = 24 := by omega
  unfold fRule gRule
  rw [if_neg (fr_args hst hca hnx hfo), if_neg (fr_args hst hca hnx hfo), tn_n (by omega), tn_n (by omega), tn_n (by omega), tn_n (by omega)]
  exact ⟨(if_neg hn24).trans (if_pos h), (if_neg hn24).trans (if_pos h)⟩
theorem fr_ye (hn : n ≤ 8) (hst : st ≤ 7) (hca : ca ≤ 25) (hnx : nx ≤ 7) (hfo : fo ≤ 1) (h : anF (thB R (nI st) (nI ca)) n 0 = false) : fRule (n, R, hd, 0, cs0, false, pn, pt) (nI st) (nI ca) (nI nx) (nI fo) = nI n ∧ gRule (n, R, hd, 0, cs0, false, pn, pt) (nI st) (nI ca) (nI nx) (nI fo) = (n + 1, addR R n (rwN st ca nx fo), hd, 0, cs0, false, pn, pt) := by
  have hn24 : ¬ n = 24 := by omega
  have h' : ¬ anF (thB R (nI st) (nI ca)) n 0 = true := by rw [h]; exact fun q => by cases q
  unfold fRule gRule
  rw [if_neg (fr_args hst hca hnx hfo), if_neg (fr_args hst hca hnx hfo), tn_n (by omega), tn_n (by omega), tn_n (by omega), tn_n (by omega)]
  exact ⟨(if_neg hn24).trans (if_neg h'), (if_neg hn24).trans (if_neg h')⟩
theorem fl_v {r w lo hi : Nat} (hn : n ≤ 24) (hr : r < n) (hw : w ≤ 4) (hhi : (hi : Int) ≤ mxI w) (hlo : lo ≤ hi) (hb : hi < 100) : fLimit (n, R, hd, 0, cs0, false, pn, pt) (nI r) (nI w) (nI lo) (nI hi) ≥ 0 ∧ gLimit (n, R, hd, 0, cs0, false, pn, pt) (nI r) (nI w) (nI lo) (nI hi) = (n, lmR R r w lo hi, hd, 0, cs0, false, pn, pt) := by
  have a1 : ¬ inI (nI r) 0 ((n : Int) - 1) = 0 := inI_ne (by omega) (by omega)
  have a2 : ¬ (inI (nI w) 0 4 = 0 ∨ inI (nI hi) 0 (mxI w) = 0 ∨ inI (nI lo) 0 (nI hi).toInt = 0) := by
    rintro (q | q | q)
    · exact inI_ne (x := w) (hi := 4) (by omega) (by omega) q
    · exact inI_ne hhi (by omega) q
    · exact inI_ne (x := lo) (by rw [nI_toInt (by omega)]; omega) (by omega) q
  have hm : ∀ (P : Nat → Bool) (N : Nat), N ≤ 15504 → nI (cntF P N) ≥ 0 := fun P N h => nI_pos' (by have := cntF_le P N; omega)
  unfold fLimit gLimit
  rw [tn_n (show w < 2 ^ 31 by omega), if_neg a1, if_neg a2, if_neg a1, if_neg a2, tn_n (show r < 2 ^ 31 by omega), tn_n (show lo < 2 ^ 31 by omega), tn_n (show hi < 2 ^ 31 by omega)]
  exact ⟨hm _ 15504 (Nat.le_refl _), rfl⟩
end LAYS
theorem lgP_cong {q q1 : Nat → Nat} : ∀ su, (∀ j, 4 ≤ j → j < 4 + 2 * su → q1 j = q j) → lgP q1 su = lgP q su
  | 0, _ => rfl
  | su + 1, h => by
    unfold lgP
    rw [lgP_cong su (fun j h4 hj => h j h4 (by omega)), h (4 + 2 * su) (by omega) (by omega), h (5 + 2 * su) (by omega) (by omega)]
theorem lgP_lt {q : Nat → Nat} (hq : ∀ j, 4 ≤ j → j < 12 → q j ≤ 5) : ∀ su, su ≤ 4 → lgP q su < 64 ^ su
  | 0, _ => by show 0 < 1; decide
  | su + 1, h => by
    have h1 := lgP_lt hq su (by omega)
    have h2 := hq (4 + 2 * su) (by omega) (by omega)
    have h3 := hq (5 + 2 * su) (by omega) (by omega)
    have h4 := Nat.mul_le_mul_right (64 ^ su) (show q (4 + 2 * su) + 8 * q (5 + 2 * su) ≤ 63 by omega)
    have h5 : (64 : Nat) ^ (su + 1) = 64 ^ su * 64 := Nat.pow_succ 64 su
    unfold lgP
    omega
/-- the row of a rule while its lengths are being laid: those of the suits below su stand -/
def QI (R : Nat → Nat → Nat) (n : Nat) (q0 : Nat → Nat) (su lg : Nat) (R1 : Nat → Nat → Nat) : Prop := (∀ i, i < n → R1 i = R i) ∧ (∀ j, j < 4 → R1 n j = q0 j) ∧ (∀ j, 4 ≤ j → j < 12 → R1 n j ≤ 5) ∧ (∀ w, su ≤ w → w < 4 → R1 n (4 + 2 * w) = 0 ∧ R1 n (5 + 2 * w) = 5) ∧ R1 n 12 = 0 ∧ R1 n 13 = 20 ∧ lg = lgP (R1 n) su
theorem qi_0 {R : Nat → Nat → Nat} {n st ca nx fo : Nat} : QI R n (rwN st ca nx fo) 0 0 (addR R n (rwN st ca nx fo)) := by
  have e : addR R n (rwN st ca nx fo) n = rwN st ca nx fo := if_pos rfl
  refine ⟨fun i hi => if_neg (by omega), fun j _ => by rw [e], fun j h4 h12 => ?_, fun w _ hw => ?_, ?_, ?_, rfl⟩
  · rw [e]
    unfold rwN
    rw [if_neg (by omega), if_neg (by omega), if_neg (by omega), if_neg (by omega)]
    unfold frN
    split
    · omega
    · split <;> omega
  · rw [e]
    unfold rwN
    rw [if_neg (by omega), if_neg (by omega), if_neg (by omega), if_neg (by omega), if_neg (by omega), if_neg (by omega), if_neg (by omega), if_neg (by omega)]
    unfold frN
    rw [if_pos (by omega), if_neg (by omega), if_neg (by omega)]
    exact ⟨rfl, rfl⟩
  · rw [e]; rfl
  · rw [e]; rfl
theorem qi_same {R R1 : Nat → Nat → Nat} {n su lg : Nat} {q0 : Nat → Nat} (h : QI R n q0 su lg R1) (hs : su < 4) : QI R n q0 (su + 1) (lg + 40 * 64 ^ su) R1 := by
  obtain ⟨h1, h2, h3, h4, h5, h6, h7⟩ := h
  refine ⟨h1, h2, h3, fun w hw => h4 w (by omega), h5, h6, ?_⟩
  show _ = lgP (R1 n) su + (R1 n (4 + 2 * su) + 8 * R1 n (5 + 2 * su)) * 64 ^ su
  rw [(h4 su (Nat.le_refl _) hs).1, (h4 su (Nat.le_refl _) hs).2, h7]
theorem qi_lim {R R1 : Nat → Nat → Nat} {n su lg lo hi : Nat} {q0 : Nat → Nat} (h : QI R n q0 su lg R1) (hs : su < 4) (hlo : lo ≤ 5) (hhi : hi ≤ 5) : QI R n q0 (su + 1) (lg + (lo + 8 * hi) * 64 ^ su) (lmR R1 n su lo hi) := by
  obtain ⟨h1, h2, h3, h4, h5, h6, h7⟩ := h
  have e : ∀ j, lmR R1 n su lo hi n j = if j = 5 + 2 * su then hi else if j = 4 + 2 * su then lo else R1 n j := fun j => by
    show (if n = n then _ else _ : Nat → Nat) j = _
    rw [if_pos rfl]
  have eo : ∀ j, j ≠ 5 + 2 * su → j ≠ 4 + 2 * su → lmR R1 n su lo hi n j = R1 n j := fun j a b => by rw [e, if_neg a, if_neg b]
  refine ⟨fun i hi9 => (show lmR R1 n su lo hi i = R1 i from if_neg (by omega)).trans (h1 i hi9), fun j hj => by rw [eo j (by omega) (by omega)]; exact h2 j hj, fun j h4' h12 => ?_, fun w hw hw4 => ?_, by rw [eo 12 (by omega) (by omega)]; exact h5, by rw [eo 13 (by omega) (by omega)]; exact h6, ?_⟩
  · rw [e]
    split
    · exact hhi
    · split
      · exact hlo
      · exact h3 j h4' h12
  · rw [eo (4 + 2 * w) (by omega) (by omega), eo (5 + 2 * w) (by omega) (by omega)]
    exact h4 w (by omega) hw4
  · show _ = lgP (lmR R1 n su lo hi n) su + (lmR R1 n su lo hi n (4 + 2 * su) + 8 * lmR R1 n su lo hi n (5 + 2 * su)) * 64 ^ su
    rw [lgP_cong su (fun j a b => eo j (by omega) (by omega)), e, e, if_neg (by omega), if_pos rfl, if_pos rfl, h7]
theorem qi_lt {R R1 : Nat → Nat → Nat} {n su lg : Nat} {q0 : Nat → Nat} (h : QI R n q0 su lg R1) (hs : su ≤ 4) : lg < 64 ^ su := by
  rw [h.2.2.2.2.2.2]
  exact lgP_lt h.2.2.1 su hs
/-- shifting a suit's two lengths to their place -/
theorem sh_su {v su : Nat} (hv : v < 64) (hs : su < 4) : nI v <<< (nI (6 * su) &&& 31) = nI (v * 64 ^ su) := by
  rw [pk_shlN (n := v) _ (6 * su) (s_l _ (by omega)) ?_, show (2 : Nat) ^ (6 * su) = 64 ^ su by rw [Nat.pow_mul]]
  rcases (show su = 0 ∨ su = 1 ∨ su = 2 ∨ su = 3 by omega) with rfl | rfl | rfl | rfl
  · show v * 1 < 4294967296; omega
  · show v * 64 < 4294967296; omega
  · show v * 4096 < 4294967296; omega
  · show v * 262144 < 4294967296; omega
theorem or_su {a v su : Nat} (h : a < 64 ^ su) : nI a ||| nI (v * 64 ^ su) = nI (a + v * 64 ^ su) := by
  rw [n_or, show (64 : Nat) ^ su = 2 ^ (6 * su) by rw [Nat.pow_mul], or_hi a v (6 * su) (by rw [Nat.pow_mul]; exact h), Nat.mul_comm (2 ^ (6 * su))]
theorem rg_same {n : Nat} {R R2 : Nat → Nat → Nat} {g g2 : Nat → Int32} (h : RG n R g) (hn : n < 8) (hr : ∀ i, i < n → R2 i = R i) (hb : QB (R2 n)) (ho : ∀ i c, i < n → (c = 0 ∨ c = 8 ∨ c = 16 ∨ c = 24 ∨ c = 32 ∨ c = 40) → g2 (c + i) = g (c + i)) (e0 : g2 n = nI (R2 n 0)) (e1 : g2 (8 + n) = nI (R2 n 1)) (e2 : g2 (16 + n) = nI (lgN (R2 n))) (e3 : g2 (24 + n) = nI (sgN (R2 n))) (e4 : g2 (32 + n) = nI (R2 n 2)) (e5 : g2 (40 + n) = nI (R2 n 3)) : RG (n + 1) R2 g2 := by
  refine ⟨by omega, fun i hi => ?_⟩
  rcases (show i < n ∨ i = n by omega) with q | q
  · have h9 := h.2 i q
    have o0 := ho i 0 q (Or.inl rfl)
    rw [Nat.zero_add] at o0
    rw [hr i q, o0, ho i 8 q (by omega), ho i 16 q (by omega), ho i 24 q (by omega), ho i 32 q (by omega), ho i 40 q (by omega)]
    exact h9
  · subst q
    exact ⟨hb, e0, e1, e2, e3, e4, e5⟩
theorem rg_step {n st ca nx fo lg lo hi : Nat} {R R1 R2 : Nat → Nat → Nat} {g g1 : Nat → Int32} (h : RG n R g) (hn : n < 8) (hq : QI R n (rwN st ca nx fo) 4 lg R1) (hst : st ≤ 7) (hca : ca ≤ 25) (hnx : nx ≤ 7) (hfo : fo ≤ 1) (hlo : lo ≤ 20) (hhi : hi ≤ 20) (hr : ∀ i, i < n → R2 i = R1 i) (hk : ∀ j, j < 12 → R2 n j = R1 n j) (h12 : R2 n 12 = lo) (h13 : R2 n 13 = hi) (eg : g1 = upd (upd (upd (upd g (nI n).toNatClampNeg (nI st)) (nI (8 + n)).toNatClampNeg (nI ca)) (nI (32 + n)).toNatClampNeg (nI nx)) (nI (40 + n)).toNatClampNeg (nI fo)) : RG (n + 1) R2 (upd (upd g1 (nI (16 + n)).toNatClampNeg (nI lg)) (nI (24 + n)).toNatClampNeg (nI (lo + 32 * hi))) := by
  obtain ⟨q1, q2, q3, q4, q5, q6, q7⟩ := hq
  have k0 : R2 n 0 = st := (hk 0 (by omega)).trans ((q2 0 (by omega)).trans rfl)
  have k1 : R2 n 1 = ca := (hk 1 (by omega)).trans ((q2 1 (by omega)).trans rfl)
  have k2 : R2 n 2 = nx := (hk 2 (by omega)).trans ((q2 2 (by omega)).trans rfl)
  have k3 : R2 n 3 = fo := (hk 3 (by omega)).trans ((q2 3 (by omega)).trans rfl)
  subst eg
  refine rg_same h hn (fun i hi9 => (hr i hi9).trans (q1 i hi9)) ⟨fun j a b => by rw [hk j b]; exact q3 j a b, by omega, by omega, by omega, by omega, by omega, by omega⟩ (fun i c hi9 hc => ?_) ?_ ?_ ?_ ?_ ?_ ?_
  · rw [upd_n (by omega) (by omega), upd_n (by omega) (by omega), upd_n (by omega) (by omega), upd_n (by omega) (by omega), upd_n (by omega) (by omega), upd_n (by omega) (by omega)]
  · rw [upd_n (by omega) (by omega), upd_n (by omega) (by omega), upd_n (by omega) (by omega), upd_n (by omega) (by omega), upd_n (by omega) (by omega), upd_s (by omega), k0]
  · rw [upd_n (by omega) (by omega), upd_n (by omega) (by omega), upd_n (by omega) (by omega), upd_n (by omega) (by omega), upd_s (by omega), k1]
  · rw [upd_n (by omega) (by omega), upd_s (by omega), q7]
    exact congrArg nI (lgP_cong 4 (fun j a b => hk j (by omega))).symm
  · rw [upd_s (by omega)]
    unfold sgN
    rw [h12, h13]
  · rw [upd_n (by omega) (by omega), upd_n (by omega) (by omega), upd_n (by omega) (by omega), upd_s (by omega), k2]
  · rw [upd_n (by omega) (by omega), upd_n (by omega) (by omega), upd_s (by omega), k3]
theorem rg_lim {n st ca nx fo lg lo hi : Nat} {R R1 : Nat → Nat → Nat} {g g1 : Nat → Int32} (h : RG n R g) (hn : n < 8) (hq : QI R n (rwN st ca nx fo) 4 lg R1) (hst : st ≤ 7) (hca : ca ≤ 25) (hnx : nx ≤ 7) (hfo : fo ≤ 1) (hlo : lo ≤ 20) (hhi : hi ≤ 20) (eg : g1 = upd (upd (upd (upd g (nI n).toNatClampNeg (nI st)) (nI (8 + n)).toNatClampNeg (nI ca)) (nI (32 + n)).toNatClampNeg (nI nx)) (nI (40 + n)).toNatClampNeg (nI fo)) : RG (n + 1) (lmR R1 n 4 lo hi) (upd (upd g1 (nI (16 + n)).toNatClampNeg (nI lg)) (nI (24 + n)).toNatClampNeg (nI (lo + 32 * hi))) := by
  have e : ∀ j, lmR R1 n 4 lo hi n j = if j = 13 then hi else if j = 12 then lo else R1 n j := fun j => by
    show (if n = n then _ else _ : Nat → Nat) j = _
    rw [if_pos rfl]
  exact rg_step h hn hq hst hca hnx hfo hlo hhi (fun i hi9 => (show lmR R1 n 4 lo hi i = R1 i from if_neg (by omega))) (fun j hj => by rw [e, if_neg (by omega), if_neg (by omega)]) (by rw [e, if_neg (by omega), if_pos rfl]) (by rw [e, if_pos rfl]) eg
theorem rg_nol {n st ca nx fo lg : Nat} {R R1 : Nat → Nat → Nat} {g g1 : Nat → Int32} (h : RG n R g) (hn : n < 8) (hq : QI R n (rwN st ca nx fo) 4 lg R1) (hst : st ≤ 7) (hca : ca ≤ 25) (hnx : nx ≤ 7) (hfo : fo ≤ 1) (eg : g1 = upd (upd (upd (upd g (nI n).toNatClampNeg (nI st)) (nI (8 + n)).toNatClampNeg (nI ca)) (nI (32 + n)).toNatClampNeg (nI nx)) (nI (40 + n)).toNatClampNeg (nI fo)) : RG (n + 1) R1 (upd (upd g1 (nI (16 + n)).toNatClampNeg (nI lg)) (nI (24 + n)).toNatClampNeg (nI 640)) :=
  rg_step (lo := 0) (hi := 20) h hn hq hst hca hnx hfo (by omega) (by omega) (fun i _ => rfl) (fun j _ => rfl) hq.2.2.2.2.1 hq.2.2.2.2.2.1 eg
theorem rg_0 {g : Nat → Int32} : RG 0 (fun _ _ => 0) g := ⟨by omega, fun k h => absurd h (Nat.not_lt_zero k)⟩
