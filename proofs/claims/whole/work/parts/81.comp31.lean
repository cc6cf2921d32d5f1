/-! the whole text -/
def bdB (pn : Nat) (x : Bool × Nat × (Nat → Nat)) : Bool := x.1 || decide (x.2.1 < pn)
section PNS
variable {pn : Nat} {pt : Nat → Nat} {w : Bool} {lo hi sp m h u q0 : Nat}
theorem tkS_pn (hl : 1 ≤ lo) (hs : sp ≤ pn) : tkS (txN pn pt) w lo hi sp ≤ pn := by
  by_cases c : tkW (txN pn pt) w lo hi sp = true
  · rw [(tk_t c).1]; exact hs
  · rw [(tk_f c).1]
    have k := tkW_w (Bool.eq_false_iff.mpr c)
    have := tx_pn (pn := pn) (pt := pt) (i := sp) (by omega)
    omega
theorem nmS_pn (hs : sp ≤ pn) : nmS (txN pn pt) w m h sp ≤ pn := by
  have k := tkS_pn (pt := pt) (w := w) (hi := h) (lo := 48) (by decide) hs
  by_cases c : nmB (txN pn pt) w m h sp = true
  · rw [(nm_t c).1]
    unfold nmB at c
    rw [Bool.and_eq_true] at c
    have c2 := of_decide_eq_true c.2
    have := tx_pn (pn := pn) (pt := pt) (i := tkS (txN pn pt) w 48 h sp) (by omega)
    omega
  · rw [(nm_f (Bool.eq_false_iff.mpr c)).1]; exact k
theorem st_pn {e : Nat} (he : ¬ e = 0) (h : ¬ stN e (txN pn pt sp) = 9) : sp < pn := tx_pn (fun z => h (by rw [z]; unfold stN; rw [if_neg (fun y => he y.symm)]; rfl))
theorem caS_pn (hs : sp ≤ pn) : caS (txN pn pt) w sp ≤ pn := by
  by_cases c : caP (txN pn pt) w sp = true
  · rw [(ca_p c).2.1]
    unfold caP at c
    rw [Bool.and_eq_true] at c
    have c2 := of_decide_eq_true c.2
    have := tx_pn (pn := pn) (pt := pt) (i := sp) (by omega)
    omega
  · have e := ca_n (Bool.eq_false_iff.mpr c)
    rw [e.2.1]
    have k := tkS_pn (pt := pt) (w := w) (lo := 49) (hi := 53) (by decide) hs
    by_cases d : caW (txN pn pt) w sp = true
    · rw [if_pos d]; exact k
    · rw [if_neg d]
      have d2 := Bool.eq_false_iff.mpr d
      rw [e.1, Bool.or_eq_false_iff] at d2
      have := st_pn (by decide) (of_decide_eq_false d2.2)
      omega
theorem c3_pn (hs : sp + 1 ≤ pn) : c3 (txN pn pt) u sp ≤ pn := by
  unfold c3 c2 c1
  exact nmS_pn (tkS_pn (by decide) (nmS_pn hs))
theorem hd_pn (h : h5W (txN pn pt) = false) : h5S (txN pn pt) + hFo (txN pn pt) ≤ pn := by
  have s1 : h1S (txN pn pt) ≤ pn := tkS_pn (by decide) (Nat.zero_le _)
  have s2 : h2S (txN pn pt) ≤ pn := tkS_pn (by decide) s1
  have s3 : h3S (txN pn pt) ≤ pn := caS_pn s2
  have s4 : h4S (txN pn pt) ≤ pn := tkS_pn (by decide) s3
  have s5 : h5S (txN pn pt) ≤ pn := tkS_pn (by decide) s4
  unfold hFo
  by_cases c : h5W (txN pn pt) = false ∧ txN pn pt (h5S (txN pn pt)) = 33
  · rw [if_pos c]
    have := tx_pn (pn := pn) (pt := pt) (i := h5S (txN pn pt)) (by omega)
    omega
  · rw [if_neg c]; exact s5
end PNS
theorem hQ_bd {tx : Nat → Nat} (h : h5W tx = false) : ∀ j, j < 14 → hQ tx j ≤ 25 := by
  have n2 : h2W tx = false := Bool.eq_false_iff.mpr (fun z => Bool.false_ne_true (h.symm.trans (hd_2 z).1))
  have n3 : h3W tx = false := Bool.eq_false_iff.mpr (fun z => Bool.false_ne_true (h.symm.trans (hd_3 z).1))
  have c := caV_le ((hw3 n2).1.symm.trans n3)
  have a := tkV_le (tx := tx) (w := false) (lo := 48) (hi := 55) (sp := 0)
  have b := tkV_le (tx := tx) (w := h4W tx) (lo := 48) (hi := 55) (sp := h4S tx)
  have f : hFo tx ≤ 1 := by unfold hFo; split <;> omega
  unfold hQ
  rw [n2]
  exact rw_bd (by omega) c (by omega) f
section RWS
variable {tx : Nat → Nat} {f s h pn : Nat} {q : Nat → Nat}
theorem rw_h (h5 : h5W tx = true) : bdB pn (rdF tx) = true ∧ (rdF tx).2.1 = h5S tx + hFo tx := by
  have e : rdF tx = (h5W tx, h5S tx + hFo tx, hQ tx) := lp_end (fun z => Bool.false_ne_true (z.1.symm.trans h5))
  rw [e]
  exact ⟨by unfold bdB; rw [h5]; rfl, rfl⟩
theorem rw_end (hR : rdF tx = lpF tx (f + 1) false s h q) (ht : ¬ tx s = 44) (hs : s = pn) : bdB pn (rdF tx) = false ∧ (rdF tx).2.2 = q := by
  have e : rdF tx = (false, s, q) := hR.trans (lp_end (fun z => ht z.2))
  rw [e, hs]
  exact ⟨by unfold bdB; rw [decide_eq_false (Nat.lt_irrefl pn)]; rfl, rfl⟩
theorem rw_k (hR : rdF tx = lpF tx (f + 1 + 1) false s h q) (hs : s < pn) (hB : tkW tx false 44 44 s = true ∨ cdX tx h (s + 1) = true) : bdB pn (rdF tx) = true ∧ (rdF tx).2.1 = (if tkW tx false 44 44 s = true then s else if cdX tx h (s + 1) = true then s + 1 else s + 1 + 1) := by
  by_cases c : tkW tx false 44 44 s = true
  · have e : rdF tx = (false, s, q) := hR.trans (lp_end (fun z => tk1_t c z.2))
    rw [e, if_pos c]
    exact ⟨by unfold bdB; rw [decide_eq_true hs]; rfl, rfl⟩
  · have x := hB.elim (fun z => absurd z c) id
    have w : cdW tx h (s + 1) = true := by unfold cdW; rw [x]; rfl
    have e : rdF tx = (cdW tx h (s + 1), cdS tx h (s + 1), cdQ tx (s + 1) q) := (hR.trans (lp_st rfl (tk1_f (Bool.eq_false_iff.mpr c)))).trans (lp_end (fun z => Bool.false_ne_true (z.1.symm.trans w)))
    rw [e, if_neg c, if_pos x]
    exact ⟨by unfold bdB; rw [w]; rfl, if_pos x⟩
theorem rw_r (hR : rdF tx = lpF tx (f + 1 + 1) false s h q) (hc : ¬ tkW tx false 44 44 s = true) (hx : ¬ cdX tx h (s + 1) = true) (hr : (cC tx (whN tx (s + 1)) (s + 1) || cdY tx (whN tx (s + 1)) (s + 1)) = true) : bdB pn (rdF tx) = true ∧ (rdF tx).2.1 = (if cdY tx (whN tx (s + 1)) (s + 1) = true then c3 tx (whN tx (s + 1)) (s + 1) - 1 else c3 tx (whN tx (s + 1)) (s + 1)) := by
  have w : cdW tx h (s + 1) = true := by unfold cdW; rw [hr, Bool.or_true]
  have e : rdF tx = (cdW tx h (s + 1), cdS tx h (s + 1), cdQ tx (s + 1) q) := (hR.trans (lp_st rfl (tk1_f (Bool.eq_false_iff.mpr hc)))).trans (lp_end (fun z => Bool.false_ne_true (z.1.symm.trans w)))
  rw [e]
  exact ⟨by unfold bdB; rw [w]; rfl, if_neg hx⟩
theorem rw_n (hR : rdF tx = lpF tx (f + 1 + 1) false s h q) (hc : ¬ tkW tx false 44 44 s = true) (hx : ¬ cdX tx h (s + 1) = true) (hr : ¬ (cC tx (whN tx (s + 1)) (s + 1) || cdY tx (whN tx (s + 1)) (s + 1)) = true) : rdF tx = lpF tx (f + 1) false (c3 tx (whN tx (s + 1)) (s + 1)) (h ||| 2 ^ whN tx (s + 1)) (slR q (whN tx (s + 1)) (cL tx (whN tx (s + 1)) (s + 1)) (cH tx (whN tx (s + 1)) (s + 1))) ∧ cdY tx (whN tx (s + 1)) (s + 1) = false := by
  have r := Bool.eq_false_iff.mpr hr
  have x := Bool.eq_false_iff.mpr hx
  have y := (Bool.or_eq_false_iff.mp r).2
  have w : cdW tx h (s + 1) = false := by unfold cdW; rw [x, r]; rfl
  have e1 : cdS tx h (s + 1) = c3 tx (whN tx (s + 1)) (s + 1) := (if_neg hx).trans (if_neg (fun z => Bool.false_ne_true (y.symm.trans z)))
  have e2 : cdB tx h (s + 1) = h ||| 2 ^ whN tx (s + 1) := if_neg hx
  have e := hR.trans (lp_st rfl (tk1_f (Bool.eq_false_iff.mpr hc)))
  rw [w, e1, e2] at e
  exact ⟨e, y⟩
theorem whN4 (hx : ¬ cdX tx h s = true) : whN tx s ≤ 4 ∧ ¬ whN tx s = 9 := by
  have x := Bool.eq_false_iff.mpr hx
  unfold cdX at x
  rw [Bool.or_eq_false_iff] at x
  have := whN_le tx s
  have := of_decide_eq_false x.1
  omega
end RWS
