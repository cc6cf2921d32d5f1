/-! the component's writers over the rules -/
theorem RU.ls {G : HG} {hp : HP} {rl eR cR n : Nat} {mR : Int32} {gR : Nat → Option Nat} {RA : Nat → Nat} {R : Nat → Nat → Nat} (h : RU G hp rl eR cR mR gR RA n R) : LSq G hp rl eR n cR mR gR := ⟨h.1, h.2.1, h.2.2.2.1, h.2.2.2.2.1⟩
theorem RU.els {G : HG} {hp : HP} {rl eR cR n : Nat} {mR : Int32} {gR : Nat → Option Nat} {RA : Nat → Nat} {R : Nat → Nat → Nat} (h : RU G hp rl eR cR mR gR RA n R) : isEls hp gR 0 n := by
  refine ⟨5, Or.inr rfl, fun i hi y hy => ?_⟩
  rw [Nat.zero_add, (h.2.2.2.2.2.1 i hi).1] at hy
  cases hy
  exact ⟨_, (h.2.2.2.2.2.1 i hi).2⟩
theorem LFq.rc {G : HG} {hp hp1 : HP} {b9 ea n9 cap : Nat} {mc : Int32} {f9 : Nat → Option Nat} (hL : LSq G hp b9 ea n9 cap mc f9) (hF : LFq hp hp1 b9 ea cap) {q : Nat} {w : Nat → Nat} (hq : hp q = some (rcE w)) : hp1 q = some (rcE w) := hF _ _ hq (ne_look hq hL.1 (by simp [rcE, alE])) (fun z => ne_look hq (hL.2.1.1 z) (by simp [rcE]))
theorem cz_rl {G : HG} {hp hp1 : HP} {b6 rl au pa e0 e1 eR cR : Nat} {mR : Int32} {gR : Nat → Option Nat} {RA : Nat → Nat} {al p0 pw eA cA : Nat} {mA : Int32} {gA : Nat → Option Nat} {CA QA : Nat → Nat} {vb cv : Nat} {ml : Bool} {fb : Nat → Int32} {n : Nat} {R : Nat → Nat → Nat} {hd : Nat → Nat} {k : Nat} {cs : Nat → Nat → Int32} {sk : Bool} {pn : Nat} {pt : Nat → Nat} {eR1 cR1 n1 : Nat} {mR1 : Int32} {g1 : Nat → Option Nat} {RA1 : Nat → Nat} {R1 : Nat → Nat → Nat} (h : CC G hp b6 rl au pa e0 e1 eR cR mR gR RA al p0 pw eA cA mA gA CA QA vb cv ml fb (n, R, hd, k, cs, sk, pn, pt)) (hF : LFq hp hp1 rl eR cR) (hL : LSq G hp1 rl eR1 n1 cR1 mR1 g1) (hn : n1 ≤ 24) (hr : ∀ i, i < n1 → g1 i = some (RA1 i) ∧ hp1 (RA1 i) = some (rcE (R1 i))) (hb : ∀ i j, i < n1 → j < 14 → R1 i j ≤ 25) (he : (eR1 = eR ∧ cR1 = cR) ∨ hp eR1 = none) (hi : ∀ i j, i < n1 → j < n1 → RA1 i = RA1 j → i = j) (hu : UQ n1 R1) : CC G hp1 b6 rl au pa e0 e1 eR1 cR1 mR1 g1 RA1 al p0 pw eA cA mA gA CA QA vb cv ml fb (n1, R1, hd, k, cs, sk, pn, pt) := by
  obtain ⟨hb6, hU6, hU9, hSB, hHD, hDJ, huq⟩ := h
  have hLr := hU6.ls
  have kp : ∀ q e, hp q = some e → (∀ v, e ≠ .inr (1, v)) → (∀ c f, e ≠ arQ G c f) → hp1 q = some e := fun q e h0 h1 h2 => hF q e h0 (ne_look h0 hLr.1 (by unfold alE; exact h1 _)) (fun z => ne_look h0 (hLr.2.1.1 z) (h2 _ _))
  refine ⟨kp _ _ hb6 (by simp [obE]) (by simp [obE, arQ]), ⟨hL.1, hL.2.1, hn, hL.2.2.1, hL.2.2.2, hr, hb⟩, ⟨kp _ _ hU9.1 (by simp [auE]) (by simp [auE, arQ]), hF _ _ hU9.2.1 (Ne.symm hDJ.1) (fun z => ne_look hU9.2.1 (hLr.2.1.1 z) (by simp [alE, arQ])), ⟨fun z => hF _ _ (hU9.2.2.1.1 z) (ne_look (hU9.2.2.1.1 z) hLr.1 (by simp [alE])) (fun y => Ne.symm (hDJ.2.1 y z)), hU9.2.2.1.2⟩, hU9.2.2.2.1, hU9.2.2.2.2.1, hU9.2.2.2.2.2.1, fun i hi => ?_, kp _ _ hU9.2.2.2.2.2.2.2.1 (by simp [poE]) (by simp [poE, arQ]), kp _ _ hU9.2.2.2.2.2.2.2.2 (by simp [poE]) (by simp [poE, arQ])⟩, hSB.fr (fun e he => kp _ _ he (fun v q => by rw [hSB.1] at he; cases he; simp at q) (fun c f q => by rw [hSB.1] at he; cases he; simp [arQ] at q)) (fun e he => kp _ _ he (fun v q => by rw [hSB.2.1] at he; cases he; simp at q) (fun c f q => by rw [hSB.2.1] at he; cases he; simp [arQ] at q)), hHD, ⟨hDJ.1, fun z1 z2 => ?_, hi⟩, hu⟩
  · obtain ⟨h1, h2, h3⟩ := hU9.2.2.2.2.2.2.1 i hi
    exact ⟨h1, kp _ _ h2 (by simp [mcE]) (by simp [mcE, arQ]), kp _ _ h3 (by simp [poE]) (by simp [poE, arQ])⟩
  · rcases he with ⟨rfl, rfl⟩ | he
    · exact hDJ.2.1 z1 z2
    · exact Ne.symm (ne_none (hU9.2.2.1.1 z2) he)
theorem uq_add {n : Nat} {R : Nat → Nat → Nat} {q : Nat → Nat} (h : UQ n R) (hb : ∀ i j, i < n → j < 14 → R i j ≤ 25) (hq : ∀ j, j < 14 → q j ≤ 25) (hno : anF (thB R (nI (q 0)) (nI (q 1))) n 0 = false) : UQ (n + 1) (addR R n q) := by
  have key : ∀ f r, anF (thB R (nI (q 0)) (nI (q 1))) f r = false → ∀ i, r ≤ i → i < r + f → ¬ (R i 0 = q 0 ∧ R i 1 = q 1) := by
    intro f
    induction f with
    | zero => intro r _ i h1 h2; omega
    | succ f ih =>
      intro r hr i h1 h2
      unfold anF at hr
      rw [Bool.or_eq_false_iff] at hr
      by_cases c : i = r
      · intro z
        have := hr.1
        unfold thB at this
        rw [← c, z.1, z.2, decide_eq_true rfl, decide_eq_true rfl] at this
        cases this
      · exact ih (r + 1) hr.2 i (by omega) (by omega)
  have k := key n 0 hno
  intro i j hi hj e0 e1
  unfold addR at e0 e1
  by_cases c : i = n
  · by_cases d : j = n
    · omega
    · rw [if_pos c, if_neg d] at e0 e1
      exact absurd ⟨e0.symm, e1.symm⟩ (k j (Nat.zero_le _) (by omega))
  · by_cases d : j = n
    · rw [if_neg c, if_pos d] at e0 e1
      exact absurd ⟨e0, e1⟩ (k i (Nat.zero_le _) (by omega))
    · rw [if_neg c, if_neg d] at e0 e1
      exact h i j (by omega) (by omega) e0 e1
