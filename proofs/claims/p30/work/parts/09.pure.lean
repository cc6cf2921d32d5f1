/-! numbers -/
theorem n_and (a b : Nat) : nI a &&& nI b = nI (a &&& b) := by
  apply Int32.toBitVec_inj.1
  show BitVec.ofNat 32 a &&& BitVec.ofNat 32 b = BitVec.ofNat 32 (a &&& b)
  apply BitVec.eq_of_getLsbD_eq
  intro i hi
  simp [hi]
theorem n_or (a b : Nat) : nI a ||| nI b = nI (a ||| b) := by
  apply Int32.toBitVec_inj.1
  show BitVec.ofNat 32 a ||| BitVec.ofNat 32 b = BitVec.ofNat 32 (a ||| b)
  apply BitVec.eq_of_getLsbD_eq
  intro i hi
  simp [hi]
theorem n_xor (a b : Nat) : nI a ^^^ nI b = nI (a ^^^ b) := by
  apply Int32.toBitVec_inj.1
  show BitVec.ofNat 32 a ^^^ BitVec.ofNat 32 b = BitVec.ofNat 32 (a ^^^ b)
  apply BitVec.eq_of_getLsbD_eq
  intro i hi
  simp [hi]
theorem n_neg (a : Nat) (h : a ≤ 4294967296) : - nI a = nI (4294967296 - a) := by
  apply Int32.toBitVec_inj.1
  show - BitVec.ofNat 32 a = BitVec.ofNat 32 (4294967296 - a)
  apply BitVec.eq_of_toNat_eq
  rw [BitVec.toNat_neg, BitVec.toNat_ofNat, BitVec.toNat_ofNat]
  omega
theorem n_of {x : Int32} (h : 0 ≤ x.toInt) : ∃ j : Nat, j < 2 ^ 31 ∧ x = nI j := nI_of (fun q => by
  rw [Int32.lt_iff_toInt_lt] at q
  have : (0 : Int32).toInt = 0 := by decide
  omega)
theorem k_eq {a b : Nat} (ha : a < 2 ^ 31) (hb : b < 2 ^ 31) (h : nI a = nI b) : a = b := (nI_eq ha hb).mp h
theorem k_ne {a b : Nat} (ha : a < 2 ^ 31) (hb : b < 2 ^ 31) (h : ¬ nI a = nI b) : a ≠ b := fun q => h ((nI_eq ha hb).mpr q)
theorem k_lt {a b : Nat} (ha : a < 2 ^ 31) (hb : b < 2 ^ 31) (h : nI a < nI b) : a < b := (nI_ltI ha hb).mp h
theorem k_nlt {a b : Nat} (ha : a < 2 ^ 31) (hb : b < 2 ^ 31) (h : ¬ nI a < nI b) : b ≤ a := Nat.not_lt.mp (fun q => h ((nI_ltI ha hb).mpr q))
theorem k_le {a b : Nat} (ha : a < 2 ^ 31) (hb : b < 2 ^ 31) (h : nI a ≤ nI b) : a ≤ b := (nI_leI ha hb).mp h
theorem k_nle {a b : Nat} (ha : a < 2 ^ 31) (hb : b < 2 ^ 31) (h : ¬ nI a ≤ nI b) : b < a := Nat.not_le.mp (fun q => h ((nI_leI ha hb).mpr q))
/-! hands as sets of cards -/
def pc5 (x : Nat) : Nat := x % 2 + x / 2 % 2 + x / 4 % 2 + x / 8 % 2 + x / 16 % 2
def st5 (x : Nat) : Nat := x / 2 % 2 + 2 * (x / 4 % 2) + 3 * (x / 8 % 2) + 4 * (x / 16 % 2)
/-- the cards of a suit -/
def su (h s : Nat) : Nat := h / 32 ^ s % 32
def lenH (h s : Nat) : Nat := pc5 (su h s)
def strH (h : Nat) : Nat := st5 (su h 0) + st5 (su h 1) + st5 (su h 2) + st5 (su h 3)
def sizeH (h : Nat) : Nat := lenH h 0 + lenH h 1 + lenH h 2 + lenH h 3
theorem su_lt (h s : Nat) : su h s < 32 := Nat.mod_lt _ (by decide)
theorem pc5_le (x : Nat) : pc5 x ≤ 5 := by unfold pc5; omega
theorem st5_le (x : Nat) : st5 x ≤ 10 := by unfold st5; omega
theorem lenH_le (h s : Nat) : lenH h s ≤ 5 := pc5_le _
theorem strH_le (h : Nat) : strH h ≤ 40 := by
  have := st5_le (su h 0); have := st5_le (su h 1); have := st5_le (su h 2); have := st5_le (su h 3)
  unfold strH
  omega
/-! the count of bits -/
def bcN (x : Nat) : Nat :=
  let a := x - (x / 2 &&& 1431655765)
  let b := (a &&& 858993459) + (a / 4 &&& 858993459)
  let c := (b + b / 16) &&& 252645135
  let d := c + c / 256
  let e := d + d / 65536
  e &&& 63
theorem and16 (a y m M : Nat) (ha : a < 16) (hm : m < 16) : (a + 16 * y) &&& (m + 16 * M) = (a &&& m) + 16 * (y &&& M) := by
  have h1 : ((a + 16 * y) &&& (m + 16 * M)) % 16 = a &&& m := by
    have := Nat.and_mod_two_pow (a := a + 16 * y) (b := m + 16 * M) (n := 4)
    rw [show (2 : Nat) ^ 4 = 16 from rfl] at this
    rw [this, show (a + 16 * y) % 16 = a by omega, show (m + 16 * M) % 16 = m by omega]
  have h2 : ((a + 16 * y) &&& (m + 16 * M)) / 16 = y &&& M := by
    have := Nat.shiftRight_and_distrib (a := a + 16 * y) (b := m + 16 * M) (i := 4)
    rw [Nat.shiftRight_eq_div_pow, Nat.shiftRight_eq_div_pow, Nat.shiftRight_eq_div_pow, show (2 : Nat) ^ 4 = 16 from rfl] at this
    rw [this, show (a + 16 * y) / 16 = y by omega, show (m + 16 * M) / 16 = M by omega]
  omega
def s1 (x M : Nat) : Nat := x - (x / 2 &&& M)
def s2 (x M : Nat) : Nat := (x &&& M) + (x / 4 &&& M)
def q1 (a : Nat) : Nat := a - (a / 2 &&& 5)
def q2 (a : Nat) : Nat := (a &&& 3) + (a / 4 &&& 3)
theorem s1_16 (a y M : Nat) (ha : a < 16) : s1 (a + 16 * y) (5 + 16 * M) = q1 a + 16 * s1 y M := by
  have e : (a + 16 * y) / 2 = (a / 2 + 8 * (y % 2)) + 16 * (y / 2) := by omega
  have k : ∀ a, a < 16 → ∀ b, b < 2 → ((a / 2 + 8 * b) &&& 5) = (a / 2 &&& 5) ∧ (a / 2 &&& 5) ≤ a := by decide
  have k2 := k a ha (y % 2) (by omega)
  have k3 : (y / 2 &&& M) ≤ y := Nat.le_trans Nat.and_le_left (by omega)
  unfold s1 q1
  rw [e, and16 _ _ _ _ (by omega) (by decide), k2.1]
  have := k2.2
  omega
theorem s2_16 (a y M : Nat) (ha : a < 16) : s2 (a + 16 * y) (3 + 16 * M) = q2 a + 16 * s2 y M := by
  have e : (a + 16 * y) / 4 = (a / 4 + 4 * (y % 4)) + 16 * (y / 4) := by omega
  have k : ∀ a, a < 16 → ∀ b, b < 4 → ((a / 4 + 4 * b) &&& 3) = (a / 4 &&& 3) := by decide
  unfold s2 q2
  rw [e, and16 _ _ _ _ ha (by decide), and16 _ _ _ _ (by omega) (by decide), k a ha (y % 4) (by omega)]
  omega
def p4 (a : Nat) : Nat := a % 2 + a / 2 % 2 + a / 4 % 2 + a / 8 % 2
theorem q12 : ∀ a, a < 16 → q1 a < 16 ∧ q2 (q1 a) = p4 a := by decide
theorem bc_fin : ∀ a, a < 5 → ∀ b, b < 5 → ∀ c, c < 5 → ∀ d, d < 5 → ∀ e, e < 5 →
    (let v := a + 16 * (b + 16 * (c + 16 * (d + 16 * e)))
     let c := (v + v / 16) &&& 252645135
     let d := c + c / 256
     let e := d + d / 65536
     e &&& 63) = a + b + c + d + e := by decide +kernel
theorem p4_lt (a : Nat) : p4 a < 5 := by unfold p4; omega
theorem bcN_nib (a b c d e : Nat) (ha : a < 16) (hb : b < 16) (hc : c < 16) (hd : d < 16) (he : e < 16) : bcN (a + 16 * (b + 16 * (c + 16 * (d + 16 * e)))) = p4 a + p4 b + p4 c + p4 d + p4 e := by
  have h1 : s1 (a + 16 * (b + 16 * (c + 16 * (d + 16 * e)))) 1431655765 = q1 a + 16 * (q1 b + 16 * (q1 c + 16 * (q1 d + 16 * q1 e))) := by
    rw [show (1431655765 : Nat) = 5 + 16 * (5 + 16 * (5 + 16 * (5 + 16 * (5 + 16 * 1365)))) from rfl, s1_16 _ _ _ ha, s1_16 _ _ _ hb, s1_16 _ _ _ hc, s1_16 _ _ _ hd, show e = e + 16 * 0 by omega, s1_16 _ _ _ he]
    rfl
  have h2 : s2 (q1 a + 16 * (q1 b + 16 * (q1 c + 16 * (q1 d + 16 * q1 e)))) 858993459 = p4 a + 16 * (p4 b + 16 * (p4 c + 16 * (p4 d + 16 * p4 e))) := by
    have z : q1 e = q1 e + 16 * 0 := by omega
    rw [show (858993459 : Nat) = 3 + 16 * (3 + 16 * (3 + 16 * (3 + 16 * (3 + 16 * 819)))) from rfl, s2_16 _ _ _ (q12 a ha).1, s2_16 _ _ _ (q12 b hb).1, s2_16 _ _ _ (q12 c hc).1, s2_16 _ _ _ (q12 d hd).1, z, s2_16 _ _ _ (q12 e he).1, (q12 a ha).2, (q12 b hb).2, (q12 c hc).2, (q12 d hd).2, (q12 e he).2]
    rfl
  have h3 := bc_fin (p4 a) (p4_lt a) (p4 b) (p4_lt b) (p4 c) (p4_lt c) (p4 d) (p4_lt d) (p4 e) (p4_lt e)
  show (let b' := s2 (s1 (a + 16 * (b + 16 * (c + 16 * (d + 16 * e)))) 1431655765) 858993459
     let c := (b' + b' / 16) &&& 252645135
     let d := c + c / 256
     let e := d + d / 65536
     e &&& 63) = _
  rw [h1, h2]
  exact h3
theorem m32_0 (y : Nat) : y % 32 % 2 = y % 2 := by omega
theorem m32_1 (y : Nat) : y % 32 / 2 % 2 = y / 2 % 2 := by omega
theorem m32_2 (y : Nat) : y % 32 / 4 % 2 = y / 4 % 2 := by omega
theorem m32_3 (y : Nat) : y % 32 / 8 % 2 = y / 8 % 2 := by omega
theorem m32_4 (y : Nat) : y % 32 / 16 % 2 = y / 16 % 2 := by omega
theorem m16_0 (y : Nat) : y % 16 % 2 = y % 2 := by omega
theorem m16_1 (y : Nat) : y % 16 / 2 % 2 = y / 2 % 2 := by omega
theorem m16_2 (y : Nat) : y % 16 / 4 % 2 = y / 4 % 2 := by omega
theorem m16_3 (y : Nat) : y % 16 / 8 % 2 = y / 8 % 2 := by omega
theorem bc_size (x : Nat) (h : x < 1048576) : bcN x = sizeH x := by
  have e : x = x % 16 + 16 * (x / 16 % 16 + 16 * (x / 256 % 16 + 16 * (x / 4096 % 16 + 16 * (x / 65536 % 16)))) := by omega
  have k := bcN_nib (x % 16) (x / 16 % 16) (x / 256 % 16) (x / 4096 % 16) (x / 65536 % 16) (by omega) (by omega) (by omega) (by omega) (by omega)
  rw [← e] at k
  rw [k]
  clear k e h
  unfold sizeH lenH su pc5 p4
  simp only [m32_0, m32_1, m32_2, m32_3, m32_4, m16_0, m16_1, m16_2, m16_3, Nat.reducePow, Nat.div_div_eq_div_mul, Nat.reduceMul, Nat.div_one]
  omega
