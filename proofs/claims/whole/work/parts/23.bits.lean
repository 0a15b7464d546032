theorem fa_and (a b : Nat) : nI a &&& nI b = nI (a &&& b) := by
  apply Int32.toBitVec_inj.1
  show BitVec.ofNat 32 a &&& BitVec.ofNat 32 b = BitVec.ofNat 32 (a &&& b)
  apply BitVec.eq_of_getLsbD_eq
  intro i hi
  simp [hi]
theorem fa_or (a b : Nat) : nI a ||| nI b = nI (a ||| b) := by
  apply Int32.toBitVec_inj.1
  show BitVec.ofNat 32 a ||| BitVec.ofNat 32 b = BitVec.ofNat 32 (a ||| b)
  apply BitVec.eq_of_getLsbD_eq
  intro i hi
  simp [hi]
/-- a remainder by a power of two, as a mask -/
theorem fa_mask (n k : Nat) : nI n &&& nI (2 ^ k - 1) = nI (n % 2 ^ k) := by rw [fa_and, Nat.and_two_pow_sub_one_eq_mod]
/-- 'or' of a high part and a low one that don't meet is their sum -/
theorem fa_or_sum {a k : Nat} (b : Nat) (h : a < 2 ^ k) : nI (2 ^ k * b) ||| nI a = nI (2 ^ k * b + a) := by rw [fa_or, Nat.two_pow_add_eq_or_of_lt h]
/-- one bit, by 'and' with a power of two -/
theorem fa_bit {n j : Nat} (hj : j < 31) : nI n &&& nI (2 ^ j) = 0 ↔ n.testBit j = false := by
  have h2 : (2 : Nat) ^ j < 2 ^ 31 := Nat.pow_lt_pow_right (by decide) hj
  have hle : n &&& 2 ^ j ≤ 2 ^ j := Nat.and_le_right
  have e : n &&& 2 ^ j = 0 ↔ n.testBit j = false := by
    constructor
    · intro h
      have h1 : (n &&& 2 ^ j).testBit j = false := by rw [h]; simp
      rw [Nat.testBit_and] at h1
      first | simpa using h1 | simpa [Nat.testBit_two_pow_self] using h1 | simpa [Nat.testBit_two_pow] using h1
    · intro h
      apply Nat.eq_of_testBit_eq
      intro i
      rw [Nat.testBit_and]
      by_cases hi : j = i
      · subst hi; simp [h]
      · first | (simp [Nat.testBit_two_pow, hi]; done) | (simp [Nat.testBit_two_pow_of_ne hi]; done)
  rw [fa_and]
  constructor
  · intro h
    apply e.mp
    rcases Nat.eq_zero_or_pos (n &&& 2 ^ j) with z | z
    · exact z
    · exact absurd h (nI_ne0 z (Nat.lt_of_le_of_lt hle h2))
  · intro h
    rw [e.mpr h]; exact nI_0
/-- a remainder by a power of two of a number that isn't negative, as Java divides -/
theorem inI_aux (x : Int32) {k : Nat} (hk : k < 10) : (x >>> (nI k &&& 31)) &&& 1 = nI (x.toBitVec.toNat / 2 ^ k % 2) := by
  have e1 : (x >>> (nI k &&& 31)).toInt = x.toInt >>> k := pk_shr x (nI k &&& 31) k (by
    match k, hk with
    | 0, _ => decide
    | 1, _ => decide
    | 2, _ => decide
    | 3, _ => decide
    | 4, _ => decide
    | 5, _ => decide
    | 6, _ => decide
    | 7, _ => decide
    | 8, _ => decide
    | 9, _ => decide)
  rw [pk_and (x >>> (nI k &&& 31)) (m := 1) 1 (by decide)]
  congr 1
  generalize x >>> (nI k &&& 31) = y at e1 ⊢
  have hx : x.toInt = x.toBitVec.toNat ∨ x.toInt = (x.toBitVec.toNat : Int) - 4294967296 := by
    have := BitVec.toInt_eq_toNat_cond x.toBitVec
    rw [show x.toInt = x.toBitVec.toInt from rfl, this]
    split
    · exact Or.inl rfl
    · exact Or.inr (by omega)
  have hy : y.toInt = y.toBitVec.toNat ∨ y.toInt = (y.toBitVec.toNat : Int) - 4294967296 := by
    have := BitVec.toInt_eq_toNat_cond y.toBitVec
    rw [show y.toInt = y.toBitVec.toInt from rfl, this]
    split
    · exact Or.inl rfl
    · exact Or.inr (by omega)
  rw [Int.shiftRight_eq_div_pow] at e1
  match k, hk with
  | 0, _ => simp only [Nat.reducePow] at e1 ⊢; omega
  | 1, _ => simp only [Nat.reducePow] at e1 ⊢; omega
  | 2, _ => simp only [Nat.reducePow] at e1 ⊢; omega
  | 3, _ => simp only [Nat.reducePow] at e1 ⊢; omega
  | 4, _ => simp only [Nat.reducePow] at e1 ⊢; omega
  | 5, _ => simp only [Nat.reducePow] at e1 ⊢; omega
  | 6, _ => simp only [Nat.reducePow] at e1 ⊢; omega
  | 7, _ => simp only [Nat.reducePow] at e1 ⊢; omega
  | 8, _ => simp only [Nat.reducePow] at e1 ⊢; omega
  | 9, _ => simp only [Nat.reducePow] at e1 ⊢; omega
theorem nI_nat (x : Int32) : x = nI x.toBitVec.toNat := by
  apply Int32.toBitVec_inj.mp
  apply BitVec.eq_of_toNat_eq
  rw [pk_tn x.toBitVec.isLt]
theorem bitI_pow : ∀ k, k < 10 → bitI k = nI (2 ^ k) := by decide
theorem bit_test (x : Int32) {k : Nat} (hk : k < 10) : x &&& bitI k = 0 ↔ x.toBitVec.toNat.testBit k = false := by
  rw [bitI_pow k hk]
  conv => lhs; rw [nI_nat x]
  exact fa_bit (by omega)
/-- the reference's bit, and the class's -/
theorem inI (x : Int32) {k : Nat} (hk : k < 10) : (x >>> (nI k &&& 31)) &&& 1 = bI (!decide (x &&& bitI k = 0)) := by
  rw [inI_aux x hk]
  have h := bit_test x hk
  rw [Nat.testBit_eq_decide_div_mod_eq] at h
  by_cases q : x.toBitVec.toNat / 2 ^ k % 2 = 1
  · rw [q]
    have : ¬ x &&& bitI k = 0 := fun z => by have := h.mp z; simp [q] at this
    simp [this, bI, nI]
  · have q0 : x.toBitVec.toNat / 2 ^ k % 2 = 0 := by omega
    rw [q0]
    have : x &&& bitI k = 0 := h.mpr (by simp [q])
    simp [this, bI, nI]
theorem orB_ext {P : Nat → Bool} {N : Nat} : ∀ m, N ≤ m → orB P bitI N = orB (fun k => decide (k < N) && P k) bitI m
  | 0, h => by
    have : N = 0 := by omega
    subst this
    rfl
  | m + 1, h => by
    by_cases e : N = m + 1
    · subst e
      exact orB_congr (fun i hi => ⟨by simp [hi], rfl⟩)
    · rw [orB, ← orB_ext m (by omega), if_neg (by simp; omega), or0]
theorem cntB_ext {P : Nat → Bool} {N : Nat} : ∀ m, N ≤ m → cntB P N = cntB (fun k => decide (k < N) && P k) m
  | 0, h => by
    have : N = 0 := by omega
    subst this
    rfl
  | m + 1, h => by
    by_cases e : N = m + 1
    · subst e
      exact cntB_congr (fun i hi => by simp [hi])
    · rw [cntB, ← cntB_ext m (by omega), show (decide (m < N) && P m) = false from by simp; omega]
      show _ = _ + (0 : Int32)
      exact (Int32.add_zero _).symm
def szF (x : Int32) : Int32 := sumI (fun k => (x >>> (nI k &&& 31)) &&& 1) 10
def bits10 (b0 b1 b2 b3 b4 b5 b6 b7 b8 b9 : Bool) : Nat → Bool
  | 0 => b0 | 1 => b1 | 2 => b2 | 3 => b3 | 4 => b4 | 5 => b5 | 6 => b6 | 7 => b7 | 8 => b8 | _ => b9
set_option maxRecDepth 100000 in
theorem bc10 : ∀ b0 b1 b2 b3 b4 b5 b6 b7 b8 b9 : Bool, bcF (orB (bits10 b0 b1 b2 b3 b4 b5 b6 b7 b8 b9) bitI 10) = cntB (bits10 b0 b1 b2 b3 b4 b5 b6 b7 b8 b9) 10 ∧ szF (orB (bits10 b0 b1 b2 b3 b4 b5 b6 b7 b8 b9) bitI 10) = cntB (bits10 b0 b1 b2 b3 b4 b5 b6 b7 b8 b9) 10 := by decide +kernel
theorem bits_of (P : Nat → Bool) : ∀ i, i < 10 → P i = bits10 (P 0) (P 1) (P 2) (P 3) (P 4) (P 5) (P 6) (P 7) (P 8) (P 9) i := by
  intro i hi
  match i, hi with
  | 0, _ => rfl
  | 1, _ => rfl
  | 2, _ => rfl
  | 3, _ => rfl
  | 4, _ => rfl
  | 5, _ => rfl
  | 6, _ => rfl
  | 7, _ => rfl
  | 8, _ => rfl
  | 9, _ => rfl
/-- both ways to count the bits count them -/
theorem bc_orB (P : Nat → Bool) {N : Nat} (hN : N ≤ 10) : bcF (orB P bitI N) = cntB P N ∧ szF (orB P bitI N) = cntB P N := by
  rw [orB_ext 10 hN, cntB_ext 10 hN]
  generalize (fun k => decide (k < N) && P k) = R
  rw [orB_congr (P' := bits10 (R 0) (R 1) (R 2) (R 3) (R 4) (R 5) (R 6) (R 7) (R 8) (R 9)) (w' := bitI) (fun i hi => ⟨bits_of R i hi, rfl⟩), cntB_congr (fun i hi => bits_of R i hi)]
  exact bc10 _ _ _ _ _ _ _ _ _ _
