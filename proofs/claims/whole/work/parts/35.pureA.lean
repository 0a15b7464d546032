/-! ===== what both sides reckon, without the machine ===== -/
/-! bits of a word -/
def vt (x : Int32) (k : Nat) : Bool := !decide (x &&& bitI k = 0)
theorem vt_get (x : Int32) {k : Nat} (hk : k < 10) : vt x k = x.toBitVec.getLsbD k := by
  have h := bit_test x hk
  show vt x k = x.toBitVec.toNat.testBit k
  unfold vt
  cases e : x.toBitVec.toNat.testBit k with
  | false => rw [decide_eq_true (h.mpr e)]; rfl
  | true => rw [decide_eq_false (fun q => by rw [h.mp q] at e; cases e)]; rfl
theorem bitI_get : ∀ j, j < 10 → ∀ k, k < 10 → (bitI j).toBitVec.getLsbD k = decide (j = k) := by decide
theorem bitN_get : ∀ j, j < 10 → ∀ k, k < 10 → (bitI j ^^^ -1).toBitVec.getLsbD k = !decide (j = k) := by decide
theorem vt_or (x y : Int32) {k : Nat} (hk : k < 10) : vt (x ||| y) k = (vt x k || vt y k) := by
  rw [vt_get _ hk, vt_get _ hk, vt_get _ hk]
  show (x.toBitVec ||| y.toBitVec).getLsbD k = _
  exact BitVec.getLsbD_or
theorem vt_and (x y : Int32) {k : Nat} (hk : k < 10) : vt (x &&& y) k = (vt x k && vt y k) := by
  rw [vt_get _ hk, vt_get _ hk, vt_get _ hk]
  show (x.toBitVec &&& y.toBitVec).getLsbD k = _
  exact BitVec.getLsbD_and
theorem vt_bit {j k : Nat} (hj : j < 10) (hk : k < 10) : vt (bitI j) k = decide (j = k) := by rw [vt_get _ hk, bitI_get j hj k hk]
theorem vt_nbit {j k : Nat} (hj : j < 10) (hk : k < 10) : vt (bitI j ^^^ -1) k = !decide (j = k) := by rw [vt_get _ hk, bitN_get j hj k hk]
theorem vt_0 (k : Nat) : vt 0 k = false := by rw [vt, z_and]; rfl
theorem vt_orB {P : Nat → Bool} {k : Nat} (hk : k < 10) : ∀ {N : Nat}, N ≤ 10 → vt (orB P bitI N) k = (decide (k < N) && P k)
  | 0, _ => by rw [orB, vt_0]; simp
  | N + 1, h => by
    rw [orB, vt_or _ _ hk, vt_orB hk (by omega)]
    by_cases e : N = k
    · subst e
      cases hp : P N with
      | true => rw [if_pos rfl, vt_bit hk hk]; simp
      | false => rw [if_neg (by decide), vt_0]; simp
    · have e1 : vt (if P N = true then bitI N else 0) k = false := by
        split
        · rw [vt_bit (by omega) hk]; simp [e]
        · exact vt_0 k
      rw [e1]
      by_cases q : k < N
      · simp [q, Nat.lt_succ_of_lt q]
      · simp [q, show ¬ k < N + 1 by omega]
/-! counts and sums -/
theorem cnt_none {P : Nat → Bool} : ∀ {n : Nat}, (∀ k, k < n → P k = false) → cntB P n = 0
  | 0, _ => rfl
  | n + 1, h => by rw [cntB, cnt_none (fun k hk => h k (by omega)), h n (by omega)]; rfl
theorem cnt_one {P : Nat → Bool} {j : Nat} (h : P j = true) : ∀ {n : Nat}, j < n → (∀ k, k < n → P k = true → k = j) → cntB P n = 1
  | 0, hj, _ => absurd hj (Nat.not_lt_zero j)
  | n + 1, hj, hu => by
    rw [cntB]
    by_cases e : j = n
    · subst e
      rw [cnt_none (fun k hk => by
        cases q : P k with
        | false => rfl
        | true => exact absurd (hu k (by omega) q) (by omega)), h]
      rfl
    · rw [cnt_one h (by omega) (fun k hk q => hu k (by omega) q)]
      have : P n = false := by
        cases q : P n with
        | false => rfl
        | true => exact absurd (hu n (by omega) q) (Ne.symm e)
      rw [this]
      rfl
theorem cnt_nat (P : Nat → Bool) : ∀ n : Nat, ∃ c : Nat, c ≤ n ∧ cntB P n = nI c
  | 0 => ⟨0, Nat.le_refl 0, rfl⟩
  | n + 1 => by
    obtain ⟨c, hc, e⟩ := cnt_nat P n
    rw [cntB, e]
    cases P n with
    | true => exact ⟨c + 1, by omega, nI_inc1 c⟩
    | false => exact ⟨c, by omega, Int32.add_zero _⟩
theorem cnt_split (P : Nat → Bool) (F : Nat) : ∀ m : Nat, cntB P (F + m) = cntB P F + cntB (fun j => P (F + j)) m
  | 0 => (Int32.add_zero _).symm
  | m + 1 => by rw [← Nat.add_assoc, cntB, cnt_split P F m, cntB, Int32.add_assoc]
theorem cnt_sum (P : Nat → Bool) : ∀ n : Nat, cntB P n = sumI (fun k => bI (P k)) n
  | 0 => rfl
  | n + 1 => by rw [cntB, sumI, cnt_sum P n]
theorem sum_add (f g : Nat → Int32) : ∀ n : Nat, sumI (fun k => f k + g k) n = sumI f n + sumI g n
  | 0 => rfl
  | n + 1 => by
    rw [sumI, sumI, sumI, sum_add f g n]
    rw [Int32.add_assoc, Int32.add_assoc, ← Int32.add_assoc (sumI g n), Int32.add_comm (sumI g n) (f n), Int32.add_assoc]
theorem sum_0 : ∀ n : Nat, sumI (fun _ => 0) n = 0
  | 0 => rfl
  | n + 1 => by rw [sumI, sum_0 n]; rfl
theorem sum_swap (g : Nat → Nat → Bool) (n : Nat) : ∀ m : Nat, sumI (fun i => cntB (g i) m) n = sumI (fun j => cntB (fun i => g i j) n) m
  | 0 => sum_0 n
  | m + 1 => by
    have e : sumI (fun i => cntB (g i) (m + 1)) n = sumI (fun i => cntB (g i) m + bI (g i m)) n := rfl
    rw [e, sum_add, sum_swap g n m, ← cnt_sum]
    rfl
theorem sum_nat {f : Nat → Int32} {B : Nat} : ∀ {n : Nat}, (∀ i, i < n → ∃ c : Nat, c ≤ B ∧ f i = nI c) → ∃ c : Nat, c ≤ n * B ∧ sumI f n = nI c
  | 0, _ => ⟨0, by omega, rfl⟩
  | n + 1, h => by
    obtain ⟨c, hc, e⟩ := sum_nat (n := n) (fun i hi => h i (by omega))
    obtain ⟨d, hd, e2⟩ := h n (by omega)
    exact ⟨c + d, by rw [Nat.succ_mul]; omega, by rw [sumI, e, e2, nI_add]⟩
theorem add_4 (x a y b : Int32) : (x + a) + (y + b) = (x + y) + (a + b) := by
  rw [Int32.add_assoc, Int32.add_assoc, ← Int32.add_assoc a, Int32.add_comm a y, Int32.add_assoc]
theorem cnt_and (A B : Nat → Bool) : ∀ n : Nat, cntB (fun k => A k && B k) n + cntB (fun k => A k && !B k) n = cntB A n
  | 0 => rfl
  | n + 1 => by
    rw [cntB, cntB, cntB, ← cnt_and A B n, add_4]
    congr 1
    cases A n <;> cases B n <;> rfl
/-- one fewer -/
theorem cnt_less {P : Nat → Bool} {j : Nat} (h : P j = true) {n : Nat} (hj : j < n) : cntB (fun k => P k && !decide (k = j)) n + 1 = cntB P n := by
  have h1 := cnt_and P (fun k => decide (k = j)) n
  have h2 : cntB (fun k => P k && decide (k = j)) n = 1 := cnt_one (j := j) (by simp [h]) hj (fun k _ q => by simp at q; exact q.2)
  rw [h2] at h1
  rw [← h1, Int32.add_comm]
theorem and_m1 (x : Int32) : x &&& (0 ^^^ -1) = x := by
  apply Int32.toBitVec_inj.mp
  show x.toBitVec &&& (0#32 ^^^ (-1 : Int32).toBitVec) = x.toBitVec
  have : (0#32 ^^^ (-1 : Int32).toBitVec) = BitVec.allOnes 32 := by decide
  rw [this, BitVec.and_allOnes]
theorem bit_andn : ∀ n, n < 10 → ∀ j, j < 10 → bitI n &&& (bitI j ^^^ -1) = if n = j then 0 else bitI n := by decide
theorem orB_andn {P : Nat → Bool} {j : Nat} (hj : j < 10) : ∀ {N : Nat}, N ≤ 10 → orB P bitI N &&& (bitI j ^^^ -1) = orB (fun k => P k && !decide (k = j)) bitI N
  | 0, _ => by rw [orB, orB, z_and]
  | N + 1, h => by
    rw [orB, orB, or_and, orB_andn hj (by omega)]
    congr 1
    cases hp : P N with
    | false => simp [z_and]
    | true =>
      rw [if_pos rfl, bit_andn N (by omega) j hj]
      by_cases e : N = j
      · simp [e]
      · simp [e]
