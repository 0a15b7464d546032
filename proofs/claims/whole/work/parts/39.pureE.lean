/-! ===== the page: one grammar, read in two ways ===== -/
theorem kb_kl (x : Int32) : kbV x = -1 ↔ kLet x = false := by
  unfold kbV kLet
  by_cases h1 : x = 111
  · subst h1; decide
  by_cases h2 : x = 101
  · subst h2; decide
  by_cases h3 : x = 104
  · subst h3; decide
  by_cases h4 : x = 115
  · subst h4; decide
  by_cases h5 : x = 103
  · subst h5; decide
  rw [if_neg h1, if_neg h2, if_neg h3, if_neg h4, if_neg h5, decide_eq_false (Ne.symm h1), decide_eq_false (Ne.symm h2), decide_eq_false (Ne.symm h3), decide_eq_false (Ne.symm h4), decide_eq_false (Ne.symm h5)]
  decide
theorem kb_kof {x : Int32} (h : ¬ kbV x = -1) : kbV x = nI (kOf x) := by
  unfold kbV kOf at *
  by_cases h1 : x = 111
  · subst h1; decide
  by_cases h2 : x = 101
  · subst h2; decide
  by_cases h3 : x = 104
  · subst h3; decide
  by_cases h4 : x = 115
  · subst h4; decide
  by_cases h5 : x = 103
  · subst h5; decide
  rw [if_neg h1, if_neg h2, if_neg h3, if_neg h4, if_neg h5] at h
  exact absurd rfl h
section PG
variable {hi : Nat → Nat → Int32} {c : Nat → Int32} {L : Nat}
theorem lat_a (hL1 : L ≤ 41) (hL2 : hi 1 1 = nI L) (hpg : ∀ k, k < L → hi 2 k = c k) {p : Nat} (hp : p < 1000) : lAt hi (nI p) = if p < L then c p else -1 := by
  unfold lAt
  rw [if_neg (nI_pos (by omega)), hL2]
  by_cases h : p < L
  · rw [if_neg (nI_ge h (by omega)), if_pos h, nI_clamp (by omega), hpg p h]
  · rw [if_pos (nI_le (by omega) (by omega)), if_neg h]
theorem lat_59 (hL1 : L ≤ 41) (hL2 : hi 1 1 = nI L) (hpg : ∀ k, k < L → hi 2 k = c k) {p : Nat} (hp : p < 1000) : (lAt hi (nI p) = 59) ↔ aV c L p = 59 := by
  rw [lat_a hL1 hL2 hpg hp]
  unfold aV
  split
  · exact Iff.rfl
  · constructor
    · intro h; exact absurd h (by decide)
    · intro h; exact absurd h (by decide)
theorem fg_lt {p : Nat} {m : Int32} (h : fgB c L p m = true) : p < L := by
  rcases Nat.lt_or_ge p L with z | z
  · exact z
  · unfold fgB aV at h
    rw [if_neg (by omega)] at h
    have : decide ((0 : Int32) - 48 < 0) = true := by decide
    rw [this] at h
    cases h
theorem kb_lt {p : Nat} (h : ¬ kbV (aV c L p) = -1) : p < L := by
  rcases Nat.lt_or_ge p L with z | z
  · exact z
  · unfold aV at h
    rw [if_neg (by omega)] at h
    exact absurd (by decide) h
/-- a place of a person -/
theorem ff_0 (hpg : ∀ k, k < L → hi 2 k = c k) {p : Nat} (hp : p ≤ L) (hm : p % 5 = 0) (s : Bool) (o : Nat) : ffS hi L (L - p) p s o = if kbV (aV c L p) = -1 then nI p else ffS hi L (L - (p + 1)) (p + 1) s o := by
  by_cases h : p < L
  · rw [show L - p = (L - (p + 1)) + 1 by omega, ffS, if_neg (by omega), hm]
    have e : pFit (nI 0) (hi 2 p) = kLet (aV c L p) := by
      unfold pFit aV
      rw [if_pos (by decide), if_pos h, hpg p h]
    rw [e]
    by_cases z : kbV (aV c L p) = -1
    · rw [if_pos z, (kb_kl _).mp z, if_neg (by decide)]
    · rw [if_neg z, if_pos]
      cases w : kLet (aV c L p) with
      | true => rfl
      | false => exact absurd ((kb_kl _).mpr w) z
  · have : p = L := by omega
    subst this
    rw [Nat.sub_self, ffS, if_pos]
    unfold aV
    rw [if_neg h]
    decide
theorem ff_w (hpg : ∀ k, k < L → hi 2 k = c k) {p w : Nat} {m : Int32} (hp : p ≤ L) (hm : p % 5 = w) (hw : (w = 1 ∧ m = 9) ∨ (w = 2 ∧ m = 3) ∨ (w = 3 ∧ m = 9)) (s : Bool) (o : Nat) : ffS hi L (L - p) p s o = if fgB c L p m = false then nI p else ffS hi L (L - (p + 1)) (p + 1) s o := by
  by_cases h : p < L
  · rw [show L - p = (L - (p + 1)) + 1 by omega, ffS, if_neg (by omega), hm]
    have e : pFit (nI w) (hi 2 p) = fgB c L p m := by
      unfold pFit fgB aV
      rw [if_pos h, hpg p h]
      rcases hw with ⟨rfl, rfl⟩ | ⟨rfl, rfl⟩ | ⟨rfl, rfl⟩ <;> rfl
    rw [e]
    cases fgB c L p m with
    | true => rfl
    | false => rfl
  · have : p = L := by omega
    subst this
    rw [Nat.sub_self, ffS, if_pos]
    unfold fgB aV
    rw [if_neg h]
    rfl
theorem ff_s (hL1 : L ≤ 41) (hL2 : hi 1 1 = nI L) (hpg : ∀ k, k < L → hi 2 k = c k) {p : Nat} (hp : p ≤ L) (hm : p % 5 = 4) (s : Bool) (o : Nat) : ffS hi L (L - p) p s o = if aV c L p = 59 ∧ s = false then ffS hi L (L - (p + 1)) (p + 1) true 0 else if aV c L p = 44 ∧ o + 1 < 4 then ffS hi L (L - (p + 1)) (p + 1) s (o + 1) else nI p := by
  by_cases h : p < L
  · rw [show L - p = (L - (p + 1)) + 1 by omega, ffS, if_pos hm]
    have e1 := lat_59 hL1 hL2 hpg (p := p) (by omega)
    have e2 : hi 2 p = aV c L p := by rw [hpg p h]; unfold aV; rw [if_pos h]
    simp only [e1, e2]
  · have : p = L := by omega
    subst this
    have : aV c p p = 0 := if_neg h
    rw [Nat.sub_self, ffS, this, if_neg (by intro q; exact absurd q.1 (by decide)), if_neg (by intro q; exact absurd q.1 (by decide))]
theorem ff_one (hpg : ∀ k, k < L → hi 2 k = c k) {k : Nat} (hk : k ≤ L) (hm : k % 5 = 0) (s : Bool) (o : Nat) : (roV c L k = k + 4 → k + 4 ≤ L) ∧ (roV c L k ≤ L) ∧ ffS hi L (L - k) k s o = if roV c L k = k + 4 then ffS hi L (L - (k + 4)) (k + 4) s o else nI (roV c L k) := by
  rw [ff_0 hpg hk hm]
  unfold roV
  by_cases z0 : kbV (aV c L k) = -1
  · rw [if_pos z0, if_pos z0, if_neg (by omega)]
    exact ⟨fun q => absurd q (by omega), hk, rfl⟩
  have l0 := kb_lt z0
  rw [if_neg z0, if_neg z0, ff_w hpg (p := k + 1) (w := 1) (m := 9) (by omega) (by omega) (Or.inl ⟨rfl, rfl⟩)]
  by_cases z1 : fgB c L (k + 1) 9 = false
  · rw [if_pos z1, if_pos z1, if_neg (by omega)]
    exact ⟨fun q => absurd q (by omega), by omega, rfl⟩
  have l1 := fg_lt (by cases w : fgB c L (k + 1) 9 with | true => rfl | false => exact absurd w z1 : fgB c L (k + 1) 9 = true)
  rw [if_neg z1, if_neg z1, ff_w hpg (p := k + 1 + 1) (w := 2) (m := 3) (by omega) (by omega) (Or.inr (Or.inl ⟨rfl, rfl⟩))]
  by_cases z2 : fgB c L (k + 2) 3 = false
  · rw [if_pos z2, if_pos z2, if_neg (by omega)]
    exact ⟨fun q => absurd q (by omega), by omega, rfl⟩
  have l2 := fg_lt (by cases w : fgB c L (k + 2) 3 with | true => rfl | false => exact absurd w z2 : fgB c L (k + 2) 3 = true)
  rw [if_neg z2, if_neg z2, ff_w hpg (p := k + 1 + 1 + 1) (w := 3) (m := 9) (by omega) (by omega) (Or.inr (Or.inr ⟨rfl, rfl⟩))]
  by_cases z3 : fgB c L (k + 3) 9 = false
  · rw [if_pos z3, if_pos z3, if_neg (by omega)]
    exact ⟨fun q => absurd q (by omega), by omega, rfl⟩
  have l3 := fg_lt (by cases w : fgB c L (k + 3) 9 with | true => rfl | false => exact absurd w z3 : fgB c L (k + 3) 9 = true)
  rw [if_neg z3, if_neg z3, if_pos rfl]
  exact ⟨fun _ => by omega, by omega, rfl⟩
theorem ro_ne {k : Nat} (hm : k % 5 = 0) (h : ¬ roV c L k = k + 4) : roV c L k % 5 ≠ 4 := by
  have : roV c L k = k ∨ roV c L k = k + 1 ∨ roV c L k = k + 2 ∨ roV c L k = k + 3 ∨ roV c L k = k + 4 := by
    unfold roV
    split
    · exact Or.inl rfl
    · split
      · exact Or.inr (Or.inl rfl)
      · split
        · exact Or.inr (Or.inr (Or.inl rfl))
        · split
          · exact Or.inr (Or.inr (Or.inr (Or.inl rfl)))
          · exact Or.inr (Or.inr (Or.inr (Or.inr rfl)))
  omega
/-- a side: what the class sees and what the reference reads -/
theorem rs_spec (hL1 : L ≤ 41) (hL2 : hi 1 1 = nI L) (hpg : ∀ k, k < L → hi 2 k = c k) (s : Bool) : ∀ (n k m : Nat), n + m = 4 → 0 < n → k % 5 = 0 → k ≤ L →
    (rsV c L n k m).1 ≤ L ∧ ((rsV c L n k m).2.2 = false → (rsV c L n k m).1 % 5 ≠ 4) ∧
    ((rsV c L n k m).2.2 = true → m < (rsV c L n k m).2.1 ∧ (rsV c L n k m).2.1 ≤ 4 ∧ (rsV c L n k m).1 + 1 = k + 5 * ((rsV c L n k m).2.1 - m) ∧ (∀ j, k ≤ 5 * j + 4 → 5 * j + 4 < (rsV c L n k m).1 → aV c L (5 * j + 4) = 44) ∧ (∀ j, k ≤ 5 * j → 5 * j < (rsV c L n k m).1 → roV c L (5 * j) = 5 * j + 4)) ∧
    ffS hi L (L - k) k s m = (if (rsV c L n k m).2.2 = true then (if aV c L (rsV c L n k m).1 = 59 ∧ s = false then ffS hi L (L - ((rsV c L n k m).1 + 1)) ((rsV c L n k m).1 + 1) true 0 else nI (rsV c L n k m).1) else nI (rsV c L n k m).1)
  | 0, k, m, _, h0, _, _ => absurd h0 (Nat.lt_irrefl 0)
  | n + 1, k, m, hnm, _, hk5, hkL => by
    obtain ⟨o1, o2, o3⟩ := ff_one hpg hkL hk5 s m
    rw [rsV]
    by_cases hr : roV c L k = k + 4
    · rw [if_pos hr]
      rw [if_pos hr, ff_s hL1 hL2 hpg (o1 hr) (by omega)] at o3
      by_cases he : m + 1 = 4 ∨ ¬ aV c L (k + 4) = 44
      · rw [if_pos he]
        refine ⟨o1 hr, (fun q => by cases q), fun _ => ⟨by show m < m + 1; omega, by show m + 1 ≤ 4; omega, by show k + 4 + 1 = k + 5 * (m + 1 - m); omega, fun j h1 h2 => ?_, fun j h1 h2 => ?_⟩, ?_⟩
        · have h2' : 5 * j + 4 < k + 4 := h2
          omega
        · have h2' : 5 * j < k + 4 := h2
          rw [show 5 * j = k by omega]; exact hr
        · rw [o3]
          simp only [if_true]
          by_cases z : aV c L (k + 4) = 59 ∧ s = false
          · rw [if_pos z, if_pos z]
          · rw [if_neg z, if_neg z, if_neg]
            rintro ⟨w1, w2⟩
            rcases he with e | e
            · omega
            · exact e w1
      · rw [if_neg he]
        have h44 : aV c L (k + 4) = 44 := by
          by_cases z : aV c L (k + 4) = 44
          · exact z
          · exact absurd (Or.inr z) he
        have h4 : ¬ m + 1 = 4 := fun z => he (Or.inl z)
        have hlt : k + 4 < L := by
          rcases Nat.lt_or_ge (k + 4) L with z | z
          · exact z
          · unfold aV at h44
            rw [if_neg (by omega)] at h44
            exact absurd h44 (by decide)
        have ih := rs_spec hL1 hL2 hpg s n (k + 5) (m + 1) (by omega) (by omega) (by omega) (by omega)
        rw [if_neg (by rw [h44]; intro q; exact absurd q.1 (by decide)), if_pos ⟨h44, by omega⟩] at o3
        obtain ⟨i1, i2, i3, i4⟩ := ih
        refine ⟨i1, i2, fun q => ?_, ?_⟩
        · obtain ⟨a1, a2, a3, a4, a5⟩ := i3 q
          refine ⟨by omega, a2, by omega, fun j h1 h2 => ?_, fun j h1 h2 => ?_⟩
          · by_cases z : 5 * j + 4 = k + 4
            · rw [z]; exact h44
            · exact a4 j (by omega) h2
          · by_cases z : 5 * j = k
            · rw [z]; exact hr
            · exact a5 j (by omega) h2
        · rw [o3, show k + 4 + 1 = k + 5 from rfl, i4]
    · rw [if_neg hr]
      rw [if_neg hr] at o3
      refine ⟨o2, fun _ => ro_ne hk5 hr, (fun q => by cases q), ?_⟩
      rw [o3]
      rfl
/-- FAULT: both the same -/
theorem fault_eq (hL1 : L ≤ 41) (hL2 : hi 1 1 = nI L) (hpg : ∀ k, k < L → hi 2 k = c k) : ffS hi L L 0 false 0 = nI (rdE c L) := by
  obtain ⟨a1, a2, a3, a4⟩ := rs_spec hL1 hL2 hpg false 4 0 0 (by omega) (by omega) (by omega) (by omega)
  rw [show ffS hi L L 0 false 0 = ffS hi L (L - 0) 0 false 0 from rfl, a4]
  unfold rdE wfB
  cases hw : (rsV c L 4 0 0).2.2 with
  | false => rfl
  | true =>
    rw [if_pos rfl]
    by_cases z : aV c L (rsV c L 4 0 0).1 = 59
    · rw [if_pos ⟨z, rfl⟩, decide_eq_true z, if_pos (by decide)]
      obtain ⟨b1, b2, b3, b4, b5⟩ := a3 hw
      have hlt : (rsV c L 4 0 0).1 < L := by
        rcases Nat.lt_or_ge (rsV c L 4 0 0).1 L with y | y
        · exact y
        · unfold aV at z
          rw [if_neg (by omega)] at z
          exact absurd z (by decide)
      obtain ⟨c1, c2, c3, c4⟩ := rs_spec hL1 hL2 hpg true 4 ((rsV c L 4 0 0).1 + 1) 0 (by omega) (by omega) (by omega) (by omega)
      rw [c4]
      split
      · rw [if_neg (fun q => by cases q.2)]
      · rfl
    · rw [if_neg (fun q => z q.1), decide_eq_false z, if_neg (by decide)]
/-- a page that is a sea -/
def PS (c : Nat → Int32) (L m1 m2 : Nat) : Prop := 0 < m1 ∧ m1 ≤ 4 ∧ 0 < m2 ∧ m2 ≤ 4 ∧ L + 1 = 5 * (m1 + m2) ∧ (∀ j, j < m1 + m2 → roV c L (5 * j) = 5 * j + 4) ∧ (∀ j, j < m1 + m2 → (aV c L (5 * j + 4) = 59 ↔ j + 1 = m1))
theorem ps_of (hL1 : L ≤ 41) (hL2 : hi 1 1 = nI L) (hpg : ∀ k, k < L → hi 2 k = c k) (hw : rdW c L = true) : PS c L (rsV c L 4 0 0).2.1 (rsV c L 4 ((rsV c L 4 0 0).1 + 1) 0).2.1 := by
  unfold rdW wfB at hw
  simp only [Bool.and_eq_true, decide_eq_true_eq] at hw
  obtain ⟨⟨w1, z⟩, w2, w3⟩ := hw
  obtain ⟨a1, a2, a3, a4⟩ := rs_spec hL1 hL2 hpg false 4 0 0 (by omega) (by omega) (by omega) (by omega)
  obtain ⟨b1, b2, b3, b4, b5⟩ := a3 w1
  have hlt : (rsV c L 4 0 0).1 < L := by
    rcases Nat.lt_or_ge (rsV c L 4 0 0).1 L with y | y
    · exact y
    · unfold aV at z
      rw [if_neg (by omega)] at z
      exact absurd z (by decide)
  obtain ⟨c1, c2, c3, c4⟩ := rs_spec hL1 hL2 hpg true 4 ((rsV c L 4 0 0).1 + 1) 0 (by omega) (by omega) (by omega) (by omega)
  obtain ⟨d1, d2, d3, d4, d5⟩ := c3 w2
  rw [w3] at d3 d4 d5
  generalize (rsV c L 4 0 0).2.1 = m1 at *
  generalize (rsV c L 4 ((rsV c L 4 0 0).1 + 1) 0).2.1 = m2 at *
  generalize (rsV c L 4 0 0).1 = e at *
  refine ⟨by omega, b2, by omega, d2, by omega, fun j hj => ?_, fun j hj => ?_⟩
  · by_cases y : j < m1
    · exact b5 j (by omega) (by omega)
    · exact d5 j (by omega) (by omega)
  · by_cases y : j + 1 = m1
    · rw [show 5 * j + 4 = e by omega]
      exact ⟨fun _ => y, fun _ => z⟩
    · refine ⟨fun q => ?_, fun q => absurd q y⟩
      exfalso
      by_cases x : j + 1 < m1
      · rw [b4 j (by omega) (by omega)] at q
        exact absurd q (by decide)
      · by_cases u : 5 * j + 4 < L
        · rw [d4 j (by omega) (by omega)] at q
          exact absurd q (by decide)
        · unfold aV at q
          rw [if_neg u] at q
          exact absurd q (by decide)
theorem sea_eq (hL1 : L ≤ 41) (hL2 : hi 1 1 = nI L) (hpg : ∀ k, k < L → hi 2 k = c k) : seaB hi L = rdW c L := by
  have hf := fault_eq hL1 hL2 hpg
  obtain ⟨a1, a2, a3, a4⟩ := rs_spec hL1 hL2 hpg false 4 0 0 (by omega) (by omega) (by omega) (by omega)
  have e59 : ∀ j, j < L / 5 → (lAt hi (nI (5 * j + 4)) = 59 ↔ aV c L (5 * j + 4) = 59) := fun j hj => lat_59 hL1 hL2 hpg (by omega)
  cases hw : rdW c L with
  | true =>
    obtain ⟨p1, p2, p3, p4, p5, p6, p7⟩ := ps_of hL1 hL2 hpg hw
    have hE : rdE c L = L := by
      unfold rdW at hw
      unfold rdE
      simp only [Bool.and_eq_true, decide_eq_true_eq] at hw
      rw [if_pos hw.1, hw.2.2]
    unfold seaB
    rw [hf, hE, decide_eq_true rfl, decide_eq_true (by omega), Bool.true_and, Bool.true_and]
    generalize (rsV c L 4 0 0).2.1 = m1 at *
    generalize (rsV c L 4 ((rsV c L 4 0 0).1 + 1) 0).2.1 = m2 at *
    rw [allB_no (i := m1 - 1) (by
      rw [decide_eq_true ((e59 (m1 - 1) (by omega)).mpr ((p7 (m1 - 1) (by omega)).mpr (by omega)))]
      rfl) (by omega)]
    rfl
  | false =>
    unfold seaB
    rw [hf]
    by_cases h1 : nI (rdE c L) = nI L
    · by_cases h2 : L % 5 = 4
      · rw [decide_eq_true h1, decide_eq_true h2, Bool.true_and, Bool.true_and]
        -- no side's end is there
        have hle : rdE c L ≤ 1000 := by
          unfold rdE
          have := (rsV_le c L 4 0 0).1
          have := (rsV_le c L 4 ((rsV c L 4 0 0).1 + 1) 0).1
          split <;> omega
        have hE : rdE c L = L := (nI_eq (by omega) (by omega)).mp h1
        unfold rdE at hE
        cases hwf : wfB c L with
        | true =>
          rw [hwf, if_pos rfl] at hE
          have hwf' := hwf
          unfold wfB at hwf'
          simp only [Bool.and_eq_true, decide_eq_true_eq] at hwf'
          obtain ⟨b1, b2, b3, b4, b5⟩ := a3 hwf'.1
          have hlt : (rsV c L 4 0 0).1 < L := by
            rcases Nat.lt_or_ge (rsV c L 4 0 0).1 L with y | y
            · exact y
            · have z := hwf'.2
              unfold aV at z
              rw [if_neg (by omega)] at z
              exact absurd z (by decide)
          obtain ⟨c1, c2, c3, c4⟩ := rs_spec hL1 hL2 hpg true 4 ((rsV c L 4 0 0).1 + 1) 0 (by omega) (by omega) (by omega) (by omega)
          unfold rdW at hw
          rw [hwf, hE, decide_eq_true rfl, Bool.and_true, Bool.true_and] at hw
          have := c2 hw
          omega
        | false =>
          rw [hwf, if_neg (by decide)] at hE
          cases hw1 : (rsV c L 4 0 0).2.2 with
          | false => have := a2 hw1; omega
          | true =>
            obtain ⟨b1, b2, b3, b4, b5⟩ := a3 hw1
            rw [allB_iff.mpr (fun j hj => ?_)]
            · rfl
            · have := b4 j (by omega) (by omega)
              rw [decide_eq_false (fun q => by
                rw [e59 j hj, this] at q
                exact absurd q (by decide))]
              rfl
      · rw [decide_eq_false h2, Bool.false_and, Bool.and_false]
    · rw [decide_eq_false h1, Bool.false_and]
theorem side_at (hL1 : L ≤ 41) (hL2 : hi 1 1 = nI L) (hpg : ∀ k, k < L → hi 2 k = c k) {m1 m2 : Nat} (h : PS c L m1 m2) {j : Nat} (hj : j < m1 + m2) : rdSide hi j = bI (decide (m1 ≤ j)) := by
  obtain ⟨p1, p2, p3, p4, p5, p6, p7⟩ := h
  unfold rdSide
  by_cases z : m1 ≤ j
  · rw [allB_no (i := m1 - 1) (by
      rw [decide_eq_true ((lat_59 hL1 hL2 hpg (by omega)).mpr ((p7 (m1 - 1) (by omega)).mpr (by omega)))]
      rfl) (by omega), decide_eq_true z]
    rfl
  · rw [allB_iff.mpr (fun k hk => by
      rw [decide_eq_false (fun q => by
        rw [lat_59 hL1 hL2 hpg (by omega), p7 k (by omega)] at q
        omega)]
      rfl), decide_eq_false z]
    rfl
theorem first_at (hL1 : L ≤ 41) (hL2 : hi 1 1 = nI L) (hpg : ∀ k, k < L → hi 2 k = c k) {m1 m2 : Nat} (h : PS c L m1 m2) (cc : Nat) : ∀ j, j ≤ m1 + m2 → m1 ≤ j → rdFirst hi cc j = nI m1
  | 0, _, h2 => by have := h.1; omega
  | j + 1, h1, h2 => by
    rw [rdFirst, side_at hL1 hL2 hpg h (by omega)]
    by_cases z : m1 ≤ j
    · rw [decide_eq_true z, if_neg (by decide)]
      exact first_at hL1 hL2 hpg h cc j (by omega) z
    · rw [decide_eq_false z, if_pos (by decide), show j + 1 = m1 by omega]
/-- a person's letters -/
theorem one_at {j : Nat} (h : roV c L (5 * j) = 5 * j + 4) : ¬ kbV (aV c L (5 * j)) = -1 ∧ fgB c L (5 * j + 1) 9 = true ∧ fgB c L (5 * j + 2) 3 = true ∧ fgB c L (5 * j + 3) 9 = true ∧ 5 * j + 3 < L := by
  unfold roV at h
  by_cases z0 : kbV (aV c L (5 * j)) = -1
  · rw [if_pos z0] at h; omega
  rw [if_neg z0] at h
  cases z1 : fgB c L (5 * j + 1) 9 with
  | false => rw [if_pos z1] at h; omega
  | true =>
    rw [if_neg (by rw [z1]; decide)] at h
    cases z2 : fgB c L (5 * j + 2) 3 with
    | false => rw [if_pos z2] at h; omega
    | true =>
      rw [if_neg (by rw [z2]; decide)] at h
      cases z3 : fgB c L (5 * j + 3) 9 with
      | false => rw [if_pos z3] at h; omega
      | true => exact ⟨z0, rfl, rfl, rfl, fg_lt z3⟩
theorem fg_nat {p : Nat} (h : fgB c L p 9 = true) : ∃ w : Nat, w ≤ 9 ∧ aV c L p - 48 = nI w := by
  unfold fgB at h
  simp only [Bool.and_eq_true, Bool.not_eq_true', decide_eq_false_iff_not] at h
  obtain ⟨w, hw, e⟩ := nI_of h.1
  refine ⟨w, ?_, e⟩
  rcases Nat.lt_or_ge 9 w with z | z
  · exact absurd (by rw [e]; exact nI_lt z hw) h.2
  · exact z
end PG
