/-! ===== a sea is read ===== -/
section SEA
variable {E : XE} {l : Launch} {hi : Nat → Nat → Int32} {hl : Nat → Nat → Int64} {n N F : Nat}
def seaC (hi : Nat → Nat → Int32) (N : Nat) : Nat → Nat → Int32 := upI (upI (upI (upI (upI (upI (upI (upI (upI (upI (rdF hi 3 N) 3 4 9) 3 5 0) 3 6 0) 3 7 0) 3 8 0) 3 9 0) (3 + 2) 3 0) 1 1 0) 0 5 0) 0 6 (hi 0 6 + 1)
def seaM (hf : Nat → Nat → Int32) (m1 m2 : Nat) : Nat → Nat → Int32 := seT (spF (upI (upI hf 53 1 (nI m1)) 53 2 (nI (m1 + m2))) (m1 + m2))
theorem rdF_p {i k : Nat} (h : i < N) : rdF hi 3 N (3 + 6 + i) k = rdP hi (3 + 6 + i) i k := by
  unfold rdF
  rw [if_neg (by omega), if_neg (by omega), if_pos (by omega), show 3 + 6 + i - 3 - 6 = i by omega]
theorem rdF_off {a k : Nat} (h : ¬ (a = 3 ∧ (k = 2 ∨ k = 3))) (h2 : ¬ ((9 ≤ a ∧ a < 9 + N) ∧ 2 ≤ k ∧ k ≤ 11)) : rdF hi 3 N a k = hi a k := by
  unfold rdF
  rw [if_neg (by omega), if_neg (by omega)]
  by_cases z : 3 + 6 ≤ a ∧ a < 3 + 6 + N
  · rw [if_pos z]
    unfold rdP
    rw [if_neg (by omega), if_neg (by omega), if_neg (by omega), if_neg (by omega), if_neg (by omega), if_neg (by omega), if_neg (by omega)]
  · rw [if_neg z]
theorem seaC_off {a k : Nat} (h1 : ¬ (a = 3 ∧ 2 ≤ k ∧ k ≤ 9)) (h2 : ¬ (a = 5 ∧ k = 3)) (h3 : ¬ (a = 1 ∧ k = 1)) (h4 : ¬ (a = 0 ∧ (k = 5 ∨ k = 6))) (h5 : ¬ ((9 ≤ a ∧ a < 9 + N) ∧ 2 ≤ k ∧ k ≤ 11)) : seaC hi N a k = hi a k := by
  unfold seaC
  simp (disch := omega) only [upI_h, upI_a']
  exact rdF_off (by omega) h5
theorem seaC_p {i k : Nat} (h : i < N) : seaC hi N (3 + 6 + i) k = rdP hi (3 + 6 + i) i k := by
  unfold seaC
  simp (disch := omega) only [upI_h, upI_a']
  exact rdF_p h
theorem seT_off {g : Nat → Nat → Int32} {a k : Nat} (h : ¬ (a = 53 ∧ (k = 0 ∨ (12 ≤ k ∧ k ≤ 18) ∨ k = 22))) : seT g a k = g a k := by
  unfold seT
  simp (disch := omega) only [upI_h, upI_a']
theorem seaM_off {hf : Nat → Nat → Int32} {m1 m2 a k : Nat} (h : ¬ (a = 53 ∧ (k ≤ 2 ∨ (12 ≤ k ∧ k ≤ 18) ∨ k = 22))) (h2 : a < 54 ∨ 62 < a) : seaM hf m1 m2 a k = hf a k := by
  unfold seaM
  rw [seT_off (by omega), sp_off h2]
  simp (disch := omega) only [upI_h, upI_a']
theorem seaM_p {hf : Nat → Nat → Int32} {m1 m2 a k : Nat} (h2 : 54 ≤ a ∧ a ≤ 62) (hk : k < m1 + m2) : seaM hf m1 m2 a k = spV (upI (upI hf 53 1 (nI m1)) 53 2 (nI (m1 + m2))) a k := by
  unfold seaM
  rw [seT_off (by omega)]
  exact if_pos ⟨h2, hk⟩
theorem seaM_53 {hf : Nat → Nat → Int32} {m1 m2 : Nat} : seaM hf m1 m2 53 0 = hf 53 0 + 1 ∧ seaM hf m1 m2 53 1 = nI m1 ∧ seaM hf m1 m2 53 2 = nI (m1 + m2) ∧ seaM hf m1 m2 53 12 = 9 ∧ seaM hf m1 m2 53 13 = 0 ∧ seaM hf m1 m2 53 14 = 0 ∧ seaM hf m1 m2 53 15 = 0 ∧ seaM hf m1 m2 53 16 = 0 ∧ seaM hf m1 m2 53 17 = 0 ∧ seaM hf m1 m2 53 18 = 0 ∧ seaM hf m1 m2 53 22 = 0 := by
  have e : ∀ k, spF (upI (upI hf 53 1 (nI m1)) 53 2 (nI (m1 + m2))) (m1 + m2) 53 k = upI (upI hf 53 1 (nI m1)) 53 2 (nI (m1 + m2)) 53 k := fun k => sp_off (by omega) k
  unfold seaM seT
  simp (disch := omega) only [upI_h, upI_a']
  rw [e 0, e 1, e 2]
  simp (disch := omega) only [upI_h, upI_a']
  exact ⟨trivial, trivial, trivial, trivial, trivial, trivial, trivial, trivial, trivial, trivial, trivial⟩
theorem st_sea (hI : INV n hi N F) (hn : n ≤ 1000) : STEP E l mX9_sea mX10_sea [] n hi hl := by
  have hI0 := hI
  obtain ⟨⟨hj, hcase, ⟨hN, hF⟩, hvw, hvi, ⟨s4, s5, s6, s7, s8, s9⟩, ⟨D, d1, d2⟩, S, t1, t2, t3, t4, t5⟩, ⟨hkv, hb3, hb32, hB, hB2⟩, ⟨L, p1, p2, p3, p4⟩, ⟨g1, m0, k0, g2, g3, g4, g5⟩, hkeep⟩ := hI
  have hN8 : N ≤ 8 := hj.1
  have hFN : F ≤ N := hj.2.1
  have hse := sea_eq p1 p2 p4
  cases hw : rdW (hi 66) L with
  | false =>
    rw [hw] at hse
    refine step1 (by decide) (ct_seaX p1 p2 hse) ⟨6, by decide, (ct_mseaX p1 p3 hw).weaken ?_⟩
    rintro r h' ⟨hf, q1, q2, q3⟩
    exact ⟨hf, hl, N, F, q1, q2, INV.up (hI0.scrm q3.e)⟩
  | true =>
    rw [hw] at hse
    have hps := ps_of p1 p2 p4 hw
    obtain ⟨m1, hm1⟩ : ∃ m1, (rsV (hi 66) L 4 0 0).2.1 = m1 := ⟨_, rfl⟩
    obtain ⟨m2, hm2⟩ : ∃ m2, (rsV (hi 66) L 4 ((rsV (hi 66) L 4 0 0).1 + 1) 0).2.1 = m2 := ⟨_, rfl⟩
    rw [hm1, hm2] at hps
    have hps0 := hps
    obtain ⟨a1, a2, a3, a4, a5, a6, a7⟩ := hps
    have e66 : seaC hi (m1 + m2) 66 = hi 66 := funext fun k => seaC_off (by omega) (by omega) (by omega) (by omega) (by omega)
    have e53 : ∀ k, seaC hi (m1 + m2) 53 k = hi 53 k := fun k => seaC_off (by omega) (by omega) (by omega) (by omega) (by omega)
    refine step1 (hi1 := seaC hi (m1 + m2)) (by decide) (ct_sea (N := m1 + m2) (by omega) a5 p2 hse) ⟨6, by decide, (ct_msea (L := L) (m1 := m1) (m2 := m2) p1 ((e53 22).trans p3) (by rw [e66]; exact hw) (by rw [e66]; exact hm1) (by rw [e66]; exact hm2) (by omega)).weaken ?_⟩
    rintro r h' ⟨hf, q1, q2, q3⟩
    refine ⟨seaM hf m1 m2, hl, m1 + m2, m1, q1, q2, ?_⟩
    obtain ⟨z0, z1, z2, z12, z13, z14, z15, z16, z17, z18, z22⟩ := seaM_53 (hf := hf) (m1 := m1) (m2 := m2)
    have q66 : hf 66 = hi 66 := funext fun k => (q3 66 k (by omega)).trans (by rw [e66])
    have ec : ∀ a k, a < 53 ∨ 62 < a → seaM hf m1 m2 a k = seaC hi (m1 + m2) a k := fun a k z => (seaM_off (by omega) (by omega)).trans (q3 a k (by omega))
    have e3 : ∀ k, seaM hf m1 m2 3 k = seaC hi (m1 + m2) 3 k := fun k => ec 3 k (by omega)
    have l1 : ∀ i k, i < m1 + m2 → k ≤ 3 → lAt hi (nI (5 * i + k)) = hi 66 (5 * i + k) ∧ aV (hi 66) L (5 * i + k) = hi 66 (5 * i + k) := fun i k h1 h2 => by
      have h3 := (one_at (a6 i h1)).2.2.2.2
      exact ⟨by rw [lat_a p1 p2 p4 (by omega), if_pos (by omega)], if_pos (by omega)⟩
    have cm : ∀ i a, i < m1 + m2 → 54 ≤ a → a ≤ 62 → seaM hf m1 m2 a i = spV (upI (upI hf 53 1 (nI m1)) 53 2 (nI (m1 + m2))) a i := fun i a h1 h2 h3 => seaM_p ⟨h2, h3⟩ h1
    have g66 : ∀ k, upI (upI hf 53 1 (nI m1)) 53 2 (nI (m1 + m2)) 66 k = hi 66 k := fun k => by
      simp (disch := omega) only [upI_h, upI_a']
      rw [q66]
    have cp : ∀ i s, i < m1 + m2 → seaM hf m1 m2 (3 + 6 + i) s = rdP hi (3 + 6 + i) i s := fun i s h1 => (ec _ _ (by omega)).trans (seaC_p h1)
    have hview : vw (seaM hf m1 m2) 3 (m1 + m2) = vm (seaM hf m1 m2) (m1 + m2) m1 := by
      funext s i
      by_cases hq : i < m1 + m2 ∧ 2 ≤ s ∧ s ≤ 11
      · obtain ⟨h1, h2, h3⟩ := hq
        rw [vw_at h1 h2 h3, cp i s h1]
        have hs : s = 2 ∨ s = 3 ∨ s = 4 ∨ s = 5 ∨ s = 6 ∨ s = 7 ∨ s = 8 ∨ s = 9 ∨ s = 10 ∨ s = 11 := by omega
        rcases hs with rfl | rfl | rfl | rfl | rfl | rfl | rfl | rfl | rfl | rfl
        · rw [m_2 h1, cm i 54 h1 (by decide) (by decide)]
          show nI (kOf (lAt hi (nI (5 * i)))) = kbV (upI (upI hf 53 1 (nI m1)) 53 2 (nI (m1 + m2)) 66 (5 * i))
          have h4 := (one_at (a6 i h1)).1
          have h5 := l1 i 0 h1 (by decide)
          rw [Nat.add_zero] at h5
          rw [h5.2] at h4
          rw [g66, kb_kof h4, h5.1]
        · rw [m_3 h1]
          exact side_at p1 p2 p4 hps0 h1
        · rw [m_4 h1, cm i 55 h1 (by decide) (by decide)]
          show lAt hi (nI (5 * i + 1)) - 48 = upI (upI hf 53 1 (nI m1)) 53 2 (nI (m1 + m2)) 66 (5 * i + 1) - 48
          rw [g66, (l1 i 1 h1 (by decide)).1]
        · rw [m_5 h1, cm i 56 h1 (by decide) (by decide)]
          show lAt hi (nI (5 * i + 2)) - 48 = upI (upI hf 53 1 (nI m1)) 53 2 (nI (m1 + m2)) 66 (5 * i + 2) - 48
          rw [g66, (l1 i 2 h1 (by decide)).1]
        · rw [m_6 h1, cm i 57 h1 (by decide) (by decide)]
          show lAt hi (nI (5 * i + 3)) - 48 = upI (upI hf 53 1 (nI m1)) 53 2 (nI (m1 + m2)) 66 (5 * i + 3) - 48
          rw [g66, (l1 i 3 h1 (by decide)).1]
        · rw [m_7 h1, cm i 58 h1 (by decide) (by decide)]
          rfl
        · rw [m_8 h1, cm i 59 h1 (by decide) (by decide)]
          rfl
        · rw [m_9 h1, cm i 60 h1 (by decide) (by decide)]
          rfl
        · rw [m_10 h1, cm i 61 h1 (by decide) (by decide)]
          rfl
        · rw [m_11 h1, cm i 62 h1 (by decide) (by decide)]
          rfl
      · have w1 : vw (seaM hf m1 m2) 3 (m1 + m2) s i = 0 := if_neg hq
        have w2 : vm (seaM hf m1 m2) (m1 + m2) m1 s i = 0 := if_neg hq
        rw [w1, w2]
    have hvi2 : VI (vm (seaM hf m1 m2) (m1 + m2) m1) (m1 + m2) m1 := by
      refine ⟨fun i h1 => m_3 h1, fun i h1 => ?_, fun i j h1 h2 h3 => ?_, fun i h1 => Or.inl ?_⟩
      · rw [m_4 h1, cm i 55 h1 (by decide) (by decide)]
        obtain ⟨w, w1, w2⟩ := fg_nat (one_at (a6 i h1)).2.1
        refine ⟨w, w1, ?_⟩
        show upI (upI hf 53 1 (nI m1)) 53 2 (nI (m1 + m2)) 66 (5 * i + 1) - 48 = nI w
        rw [g66, ← (l1 i 1 h1 (by decide)).2]
        exact w2
      · rw [m_7 h1, cm i 58 h1 (by decide) (by decide)] at h3
        have : vt (0 : Int32) j = true := h3
        rw [vt_0] at this
        cases this
      · rw [m_11 h1, cm i 62 h1 (by decide) (by decide)]
        rfl
    have hcore : CORE (seaM hf m1 m2) (m1 + m2) m1 := by
      refine ⟨⟨by omega, by omega, z2, z1⟩, Or.inr ⟨a1, by omega, a2⟩, ⟨?_, ?_⟩, hview, hvi2, ⟨?_, ?_, ?_, ?_, ?_, ?_⟩, ⟨0, by decide, z13⟩, 0, by decide, ?_, z18, fun k hk => absurd hk (by omega), by decide, fun k hk => absurd hk (by omega)⟩
      · rw [e3]
        unfold seaC
        simp (disch := omega) only [upI_h, upI_a']
        exact rd_size
      · rw [e3]
        unfold seaC
        simp (disch := omega) only [upI_h, upI_a']
        have e4 : rdF hi 3 (m1 + m2) 3 2 = rdFirst hi 3 (m1 + m2) := by
          unfold rdF
          rw [if_neg (by omega), if_pos ⟨rfl, rfl⟩]
        rw [e4]
        exact first_at p1 p2 p4 hps0 3 (m1 + m2) (Nat.le_refl _) (by omega)
      · rw [e3, z12]
        unfold seaC
        simp (disch := omega) only [upI_h, upI_a']
      · rw [e3, z13]
        unfold seaC
        simp (disch := omega) only [upI_h, upI_a']
      · rw [e3, z16]
        unfold seaC
        simp (disch := omega) only [upI_h, upI_a']
      · rw [e3, z17]
        unfold seaC
        simp (disch := omega) only [upI_h, upI_a']
      · rw [e3, z14]
        unfold seaC
        simp (disch := omega) only [upI_h, upI_a']
      · rw [e3, z15]
        unfold seaC
        simp (disch := omega) only [upI_h, upI_a']
      · rw [ec 5 3 (by omega)]
        unfold seaC
        simp (disch := omega) only [upI_h, upI_a']
        rfl
    have eoff : ∀ a k, a < 53 ∨ 62 < a → ¬ (a = 3 ∧ 2 ≤ k ∧ k ≤ 9) → ¬ (a = 5 ∧ k = 3) → ¬ (a = 1 ∧ k = 1) → ¬ (a = 0 ∧ (k = 5 ∨ k = 6)) → ¬ ((9 ≤ a ∧ a < 9 + (m1 + m2)) ∧ 2 ≤ k ∧ k ≤ 11) → seaM hf m1 m2 a k = hi a k := fun a k w0 w1 w2 w3 w4 w5 => (ec a k w0).trans (seaC_off w1 w2 w3 w4 w5)
    have z0' : seaM hf m1 m2 53 0 = nI (m0 + 1) := by rw [z0, q3 53 0 (by omega), e53 0, g4, nI_1]
    have z39 : seaM hf m1 m2 53 39 = nI k0 := by rw [seaM_off (by omega) (by omega), q3 53 39 (by omega), e53 39, g5]
    refine ⟨hcore, ⟨fun p hp => ?_, fun j hj => ?_, fun j hj => ?_, fun k hk => ?_, fun k hk => ?_⟩, ⟨0, by decide, ?_, z22, fun k hk => absurd hk (by omega)⟩, ⟨?_, m0 + 1, k0, by omega, by omega, z0', z39⟩, Or.inl ⟨?_, Or.inr ?_⟩⟩
    · by_cases hp2 : 9 ≤ p ∧ p < 9 + (m1 + m2)
      · have e5 := cp (p - 9) 2 (by omega)
        rw [show 3 + 6 + (p - 9) = p by omega] at e5
        rw [e5]
        exact ⟨kOf (lAt hi (nI (5 * (p - 9)))), kOf_lt _, rfl⟩
      · have := xo3 hp
        rw [eoff p 2 (by omega) (by omega) (by omega) (by omega) (by omega) (by omega)]
        exact hkv p hp
    · rw [eoff _ 0 (by omega) (by omega) (by omega) (by omega) (by omega) (by omega), eoff _ 1 (by omega) (by omega) (by omega) (by omega) (by omega) (by omega)]
      exact hb3 j hj
    · rw [eoff _ 0 (by omega) (by omega) (by omega) (by omega) (by omega) (by omega), eoff _ 1 (by omega) (by omega) (by omega) (by omega) (by omega) (by omega)]
      exact hb32 j hj
    · rw [eoff 8 k (by omega) (by omega) (by omega) (by omega) (by omega) (by omega)]
      exact hB k hk
    · rw [eoff 22 k (by omega) (by omega) (by omega) (by omega) (by omega) (by omega)]
      exact hB2 k hk
    · rw [ec 1 1 (by omega)]
      unfold seaC
      simp (disch := omega) only [upI_h, upI_a']
      rfl
    · rw [ec 0 6 (by omega), z0', ← nI_1, ← g4, ← g1]
      unfold seaC
      simp (disch := omega) only [upI_h, upI_a']
    · rw [ec 0 5 (by omega)]
      unfold seaC
      simp (disch := omega) only [upI_h, upI_a']
    · rw [z0', z39]
      exact fun q => absurd ((nI_eq (by omega) (by omega)).mp q) (by omega)
end SEA
