/-! ===== the calls, both sides ===== -/
section SA
variable {E : XE} {l : Launch} {hi : Nat → Nat → Int32} {hl : Nat → Nat → Int64} {n N F : Nat}
theorem CORE.at {hi : Nat → Nat → Int32} {N F : Nat} (hvw : vw hi 3 N = vm hi N F) {i s : Nat} (h : i < N) (h2 : 2 ≤ s) (h3 : s ≤ 11) : hi (3 + 6 + i) s = vm hi N F s i := by
  rw [← hvw, vw_at h h2 h3]
theorem rg {x : Int32} {a b : Nat} (ha : a < 2 ^ 20) (hb : b < 2 ^ 20) (h : (!decide (x < nI a) && !decide (nI b < x)) = true) : ∃ D : Nat, a ≤ D ∧ D ≤ b ∧ x = nI D := by
  simp only [Bool.and_eq_true, Bool.not_eq_true', decide_eq_false_iff_not] at h
  obtain ⟨h1, h2⟩ := h
  have h3 : ¬ x < 0 := fun q => h1 (by
    rw [i_lt, nI_toInt (by omega)]
    have : x.toInt < (0 : Int32).toInt := i_lt.mp q
    rw [show (0 : Int32).toInt = 0 from rfl] at this
    omega)
  obtain ⟨j, hj, rfl⟩ := nI_of h3
  refine ⟨j, ?_, ?_, rfl⟩
  · exact Nat.le_of_not_lt (fun q => h1 (nI_lt q (by omega)))
  · exact Nat.le_of_not_lt (fun q => h2 (nI_lt q (by omega)))
theorem rgo {x : Int32} {b : Nat} (hb : b < 2 ^ 20) : (∃ k : Nat, k < b + 1 ∧ x = nI k) ∨ (x.toInt < 0 ∨ (b : Int) < x.toInt) := by
  by_cases h : x.toInt < 0 ∨ (b : Int) < x.toInt
  · exact Or.inr h
  · left
    have h3 : ¬ x < 0 := fun q => h (Or.inl (by
      have : x.toInt < (0 : Int32).toInt := i_lt.mp q
      rw [show (0 : Int32).toInt = 0 from rfl] at this
      exact this))
    obtain ⟨j, hj, rfl⟩ := nI_of h3
    rw [nI_toInt hj] at h
    exact ⟨j, by omega, rfl⟩
theorem st_letter (hI : INV n hi N F) (x : Int32) : STEP E l mX9_letter mX10_letter [.int x] n hi hl := by
  have hI0 := hI
  obtain ⟨⟨hj, hcase, ⟨hN, hF⟩, hvw, hvi, ⟨s4, s5, s6, s7, s8, s9⟩, ⟨D, d1, d2⟩, S, t1, t2, t3, t4, t5⟩, ⟨hkv, hb3, hb32, hB, hB2⟩, ⟨L, p1, p2, p3, p4⟩, ⟨g1, m0, k0, g2, g3, g4, g5⟩, hkeep⟩ := hI
  have hN8 : N ≤ 8 := hj.1
  have hFN : F ≤ N := hj.2.1
  cases hw : (!decide (x < 32) && !decide (126 < x)) with
  | false => exact step0 hI0 (by decide) (ct_letterX x hw) (by decide) (ct_mletterX x hw) rfl
  | true =>
    refine ⟨2, by decide, (ct_letter x hw p1 p2).weaken ?_⟩
    rintro r h' (⟨q1, q2, q3⟩ | ⟨q1, q2, q3⟩)
    · subst q1
      exact ⟨_, _, q2, q3, done1 (by decide) (ct_mletterF x hw (p3.trans (by decide))) rfl hI0.up⟩
    · refine ⟨_, _, q2, q3, done1 (by decide) (ct_mletter (L := L) x hw q1 ?_) rfl (INV.up (hI0.page ?_ ?_))⟩
      · simp (disch := omega) only [upI_h, upI_a']
        exact p3
      · intro a k q
        simp (disch := omega) only [upI_h, upI_a']
      · refine ⟨L + 1, by omega, by simp (disch := omega) only [upI_h, upI_a'], by simp (disch := omega) only [upI_h, upI_a'], fun k hk => ?_⟩
        by_cases z : k = L
        · simp (disch := omega) only [upI_h, upI_a']
        · simp (disch := omega) only [upI_h, upI_a']
          exact p4 k (by omega)
theorem st_blank (hI : INV n hi N F) : STEP E l mX9_blank mX10_blank [] n hi hl := by
  have hI0 := hI
  obtain ⟨⟨hj, hcase, ⟨hN, hF⟩, hvw, hvi, ⟨s4, s5, s6, s7, s8, s9⟩, ⟨D, d1, d2⟩, S, t1, t2, t3, t4, t5⟩, ⟨hkv, hb3, hb32, hB, hB2⟩, ⟨L, p1, p2, p3, p4⟩, ⟨g1, m0, k0, g2, g3, g4, g5⟩, hkeep⟩ := hI
  have hN8 : N ≤ 8 := hj.1
  have hFN : F ≤ N := hj.2.1
  refine step1 (by decide) ct_blank (done1 (by decide) ct_mblank ?_ (INV.up (hI0.page ?_ ?_)))
  · simp (disch := omega) only [upI_h, upI_a']
    rw [p2, p3]
  · intro a k q
    simp (disch := omega) only [upI_h, upI_a']
  · exact ⟨0, by decide, by simp (disch := omega) only [upI_h, upI_a']; rfl, by simp (disch := omega) only [upI_h, upI_a']; rfl, fun k hk => absurd hk (by omega)⟩
theorem RZ.e {f g : Nat → Nat → Int32} (h : RZ f g) : ∀ a k, ¬ ((67 ≤ a ∧ a ≤ 72) ∨ (a = 53 ∧ ((24 ≤ k ∧ k ≤ 26) ∨ k = 29 ∨ (34 ≤ k ∧ k ≤ 36)))) → g a k = f a k := fun a k q => h a k (by omega)
theorem st_fault (hI : INV n hi N F) : STEP E l mX9_fault mX10_fault [] n hi hl := by
  have hI0 := hI
  obtain ⟨⟨hj, hcase, ⟨hN, hF⟩, hvw, hvi, ⟨s4, s5, s6, s7, s8, s9⟩, ⟨D, d1, d2⟩, S, t1, t2, t3, t4, t5⟩, ⟨hkv, hb3, hb32, hB, hB2⟩, ⟨L, p1, p2, p3, p4⟩, ⟨g1, m0, k0, g2, g3, g4, g5⟩, hkeep⟩ := hI
  have hN8 : N ≤ 8 := hj.1
  have hFN : F ≤ N := hj.2.1
  refine step1 (by decide) (ct_fault p1 p2) ⟨6, by decide, (ct_mfault p1 p3).weaken ?_⟩
  rintro r h' ⟨hf, q1, q2, q3⟩
  exact ⟨hf, hl, N, F, by rw [q1, fault_eq p1 p2 p4], q2, INV.up (hI0.scrm q3.e)⟩
theorem st_person (hI : INV n hi N F) (x w : Int32) : STEP E l mX9_person mX10_person [.int x, .int w] n hi hl := by
  have hI0 := hI
  obtain ⟨⟨hj, hcase, ⟨hN, hF⟩, hvw, hvi, ⟨s4, s5, s6, s7, s8, s9⟩, ⟨D, d1, d2⟩, S, t1, t2, t3, t4, t5⟩, ⟨hkv, hb3, hb32, hB, hB2⟩, ⟨L, p1, p2, p3, p4⟩, ⟨g1, m0, k0, g2, g3, g4, g5⟩, hkeep⟩ := hI
  have hN8 : N ≤ 8 := hj.1
  have hFN : F ≤ N := hj.2.1
  rcases ix_cases x hN8 with ⟨i, hi1, rfl⟩ | hx
  · rcases rgo (x := w) (b := 14) (by decide) with ⟨k, hk, rfl⟩ | hw
    · exact step0 hI0 (by decide) (ct_person hkv hN8 hN t1 t2 hi1 k hk) (by decide) (ct_mperson hj t5 t3 hi1 k hk) (tof_eq hvw hvi hb3 hN8 t4 (fun k hk => (t5.2 k hk).1) hi1 k hk)
    · exact step0 hI0 (by decide) (ct_personW hN8 hN hi1 w hw) (by decide) (ct_mpersonW hj hi1 w (wi_o (n := 14) (by decide) hw)) rfl
  · exact step0 hI0 (by decide) (ct_personX hN8 hN x w hx) (by decide) (ct_mpersonX hj x w hx) rfl
theorem as5 (w : Int32) : (!decide (w < 0) && !decide ((5 : Int32) ≤ w)) = (!decide (w < 0) && !decide ((4 : Int32) < w)) := by
  congr 2
theorem st_as (hI : INV n hi N F) (x w : Int32) : STEP E l mX9_as mX10_as [.int x, .int w] n hi hl := by
  have hI0 := hI
  obtain ⟨⟨hj, hcase, ⟨hN, hF⟩, hvw, hvi, ⟨s4, s5, s6, s7, s8, s9⟩, ⟨D, d1, d2⟩, S, t1, t2, t3, t4, t5⟩, ⟨hkv, hb3, hb32, hB, hB2⟩, ⟨L, p1, p2, p3, p4⟩, ⟨g1, m0, k0, g2, g3, g4, g5⟩, hkeep⟩ := hI
  have hN8 : N ≤ 8 := hj.1
  have hFN : F ≤ N := hj.2.1
  rcases ix_cases x hN8 with ⟨i, hi1, rfl⟩ | hx
  · cases hw : (!decide (w < 0) && !decide ((5 : Int32) ≤ w)) with
    | false => exact step0 hI0 (by decide) (ct_asW hN8 hN hi1 w hw) (by decide) (ct_masW hj hi1 w (by rw [← as5]; exact hw)) rfl
    | true => exact step0 hI0 (by decide) (ct_as hkv hN8 hN hi1 w hw) (by decide) (ct_mas hj hi1 w (by rw [← as5]; exact hw)) (by rw [CORE.at hvw hi1 (by decide) (by decide)])
  · exact step0 hI0 (by decide) (ct_asX hN8 hN x w hx) (by decide) (ct_masX hj x w hx) rfl
theorem st_choose (hI : INV n hi N F) (x w : Int32) : STEP E l mX9_choose mX10_choose [.int x, .int w] n hi hl := by
  have hI0 := hI
  obtain ⟨⟨hj, hcase, ⟨hN, hF⟩, hvw, hvi, ⟨s4, s5, s6, s7, s8, s9⟩, ⟨D, d1, d2⟩, S, t1, t2, t3, t4, t5⟩, ⟨hkv, hb3, hb32, hB, hB2⟩, ⟨L, p1, p2, p3, p4⟩, ⟨g1, m0, k0, g2, g3, g4, g5⟩, hkeep⟩ := hI
  have hN8 : N ≤ 8 := hj.1
  have hFN : F ≤ N := hj.2.1
  rcases ix_cases x hN8 with ⟨i, hi1, rfl⟩ | hx
  · cases hw : (!decide (w < 0) && !decide (9 < w)) with
    | false => exact step0 hI0 (by decide) (ct_chooseW hN8 hN hi1 w hw) (by decide) (ct_mchooseW hj hi1 w hw) rfl
    | true =>
      refine step1 (by decide) (ct_choose hN8 hN hi1 w hw) (done1 (by decide) (ct_mchoose (hj.up (fun z => absurd z (by omega))) hi1 w hw) ?_ (hI0.go8 (hI0.1.up (v' := vup (vm hi N F) 6 i w) ?_ ?_ ?_ ?_ ?_ ?_ ?_ ?_ ?_ ?_ ?_ ?_) ?_ ?_))
      · rw [m_off (by omega), ← hvw, vw_at hi1 (by decide) (by decide)]
      · rw [w_off (by omega), w_up hi1 (by decide) (by decide), hvw]
      · rw [m_up hi1 (s := 6) (a := 57) (by decide) (by decide) (by decide) rfl, m_off (by omega)]
      · exact hvi.cg (fun s a _ q => by rw [vup_n (by omega)])
      · simp (disch := omega) only [upI_h, upI_a']
      · simp (disch := omega) only [upI_h, upI_a']
      · simp (disch := omega) only [upI_h, upI_a']
      · simp (disch := omega) only [upI_h, upI_a']
      · simp (disch := omega) only [upI_h, upI_a']
      · simp (disch := omega) only [upI_h, upI_a']
      · intro a k q
        simp (disch := omega) only [upI_h, upI_a']
      · simp (disch := omega) only [upI_h, upI_a']
        exact ⟨s4, s5, s6, s7, s8, s9⟩
      · exact ⟨D, d1, by simp (disch := omega) only [upI_h, upI_a']; exact d2⟩
      · intro a k q
        unfold Oth at q
        simp (disch := omega) only [upI_h, upI_a']
      · intro k
        simp (disch := omega) only [upI_h, upI_a']
  · exact step0 hI0 (by decide) (ct_chooseX hN8 hN x w hx) (by decide) (ct_mchooseX hj x w hx) rfl
theorem st_paint (hI : INV n hi N F) (x w : Int32) : STEP E l mX9_paint mX10_paint [.int x, .int w] n hi hl := by
  have hI0 := hI
  obtain ⟨⟨hj, hcase, ⟨hN, hF⟩, hvw, hvi, ⟨s4, s5, s6, s7, s8, s9⟩, ⟨D, d1, d2⟩, S, t1, t2, t3, t4, t5⟩, ⟨hkv, hb3, hb32, hB, hB2⟩, ⟨L, p1, p2, p3, p4⟩, ⟨g1, m0, k0, g2, g3, g4, g5⟩, hkeep⟩ := hI
  have hN8 : N ≤ 8 := hj.1
  have hFN : F ≤ N := hj.2.1
  rcases ix_cases x hN8 with ⟨i, hi1, rfl⟩ | hx
  · cases hw : (!decide (w < 0) && !decide (3 < w)) with
    | false => exact step0 hI0 (by decide) (ct_paintW hN8 hN hi1 w hw) (by decide) (ct_mpaintW hj hi1 w hw) rfl
    | true =>
      refine step1 (by decide) (ct_paint hN8 hN hi1 w hw) (done1 (by decide) (ct_mpaint (hj.up (fun z => absurd z (by omega))) hi1 w hw) ?_ (hI0.go8 (hI0.1.up (v' := vup (vm hi N F) 5 i w) ?_ ?_ ?_ ?_ ?_ ?_ ?_ ?_ ?_ ?_ ?_ ?_) ?_ ?_))
      · rw [m_off (by omega), ← hvw, vw_at hi1 (by decide) (by decide)]
      · rw [w_off (by omega), w_up hi1 (by decide) (by decide), hvw]
      · rw [m_up hi1 (s := 5) (a := 56) (by decide) (by decide) (by decide) rfl, m_off (by omega)]
      · exact hvi.cg (fun s a _ q => by rw [vup_n (by omega)])
      · simp (disch := omega) only [upI_h, upI_a']
      · simp (disch := omega) only [upI_h, upI_a']
      · simp (disch := omega) only [upI_h, upI_a']
      · simp (disch := omega) only [upI_h, upI_a']
      · simp (disch := omega) only [upI_h, upI_a']
      · simp (disch := omega) only [upI_h, upI_a']
      · intro a k q
        simp (disch := omega) only [upI_h, upI_a']
      · simp (disch := omega) only [upI_h, upI_a']
        exact ⟨s4, s5, s6, s7, s8, s9⟩
      · exact ⟨D, d1, by simp (disch := omega) only [upI_h, upI_a']; exact d2⟩
      · intro a k q
        unfold Oth at q
        simp (disch := omega) only [upI_h, upI_a']
      · intro k
        simp (disch := omega) only [upI_h, upI_a']
  · exact step0 hI0 (by decide) (ct_paintX hN8 hN x w hx) (by decide) (ct_mpaintX hj x w hx) rfl
theorem st_limit (hI : INV n hi N F) (w : Int32) : STEP E l mX9_limit mX10_limit [.int w] n hi hl := by
  have hI0 := hI
  obtain ⟨⟨hj, hcase, ⟨hN, hF⟩, hvw, hvi, ⟨s4, s5, s6, s7, s8, s9⟩, ⟨D, d1, d2⟩, S, t1, t2, t3, t4, t5⟩, ⟨hkv, hb3, hb32, hB, hB2⟩, ⟨L, p1, p2, p3, p4⟩, ⟨g1, m0, k0, g2, g3, g4, g5⟩, hkeep⟩ := hI
  have hN8 : N ≤ 8 := hj.1
  have hFN : F ≤ N := hj.2.1
  cases hw : (!decide (w < 1) && !decide (9 < w)) with
  | false => exact step0 hI0 (by decide) (ct_limitW w hw) (by decide) (ct_mlimitW w hw) rfl
  | true =>
    rcases Nat.eq_zero_or_pos N with hE | hE
    · subst hE
      exact step0 hI0 (by decide) (ct_limitE w hw hN) (by decide) (ct_mlimitE w hw hj.2.2.1) rfl
    · refine step1 (by decide) (ct_limit w hw hN8 hN hE) (done1 (by decide) (ct_mlimit (hj.up (fun z => absurd z (by omega))) w hw hE) ?_ (hI0.go8 (hI0.1.up (v' := vm hi N F) ?_ ?_ hvi ?_ ?_ ?_ ?_ ?_ ?_ ?_ ?_ ?_) ?_ ?_))
      · simp (disch := omega) only [upI_h, upI_a']
        rw [s4]
      · rw [w_off (by omega), w_off (by omega), hvw]
      · rw [m_off (by omega), m_off (by omega)]
      · simp (disch := omega) only [upI_h, upI_a']
      · simp (disch := omega) only [upI_h, upI_a']
      · simp (disch := omega) only [upI_h, upI_a']
      · simp (disch := omega) only [upI_h, upI_a']
      · simp (disch := omega) only [upI_h, upI_a']
      · simp (disch := omega) only [upI_h, upI_a']
      · intro a k q
        simp (disch := omega) only [upI_h, upI_a']
      · simp (disch := omega) only [upI_h, upI_a']
        exact ⟨trivial, s5, s6, s7, s8, s9⟩
      · exact ⟨D, d1, by simp (disch := omega) only [upI_h, upI_a']; exact d2⟩
      · intro a k q
        unfold Oth at q
        simp (disch := omega) only [upI_h, upI_a']
      · intro k
        simp (disch := omega) only [upI_h, upI_a']
end SA
