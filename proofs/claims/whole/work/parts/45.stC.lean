/-! ===== meet, part, see, forget, image, restore ===== -/
section SC
variable {E : XE} {l : Launch} {hi : Nat → Nat → Int32} {hl : Nat → Nat → Int64} {n N F : Nat}
theorem st_meet (hI : INV n hi N F) (x y : Int32) : STEP E l mX9_meet mX10_meet [.int x, .int y] n hi hl := by
  have hI0 := hI
  obtain ⟨⟨hj, hcase, ⟨hN, hF⟩, hvw, hvi, ⟨s4, s5, s6, s7, s8, s9⟩, ⟨D, d1, d2⟩, S, t1, t2, t3, t4, t5⟩, ⟨hkv, hb3, hb32, hB, hB2⟩, ⟨L, p1, p2, p3, p4⟩, ⟨g1, m0, k0, g2, g3, g4, g5⟩, hkeep⟩ := hI
  have hN8 : N ≤ 8 := hj.1
  have hFN : F ≤ N := hj.2.1
  rcases ix_cases x hN8 with ⟨i, hi1, rfl⟩ | hx
  · rcases ix_cases y hN8 with ⟨j, hj1, rfl⟩ | hy
    · have ec : (pMatch hi (3 + 6 + i) (3 + 6 + j) && (!pTaken hi (3 + 6 + i) && !pTaken hi (3 + 6 + j))) = (vMatch (vm hi N F) i j && (!vTaken (vm hi N F) i && !vTaken (vm hi N F) j)) := by rw [← hvw, w_match hb3 hN8 hi1 hj1, w_taken hi1, w_taken hj1]
      have ek : ∀ a b, a < N → b < N → pCont (upI hi 3 7 (hi 3 7 + 1)) (3 + 6 + a) (upI hi 3 7 (hi 3 7 + 1) (3 + 6 + a) 6) (upI hi 3 7 (hi 3 7 + 1) (3 + 6 + b) 4) = vCont (vm hi N F) a (vm hi N F 6 a) (vm hi N F 4 b) := fun a b ha hb => by
        unfold pCont vCont
        simp (disch := omega) only [upI_h, upI_a']
        rw [CORE.at hvw ha (by decide) (by decide), CORE.at hvw ha (by decide) (by decide), CORE.at hvw hb (by decide) (by decide)]
      refine ⟨4, by decide, (ct_meet hkv hN8 hN hi1 hj1).weaken ?_⟩
      rw [ec, ek i j hi1 hj1, ek j i hj1 hi1]
      rintro r h' (⟨q1, q2, q3⟩ | ⟨q0, q1, q2, q3⟩ | ⟨q0, q1, q2, q3⟩)
      · refine ⟨_, _, q2, q3, 4, by decide, (ct_mmeet hj hi1 hj1).weaken ?_⟩
        rintro r2 h2 (⟨u1, u2, u3⟩ | ⟨u0, u1, u2, u3⟩ | ⟨u0, u1, u2, u3⟩)
        · exact ⟨hi, hl, N, F, u2, u3, hI0.up⟩
        · rw [q1] at u0
          cases u0
        · rw [q1] at u0
          cases u0
      · have q0' := q0
        simp only [Bool.and_eq_true, Bool.not_eq_true'] at q0'
        obtain ⟨z1, z2, z3⟩ := q0'
        have hj2 : MO7 (upI (upI (upI hi 3 7 (hi 3 7 + 1)) (3 + 6 + i) 11 (nI j)) (3 + 6 + j) 11 (nI i)) N F := hj.of (by simp (disch := omega) only [upI_h, upI_a']) (by simp (disch := omega) only [upI_h, upI_a'])
        have ev : vm (upI (upI (upI hi 3 7 (hi 3 7 + 1)) (3 + 6 + i) 11 (nI j)) (3 + 6 + j) 11 (nI i)) N F = vm hi N F := vm_c (fun a k z => by simp (disch := omega) only [upI_h, upI_a'])
        refine ⟨_, _, q2, q3, 4, by decide, (ct_mmeet hj2 hi1 hj1).weaken ?_⟩
        rw [ev]
        rintro r2 h2 (⟨u1, u2, u3⟩ | ⟨u0, u1, u2, u3⟩ | ⟨u0, u1, u2, u3⟩)
        · rw [q0] at u1
          cases u1
        · refine ⟨_, hl, N, F, u2, u3, ?_⟩
          refine hI0.go8 (hI0.1.up (v' := vup (vup (vm hi N F) 11 i (nI j)) 11 j (nI i)) ?_ ?_ (hvi.meet hN8 hi1 hj1 z1 z2 z3) ?_ ?_ ?_ ?_ ?_ ?_ ?_ ?_ ?_) ?_ ?_
          · rw [w_off (by omega), w_off (by omega), w_off (by omega), w_up hj1 (by decide) (by decide), w_up hi1 (by decide) (by decide), w_off (by omega), hvw]
          · rw [m_up hj1 (s := 11) (a := 62) (by decide) (by decide) (by decide) rfl, m_up hi1 (s := 11) (a := 62) (by decide) (by decide) (by decide) rfl, m_off (by omega), ev]
          · simp (disch := omega) only [upI_h, upI_a']
          · simp (disch := omega) only [upI_h, upI_a']
          · simp (disch := omega) only [upI_h, upI_a']
          · simp (disch := omega) only [upI_h, upI_a']
          · simp (disch := omega) only [upI_h, upI_a']
          · simp (disch := omega) only [upI_h, upI_a']
          · intro a k z
            simp (disch := omega) only [upI_h, upI_a']
          · simp (disch := omega) only [upI_h, upI_a']
            rw [s7]
            exact ⟨s4, s5, s6, rfl, s8, s9⟩
          · exact ⟨D, d1, by simp (disch := omega) only [upI_h, upI_a']; exact d2⟩
          · intro a k z
            unfold Oth at z
            simp (disch := omega) only [upI_h, upI_a']
          · intro k
            simp (disch := omega) only [upI_h, upI_a']
        · rw [q1] at u1
          cases u1
      · have q0' := q0
        simp only [Bool.and_eq_true, Bool.not_eq_true'] at q0'
        obtain ⟨z1, z2, z3⟩ := q0'
        have ui : vm hi N F 11 i = -1 := by
          unfold vTaken at z2
          simpa using z2
        have uj : vm hi N F 11 j = -1 := by
          unfold vTaken at z3
          simpa using z3
        have eo : ∀ a k, 17 ≤ a → TLF (TLF (upI hi 3 7 (hi 3 7 + 1)) (3 + 6 + i) (3 + 6 + j)) (3 + 6 + j) (3 + 6 + i) a k = hi a k := fun a k z => by
          rw [TLF_off (by omega), TLF_off (by omega)]; simp (disch := omega) only [upI_h, upI_a']
        have e3 : ∀ k, TLF (TLF (upI hi 3 7 (hi 3 7 + 1)) (3 + 6 + i) (3 + 6 + j)) (3 + 6 + j) (3 + 6 + i) 3 k = upI hi 3 7 (hi 3 7 + 1) 3 k := fun k => by
          rw [TLF_off (by omega), TLF_off (by omega)]
        have e48 : ∀ a k, ¬ ((9 ≤ a ∧ a ≤ 16) ∧ (k = 7 ∨ k = 8)) → ¬ (a = 3 ∧ k = 7) → TLF (TLF (upI hi 3 7 (hi 3 7 + 1)) (3 + 6 + i) (3 + 6 + j)) (3 + 6 + j) (3 + 6 + i) a k = hi a k := fun a k z w => by
          rw [TLF_off (by omega), TLF_off (by omega)]; simp (disch := omega) only [upI_h, upI_a']
        have hb4 : PB (upI hi 3 7 (hi 3 7 + 1)) 3 := hb3.off (fun a k _ _ z => by simp (disch := omega) only [upI_h, upI_a'])
        have hb5 : PB (TLF (upI hi 3 7 (hi 3 7 + 1)) (3 + 6 + i) (3 + 6 + j)) 3 := hb4.off (fun a k _ _ z => TLF_off (by omega))
        have hj2 : MO7 (TLF (TLF (upI hi 3 7 (hi 3 7 + 1)) (3 + 6 + i) (3 + 6 + j)) (3 + 6 + j) (3 + 6 + i)) N F := hj.of (eo 53 1 (by decide)) (eo 53 2 (by decide))
        have ev : vm (TLF (TLF (upI hi 3 7 (hi 3 7 + 1)) (3 + 6 + i) (3 + 6 + j)) (3 + 6 + j) (3 + 6 + i)) N F = vm hi N F := vm_c (fun a k z => eo a k (by omega))
        have ew : vw (TLF (TLF (upI hi 3 7 (hi 3 7 + 1)) (3 + 6 + i) (3 + 6 + j)) (3 + 6 + j) (3 + 6 + i)) 3 N = tlV (tlV (vm hi N F) i j) j i := by rw [w_tl hb5 hN8 hj1 hi1, w_tl hb4 hN8 hi1 hj1, w_off (by omega), hvw]
        refine ⟨_, _, q2, q3, 4, by decide, (ct_mmeet hj2 hi1 hj1).weaken ?_⟩
        rw [ev]
        rintro r2 h2 (⟨u1, u2, u3⟩ | ⟨u0, u1, u2, u3⟩ | ⟨u0, u1, u2, u3⟩)
        · rw [q0] at u1
          cases u1
        · rw [q1] at u1
          cases u1
        · refine ⟨_, hl, N, F, u2, u3, ?_⟩
          have em : ∀ (g : Nat → Nat → Int32) a k, ¬ ((a = 58 ∨ a = 59) ∧ k < 8) → mLvF (mLvF g i j) j i a k = g a k := fun g a k z => by
            rw [mLvF_off (by omega), mLvF_off (by omega)]
          refine hI0.go8 (hI0.1.up (v' := tlV (tlV (vm hi N F) i j) j i) ?_ ?_ ((hvi.tl hN8 hi1 hj1 (by rw [ui]; exact fun z => nI_m1 (by omega) z.symm)).tl hN8 hj1 hi1 (by rw [tl_11, uj]; exact fun z => nI_m1 (by omega) z.symm)) ?_ ?_ ?_ ?_ ?_ ?_ ?_ ?_ ?_) ?_ ?_
          · rw [← ew]
            exact vw_c hN8 (fun a k z => by rw [em _ a k (by omega)]; simp (disch := omega) only [upI_h, upI_a'])
          · rw [m_tl hj1, m_tl hi1, m_off (by omega), ev]
          · rw [em _ _ _ (by omega)]; simp (disch := omega) only [upI_h, upI_a']; exact eo 53 1 (by decide)
          · rw [em _ _ _ (by omega)]; simp (disch := omega) only [upI_h, upI_a']; exact eo 53 2 (by decide)
          · rw [em _ _ _ (by omega)]; simp (disch := omega) only [upI_h, upI_a']; rw [e3]; simp (disch := omega) only [upI_h, upI_a']
          · rw [em _ _ _ (by omega)]; simp (disch := omega) only [upI_h, upI_a']; rw [e3]; simp (disch := omega) only [upI_h, upI_a']
          · rw [em _ _ _ (by omega)]; simp (disch := omega) only [upI_h, upI_a']; exact e48 5 3 (by omega) (by omega)
          · rw [em _ _ _ (by omega)]; simp (disch := omega) only [upI_h, upI_a']; exact eo 53 18 (by decide)
          · intro a k z
            rw [em _ _ _ (by omega)]; simp (disch := omega) only [upI_h, upI_a']; exact e48 a k (by omega) (by omega)
          · rw [em _ _ _ (by omega), em _ _ _ (by omega), em _ _ _ (by omega), em _ _ _ (by omega), em _ _ _ (by omega), em _ _ _ (by omega), em _ _ _ (by omega), em _ _ _ (by omega), em _ _ _ (by omega), em _ _ _ (by omega), em _ _ _ (by omega), em _ _ _ (by omega)]
            simp (disch := omega) only [upI_h, upI_a']
            rw [e3, e3, e3, e3, e3, e3, eo 53 12 (by decide), eo 53 13 (by decide), eo 53 14 (by decide), eo 53 15 (by decide), eo 53 16 (by decide), eo 53 17 (by decide)]
            simp (disch := omega) only [upI_h, upI_a']
            rw [s7]
            exact ⟨s4, s5, s6, rfl, s8, s9⟩
          · refine ⟨D, d1, ?_⟩
            rw [em _ _ _ (by omega)]; simp (disch := omega) only [upI_h, upI_a']
            exact (eo 53 13 (by decide)).trans d2
          · intro a k z
            unfold Oth at z
            rw [em _ _ _ (by omega)]; simp (disch := omega) only [upI_h, upI_a']; exact e48 a k (by omega) (by omega)
          · intro k
            rw [em _ _ _ (by omega)]; simp (disch := omega) only [upI_h, upI_a']; exact e48 8 k (by omega) (by omega)
    · exact step0 hI0 (by decide) (ct_meetX2 hN8 hN hi1 y hy) (by decide) (ct_mmeetX2 hj hi1 y hy) rfl
  · exact step0 hI0 (by decide) (ct_meetX1 hN8 hN x y hx) (by decide) (ct_mmeetX1 hj x y hx) rfl
theorem noP_m1 (N : Nat) : noP (-1) N := by
  unfold noP
  rw [show decide ((-1 : Int32) < 0) = true from by decide]
  rfl
theorem st_part (hI : INV n hi N F) (x : Int32) : STEP E l mX9_part mX10_part [.int x] n hi hl := by
  have hI0 := hI
  obtain ⟨⟨hj, hcase, ⟨hN, hF⟩, hvw, hvi, ⟨s4, s5, s6, s7, s8, s9⟩, ⟨D, d1, d2⟩, S, t1, t2, t3, t4, t5⟩, ⟨hkv, hb3, hb32, hB, hB2⟩, ⟨L, p1, p2, p3, p4⟩, ⟨g1, m0, k0, g2, g3, g4, g5⟩, hkeep⟩ := hI
  have hN8 : N ≤ 8 := hj.1
  have hFN : F ≤ N := hj.2.1
  rcases ix_cases x hN8 with ⟨i, hi1, rfl⟩ | hx
  · have e11 : hi (3 + 6 + i) 11 = vm hi N F 11 i := CORE.at hvw hi1 (by decide) (by decide)
    rcases hvi.2.2.2 i hi1 with q | ⟨j, hj1, j2, j3, j4, j5⟩
    · exact step0 hI0 (by decide) (ct_partE hN8 hN hi1 (by rw [e11, q]; exact noP_m1 N)) (by decide) (ct_mpartE hj hi1 (by rw [← m_11 (hi := hi) (F := F) hi1]; exact q)) rfl
    · have hne : i ≠ j := hvi.ne hi1 hj1 j4
      have eo : ∀ a k, ¬ ((9 ≤ a ∧ a ≤ 16) ∧ (k = 7 ∨ k = 8 ∨ k = 11)) → TLF (TLF (upI (upI hi (3 + 6 + i) 11 (-1)) (3 + 6 + j) 11 (-1)) (3 + 6 + i) (3 + 6 + j)) (3 + 6 + j) (3 + 6 + i) a k = hi a k := fun a k z => by
        rw [TLF_off (by omega), TLF_off (by omega)]; simp (disch := omega) only [upI_h, upI_a']
      have hb4 : PB (upI (upI hi (3 + 6 + i) 11 (-1)) (3 + 6 + j) 11 (-1)) 3 := hb3.off (fun a k _ _ z => by simp (disch := omega) only [upI_h, upI_a'])
      have hb5 : PB (TLF (upI (upI hi (3 + 6 + i) 11 (-1)) (3 + 6 + j) 11 (-1)) (3 + 6 + i) (3 + 6 + j)) 3 := hb4.off (fun a k _ _ z => TLF_off (by omega))
      have hj2 : MO7 (TLF (TLF (upI (upI hi (3 + 6 + i) 11 (-1)) (3 + 6 + j) 11 (-1)) (3 + 6 + i) (3 + 6 + j)) (3 + 6 + j) (3 + 6 + i)) N F := hj.of (eo 53 1 (by omega)) (eo 53 2 (by omega))
      have ev : vm (TLF (TLF (upI (upI hi (3 + 6 + i) 11 (-1)) (3 + 6 + j) 11 (-1)) (3 + 6 + i) (3 + 6 + j)) (3 + 6 + j) (3 + 6 + i)) N F = vm hi N F := vm_c (fun a k z => eo a k (by omega))
      have ew : vw (TLF (TLF (upI (upI hi (3 + 6 + i) 11 (-1)) (3 + 6 + j) 11 (-1)) (3 + 6 + i) (3 + 6 + j)) (3 + 6 + j) (3 + 6 + i)) 3 N = tlV (tlV (vup (vup (vm hi N F) 11 i (-1)) 11 j (-1)) i j) j i := by
        rw [w_tl hb5 hN8 hj1 hi1, w_tl hb4 hN8 hi1 hj1, w_up hj1 (by decide) (by decide), w_up hi1 (by decide) (by decide), hvw]
      have em : ∀ (g : Nat → Nat → Int32) a k, ¬ ((a = 58 ∨ a = 59 ∨ a = 62) ∧ k < 8) → mLvF (mLvF (upI (upI g 62 i (-1)) 62 j (-1)) i j) j i a k = g a k := fun g a k z => by
        rw [mLvF_off (by omega), mLvF_off (by omega)]; simp (disch := omega) only [upI_h, upI_a']
      refine step1 (by decide) (ct_part hN8 hN hi1 hj1 (e11.trans j2)) (done1 (by decide) (ct_mpart hj2 hi1 hj1 ?_) rfl (hI0.go8 (hI0.1.up (v' := tlV (tlV (vup (vup (vm hi N F) 11 i (-1)) 11 j (-1)) i j) j i) ?_ ?_ ?_ ?_ ?_ ?_ ?_ ?_ ?_ ?_ ?_ ?_) ?_ ?_))
      · rw [eo 62 i (by omega), ← m_11 (hi := hi) (F := F) hi1]
        exact j2
      · rw [← ew]
        exact vw_c hN8 (fun a k z => em _ a k (by omega))
      · rw [m_tl hj1, m_tl hi1, m_up hj1 (s := 11) (a := 62) (by decide) (by decide) (by decide) rfl, m_up hi1 (s := 11) (a := 62) (by decide) (by decide) (by decide) rfl, ev]
      · refine ((hvi.part hN8 hi1 hj1 j2).tl hN8 hi1 hj1 ?_).tl hN8 hj1 hi1 ?_
        · rw [vup_n (by omega), vup_s]
          exact fun z => nI_m1 (by omega) z.symm
        · rw [tl_11, vup_s]
          exact fun z => nI_m1 (by omega) z.symm
      · exact (em _ _ _ (by omega)).trans (eo 53 1 (by omega))
      · exact (em _ _ _ (by omega)).trans (eo 53 2 (by omega))
      · exact (em _ _ _ (by omega)).trans (eo 3 3 (by omega))
      · exact (em _ _ _ (by omega)).trans (eo 3 2 (by omega))
      · exact (em _ _ _ (by omega)).trans (eo 5 3 (by omega))
      · exact (em _ _ _ (by omega)).trans (eo 53 18 (by omega))
      · exact fun a k z => (em _ _ _ (by omega)).trans (eo a k (by omega))
      · have ee : ∀ a k, (a = 3 ∨ a = 53) → mLvF (mLvF (upI (upI (TLF (TLF (upI (upI hi (3 + 6 + i) 11 (-1)) (3 + 6 + j) 11 (-1)) (3 + 6 + i) (3 + 6 + j)) (3 + 6 + j) (3 + 6 + i)) 62 i (-1)) 62 j (-1)) i j) j i a k = hi a k := fun a k z => (em _ _ _ (by omega)).trans (eo a k (by omega))
        rw [ee 3 4 (by omega), ee 3 5 (by omega), ee 3 6 (by omega), ee 3 7 (by omega), ee 3 8 (by omega), ee 3 9 (by omega), ee 53 12 (by omega), ee 53 13 (by omega), ee 53 14 (by omega), ee 53 15 (by omega), ee 53 16 (by omega), ee 53 17 (by omega)]
        exact ⟨s4, s5, s6, s7, s8, s9⟩
      · exact ⟨D, d1, ((em _ _ _ (by omega)).trans (eo 53 13 (by omega))).trans d2⟩
      · exact fun a k z => (em _ _ _ (by unfold Oth at z; omega)).trans (eo a k (by unfold Oth at z; omega))
      · exact fun k => (em _ _ _ (by omega)).trans (eo 8 k (by omega))
  · exact step0 hI0 (by decide) (ct_partX hN8 hN x hx) (by decide) (ct_mpartX hj x hx) rfl
theorem st_see (hI : INV n hi N F) (x y b : Int32) (hb : b = 0 ∨ b = 1) : STEP E l mX9_see mX10_see [.int x, .int y, .int b] n hi hl := by
  have hI0 := hI
  obtain ⟨⟨hj, hcase, ⟨hN, hF⟩, hvw, hvi, ⟨s4, s5, s6, s7, s8, s9⟩, ⟨D, d1, d2⟩, S, t1, t2, t3, t4, t5⟩, ⟨hkv, hb3, hb32, hB, hB2⟩, ⟨L, p1, p2, p3, p4⟩, ⟨g1, m0, k0, g2, g3, g4, g5⟩, hkeep⟩ := hI
  have hN8 : N ≤ 8 := hj.1
  have hFN : F ≤ N := hj.2.1
  rcases ix_cases x hN8 with ⟨i, hi1, rfl⟩ | hx
  · rcases ix_cases y hN8 with ⟨j, hj1, rfl⟩ | hy
    · have ei : hi (3 + 6 + i) 3 = vm hi N F 3 i := CORE.at hvw hi1 (by decide) (by decide)
      have ej : hi (3 + 6 + j) 3 = vm hi N F 3 j := CORE.at hvw hj1 (by decide) (by decide)
      by_cases hs : vm hi N F 3 i = vm hi N F 3 j
      · exact step0 hI0 (by decide) (ct_seeS hN8 hN hi1 hj1 b (by rw [ei, ej]; exact hs)) (by decide) (ct_mseeS hj hi1 hj1 b hs) rfl
      · have hbb : vp_nar .boolean b = b ∧ (if b = 0 then (0 : Int32) else 1) = b := by
          rcases hb with rfl | rfl
          · exact ⟨by decide, by decide⟩
          · exact ⟨by decide, by decide⟩
        refine ⟨2, by decide, (ct_see hN8 hN t1 t2 hi1 hj1 b (by rw [ei, ej]; exact hs)).weaken ?_⟩
        rintro r h' (⟨q1, q2, q3⟩ | ⟨q1, q2, q3⟩)
        · subst q1
          exact ⟨_, _, q2, q3, done1 (by decide) (ct_mseeF hj hi1 hj1 b hs (t3.trans (by decide))) rfl hI0.up⟩
        · rw [hbb.1] at q3
          have eo : ∀ a k, 9 ≤ a → upI (upI (upI (upI hi (3 + 3) S (nI i)) (3 + 4) S (nI j)) (3 + 5) S b) (3 + 2) 3 (nI (S + 1)) a k = hi a k := fun a k z => by simp (disch := omega) only [upI_h, upI_a']
          have hj2 : MO7 (upI (upI (upI (upI hi (3 + 3) S (nI i)) (3 + 4) S (nI j)) (3 + 5) S b) (3 + 2) 3 (nI (S + 1))) N F := hj.of (eo 53 1 (by decide)) (eo 53 2 (by decide))
          have ev : vm (upI (upI (upI (upI hi (3 + 3) S (nI i)) (3 + 4) S (nI j)) (3 + 5) S b) (3 + 2) 3 (nI (S + 1))) N F = vm hi N F := vm_c (fun a k z => eo a k (by omega))
          refine ⟨_, _, q2, q3, 4, by decide, (ct_msee hj2 hi1 hj1 b (by rw [ev]; exact hs) q1 (by rw [eo 53 18 (by decide)]; exact t3)).weaken ?_⟩
          rw [hbb.2]
          rintro r2 h2 ⟨u2, u3⟩
          refine ⟨_, hl, N, F, u2, u3, ?_⟩
          refine hI0.go ⟨?_, hcase, ⟨?_, ?_⟩, ?_, ?_, ?_, ⟨D, d1, ?_⟩, S + 1, by omega, ?_, ?_, ?_, by omega, ?_⟩ ?_ ?_
          · exact hj2.of (by simp (disch := omega) only [upI_h, upI_a']) (by simp (disch := omega) only [upI_h, upI_a'])
          · simp (disch := omega) only [upI_h, upI_a']
            exact hN
          · simp (disch := omega) only [upI_h, upI_a']
            exact hF
          · rw [w_off (by omega), w_off (by omega), w_off (by omega), w_off (by omega), w_off (by omega), w_off (by omega), w_off (by omega), w_off (by omega), hvw, m_off (by omega), m_off (by omega), m_off (by omega), m_off (by omega), ev]
          · rw [m_off (by omega), m_off (by omega), m_off (by omega), m_off (by omega), ev]
            exact hvi
          · simp (disch := omega) only [upI_h, upI_a']
            exact ⟨s4, s5, s6, s7, s8, s9⟩
          · simp (disch := omega) only [upI_h, upI_a']
            exact d2
          · simp (disch := omega) only [upI_h, upI_a']
          · simp (disch := omega) only [upI_h, upI_a']
          · intro k hk
            by_cases z : k = S
            · subst z
              simp (disch := omega) only [upI_h, upI_a']
              exact ⟨trivial, trivial, trivial⟩
            · simp (disch := omega) only [upI_h, upI_a']
              exact t4 k (by omega)
          · intro k hk
            by_cases z : k = S
            · subst z
              simp (disch := omega) only [upI_h, upI_a']
              exact ⟨⟨j, hj1, rfl⟩, hb⟩
            · simp (disch := omega) only [upI_h, upI_a']
              exact t5.2 k (by omega)
          · intro a k z
            unfold Oth at z
            simp (disch := omega) only [upI_h, upI_a']
          · intro k hk
            by_cases z : k = S
            · subst z
              simp (disch := omega) only [upI_h, upI_a']
              exact hbb.1
            · simp (disch := omega) only [upI_h, upI_a']
              exact hB k hk
    · exact step0 hI0 (by decide) (ct_seeX2 hN8 hN hi1 y b hy) (by decide) (ct_mseeX2 hj hi1 y b hy) rfl
  · exact step0 hI0 (by decide) (ct_seeX1 hN8 hN x y b hx) (by decide) (ct_mseeX1 hj x y b hx) rfl
theorem st_forget (hI : INV n hi N F) : STEP E l mX9_forget mX10_forget [] n hi hl := by
  have hI0 := hI
  obtain ⟨⟨hj, hcase, ⟨hN, hF⟩, hvw, hvi, ⟨s4, s5, s6, s7, s8, s9⟩, ⟨D, d1, d2⟩, S, t1, t2, t3, t4, t5⟩, ⟨hkv, hb3, hb32, hB, hB2⟩, ⟨L, p1, p2, p3, p4⟩, ⟨g1, m0, k0, g2, g3, g4, g5⟩, hkeep⟩ := hI
  have hN8 : N ≤ 8 := hj.1
  have hFN : F ≤ N := hj.2.1
  refine step1 (by decide) ct_forget (done1 (by decide) ct_mforget ?_ (hI0.go8 ⟨hj.of (by simp (disch := omega) only [upI_h, upI_a']) (by simp (disch := omega) only [upI_h, upI_a']), hcase, ⟨?_, ?_⟩, ?_, ?_, ?_, ⟨D, d1, ?_⟩, 0, by omega, ?_, ?_, fun k hk => absurd hk (by omega), by omega, fun k hk => absurd hk (by omega)⟩ ?_ ?_))
  · simp (disch := omega) only [upI_h, upI_a']
    rw [show hi (3 + 2) 3 = nI S from t2, t3]
  · simp (disch := omega) only [upI_h, upI_a']
    exact hN
  · simp (disch := omega) only [upI_h, upI_a']
    exact hF
  · rw [w_off (by omega), w_off (by omega), m_off (by omega), m_off (by omega), hvw]
  · rw [m_off (by omega), m_off (by omega)]
    exact hvi
  · simp (disch := omega) only [upI_h, upI_a']
    exact ⟨s4, s5, s6, s7, s8, s9⟩
  · simp (disch := omega) only [upI_h, upI_a']
    exact d2
  · simp (disch := omega) only [upI_h, upI_a']
    rfl
  · simp (disch := omega) only [upI_h, upI_a']
    rfl
  · intro a k z
    unfold Oth at z
    simp (disch := omega) only [upI_h, upI_a']
  · intro k
    simp (disch := omega) only [upI_h, upI_a']
theorem st_image (hI : INV n hi N F) : STEP E l mX9_image mX10_image [] n hi hl := by
  have hI0 := hI
  obtain ⟨⟨hj, hcase, ⟨hN, hF⟩, hvw, hvi, ⟨s4, s5, s6, s7, s8, s9⟩, ⟨D, d1, d2⟩, S, t1, t2, t3, t4, t5⟩, ⟨hkv, hb3, hb32, hB, hB2⟩, ⟨L, p1, p2, p3, p4⟩, ⟨g1, m0, k0, g2, g3, g4, g5⟩, hkeep⟩ := hI
  have hN8 : N ≤ 8 := hj.1
  have hFN : F ≤ N := hj.2.1
  rcases Nat.eq_zero_or_pos N with hE | hE
  · subst hE
    exact step0 hI0 (by decide) (ct_imageE hN) (by decide) (ct_mimageE hj.2.2.1) rfl
  · have e1 : ∀ k, upI (cwF hi 17 3) 0 5 1 53 k = hi 53 k := fun k => by
      rw [upI_a (by decide)]
      exact if_neg (by omega)
    have im : ∀ a k, ¬ ((17 ≤ a ∧ a ≤ 30) ∨ (a = 0 ∧ k = 5) ∨ (a = 53 ∧ 38 ≤ k ∧ k ≤ 46) ∨ (73 ≤ a ∧ a ≤ 82)) → img hi a k = hi a k := fun a k z => by
      unfold img
      rw [imF_off (by omega), imS_off (by omega)]
      simp (disch := omega) only [upI_h, upI_a']
      exact if_neg (by omega)
    have i2 : img hi 53 38 = 1 := by
      unfold img
      rw [imF_off (by omega)]
      simp [imS, upI]
    have i3 : img hi 53 39 = hi 53 0 := by
      unfold img
      rw [imF_off (by omega)]
      unfold imS
      simp (disch := omega) only [upI_h, upI_a']
      exact if_neg (by omega)
    have i4 : img hi 0 5 = 1 := by
      unfold img
      rw [imF_off (by omega), imS_off (by omega)]
      exact upI_s
    refine step1 (by decide) (ct_image hkv hN8 hN hE hB) (done1 (hi2 := img hi) (N := N) (F := F) (by decide) (ct_mimage (hj.of (e1 1) (e1 2)) hE) ?_ (INV.up ⟨hI0.1.of (fun a k r => img_r hi r), ?_, ?_, ?_, Or.inr ⟨?_, ⟨?_, ?_⟩, hE, hI0.1.of (fun a k r => ?_)⟩⟩))
    · rw [e1, s5]
    · refine ⟨fun p hp => ?_, fun j hj => ?_, fun j hj => ?_, fun k hk => ?_, fun k hk => ?_⟩
      · rcases xo3 hp with z | z | z
        · rw [im p 2 (by omega)]
          exact hkv p hp
        · have hp2 : XO 3 (3 + 6 + (p - 23)) := isC3.p (by omega)
          have e2 : img hi p 2 = hi (3 + 6 + (p - 23)) 2 := by
            unfold img
            rw [imF_off (by omega), imS_off (by omega), upI_a (by omega)]
            have e3 : cwF hi 17 3 p 2 = hi (p + 3 - 17) 2 := if_pos (by omega)
            rw [e3, show p + 3 - 17 = 3 + 6 + (p - 23) by omega]
          rw [e2]
          exact hkv _ hp2
        · rw [im p 2 (by omega)]
          exact hkv p hp
      · rw [im _ 0 (by omega), im _ 1 (by omega)]
        exact hb3 j hj
      · rw [im _ 0 (by omega), im _ 1 (by omega)]
        exact hb32 j hj
      · rw [im 8 k (by omega)]
        exact hB k hk
      · have e2 : img hi 22 k = hi 8 k := by
          unfold img
          rw [imF_off (by omega), imS_off (by omega), upI_a (by omega)]
          exact if_pos (by omega)
        rw [e2]
        exact hB k hk
    · exact ⟨L, p1, by rw [im 1 1 (by omega)]; exact p2, by rw [im 53 22 (by omega)]; exact p3, fun k hk => by rw [im 2 k (by omega), im 66 k (by omega)]; exact p4 k hk⟩
    · exact ⟨by rw [im 0 6 (by omega), im 53 0 (by omega)]; exact g1, m0, m0, Nat.le_refl _, g3, by rw [im 53 0 (by omega)]; exact g4, by rw [i3]; exact g4⟩
    · rw [i4]
      decide
    · rw [i2]
      decide
    · rw [i3, im 53 0 (by omega)]
    · rw [rst_at _ r, img_k hi r]
theorem st_restore (hI : INV n hi N F) : STEP E l mX9_restore mX10_restore [] n hi hl := by
  have hI0 := hI
  obtain ⟨⟨hj, hcase, ⟨hN, hF⟩, hvw, hvi, ⟨s4, s5, s6, s7, s8, s9⟩, ⟨D, d1, d2⟩, S, t1, t2, t3, t4, t5⟩, ⟨hkv, hb3, hb32, hB, hB2⟩, ⟨L, p1, p2, p3, p4⟩, ⟨g1, m0, k0, g2, g3, g4, g5⟩, hkeep⟩ := hI
  have hN8 : N ≤ 8 := hj.1
  have hFN : F ≤ N := hj.2.1
  rcases hkeep with ⟨k1, k2⟩ | ⟨k1, ⟨k2, k3⟩, hE, k4⟩
  · exact step0 hI0 (by decide) (ct_restoreN k1) (by decide) (ct_mrestoreN k2) rfl
  · have e1 : ∀ k, cwF hi 3 17 53 k = hi 53 k := fun k => if_neg (by omega)
    have rs : ∀ a k, ¬ ((3 ≤ a ∧ a ≤ 16) ∨ (a = 53 ∧ 12 ≤ k ∧ k ≤ 18) ∨ (56 ≤ a ∧ a ≤ 65)) → rst hi a k = hi a k := fun a k z => by
      unfold rst
      rw [reF_off (by omega), reS_off (by omega)]
      exact if_neg (by omega)
    refine step1 (by decide) (ct_restore hkv k1 hB2) (done1 (hi2 := rst hi) (N := N) (F := F) (by decide) (ct_mrestore (by rw [e1]; exact k2) (by rw [e1, e1]; exact k3)) ?_ (INV.up ⟨k4, ?_, ?_, ?_, Or.inr ⟨?_, ⟨?_, ?_⟩, hE, kept_of k4 (fun a k r => rst_k hi r)⟩⟩))
    · rw [e1]
      have := k4.2.2.2.2.2.1.2.1
      have r1 : Rel 3 5 := by unfold Rel; omega
      have r2 : Rel 53 13 := by unfold Rel; omega
      rw [rst_at hi r1, rst_at hi r2] at this
      have a1 : ra 3 = 17 := by decide
      have a2 : rk 3 5 = 5 := by decide
      have a3 : ra 53 = 53 := by decide
      have a4 : rk 53 13 = 41 := by decide
      rw [a1, a2, a3, a4] at this
      rw [this]
    · refine ⟨fun p hp => ?_, fun j hj => ?_, fun j hj => ?_, fun k hk => ?_, fun k hk => ?_⟩
      · rcases xo3 hp with z | z | z
        · have hp2 : XO 3 (17 + 6 + (p - 9)) := isC17.p (by omega)
          have e2 : rst hi p 2 = hi (17 + 6 + (p - 9)) 2 := by
            unfold rst
            rw [reF_off (by omega), reS_off (by omega)]
            have e3 : cwF hi 3 17 p 2 = hi (p + 17 - 3) 2 := if_pos (by omega)
            rw [e3, show p + 17 - 3 = 17 + 6 + (p - 9) by omega]
          rw [e2]
          exact hkv _ hp2
        · rw [rs p 2 (by omega)]
          exact hkv p hp
        · rw [rs p 2 (by omega)]
          exact hkv p hp
      · have e2 : ∀ k, k ≤ 1 → rst hi (3 + 6 + j) k = hi (3 + 6 + j) k := fun k hk => by
          unfold rst
          rw [reF_off (by omega), reS_off (by omega)]
          exact if_neg (by omega)
        rw [e2 0 (by decide), e2 1 (by decide)]
        exact hb3 j hj
      · rw [rs _ 0 (by omega), rs _ 1 (by omega)]
        exact hb32 j hj
      · have e2 : rst hi 8 k = hi 22 k := by
          unfold rst
          rw [reF_off (by omega), reS_off (by omega)]
          exact if_pos (by omega)
        rw [e2]
        exact hB2 k hk
      · rw [rs 22 k (by omega)]
        exact hB2 k hk
    · exact ⟨L, p1, by rw [rs 1 1 (by omega)]; exact p2, by rw [rs 53 22 (by omega)]; exact p3, fun k hk => by rw [rs 2 k (by omega), rs 66 k (by omega)]; exact p4 k hk⟩
    · exact ⟨by rw [rs 0 6 (by omega), rs 53 0 (by omega)]; exact g1, m0, k0, g2, g3, by rw [rs 53 0 (by omega)]; exact g4, by rw [rs 53 39 (by omega)]; exact g5⟩
    · rw [rs 0 5 (by omega)]
      exact k1
    · rw [rs 53 38 (by omega)]
      exact k2
    · rw [rs 53 39 (by omega), rs 53 0 (by omega)]
      exact k3
end SC
