/-! ===== the calls that change who was shown to whom ===== -/
section SB
variable {E : XE} {l : Launch} {hi : Nat → Nat → Int32} {hl : Nat → Nat → Int64} {n N F : Nat}
theorem prF_off {c p q a k : Nat} (h : ¬ (a = p ∧ 7 ≤ k ∧ k ≤ 10)) (h2 : ¬ (a = c ∧ (k = 8 ∨ k = 9))) : prF hi c p q a k = hi a k := by
  unfold prF
  split
  · simp (disch := omega) only [upI_h, upI_a']
  · simp (disch := omega) only [upI_h, upI_a']
theorem prF_89 {p q : Nat} (h : p ≠ 3) : prF hi 3 p q 3 8 = (if pRight hi p q (hi 3 4) = true then hi 3 8 + 1 else hi 3 8) ∧ prF hi 3 p q 3 9 = (if pRight hi p q (hi 3 4) = true then hi 3 9 else hi 3 9 + 1) := by
  unfold prF
  split
  · exact ⟨by simp (disch := omega) only [upI_h, upI_a'], by simp (disch := omega) only [upI_h, upI_a']⟩
  · exact ⟨by simp (disch := omega) only [upI_h, upI_a'], by simp (disch := omega) only [upI_h, upI_a']⟩
theorem mShF_45 {i j : Nat} : mShF hi N F i j 53 14 = (if vRight (vm hi N F) i j (hi 53 12) = true then hi 53 14 + 1 else hi 53 14) ∧ mShF hi N F i j 53 15 = (if vRight (vm hi N F) i j (hi 53 12) = true then hi 53 15 else hi 53 15 + 1) := by
  unfold mShF
  split
  · exact ⟨by simp (disch := omega) only [upI_h, upI_a'], by simp (disch := omega) only [upI_h, upI_a']⟩
  · exact ⟨by simp (disch := omega) only [upI_h, upI_a'], by simp (disch := omega) only [upI_h, upI_a']⟩
theorem st_show (hI : INV n hi N F) (x y : Int32) : STEP E l mX9_show mX10_show [.int x, .int y] n hi hl := by
  have hI0 := hI
  obtain ⟨⟨hj, hcase, ⟨hN, hF⟩, hvw, hvi, ⟨s4, s5, s6, s7, s8, s9⟩, ⟨D, d1, d2⟩, S, t1, t2, t3, t4, t5⟩, ⟨hkv, hb3, hb32, hB, hB2⟩, ⟨L, p1, p2, p3, p4⟩, ⟨g1, m0, k0, g2, g3, g4, g5⟩, hkeep⟩ := hI
  have hN8 : N ≤ 8 := hj.1
  have hFN : F ≤ N := hj.2.1
  rcases ix_cases x hN8 with ⟨i, hi1, rfl⟩ | hx
  · rcases ix_cases y hN8 with ⟨j, hj1, rfl⟩ | hy
    · have ec : pCan hi (3 + 6 + i) (3 + 6 + j) = vCan (vm hi N F) i j := by rw [← hvw, w_can hb3 hN8 hi1 hj1]
      have er : pRight hi (3 + 6 + i) (3 + 6 + j) (hi 3 4) = vRight (vm hi N F) i j (hi 53 12) := by rw [← hvw, w_right hb3 hN8 hi1 hj1, s4]
      refine ⟨5, by decide, (ct_show hkv hN8 hN hi1 hj1).weaken ?_⟩
      rintro r h' (⟨q1, q2, q3⟩ | ⟨q1, q2, q3⟩)
      · rw [ec] at q1
        refine ⟨_, _, q2, q3, 6, by decide, (ct_mshow hj hi1 hj1).weaken ?_⟩
        rintro r2 h2 (⟨u1, u2, u3⟩ | ⟨u1, u2, u3⟩)
        · exact ⟨hi, hl, N, F, u2, u3, hI0.up⟩
        · rw [q1] at u1
          cases u1
      · rw [ec] at q1
        have eo : ∀ a k, 17 ≤ a → prF hi 3 (3 + 6 + i) (3 + 6 + j) a k = hi a k := fun a k z => prF_off (by omega) (by omega)
        have hj2 : MO7 (prF hi 3 (3 + 6 + i) (3 + 6 + j)) N F := hj.of (eo 53 1 (by decide)) (eo 53 2 (by decide))
        have ev : vm (prF hi 3 (3 + 6 + i) (3 + 6 + j)) N F = vm hi N F := vm_c (fun a k z => eo a k (by omega))
        have el : prF hi 3 (3 + 6 + i) (3 + 6 + j) 53 12 = hi 53 12 := eo 53 12 (by decide)
        have hb2 : PB (prF hi 3 (3 + 6 + i) (3 + 6 + j)) 3 := hb3.off (fun a k _ _ z => prF_off (by omega) (by omega))
        have ews : vw (prF hi 3 (3 + 6 + i) (3 + 6 + j)) 3 N = vShow (vm hi N F) i j (hi 53 12) := by rw [w_show hb3 hN8 hi1 hj1, hvw, s4]
        refine ⟨_, _, q2, q3, 6, by decide, (ct_mshow hj2 hi1 hj1).weaken ?_⟩
        rintro r2 h2 (⟨u1, u2, u3⟩ | ⟨u1, u2, u3⟩)
        · rw [ev, q1] at u1
          cases u1
        · have ems : vm (mShF (prF hi 3 (3 + 6 + i) (3 + 6 + j)) N F i j) N F = vShow (vm hi N F) i j (hi 53 12) := by rw [m_show hi1, ev, el]
          refine ⟨_, hl, N, F, ?_, u3, ?_⟩
          · rw [u2, ems, ev, el, er, ← w_match hb2 hN8 hi1 hj1, ews]
          · have em := MR.sh (f := prF hi 3 (3 + 6 + i) (3 + 6 + j)) (N := N) (F := F) (i := i) (by omega) j
            have er2 : vRight (vm (prF hi 3 (3 + 6 + i) (3 + 6 + j)) N F) i j (prF hi 3 (3 + 6 + i) (3 + 6 + j) 53 12) = vRight (vm hi N F) i j (hi 53 12) := by rw [ev, el]
            have eg : ∀ a k, ¬ ((9 ≤ a ∧ a ≤ 16) ∧ 7 ≤ k ∧ k ≤ 10) → ¬ (a = 3 ∧ (k = 8 ∨ k = 9)) → ¬ ((58 ≤ a ∧ a ≤ 61) ∧ k < 8) → ¬ (a = 53 ∧ (k = 14 ∨ k = 15)) → mShF (prF hi 3 (3 + 6 + i) (3 + 6 + j)) N F i j a k = hi a k := fun a k z1 z2 z3 z4 => (em a k z3 z4).trans (prF_off (by omega) (by omega))
            refine hI0.go8 (hI0.1.up (v' := vShow (vm hi N F) i j (hi 53 12)) ?_ ems (hvi.show hN8 hi1 hj1 q1 _) ?_ ?_ ?_ ?_ ?_ ?_ ?_ ?_ ?_) ?_ ?_
            · rw [← ews]
              exact vw_c hN8 (fun a k z => em a k (by omega) (by omega))
            · exact eg 53 1 (by omega) (by omega) (by omega) (by omega)
            · exact eg 53 2 (by omega) (by omega) (by omega) (by omega)
            · exact eg 3 3 (by omega) (by omega) (by omega) (by omega)
            · exact eg 3 2 (by omega) (by omega) (by omega) (by omega)
            · exact eg 5 3 (by omega) (by omega) (by omega) (by omega)
            · exact eg 53 18 (by omega) (by omega) (by omega) (by omega)
            · exact fun a k z => eg a k (by omega) (by omega) (by omega) (by omega)
            · rw [eg 3 4 (by omega) (by omega) (by omega) (by omega), eg 3 5 (by omega) (by omega) (by omega) (by omega), eg 3 6 (by omega) (by omega) (by omega) (by omega), eg 3 7 (by omega) (by omega) (by omega) (by omega), eg 53 12 (by omega) (by omega) (by omega) (by omega), eg 53 13 (by omega) (by omega) (by omega) (by omega), eg 53 16 (by omega) (by omega) (by omega) (by omega), eg 53 17 (by omega) (by omega) (by omega) (by omega), em 3 8 (by omega) (by omega), em 3 9 (by omega) (by omega), mShF_45.1, mShF_45.2, er2, (prF_89 (by omega)).1, (prF_89 (by omega)).2, er, eo 53 14 (by omega), eo 53 15 (by omega), s8, s9]
              exact ⟨s4, s5, s6, s7, rfl, rfl⟩
            · exact ⟨D, d1, (eg 53 13 (by omega) (by omega) (by omega) (by omega)).trans d2⟩
            · exact fun a k z => eg a k (by unfold Oth at z; omega) (by unfold Oth at z; omega) (by unfold Oth at z; omega) (by unfold Oth at z; omega)
            · exact fun k => eg 8 k (by omega) (by omega) (by omega) (by omega)
    · exact step0 hI0 (by decide) (ct_showX2 hN8 hN hi1 y hy) (by decide) (ct_mshowX2 hj hi1 y hy) rfl
  · exact step0 hI0 (by decide) (ct_showX1 hN8 hN x y hx) (by decide) (ct_mshowX1 hj x y hx) rfl
theorem mBkF_off {i j a k : Nat} (h : ¬ ((a = 58 ∨ a = 59) ∧ k = i)) (h2 : ¬ (a = 53 ∧ k = 16)) : mBkF hi i j a k = hi a k := by
  unfold mBkF
  simp (disch := omega) only [upI_h, upI_a']
theorem m_bk {i j : Nat} (h : i < N) : vm (mBkF hi i j) N F = bkV (vm hi N F) i j := by
  unfold mBkF bkV
  rw [m_off (by omega), m_up (s := 8) (a := 59) h (by decide) (by decide) (by decide) rfl, m_up (s := 7) (a := 58) h (by decide) (by decide) (by decide) rfl, m_7 h, m_8 h]
theorem st_back (hI : INV n hi N F) (x y : Int32) : STEP E l mX9_back mX10_back [.int x, .int y] n hi hl := by
  have hI0 := hI
  obtain ⟨⟨hj, hcase, ⟨hN, hF⟩, hvw, hvi, ⟨s4, s5, s6, s7, s8, s9⟩, ⟨D, d1, d2⟩, S, t1, t2, t3, t4, t5⟩, ⟨hkv, hb3, hb32, hB, hB2⟩, ⟨L, p1, p2, p3, p4⟩, ⟨g1, m0, k0, g2, g3, g4, g5⟩, hkeep⟩ := hI
  have hN8 : N ≤ 8 := hj.1
  have hFN : F ≤ N := hj.2.1
  rcases ix_cases x hN8 with ⟨i, hi1, rfl⟩ | hx
  · rcases ix_cases y hN8 with ⟨j, hj1, rfl⟩ | hy
    · have ec : pShown hi (3 + 6 + i) (3 + 6 + j) = vShown (vm hi N F) i j := by rw [← hvw, w_shown hb3 hN8 hi1 hj1]
      have e11 : hi (3 + 6 + i) 11 = vm hi N F 11 i := CORE.at hvw hi1 (by decide) (by decide)
      have e0 : hi (3 + 6 + j) 0 = nI j := (hb3 j (by omega)).1
      have e1 : hi (3 + 6 + j) 1 = bitI j := (hb3 j (by omega)).2
      have ew : pWent hi (3 + 6 + i) (3 + 6 + j) = vWent (vm hi N F) i j := by rw [← hvw, w_went hb3 hN8 hi1 hj1]
      refine ⟨3, by decide, (ct_back hN8 hN hi1 hj1).weaken ?_⟩
      rw [ec, e11, e0, e1, ew]
      rintro r h' (⟨q1, q2, q3⟩ | ⟨⟨q0, q1⟩, q2, q3⟩)
      · refine ⟨_, _, q2, q3, 4, by decide, (ct_mback hj hi1 hj1).weaken ?_⟩
        rintro r2 h2 (⟨u1, u2, u3⟩ | ⟨⟨u0, u1⟩, u2, u3⟩)
        · exact ⟨hi, hl, N, F, u2, u3, hI0.up⟩
        · rcases q1 with q1 | q1
          · rw [q1] at u0
            cases u0
          · exact absurd q1 u1
      · have hj2 : MO7 (upI (upI (upI hi (3 + 6 + i) 7 (hi (3 + 6 + i) 7 &&& (bitI j ^^^ -1))) (3 + 6 + i) 8 (hi (3 + 6 + i) 8 &&& (bitI j ^^^ -1))) 3 6 (hi 3 6 + 1)) N F := hj.of (by simp (disch := omega) only [upI_h, upI_a']) (by simp (disch := omega) only [upI_h, upI_a'])
        have ev : vm (upI (upI (upI hi (3 + 6 + i) 7 (hi (3 + 6 + i) 7 &&& (bitI j ^^^ -1))) (3 + 6 + i) 8 (hi (3 + 6 + i) 8 &&& (bitI j ^^^ -1))) 3 6 (hi 3 6 + 1)) N F = vm hi N F := vm_c (fun a k z => by simp (disch := omega) only [upI_h, upI_a'])
        refine ⟨_, _, q2, q3, 4, by decide, (ct_mback hj2 hi1 hj1).weaken ?_⟩
        rw [ev]
        rintro r2 h2 (⟨u1, u2, u3⟩ | ⟨⟨u0, u1⟩, u2, u3⟩)
        · rcases u1 with u1 | u1
          · rw [q0] at u1
            cases u1
          · exact absurd u1 q1
        · refine ⟨_, hl, N, F, u2, u3, ?_⟩
          refine hI0.go8 (hI0.1.up (v' := bkV (vm hi N F) i j) ?_ ?_ (hvi.bk hN8 hi1 hj1 q1) ?_ ?_ ?_ ?_ ?_ ?_ ?_ ?_ ?_) ?_ ?_
          · rw [vw_c (f := upI (upI (upI hi (3 + 6 + i) 7 (hi (3 + 6 + i) 7 &&& (bitI j ^^^ -1))) (3 + 6 + i) 8 (hi (3 + 6 + i) 8 &&& (bitI j ^^^ -1))) 3 6 (hi 3 6 + 1)) hN8 (fun a k z => mBkF_off (by omega) (by omega)), w_off (by omega), w_up hi1 (by decide) (by decide), w_up hi1 (by decide) (by decide), hvw, CORE.at hvw hi1 (by decide) (by decide), CORE.at hvw hi1 (by decide) (by decide)]
            rfl
          · rw [m_bk hi1, ev]
          · rw [mBkF_off (by omega) (by omega)]; simp (disch := omega) only [upI_h, upI_a']
          · rw [mBkF_off (by omega) (by omega)]; simp (disch := omega) only [upI_h, upI_a']
          · rw [mBkF_off (by omega) (by omega)]; simp (disch := omega) only [upI_h, upI_a']
          · rw [mBkF_off (by omega) (by omega)]; simp (disch := omega) only [upI_h, upI_a']
          · rw [mBkF_off (by omega) (by omega)]; simp (disch := omega) only [upI_h, upI_a']
          · rw [mBkF_off (by omega) (by omega)]; simp (disch := omega) only [upI_h, upI_a']
          · intro a k z
            rw [mBkF_off (by omega) (by omega)]; simp (disch := omega) only [upI_h, upI_a']
          · unfold mBkF
            simp (disch := omega) only [upI_h, upI_a']
            rw [s6]
            exact ⟨s4, s5, rfl, s7, s8, s9⟩
          · refine ⟨D, d1, ?_⟩
            rw [mBkF_off (by omega) (by omega)]; simp (disch := omega) only [upI_h, upI_a']
            exact d2
          · intro a k z
            unfold Oth at z
            rw [mBkF_off (by omega) (by omega)]; simp (disch := omega) only [upI_h, upI_a']
          · intro k
            rw [mBkF_off (by omega) (by omega)]; simp (disch := omega) only [upI_h, upI_a']
    · exact step0 hI0 (by decide) (ct_backX2 hN8 hN hi1 y hy) (by decide) (ct_mbackX2 hj hi1 y hy) rfl
  · exact step0 hI0 (by decide) (ct_backX1 hN8 hN x y hx) (by decide) (ct_mbackX1 hj x y hx) rfl
theorem sd_off {g : Nat → Nat → Int32} {c M a k : Nat} (h : ¬ (c + 6 ≤ a ∧ a < c + 6 + M ∧ k = 10)) : sdF g c M a k = g a k := if_neg h
theorem st_day (hI : INV n hi N F) : STEP E l mX9_day mX10_day [] n hi hl := by
  have hI0 := hI
  obtain ⟨⟨hj, hcase, ⟨hN, hF⟩, hvw, hvi, ⟨s4, s5, s6, s7, s8, s9⟩, ⟨D, d1, d2⟩, S, t1, t2, t3, t4, t5⟩, ⟨hkv, hb3, hb32, hB, hB2⟩, ⟨L, p1, p2, p3, p4⟩, ⟨g1, m0, k0, g2, g3, g4, g5⟩, hkeep⟩ := hI
  have hN8 : N ≤ 8 := hj.1
  have hFN : F ≤ N := hj.2.1
  rcases Nat.eq_zero_or_pos N with hE | hE
  · subst hE
    exact step0 hI0 (by decide) (ct_dayE hN) (by decide) (ct_mdayE hj.2.2.1) rfl
  · have hlt : hi 3 5 < 99 ↔ D < 99 := by rw [s5, d2]; exact nI_ltI (b := 99) (by omega) (by decide)
    refine ⟨2, by decide, (ct_day hN8 hN hE).weaken ?_⟩
    rintro r h' (⟨q1, q2, q3⟩ | ⟨q1, q2, q3⟩)
    · rw [hlt] at q1
      refine ⟨_, _, q2, q3, done1 (by decide) (ct_mdayF hj hE ?_) rfl hI0.up⟩
      rw [d2, show D = 99 by omega]
      rfl
    · rw [hlt] at q1
      have eo : ∀ a k, 17 ≤ a → sdF (upI hi 3 5 (hi 3 5 + 1)) 3 N a k = hi a k := fun a k z => by rw [sd_off (by omega)]; simp (disch := omega) only [upI_h, upI_a']
      have hj2 : MO7 (sdF (upI hi 3 5 (hi 3 5 + 1)) 3 N) N F := hj.of (eo 53 1 (by decide)) (eo 53 2 (by decide))
      have ev : vm (sdF (upI hi 3 5 (hi 3 5 + 1)) 3 N) N F = vm hi N F := vm_c (fun a k z => eo a k (by omega))
      refine ⟨_, _, q2, q3, done1 (by decide) (ct_mday hj2 hE ?_) ?_ (hI0.go8 (hI0.1.up (v' := sdV (vm hi N F) N) ?_ ?_ (hvi.cg (fun s a _ z => if_neg (by omega))) ?_ ?_ ?_ ?_ ?_ ?_ ?_ ?_ ?_) ?_ ?_)⟩
      · rw [eo 53 13 (by decide), d2]
        exact fun z => absurd ((nI_eq (b := 99) (by omega) (by decide)).mp z) (by omega)
      · rw [eo 53 13 (by decide), s5]
      · rw [vw_c (f := sdF (upI hi 3 5 (hi 3 5 + 1)) 3 N) hN8 (fun a k z => by simp (disch := omega) only [upI_h, upI_a']; exact md_off (by omega) k), w_sd, w_off (by omega), hvw]
      · rw [m_off (by omega), m_md, ev]
      · simp (disch := omega) only [upI_h, upI_a']; rw [md_off (by omega)]; exact eo 53 1 (by decide)
      · simp (disch := omega) only [upI_h, upI_a']; rw [md_off (by omega)]; exact eo 53 2 (by decide)
      · simp (disch := omega) only [upI_h, upI_a']; rw [md_off (by omega), sd_off (by omega)]; simp (disch := omega) only [upI_h, upI_a']
      · simp (disch := omega) only [upI_h, upI_a']; rw [md_off (by omega), sd_off (by omega)]; simp (disch := omega) only [upI_h, upI_a']
      · simp (disch := omega) only [upI_h, upI_a']; rw [md_off (by omega), sd_off (by omega)]; simp (disch := omega) only [upI_h, upI_a']
      · simp (disch := omega) only [upI_h, upI_a']; rw [md_off (by omega)]; exact eo 53 18 (by decide)
      · intro a k z
        simp (disch := omega) only [upI_h, upI_a']; rw [md_off (by omega), sd_off (by omega)]; simp (disch := omega) only [upI_h, upI_a']
      · simp (disch := omega) only [upI_h, upI_a']
        rw [md_off (by omega), md_off (by omega), md_off (by omega), md_off (by omega), md_off (by omega), md_off (by omega), md_off (by omega), md_off (by omega), md_off (by omega), md_off (by omega), md_off (by omega), eo 53 12 (by decide), eo 53 13 (by decide), eo 53 14 (by decide), eo 53 15 (by decide), eo 53 16 (by decide), eo 53 17 (by decide), sd_off (by omega), sd_off (by omega), sd_off (by omega), sd_off (by omega), sd_off (by omega), sd_off (by omega)]
        simp (disch := omega) only [upI_h, upI_a']
        rw [s5]
        exact ⟨s4, rfl, s6, s7, s8, s9⟩
      · refine ⟨D + 1, by omega, ?_⟩
        simp (disch := omega) only [upI_h, upI_a']
        rw [eo 53 13 (by decide), d2, nI_1]
      · intro a k z
        unfold Oth at z
        simp (disch := omega) only [upI_h, upI_a']
        by_cases z2 : a ≤ 16
        · rw [md_off (by omega), sd_off (by omega)]; simp (disch := omega) only [upI_h, upI_a']
        · rw [md_off (by omega)]; exact eo a k (by omega)
      · intro k
        simp (disch := omega) only [upI_h, upI_a']; rw [md_off (by omega), sd_off (by omega)]; simp (disch := omega) only [upI_h, upI_a']
end SB
