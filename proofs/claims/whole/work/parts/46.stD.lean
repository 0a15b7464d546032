/-! ===== the calls that only ask ===== -/
section SD
variable {E : XE} {l : Launch} {hi : Nat → Nat → Int32} {hl : Nat → Nat → Int64} {n N F : Nat}
theorem st_mutual (hI : INV n hi N F) : STEP E l mX9_mutual mX10_mutual [] n hi hl := by
  have hI0 := hI
  obtain ⟨⟨hj, hcase, ⟨hN, hF⟩, hvw, hvi, ⟨s4, s5, s6, s7, s8, s9⟩, ⟨D, d1, d2⟩, S, t1, t2, t3, t4, t5⟩, ⟨hkv, hb3, hb32, hB, hB2⟩, ⟨L, p1, p2, p3, p4⟩, ⟨g1, m0, k0, g2, g3, g4, g5⟩, hkeep⟩ := hI
  have hN8 : N ≤ 8 := hj.1
  have hFN : F ≤ N := hj.2.1
  rcases Nat.eq_zero_or_pos N with hE | hE
  · subst hE
    exact step0 hI0 (by decide) (ct_mutualE hN) (by decide) (ct_mmutualE hj.2.2.1) rfl
  · exact step0 hI0 (by decide) (ct_mutual hkv hN8 hN (F := F) (by omega) hF hE) (by decide) (ct_mmutual hj hE) (mutual_eq hvw hvi hb3 hN8 hFN)
theorem INV.tx {f g : Nat → Nat → Int32} (h : INV n f N F) (q : TX f g) : INV n g N F := h.scr (fun a k z => q.1 a k (by unfold Scr at z; omega)) q.2.1 q.2.2
theorem INV.dc {f g : Nat → Nat → Int32} (h : INV n f N F) (q : DC f g) : INV n g N F := h.scr (fun a k z => q.1 a k (by unfold Scr at z; omega)) q.2.1 q.2.2
theorem INV.cx {f g : Nat → Nat → Int32} (h : INV n f N F) (q : CX f g) : INV n g N F := h.scrm (fun a k z => q a k (by omega) (by omega))
theorem INV.dm {f g : Nat → Nat → Int32} (h : INV n f N F) (q : DM f g) : INV n g N F := h.scrm (fun a k z => q a k (by omega) (by omega))
theorem INV.lm {f g : Nat → Nat → Int32} (h : INV n f N F) (q : LM f g) : INV n g N F := h.scrm (fun a k z => q a k (by omega) (by omega) (by omega))
theorem st_comes (hI : INV n hi N F) (x y z : Int32) : STEP E l mX9_comes mX10_comes [.int x, .int y, .int z] n hi hl := by
  have hI0 := hI
  obtain ⟨⟨hj, hcase, ⟨hN, hF⟩, hvw, hvi, ⟨s4, s5, s6, s7, s8, s9⟩, ⟨D, d1, d2⟩, S, t1, t2, t3, t4, t5⟩, ⟨hkv, hb3, hb32, hB, hB2⟩, ⟨L, p1, p2, p3, p4⟩, ⟨g1, m0, k0, g2, g3, g4, g5⟩, hkeep⟩ := hI
  have hN8 : N ≤ 8 := hj.1
  have hFN : F ≤ N := hj.2.1
  cases hx : (!decide (x < 1) && !decide (8 < x)) with
  | false => exact step0 hI0 (by decide) (ct_comesX1 x y z hx) (by decide) (ct_mcomesX1 x y z hx) rfl
  | true =>
    cases hy : (!decide (y < 1) && !decide (9 < y)) with
    | false => exact step0 hI0 (by decide) (ct_comesX2 x y z hx hy) (by decide) (ct_mcomesX2 x y z hx hy) rfl
    | true =>
      cases hz : (!decide (z < 0) && !decide (1 < z)) with
      | false => exact step0 hI0 (by decide) (ct_comesX3 x y z hx hy hz) (by decide) (ct_mcomesX3 x y z hx hy hz) rfl
      | true =>
        rcases Nat.eq_zero_or_pos N with hE | hE
        · subst hE
          exact step0 hI0 (by decide) (ct_comesE x y z hx hy hz hN) (by decide) (ct_mcomesE x y z hx hy hz hj.2.2.1) rfl
        · obtain ⟨T, T1, T2, rfl⟩ := rg (a := 1) (b := 8) (by decide) (by decide) hx
          refine ⟨8, by decide, (ct_comes hkv hb3 hb32 hN8 hFN hN hF hB (D := T) (by omega) y z hx hy hz hE).weaken ?_⟩
          rintro r h' ⟨hf, q1, q2, q3⟩
          have hI1 := hI0.tx q3
          refine ⟨_, _, q1, q2, 9, by decide, (ct_mcomes hI1.1.1 (D := T) (by omega) y z hx hy hz hE).weaken ?_⟩
          rintro r2 h2 ⟨hf2, u1, u2, u3⟩
          have ev : vm hf N F = vm hi N F := vm_c (fun a k w => q3.1 a k (by omega))
          exact ⟨hf2, hl, N, F, by rw [u1, ev, hvw, mv_mc _ hN8 hFN T1], u2, (hI1.cx u3).up⟩
theorem st_best (hI : INV n hi N F) (x z : Int32) : STEP E l mX9_best mX10_best [.int x, .int z] n hi hl := by
  have hI0 := hI
  obtain ⟨⟨hj, hcase, ⟨hN, hF⟩, hvw, hvi, ⟨s4, s5, s6, s7, s8, s9⟩, ⟨D, d1, d2⟩, S, t1, t2, t3, t4, t5⟩, ⟨hkv, hb3, hb32, hB, hB2⟩, ⟨L, p1, p2, p3, p4⟩, ⟨g1, m0, k0, g2, g3, g4, g5⟩, hkeep⟩ := hI
  have hN8 : N ≤ 8 := hj.1
  have hFN : F ≤ N := hj.2.1
  cases hx : (!decide (x < 1) && !decide (8 < x)) with
  | false => exact step0 hI0 (by decide) (ct_bestX1 x z hx) (by decide) (ct_mbestX1 x z hx) rfl
  | true =>
    cases hz : (!decide (z < 0) && !decide (1 < z)) with
    | false => exact step0 hI0 (by decide) (ct_bestX3 x z hx hz) (by decide) (ct_mbestX3 x z hx hz) rfl
    | true =>
      rcases Nat.eq_zero_or_pos N with hE | hE
      · subst hE
        exact step0 hI0 (by decide) (ct_bestE x z hx hz hN) (by decide) (ct_mbestE x z hx hz hj.2.2.1) rfl
      · obtain ⟨T, T1, T2, rfl⟩ := rg (a := 1) (b := 8) (by decide) (by decide) hx
        refine ⟨9, by decide, (ct_best hkv hb3 hb32 hN8 hFN hN hF hB (D := T) (by omega) z hx hz hE).weaken ?_⟩
        rintro r h' ⟨hf, q1, q2, q3⟩
        have hI1 := hI0.tx q3
        refine ⟨_, _, q1, q2, 10, by decide, (ct_mbest hI1.1.1 (D := T) (by omega) z hx hz hE).weaken ?_⟩
        rintro r2 h2 ⟨hf2, u1, u2, u3⟩
        have ev : vm hf N F = vm hi N F := vm_c (fun a k w => q3.1 a k (by omega))
        exact ⟨hf2, hl, N, F, by rw [u1, ev, hvw, bl_best _ hN8 hFN T1], u2, (hI1.cx u3).up⟩
theorem lastk (x : Int32) : (∃ k : Nat, (k < 2 ∨ (10 ≤ k ∧ k < 14)) ∧ x = nI k) ∨ ((decide (x = 0) || (decide (x = 1) || (!decide (x < 10) && !decide (13 < x)))) = false ∧ (!decide (x < 0) && !decide (1 < x)) = false ∧ (!decide (x < 10) && !decide (13 < x)) = false) := by
  cases h1 : (!decide (x < 0) && !decide (1 < x)) with
  | true =>
    obtain ⟨k, -, k2, rfl⟩ := rg (a := 0) (b := 1) (by decide) (by decide) h1
    exact Or.inl ⟨k, by omega, rfl⟩
  | false =>
    cases h2 : (!decide (x < 10) && !decide (13 < x)) with
    | true =>
      obtain ⟨k, k1, k2, rfl⟩ := rg (a := 10) (b := 13) (by decide) (by decide) h2
      exact Or.inl ⟨k, by omega, rfl⟩
    | false =>
      refine Or.inr ⟨?_, rfl, rfl⟩
      have n0 : ¬ x = 0 := fun q => by
        subst q
        exact absurd h1 (by decide)
      have n1 : ¬ x = 1 := fun q => by
        subst q
        exact absurd h1 (by decide)
      simp [n0, n1]
theorem ct_lastC (hkv : KV hi) (hb3 : PB hi 3) (hb32 : PB hi 32) (hN8 : N ≤ 8) (hFN : F ≤ N) (hF4 : F ≤ 4) (hN : hi 3 3 = nI N) (hF : hi 3 2 = nI F) (hsd : ∀ k, k < N → hi (3 + 6 + k) 3 = bI (decide (F ≤ k))) (hE : 0 < N) {k : Nat} (hk : k < 2 ∨ (10 ≤ k ∧ k < 14)) : MC E l 10 mX9_lasting [.ref 0, .int (nI k)] 83 (hi, hl, RT) 0 0 (fun r h' => ∃ hf K, r = some (.int (ltV (lsF (vw hi 3 N) N F K) k)) ∧ h' = (hf, hl, RT) ∧ DC hi hf ∧ RK (vw hi 3 N) N K) := by
  have : k = 0 ∨ k = 1 ∨ ∃ j, j < 4 ∧ k = 10 + j := by
    rcases hk with hk | hk
    · omega
    · exact Or.inr (Or.inr ⟨k - 10, by omega, by omega⟩)
  rcases this with rfl | rfl | ⟨j, hj, rfl⟩
  · exact ct_lasting0 hkv hb3 hb32 hN8 hFN hF4 hN hF hsd hE
  · exact ct_lasting1 hkv hb3 hb32 hN8 hFN hF4 hN hF hsd hE
  · exact ct_lastingK hkv hb3 hb32 hN8 hFN hF4 hN hF hsd hE hj
theorem st_lasting (hI : INV n hi N F) (x : Int32) : STEP E l mX9_lasting mX10_lasting [.int x] n hi hl := by
  have hI0 := hI
  obtain ⟨⟨hj, hcase, ⟨hN, hF⟩, hvw, hvi, ⟨s4, s5, s6, s7, s8, s9⟩, ⟨D, d1, d2⟩, S, t1, t2, t3, t4, t5⟩, ⟨hkv, hb3, hb32, hB, hB2⟩, ⟨L, p1, p2, p3, p4⟩, ⟨g1, m0, k0, g2, g3, g4, g5⟩, hkeep⟩ := hI
  have hN8 : N ≤ 8 := hj.1
  have hFN : F ≤ N := hj.2.1
  rcases lastk x with ⟨k, hk, rfl⟩ | ⟨x1, x2, x3⟩
  · rcases Nat.eq_zero_or_pos N with hE | hE
    · subst hE
      have c1 : (decide (nI k = 0) || (decide (nI k = 1) || (!decide (nI k < 10) && !decide ((13 : Int32) < nI k)))) = true := by
        have : ∀ k, k < 14 → (k < 2 ∨ (10 ≤ k ∧ k < 14)) → (decide (nI k = 0) || (decide (nI k = 1) || (!decide (nI k < 10) && !decide ((13 : Int32) < nI k)))) = true := by decide
        exact this k (by omega) hk
      exact step0 hI0 (by decide) (ct_lastingE _ c1 hN) (by decide) (ct_mlastingE _ (wk_in hk) hj.2.2.1) rfl
    · have hc : 0 < F ∧ F < N ∧ F ≤ 4 := by omega
      have hsd : ∀ k, k < N → hi (3 + 6 + k) 3 = bI (decide (F ≤ k)) := fun k hk => by rw [CORE.at hvw hk (by decide) (by decide)]; exact hvi.1 k hk
      obtain ⟨n1, s', hrun, heq⟩ := lasting_eq hN8 hc.2.1 hc.2.2 hvi.1
      refine ⟨10, by decide, (ct_lastC hkv hb3 hb32 hN8 hFN hc.2.2 hN hF hsd hE hk).weaken ?_⟩
      rintro r h' ⟨hf, K, q1, q2, q3, q4⟩
      have hI1 := hI0.dc q3
      have ev : vm hf N F = vm hi N F := vm_c (fun a k w => q3.1 a k (by omega))
      refine ⟨_, _, q1, q2, 10, by decide, (ct_mlasting hI1.1.1 hc.2.2 hc.2.1 (n := n1) (s' := s') (by rw [ev]; exact hrun) hk).weaken ?_⟩
      rintro r2 h2 ⟨hf2, u1, u2, u3⟩
      rw [hvw] at q4
      exact ⟨hf2, hl, N, F, by rw [u1, hvw, heq K q4 k hk], u2, (hI1.lm u3).up⟩
  · exact step0 hI0 (by decide) (ct_lastingX x x1) (by decide) (ct_mlastingX x x2 x3) rfl
theorem st_waiting (hI : INV n hi N F) (x y z : Int32) : STEP E l mX9_waiting mX10_waiting [.int x, .int y, .int z] n hi hl := by
  cases hx : (!decide (x < 2) && !decide (8 < x)) with
  | false => exact step0 hI (by decide) (ct_waitingX1 x y z hx) (by decide) (ct_mwaitingX1 x y z hx) rfl
  | true =>
    cases hy : (!decide (y < 0) && !decide (x - 1 < y)) with
    | false => exact step0 hI (by decide) (ct_waitingX2 x y z hx hy) (by decide) (ct_mwaitingX2 x y z hx hy) rfl
    | true =>
      cases hz : (!decide (z < 0) && !decide (1 < z)) with
      | false => exact step0 hI (by decide) (ct_waitingX3 x y z hx hy hz) (by decide) (ct_mwaitingX3 x y z hx hy hz) rfl
      | true =>
        obtain ⟨O, O1, O2, rfl⟩ := rg (a := 2) (b := 8) (by decide) (by decide) hx
        have hb : ∃ b : Nat, b < O ∧ y = nI b := by
          have e1 : nI O - 1 = nI (O - 1) := by
            have := nI_pred (O - 1)
            rw [show O - 1 + 1 = O by omega] at this
            exact this
          have hy2 := hy
          rw [e1] at hy2
          obtain ⟨b, -, b2, rfl⟩ := rg (a := 0) (b := O - 1) (by decide) (by omega) hy2
          exact ⟨b, by omega, rfl⟩
        obtain ⟨b, b1, rfl⟩ := hb
        obtain ⟨w1, w2, w3⟩ := wait_all O (by omega) b b1 O1
        refine step0 hI (by decide) (ct_waiting O2 (by omega) (by omega) z hx hy hz) (by decide) (ct_mwaiting O2 (by omega) z hx hy hz w2 (gdR_ne _ _)) ?_
        rw [w1, w3]
        split <;> rfl
theorem st_howMany (hI : INV n hi N F) (x : Int32) : STEP E l mX9_howMany mX10_howMany [.int x] n hi hl := by
  cases hx : (!decide (x < 2) && !decide (8 < x)) with
  | false => exact step0 hI (by decide) (ct_howManyX x hx) (by decide) (ct_mhowManyX x hx) rfl
  | true =>
    obtain ⟨O, O1, O2, rfl⟩ := rg (a := 2) (b := 8) (by decide) (by decide) hx
    exact step0 hI (by decide) (ct_howMany O2 (by omega) hx) (by decide) (ct_mhowMany O2 (by omega) hx) (by rw [many_all O (by omega) O1])
theorem st_seasons (hI : INV n hi N F) (x y z : Int32) : STEP E l mX9_seasons mX10_seasons [.int x, .int y, .int z] n hi hl := by
  have hI0 := hI
  obtain ⟨⟨hj, hcase, ⟨hN, hF⟩, hvw, hvi, ⟨s4, s5, s6, s7, s8, s9⟩, ⟨D, d1, d2⟩, S, t1, t2, t3, t4, t5⟩, ⟨hkv, hb3, hb32, hB, hB2⟩, ⟨L, p1, p2, p3, p4⟩, ⟨g1, m0, k0, g2, g3, g4, g5⟩, hkeep⟩ := hI
  have hN8 : N ≤ 8 := hj.1
  have hFN : F ≤ N := hj.2.1
  cases hx : (!decide (x < 1) && !decide (60 < x)) with
  | false => exact step0 hI0 (by decide) (ct_seasonsX1 x y z hx) (by decide) (ct_mseasonsX1 x y z hx) rfl
  | true =>
    by_cases hy : y < 0
    · exact step0 hI0 (by decide) (ct_seasonsX2 x y z hx hy) (by decide) (ct_mseasonsX2 x y z hx hy) rfl
    · cases hz : (!decide (z < 0) && !decide (2 < z)) with
      | false => exact step0 hI0 (by decide) (ct_seasonsX3 x y z hx hy hz) (by decide) (ct_mseasonsX3 x y z hx hy hz) rfl
      | true =>
        rcases Nat.eq_zero_or_pos N with hE | hE
        · subst hE
          exact step0 hI0 (by decide) (ct_seasonsE x y z hx hy hz hN) (by decide) (ct_mseasonsE x y z hx hy hz hj.2.2.1) rfl
        · have hc : 0 < F ∧ F < N ∧ F ≤ 4 := by omega
          obtain ⟨T, T1, T2, rfl⟩ := rg (a := 1) (b := 60) (by decide) (by decide) hx
          refine step1 (by decide) (ct_seasons hkv hN8 hc.1 hc.2.1 hN hF (T := T) (by omega) y z hx hy hz) ⟨6, by decide, (ct_mseasons hj hc.1 hc.2.1 (T := T) (by omega) y z hx hy hz).weaken ?_⟩
          rintro r2 h2 ⟨hlf, u1, u2⟩
          exact ⟨hi, hlf, N, F, by rw [u1, hvw, seasons_eq hvi hN8 hc.1 hc.2.1], u2, hI0.up⟩
theorem ct_cntC (hkv : KV hi) (hN8 : N ≤ 8) (hN : hi 3 3 = nI N) (hF8 : F ≤ 8) (hF : hi 3 2 = nI F) (S k : Nat) (hk : k < 15) : MC E l 8 mX9_count [.ref 0, .int (nI k)] 83 (hi, hl, RT) 0 0 (fun r h' => r = some (.int (ctC hi N F S k)) ∧ h' = (hi, hl, RT)) := by
  by_cases h13 : k = 13
  · subst h13
    exact ct_count13
  · by_cases h14 : k = 14
    · subst h14
      exact ct_count14
    · unfold ctC
      rw [if_neg h13, if_neg h14]
      exact ct_count hkv hN8 hN hF8 hF S k (by omega)
theorem st_count (hI : INV n hi N F) (x : Int32) : STEP E l mX9_count mX10_count [.int x] n hi hl := by
  have hI0 := hI
  obtain ⟨⟨hj, hcase, ⟨hN, hF⟩, hvw, hvi, ⟨s4, s5, s6, s7, s8, s9⟩, ⟨D, d1, d2⟩, S, t1, t2, t3, t4, t5⟩, ⟨hkv, hb3, hb32, hB, hB2⟩, ⟨L, p1, p2, p3, p4⟩, ⟨g1, m0, k0, g2, g3, g4, g5⟩, hkeep⟩ := hI
  have hN8 : N ≤ 8 := hj.1
  have hFN : F ≤ N := hj.2.1
  rcases rgo (x := x) (b := 14) (by decide) with ⟨k, hk, rfl⟩ | hx
  · exact step0 hI0 (by decide) (ct_cntC hkv hN8 hN (F := F) (by omega) hF S k hk) (by decide) (ct_mcount hj t5 t3 k hk) (tell_eq hvw hvi hb3 hN8 hFN S (hF.trans hj.2.2.2.symm) (hN.trans hj.2.2.1.symm) s8 s9 s4 s5 s6 s7 (t2.trans t3.symm) (p2.trans p3.symm) g1 k hk)
  · exact step0 hI0 (by decide) (ct_countX x hx) (by decide) (ct_mcountX x hx) rfl
theorem st_digest (hI : INV n hi N F) : STEPL E l mX9_digest mX10_digest [] n hi hl := by
  have hI0 := hI
  obtain ⟨⟨hj, hcase, ⟨hN, hF⟩, hvw, hvi, ⟨s4, s5, s6, s7, s8, s9⟩, ⟨D, d1, d2⟩, S, t1, t2, t3, t4, t5⟩, ⟨hkv, hb3, hb32, hB, hB2⟩, ⟨L, p1, p2, p3, p4⟩, ⟨g1, m0, k0, g2, g3, g4, g5⟩, hkeep⟩ := hI
  have hN8 : N ≤ 8 := hj.1
  have hFN : F ≤ N := hj.2.1
  have hcnt : ∀ k, k < 15 → ctC hi N F S k = hmN hi N F k := fun k hk => tell_eq hvw hvi hb3 hN8 hFN S (hF.trans hj.2.2.2.symm) (hN.trans hj.2.2.1.symm) s8 s9 s4 s5 s6 s7 (t2.trans t3.symm) (p2.trans p3.symm) g1 k hk
  have hpg : ∀ k, k < L → lAt hi (nI k) = hi 66 k := fun k hk => by rw [lat_a p1 p2 p4 (by omega), if_pos hk]
  rcases Nat.eq_zero_or_pos N with hE | hE
  · refine ⟨12, by decide, (ct_digest0 hkv hN8 (F := F) (by omega) hN hF t1 t2 p1 p2 hb32 hE).weaken ?_⟩
    rintro r h' ⟨q1, q2⟩
    refine ⟨_, _, q1, q2, 12, by decide, (ct_mdigest0 hj t5 t3 p1 p3 hE).weaken ?_⟩
    rintro r2 h2 ⟨hf2, hlf, u1, u2, u3⟩
    exact ⟨hf2, hlf, N, F, by rw [u1, mxF_congr hcnt, mxF_congr hpg], u2, (hI0.dm u3).up⟩
  · have hc : 0 < F ∧ F < N ∧ F ≤ 4 := by omega
    have hsd : ∀ k, k < N → hi (3 + 6 + k) 3 = bI (decide (F ≤ k)) := fun k hk => by rw [CORE.at hvw hk (by decide) (by decide)]; exact hvi.1 k hk
    obtain ⟨n1, s', hrun, heq⟩ := lasting_eq hN8 hc.2.1 hc.2.2 hvi.1
    refine ⟨12, by decide, (ct_digest hkv hb3 hb32 hN8 hFN hc.2.2 hN hF hsd t1 t2 p1 p2 hB hE).weaken ?_⟩
    rintro r h' ⟨hf, K, q1, q2, q3, q4⟩
    have hI1 := hI0.dc q3
    have ev : vm hf N F = vm hi N F := vm_c (fun a k w => q3.1 a k (by omega))
    have eo : ∀ a, 53 ≤ a → hf a = hi a := fun a ha => funext fun k => q3.1 a k (by omega)
    have t5' : SE (hf 64) (hf 65) S N := by rw [eo 64 (by decide), eo 65 (by decide)]; exact t5
    refine ⟨_, _, q1, q2, 12, by decide, (ct_mdigest hI1.1.1 t5' (by rw [eo 53 (by decide)]; exact t3) p1 (by rw [eo 53 (by decide)]; exact p3) hc.2.2 hc.2.1 (n0 := n1) (s' := s') (by rw [ev]; exact hrun)).weaken ?_⟩
    rintro r2 h2 ⟨hf2, hlf, u1, u2, u3⟩
    refine ⟨hf2, hlf, N, F, ?_, u2, (hI1.dm u3).up⟩
    rw [hvw] at q4
    have ehm : ∀ k, k < 15 → hmN hf N F k = hmN hi N F k := fun k hk => by
      have e : DM hi hf → hmN hf N F k = hmN hi N F k := fun q => q.hm hk
      match k, hk with
      | 0, _ => show hf 53 1 = hi 53 1; rw [eo 53 (by decide)]
      | 1, _ => show hf 53 2 - hf 53 1 = hi 53 2 - hi 53 1; rw [eo 53 (by decide)]
      | 2, _ => show cntB (fun p => decide (st5 (vm hf N F) p = 0)) N = cntB (fun p => decide (st5 (vm hi N F) p = 0)) N; rw [ev]
      | 3, _ => show cntB (fun p => decide (st5 (vm hf N F) p = 1)) N / 2 = cntB (fun p => decide (st5 (vm hi N F) p = 1)) N / 2; rw [ev]
      | 4, _ => show cntB (fun p => decide (st5 (vm hf N F) p = 2)) N = cntB (fun p => decide (st5 (vm hi N F) p = 2)) N; rw [ev]
      | 5, _ => show sumI (fun k => szF (orB (fun q => vMatch (vm hf N F) k q) bitI N)) F - cntB (fun p => decide (st5 (vm hf N F) p = 1)) N / 2 = sumI (fun k => szF (orB (fun q => vMatch (vm hi N F) k q) bitI N)) F - cntB (fun p => decide (st5 (vm hi N F) p = 1)) N / 2; rw [ev]
      | 6, _ => show hf 53 14 = hi 53 14; rw [eo 53 (by decide)]
      | 7, _ => show hf 53 15 = hi 53 15; rw [eo 53 (by decide)]
      | 8, _ => show hf 53 12 = hi 53 12; rw [eo 53 (by decide)]
      | 9, _ => show hf 53 13 = hi 53 13; rw [eo 53 (by decide)]
      | 10, _ => show hf 53 16 = hi 53 16; rw [eo 53 (by decide)]
      | 11, _ => show hf 53 17 = hi 53 17; rw [eo 53 (by decide)]
      | 12, _ => show hf 53 18 = hi 53 18; rw [eo 53 (by decide)]
      | 13, _ => show hf 53 22 = hi 53 22; rw [eo 53 (by decide)]
      | 14, _ => show hf 53 0 = hi 53 0; rw [eo 53 (by decide)]
    have emid : ∀ k, k < 9 → midV (ltV (lsF (vw hi 3 N) N F K)) (sumI (fun j => bcF (mutF hi 3 N (3 + 6 + j))) F) ((blF (fun j => mvV (vw hi 3 N) N F 3 (nI j) (decide ((0 : Int32) = 1))) 8).1) ((blF (fun j => mvV (vw hi 3 N) N F 3 (nI j) (decide ((1 : Int32) = 1))) 8).1) k = midV (lnV F s') (sumI (fun p => cntB (fun e => vMay (vm hi N F) p (F + e)) (N - F)) F) ((bnV (fun j => mcV (vm hi N F) N F 3 (nI (j + 1)) (decide ((0 : Int32) = 1))) 9).1) ((bnV (fun j => mcV (vm hi N F) N F 3 (nI (j + 1)) (decide ((1 : Int32) = 1))) 9).1) k := fun k hk => by
      rw [mutual_eq hvw hvi hb3 hN8 hFN, hvw, bl_best _ hN8 hFN (by decide), bl_best _ hN8 hFN (by decide)]
      match k, hk with
      | 0, _ => exact heq K q4 0 (by omega)
      | 1, _ => exact heq K q4 1 (by omega)
      | 2, _ => exact heq K q4 10 (by omega)
      | 3, _ => exact heq K q4 11 (by omega)
      | 4, _ => exact heq K q4 12 (by omega)
      | 5, _ => exact heq K q4 13 (by omega)
      | 6, _ => rfl
      | 7, _ => rfl
      | 8, _ => rfl
    rw [u1, dg_pos hE, dg_pos hE, ev, eo 63 (by decide), eo 64 (by decide), eo 65 (by decide), eo 66 (by decide), mxF_congr (fun k hk => (hcnt k hk).trans (ehm k hk).symm), mxF_congr hpg, mxF_congr emid, mxP_congr (fun p hp k hk => tof_eq hvw hvi hb3 hN8 t4 (fun k hk => (t5.2 k hk).1) hp k hk)]
end SD
