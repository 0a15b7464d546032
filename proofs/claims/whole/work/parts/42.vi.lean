/-! ===== what holds of the sea's people stays ===== -/
section VIP
variable {v w : VV} {N F : Nat}
theorem VI.cg (h : VI v N F) (e : ∀ s i, i < N → (s = 2 ∨ s = 3 ∨ s = 4 ∨ s = 7 ∨ s = 11) → w s i = v s i) : VI w N F := by
  obtain ⟨h1, h2, h3, h4⟩ := h
  refine ⟨fun i hi => by rw [e 3 i hi (by omega)]; exact h1 i hi, fun i hi => by rw [e 4 i hi (by omega)]; exact h2 i hi, fun i j hi hj q => ?_, fun i hi => ?_⟩
  · rw [e 7 i hi (by omega)] at q
    have := h3 i j hi hj q
    unfold vGone at this ⊢
    rw [e 2 i hi (by omega)]
    exact this
  · rw [e 11 i hi (by omega)]
    rcases h4 i hi with q | ⟨j, j1, j2, j3, j4, j5⟩
    · exact Or.inl q
    · exact Or.inr ⟨j, j1, j2, by rw [e 11 j j1 (by omega)]; exact j3, by rw [e 7 i hi (by omega)]; exact j4, by rw [e 7 j j1 (by omega)]; exact j5⟩
theorem VI.gone (e : ∀ i, i < N → w 2 i = v 2 i) {i : Nat} (hi : i < N) : vGone w i = vGone v i := by
  unfold vGone
  rw [e i hi]
/-- one has gone LEFT on one who is not his couple -/
theorem VI.and7 (h : VI v N F) (hN : N ≤ 8) {i j : Nat} (hi : i < N) (hj : j < N) (hne : ¬ v 11 i = nI j) (e7 : w 7 i = v 7 i &&& (bitI j ^^^ -1)) (e : ∀ s a, a < N → (s = 2 ∨ s = 3 ∨ s = 4 ∨ s = 11 ∨ (s = 7 ∧ a ≠ i)) → w s a = v s a) : VI w N F := by
  obtain ⟨h1, h2, h3, h4⟩ := h
  have key : ∀ a b, a < N → b < N → vt (w 7 a) b = (vt (v 7 a) b && !(decide (a = i) && decide (j = b))) := by
    intro a b ha hb
    by_cases q : a = i
    · subst q
      rw [e7, vt_and _ _ (by omega), vt_nbit (by omega) (by omega)]
      simp
    · rw [e 7 a ha (by omega)]
      simp [q]
  refine ⟨fun a ha => by rw [e 3 a ha (by omega)]; exact h1 a ha, fun a ha => by rw [e 4 a ha (by omega)]; exact h2 a ha, fun a b ha hb q => ?_, fun a ha => ?_⟩
  · rw [key a b ha hb, Bool.and_eq_true] at q
    rw [VI.gone (fun i hi => e 2 i hi (by omega)) ha]
    exact h3 a b ha hb q.1
  · rw [e 11 a ha (by omega)]
    rcases h4 a ha with q | ⟨b, j1, j2, j3, j4, j5⟩
    · exact Or.inl q
    · refine Or.inr ⟨b, j1, j2, by rw [e 11 b j1 (by omega)]; exact j3, ?_, ?_⟩
      · rw [key a b ha j1, j4]
        have : ¬ (a = i ∧ j = b) := fun z => hne (by rw [← z.1, z.2]; exact j2)
        simp only [Bool.true_and, Bool.not_eq_true', Bool.and_eq_false_iff, decide_eq_false_iff_not]
        omega
      · rw [key b a j1 ha, j5]
        have : ¬ (b = i ∧ j = a) := fun z => hne (by rw [← z.1, z.2]; exact j3)
        simp only [Bool.true_and, Bool.not_eq_true', Bool.and_eq_false_iff, decide_eq_false_iff_not]
        omega
/-- one has gone LEFT, in both rows -/
def tlV (v : VV) (i j : Nat) : VV := vup (vup v 7 i (v 7 i &&& (bitI j ^^^ -1))) 8 i (v 8 i ||| bitI j)
def bkV (v : VV) (i j : Nat) : VV := vup (vup v 7 i (v 7 i &&& (bitI j ^^^ -1))) 8 i (v 8 i &&& (bitI j ^^^ -1))
theorem VI.tl (h : VI v N F) (hN : N ≤ 8) {i j : Nat} (hi : i < N) (hj : j < N) (hne : ¬ v 11 i = nI j) : VI (tlV v i j) N F :=
  h.and7 hN hi hj hne (by unfold tlV; rw [vup_n (by omega), vup_s]) (fun s a _ q => by unfold tlV; rw [vup_n (by omega), vup_n (by omega)])
theorem VI.bk (h : VI v N F) (hN : N ≤ 8) {i j : Nat} (hi : i < N) (hj : j < N) (hne : ¬ v 11 i = nI j) : VI (bkV v i j) N F :=
  h.and7 hN hi hj hne (by unfold bkV; rw [vup_n (by omega), vup_s]) (fun s a _ q => by unfold bkV; rw [vup_n (by omega), vup_n (by omega)])
theorem tl_11 (v : VV) (i j k : Nat) : tlV v i j 11 k = v 11 k := by unfold tlV; rw [vup_n (by omega), vup_n (by omega)]
theorem VI.ne (h : VI v N F) {i j : Nat} (hi : i < N) (hj : j < N) (q : vt (v 7 i) j = true) : i ≠ j := by
  have := (h.2.2.1 i j hi hj q).1
  omega
theorem VI.part (h : VI v N F) (hN : N ≤ 8) {i j : Nat} (hi : i < N) (hj : j < N) (hy : v 11 i = nI j) : VI (vup (vup v 11 i (-1)) 11 j (-1)) N F := by
  obtain ⟨h1, h2, h3, h4⟩ := h
  have hj11 : v 11 j = nI i := by
    rcases h4 i hi with q | ⟨b, j1, j2, j3, -⟩
    · rw [hy] at q
      exact absurd q (nI_m1 (by omega))
    · rw [hy] at j2
      have := nI_inj j2 (by omega) (by omega)
      subst this
      exact j3
  have e : ∀ s a, s ≠ 11 → vup (vup v 11 i (-1)) 11 j (-1) s a = v s a := fun s a q => by rw [vup_n (by omega), vup_n (by omega)]
  have e11 : ∀ a, a ≠ i → a ≠ j → vup (vup v 11 i (-1)) 11 j (-1) 11 a = v 11 a := fun a q z => by rw [vup_n (by omega), vup_n (by omega)]
  refine ⟨fun a ha => by rw [e 3 a (by decide)]; exact h1 a ha, fun a ha => by rw [e 4 a (by decide)]; exact h2 a ha, fun a b ha hb q => ?_, fun a ha => ?_⟩
  · rw [e 7 a (by decide)] at q
    rw [VI.gone (v := v) (N := N) (fun i hi => e 2 i (by decide)) ha]
    exact h3 a b ha hb q
  · by_cases z1 : a = j
    · left
      rw [z1, vup_s]
    · by_cases z2 : a = i
      · left
        rw [vup_n (by omega), z2, vup_s]
      · rw [e11 a z2 z1]
        rcases h4 a ha with q | ⟨b, j1, j2, j3, j4, j5⟩
        · exact Or.inl q
        · right
          have b1 : b ≠ i := fun z => z1 (by rw [z, hy] at j3; exact (nI_inj j3 (by omega) (by omega)).symm)
          have b2 : b ≠ j := fun z => z2 (by rw [z, hj11] at j3; exact (nI_inj j3 (by omega) (by omega)).symm)
          exact ⟨b, j1, j2, by rw [e11 b b1 b2]; exact j3, by rw [e 7 a (by decide)]; exact j4, by rw [e 7 b (by decide)]; exact j5⟩
theorem VI.meet (h : VI v N F) (hN : N ≤ 8) {i j : Nat} (hi : i < N) (hj : j < N) (hm : vMatch v i j = true) (ti : vTaken v i = false) (tj : vTaken v j = false) : VI (vup (vup v 11 i (nI j)) 11 j (nI i)) N F := by
  have hh := h
  obtain ⟨h1, h2, h3, h4⟩ := h
  have m1 : vt (v 7 i) j = true := by
    have q := hm
    rw [vMatch, Bool.and_eq_true] at q
    exact q.1
  have m2 : vt (v 7 j) i = true := by
    have q := hm
    rw [vMatch, Bool.and_eq_true] at q
    exact q.2
  have hne : i ≠ j := hh.ne hi hj m1
  have ui : v 11 i = -1 := by
    unfold vTaken at ti
    simpa using ti
  have uj : v 11 j = -1 := by
    unfold vTaken at tj
    simpa using tj
  have e : ∀ s a, s ≠ 11 → vup (vup v 11 i (nI j)) 11 j (nI i) s a = v s a := fun s a q => by rw [vup_n (by omega), vup_n (by omega)]
  have e11 : ∀ a, a ≠ i → a ≠ j → vup (vup v 11 i (nI j)) 11 j (nI i) 11 a = v 11 a := fun a q z => by rw [vup_n (by omega), vup_n (by omega)]
  have ei : vup (vup v 11 i (nI j)) 11 j (nI i) 11 i = nI j := by rw [vup_n (by omega), vup_s]
  have ej : vup (vup v 11 i (nI j)) 11 j (nI i) 11 j = nI i := vup_s
  refine ⟨fun a ha => by rw [e 3 a (by decide)]; exact h1 a ha, fun a ha => by rw [e 4 a (by decide)]; exact h2 a ha, fun a b ha hb q => ?_, fun a ha => ?_⟩
  · rw [e 7 a (by decide)] at q
    rw [VI.gone (v := v) (N := N) (fun i hi => e 2 i (by decide)) ha]
    exact h3 a b ha hb q
  · by_cases z1 : a = j
    · right
      subst z1
      exact ⟨i, hi, ej, ei, by rw [e 7 a (by decide)]; exact m2, by rw [e 7 i (by decide)]; exact m1⟩
    · by_cases z2 : a = i
      · right
        subst z2
        exact ⟨j, hj, ei, ej, by rw [e 7 a (by decide)]; exact m1, by rw [e 7 j (by decide)]; exact m2⟩
      · rw [e11 a z2 z1]
        rcases h4 a ha with q | ⟨b, j1, j2, j3, j4, j5⟩
        · exact Or.inl q
        · right
          have b1 : b ≠ i := fun z => nI_m1 (j := a) (by omega) (by rw [z, ui] at j3; exact j3.symm)
          have b2 : b ≠ j := fun z => nI_m1 (j := a) (by omega) (by rw [z, uj] at j3; exact j3.symm)
          exact ⟨b, j1, j2, by rw [e11 b b1 b2]; exact j3, by rw [e 7 a (by decide)]; exact j4, by rw [e 7 b (by decide)]; exact j5⟩
theorem VI.show (h : VI v N F) (hN : N ≤ 8) {i j : Nat} (hi : i < N) (hj : j < N) (hc : vCan v i j = true) (lim : Int32) : VI (vShow v i j lim) N F := by
  unfold vCan at hc
  simp only [Bool.and_eq_true, Bool.not_eq_true', decide_eq_false_iff_not] at hc
  obtain ⟨c1, c2, -⟩ := hc
  unfold vShow
  split
  · obtain ⟨h1, h2, h3, h4⟩ := h
    have e : ∀ s a, (s = 2 ∨ s = 3 ∨ s = 4 ∨ s = 11) → vup (vup (vup v 7 i (v 7 i ||| bitI j)) 9 i 0) 10 i (v 10 i + 1) s a = v s a := fun s a q => by rw [vup_n (by omega), vup_n (by omega), vup_n (by omega)]
    have e7 : ∀ a b, a < N → b < N → vt (vup (vup (vup v 7 i (v 7 i ||| bitI j)) 9 i 0) 10 i (v 10 i + 1) 7 a) b = (vt (v 7 a) b || (decide (a = i) && decide (j = b))) := fun a b ha hb => by
      rw [vup_n (by omega), vup_n (by omega)]
      by_cases q : a = i
      · subst q
        rw [vup_s, vt_or _ _ (by omega), vt_bit (by omega) (by omega)]
        simp
      · rw [vup_n (by omega)]
        simp [q]
    refine ⟨fun a ha => by rw [e 3 a (by omega)]; exact h1 a ha, fun a ha => by rw [e 4 a (by omega)]; exact h2 a ha, fun a b ha hb q => ?_, fun a ha => ?_⟩
    · rw [e7 a b ha hb, Bool.or_eq_true, Bool.and_eq_true, decide_eq_true_eq, decide_eq_true_eq] at q
      rw [VI.gone (v := v) (N := N) (fun i hi => e 2 i (by omega)) ha]
      rcases q with q | ⟨q1, q2⟩
      · exact h3 a b ha hb q
      · subst q1
        subst q2
        rw [h1 a ha, h1 j hj, side_ne] at c1
        refine ⟨by omega, ?_⟩
        unfold vFree at c2
        simp only [Bool.and_eq_true, Bool.not_eq_true'] at c2
        exact c2.2
    · rw [e 11 a (by omega)]
      rcases h4 a ha with q | ⟨b, j1, j2, j3, j4, j5⟩
      · exact Or.inl q
      · exact Or.inr ⟨b, j1, j2, by rw [e 11 b (by omega)]; exact j3, by rw [e7 a b ha j1, j4]; rfl, by rw [e7 b a j1 ha, j5]; rfl⟩
  · exact h.cg (fun s a _ q => by rw [vup_n (by omega), vup_n (by omega)])
end VIP
section VWS
variable {hi : Nat → Nat → Int32} {N F i j : Nat}
theorem w_tl (hb : PB hi 3) (hN : N ≤ 8) (h : i < N) (g : j < N) : vw (TLF hi (3 + 6 + i) (3 + 6 + j)) 3 N = tlV (vw hi 3 N) i j := by
  unfold TLF tlV
  rw [w_up h (by decide) (by decide), w_up h (by decide) (by decide), (hb j (by omega)).2, vw_at h (by decide) (by decide), vw_at h (by decide) (by decide)]
theorem m_tl (h : i < N) : vm (mLvF hi i j) N F = tlV (vm hi N F) i j := by
  unfold mLvF tlV
  rw [m_up (s := 8) (a := 59) h (by decide) (by decide) (by decide) rfl, m_up (s := 7) (a := 58) h (by decide) (by decide) (by decide) rfl, m_7 h, m_8 h]
theorem TLF_off {p q a k : Nat} (h : ¬ (a = p ∧ (k = 7 ∨ k = 8))) : TLF hi p q a k = hi a k := by
  unfold TLF
  rw [upI_a' (by omega), upI_a' (by omega)]
theorem mLvF_off {a k : Nat} (h : ¬ ((a = 58 ∨ a = 59) ∧ k = i)) : mLvF hi i j a k = hi a k := by
  unfold mLvF
  rw [upI_a' (by omega), upI_a' (by omega)]
theorem PB.off {f g : Nat → Nat → Int32} {c : Nat} (h : PB f c) (e : ∀ a k, c + 6 ≤ a → a < c + 14 → k ≤ 1 → g a k = f a k) : PB g c := fun j hj => by
  rw [e _ 0 (by omega) (by omega) (by omega), e _ 1 (by omega) (by omega) (by omega)]
  exact h j hj
theorem vm_c {f g : Nat → Nat → Int32} (e : ∀ a k, 54 ≤ a → g a k = f a k) : vm g N F = vm f N F := m_congr (fun k _ a h1 _ => e a k h1)
theorem vw_c {f g : Nat → Nat → Int32} (hN : N ≤ 8) (e : ∀ a k, a ≤ 16 → g a k = f a k) : vw g 3 N = vw f 3 N := w_congr (fun k _ t _ _ => e _ _ (by omega))
end VWS
