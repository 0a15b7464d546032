section
variable {E : XE} {l : Launch} {hi : Nat → Nat → Int32} {hl : Nat → Nat → Int64}

theorem xo_ne {a b i j : Nat} (ha : XO i a) (hb : XO j b) (h : i ≠ j) : a ≠ b := by
  intro q
  subst q
  have := ha.2.symm.trans hb.2
  exact h (Prod.mk.inj this).2
def prF (hi : Nat → Nat → Int32) (c p q : Nat) : Nat → Nat → Int32 := if pRight hi p q (hi c 4) = true then upI (upI (upI (upI hi p 7 (hi p 7 ||| hi q 1)) p 9 0) p 10 (hi p 10 + 1)) c 8 (hi c 8 + 1) else upI (upI (upI hi p 8 (hi p 8 ||| hi q 1)) p 9 (hi p 9 + 1)) c 9 (hi c 9 + 1)

set_option maxRecDepth 100000 in
set_option maxHeartbeats 4000000 in
theorem ct_present (hkv : KV hi) {c : Nat} (hc : isC c) {p q : Nat} (hp : XO 3 p) (hq : XO 3 q) : MC E l 4 mX0_present [.ref c, .ref p, .ref q] 83 (hi, hl, RT) 0 0 (fun r h' => r = some (.int (bI (pRight hi p q (hi c 4)))) ∧ h' = (prF hi c p q, hl, RT)) := by
  refine MC.of [some (.ref c), some (.ref p), some (.ref q)] (by decide) rfl (Nat.le_of_ble_eq_true rfl) ?_
  have hne : ¬ c = p := xo_ne hc.o hp (by decide)
  refine g_aload_n dX0_present_0 rfl ?_
  refine g_aload_n dX0_present_1 rfl ?_
  refine g_aload_n dX0_present_2 rfl ?_
  refine g_geti dX0_present_3 k_X0_81 rfl hc.o.1 hc.o.2 ?_
  refine g_callV2 (M' := mX5_goesRightOn) (mc' := 0) (ms' := 0) dX0_present_6 l_X0_112 s_mX5_goesRightOn hp.1 hp.2 rfl f_mX5_goesRightOn (Nat.le_of_ble_eq_true rfl) (by decide) (ct_goesRightOn hkv hp hq _) ?_
  rintro _ _ ⟨rfl, rfl⟩
  refine g_ifeq 29 dX0_present_9 (by decide) (fun c9 => ?_) (fun c9 => ?_)
  · skip
    refine g_aload_n dX0_present_29 rfl ?_
    refine g_aload_n dX0_present_30 rfl ?_
    refine g_callV1 (M' := mX5_goLeftOn) (mc' := 0) (ms' := 0) dX0_present_31 l_X0_119 s_mX5_goLeftOn hp.1 hp.2 rfl f_mX5_goLeftOn (Nat.le_of_ble_eq_true rfl) (by decide) (ct_goLeftOn hp hq) ?_
    rintro _ _ ⟨rfl, rfl⟩
    refine g_aload_n dX0_present_34 rfl ?_
    refine g_dup dX0_present_35 rfl ?_
    refine g_geti dX0_present_36 k_X0_96 rfl hc.o.1 hc.o.2 ?_
    refine g_iconst (v := 1) dX0_present_39 (by decide) ?_
    refine g_iadd dX0_present_40 ?_
    refine g_puti dX0_present_41 k_X0_96 rfl hc.o.1 hc.o.2 rfl rfl ?_
    refine g_iconst (v := 0) dX0_present_44 (by decide) ?_
    exact g_ireturn dX0_present_45 rfl rfl ⟨by rw [bI_0.mp c9]; rfl, by rw [prF, if_neg (by rw [bI_0.mp c9]; decide)]; simp only [upI_a hne]⟩
  · skip
    refine g_aload_n dX0_present_12 rfl ?_
    refine g_aload_n dX0_present_13 rfl ?_
    refine g_callV1 (M' := mX5_goRightOn) (mc' := 0) (ms' := 0) dX0_present_14 l_X0_116 s_mX5_goRightOn hp.1 hp.2 rfl f_mX5_goRightOn (Nat.le_of_ble_eq_true rfl) (by decide) (ct_goRightOn hp hq) ?_
    rintro _ _ ⟨rfl, rfl⟩
    refine g_aload_n dX0_present_17 rfl ?_
    refine g_dup dX0_present_18 rfl ?_
    refine g_geti dX0_present_19 k_X0_93 rfl hc.o.1 hc.o.2 ?_
    refine g_iconst (v := 1) dX0_present_22 (by decide) ?_
    refine g_iadd dX0_present_23 ?_
    refine g_puti dX0_present_24 k_X0_93 rfl hc.o.1 hc.o.2 rfl rfl ?_
    refine g_iconst (v := 1) dX0_present_27 (by decide) ?_
    exact g_ireturn dX0_present_28 rfl rfl ⟨by rw [bI_n.mp c9]; rfl, by rw [prF, if_pos (bI_n.mp c9)]; simp only [upI_a hne]⟩

def sdF (hi : Nat → Nat → Int32) (c i : Nat) : Nat → Nat → Int32 := fun a k => if c + 6 ≤ a ∧ a < c + 6 + i ∧ k = 10 then 0 else hi a k
theorem sd_step (hi : Nat → Nat → Int32) (c i : Nat) : upI (sdF hi c i) (c + 6 + i) 10 0 = sdF hi c (i + 1) := by
  funext a k
  unfold upI sdF
  by_cases h1 : a = c + 6 + i ∧ k = 10
  · rw [if_pos h1, if_pos (by omega)]
  · rw [if_neg h1]
    by_cases h2 : c + 6 ≤ a ∧ a < c + 6 + i ∧ k = 10
    · rw [if_pos h2, if_pos (by omega)]
    · rw [if_neg h2, if_neg (by omega)]
theorem sd_0 (hi : Nat → Nat → Int32) (c : Nat) : sdF hi c 0 = hi := by
  funext a k
  exact if_neg (by omega)
theorem sd_c (hi : Nat → Nat → Int32) {c a i : Nat} (h : a < c + 6 ∨ c + 6 + i ≤ a) (k : Nat) : sdF hi c i a k = hi a k := if_neg (by omega)
def csF (hi : Nat → Nat → Int32) (c i : Nat) : Nat → Nat → Int32 := fun a k => if c + 6 ≤ a ∧ a < c + 6 + i ∧ 7 ≤ k ∧ k ≤ 10 then 0 else hi a k
theorem cs_step (hi : Nat → Nat → Int32) (c i : Nat) : upI (upI (upI (upI (csF hi c i) (c + 6 + i) 7 0) (c + 6 + i) 8 0) (c + 6 + i) 9 0) (c + 6 + i) 10 0 = csF hi c (i + 1) := by
  funext a k
  unfold upI csF
  by_cases h1 : a = c + 6 + i
  · by_cases h2 : 7 ≤ k ∧ k ≤ 10
    · rw [if_pos (c := c + 6 ≤ a ∧ a < c + 6 + (i + 1) ∧ 7 ≤ k ∧ k ≤ 10) (by omega)]
      have : k = 7 ∨ k = 8 ∨ k = 9 ∨ k = 10 := by omega
      rcases this with rfl | rfl | rfl | rfl <;> simp [h1]
    · rw [if_neg (by omega), if_neg (by omega), if_neg (by omega), if_neg (by omega), if_neg (by omega), if_neg (by omega)]
  · rw [if_neg (by omega), if_neg (by omega), if_neg (by omega), if_neg (by omega)]
    by_cases h2 : c + 6 ≤ a ∧ a < c + 6 + i ∧ 7 ≤ k ∧ k ≤ 10
    · rw [if_pos h2, if_pos (by omega)]
    · rw [if_neg h2, if_neg (by omega)]
theorem cs_0 (hi : Nat → Nat → Int32) (c : Nat) : csF hi c 0 = hi := by
  funext a k
  exact if_neg (by omega)
theorem cs_c (hi : Nat → Nat → Int32) {c a i : Nat} (h : a < c + 6 ∨ c + 6 + i ≤ a) (k : Nat) : csF hi c i a k = hi a k := if_neg (by omega)

set_option maxRecDepth 100000 in
set_option maxHeartbeats 4000000 in
theorem lp_startDay {c : Nat} (hc : isC c) {N : Nat} (hN8 : N ≤ 8) (hN : hi c 3 = nI N) : ∀ (n i : Nat), i ≤ N → N + 1 ≤ i + n → G E l 1 mX0_startDay 2 [some (.ref c), some (.int (nI i))] [] 83 (sdF hi c i, hl, RT) 0 0 (fun r h' => r = none ∧ h' = (sdF hi c N, hl, RT)) := by
  intro n
  induction n with
  | zero =>
    intro i h1 h2
    exact absurd h2 (by omega)
  | succ n ih =>
    intro i hi1 hi2
    refine g_iload_n dX0_startDay_2 rfl ?_
    refine g_aload_n dX0_startDay_3 rfl ?_
    refine g_geti dX0_startDay_4 k_X0_27 rfl hc.o.1 hc.o.2 ?_
    refine g_icmpge 26 dX0_startDay_7 (by decide) (fun c7 => ?_) (fun c7 => ?_)
    · skip
      have hiN : i = N := Nat.le_antisymm hi1 (ge_out ((sd_c hi (by omega) 3).trans hN) c7 (by omega) (by omega))
      subst hiN
      exact g_return dX0_startDay_26 rfl ⟨rfl, rfl⟩
    · skip
      have hlt : i < N := lt_in ((sd_c hi (by omega) 3).trans hN) c7 (by omega) (by omega)
      have hi8 : i < 8 := by omega
      refine g_aload_n dX0_startDay_10 rfl ?_
      refine g_getr dX0_startDay_11 k_X0_11 rfl hc.o.1 hc.o.2 hc.people ?_
      refine g_iload_n dX0_startDay_14 rfl ?_
      refine g_aald dX0_startDay_15 hc.a1.1 hc.a1.2 rfl (by omega) (by decide) (hc.rp (by omega)) ?_
      refine g_iconst (v := 0) dX0_startDay_16 (by decide) ?_
      refine g_puti dX0_startDay_17 k_X0_109 rfl (hc.p hi8).1 (hc.p hi8).2 rfl rfl ?_
      refine g_iinc dX0_startDay_20 rfl (nI_inc i) (by decide) rfl rfl ?_
      refine g_goto 2 dX0_startDay_23 (by decide) ?_
      rw [sd_step]
      exact ih (i + 1) (by omega) (by omega)

set_option maxRecDepth 100000 in
set_option maxHeartbeats 4000000 in
theorem ct_startDay {c : Nat} (hc : isC c) {N : Nat} (hN8 : N ≤ 8) (hN : hi c 3 = nI N) : MC E l 1 mX0_startDay [.ref c] 83 (hi, hl, RT) 0 0 (fun r h' => r = none ∧ h' = (sdF hi c N, hl, RT)) := by
  refine MC.of [some (.ref c), none] (by decide) rfl (Nat.le_of_ble_eq_true rfl) ?_
  refine g_iconst (v := 0) dX0_startDay_0 (by decide) ?_
  refine g_istore_n dX0_startDay_1 (by decide) rfl rfl ?_
  have hh := lp_startDay (E := E) (l := l) (hl := hl) hc hN8 hN (N + 1) 0 (by omega) (by omega)
  rw [sd_0] at hh
  exact hh

set_option maxRecDepth 100000 in
set_option maxHeartbeats 4000000 in
theorem lp_cclearShown {c : Nat} (hc : isC c) {N : Nat} (hN8 : N ≤ 8) (hN : hi c 3 = nI N) : ∀ (n i : Nat), i ≤ N → N + 1 ≤ i + n → G E l 2 mX0_clearShown 2 [some (.ref c), some (.int (nI i))] [] 83 (csF hi c i, hl, RT) 0 0 (fun r h' => r = none ∧ h' = (csF hi c N, hl, RT)) := by
  intro n
  induction n with
  | zero =>
    intro i h1 h2
    exact absurd h2 (by omega)
  | succ n ih =>
    intro i hi1 hi2
    refine g_iload_n dX0_clearShown_2 rfl ?_
    refine g_aload_n dX0_clearShown_3 rfl ?_
    refine g_geti dX0_clearShown_4 k_X0_27 rfl hc.o.1 hc.o.2 ?_
    refine g_icmpge 25 dX0_clearShown_7 (by decide) (fun c7 => ?_) (fun c7 => ?_)
    · skip
      have hiN : i = N := Nat.le_antisymm hi1 (ge_out ((cs_c hi (by omega) 3).trans hN) c7 (by omega) (by omega))
      subst hiN
      exact g_return dX0_clearShown_25 rfl ⟨rfl, rfl⟩
    · skip
      have hlt : i < N := lt_in ((cs_c hi (by omega) 3).trans hN) c7 (by omega) (by omega)
      have hi8 : i < 8 := by omega
      refine g_aload_n dX0_clearShown_10 rfl ?_
      refine g_getr dX0_clearShown_11 k_X0_11 rfl hc.o.1 hc.o.2 hc.people ?_
      refine g_iload_n dX0_clearShown_14 rfl ?_
      refine g_aald dX0_clearShown_15 hc.a1.1 hc.a1.2 rfl (by omega) (by decide) (hc.rp (by omega)) ?_
      refine g_callV0 (M' := mX5_clearShown) (mc' := 0) (ms' := 0) dX0_clearShown_16 l_X0_68 s_mX5_clearShown (hc.p hi8).1 (hc.p hi8).2 rfl f_mX5_clearShown (Nat.le_of_ble_eq_true rfl) (by decide) (ct_clearShown (hc.p hi8)) ?_
      rintro _ _ ⟨rfl, rfl⟩
      refine g_iinc dX0_clearShown_19 rfl (nI_inc i) (by decide) rfl rfl ?_
      refine g_goto 2 dX0_clearShown_22 (by decide) ?_
      rw [cs_step]
      exact ih (i + 1) (by omega) (by omega)

set_option maxRecDepth 100000 in
set_option maxHeartbeats 4000000 in
theorem ct_cclearShown {c : Nat} (hc : isC c) {N : Nat} (hN8 : N ≤ 8) (hN : hi c 3 = nI N) : MC E l 2 mX0_clearShown [.ref c] 83 (hi, hl, RT) 0 0 (fun r h' => r = none ∧ h' = (csF hi c N, hl, RT)) := by
  refine MC.of [some (.ref c), none] (by decide) rfl (Nat.le_of_ble_eq_true rfl) ?_
  refine g_iconst (v := 0) dX0_clearShown_0 (by decide) ?_
  refine g_istore_n dX0_clearShown_1 (by decide) rfl rfl ?_
  have hh := lp_cclearShown (E := E) (l := l) (hl := hl) hc hN8 hN (N + 1) 0 (by omega) (by omega)
  rw [cs_0] at hh
  exact hh

set_option maxRecDepth 100000 in
set_option maxHeartbeats 4000000 in
theorem ct_clearHistory {c : Nat} (hc : isC c) : MC E l 2 mX0_clearHistory [.ref c] 83 (hi, hl, RT) 0 0 (fun r h' => r = none ∧ h' = (upI (upI (upI (upI (upI (upI (upI hi c 4 9) c 5 0) c 6 0) c 7 0) c 8 0) c 9 0) (c + 2) 3 0, hl, RT)) := by
  refine MC.of [some (.ref c)] (by decide) rfl (Nat.le_of_ble_eq_true rfl) ?_
  refine g_aload_n dX0_clearHistory_0 rfl ?_
  refine g_bipush (v := 9) dX0_clearHistory_1 (by decide) ?_
  refine g_puti dX0_clearHistory_3 k_X0_81 rfl hc.o.1 hc.o.2 rfl rfl ?_
  refine g_aload_n dX0_clearHistory_6 rfl ?_
  refine g_iconst (v := 0) dX0_clearHistory_7 (by decide) ?_
  refine g_puti dX0_clearHistory_8 k_X0_84 rfl hc.o.1 hc.o.2 rfl rfl ?_
  refine g_aload_n dX0_clearHistory_11 rfl ?_
  refine g_iconst (v := 0) dX0_clearHistory_12 (by decide) ?_
  refine g_puti dX0_clearHistory_13 k_X0_87 rfl hc.o.1 hc.o.2 rfl rfl ?_
  refine g_aload_n dX0_clearHistory_16 rfl ?_
  refine g_iconst (v := 0) dX0_clearHistory_17 (by decide) ?_
  refine g_puti dX0_clearHistory_18 k_X0_90 rfl hc.o.1 hc.o.2 rfl rfl ?_
  refine g_aload_n dX0_clearHistory_21 rfl ?_
  refine g_iconst (v := 0) dX0_clearHistory_22 (by decide) ?_
  refine g_puti dX0_clearHistory_23 k_X0_93 rfl hc.o.1 hc.o.2 rfl rfl ?_
  refine g_aload_n dX0_clearHistory_26 rfl ?_
  refine g_iconst (v := 0) dX0_clearHistory_27 (by decide) ?_
  refine g_puti dX0_clearHistory_28 k_X0_96 rfl hc.o.1 hc.o.2 rfl rfl ?_
  refine g_aload_n dX0_clearHistory_31 rfl ?_
  refine g_getr dX0_clearHistory_32 k_X0_20 rfl hc.o.1 hc.o.2 hc.seen ?_
  refine g_callV0 (M' := mX6_clear) (mc' := 0) (ms' := 0) dX0_clearHistory_35 l_X0_99 s_mX6_clear hc.o2.1 hc.o2.2 rfl f_mX6_clear (Nat.le_of_ble_eq_true rfl) (by decide) (ct_sclear hc) ?_
  rintro _ _ ⟨rfl, rfl⟩
  exact g_return dX0_clearHistory_38 rfl ⟨rfl, rfl⟩

theorem sw_cases (x : Int32) (n : Nat) (hn : n < 2 ^ 31) : (∃ k : Nat, k < n ∧ x = nI k) ∨ (x.toInt < 0 ∨ (n : Int) - 1 < x.toInt) := by
  by_cases h : x < 0
  · exact Or.inr (Or.inl (by have := Int32.lt_iff_toInt_lt.mp h; simpa using this))
  · obtain ⟨k, hk, rfl⟩ := nI_of h
    by_cases h2 : k < n
    · exact Or.inl ⟨k, h2, rfl⟩
    · exact Or.inr (Or.inr (by rw [nI_toInt hk]; omega))
theorem kn_num {j : Nat} (h : j < 5) : [(0 : Int32), 1, 2, 3, 4].getD j 0 = nI j := by match j, h with | 0, _ => rfl | 1, _ => rfl | 2, _ => rfl | 3, _ => rfl | 4, _ => rfl
/-- to ask: the places so far -/
def taF (hi : Nat → Nat → Int32) (c p : Nat) (b : Int32) : Nat → Int32 × Int32
  | 0 => (-1, bcF b + 1)
  | k + 1 => if hi (c + 6 + k) 3 = hi p 3 then taF hi c p b k else if (taF hi c p b k).2 ≤ lwF hi p b (pPic hi (c + 6 + k)) then taF hi c p b k else (nI k, lwF hi p b (pPic hi (c + 6 + k)))
def askF (hi : Nat → Nat → Int32) (c p N S : Nat) : Int32 := if chF hi c p S = 0 then -1 else (taF hi c p (chF hi c p S) N).1

set_option maxRecDepth 100000 in
set_option maxHeartbeats 4000000 in
theorem lp_toAsk (hkv : KV hi) {c : Nat} (hc : isC c) {N : Nat} (hN8 : N ≤ 8) (hN : hi c 3 = nI N) {S : Nat} {p : Nat} (hp : XO 3 p) : ∀ (n i : Nat), i ≤ N → N + 1 ≤ i + n → ∀ (u v : Int32) (l6 l7 : Option Value), (chF hi c p S = 0 → u = -1) → (¬ chF hi c p S = 0 → u = (taF hi c p (chF hi c p S) i).1 ∧ v = (taF hi c p (chF hi c p S) i).2) → G E l 5 mX0_toAsk 26 [some (.ref c), some (.ref p), some (.int (chF hi c p S)), some (.int u), some (.int v), some (.int (nI i)), l6, l7] [] 83 (hi, hl, RT) 0 0 (fun r h' => r = some (.int (askF hi c p N S)) ∧ h' = (hi, hl, RT)) := by
  intro n
  induction n with
  | zero =>
    intro i h1 h2
    exact absurd h2 (by omega)
  | succ n ih =>
    intro i hi1 hi2 u v l6 l7 h0 h1
    refine g_iload dX0_toAsk_26 rfl ?_
    refine g_aload_n dX0_toAsk_28 rfl ?_
    refine g_geti dX0_toAsk_29 k_X0_27 rfl hc.o.1 hc.o.2 ?_
    refine g_icmpge 92 dX0_toAsk_32 (by decide) (fun c32 => ?_) (fun c32 => ?_)
    · skip
      have hiN : i = N := Nat.le_antisymm hi1 (ge_out hN c32 (by omega) (by omega))
      subst hiN
      refine g_iload_n dX0_toAsk_92 rfl ?_
      exact g_ireturn dX0_toAsk_93 rfl rfl ⟨by by_cases q : chF hi c p S = 0; (rw [askF, if_pos q, h0 q]); (rw [askF, if_neg q, (h1 q).1]), rfl⟩
    · skip
      have hlt : i < N := lt_in hN c32 (by omega) (by omega)
      have hi8 : i < 8 := by omega
      refine g_iload_n dX0_toAsk_35 rfl ?_
      refine g_ifeq 92 dX0_toAsk_36 (by decide) (fun c36 => ?_) (fun c36 => ?_)
      · skip
        skip
        refine g_iload_n dX0_toAsk_92 rfl ?_
        exact g_ireturn dX0_toAsk_93 rfl rfl ⟨by rw [askF, if_pos c36, h0 c36], rfl⟩
      · skip
        obtain ⟨hu, hv⟩ := h1 c36
        refine g_aload_n dX0_toAsk_39 rfl ?_
        refine g_getr dX0_toAsk_40 k_X0_11 rfl hc.o.1 hc.o.2 hc.people ?_
        refine g_iload dX0_toAsk_43 rfl ?_
        refine g_aald dX0_toAsk_45 hc.a1.1 hc.a1.2 rfl (by omega) (by decide) (hc.rp (by omega)) ?_
        refine g_astore dX0_toAsk_46 (by decide) rfl rfl ?_
        refine g_aload_n dX0_toAsk_48 rfl ?_
        refine g_iload_n dX0_toAsk_49 rfl ?_
        refine g_aload dX0_toAsk_50 rfl ?_
        refine g_callV0 (M' := mX5_picture) (mc' := 0) (ms' := 0) dX0_toAsk_52 l_X0_122 s_mX5_picture (hc.p hi8).1 (hc.p hi8).2 rfl f_mX5_picture (Nat.le_of_ble_eq_true rfl) (by decide) (ct_picture (hc.p hi8)) ?_
        rintro _ _ ⟨rfl, rfl⟩
        refine g_callS3 (M' := mX0_leftAtWorst) (mc' := 0) (ms' := 0) dX0_toAsk_55 l_X0_193 s_mX0_leftAtWorst f_mX0_leftAtWorst (Nat.le_of_ble_eq_true rfl) (by decide) (ct_leftAtWorst hkv hp _ _) ?_
        rintro _ _ ⟨rfl, rfl⟩
        refine g_istore dX0_toAsk_58 (by decide) rfl rfl ?_
        refine g_aload dX0_toAsk_60 rfl ?_
        refine g_geti dX0_toAsk_62 k_X0_50 rfl (hc.p hi8).1 (hc.p hi8).2 ?_
        refine g_aload_n dX0_toAsk_65 rfl ?_
        refine g_geti dX0_toAsk_66 k_X0_50 rfl hp.1 hp.2 ?_
        refine g_icmpeq 86 dX0_toAsk_69 (by decide) (fun c69 => ?_) (fun c69 => ?_)
        · skip
          refine g_iinc dX0_toAsk_86 rfl (nI_inc i) (by decide) rfl rfl ?_
          refine g_goto 26 dX0_toAsk_89 (by decide) ?_
          exact ih (i + 1) (by omega) (by omega) _ _ _ _ (fun q => absurd q c36) (fun _ => by rw [taF, if_pos c69]; exact ⟨hu, hv⟩)
        · skip
          refine g_iload dX0_toAsk_72 rfl ?_
          refine g_iload dX0_toAsk_74 rfl ?_
          refine g_icmpge 86 dX0_toAsk_76 (by decide) (fun c76 => ?_) (fun c76 => ?_)
          · skip
            refine g_iinc dX0_toAsk_86 rfl (nI_inc i) (by decide) rfl rfl ?_
            refine g_goto 26 dX0_toAsk_89 (by decide) ?_
            exact ih (i + 1) (by omega) (by omega) _ _ _ _ (fun q => absurd q c36) (fun _ => by rw [taF, if_neg c69, if_pos (by rw [← hv]; exact c76)]; exact ⟨hu, hv⟩)
          · skip
            refine g_iload dX0_toAsk_79 rfl ?_
            refine g_istore dX0_toAsk_81 (by decide) rfl rfl ?_
            refine g_iload dX0_toAsk_83 rfl ?_
            refine g_istore_n dX0_toAsk_85 (by decide) rfl rfl ?_
            refine g_iinc dX0_toAsk_86 rfl (nI_inc i) (by decide) rfl rfl ?_
            refine g_goto 26 dX0_toAsk_89 (by decide) ?_
            exact ih (i + 1) (by omega) (by omega) _ _ _ _ (fun q => absurd q c36) (fun _ => by rw [taF, if_neg c69, if_neg (by rw [← hv]; exact c76)]; exact ⟨rfl, rfl⟩)

set_option maxRecDepth 100000 in
set_option maxHeartbeats 4000000 in
theorem ct_toAsk (hkv : KV hi) {c : Nat} (hc : isC c) {N : Nat} (hN8 : N ≤ 8) (hN : hi c 3 = nI N) {S : Nat} (hS8 : S ≤ 8) (hS : hi (c + 2) 3 = nI S) {p : Nat} (hp : XO 3 p) : MC E l 5 mX0_toAsk [.ref c, .ref p] 83 (hi, hl, RT) 0 0 (fun r h' => r = some (.int (askF hi c p N S)) ∧ h' = (hi, hl, RT)) := by
  refine MC.of [some (.ref c), some (.ref p), none, none, none, none, none, none] (by decide) rfl (Nat.le_of_ble_eq_true rfl) ?_
  refine g_aload_n dX0_toAsk_0 rfl ?_
  refine g_getr dX0_toAsk_1 k_X0_20 rfl hc.o.1 hc.o.2 hc.seen ?_
  refine g_aload_n dX0_toAsk_4 rfl ?_
  refine g_aload_n dX0_toAsk_5 rfl ?_
  refine g_getr dX0_toAsk_6 k_X0_11 rfl hc.o.1 hc.o.2 hc.people ?_
  refine g_callV2 (M' := mX6_choosiesOf) (mc' := 0) (ms' := 0) dX0_toAsk_9 l_X0_152 s_mX6_choosiesOf hc.o2.1 hc.o2.2 rfl f_mX6_choosiesOf (Nat.le_of_ble_eq_true rfl) (by decide) (ct_choosiesOf hkv hc hS8 hS hp) ?_
  rintro _ _ ⟨rfl, rfl⟩
  refine g_istore_n dX0_toAsk_12 (by decide) rfl rfl ?_
  refine g_iconst (v := -1) dX0_toAsk_13 (by decide) ?_
  refine g_istore_n dX0_toAsk_14 (by decide) rfl rfl ?_
  refine g_iload_n dX0_toAsk_15 rfl ?_
  refine g_callS1 (M' := mJ6_bitCount_0f7a4) (mc' := 0) (ms' := 0) dX0_toAsk_16 l_X0_185 s_mJ6_bitCount_0f7a4 f_mJ6_bitCount_0f7a4 (Nat.le_of_ble_eq_true rfl) (by decide) (ct_bitCount _) ?_
  rintro _ _ ⟨rfl, rfl⟩
  refine g_iconst (v := 1) dX0_toAsk_19 (by decide) ?_
  refine g_iadd dX0_toAsk_20 ?_
  refine g_istore dX0_toAsk_21 (by decide) rfl rfl ?_
  refine g_iconst (v := 0) dX0_toAsk_23 (by decide) ?_
  refine g_istore dX0_toAsk_24 (by decide) rfl rfl ?_
  exact lp_toAsk hkv hc hN8 hN hp (N + 1) 0 (by omega) (by omega) _ _ none none (fun _ => rfl) (fun _ => ⟨rfl, rfl⟩)

def tofN (hi : Nat → Nat → Int32) (c N S p : Nat) : Nat → Int32
  | 0 => hi p 2 | 1 => hi p 4 | 2 => hi p 5 | 3 => hi p 6 | 4 => hi p 3
  | 5 => if pTaken hi p = true then 1 else if pGone hi p = true then 2 else 0
  | 6 => hi p 11
  | 7 => orB (fun j => pLikes hi p (c + 6 + j)) (fun j => hi (c + 6 + j) 1) N
  | 8 => hi p 7 | 9 => hi p 8
  | 10 => orB (fun j => pMatch hi p (c + 6 + j)) (fun j => hi (c + 6 + j) 1) N
  | 11 => hi p 9 | 12 => hi p 10 | 13 => chF hi c p S | _ => askF hi c p N S
def tellN (hi : Nat → Nat → Int32) (c N F S : Nat) : Nat → Int32
  | 0 => hi c 2 | 1 => hi c 3 - hi c 2
  | 2 => cntB (fun j => pFree hi (c + 6 + j)) N
  | 3 => cntB (fun j => pTaken hi (c + 6 + j)) F
  | 4 => cntB (fun j => pGone hi (c + 6 + j)) N
  | 5 => sumI (fun j => bcF (orB (fun k => pMatch hi (c + 6 + j) (c + 6 + k)) (fun k => hi (c + 6 + k) 1) N &&& ((if pTaken hi (c + 6 + j) = true then 1 <<< (hi (c + 6 + j) 11 &&& 31) else 0) ^^^ -1))) F
  | 6 => hi c 8 | 7 => hi c 9 | 8 => hi c 4 | 9 => hi c 5 | 10 => hi c 6 | 11 => hi c 7 | _ => hi (c + 2) 3

set_option maxRecDepth 100000 in
set_option maxHeartbeats 4000000 in
theorem ct_tellOf (hkv : KV hi) {c : Nat} (hc : isC c) {N : Nat} (hN8 : N ≤ 8) (hN : hi c 3 = nI N) {S : Nat} (hS8 : S ≤ 8) (hS : hi (c + 2) 3 = nI S) {p : Nat} (hp : XO 3 p) (k : Nat) (hk : k < 15) : MC E l 6 mX0_tellOf [.ref c, .ref p, .int (nI k)] 83 (hi, hl, RT) 0 0 (fun r h' => r = some (.int (tofN hi c N S p k)) ∧ h' = (hi, hl, RT)) := by
  refine MC.of [some (.ref c), some (.ref p), some (.int (nI k))] (by decide) rfl (Nat.le_of_ble_eq_true rfl) ?_
  obtain ⟨jkp, h5p, hjp⟩ := hkv p hp
  refine g_iload_n dX0_tellOf_0 rfl ?_
  match k, hk with
  | 0, hk =>
    refine g_tableIn (off := 75) 76 dX0_tellOf_1 (by decide) (by decide) (by decide) (by decide) ?_
    refine g_aload_n dX0_tellOf_76 rfl ?_
    refine g_getk dX0_tellOf_77 k_X0_46 rfl hp.1 hp.2 hjp h5p ?_
    refine g_getn (f := 0) dX0_tellOf_80 h5p rfl k_X0_126 ?_
    exact g_ireturn dX0_tellOf_83 rfl rfl ⟨by show some (Value.int ([(0 : Int32), 1, 2, 3, 4].getD jkp 0)) = some (Value.int (hi p 2)); rw [hjp, kn_num h5p], rfl⟩
  | 1, hk =>
    refine g_tableIn (off := 83) 84 dX0_tellOf_1 (by decide) (by decide) (by decide) (by decide) ?_
    refine g_aload_n dX0_tellOf_84 rfl ?_
    refine g_geti dX0_tellOf_85 k_X0_56 rfl hp.1 hp.2 ?_
    exact g_ireturn dX0_tellOf_88 rfl rfl ⟨rfl, rfl⟩
  | 2, hk =>
    refine g_tableIn (off := 88) 89 dX0_tellOf_1 (by decide) (by decide) (by decide) (by decide) ?_
    refine g_aload_n dX0_tellOf_89 rfl ?_
    refine g_geti dX0_tellOf_90 k_X0_59 rfl hp.1 hp.2 ?_
    exact g_ireturn dX0_tellOf_93 rfl rfl ⟨rfl, rfl⟩
  | 3, hk =>
    refine g_tableIn (off := 93) 94 dX0_tellOf_1 (by decide) (by decide) (by decide) (by decide) ?_
    refine g_aload_n dX0_tellOf_94 rfl ?_
    refine g_geti dX0_tellOf_95 k_X0_62 rfl hp.1 hp.2 ?_
    exact g_ireturn dX0_tellOf_98 rfl rfl ⟨rfl, rfl⟩
  | 4, hk =>
    refine g_tableIn (off := 98) 99 dX0_tellOf_1 (by decide) (by decide) (by decide) (by decide) ?_
    refine g_aload_n dX0_tellOf_99 rfl ?_
    refine g_geti dX0_tellOf_100 k_X0_50 rfl hp.1 hp.2 ?_
    exact g_ireturn dX0_tellOf_103 rfl rfl ⟨rfl, rfl⟩
  | 5, hk =>
    refine g_tableIn (off := 103) 104 dX0_tellOf_1 (by decide) (by decide) (by decide) (by decide) ?_
    refine g_aload_n dX0_tellOf_104 rfl ?_
    refine g_callV0 (M' := mX5_isTaken) (mc' := 0) (ms' := 0) dX0_tellOf_105 l_X0_129 s_mX5_isTaken hp.1 hp.2 rfl f_mX5_isTaken (Nat.le_of_ble_eq_true rfl) (by decide) (ct_isTaken hp) ?_
    rintro _ _ ⟨rfl, rfl⟩
    refine g_ifeq 115 dX0_tellOf_108 (by decide) (fun c108 => ?_) (fun c108 => ?_)
    · skip
      refine g_aload_n dX0_tellOf_115 rfl ?_
      refine g_callV0 (M' := mX5_isGone) (mc' := 0) (ms' := 0) dX0_tellOf_116 l_X0_133 s_mX5_isGone hp.1 hp.2 rfl f_mX5_isGone (Nat.le_of_ble_eq_true rfl) (by decide) (ct_isGone hkv hp) ?_
      rintro _ _ ⟨rfl, rfl⟩
      refine g_ifeq 126 dX0_tellOf_119 (by decide) (fun c119 => ?_) (fun c119 => ?_)
      · skip
        refine g_iconst (v := 0) dX0_tellOf_126 (by decide) ?_
        exact g_ireturn dX0_tellOf_127 rfl rfl ⟨by show _ = some (Value.int (if pTaken hi p = true then 1 else if pGone hi p = true then 2 else 0)); rw [if_neg (by rw [bI_0.mp c108]; decide), if_neg (by rw [bI_0.mp c119]; decide)], rfl⟩
      · skip
        refine g_iconst (v := 2) dX0_tellOf_122 (by decide) ?_
        refine g_goto 127 dX0_tellOf_123 (by decide) ?_
        exact g_ireturn dX0_tellOf_127 rfl rfl ⟨by show _ = some (Value.int (if pTaken hi p = true then 1 else if pGone hi p = true then 2 else 0)); rw [if_neg (by rw [bI_0.mp c108]; decide), if_pos (bI_n.mp c119)], rfl⟩
    · skip
      refine g_iconst (v := 1) dX0_tellOf_111 (by decide) ?_
      refine g_goto 127 dX0_tellOf_112 (by decide) ?_
      exact g_ireturn dX0_tellOf_127 rfl rfl ⟨by show _ = some (Value.int (if pTaken hi p = true then 1 else if pGone hi p = true then 2 else 0)); rw [if_pos (bI_n.mp c108)], rfl⟩
  | 6, hk =>
    refine g_tableIn (off := 127) 128 dX0_tellOf_1 (by decide) (by decide) (by decide) (by decide) ?_
    refine g_aload_n dX0_tellOf_128 rfl ?_
    refine g_geti dX0_tellOf_129 k_X0_65 rfl hp.1 hp.2 ?_
    exact g_ireturn dX0_tellOf_132 rfl rfl ⟨rfl, rfl⟩
  | 7, hk =>
    refine g_tableIn (off := 132) 133 dX0_tellOf_1 (by decide) (by decide) (by decide) (by decide) ?_
    refine g_aload_n dX0_tellOf_133 rfl ?_
    refine g_aload_n dX0_tellOf_134 rfl ?_
    refine g_callV1 (M' := mX0_likedBy) (mc' := 0) (ms' := 0) dX0_tellOf_135 l_X0_136 s_mX0_likedBy hc.o.1 hc.o.2 rfl f_mX0_likedBy (Nat.le_of_ble_eq_true rfl) (by decide) (ct_likedBy hkv hc hN8 hN hp) ?_
    rintro _ _ ⟨rfl, rfl⟩
    exact g_ireturn dX0_tellOf_138 rfl rfl ⟨rfl, rfl⟩
  | 8, hk =>
    refine g_tableIn (off := 138) 139 dX0_tellOf_1 (by decide) (by decide) (by decide) (by decide) ?_
    refine g_aload_n dX0_tellOf_139 rfl ?_
    refine g_geti dX0_tellOf_140 k_X0_140 rfl hp.1 hp.2 ?_
    exact g_ireturn dX0_tellOf_143 rfl rfl ⟨rfl, rfl⟩
  | 9, hk =>
    refine g_tableIn (off := 143) 144 dX0_tellOf_1 (by decide) (by decide) (by decide) (by decide) ?_
    refine g_aload_n dX0_tellOf_144 rfl ?_
    refine g_geti dX0_tellOf_145 k_X0_143 rfl hp.1 hp.2 ?_
    exact g_ireturn dX0_tellOf_148 rfl rfl ⟨rfl, rfl⟩
  | 10, hk =>
    refine g_tableIn (off := 148) 149 dX0_tellOf_1 (by decide) (by decide) (by decide) (by decide) ?_
    refine g_aload_n dX0_tellOf_149 rfl ?_
    refine g_aload_n dX0_tellOf_150 rfl ?_
    refine g_callV1 (M' := mX0_matchesOf) (mc' := 0) (ms' := 0) dX0_tellOf_151 l_X0_146 s_mX0_matchesOf hc.o.1 hc.o.2 rfl f_mX0_matchesOf (Nat.le_of_ble_eq_true rfl) (by decide) (ct_matchesOf hc hN8 hN hp) ?_
    rintro _ _ ⟨rfl, rfl⟩
    exact g_ireturn dX0_tellOf_154 rfl rfl ⟨rfl, rfl⟩
  | 11, hk =>
    refine g_tableIn (off := 154) 155 dX0_tellOf_1 (by decide) (by decide) (by decide) (by decide) ?_
    refine g_aload_n dX0_tellOf_155 rfl ?_
    refine g_geti dX0_tellOf_156 k_X0_149 rfl hp.1 hp.2 ?_
    exact g_ireturn dX0_tellOf_159 rfl rfl ⟨rfl, rfl⟩
  | 12, hk =>
    refine g_tableIn (off := 159) 160 dX0_tellOf_1 (by decide) (by decide) (by decide) (by decide) ?_
    refine g_aload_n dX0_tellOf_160 rfl ?_
    refine g_geti dX0_tellOf_161 k_X0_109 rfl hp.1 hp.2 ?_
    exact g_ireturn dX0_tellOf_164 rfl rfl ⟨rfl, rfl⟩
  | 13, hk =>
    refine g_tableIn (off := 164) 165 dX0_tellOf_1 (by decide) (by decide) (by decide) (by decide) ?_
    refine g_aload_n dX0_tellOf_165 rfl ?_
    refine g_getr dX0_tellOf_166 k_X0_20 rfl hc.o.1 hc.o.2 hc.seen ?_
    refine g_aload_n dX0_tellOf_169 rfl ?_
    refine g_aload_n dX0_tellOf_170 rfl ?_
    refine g_getr dX0_tellOf_171 k_X0_11 rfl hc.o.1 hc.o.2 hc.people ?_
    refine g_callV2 (M' := mX6_choosiesOf) (mc' := 0) (ms' := 0) dX0_tellOf_174 l_X0_152 s_mX6_choosiesOf hc.o2.1 hc.o2.2 rfl f_mX6_choosiesOf (Nat.le_of_ble_eq_true rfl) (by decide) (ct_choosiesOf hkv hc hS8 hS hp) ?_
    rintro _ _ ⟨rfl, rfl⟩
    exact g_ireturn dX0_tellOf_177 rfl rfl ⟨rfl, rfl⟩
  | 14, hk =>
    refine g_tableIn (off := 177) 178 dX0_tellOf_1 (by decide) (by decide) (by decide) (by decide) ?_
    refine g_aload_n dX0_tellOf_178 rfl ?_
    refine g_aload_n dX0_tellOf_179 rfl ?_
    refine g_callV1 (M' := mX0_toAsk) (mc' := 0) (ms' := 0) dX0_tellOf_180 l_X0_156 s_mX0_toAsk hc.o.1 hc.o.2 rfl f_mX0_toAsk (Nat.le_of_ble_eq_true rfl) (by decide) (ct_toAsk hkv hc hN8 hN hS8 hS hp) ?_
    rintro _ _ ⟨rfl, rfl⟩
    exact g_ireturn dX0_tellOf_183 rfl rfl ⟨rfl, rfl⟩

set_option maxRecDepth 100000 in
set_option maxHeartbeats 4000000 in
theorem ct_tellOfX {c : Nat} (hc : isC c) {p : Nat} (hp : XO 3 p) (x : Int32) (hx : x.toInt < 0 ∨ 14 < x.toInt) : MC E l 1 mX0_tellOf [.ref c, .ref p, .int x] 83 (hi, hl, RT) 0 0 (fun r h' => r = some (.int (-102)) ∧ h' = (hi, hl, RT)) := by
  refine MC.of [some (.ref c), some (.ref p), some (.int x)] (by decide) rfl (Nat.le_of_ble_eq_true rfl) ?_
  refine g_iload_n dX0_tellOf_0 rfl ?_
  refine g_tableOut 184 dX0_tellOf_1 hx (by decide) ?_
  refine g_bipush (v := -102) dX0_tellOf_184 (by decide) ?_
  exact g_ireturn dX0_tellOf_186 rfl rfl ⟨rfl, rfl⟩

set_option maxRecDepth 100000 in
set_option maxHeartbeats 4000000 in
theorem ct_tell (hkv : KV hi) {c : Nat} (hc : isC c) {N : Nat} (hN8 : N ≤ 8) (hN : hi c 3 = nI N) {F : Nat} (hF8 : F ≤ 8) (hF : hi c 2 = nI F) (S : Nat) (k : Nat) (hk : k < 13) : MC E l 7 mX0_tell [.ref c, .int (nI k)] 83 (hi, hl, RT) 0 0 (fun r h' => r = some (.int (tellN hi c N F S k)) ∧ h' = (hi, hl, RT)) := by
  refine MC.of [some (.ref c), some (.int (nI k))] (by decide) rfl (Nat.le_of_ble_eq_true rfl) ?_
  refine g_iload_n dX0_tell_0 rfl ?_
  match k, hk with
  | 0, hk =>
    refine g_tableIn (off := 67) 68 dX0_tell_1 (by decide) (by decide) (by decide) (by decide) ?_
    refine g_aload_n dX0_tell_68 rfl ?_
    refine g_geti dX0_tell_69 k_X0_71 rfl hc.o.1 hc.o.2 ?_
    exact g_ireturn dX0_tell_72 rfl rfl ⟨rfl, rfl⟩
  | 1, hk =>
    refine g_tableIn (off := 72) 73 dX0_tell_1 (by decide) (by decide) (by decide) (by decide) ?_
    refine g_aload_n dX0_tell_73 rfl ?_
    refine g_geti dX0_tell_74 k_X0_27 rfl hc.o.1 hc.o.2 ?_
    refine g_aload_n dX0_tell_77 rfl ?_
    refine g_geti dX0_tell_78 k_X0_71 rfl hc.o.1 hc.o.2 ?_
    refine g_isub dX0_tell_81 ?_
    exact g_ireturn dX0_tell_82 rfl rfl ⟨rfl, rfl⟩
  | 2, hk =>
    refine g_tableIn (off := 82) 83 dX0_tell_1 (by decide) (by decide) (by decide) (by decide) ?_
    refine g_aload_n dX0_tell_83 rfl ?_
    refine g_callV0 (M' := mX0_freeOnes) (mc' := 0) (ms' := 0) dX0_tell_84 l_X0_159 s_mX0_freeOnes hc.o.1 hc.o.2 rfl f_mX0_freeOnes (Nat.le_of_ble_eq_true rfl) (by decide) (ct_freeOnes hkv hc hN8 hN) ?_
    rintro _ _ ⟨rfl, rfl⟩
    exact g_ireturn dX0_tell_87 rfl rfl ⟨rfl, rfl⟩
  | 3, hk =>
    refine g_tableIn (off := 87) 88 dX0_tell_1 (by decide) (by decide) (by decide) (by decide) ?_
    refine g_aload_n dX0_tell_88 rfl ?_
    refine g_callV0 (M' := mX0_couples) (mc' := 0) (ms' := 0) dX0_tell_89 l_X0_162 s_mX0_couples hc.o.1 hc.o.2 rfl f_mX0_couples (Nat.le_of_ble_eq_true rfl) (by decide) (ct_couples hc hF8 hF) ?_
    rintro _ _ ⟨rfl, rfl⟩
    exact g_ireturn dX0_tell_92 rfl rfl ⟨rfl, rfl⟩
  | 4, hk =>
    refine g_tableIn (off := 92) 93 dX0_tell_1 (by decide) (by decide) (by decide) (by decide) ?_
    refine g_aload_n dX0_tell_93 rfl ?_
    refine g_callV0 (M' := mX0_goneOnes) (mc' := 0) (ms' := 0) dX0_tell_94 l_X0_165 s_mX0_goneOnes hc.o.1 hc.o.2 rfl f_mX0_goneOnes (Nat.le_of_ble_eq_true rfl) (by decide) (ct_goneOnes hkv hc hN8 hN) ?_
    rintro _ _ ⟨rfl, rfl⟩
    exact g_ireturn dX0_tell_97 rfl rfl ⟨rfl, rfl⟩
  | 5, hk =>
    refine g_tableIn (off := 97) 98 dX0_tell_1 (by decide) (by decide) (by decide) (by decide) ?_
    refine g_aload_n dX0_tell_98 rfl ?_
    refine g_callV0 (M' := mX0_openMatches) (mc' := 0) (ms' := 0) dX0_tell_99 l_X0_168 s_mX0_openMatches hc.o.1 hc.o.2 rfl f_mX0_openMatches (Nat.le_of_ble_eq_true rfl) (by decide) (ct_openMatches hc hN8 hN hF8 hF) ?_
    rintro _ _ ⟨rfl, rfl⟩
    exact g_ireturn dX0_tell_102 rfl rfl ⟨rfl, rfl⟩
  | 6, hk =>
    refine g_tableIn (off := 102) 103 dX0_tell_1 (by decide) (by decide) (by decide) (by decide) ?_
    refine g_aload_n dX0_tell_103 rfl ?_
    refine g_geti dX0_tell_104 k_X0_93 rfl hc.o.1 hc.o.2 ?_
    exact g_ireturn dX0_tell_107 rfl rfl ⟨rfl, rfl⟩
  | 7, hk =>
    refine g_tableIn (off := 107) 108 dX0_tell_1 (by decide) (by decide) (by decide) (by decide) ?_
    refine g_aload_n dX0_tell_108 rfl ?_
    refine g_geti dX0_tell_109 k_X0_96 rfl hc.o.1 hc.o.2 ?_
    exact g_ireturn dX0_tell_112 rfl rfl ⟨rfl, rfl⟩
  | 8, hk =>
    refine g_tableIn (off := 112) 113 dX0_tell_1 (by decide) (by decide) (by decide) (by decide) ?_
    refine g_aload_n dX0_tell_113 rfl ?_
    refine g_geti dX0_tell_114 k_X0_81 rfl hc.o.1 hc.o.2 ?_
    exact g_ireturn dX0_tell_117 rfl rfl ⟨rfl, rfl⟩
  | 9, hk =>
    refine g_tableIn (off := 117) 118 dX0_tell_1 (by decide) (by decide) (by decide) (by decide) ?_
    refine g_aload_n dX0_tell_118 rfl ?_
    refine g_geti dX0_tell_119 k_X0_84 rfl hc.o.1 hc.o.2 ?_
    exact g_ireturn dX0_tell_122 rfl rfl ⟨rfl, rfl⟩
  | 10, hk =>
    refine g_tableIn (off := 122) 123 dX0_tell_1 (by decide) (by decide) (by decide) (by decide) ?_
    refine g_aload_n dX0_tell_123 rfl ?_
    refine g_geti dX0_tell_124 k_X0_87 rfl hc.o.1 hc.o.2 ?_
    exact g_ireturn dX0_tell_127 rfl rfl ⟨rfl, rfl⟩
  | 11, hk =>
    refine g_tableIn (off := 127) 128 dX0_tell_1 (by decide) (by decide) (by decide) (by decide) ?_
    refine g_aload_n dX0_tell_128 rfl ?_
    refine g_geti dX0_tell_129 k_X0_90 rfl hc.o.1 hc.o.2 ?_
    exact g_ireturn dX0_tell_132 rfl rfl ⟨rfl, rfl⟩
  | 12, hk =>
    refine g_tableIn (off := 132) 133 dX0_tell_1 (by decide) (by decide) (by decide) (by decide) ?_
    refine g_aload_n dX0_tell_133 rfl ?_
    refine g_getr dX0_tell_134 k_X0_20 rfl hc.o.1 hc.o.2 hc.seen ?_
    refine g_geti dX0_tell_137 k_X0_171 rfl hc.o2.1 hc.o2.2 ?_
    exact g_ireturn dX0_tell_140 rfl rfl ⟨rfl, rfl⟩

set_option maxRecDepth 100000 in
set_option maxHeartbeats 4000000 in
theorem ct_tellX {c : Nat} (hc : isC c) (x : Int32) (hx : x.toInt < 0 ∨ 12 < x.toInt) : MC E l 1 mX0_tell [.ref c, .int x] 83 (hi, hl, RT) 0 0 (fun r h' => r = some (.int (-102)) ∧ h' = (hi, hl, RT)) := by
  refine MC.of [some (.ref c), some (.int x)] (by decide) rfl (Nat.le_of_ble_eq_true rfl) ?_
  refine g_iload_n dX0_tell_0 rfl ?_
  refine g_tableOut 141 dX0_tell_1 hx (by decide) ?_
  refine g_bipush (v := -102) dX0_tell_141 (by decide) ?_
  exact g_ireturn dX0_tell_143 rfl rfl ⟨rfl, rfl⟩

end
