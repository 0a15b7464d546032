section
variable {E : XE} {l : Launch} {hi : Nat → Nat → Int32} {hl : Nat → Nat → Int64}

theorem g_hi {d : Nat} {M : XM} {pc : Nat} {ls : XL} {st : List Value} {cnt : Nat} {f f' : Nat → Nat → Int32} {mr sr : Nat} {Q : Option Value → XH → Prop} (he : f' = f) (k : G E l d M pc ls st cnt (f, hl, RT) mr sr Q) : G E l d M pc ls st cnt (f', hl, RT) mr sr Q := he ▸ k
def scF (hi : Nat → Nat → Int32) (c e i : Nat) : Nat → Nat → Int32 := fun a k => if a = c + 2 ∧ k = 3 then hi (e + 2) 3 else if (c + 3 ≤ a ∧ a ≤ c + 5) ∧ k < i then hi (a + e - c) k else hi a k
theorem sc_off {hi : Nat → Nat → Int32} {c e i a : Nat} (h : a < c + 2 ∨ c + 6 ≤ a) (k : Nat) : scF hi c e i a k = hi a k := by
  unfold scF
  rw [if_neg (by omega), if_neg (by omega)]
theorem sc_0 (hi : Nat → Nat → Int32) (c e : Nat) : upI hi (c + 2) 3 (hi (e + 2) 3) = scF hi c e 0 := by
  funext a k
  unfold upI scF
  by_cases h : a = c + 2 ∧ k = 3
  · rw [if_pos h, if_pos h]
  · rw [if_neg h, if_neg h, if_neg (by omega)]
theorem sc_step {hi : Nat → Nat → Int32} {c e i : Nat} (hd : c + 14 ≤ e ∨ e + 14 ≤ c) (hB : vp_nar .boolean (hi (e + 5) i) = hi (e + 5) i) :
    upI (upI (upI (scF hi c e i) (c + 3) i (scF hi c e i (e + 3) i)) (c + 4) i (upI (scF hi c e i) (c + 3) i (scF hi c e i (e + 3) i) (e + 4) i)) (c + 5) i (vp_nar .boolean (upI (upI (scF hi c e i) (c + 3) i (scF hi c e i (e + 3) i)) (c + 4) i (upI (scF hi c e i) (c + 3) i (scF hi c e i (e + 3) i) (e + 4) i) (e + 5) i)) = scF hi c e (i + 1) := by
  have n1 : ¬ e + 4 = c + 3 := by omega
  have n2 : ¬ e + 5 = c + 3 := by omega
  have n3 : ¬ e + 5 = c + 4 := by omega
  rw [upI_a n1, upI_a n3, upI_a n2, sc_off (a := e + 3) (by omega), sc_off (a := e + 4) (by omega), sc_off (a := e + 5) (by omega), hB]
  funext a k
  unfold upI scF
  by_cases h : a = c + 2 ∧ k = 3
  · rw [if_neg (by omega), if_neg (by omega), if_neg (by omega), if_pos h, if_pos h]
  · rw [if_neg h, if_neg h]
    by_cases hk : k = i
    · subst hk
      by_cases h3 : a = c + 3
      · subst h3
        rw [if_neg (by omega), if_neg (by omega), if_pos ⟨rfl, rfl⟩, if_pos (by omega), show c + 3 + e - c = e + 3 by omega]
      · by_cases h4 : a = c + 4
        · subst h4
          rw [if_neg (by omega), if_pos ⟨rfl, rfl⟩, if_pos (by omega), show c + 4 + e - c = e + 4 by omega]
        · by_cases h5 : a = c + 5
          · subst h5
            rw [if_pos ⟨rfl, rfl⟩, if_pos (by omega), show c + 5 + e - c = e + 5 by omega]
          · rw [if_neg (by omega), if_neg (by omega), if_neg (by omega), if_neg (by omega), if_neg (by omega)]
    · rw [if_neg (by omega), if_neg (by omega), if_neg (by omega)]
      by_cases h6 : (c + 3 ≤ a ∧ a ≤ c + 5) ∧ k < i
      · rw [if_pos h6, if_pos (by omega)]
      · rw [if_neg h6, if_neg (by omega)]

set_option maxRecDepth 100000 in
set_option maxHeartbeats 4000000 in
theorem lp_scopy {c e : Nat} (hc : isC c) (he : isC e) (hd : c + 14 ≤ e ∨ e + 14 ≤ c) (hB : ∀ k, k < 8 → vp_nar .boolean (hi (e + 5) k) = hi (e + 5) k) : ∀ (n i : Nat), i ≤ 8 → 8 + 1 ≤ i + n → G E l 1 mX6_copyFrom 10 [some (.ref (c + 2)), some (.ref (e + 2)), some (.int (nI i))] [] 83 (scF hi c e i, hl, RT) 0 0 (fun r h' => r = none ∧ h' = (scF hi c e 8, hl, RT)) := by
  intro n
  induction n with
  | zero =>
    intro i h1 h2
    exact absurd h2 (by omega)
  | succ n ih =>
    intro i hi1 hi2
    refine g_iload_n dX6_copyFrom_10 rfl ?_
    refine g_bipush (v := 8) dX6_copyFrom_11 (by decide) ?_
    refine g_icmpge 58 dX6_copyFrom_13 (by decide) (fun c13 => ?_) (fun c13 => ?_)
    · skip
      have hiN : i = 8 := Nat.le_antisymm hi1 ((nI_leI (a := 8) (by decide) (by omega)).mp c13)
      subst hiN
      exact g_return dX6_copyFrom_58 rfl ⟨rfl, rfl⟩
    · skip
      have hi8 : i < 8 := Nat.lt_of_not_le (fun q => c13 (nI_le (a := 8) q (by omega)))
      refine g_aload_n dX6_copyFrom_16 rfl ?_
      refine g_getr dX6_copyFrom_17 k_X6_9 rfl hc.o2.1 hc.o2.2 hc.r3 ?_
      refine g_iload_n dX6_copyFrom_20 rfl ?_
      refine g_aload_n dX6_copyFrom_21 rfl ?_
      refine g_getr dX6_copyFrom_22 k_X6_9 rfl he.o2.1 he.o2.2 he.r3 ?_
      refine g_iload_n dX6_copyFrom_25 rfl ?_
      refine g_iald dX6_copyFrom_26 he.a3.1 he.a3.2 (vp_in_nI hi8 (by decide)) ?_
      refine g_iast dX6_copyFrom_27 hc.a3.1 hc.a3.2 (vp_in_nI hi8 (by decide)) ?_
      refine g_aload_n dX6_copyFrom_28 rfl ?_
      refine g_getr dX6_copyFrom_29 k_X6_15 rfl hc.o2.1 hc.o2.2 hc.r4 ?_
      refine g_iload_n dX6_copyFrom_32 rfl ?_
      refine g_aload_n dX6_copyFrom_33 rfl ?_
      refine g_getr dX6_copyFrom_34 k_X6_15 rfl he.o2.1 he.o2.2 he.r4 ?_
      refine g_iload_n dX6_copyFrom_37 rfl ?_
      refine g_iald dX6_copyFrom_38 he.a4.1 he.a4.2 (vp_in_nI hi8 (by decide)) ?_
      refine g_iast dX6_copyFrom_39 hc.a4.1 hc.a4.2 (vp_in_nI hi8 (by decide)) ?_
      refine g_aload_n dX6_copyFrom_40 rfl ?_
      refine g_getr dX6_copyFrom_41 k_X6_18 rfl hc.o2.1 hc.o2.2 hc.r5 ?_
      refine g_iload_n dX6_copyFrom_44 rfl ?_
      refine g_aload_n dX6_copyFrom_45 rfl ?_
      refine g_getr dX6_copyFrom_46 k_X6_18 rfl he.o2.1 he.o2.2 he.r5 ?_
      refine g_iload_n dX6_copyFrom_49 rfl ?_
      refine g_zald dX6_copyFrom_50 he.a5.1 he.a5.2 (vp_in_nI hi8 (by decide)) ?_
      refine g_zast dX6_copyFrom_51 hc.a5.1 hc.a5.2 (vp_in_nI hi8 (by decide)) ?_
      refine g_iinc dX6_copyFrom_52 rfl (nI_inc i) (by decide) rfl rfl ?_
      refine g_goto 10 dX6_copyFrom_55 (by decide) ?_
      refine g_hi ?_ (ih (i + 1) (by omega) (by omega))
      have ecl : (nI i).toNatClampNeg = i := nI_clamp (by omega)
      simp only [ecl]
      exact sc_step hd (hB i hi8)

set_option maxRecDepth 100000 in
set_option maxHeartbeats 4000000 in
theorem ct_scopy {c e : Nat} (hc : isC c) (he : isC e) (hd : c + 14 ≤ e ∨ e + 14 ≤ c) (hB : ∀ k, k < 8 → vp_nar .boolean (hi (e + 5) k) = hi (e + 5) k) : MC E l 1 mX6_copyFrom [.ref (c + 2), .ref (e + 2)] 83 (hi, hl, RT) 0 0 (fun r h' => r = none ∧ h' = (scF hi c e 8, hl, RT)) := by
  refine MC.of [some (.ref (c + 2)), some (.ref (e + 2)), none] (by decide) rfl (Nat.le_of_ble_eq_true rfl) ?_
  refine g_aload_n dX6_copyFrom_0 rfl ?_
  refine g_aload_n dX6_copyFrom_1 rfl ?_
  refine g_geti dX6_copyFrom_2 k_X6_22 rfl he.o2.1 he.o2.2 ?_
  refine g_puti dX6_copyFrom_5 k_X6_22 rfl hc.o2.1 hc.o2.2 rfl rfl ?_
  refine g_iconst (v := 0) dX6_copyFrom_8 (by decide) ?_
  refine g_istore_n dX6_copyFrom_9 (by decide) rfl rfl ?_
  exact g_hi (sc_0 hi c e) (lp_scopy hc he hd hB 9 0 (by omega) (by omega))

def cpF (hi : Nat → Nat → Int32) (c e i : Nat) : Nat → Nat → Int32 := fun a k => if (c + 6 ≤ a ∧ a < c + 6 + i) ∧ 2 ≤ k ∧ k ≤ 11 then hi (a + e - c) k else hi a k
theorem cp_off {hi : Nat → Nat → Int32} {c e i a : Nat} (h : a < c + 6 ∨ c + 6 + i ≤ a) (k : Nat) : cpF hi c e i a k = hi a k := if_neg (by omega)
theorem cp_0 (hi : Nat → Nat → Int32) (c e : Nat) : hi = cpF hi c e 0 := by
  funext a k
  exact (if_neg (by omega)).symm
theorem cp_step {hi : Nat → Nat → Int32} {c e i : Nat} (hd : c + 14 ≤ e ∨ e + 14 ≤ c) (hi8 : i < 8) : cpP (cpF hi c e i) (c + 6 + i) (e + 6 + i) = cpF hi c e (i + 1) := by
  funext a k
  unfold cpP
  rw [cp_off (a := e + 6 + i) (by omega)]
  unfold cpF
  by_cases h : a = c + 6 + i ∧ 2 ≤ k ∧ k ≤ 11
  · rw [if_pos h, if_pos (by omega), h.1, show c + 6 + i + e - c = e + 6 + i by omega]
  · rw [if_neg h]
    by_cases h2 : (c + 6 ≤ a ∧ a < c + 6 + i) ∧ 2 ≤ k ∧ k ≤ 11
    · rw [if_pos h2, if_pos (by omega)]
    · rw [if_neg h2, if_neg (by omega)]
theorem KV.cp {hi : Nat → Nat → Int32} (h : KV hi) {c e i : Nat} (he : isC e) (hi8 : i ≤ 8) : KV (cpF hi c e i) := by
  intro p hp
  unfold cpF
  by_cases q : (c + 6 ≤ p ∧ p < c + 6 + i) ∧ 2 ≤ 2 ∧ 2 ≤ 11
  · rw [if_pos q]
    have := h (e + 6 + (p - c - 6)) (he.p (by omega))
    rw [show p + e - c = e + 6 + (p - c - 6) by omega]
    exact this
  · rw [if_neg q]
    exact h p hp
/-- a crowd copied whole -/
def cwF (hi : Nat → Nat → Int32) (c e : Nat) : Nat → Nat → Int32 := fun a k => if (a = c ∧ 2 ≤ k ∧ k ≤ 9) ∨ (a = c + 2 ∧ k = 3) ∨ ((c + 3 ≤ a ∧ a ≤ c + 5) ∧ k < 8) ∨ ((c + 6 ≤ a ∧ a < c + 14) ∧ 2 ≤ k ∧ k ≤ 11) then hi (a + e - c) k else hi a k

set_option maxRecDepth 100000 in
set_option maxHeartbeats 4000000 in
theorem lp_ccopy (hkv : KV hi) {c e : Nat} (hc : isC c) (he : isC e) (hd : c + 14 ≤ e ∨ e + 14 ≤ c) (hB : ∀ k, k < 8 → vp_nar .boolean (hi (e + 5) k) = hi (e + 5) k) : ∀ (n i : Nat), i ≤ 8 → 8 + 1 ≤ i + n → G E l 2 mX0_copyFrom 2 [some (.ref c), some (.ref e), some (.int (nI i))] [] 83 (cpF hi c e i, hl, RT) 0 0 (fun r h' => r = none ∧ h' = (cwF hi c e, hl, RT)) := by
  intro n
  induction n with
  | zero =>
    intro i h1 h2
    exact absurd h2 (by omega)
  | succ n ih =>
    intro i hi1 hi2
    refine g_iload_n dX0_copyFrom_2 rfl ?_
    refine g_bipush (v := 8) dX0_copyFrom_3 (by decide) ?_
    refine g_icmpge 29 dX0_copyFrom_5 (by decide) (fun c5 => ?_) (fun c5 => ?_)
    · skip
      have hiN : i = 8 := Nat.le_antisymm hi1 ((nI_leI (a := 8) (by decide) (by omega)).mp c5)
      subst hiN
      refine g_aload_n dX0_copyFrom_29 rfl ?_
      refine g_getr dX0_copyFrom_30 k_X0_20 rfl hc.o.1 hc.o.2 hc.seen ?_
      refine g_aload_n dX0_copyFrom_33 rfl ?_
      refine g_getr dX0_copyFrom_34 k_X0_20 rfl he.o.1 he.o.2 he.seen ?_
      refine g_callV1 (M' := mX6_copyFrom) (mc' := 0) (ms' := 0) dX0_copyFrom_37 l_X0_106 s_mX6_copyFrom hc.o2.1 hc.o2.2 rfl f_mX6_copyFrom (Nat.le_of_ble_eq_true rfl) (by decide) (ct_scopy hc he hd (fun k hk => by rw [cp_off (a := e + 5) (by omega)]; exact hB k hk)) ?_
      rintro _ _ ⟨rfl, rfl⟩
      refine g_aload_n dX0_copyFrom_40 rfl ?_
      refine g_aload_n dX0_copyFrom_41 rfl ?_
      refine g_geti dX0_copyFrom_42 k_X0_71 rfl he.o.1 he.o.2 ?_
      refine g_puti dX0_copyFrom_45 k_X0_71 rfl hc.o.1 hc.o.2 rfl rfl ?_
      refine g_aload_n dX0_copyFrom_48 rfl ?_
      refine g_aload_n dX0_copyFrom_49 rfl ?_
      refine g_geti dX0_copyFrom_50 k_X0_27 rfl he.o.1 he.o.2 ?_
      refine g_puti dX0_copyFrom_53 k_X0_27 rfl hc.o.1 hc.o.2 rfl rfl ?_
      refine g_aload_n dX0_copyFrom_56 rfl ?_
      refine g_aload_n dX0_copyFrom_57 rfl ?_
      refine g_geti dX0_copyFrom_58 k_X0_81 rfl he.o.1 he.o.2 ?_
      refine g_puti dX0_copyFrom_61 k_X0_81 rfl hc.o.1 hc.o.2 rfl rfl ?_
      refine g_aload_n dX0_copyFrom_64 rfl ?_
      refine g_aload_n dX0_copyFrom_65 rfl ?_
      refine g_geti dX0_copyFrom_66 k_X0_84 rfl he.o.1 he.o.2 ?_
      refine g_puti dX0_copyFrom_69 k_X0_84 rfl hc.o.1 hc.o.2 rfl rfl ?_
      refine g_aload_n dX0_copyFrom_72 rfl ?_
      refine g_aload_n dX0_copyFrom_73 rfl ?_
      refine g_geti dX0_copyFrom_74 k_X0_87 rfl he.o.1 he.o.2 ?_
      refine g_puti dX0_copyFrom_77 k_X0_87 rfl hc.o.1 hc.o.2 rfl rfl ?_
      refine g_aload_n dX0_copyFrom_80 rfl ?_
      refine g_aload_n dX0_copyFrom_81 rfl ?_
      refine g_geti dX0_copyFrom_82 k_X0_90 rfl he.o.1 he.o.2 ?_
      refine g_puti dX0_copyFrom_85 k_X0_90 rfl hc.o.1 hc.o.2 rfl rfl ?_
      refine g_aload_n dX0_copyFrom_88 rfl ?_
      refine g_aload_n dX0_copyFrom_89 rfl ?_
      refine g_geti dX0_copyFrom_90 k_X0_93 rfl he.o.1 he.o.2 ?_
      refine g_puti dX0_copyFrom_93 k_X0_93 rfl hc.o.1 hc.o.2 rfl rfl ?_
      refine g_aload_n dX0_copyFrom_96 rfl ?_
      refine g_aload_n dX0_copyFrom_97 rfl ?_
      refine g_geti dX0_copyFrom_98 k_X0_96 rfl he.o.1 he.o.2 ?_
      refine g_puti dX0_copyFrom_101 k_X0_96 rfl hc.o.1 hc.o.2 rfl rfl ?_
      exact g_return dX0_copyFrom_104 rfl ⟨rfl, by
        refine congrArg (fun f => ((f, hl, RT) : XH)) ?_
        have n1 : ¬ e = c := by omega
        simp only [upI_a n1]
        funext a k
        rw [sc_off (a := e) (by omega), sc_off (a := e) (by omega), sc_off (a := e) (by omega), sc_off (a := e) (by omega), sc_off (a := e) (by omega), sc_off (a := e) (by omega), sc_off (a := e) (by omega), sc_off (a := e) (by omega)]
        simp only [cp_off (hi := hi) (c := c) (e := e) (i := 8) (a := e) (by omega)]
        unfold cwF upI
        by_cases h1 : a = c ∧ 2 ≤ k ∧ k ≤ 9
        · rw [if_pos (Or.inl h1)]
          obtain ⟨h1, h2, h3⟩ := h1
          subst h1
          have hk : k = 2 ∨ k = 3 ∨ k = 4 ∨ k = 5 ∨ k = 6 ∨ k = 7 ∨ k = 8 ∨ k = 9 := by omega
          rw [show a + e - a = e by omega]
          rcases hk with rfl | rfl | rfl | rfl | rfl | rfl | rfl | rfl <;> simp
        · rw [if_neg (by omega), if_neg (by omega), if_neg (by omega), if_neg (by omega), if_neg (by omega), if_neg (by omega), if_neg (by omega), if_neg (by omega)]
          unfold scF
          by_cases h2 : a = c + 2 ∧ k = 3
          · rw [if_pos h2, if_pos (Or.inr (Or.inl h2)), cp_off (by omega), h2.1, h2.2, show c + 2 + e - c = e + 2 by omega]
          · rw [if_neg h2]
            by_cases h3 : (c + 3 ≤ a ∧ a ≤ c + 5) ∧ k < 8
            · rw [if_pos h3, if_pos (Or.inr (Or.inr (Or.inl h3))), cp_off (by omega)]
            · rw [if_neg h3]
              unfold cpF
              by_cases h4 : (c + 6 ≤ a ∧ a < c + 14) ∧ 2 ≤ k ∧ k ≤ 11
              · rw [if_pos (by omega), if_pos (Or.inr (Or.inr (Or.inr h4)))]
              · rw [if_neg (by omega), if_neg (by omega)]⟩
    · skip
      have hi8 : i < 8 := Nat.lt_of_not_le (fun q => c5 (nI_le (a := 8) q (by omega)))
      refine g_aload_n dX0_copyFrom_8 rfl ?_
      refine g_getr dX0_copyFrom_9 k_X0_11 rfl hc.o.1 hc.o.2 hc.people ?_
      refine g_iload_n dX0_copyFrom_12 rfl ?_
      refine g_aald dX0_copyFrom_13 hc.a1.1 hc.a1.2 rfl hi8 (by decide) (hc.rp hi8) ?_
      refine g_aload_n dX0_copyFrom_14 rfl ?_
      refine g_getr dX0_copyFrom_15 k_X0_11 rfl he.o.1 he.o.2 he.people ?_
      refine g_iload_n dX0_copyFrom_18 rfl ?_
      refine g_aald dX0_copyFrom_19 he.a1.1 he.a1.2 rfl hi8 (by decide) (he.rp hi8) ?_
      refine g_callV1 (M' := mX5_copyFrom) (mc' := 0) (ms' := 0) dX0_copyFrom_20 l_X0_102 s_mX5_copyFrom (hc.p hi8).1 (hc.p hi8).2 rfl f_mX5_copyFrom (Nat.le_of_ble_eq_true rfl) (by decide) (ct_copyFrom (hkv.cp he hi1) (hc.p hi8) (he.p hi8) (by omega)) ?_
      rintro _ _ ⟨rfl, rfl⟩
      refine g_iinc dX0_copyFrom_23 rfl (nI_inc i) (by decide) rfl rfl ?_
      refine g_goto 2 dX0_copyFrom_26 (by decide) ?_
      exact g_hi (cp_step hd hi8) (ih (i + 1) (by omega) (by omega))

set_option maxRecDepth 100000 in
set_option maxHeartbeats 4000000 in
theorem ct_ccopy (hkv : KV hi) {c e : Nat} (hc : isC c) (he : isC e) (hd : c + 14 ≤ e ∨ e + 14 ≤ c) (hB : ∀ k, k < 8 → vp_nar .boolean (hi (e + 5) k) = hi (e + 5) k) : MC E l 2 mX0_copyFrom [.ref c, .ref e] 83 (hi, hl, RT) 0 0 (fun r h' => r = none ∧ h' = (cwF hi c e, hl, RT)) := by
  refine MC.of [some (.ref c), some (.ref e), none] (by decide) rfl (Nat.le_of_ble_eq_true rfl) ?_
  refine g_iconst (v := 0) dX0_copyFrom_0 (by decide) ?_
  refine g_istore_n dX0_copyFrom_1 (by decide) rfl rfl ?_
  exact g_hi (cp_0 hi c e) (lp_ccopy hkv hc he hd hB 9 0 (by omega) (by omega))

end
