section
variable {E : XE} {l : Launch} {hi : Nat → Nat → Int32} {hl : Nat → Nat → Int64}

def rdSide (hi : Nat → Nat → Int32) (j : Nat) : Int32 := bI (!allB (fun m => !decide (lAt hi (nI (5 * m + 4)) = 59)) j)
def rdFirst (hi : Nat → Nat → Int32) (c : Nat) : Nat → Int32
  | 0 => hi c 2
  | j + 1 => if rdSide hi j = 0 then nI (j + 1) else rdFirst hi c j
/-- a person as the page has him at place m -/
def rdP (hi : Nat → Nat → Int32) (p m k : Nat) : Int32 := if k = 2 then nI (kOf (lAt hi (nI (5 * m)))) else if k = 3 then rdSide hi m else if k = 4 then lAt hi (nI (5 * m + 1)) - 48 else if k = 5 then lAt hi (nI (5 * m + 2)) - 48 else if k = 6 then lAt hi (nI (5 * m + 3)) - 48 else if 7 ≤ k ∧ k ≤ 10 then 0 else if k = 11 then -1 else hi p k
def rdF (hi : Nat → Nat → Int32) (c j : Nat) : Nat → Nat → Int32 := fun a k => if a = c ∧ k = 3 then nI j else if a = c ∧ k = 2 then rdFirst hi c j else if c + 6 ≤ a ∧ a < c + 6 + j then rdP hi a (a - c - 6) k else hi a k
theorem rd_0 {hi : Nat → Nat → Int32} (c : Nat) : upI hi c 3 0 = rdF hi c 0 := by
  funext a k
  unfold upI rdF
  by_cases h : a = c ∧ k = 3
  · rw [if_pos h, if_pos h]; rfl
  · rw [if_neg h, if_neg h]
    by_cases h2 : a = c ∧ k = 2
    · rw [if_pos h2, h2.1, h2.2]; rfl
    · rw [if_neg h2, if_neg (by omega)]
theorem rd_off {hi : Nat → Nat → Int32} {c j a : Nat} (h : a ≠ c) (h2 : a < c + 6 ∨ c + 6 + j ≤ a) (k : Nat) : rdF hi c j a k = hi a k := by
  unfold rdF
  rw [if_neg (fun q => h q.1), if_neg (fun q => h q.1), if_neg (by omega)]
theorem rd_size {hi : Nat → Nat → Int32} {c j : Nat} : rdF hi c j c 3 = nI j := if_pos ⟨rfl, rfl⟩
theorem lAt_cong {f g : Nat → Nat → Int32} (h1 : f 1 1 = g 1 1) (h2 : ∀ k, f 2 k = g 2 k) (x : Int32) : lAt f x = lAt g x := by
  unfold lAt
  rw [h1, h2]
theorem lAt_up {f : Nat → Nat → Int32} {p k : Nat} {v : Int32} (h1 : ¬ 1 = p) (h2 : ¬ 2 = p) (x : Int32) : lAt (upI f p k v) x = lAt f x := lAt_cong (upI_a h1) (fun _ => upI_a h2) x
theorem nI_inc5a (i : Nat) : nI (5 * i) + Int32.ofInt 5 = nI (5 * (i + 1)) := by
  rw [show Int32.ofInt 5 = nI 5 from by decide, nI_add, Nat.mul_succ]
theorem rdSide_s (hi : Nat → Nat → Int32) (i : Nat) : rdSide hi (i + 1) = if lAt hi (nI (5 * i + 4)) = 59 then 1 else rdSide hi i := by
  unfold rdSide
  rw [allB]
  by_cases h : lAt hi (nI (5 * i + 4)) = 59
  · rw [if_pos h]; simp [h, bI]
  · rw [if_neg h]; simp [h]
/-- one more person read -/
theorem rd_step {hi : Nat → Nat → Int32} {c i : Nat} (h3 : 3 ≤ c) {w2 w3 w4 w5 w6 : Int32} (e2 : w2 = nI (kOf (lAt hi (nI (5 * i))))) (e3 : w3 = rdSide hi i) (e4 : w4 = lAt hi (nI (5 * i + 1)) - 48) (e5 : w5 = lAt hi (nI (5 * i + 2)) - 48) (e6 : w6 = lAt hi (nI (5 * i + 3)) - 48) (hs : ¬ rdSide hi i = 0) :
    upI (upI (upI (upI (upI (upI (upI (upI (upI (upI (upI (rdF hi c i) (c + 6 + i) 2 w2) (c + 6 + i) 3 w3) (c + 6 + i) 4 w4) (c + 6 + i) 5 w5) (c + 6 + i) 6 w6) (c + 6 + i) 11 (-1)) (c + 6 + i) 7 0) (c + 6 + i) 8 0) (c + 6 + i) 9 0) (c + 6 + i) 10 0) c 3 (nI (i + 1)) = rdF hi c (i + 1) := by
  subst e2 e3 e4 e5 e6
  funext a k
  unfold upI rdF
  rw [rdFirst, if_neg hs]
  by_cases h1 : a = c + 6 + i
  · subst h1
    have n1 : ¬ c + 6 + i = c := by omega
    simp only [n1, false_and, if_false, true_and]
    rw [if_pos (by omega : c + 6 ≤ c + 6 + i ∧ c + 6 + i < c + 6 + (i + 1)), if_neg (by omega : ¬ (c + 6 ≤ c + 6 + i ∧ c + 6 + i < c + 6 + i)), show c + 6 + i - c - 6 = i by omega]
    unfold rdP
    by_cases k2 : k = 2
    · subst k2; simp
    by_cases k3 : k = 3
    · subst k3; simp
    by_cases k4 : k = 4
    · subst k4; simp
    by_cases k5 : k = 5
    · subst k5; simp
    by_cases k6 : k = 6
    · subst k6; simp
    by_cases k7 : k = 7
    · subst k7; simp
    by_cases k8 : k = 8
    · subst k8; simp
    by_cases k9 : k = 9
    · subst k9; simp
    by_cases k10 : k = 10
    · subst k10; simp
    by_cases k11 : k = 11
    · subst k11; simp
    rw [if_neg k10, if_neg k9, if_neg k8, if_neg k7, if_neg k11, if_neg k6, if_neg k5, if_neg k4, if_neg k3, if_neg k2, if_neg k2, if_neg k3, if_neg k4, if_neg k5, if_neg k6, if_neg (by omega), if_neg k11]
  · simp only [h1, false_and, if_false]
    by_cases h4 : a = c ∧ k = 3
    · rw [if_pos h4, if_pos h4]
    · rw [if_neg h4, if_neg h4, if_neg h4]
      by_cases h5 : a = c ∧ k = 2
      · rw [if_pos h5, if_pos h5]
      · rw [if_neg h5, if_neg h5]
        by_cases h6 : c + 6 ≤ a ∧ a < c + 6 + i
        · rw [if_pos h6, if_pos (by omega)]
        · rw [if_neg h6, if_neg (by omega)]
theorem rd_stepF {hi : Nat → Nat → Int32} {c i : Nat} (h3 : 3 ≤ c) {w2 w3 w4 w5 w6 : Int32} (e2 : w2 = nI (kOf (lAt hi (nI (5 * i))))) (e3 : w3 = rdSide hi i) (e4 : w4 = lAt hi (nI (5 * i + 1)) - 48) (e5 : w5 = lAt hi (nI (5 * i + 2)) - 48) (e6 : w6 = lAt hi (nI (5 * i + 3)) - 48) (hs : rdSide hi i = 0) :
    upI (upI (upI (upI (upI (upI (upI (upI (upI (upI (upI (upI (rdF hi c i) (c + 6 + i) 2 w2) (c + 6 + i) 3 w3) (c + 6 + i) 4 w4) (c + 6 + i) 5 w5) (c + 6 + i) 6 w6) (c + 6 + i) 11 (-1)) (c + 6 + i) 7 0) (c + 6 + i) 8 0) (c + 6 + i) 9 0) (c + 6 + i) 10 0) c 3 (nI (i + 1))) c 2 (nI (i + 1)) = rdF hi c (i + 1) := by
  subst e2 e3 e4 e5 e6
  funext a k
  unfold upI rdF
  rw [rdFirst, if_pos hs]
  by_cases h1 : a = c + 6 + i
  · subst h1
    have n1 : ¬ c + 6 + i = c := by omega
    simp only [n1, false_and, if_false, true_and]
    rw [if_pos (by omega : c + 6 ≤ c + 6 + i ∧ c + 6 + i < c + 6 + (i + 1)), if_neg (by omega : ¬ (c + 6 ≤ c + 6 + i ∧ c + 6 + i < c + 6 + i)), show c + 6 + i - c - 6 = i by omega]
    unfold rdP
    by_cases k2 : k = 2
    · subst k2; simp
    by_cases k3 : k = 3
    · subst k3; simp
    by_cases k4 : k = 4
    · subst k4; simp
    by_cases k5 : k = 5
    · subst k5; simp
    by_cases k6 : k = 6
    · subst k6; simp
    by_cases k7 : k = 7
    · subst k7; simp
    by_cases k8 : k = 8
    · subst k8; simp
    by_cases k9 : k = 9
    · subst k9; simp
    by_cases k10 : k = 10
    · subst k10; simp
    by_cases k11 : k = 11
    · subst k11; simp
    rw [if_neg k10, if_neg k9, if_neg k8, if_neg k7, if_neg k11, if_neg k6, if_neg k5, if_neg k4, if_neg k3, if_neg k2, if_neg k2, if_neg k3, if_neg k4, if_neg k5, if_neg k6, if_neg (by omega), if_neg k11]
  · simp only [h1, false_and, if_false]
    by_cases h5 : a = c ∧ k = 2
    · rw [if_pos h5, if_neg (by omega), if_pos h5]
    · rw [if_neg h5]
      by_cases h4 : a = c ∧ k = 3
      · rw [if_pos h4, if_pos h4]
      · rw [if_neg h4, if_neg h4, if_neg h4, if_neg h5, if_neg h5]
        by_cases h6 : c + 6 ≤ a ∧ a < c + 6 + i
        · rw [if_pos h6, if_pos (by omega)]
        · rw [if_neg h6, if_neg (by omega)]

theorem kOf_lt (x : Int32) : kOf x < 5 := by
  unfold kOf
  split <;> (try decide)
  split <;> (try decide)
  split <;> (try decide)
  split <;> (try decide)
  split <;> decide
set_option maxRecDepth 100000 in
set_option maxHeartbeats 4000000 in
theorem lp_readFrom {c : Nat} (hc : isC c) {L N : Nat} (hN8 : N ≤ 8) (hLN : L + 1 = 5 * N) (hL2 : hi 1 1 = nI L) : ∀ (n i : Nat), i ≤ N → N + 1 ≤ i + n → ∀ (sd : Int32) (l4 : Option Value), sd = rdSide hi i → xcat2 l4 = false → G E l 3 mX0_readFrom 9 [some (.ref c), some (.ref 1), some (.int sd), some (.int (nI (5 * i))), l4] [] 83 (rdF hi c i, hl, RT) 0 0 (fun r h' => r = none ∧ h' = (upI (upI (upI (upI (upI (upI (upI (rdF hi c N) c 4 9) c 5 0) c 6 0) c 7 0) c 8 0) c 9 0) (c + 2) 3 0, hl, RT)) := by
  intro n
  induction n with
  | zero =>
    intro i h1 h2
    exact absurd h2 (by omega)
  | succ n ih =>
    intro i hi1 hi2 sd l4 hsd hx4
    have h3 : 3 ≤ c := by rcases hc with rfl | rfl | rfl <;> decide
    have np1 : ¬ 1 = c + 6 + i := by omega
    have np2 : ¬ 2 = c + 6 + i := by omega
    have nc1 : ¬ 1 = c := by omega
    have nc2 : ¬ 2 = c := by omega
    have npc : ¬ c = c + 6 + i := by omega
    have hL3 : rdF hi c i 1 1 = nI L := (rd_off (by omega) (by omega) 1).trans hL2
    have hla : ∀ x, lAt (rdF hi c i) x = lAt hi x := lAt_cong (rd_off (by omega) (by omega) 1) (fun k => rd_off (by omega) (by omega) k)
    refine g_iload_n dX0_readFrom_9 rfl ?_
    refine g_aload_n dX0_readFrom_10 rfl ?_
    refine g_geti dX0_readFrom_11 k_X0_31 rfl (by decide) rfl ?_
    refine g_icmpge 143 dX0_readFrom_14 (by decide) (fun c14 => ?_) (fun c14 => ?_)
    · skip
      have hiN : i = N := by
        have := ge_out hL3 c14 (by omega) (by omega)
        omega
      subst hiN
      refine g_aload_n dX0_readFrom_143 rfl ?_
      refine g_callV0 (M' := mX0_clearHistory) (mc' := 0) (ms' := 0) dX0_readFrom_144 l_X0_78 s_mX0_clearHistory hc.o.1 hc.o.2 rfl f_mX0_clearHistory (Nat.le_of_ble_eq_true rfl) (by decide) (ct_clearHistory hc) ?_
      rintro _ _ ⟨rfl, rfl⟩
      exact g_return dX0_readFrom_147 rfl ⟨rfl, rfl⟩
    · skip
      have hlt : i < N := by
        have := lt_in hL3 c14 (by omega) (by omega)
        omega
      have hi8 : i < 8 := by omega
      refine g_aload_n dX0_readFrom_17 rfl ?_
      refine g_geti dX0_readFrom_18 k_X0_27 rfl hc.o.1 hc.o.2 ?_
      refine g_bipush (v := 8) dX0_readFrom_21 (by decide) ?_
      refine g_icmpge 143 dX0_readFrom_23 (by decide) (fun c23 => ?_) (fun c23 => ?_)
      · skip
        exact absurd (ge_out (x := 8) (N := 8) rfl (by rw [← rd_size (hi := hi) (c := c) (j := i)]; exact c23) (by decide) (by omega)) (by omega)
      · skip
        refine g_aload_n dX0_readFrom_26 rfl ?_
        refine g_getr dX0_readFrom_27 k_X0_11 rfl hc.o.1 hc.o.2 hc.people ?_
        refine g_aload_n dX0_readFrom_30 rfl ?_
        refine g_geti dX0_readFrom_31 k_X0_27 rfl hc.o.1 hc.o.2 ?_
        refine g_aald dX0_readFrom_34 hc.a1.1 hc.a1.2 rd_size hi8 (by decide) (hc.rp hi8) ?_
        refine g_astore dX0_readFrom_35 (by decide) rfl rfl ?_
        refine g_aload dX0_readFrom_37 rfl ?_
        refine g_aload_n dX0_readFrom_39 rfl ?_
        refine g_iload_n dX0_readFrom_40 rfl ?_
        refine g_callV1 (M' := mX4_letterAt) (mc' := 0) (ms' := 0) dX0_readFrom_41 l_X0_36 s_mX4_letterAt (by decide) rfl rfl f_mX4_letterAt (Nat.le_of_ble_eq_true rfl) (by decide) (ct_letterAt _ ⟨L, by omega, by (try simp only [upI_a np1, upI_a nc1]); exact hL3⟩) ?_
        rintro _ _ ⟨rfl, rfl⟩
        refine g_callS1 (M' := mX2_ofLetter) (mc' := 0) (ms' := 0) dX0_readFrom_44 l_X0_40 s_mX2_ofLetter f_mX2_ofLetter (Nat.le_of_ble_eq_true rfl) (by decide) (ct_ofLetter _) ?_
        rintro _ _ ⟨rfl, rfl⟩
        refine g_putk dX0_readFrom_47 k_X0_46 rfl (hc.p hi8).1 (hc.p hi8).2 (kOf_lt _) ⟨_, rfl⟩ ?_
        refine g_aload dX0_readFrom_50 rfl ?_
        refine g_iload_n dX0_readFrom_52 rfl ?_
        refine g_puti dX0_readFrom_53 k_X0_50 rfl (hc.p hi8).1 (hc.p hi8).2 rfl rfl ?_
        refine g_aload dX0_readFrom_56 rfl ?_
        refine g_aload_n dX0_readFrom_58 rfl ?_
        refine g_iload_n dX0_readFrom_59 rfl ?_
        refine g_iconst (v := 1) dX0_readFrom_60 (by decide) ?_
        refine g_iadd dX0_readFrom_61 ?_
        refine g_callV1 (M' := mX4_digitAt) (mc' := 0) (ms' := 0) dX0_readFrom_62 l_X0_53 s_mX4_digitAt (by decide) rfl rfl f_mX4_digitAt (Nat.le_of_ble_eq_true rfl) (by decide) (ct_digitAt _ ⟨L, by omega, by (try simp only [upI_a np1, upI_a nc1]); exact hL3⟩) ?_
        rintro _ _ ⟨rfl, rfl⟩
        refine g_puti dX0_readFrom_65 k_X0_56 rfl (hc.p hi8).1 (hc.p hi8).2 rfl rfl ?_
        refine g_aload dX0_readFrom_68 rfl ?_
        refine g_aload_n dX0_readFrom_70 rfl ?_
        refine g_iload_n dX0_readFrom_71 rfl ?_
        refine g_iconst (v := 2) dX0_readFrom_72 (by decide) ?_
        refine g_iadd dX0_readFrom_73 ?_
        refine g_callV1 (M' := mX4_digitAt) (mc' := 0) (ms' := 0) dX0_readFrom_74 l_X0_53 s_mX4_digitAt (by decide) rfl rfl f_mX4_digitAt (Nat.le_of_ble_eq_true rfl) (by decide) (ct_digitAt _ ⟨L, by omega, by (try simp only [upI_a np1, upI_a nc1]); exact hL3⟩) ?_
        rintro _ _ ⟨rfl, rfl⟩
        refine g_puti dX0_readFrom_77 k_X0_59 rfl (hc.p hi8).1 (hc.p hi8).2 rfl rfl ?_
        refine g_aload dX0_readFrom_80 rfl ?_
        refine g_aload_n dX0_readFrom_82 rfl ?_
        refine g_iload_n dX0_readFrom_83 rfl ?_
        refine g_iconst (v := 3) dX0_readFrom_84 (by decide) ?_
        refine g_iadd dX0_readFrom_85 ?_
        refine g_callV1 (M' := mX4_digitAt) (mc' := 0) (ms' := 0) dX0_readFrom_86 l_X0_53 s_mX4_digitAt (by decide) rfl rfl f_mX4_digitAt (Nat.le_of_ble_eq_true rfl) (by decide) (ct_digitAt _ ⟨L, by omega, by (try simp only [upI_a np1, upI_a nc1]); exact hL3⟩) ?_
        rintro _ _ ⟨rfl, rfl⟩
        refine g_puti dX0_readFrom_89 k_X0_62 rfl (hc.p hi8).1 (hc.p hi8).2 rfl rfl ?_
        refine g_aload dX0_readFrom_92 rfl ?_
        refine g_iconst (v := -1) dX0_readFrom_94 (by decide) ?_
        refine g_puti dX0_readFrom_95 k_X0_65 rfl (hc.p hi8).1 (hc.p hi8).2 rfl rfl ?_
        refine g_aload dX0_readFrom_98 rfl ?_
        refine g_callV0 (M' := mX5_clearShown) (mc' := 0) (ms' := 0) dX0_readFrom_100 l_X0_68 s_mX5_clearShown (hc.p hi8).1 (hc.p hi8).2 rfl f_mX5_clearShown (Nat.le_of_ble_eq_true rfl) (by decide) (ct_clearShown (hc.p hi8)) ?_
        rintro _ _ ⟨rfl, rfl⟩
        refine g_aload_n dX0_readFrom_103 rfl ?_
        refine g_dup dX0_readFrom_104 rfl ?_
        refine g_geti dX0_readFrom_105 k_X0_27 rfl hc.o.1 hc.o.2 ?_
        refine g_iconst (v := 1) dX0_readFrom_108 (by decide) ?_
        refine g_iadd dX0_readFrom_109 ?_
        refine g_puti dX0_readFrom_110 k_X0_27 rfl hc.o.1 hc.o.2 rfl rfl ?_
        refine g_iload_n dX0_readFrom_113 rfl ?_
        refine g_ifne 125 dX0_readFrom_114 (by decide) (fun c114 => ?_) (fun c114 => ?_)
        · skip
          refine g_aload_n dX0_readFrom_125 rfl ?_
          refine g_iload_n dX0_readFrom_126 rfl ?_
          refine g_iconst (v := 4) dX0_readFrom_127 (by decide) ?_
          refine g_iadd dX0_readFrom_128 ?_
          refine g_callV1 (M' := mX4_endsSideAt) (mc' := 0) (ms' := 0) dX0_readFrom_129 l_X0_74 s_mX4_endsSideAt (by decide) rfl rfl f_mX4_endsSideAt (Nat.le_of_ble_eq_true rfl) (by decide) (ct_endsSideAt _ ⟨L, by omega, by (try simp only [upI_a np1, upI_a nc1]); exact hL3⟩) ?_
          rintro _ _ ⟨rfl, rfl⟩
          refine g_ifeq 137 dX0_readFrom_132 (by decide) (fun c132 => ?_) (fun c132 => ?_)
          · skip
            refine g_iinc dX0_readFrom_137 rfl (nI_inc5a i) (by decide) rfl rfl ?_
            refine g_goto 9 dX0_readFrom_140 (by decide) ?_
            refine g_hi (f := rdF hi c (i + 1)) ?_ (ih (i + 1) (by omega) (by omega) _ _ ?_ rfl)
            · simp only [lAt_up np1 np2, hla, upI_a npc, rd_size, upI_s, nI_1]
              exact rd_step h3 rfl hsd rfl (by rw [show (2 : Int32) = nI 2 from rfl, nI_add]) (by rw [show (3 : Int32) = nI 3 from rfl, nI_add]) (hsd ▸ c114)
            · rw [rdSide_s, if_neg (by have z := of_decide_eq_false (bI_0.mp c132); simp only [lAt_up np1 np2, lAt_up nc1 nc2, hla] at z; rw [show (4 : Int32) = nI 4 from rfl, nI_add] at z; exact z)]; exact hsd
          · skip
            refine g_iconst (v := 1) dX0_readFrom_135 (by decide) ?_
            refine g_istore_n dX0_readFrom_136 (by decide) rfl rfl ?_
            refine g_iinc dX0_readFrom_137 rfl (nI_inc5a i) (by decide) rfl rfl ?_
            refine g_goto 9 dX0_readFrom_140 (by decide) ?_
            refine g_hi (f := rdF hi c (i + 1)) ?_ (ih (i + 1) (by omega) (by omega) _ _ ?_ rfl)
            · simp only [lAt_up np1 np2, hla, upI_a npc, rd_size, upI_s, nI_1]
              exact rd_step h3 rfl hsd rfl (by rw [show (2 : Int32) = nI 2 from rfl, nI_add]) (by rw [show (3 : Int32) = nI 3 from rfl, nI_add]) (hsd ▸ c114)
            · rw [rdSide_s, if_pos (by have z := of_decide_eq_true (bI_n.mp c132); simp only [lAt_up np1 np2, lAt_up nc1 nc2, hla] at z; rw [show (4 : Int32) = nI 4 from rfl, nI_add] at z; exact z)]
        · skip
          refine g_aload_n dX0_readFrom_117 rfl ?_
          refine g_aload_n dX0_readFrom_118 rfl ?_
          refine g_geti dX0_readFrom_119 k_X0_27 rfl hc.o.1 hc.o.2 ?_
          refine g_puti dX0_readFrom_122 k_X0_71 rfl hc.o.1 hc.o.2 rfl rfl ?_
          refine g_aload_n dX0_readFrom_125 rfl ?_
          refine g_iload_n dX0_readFrom_126 rfl ?_
          refine g_iconst (v := 4) dX0_readFrom_127 (by decide) ?_
          refine g_iadd dX0_readFrom_128 ?_
          refine g_callV1 (M' := mX4_endsSideAt) (mc' := 0) (ms' := 0) dX0_readFrom_129 l_X0_74 s_mX4_endsSideAt (by decide) rfl rfl f_mX4_endsSideAt (Nat.le_of_ble_eq_true rfl) (by decide) (ct_endsSideAt _ ⟨L, by omega, by (try simp only [upI_a np1, upI_a nc1]); exact hL3⟩) ?_
          rintro _ _ ⟨rfl, rfl⟩
          refine g_ifeq 137 dX0_readFrom_132 (by decide) (fun c132 => ?_) (fun c132 => ?_)
          · skip
            refine g_iinc dX0_readFrom_137 rfl (nI_inc5a i) (by decide) rfl rfl ?_
            refine g_goto 9 dX0_readFrom_140 (by decide) ?_
            refine g_hi (f := rdF hi c (i + 1)) ?_ (ih (i + 1) (by omega) (by omega) _ _ ?_ rfl)
            · simp only [lAt_up np1 np2, hla, upI_a npc, rd_size, upI_s, nI_1]
              exact rd_stepF h3 rfl hsd rfl (by rw [show (2 : Int32) = nI 2 from rfl, nI_add]) (by rw [show (3 : Int32) = nI 3 from rfl, nI_add]) (hsd ▸ c114)
            · rw [rdSide_s, if_neg (by have z := of_decide_eq_false (bI_0.mp c132); simp only [lAt_up np1 np2, lAt_up nc1 nc2, hla] at z; rw [show (4 : Int32) = nI 4 from rfl, nI_add] at z; exact z)]; exact hsd
          · skip
            refine g_iconst (v := 1) dX0_readFrom_135 (by decide) ?_
            refine g_istore_n dX0_readFrom_136 (by decide) rfl rfl ?_
            refine g_iinc dX0_readFrom_137 rfl (nI_inc5a i) (by decide) rfl rfl ?_
            refine g_goto 9 dX0_readFrom_140 (by decide) ?_
            refine g_hi (f := rdF hi c (i + 1)) ?_ (ih (i + 1) (by omega) (by omega) _ _ ?_ rfl)
            · simp only [lAt_up np1 np2, hla, upI_a npc, rd_size, upI_s, nI_1]
              exact rd_stepF h3 rfl hsd rfl (by rw [show (2 : Int32) = nI 2 from rfl, nI_add]) (by rw [show (3 : Int32) = nI 3 from rfl, nI_add]) (hsd ▸ c114)
            · rw [rdSide_s, if_pos (by have z := of_decide_eq_true (bI_n.mp c132); simp only [lAt_up np1 np2, lAt_up nc1 nc2, hla] at z; rw [show (4 : Int32) = nI 4 from rfl, nI_add] at z; exact z)]

set_option maxRecDepth 100000 in
set_option maxHeartbeats 4000000 in
theorem ct_readFrom {c : Nat} (hc : isC c) {L N : Nat} (hN8 : N ≤ 8) (hLN : L + 1 = 5 * N) (hL2 : hi 1 1 = nI L) : MC E l 3 mX0_readFrom [.ref c, .ref 1] 83 (hi, hl, RT) 0 0 (fun r h' => r = none ∧ h' = (upI (upI (upI (upI (upI (upI (upI (rdF hi c N) c 4 9) c 5 0) c 6 0) c 7 0) c 8 0) c 9 0) (c + 2) 3 0, hl, RT)) := by
  refine MC.of [some (.ref c), some (.ref 1), none, none, none] (by decide) rfl (Nat.le_of_ble_eq_true rfl) ?_
  refine g_iconst (v := 0) dX0_readFrom_0 (by decide) ?_
  refine g_istore_n dX0_readFrom_1 (by decide) rfl rfl ?_
  refine g_aload_n dX0_readFrom_2 rfl ?_
  refine g_iconst (v := 0) dX0_readFrom_3 (by decide) ?_
  refine g_puti dX0_readFrom_4 k_X0_27 rfl hc.o.1 hc.o.2 rfl rfl ?_
  refine g_iconst (v := 0) dX0_readFrom_7 (by decide) ?_
  refine g_istore_n dX0_readFrom_8 (by decide) rfl rfl ?_
  exact g_hi (rd_0 c) (lp_readFrom hc hN8 hLN hL2 (N + 1) 0 (by omega) (by omega) 0 none rfl rfl)

end
