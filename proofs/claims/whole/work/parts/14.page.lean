section
variable {E : XE} {l : Launch} {hi : Nat → Nat → Int32} {hl : Nat → Nat → Int64}

/-- the first fault of the page: n places left, at q, on the second side or not, so many on this side -/
def ffS (hi : Nat → Nat → Int32) (L : Nat) : Nat → Nat → Bool → Nat → Int32
  | 0, _, _, _ => nI L
  | n + 1, q, s, o => if q % 5 = 4 then (if lAt hi (nI q) = 59 ∧ s = false then ffS hi L n (q + 1) true 0 else if hi 2 q = 44 ∧ o + 1 < 4 then ffS hi L n (q + 1) s (o + 1) else nI q) else if pFit (nI (q % 5)) (hi 2 q) = true then ffS hi L n (q + 1) s o else nI q

set_option maxRecDepth 100000 in
set_option maxHeartbeats 4000000 in
theorem lp_firstFault {L : Nat} (hL1 : L ≤ 41) (hL2 : hi 1 1 = nI L) : ∀ (n q o : Nat) (s : Bool) (l4 : Option Value), q + n = L → o ≤ q → xcat2 l4 = false → G E l 4 mX4_firstFault 6 [some (.ref 1), some (.int (bI s)), some (.int (nI o)), some (.int (nI q)), l4] [] 83 (hi, hl, RT) 0 0 (fun r h' => r = some (.int (ffS hi L n q s o)) ∧ h' = (hi, hl, RT)) := by
  intro n
  induction n with
  | zero =>
    intro q o s l4 hq ho hx
    refine g_iload_n dX4_firstFault_6 rfl ?_
    refine g_aload_n dX4_firstFault_7 rfl ?_
    refine g_geti dX4_firstFault_8 k_X4_15 rfl (by decide) rfl ?_
    refine g_icmpge 87 dX4_firstFault_11 (by decide) (fun c11 => ?_) (fun c11 => ?_)
    · skip
      refine g_aload_n dX4_firstFault_87 rfl ?_
      refine g_geti dX4_firstFault_88 k_X4_15 rfl (by decide) rfl ?_
      exact g_ireturn dX4_firstFault_91 rfl rfl ⟨by show some (Value.int (hi 1 1)) = _; rw [hL2]; rfl, rfl⟩
    · skip
      exact absurd (by show hi 1 1 ≤ nI q; rw [hL2]; exact nI_le (by omega) (by omega)) c11
  | succ n ih =>
    intro q o s l4 hq ho hx
    have hq41 : q < 41 := by omega
    have ecl : (nI q).toNatClampNeg = q := nI_clamp (by omega)
    have hrem : nI q - nI q / 5 * 5 = nI (q % 5) := pk_rem (d := 5) (by omega) (by decide) (by decide)
    have h4 : nI (q % 5) = 4 ↔ q % 5 = 4 := nI_eq (b := 4) (by omega) (by decide)
    refine g_iload_n dX4_firstFault_6 rfl ?_
    refine g_aload_n dX4_firstFault_7 rfl ?_
    refine g_geti dX4_firstFault_8 k_X4_15 rfl (by decide) rfl ?_
    refine g_icmpge 87 dX4_firstFault_11 (by decide) (fun c11 => ?_) (fun c11 => ?_)
    · skip
      exact absurd (ge_out hL2 c11 (by omega) (by omega)) (by omega)
    · skip
      refine g_iload_n dX4_firstFault_14 rfl ?_
      refine g_iconst (v := 5) dX4_firstFault_15 (by decide) ?_
      refine g_irem dX4_firstFault_16 (by decide) ?_
      rw [hrem]
      refine g_istore dX4_firstFault_17 (by decide) rfl rfl ?_
      refine g_iload dX4_firstFault_19 rfl ?_
      refine g_iconst (v := 4) dX4_firstFault_21 (by decide) ?_
      refine g_icmpeq 41 dX4_firstFault_22 (by decide) (fun c22 => ?_) (fun c22 => ?_)
      · skip
        refine g_iinc dX4_firstFault_41 rfl (nI_inc o) (by decide) rfl rfl ?_
        refine g_aload_n dX4_firstFault_44 rfl ?_
        refine g_iload_n dX4_firstFault_45 rfl ?_
        refine g_callV1 (M' := mX4_endsSideAt) (mc' := 0) (ms' := 0) dX4_firstFault_46 l_X4_27 s_mX4_endsSideAt (by decide) rfl rfl f_mX4_endsSideAt (Nat.le_of_ble_eq_true rfl) (by decide) (ct_endsSideAt _ ⟨L, hL1, hL2⟩) ?_
        rintro _ _ ⟨rfl, rfl⟩
        refine g_ifeq 63 dX4_firstFault_49 (by decide) (fun c49 => ?_) (fun c49 => ?_)
        · skip
          refine g_aload_n dX4_firstFault_63 rfl ?_
          refine g_getr dX4_firstFault_64 k_X4_9 rfl (by decide) rfl rfl ?_
          refine g_iload_n dX4_firstFault_67 rfl ?_
          refine g_iald dX4_firstFault_68 (by decide) rfl (vp_in_nI hq41 (by decide)) ?_
          refine g_bipush (v := 44) dX4_firstFault_69 (by decide) ?_
          refine g_icmpne 79 dX4_firstFault_71 (by decide) (fun c71 => ?_) (fun c71 => ?_)
          · skip
            refine g_iload_n dX4_firstFault_79 rfl ?_
            exact g_ireturn dX4_firstFault_80 rfl rfl ⟨by rw [ffS, if_pos (h4.mp c22), if_neg (fun z => of_decide_eq_false (bI_0.mp c49) z.1), if_neg (fun z => c71 (by rw [ecl]; exact z.1))], rfl⟩
          · skip
            refine g_iload_n dX4_firstFault_74 rfl ?_
            refine g_iconst (v := 4) dX4_firstFault_75 (by decide) ?_
            refine g_icmplt 81 dX4_firstFault_76 (by decide) (fun c76 => ?_) (fun c76 => ?_)
            · skip
              refine g_iinc dX4_firstFault_81 rfl (nI_inc q) (by decide) rfl rfl ?_
              refine g_goto 6 dX4_firstFault_84 (by decide) ?_
              have hff : ffS hi L (n + 1) q s o = ffS hi L n (q + 1) s (o + 1) := by rw [ffS, if_pos (h4.mp c22), if_neg (fun z => of_decide_eq_false (bI_0.mp c49) z.1), if_pos ⟨by rw [← ecl]; exact c71, (nI_ltI (b := 4) (by omega) (by decide)).mp c76⟩]
              rw [hff]
              exact ih (q + 1) (o + 1) s _ (by omega) (by omega) rfl
            · skip
              refine g_iload_n dX4_firstFault_79 rfl ?_
              exact g_ireturn dX4_firstFault_80 rfl rfl ⟨by rw [ffS, if_pos (h4.mp c22), if_neg (fun z => of_decide_eq_false (bI_0.mp c49) z.1), if_neg (fun z => c76 (nI_lt (b := 4) z.2 (by decide)))], rfl⟩
        · skip
          refine g_iload_n dX4_firstFault_52 rfl ?_
          refine g_ifne 63 dX4_firstFault_53 (by decide) (fun c53 => ?_) (fun c53 => ?_)
          · skip
            refine g_aload_n dX4_firstFault_63 rfl ?_
            refine g_getr dX4_firstFault_64 k_X4_9 rfl (by decide) rfl rfl ?_
            refine g_iload_n dX4_firstFault_67 rfl ?_
            refine g_iald dX4_firstFault_68 (by decide) rfl (vp_in_nI hq41 (by decide)) ?_
            refine g_bipush (v := 44) dX4_firstFault_69 (by decide) ?_
            refine g_icmpne 79 dX4_firstFault_71 (by decide) (fun c71 => ?_) (fun c71 => ?_)
            · skip
              refine g_iload_n dX4_firstFault_79 rfl ?_
              exact g_ireturn dX4_firstFault_80 rfl rfl ⟨by rw [ffS, if_pos (h4.mp c22), if_neg (fun z => absurd (bI_n.mp c53) (by rw [z.2]; decide)), if_neg (fun z => c71 (by rw [ecl]; exact z.1))], rfl⟩
            · skip
              refine g_iload_n dX4_firstFault_74 rfl ?_
              refine g_iconst (v := 4) dX4_firstFault_75 (by decide) ?_
              refine g_icmplt 81 dX4_firstFault_76 (by decide) (fun c76 => ?_) (fun c76 => ?_)
              · skip
                refine g_iinc dX4_firstFault_81 rfl (nI_inc q) (by decide) rfl rfl ?_
                refine g_goto 6 dX4_firstFault_84 (by decide) ?_
                have hff : ffS hi L (n + 1) q s o = ffS hi L n (q + 1) s (o + 1) := by rw [ffS, if_pos (h4.mp c22), if_neg (fun z => absurd (bI_n.mp c53) (by rw [z.2]; decide)), if_pos ⟨by rw [← ecl]; exact c71, (nI_ltI (b := 4) (by omega) (by decide)).mp c76⟩]
                rw [hff]
                exact ih (q + 1) (o + 1) s _ (by omega) (by omega) rfl
              · skip
                refine g_iload_n dX4_firstFault_79 rfl ?_
                exact g_ireturn dX4_firstFault_80 rfl rfl ⟨by rw [ffS, if_pos (h4.mp c22), if_neg (fun z => absurd (bI_n.mp c53) (by rw [z.2]; decide)), if_neg (fun z => c76 (nI_lt (b := 4) z.2 (by decide)))], rfl⟩
          · skip
            refine g_iconst (v := 1) dX4_firstFault_56 (by decide) ?_
            refine g_istore_n dX4_firstFault_57 (by decide) rfl rfl ?_
            refine g_iconst (v := 0) dX4_firstFault_58 (by decide) ?_
            refine g_istore_n dX4_firstFault_59 (by decide) rfl rfl ?_
            refine g_goto 81 dX4_firstFault_60 (by decide) ?_
            refine g_iinc dX4_firstFault_81 rfl (nI_inc q) (by decide) rfl rfl ?_
            refine g_goto 6 dX4_firstFault_84 (by decide) ?_
            have hs : s = false := bI_0.mp c53
            have hff : ffS hi L (n + 1) q s o = ffS hi L n (q + 1) true 0 := by rw [ffS, if_pos (h4.mp c22), if_pos ⟨of_decide_eq_true (bI_n.mp c49), hs⟩]
            rw [hff]
            exact ih (q + 1) 0 true _ (by omega) (by omega) rfl
      · skip
        refine g_iload dX4_firstFault_25 rfl ?_
        refine g_aload_n dX4_firstFault_27 rfl ?_
        refine g_getr dX4_firstFault_28 k_X4_9 rfl (by decide) rfl rfl ?_
        refine g_iload_n dX4_firstFault_31 rfl ?_
        refine g_iald dX4_firstFault_32 (by decide) rfl (vp_in_nI hq41 (by decide)) ?_
        rw [ecl]
        refine g_callS2 (M' := mX4_fitsPerson) (mc' := 0) (ms' := 0) dX4_firstFault_33 l_X4_23 s_mX4_fitsPerson f_mX4_fitsPerson (Nat.le_of_ble_eq_true rfl) (by decide) (ct_fitsPerson _ _) ?_
        rintro _ _ ⟨rfl, rfl⟩
        refine g_ifne 81 dX4_firstFault_36 (by decide) (fun c36 => ?_) (fun c36 => ?_)
        · skip
          refine g_iinc dX4_firstFault_81 rfl (nI_inc q) (by decide) rfl rfl ?_
          refine g_goto 6 dX4_firstFault_84 (by decide) ?_
          have hff : ffS hi L (n + 1) q s o = ffS hi L n (q + 1) s o := by rw [ffS, if_neg (fun z => c22 (h4.mpr z)), if_pos (bI_n.mp c36)]
          rw [hff]
          exact ih (q + 1) o s _ (by omega) (by omega) rfl
        · skip
          refine g_iload_n dX4_firstFault_39 rfl ?_
          exact g_ireturn dX4_firstFault_40 rfl rfl ⟨by rw [ffS, if_neg (fun z => c22 (h4.mpr z)), if_neg (by rw [bI_0.mp c36]; decide)], rfl⟩

set_option maxRecDepth 100000 in
set_option maxHeartbeats 4000000 in
theorem ct_firstFault {L : Nat} (hL1 : L ≤ 41) (hL2 : hi 1 1 = nI L) : MC E l 4 mX4_firstFault [.ref 1] 83 (hi, hl, RT) 0 0 (fun r h' => r = some (.int (ffS hi L L 0 false 0)) ∧ h' = (hi, hl, RT)) := by
  refine MC.of [some (.ref 1), none, none, none, none] (by decide) rfl (Nat.le_of_ble_eq_true rfl) ?_
  refine g_iconst (v := 0) dX4_firstFault_0 (by decide) ?_
  refine g_istore_n dX4_firstFault_1 (by decide) rfl rfl ?_
  refine g_iconst (v := 0) dX4_firstFault_2 (by decide) ?_
  refine g_istore_n dX4_firstFault_3 (by decide) rfl rfl ?_
  refine g_iconst (v := 0) dX4_firstFault_4 (by decide) ?_
  refine g_istore_n dX4_firstFault_5 (by decide) rfl rfl ?_
  exact lp_firstFault hL1 hL2 L 0 0 false none (by omega) (by omega) rfl

theorem h2_in {L i : Nat} {x : Int32} (hL : L ≤ 41) (hx : x = nI L) (c : ¬ x ≤ nI (5 * i + 4)) (hi : i ≤ L / 5) : i < L / 5 := by
  have := lt_in hx c (by omega) (by omega)
  omega
theorem h2_out {L i : Nat} {x : Int32} (hL : L ≤ 41) (hx : x = nI L) (c : x ≤ nI (5 * i + 4)) (hi : i ≤ L / 5) : i = L / 5 := by
  have := ge_out hx c (by omega) (by omega)
  omega
theorem nI_inc5 (i : Nat) : nI (5 * i + 4) + Int32.ofInt 5 = nI (5 * (i + 1) + 4) := by
  rw [show Int32.ofInt 5 = nI 5 from by decide, nI_add]
  exact congrArg nI (by omega)

set_option maxRecDepth 100000 in
set_option maxHeartbeats 4000000 in
theorem lp_hasTwoSides {L : Nat} (hL1 : L ≤ 41) (hL2 : hi 1 1 = nI L) : ∀ (n i : Nat), i ≤ L / 5 → L / 5 + 1 ≤ i + n → ∀ (_u : Unit), allB (fun j => !decide (lAt hi (nI (5 * j + 4)) = 59)) i = true → G E l 3 mX4_hasTwoSides 2 [some (.ref 1), some (.int (nI (5 * i + 4)))] [] 83 (hi, hl, RT) 0 0 (fun r h' => r = some (.int (bI (!allB (fun j => !decide (lAt hi (nI (5 * j + 4)) = 59)) (L / 5)))) ∧ h' = (hi, hl, RT)) := by
  intro n
  induction n with
  | zero =>
    intro i h1 h2
    exact absurd h2 (by omega)
  | succ n ih =>
    intro i hi1 hi2 _u hal
    refine g_iload_n dX4_hasTwoSides_2 rfl ?_
    refine g_aload_n dX4_hasTwoSides_3 rfl ?_
    refine g_geti dX4_hasTwoSides_4 k_X4_15 rfl (by decide) rfl ?_
    refine g_icmpge 26 dX4_hasTwoSides_7 (by decide) (fun c7 => ?_) (fun c7 => ?_)
    · skip
      have hiN := h2_out hL1 hL2 c7 hi1
      refine g_iconst (v := 0) dX4_hasTwoSides_26 (by decide) ?_
      exact g_ireturn dX4_hasTwoSides_27 rfl rfl ⟨by rw [← hiN, hal]; rfl, rfl⟩
    · skip
      have hlt := h2_in hL1 hL2 c7 hi1
      refine g_aload_n dX4_hasTwoSides_10 rfl ?_
      refine g_iload_n dX4_hasTwoSides_11 rfl ?_
      refine g_callV1 (M' := mX4_endsSideAt) (mc' := 0) (ms' := 0) dX4_hasTwoSides_12 l_X4_27 s_mX4_endsSideAt (by decide) rfl rfl f_mX4_endsSideAt (Nat.le_of_ble_eq_true rfl) (by decide) (ct_endsSideAt _ ⟨L, hL1, hL2⟩) ?_
      rintro _ _ ⟨rfl, rfl⟩
      refine g_ifeq 20 dX4_hasTwoSides_15 (by decide) (fun c15 => ?_) (fun c15 => ?_)
      · skip
        refine g_iinc dX4_hasTwoSides_20 rfl (nI_inc5 i) (by decide) rfl rfl ?_
        refine g_goto 2 dX4_hasTwoSides_23 (by decide) ?_
        exact ih (i + 1) (by omega) (by omega) () (by rw [allB, hal]; simp [of_decide_eq_false (bI_0.mp c15)])
      · skip
        refine g_iconst (v := 1) dX4_hasTwoSides_18 (by decide) ?_
        exact g_ireturn dX4_hasTwoSides_19 rfl rfl ⟨by rw [allB_no (i := i) (by simp [of_decide_eq_true (bI_n.mp c15)]) hlt]; rfl, rfl⟩

set_option maxRecDepth 100000 in
set_option maxHeartbeats 4000000 in
theorem ct_hasTwoSides {L : Nat} (hL1 : L ≤ 41) (hL2 : hi 1 1 = nI L) : MC E l 3 mX4_hasTwoSides [.ref 1] 83 (hi, hl, RT) 0 0 (fun r h' => r = some (.int (bI (!allB (fun j => !decide (lAt hi (nI (5 * j + 4)) = 59)) (L / 5)))) ∧ h' = (hi, hl, RT)) := by
  refine MC.of [some (.ref 1), none] (by decide) rfl (Nat.le_of_ble_eq_true rfl) ?_
  refine g_iconst (v := 4) dX4_hasTwoSides_0 (by decide) ?_
  refine g_istore_n dX4_hasTwoSides_1 (by decide) rfl rfl ?_
  exact lp_hasTwoSides hL1 hL2 (L / 5 + 1) 0 (by omega) (by omega) () rfl

def seaB (hi : Nat → Nat → Int32) (L : Nat) : Bool := decide (ffS hi L L 0 false 0 = nI L) && (decide (L % 5 = 4) && !allB (fun j => !decide (lAt hi (nI (5 * j + 4)) = 59)) (L / 5))
set_option maxRecDepth 100000 in
set_option maxHeartbeats 4000000 in
theorem ct_isSea {L : Nat} (hL1 : L ≤ 41) (hL2 : hi 1 1 = nI L) : MC E l 5 mX4_isSea [.ref 1] 83 (hi, hl, RT) 0 0 (fun r h' => r = some (.int (bI (seaB hi L))) ∧ h' = (hi, hl, RT)) := by
  refine MC.of [some (.ref 1)] (by decide) rfl (Nat.le_of_ble_eq_true rfl) ?_
  have hrem : nI L - nI L / 5 * 5 = nI (L % 5) := pk_rem (d := 5) (by omega) (by decide) (by decide)
  have h4 : nI (L % 5) = 4 ↔ L % 5 = 4 := nI_eq (b := 4) (by omega) (by decide)
  refine g_aload_n dX4_isSea_0 rfl ?_
  refine g_callV0 (M' := mX4_firstFault) (mc' := 0) (ms' := 0) dX4_isSea_1 l_X4_31 s_mX4_firstFault (by decide) rfl rfl f_mX4_firstFault (Nat.le_of_ble_eq_true rfl) (by decide) (ct_firstFault hL1 hL2) ?_
  rintro _ _ ⟨rfl, rfl⟩
  skip
  refine g_aload_n dX4_isSea_4 rfl ?_
  refine g_geti dX4_isSea_5 k_X4_15 rfl (by decide) rfl ?_
  refine g_icmpne 32 dX4_isSea_8 (by decide) (fun c8 => ?_) (fun c8 => ?_)
  · skip
    refine g_iconst (v := 0) dX4_isSea_32 (by decide) ?_
    exact g_ireturn dX4_isSea_33 rfl rfl ⟨by
      have e8 : (hi, hl, RT).1 1 1 = nI L := hL2
      have z : ¬ ffS hi L L 0 false 0 = nI L := by rw [← hL2]; exact c8
      simp [seaB, bI, z], rfl⟩
  · skip
    refine g_aload_n dX4_isSea_11 rfl ?_
    refine g_geti dX4_isSea_12 k_X4_15 rfl (by decide) rfl ?_
    refine g_iconst (v := 5) dX4_isSea_15 (by decide) ?_
    refine g_irem dX4_isSea_16 (by decide) ?_
    refine g_iconst (v := 4) dX4_isSea_17 (by decide) ?_
    refine g_icmpne 32 dX4_isSea_18 (by decide) (fun c18 => ?_) (fun c18 => ?_)
    · skip
      refine g_iconst (v := 0) dX4_isSea_32 (by decide) ?_
      exact g_ireturn dX4_isSea_33 rfl rfl ⟨by
      have e8 : (hi, hl, RT).1 1 1 = nI L := hL2
      have z : ¬ L % 5 = 4 := fun q => c18 (by rw [e8, hrem]; exact h4.mpr q)
      simp [seaB, bI, z], rfl⟩
    · skip
      refine g_aload_n dX4_isSea_21 rfl ?_
      refine g_callV0 (M' := mX4_hasTwoSides) (mc' := 0) (ms' := 0) dX4_isSea_22 l_X4_35 s_mX4_hasTwoSides (by decide) rfl rfl f_mX4_hasTwoSides (Nat.le_of_ble_eq_true rfl) (by decide) (ct_hasTwoSides hL1 hL2) ?_
      rintro _ _ ⟨rfl, rfl⟩
      refine g_ifeq 32 dX4_isSea_25 (by decide) (fun c25 => ?_) (fun c25 => ?_)
      · skip
        refine g_iconst (v := 0) dX4_isSea_32 (by decide) ?_
        exact g_ireturn dX4_isSea_33 rfl rfl ⟨by
      have e8 : (hi, hl, RT).1 1 1 = nI L := hL2
      have z := bI_0.mp c25
      simp only [seaB, z, Bool.and_false]; rfl, rfl⟩
      · skip
        refine g_iconst (v := 1) dX4_isSea_28 (by decide) ?_
        refine g_goto 33 dX4_isSea_29 (by decide) ?_
        exact g_ireturn dX4_isSea_33 rfl rfl ⟨by
      have e8 : (hi, hl, RT).1 1 1 = nI L := hL2
      have z := bI_n.mp c25
      have z1 : ffS hi L L 0 false 0 = nI L := by rw [← hL2]; exact c8
      have z2 : L % 5 = 4 := h4.mp (by rw [← hrem, ← e8]; exact c18)
      simp only [seaB, z, z1, z2, decide_true, Bool.and_true]; rfl, rfl⟩

end
