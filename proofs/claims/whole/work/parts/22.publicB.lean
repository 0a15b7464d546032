section
variable {E : XE} {l : Launch} {hi : Nat → Nat → Int32} {hl : Nat → Nat → Int64}

set_option maxRecDepth 100000 in
set_option maxHeartbeats 4000000 in
theorem ct_showX1 {N : Nat} (hN8 : N ≤ 8) (hN : hi 3 3 = nI N) (x y : Int32) (hx : noP x N) : MC E l 2 mX9_show [.ref 0, .int (x), .int (y)] 83 (hi, hl, RT) 0 0 (fun r h' => r = some (.int (-101)) ∧ h' = (hi, hl, RT)) := by
  refine MC.of [some (.ref 0), some (.int (x)), some (.int (y)), none, none] (by decide) rfl (Nat.le_of_ble_eq_true rfl) ?_
  refine g_aload_n dX9_show_0 rfl ?_
  refine g_getr dX9_show_1 k_X9_19 rfl (by decide) rfl rfl ?_
  refine g_iload_n dX9_show_4 rfl ?_
  refine g_callV1 dX9_show_5 l_X9_77 s_mX0_has (by decide) rfl rfl f_mX0_has (Nat.le_of_ble_eq_true rfl) (by decide) (ct_hasN isC3 hN hx) ?_
  rintro _ _ ⟨rfl, rfl⟩
  refine g_ifeq 22 dX9_show_8 (by decide) (fun _ => ?_) (fun c => absurd c (by decide))
  refine g_bipush (v := -101) dX9_show_22 (by decide) ?_
  exact g_ireturn dX9_show_24 rfl rfl ⟨rfl, rfl⟩

set_option maxRecDepth 100000 in
set_option maxHeartbeats 4000000 in
theorem ct_showX2 {N : Nat} (hN8 : N ≤ 8) (hN : hi 3 3 = nI N) {i : Nat} (hi1 : i < N) (y : Int32) (hy : noP y N) : MC E l 2 mX9_show [.ref 0, .int (nI i), .int (y)] 83 (hi, hl, RT) 0 0 (fun r h' => r = some (.int (-101)) ∧ h' = (hi, hl, RT)) := by
  refine MC.of [some (.ref 0), some (.int (nI i)), some (.int (y)), none, none] (by decide) rfl (Nat.le_of_ble_eq_true rfl) ?_
  refine g_aload_n dX9_show_0 rfl ?_
  refine g_getr dX9_show_1 k_X9_19 rfl (by decide) rfl rfl ?_
  refine g_iload_n dX9_show_4 rfl ?_
  refine g_callV1 dX9_show_5 l_X9_77 s_mX0_has (by decide) rfl rfl f_mX0_has (Nat.le_of_ble_eq_true rfl) (by decide) (ct_hasY isC3 hN8 hN hi1) ?_
  rintro _ _ ⟨rfl, rfl⟩
  refine g_ifeq 22 dX9_show_8 (by decide) (fun c => absurd c (by decide)) (fun _ => ?_)
  refine g_aload_n dX9_show_11 rfl ?_
  refine g_getr dX9_show_12 k_X9_19 rfl (by decide) rfl rfl ?_
  refine g_iload_n dX9_show_15 rfl ?_
  refine g_callV1 dX9_show_16 l_X9_77 s_mX0_has (by decide) rfl rfl f_mX0_has (Nat.le_of_ble_eq_true rfl) (by decide) (ct_hasN isC3 hN hy) ?_
  rintro _ _ ⟨rfl, rfl⟩
  refine g_ifne 25 dX9_show_19 (by decide) (fun c => absurd c (by decide)) (fun _ => ?_)
  refine g_bipush (v := -101) dX9_show_22 (by decide) ?_
  exact g_ireturn dX9_show_24 rfl rfl ⟨rfl, rfl⟩

set_option maxRecDepth 100000 in
set_option maxHeartbeats 4000000 in
theorem ct_backX1 {N : Nat} (hN8 : N ≤ 8) (hN : hi 3 3 = nI N) (x y : Int32) (hx : noP x N) : MC E l 2 mX9_back [.ref 0, .int (x), .int (y)] 83 (hi, hl, RT) 0 0 (fun r h' => r = some (.int (-101)) ∧ h' = (hi, hl, RT)) := by
  refine MC.of [some (.ref 0), some (.int (x)), some (.int (y)), none, none, none] (by decide) rfl (Nat.le_of_ble_eq_true rfl) ?_
  refine g_aload_n dX9_back_0 rfl ?_
  refine g_getr dX9_back_1 k_X9_19 rfl (by decide) rfl rfl ?_
  refine g_iload_n dX9_back_4 rfl ?_
  refine g_callV1 dX9_back_5 l_X9_77 s_mX0_has (by decide) rfl rfl f_mX0_has (Nat.le_of_ble_eq_true rfl) (by decide) (ct_hasN isC3 hN hx) ?_
  rintro _ _ ⟨rfl, rfl⟩
  refine g_ifeq 22 dX9_back_8 (by decide) (fun _ => ?_) (fun c => absurd c (by decide))
  refine g_bipush (v := -101) dX9_back_22 (by decide) ?_
  exact g_ireturn dX9_back_24 rfl rfl ⟨rfl, rfl⟩

set_option maxRecDepth 100000 in
set_option maxHeartbeats 4000000 in
theorem ct_backX2 {N : Nat} (hN8 : N ≤ 8) (hN : hi 3 3 = nI N) {i : Nat} (hi1 : i < N) (y : Int32) (hy : noP y N) : MC E l 2 mX9_back [.ref 0, .int (nI i), .int (y)] 83 (hi, hl, RT) 0 0 (fun r h' => r = some (.int (-101)) ∧ h' = (hi, hl, RT)) := by
  refine MC.of [some (.ref 0), some (.int (nI i)), some (.int (y)), none, none, none] (by decide) rfl (Nat.le_of_ble_eq_true rfl) ?_
  refine g_aload_n dX9_back_0 rfl ?_
  refine g_getr dX9_back_1 k_X9_19 rfl (by decide) rfl rfl ?_
  refine g_iload_n dX9_back_4 rfl ?_
  refine g_callV1 dX9_back_5 l_X9_77 s_mX0_has (by decide) rfl rfl f_mX0_has (Nat.le_of_ble_eq_true rfl) (by decide) (ct_hasY isC3 hN8 hN hi1) ?_
  rintro _ _ ⟨rfl, rfl⟩
  refine g_ifeq 22 dX9_back_8 (by decide) (fun c => absurd c (by decide)) (fun _ => ?_)
  refine g_aload_n dX9_back_11 rfl ?_
  refine g_getr dX9_back_12 k_X9_19 rfl (by decide) rfl rfl ?_
  refine g_iload_n dX9_back_15 rfl ?_
  refine g_callV1 dX9_back_16 l_X9_77 s_mX0_has (by decide) rfl rfl f_mX0_has (Nat.le_of_ble_eq_true rfl) (by decide) (ct_hasN isC3 hN hy) ?_
  rintro _ _ ⟨rfl, rfl⟩
  refine g_ifne 25 dX9_back_19 (by decide) (fun c => absurd c (by decide)) (fun _ => ?_)
  refine g_bipush (v := -101) dX9_back_22 (by decide) ?_
  exact g_ireturn dX9_back_24 rfl rfl ⟨rfl, rfl⟩

set_option maxRecDepth 100000 in
set_option maxHeartbeats 4000000 in
theorem ct_meetX1 {N : Nat} (hN8 : N ≤ 8) (hN : hi 3 3 = nI N) (x y : Int32) (hx : noP x N) : MC E l 2 mX9_meet [.ref 0, .int (x), .int (y)] 83 (hi, hl, RT) 0 0 (fun r h' => r = some (.int (-101)) ∧ h' = (hi, hl, RT)) := by
  refine MC.of [some (.ref 0), some (.int (x)), some (.int (y)), none, none] (by decide) rfl (Nat.le_of_ble_eq_true rfl) ?_
  refine g_aload_n dX9_meet_0 rfl ?_
  refine g_getr dX9_meet_1 k_X9_19 rfl (by decide) rfl rfl ?_
  refine g_iload_n dX9_meet_4 rfl ?_
  refine g_callV1 dX9_meet_5 l_X9_77 s_mX0_has (by decide) rfl rfl f_mX0_has (Nat.le_of_ble_eq_true rfl) (by decide) (ct_hasN isC3 hN hx) ?_
  rintro _ _ ⟨rfl, rfl⟩
  refine g_ifeq 22 dX9_meet_8 (by decide) (fun _ => ?_) (fun c => absurd c (by decide))
  refine g_bipush (v := -101) dX9_meet_22 (by decide) ?_
  exact g_ireturn dX9_meet_24 rfl rfl ⟨rfl, rfl⟩

set_option maxRecDepth 100000 in
set_option maxHeartbeats 4000000 in
theorem ct_meetX2 {N : Nat} (hN8 : N ≤ 8) (hN : hi 3 3 = nI N) {i : Nat} (hi1 : i < N) (y : Int32) (hy : noP y N) : MC E l 2 mX9_meet [.ref 0, .int (nI i), .int (y)] 83 (hi, hl, RT) 0 0 (fun r h' => r = some (.int (-101)) ∧ h' = (hi, hl, RT)) := by
  refine MC.of [some (.ref 0), some (.int (nI i)), some (.int (y)), none, none] (by decide) rfl (Nat.le_of_ble_eq_true rfl) ?_
  refine g_aload_n dX9_meet_0 rfl ?_
  refine g_getr dX9_meet_1 k_X9_19 rfl (by decide) rfl rfl ?_
  refine g_iload_n dX9_meet_4 rfl ?_
  refine g_callV1 dX9_meet_5 l_X9_77 s_mX0_has (by decide) rfl rfl f_mX0_has (Nat.le_of_ble_eq_true rfl) (by decide) (ct_hasY isC3 hN8 hN hi1) ?_
  rintro _ _ ⟨rfl, rfl⟩
  refine g_ifeq 22 dX9_meet_8 (by decide) (fun c => absurd c (by decide)) (fun _ => ?_)
  refine g_aload_n dX9_meet_11 rfl ?_
  refine g_getr dX9_meet_12 k_X9_19 rfl (by decide) rfl rfl ?_
  refine g_iload_n dX9_meet_15 rfl ?_
  refine g_callV1 dX9_meet_16 l_X9_77 s_mX0_has (by decide) rfl rfl f_mX0_has (Nat.le_of_ble_eq_true rfl) (by decide) (ct_hasN isC3 hN hy) ?_
  rintro _ _ ⟨rfl, rfl⟩
  refine g_ifne 25 dX9_meet_19 (by decide) (fun c => absurd c (by decide)) (fun _ => ?_)
  refine g_bipush (v := -101) dX9_meet_22 (by decide) ?_
  exact g_ireturn dX9_meet_24 rfl rfl ⟨rfl, rfl⟩

set_option maxRecDepth 100000 in
set_option maxHeartbeats 4000000 in
theorem ct_show (hkv : KV hi) {N : Nat} (hN8 : N ≤ 8) (hN : hi 3 3 = nI N) {i j : Nat} (hi1 : i < N) (hj1 : j < N) : MC E l 5 mX9_show [.ref 0, .int (nI i), .int (nI j)] 83 (hi, hl, RT) 0 0 (fun r h' => (pCan hi (3 + 6 + i) (3 + 6 + j) = false ∧ r = some (.int (-103)) ∧ h' = (hi, hl, RT)) ∨ (pCan hi (3 + 6 + i) (3 + 6 + j) = true ∧ r = some (.int (if pRight hi (3 + 6 + i) (3 + 6 + j) (hi 3 4) = true then (if pMatch (prF hi 3 (3 + 6 + i) (3 + 6 + j)) (3 + 6 + i) (3 + 6 + j) = true then 2 else 1) else 0)) ∧ h' = (prF hi 3 (3 + 6 + i) (3 + 6 + j), hl, RT))) := by
  refine MC.of [some (.ref 0), some (.int (nI i)), some (.int (nI j)), none, none] (by decide) rfl (Nat.le_of_ble_eq_true rfl) ?_
  have hi8 : i < 8 := by omega
  have hj8 : j < 8 := by omega
  refine g_aload_n dX9_show_0 rfl ?_
  refine g_getr dX9_show_1 k_X9_19 rfl (by decide) rfl rfl ?_
  refine g_iload_n dX9_show_4 rfl ?_
  refine g_callV1 dX9_show_5 l_X9_77 s_mX0_has (by decide) rfl rfl f_mX0_has (Nat.le_of_ble_eq_true rfl) (by decide) (ct_hasY isC3 hN8 hN hi1) ?_
  rintro _ _ ⟨rfl, rfl⟩
  refine g_ifeq 22 dX9_show_8 (by decide) (fun c => absurd c (by decide)) (fun _ => ?_)
  refine g_aload_n dX9_show_11 rfl ?_
  refine g_getr dX9_show_12 k_X9_19 rfl (by decide) rfl rfl ?_
  refine g_iload_n dX9_show_15 rfl ?_
  refine g_callV1 dX9_show_16 l_X9_77 s_mX0_has (by decide) rfl rfl f_mX0_has (Nat.le_of_ble_eq_true rfl) (by decide) (ct_hasY isC3 hN8 hN hj1) ?_
  rintro _ _ ⟨rfl, rfl⟩
  refine g_ifne 25 dX9_show_19 (by decide) (fun _ => ?_) (fun c => absurd c (by decide))
  refine g_aload_n dX9_show_25 rfl ?_
  refine g_getr dX9_show_26 k_X9_19 rfl (by decide) rfl rfl ?_
  refine g_getr dX9_show_29 k_X9_80 rfl (by decide) rfl isC3.people ?_
  refine g_iload_n dX9_show_32 rfl ?_
  refine g_aald dX9_show_33 isC3.a1.1 isC3.a1.2 rfl hi8 (by decide) (isC3.rp hi8) ?_
  refine g_astore_n dX9_show_34 (by decide) rfl rfl ?_
  refine g_aload_n dX9_show_35 rfl ?_
  refine g_getr dX9_show_36 k_X9_19 rfl (by decide) rfl rfl ?_
  refine g_getr dX9_show_39 k_X9_80 rfl (by decide) rfl isC3.people ?_
  refine g_iload_n dX9_show_42 rfl ?_
  refine g_aald dX9_show_43 isC3.a1.1 isC3.a1.2 rfl hj8 (by decide) (isC3.rp hj8) ?_
  refine g_astore dX9_show_44 (by decide) rfl rfl ?_
  refine g_aload_n dX9_show_46 rfl ?_
  refine g_aload dX9_show_47 rfl ?_
  refine g_callV1 dX9_show_49 l_X9_117 s_mX5_canBeShown (isC3.p hi8).1 (isC3.p hi8).2 rfl f_mX5_canBeShown (Nat.le_of_ble_eq_true rfl) (by decide) (ct_canBeShown hkv (isC3.p hi8) (isC3.p hj8)) ?_
  rintro _ _ ⟨rfl, rfl⟩
  refine g_ifne 58 dX9_show_52 (by decide) (fun c52 => ?_) (fun c52 => ?_)
  · skip
    refine g_aload_n dX9_show_58 rfl ?_
    refine g_getr dX9_show_59 k_X9_19 rfl (by decide) rfl rfl ?_
    refine g_aload_n dX9_show_62 rfl ?_
    refine g_aload dX9_show_63 rfl ?_
    refine g_callV2 dX9_show_65 l_X9_121 s_mX0_present (by decide) rfl rfl f_mX0_present (Nat.le_of_ble_eq_true rfl) (by decide) (ct_present hkv isC3 (isC3.p hi8) (isC3.p hj8)) ?_
    rintro _ _ ⟨rfl, rfl⟩
    refine g_ifne 73 dX9_show_68 (by decide) (fun c68 => ?_) (fun c68 => ?_)
    · skip
      refine g_aload_n dX9_show_73 rfl ?_
      refine g_aload dX9_show_74 rfl ?_
      refine g_callV1 dX9_show_76 l_X9_125 s_mX5_isMatchOf (isC3.p hi8).1 (isC3.p hi8).2 rfl f_mX5_isMatchOf (Nat.le_of_ble_eq_true rfl) (by decide) (ct_isMatchOf (isC3.p hi8) (isC3.p hj8)) ?_
      rintro _ _ ⟨rfl, rfl⟩
      refine g_ifeq 86 dX9_show_79 (by decide) (fun c79 => ?_) (fun c79 => ?_)
      · skip
        refine g_iconst (v := 1) dX9_show_86 (by decide) ?_
        exact g_ireturn dX9_show_87 rfl rfl (Or.inr ⟨bI_n.mp c52, by rw [if_pos (bI_n.mp c68), if_neg (by rw [bI_0.mp c79]; decide)], rfl⟩)
      · skip
        refine g_iconst (v := 2) dX9_show_82 (by decide) ?_
        refine g_goto 87 dX9_show_83 (by decide) ?_
        exact g_ireturn dX9_show_87 rfl rfl (Or.inr ⟨bI_n.mp c52, by rw [if_pos (bI_n.mp c68), if_pos (bI_n.mp c79)], rfl⟩)
    · skip
      refine g_iconst (v := 0) dX9_show_71 (by decide) ?_
      exact g_ireturn dX9_show_72 rfl rfl (Or.inr ⟨bI_n.mp c52, by rw [if_neg (by rw [bI_0.mp c68]; decide)], rfl⟩)
  · skip
    refine g_bipush (v := -103) dX9_show_55 (by decide) ?_
    exact g_ireturn dX9_show_57 rfl rfl (Or.inl ⟨bI_0.mp c52, rfl, rfl⟩)

set_option maxRecDepth 100000 in
set_option maxHeartbeats 4000000 in
theorem ct_back {N : Nat} (hN8 : N ≤ 8) (hN : hi 3 3 = nI N) {i j : Nat} (hi1 : i < N) (hj1 : j < N) : MC E l 3 mX9_back [.ref 0, .int (nI i), .int (nI j)] 83 (hi, hl, RT) 0 0 (fun r h' => ((pShown hi (3 + 6 + i) (3 + 6 + j) = false ∨ hi (3 + 6 + i) 11 = hi (3 + 6 + j) 0) ∧ r = some (.int (-103)) ∧ h' = (hi, hl, RT)) ∨ ((pShown hi (3 + 6 + i) (3 + 6 + j) = true ∧ ¬ hi (3 + 6 + i) 11 = hi (3 + 6 + j) 0) ∧ r = some (.int (bI (pWent hi (3 + 6 + i) (3 + 6 + j)))) ∧ h' = (upI (upI (upI hi (3 + 6 + i) 7 (hi (3 + 6 + i) 7 &&& (hi (3 + 6 + j) 1 ^^^ -1))) (3 + 6 + i) 8 (hi (3 + 6 + i) 8 &&& (hi (3 + 6 + j) 1 ^^^ -1))) 3 6 (hi 3 6 + 1), hl, RT))) := by
  refine MC.of [some (.ref 0), some (.int (nI i)), some (.int (nI j)), none, none, none] (by decide) rfl (Nat.le_of_ble_eq_true rfl) ?_
  have hi8 : i < 8 := by omega
  have hj8 : j < 8 := by omega
  have np : ¬ 3 = 3 + 6 + i := by omega
  refine g_aload_n dX9_back_0 rfl ?_
  refine g_getr dX9_back_1 k_X9_19 rfl (by decide) rfl rfl ?_
  refine g_iload_n dX9_back_4 rfl ?_
  refine g_callV1 dX9_back_5 l_X9_77 s_mX0_has (by decide) rfl rfl f_mX0_has (Nat.le_of_ble_eq_true rfl) (by decide) (ct_hasY isC3 hN8 hN hi1) ?_
  rintro _ _ ⟨rfl, rfl⟩
  refine g_ifeq 22 dX9_back_8 (by decide) (fun c => absurd c (by decide)) (fun _ => ?_)
  refine g_aload_n dX9_back_11 rfl ?_
  refine g_getr dX9_back_12 k_X9_19 rfl (by decide) rfl rfl ?_
  refine g_iload_n dX9_back_15 rfl ?_
  refine g_callV1 dX9_back_16 l_X9_77 s_mX0_has (by decide) rfl rfl f_mX0_has (Nat.le_of_ble_eq_true rfl) (by decide) (ct_hasY isC3 hN8 hN hj1) ?_
  rintro _ _ ⟨rfl, rfl⟩
  refine g_ifne 25 dX9_back_19 (by decide) (fun _ => ?_) (fun c => absurd c (by decide))
  refine g_aload_n dX9_back_25 rfl ?_
  refine g_getr dX9_back_26 k_X9_19 rfl (by decide) rfl rfl ?_
  refine g_getr dX9_back_29 k_X9_80 rfl (by decide) rfl isC3.people ?_
  refine g_iload_n dX9_back_32 rfl ?_
  refine g_aald dX9_back_33 isC3.a1.1 isC3.a1.2 rfl hi8 (by decide) (isC3.rp hi8) ?_
  refine g_astore_n dX9_back_34 (by decide) rfl rfl ?_
  refine g_aload_n dX9_back_35 rfl ?_
  refine g_getr dX9_back_36 k_X9_19 rfl (by decide) rfl rfl ?_
  refine g_getr dX9_back_39 k_X9_80 rfl (by decide) rfl isC3.people ?_
  refine g_iload_n dX9_back_42 rfl ?_
  refine g_aald dX9_back_43 isC3.a1.1 isC3.a1.2 rfl hj8 (by decide) (isC3.rp hj8) ?_
  refine g_astore dX9_back_44 (by decide) rfl rfl ?_
  refine g_aload_n dX9_back_46 rfl ?_
  refine g_aload dX9_back_47 rfl ?_
  refine g_callV1 dX9_back_49 l_X9_128 s_mX5_wasShown (isC3.p hi8).1 (isC3.p hi8).2 rfl f_mX5_wasShown (Nat.le_of_ble_eq_true rfl) (by decide) (ct_wasShown (isC3.p hi8) (isC3.p hj8)) ?_
  rintro _ _ ⟨rfl, rfl⟩
  refine g_ifeq 64 dX9_back_52 (by decide) (fun c52 => ?_) (fun c52 => ?_)
  · skip
    refine g_bipush (v := -103) dX9_back_64 (by decide) ?_
    exact g_ireturn dX9_back_66 rfl rfl (Or.inl ⟨Or.inl (bI_0.mp c52), rfl, rfl⟩)
  · skip
    refine g_aload_n dX9_back_55 rfl ?_
    refine g_aload dX9_back_56 rfl ?_
    refine g_callV1 dX9_back_58 l_X9_131 s_mX5_isCoupleWith (isC3.p hi8).1 (isC3.p hi8).2 rfl f_mX5_isCoupleWith (Nat.le_of_ble_eq_true rfl) (by decide) (ct_isCoupleWith (isC3.p hi8) (isC3.p hj8)) ?_
    rintro _ _ ⟨rfl, rfl⟩
    refine g_ifeq 67 dX9_back_61 (by decide) (fun c61 => ?_) (fun c61 => ?_)
    · skip
      refine g_aload_n dX9_back_67 rfl ?_
      refine g_aload dX9_back_68 rfl ?_
      refine g_callV1 dX9_back_70 l_X9_134 s_mX5_wentRightOn (isC3.p hi8).1 (isC3.p hi8).2 rfl f_mX5_wentRightOn (Nat.le_of_ble_eq_true rfl) (by decide) (ct_wentRightOn (isC3.p hi8) (isC3.p hj8)) ?_
      rintro _ _ ⟨rfl, rfl⟩
      refine g_ifeq 80 dX9_back_73 (by decide) (fun c73 => ?_) (fun c73 => ?_)
      · skip
        refine g_iconst (v := 0) dX9_back_80 (by decide) ?_
        refine g_istore dX9_back_81 (by decide) rfl rfl ?_
        refine g_aload_n dX9_back_83 rfl ?_
        refine g_aload dX9_back_84 rfl ?_
        refine g_callV1 dX9_back_86 l_X9_137 s_mX5_takeBack (isC3.p hi8).1 (isC3.p hi8).2 rfl f_mX5_takeBack (Nat.le_of_ble_eq_true rfl) (by decide) (ct_takeBack (isC3.p hi8) (isC3.p hj8)) ?_
        rintro _ _ ⟨rfl, rfl⟩
        refine g_aload_n dX9_back_89 rfl ?_
        refine g_getr dX9_back_90 k_X9_19 rfl (by decide) rfl rfl ?_
        refine g_dup dX9_back_93 rfl ?_
        refine g_geti dX9_back_94 k_X9_141 rfl (by decide) rfl ?_
        refine g_iconst (v := 1) dX9_back_97 (by decide) ?_
        refine g_iadd dX9_back_98 ?_
        refine g_puti dX9_back_99 k_X9_141 rfl (by decide) rfl rfl rfl ?_
        refine g_iload dX9_back_102 rfl ?_
        exact g_ireturn dX9_back_104 rfl rfl (Or.inr ⟨⟨bI_n.mp c52, of_decide_eq_false (bI_0.mp c61)⟩, by rw [bI_0.mp c73]; rfl, by simp only [upI_a np]⟩)
      · skip
        refine g_iconst (v := 1) dX9_back_76 (by decide) ?_
        refine g_goto 81 dX9_back_77 (by decide) ?_
        refine g_istore dX9_back_81 (by decide) rfl rfl ?_
        refine g_aload_n dX9_back_83 rfl ?_
        refine g_aload dX9_back_84 rfl ?_
        refine g_callV1 dX9_back_86 l_X9_137 s_mX5_takeBack (isC3.p hi8).1 (isC3.p hi8).2 rfl f_mX5_takeBack (Nat.le_of_ble_eq_true rfl) (by decide) (ct_takeBack (isC3.p hi8) (isC3.p hj8)) ?_
        rintro _ _ ⟨rfl, rfl⟩
        refine g_aload_n dX9_back_89 rfl ?_
        refine g_getr dX9_back_90 k_X9_19 rfl (by decide) rfl rfl ?_
        refine g_dup dX9_back_93 rfl ?_
        refine g_geti dX9_back_94 k_X9_141 rfl (by decide) rfl ?_
        refine g_iconst (v := 1) dX9_back_97 (by decide) ?_
        refine g_iadd dX9_back_98 ?_
        refine g_puti dX9_back_99 k_X9_141 rfl (by decide) rfl rfl rfl ?_
        refine g_iload dX9_back_102 rfl ?_
        exact g_ireturn dX9_back_104 rfl rfl (Or.inr ⟨⟨bI_n.mp c52, of_decide_eq_false (bI_0.mp c61)⟩, by rw [bI_n.mp c73]; rfl, by simp only [upI_a np]⟩)
    · skip
      refine g_bipush (v := -103) dX9_back_64 (by decide) ?_
      exact g_ireturn dX9_back_66 rfl rfl (Or.inl ⟨Or.inr (of_decide_eq_true (bI_n.mp c61)), rfl, rfl⟩)

def TLF (hi : Nat → Nat → Int32) (p q : Nat) : Nat → Nat → Int32 := upI (upI hi p 7 (hi p 7 &&& (hi q 1 ^^^ -1))) p 8 (hi p 8 ||| hi q 1)
theorem KV.up {hi : Nat → Nat → Int32} (h : KV hi) {a k : Nat} {v : Int32} (hk : k ≠ 2) : KV (upI hi a k v) := fun p hp => by rw [upI_k (Ne.symm hk)]; exact h p hp

set_option maxRecDepth 100000 in
set_option maxHeartbeats 4000000 in
theorem ct_meet (hkv : KV hi) {N : Nat} (hN8 : N ≤ 8) (hN : hi 3 3 = nI N) {i j : Nat} (hi1 : i < N) (hj1 : j < N) : MC E l 4 mX9_meet [.ref 0, .int (nI i), .int (nI j)] 83 (hi, hl, RT) 0 0 (fun r h' => ((pMatch hi (3 + 6 + i) (3 + 6 + j) && (!pTaken hi (3 + 6 + i) && !pTaken hi (3 + 6 + j))) = false ∧ r = some (.int (-103)) ∧ h' = (hi, hl, RT)) ∨ ((pMatch hi (3 + 6 + i) (3 + 6 + j) && (!pTaken hi (3 + 6 + i) && !pTaken hi (3 + 6 + j))) = true ∧ (pCont (upI hi 3 7 (hi 3 7 + 1)) (3 + 6 + i) ((upI hi 3 7 (hi 3 7 + 1)) (3 + 6 + i) 6) ((upI hi 3 7 (hi 3 7 + 1)) (3 + 6 + j) 4) && pCont (upI hi 3 7 (hi 3 7 + 1)) (3 + 6 + j) ((upI hi 3 7 (hi 3 7 + 1)) (3 + 6 + j) 6) ((upI hi 3 7 (hi 3 7 + 1)) (3 + 6 + i) 4)) = true ∧ r = some (.int 1) ∧ h' = (upI (upI (upI hi 3 7 (hi 3 7 + 1)) (3 + 6 + i) 11 (nI j)) (3 + 6 + j) 11 (nI i), hl, RT)) ∨ ((pMatch hi (3 + 6 + i) (3 + 6 + j) && (!pTaken hi (3 + 6 + i) && !pTaken hi (3 + 6 + j))) = true ∧ (pCont (upI hi 3 7 (hi 3 7 + 1)) (3 + 6 + i) ((upI hi 3 7 (hi 3 7 + 1)) (3 + 6 + i) 6) ((upI hi 3 7 (hi 3 7 + 1)) (3 + 6 + j) 4) && pCont (upI hi 3 7 (hi 3 7 + 1)) (3 + 6 + j) ((upI hi 3 7 (hi 3 7 + 1)) (3 + 6 + j) 6) ((upI hi 3 7 (hi 3 7 + 1)) (3 + 6 + i) 4)) = false ∧ r = some (.int 0) ∧ h' = (TLF (TLF (upI hi 3 7 (hi 3 7 + 1)) (3 + 6 + i) (3 + 6 + j)) (3 + 6 + j) (3 + 6 + i), hl, RT))) := by
  refine MC.of [some (.ref 0), some (.int (nI i)), some (.int (nI j)), none, none] (by decide) rfl (Nat.le_of_ble_eq_true rfl) ?_
  have hi8 : i < 8 := by omega
  have hj8 : j < 8 := by omega
  refine g_aload_n dX9_meet_0 rfl ?_
  refine g_getr dX9_meet_1 k_X9_19 rfl (by decide) rfl rfl ?_
  refine g_iload_n dX9_meet_4 rfl ?_
  refine g_callV1 dX9_meet_5 l_X9_77 s_mX0_has (by decide) rfl rfl f_mX0_has (Nat.le_of_ble_eq_true rfl) (by decide) (ct_hasY isC3 hN8 hN hi1) ?_
  rintro _ _ ⟨rfl, rfl⟩
  refine g_ifeq 22 dX9_meet_8 (by decide) (fun c => absurd c (by decide)) (fun _ => ?_)
  refine g_aload_n dX9_meet_11 rfl ?_
  refine g_getr dX9_meet_12 k_X9_19 rfl (by decide) rfl rfl ?_
  refine g_iload_n dX9_meet_15 rfl ?_
  refine g_callV1 dX9_meet_16 l_X9_77 s_mX0_has (by decide) rfl rfl f_mX0_has (Nat.le_of_ble_eq_true rfl) (by decide) (ct_hasY isC3 hN8 hN hj1) ?_
  rintro _ _ ⟨rfl, rfl⟩
  refine g_ifne 25 dX9_meet_19 (by decide) (fun _ => ?_) (fun c => absurd c (by decide))
  refine g_aload_n dX9_meet_25 rfl ?_
  refine g_getr dX9_meet_26 k_X9_19 rfl (by decide) rfl rfl ?_
  refine g_getr dX9_meet_29 k_X9_80 rfl (by decide) rfl isC3.people ?_
  refine g_iload_n dX9_meet_32 rfl ?_
  refine g_aald dX9_meet_33 isC3.a1.1 isC3.a1.2 rfl hi8 (by decide) (isC3.rp hi8) ?_
  refine g_astore_n dX9_meet_34 (by decide) rfl rfl ?_
  refine g_aload_n dX9_meet_35 rfl ?_
  refine g_getr dX9_meet_36 k_X9_19 rfl (by decide) rfl rfl ?_
  refine g_getr dX9_meet_39 k_X9_80 rfl (by decide) rfl isC3.people ?_
  refine g_iload_n dX9_meet_42 rfl ?_
  refine g_aald dX9_meet_43 isC3.a1.1 isC3.a1.2 rfl hj8 (by decide) (isC3.rp hj8) ?_
  refine g_astore dX9_meet_44 (by decide) rfl rfl ?_
  refine g_aload_n dX9_meet_46 rfl ?_
  refine g_aload dX9_meet_47 rfl ?_
  refine g_callV1 dX9_meet_49 l_X9_125 s_mX5_isMatchOf (isC3.p hi8).1 (isC3.p hi8).2 rfl f_mX5_isMatchOf (Nat.le_of_ble_eq_true rfl) (by decide) (ct_isMatchOf (isC3.p hi8) (isC3.p hj8)) ?_
  rintro _ _ ⟨rfl, rfl⟩
  refine g_ifeq 70 dX9_meet_52 (by decide) (fun c52 => ?_) (fun c52 => ?_)
  · skip
    refine g_bipush (v := -103) dX9_meet_70 (by decide) ?_
    exact g_ireturn dX9_meet_72 rfl rfl (Or.inl ⟨by simp [bI_0.mp c52], rfl, rfl⟩)
  · skip
    refine g_aload_n dX9_meet_55 rfl ?_
    refine g_callV0 dX9_meet_56 l_X9_150 s_mX5_isTaken (isC3.p hi8).1 (isC3.p hi8).2 rfl f_mX5_isTaken (Nat.le_of_ble_eq_true rfl) (by decide) (ct_isTaken (isC3.p hi8)) ?_
    rintro _ _ ⟨rfl, rfl⟩
    refine g_ifne 70 dX9_meet_59 (by decide) (fun c59 => ?_) (fun c59 => ?_)
    · skip
      refine g_bipush (v := -103) dX9_meet_70 (by decide) ?_
      exact g_ireturn dX9_meet_72 rfl rfl (Or.inl ⟨by simp [bI_n.mp c59], rfl, rfl⟩)
    · skip
      refine g_aload dX9_meet_62 rfl ?_
      refine g_callV0 dX9_meet_64 l_X9_150 s_mX5_isTaken (isC3.p hj8).1 (isC3.p hj8).2 rfl f_mX5_isTaken (Nat.le_of_ble_eq_true rfl) (by decide) (ct_isTaken (isC3.p hj8)) ?_
      rintro _ _ ⟨rfl, rfl⟩
      refine g_ifeq 73 dX9_meet_67 (by decide) (fun c67 => ?_) (fun c67 => ?_)
      · skip
        refine g_aload_n dX9_meet_73 rfl ?_
        refine g_getr dX9_meet_74 k_X9_19 rfl (by decide) rfl rfl ?_
        refine g_dup dX9_meet_77 rfl ?_
        refine g_geti dX9_meet_78 k_X9_153 rfl (by decide) rfl ?_
        refine g_iconst (v := 1) dX9_meet_81 (by decide) ?_
        refine g_iadd dX9_meet_82 ?_
        refine g_puti dX9_meet_83 k_X9_153 rfl (by decide) rfl rfl rfl ?_
        refine g_aload_n dX9_meet_86 rfl ?_
        refine g_aload dX9_meet_87 rfl ?_
        refine g_geti dX9_meet_89 k_X9_156 rfl (isC3.p hj8).1 (isC3.p hj8).2 ?_
        refine g_callV1 dX9_meet_92 l_X9_159 s_mX5_isContentWith (isC3.p hi8).1 (isC3.p hi8).2 rfl f_mX5_isContentWith (Nat.le_of_ble_eq_true rfl) (by decide) (ct_isContentWith (hkv.up (by decide)) (isC3.p hi8) _) ?_
        rintro _ _ ⟨rfl, rfl⟩
        refine g_ifeq 123 dX9_meet_95 (by decide) (fun c95 => ?_) (fun c95 => ?_)
        · skip
          refine g_aload_n dX9_meet_123 rfl ?_
          refine g_aload dX9_meet_124 rfl ?_
          refine g_callV1 dX9_meet_126 l_X9_165 s_mX5_turnLeftOn (isC3.p hi8).1 (isC3.p hi8).2 rfl f_mX5_turnLeftOn (Nat.le_of_ble_eq_true rfl) (by decide) (ct_turnLeftOn (isC3.p hi8) (isC3.p hj8)) ?_
          rintro _ _ ⟨rfl, rfl⟩
          refine g_aload dX9_meet_129 rfl ?_
          refine g_aload_n dX9_meet_131 rfl ?_
          refine g_callV1 dX9_meet_132 l_X9_165 s_mX5_turnLeftOn (isC3.p hj8).1 (isC3.p hj8).2 rfl f_mX5_turnLeftOn (Nat.le_of_ble_eq_true rfl) (by decide) (ct_turnLeftOn (isC3.p hj8) (isC3.p hi8)) ?_
          rintro _ _ ⟨rfl, rfl⟩
          refine g_iconst (v := 0) dX9_meet_135 (by decide) ?_
          exact g_ireturn dX9_meet_136 rfl rfl (Or.inr (Or.inr ⟨by simp [bI_n.mp c52, bI_0.mp c59, bI_0.mp c67], Bool.and_eq_false_iff.mpr (Or.inl (bI_0.mp c95)), rfl, rfl⟩))
        · skip
          refine g_aload dX9_meet_98 rfl ?_
          refine g_aload_n dX9_meet_100 rfl ?_
          refine g_geti dX9_meet_101 k_X9_156 rfl (isC3.p hi8).1 (isC3.p hi8).2 ?_
          refine g_callV1 dX9_meet_104 l_X9_159 s_mX5_isContentWith (isC3.p hj8).1 (isC3.p hj8).2 rfl f_mX5_isContentWith (Nat.le_of_ble_eq_true rfl) (by decide) (ct_isContentWith (hkv.up (by decide)) (isC3.p hj8) _) ?_
          rintro _ _ ⟨rfl, rfl⟩
          refine g_ifeq 123 dX9_meet_107 (by decide) (fun c107 => ?_) (fun c107 => ?_)
          · skip
            refine g_aload_n dX9_meet_123 rfl ?_
            refine g_aload dX9_meet_124 rfl ?_
            refine g_callV1 dX9_meet_126 l_X9_165 s_mX5_turnLeftOn (isC3.p hi8).1 (isC3.p hi8).2 rfl f_mX5_turnLeftOn (Nat.le_of_ble_eq_true rfl) (by decide) (ct_turnLeftOn (isC3.p hi8) (isC3.p hj8)) ?_
            rintro _ _ ⟨rfl, rfl⟩
            refine g_aload dX9_meet_129 rfl ?_
            refine g_aload_n dX9_meet_131 rfl ?_
            refine g_callV1 dX9_meet_132 l_X9_165 s_mX5_turnLeftOn (isC3.p hj8).1 (isC3.p hj8).2 rfl f_mX5_turnLeftOn (Nat.le_of_ble_eq_true rfl) (by decide) (ct_turnLeftOn (isC3.p hj8) (isC3.p hi8)) ?_
            rintro _ _ ⟨rfl, rfl⟩
            refine g_iconst (v := 0) dX9_meet_135 (by decide) ?_
            exact g_ireturn dX9_meet_136 rfl rfl (Or.inr (Or.inr ⟨by simp [bI_n.mp c52, bI_0.mp c59, bI_0.mp c67], Bool.and_eq_false_iff.mpr (Or.inr (bI_0.mp c107)), rfl, rfl⟩))
          · skip
            refine g_aload_n dX9_meet_110 rfl ?_
            refine g_iload_n dX9_meet_111 rfl ?_
            refine g_puti dX9_meet_112 k_X9_162 rfl (isC3.p hi8).1 (isC3.p hi8).2 rfl rfl ?_
            refine g_aload dX9_meet_115 rfl ?_
            refine g_iload_n dX9_meet_117 rfl ?_
            refine g_puti dX9_meet_118 k_X9_162 rfl (isC3.p hj8).1 (isC3.p hj8).2 rfl rfl ?_
            refine g_iconst (v := 1) dX9_meet_121 (by decide) ?_
            exact g_ireturn dX9_meet_122 rfl rfl (Or.inr (Or.inl ⟨by simp [bI_n.mp c52, bI_0.mp c59, bI_0.mp c67], Bool.and_eq_true_iff.mpr ⟨bI_n.mp c95, bI_n.mp c107⟩, rfl, rfl⟩))
      · skip
        refine g_bipush (v := -103) dX9_meet_70 (by decide) ?_
        exact g_ireturn dX9_meet_72 rfl rfl (Or.inl ⟨by simp [bI_n.mp c67], rfl, rfl⟩)

set_option maxRecDepth 100000 in
set_option maxHeartbeats 4000000 in
theorem ct_partX {N : Nat} (hN8 : N ≤ 8) (hN : hi 3 3 = nI N) (x : Int32) (hx : noP x N) : MC E l 2 mX9_part [.ref 0, .int (x)] 83 (hi, hl, RT) 0 0 (fun r h' => r = some (.int (-101)) ∧ h' = (hi, hl, RT)) := by
  refine MC.of [some (.ref 0), some (.int (x)), none, none, none] (by decide) rfl (Nat.le_of_ble_eq_true rfl) ?_
  refine g_aload_n dX9_part_0 rfl ?_
  refine g_getr dX9_part_1 k_X9_19 rfl (by decide) rfl rfl ?_
  refine g_iload_n dX9_part_4 rfl ?_
  refine g_callV1 dX9_part_5 l_X9_77 s_mX0_has (by decide) rfl rfl f_mX0_has (Nat.le_of_ble_eq_true rfl) (by decide) (ct_hasN isC3 hN hx) ?_
  rintro _ _ ⟨rfl, rfl⟩
  refine g_ifne 14 dX9_part_8 (by decide) (fun c => absurd c (by decide)) (fun _ => ?_)
  refine g_bipush (v := -101) dX9_part_11 (by decide) ?_
  exact g_ireturn dX9_part_13 rfl rfl ⟨rfl, rfl⟩

set_option maxRecDepth 100000 in
set_option maxHeartbeats 4000000 in
theorem ct_partE {N : Nat} (hN8 : N ≤ 8) (hN : hi 3 3 = nI N) {i : Nat} (hi1 : i < N) (hy : noP (hi (3 + 6 + i) 11) N) : MC E l 2 mX9_part [.ref 0, .int (nI i)] 83 (hi, hl, RT) 0 0 (fun r h' => r = some (.int (-103)) ∧ h' = (hi, hl, RT)) := by
  refine MC.of [some (.ref 0), some (.int (nI i)), none, none, none] (by decide) rfl (Nat.le_of_ble_eq_true rfl) ?_
  have hi8 : i < 8 := by omega
  refine g_aload_n dX9_part_0 rfl ?_
  refine g_getr dX9_part_1 k_X9_19 rfl (by decide) rfl rfl ?_
  refine g_iload_n dX9_part_4 rfl ?_
  refine g_callV1 dX9_part_5 l_X9_77 s_mX0_has (by decide) rfl rfl f_mX0_has (Nat.le_of_ble_eq_true rfl) (by decide) (ct_hasY isC3 hN8 hN hi1) ?_
  rintro _ _ ⟨rfl, rfl⟩
  refine g_ifne 14 dX9_part_8 (by decide) (fun _ => ?_) (fun c => absurd c (by decide))
  refine g_aload_n dX9_part_14 rfl ?_
  refine g_getr dX9_part_15 k_X9_19 rfl (by decide) rfl rfl ?_
  refine g_getr dX9_part_18 k_X9_80 rfl (by decide) rfl isC3.people ?_
  refine g_iload_n dX9_part_21 rfl ?_
  refine g_aald dX9_part_22 isC3.a1.1 isC3.a1.2 rfl hi8 (by decide) (isC3.rp hi8) ?_
  refine g_astore_n dX9_part_23 (by decide) rfl rfl ?_
  refine g_aload_n dX9_part_24 rfl ?_
  refine g_geti dX9_part_25 k_X9_162 rfl (isC3.p hi8).1 (isC3.p hi8).2 ?_
  refine g_istore_n dX9_part_28 (by decide) rfl rfl ?_
  refine g_aload_n dX9_part_29 rfl ?_
  refine g_getr dX9_part_30 k_X9_19 rfl (by decide) rfl rfl ?_
  refine g_iload_n dX9_part_33 rfl ?_
  refine g_callV1 dX9_part_34 l_X9_77 s_mX0_has (by decide) rfl rfl f_mX0_has (Nat.le_of_ble_eq_true rfl) (by decide) (ct_hasN isC3 hN hy) ?_
  rintro _ _ ⟨rfl, rfl⟩
  refine g_ifne 43 dX9_part_37 (by decide) (fun c => absurd c (by decide)) (fun _ => ?_)
  refine g_bipush (v := -103) dX9_part_40 (by decide) ?_
  exact g_ireturn dX9_part_42 rfl rfl ⟨rfl, rfl⟩

set_option maxRecDepth 100000 in
set_option maxHeartbeats 4000000 in
theorem ct_part {N : Nat} (hN8 : N ≤ 8) (hN : hi 3 3 = nI N) {i j : Nat} (hi1 : i < N) (hj1 : j < N) (hy : hi (3 + 6 + i) 11 = nI j) : MC E l 2 mX9_part [.ref 0, .int (nI i)] 83 (hi, hl, RT) 0 0 (fun r h' => r = some (.int (nI j)) ∧ h' = (TLF (TLF (upI (upI hi (3 + 6 + i) 11 (-1)) (3 + 6 + j) 11 (-1)) (3 + 6 + i) (3 + 6 + j)) (3 + 6 + j) (3 + 6 + i), hl, RT)) := by
  refine MC.of [some (.ref 0), some (.int (nI i)), none, none, none] (by decide) rfl (Nat.le_of_ble_eq_true rfl) ?_
  have hi8 : i < 8 := by omega
  have hj8 : j < 8 := by omega
  refine g_aload_n dX9_part_0 rfl ?_
  refine g_getr dX9_part_1 k_X9_19 rfl (by decide) rfl rfl ?_
  refine g_iload_n dX9_part_4 rfl ?_
  refine g_callV1 dX9_part_5 l_X9_77 s_mX0_has (by decide) rfl rfl f_mX0_has (Nat.le_of_ble_eq_true rfl) (by decide) (ct_hasY isC3 hN8 hN hi1) ?_
  rintro _ _ ⟨rfl, rfl⟩
  refine g_ifne 14 dX9_part_8 (by decide) (fun _ => ?_) (fun c => absurd c (by decide))
  refine g_aload_n dX9_part_14 rfl ?_
  refine g_getr dX9_part_15 k_X9_19 rfl (by decide) rfl rfl ?_
  refine g_getr dX9_part_18 k_X9_80 rfl (by decide) rfl isC3.people ?_
  refine g_iload_n dX9_part_21 rfl ?_
  refine g_aald dX9_part_22 isC3.a1.1 isC3.a1.2 rfl hi8 (by decide) (isC3.rp hi8) ?_
  refine g_astore_n dX9_part_23 (by decide) rfl rfl ?_
  refine g_aload_n dX9_part_24 rfl ?_
  refine g_geti dX9_part_25 k_X9_162 rfl (isC3.p hi8).1 (isC3.p hi8).2 ?_
  rw [show (hi, hl, RT).1 (3 + 6 + i) 11 = nI j from hy]
  refine g_istore_n dX9_part_28 (by decide) rfl rfl ?_
  refine g_aload_n dX9_part_29 rfl ?_
  refine g_getr dX9_part_30 k_X9_19 rfl (by decide) rfl rfl ?_
  refine g_iload_n dX9_part_33 rfl ?_
  refine g_callV1 dX9_part_34 l_X9_77 s_mX0_has (by decide) rfl rfl f_mX0_has (Nat.le_of_ble_eq_true rfl) (by decide) (ct_hasY isC3 hN8 hN hj1) ?_
  rintro _ _ ⟨rfl, rfl⟩
  refine g_ifne 43 dX9_part_37 (by decide) (fun _ => ?_) (fun c => absurd c (by decide))
  refine g_aload_n dX9_part_43 rfl ?_
  refine g_getr dX9_part_44 k_X9_19 rfl (by decide) rfl rfl ?_
  refine g_getr dX9_part_47 k_X9_80 rfl (by decide) rfl isC3.people ?_
  refine g_iload_n dX9_part_50 rfl ?_
  refine g_aald dX9_part_51 isC3.a1.1 isC3.a1.2 rfl hj8 (by decide) (isC3.rp hj8) ?_
  refine g_astore dX9_part_52 (by decide) rfl rfl ?_
  refine g_aload_n dX9_part_54 rfl ?_
  refine g_iconst (v := -1) dX9_part_55 (by decide) ?_
  refine g_puti dX9_part_56 k_X9_162 rfl (isC3.p hi8).1 (isC3.p hi8).2 rfl rfl ?_
  refine g_aload dX9_part_59 rfl ?_
  refine g_iconst (v := -1) dX9_part_61 (by decide) ?_
  refine g_puti dX9_part_62 k_X9_162 rfl (isC3.p hj8).1 (isC3.p hj8).2 rfl rfl ?_
  refine g_aload_n dX9_part_65 rfl ?_
  refine g_aload dX9_part_66 rfl ?_
  refine g_callV1 dX9_part_68 l_X9_165 s_mX5_turnLeftOn (isC3.p hi8).1 (isC3.p hi8).2 rfl f_mX5_turnLeftOn (Nat.le_of_ble_eq_true rfl) (by decide) (ct_turnLeftOn (isC3.p hi8) (isC3.p hj8)) ?_
  rintro _ _ ⟨rfl, rfl⟩
  refine g_aload dX9_part_71 rfl ?_
  refine g_aload_n dX9_part_73 rfl ?_
  refine g_callV1 dX9_part_74 l_X9_165 s_mX5_turnLeftOn (isC3.p hj8).1 (isC3.p hj8).2 rfl f_mX5_turnLeftOn (Nat.le_of_ble_eq_true rfl) (by decide) (ct_turnLeftOn (isC3.p hj8) (isC3.p hi8)) ?_
  rintro _ _ ⟨rfl, rfl⟩
  refine g_iload_n dX9_part_77 rfl ?_
  exact g_ireturn dX9_part_78 rfl rfl ⟨rfl, rfl⟩

set_option maxRecDepth 100000 in
set_option maxHeartbeats 4000000 in
theorem ct_dayE (hE : hi 3 3 = 0) : MC E l 2 mX9_day [.ref 0] 83 (hi, hl, RT) 0 0 (fun r h' => r = some (.int (-103)) ∧ h' = (hi, hl, RT)) := by
  refine MC.of [some (.ref 0)] (by decide) rfl (Nat.le_of_ble_eq_true rfl) ?_
  refine g_aload_n dX9_day_0 rfl ?_
  refine g_getr dX9_day_1 k_X9_19 rfl (by decide) rfl rfl ?_
  refine g_callV0 dX9_day_4 l_X9_111 s_mX0_isEmpty (by decide) rfl rfl f_mX0_isEmpty (Nat.le_of_ble_eq_true rfl) (by decide) (ct_emptyY isC3 hE) ?_
  rintro _ _ ⟨rfl, rfl⟩
  refine g_ifeq 13 dX9_day_7 (by decide) (fun c => absurd c (by decide)) (fun _ => ?_)
  refine g_bipush (v := -103) dX9_day_10 (by decide) ?_
  exact g_ireturn dX9_day_12 rfl rfl ⟨rfl, rfl⟩

set_option maxRecDepth 100000 in
set_option maxHeartbeats 4000000 in
theorem ct_day {N : Nat} (hN8 : N ≤ 8) (hN : hi 3 3 = nI N) (hE : 0 < N) : MC E l 2 mX9_day [.ref 0] 83 (hi, hl, RT) 0 0 (fun r h' => (¬ hi 3 5 < 99 ∧ r = some (.int (-104)) ∧ h' = (hi, hl, RT)) ∨ (hi 3 5 < 99 ∧ r = some (.int (hi 3 5 + 1)) ∧ h' = (sdF (upI hi 3 5 (hi 3 5 + 1)) 3 N, hl, RT))) := by
  refine MC.of [some (.ref 0)] (by decide) rfl (Nat.le_of_ble_eq_true rfl) ?_
  refine g_aload_n dX9_day_0 rfl ?_
  refine g_getr dX9_day_1 k_X9_19 rfl (by decide) rfl rfl ?_
  refine g_callV0 dX9_day_4 l_X9_111 s_mX0_isEmpty (by decide) rfl rfl f_mX0_isEmpty (Nat.le_of_ble_eq_true rfl) (by decide) (ct_emptyN isC3 hN8 hN hE) ?_
  rintro _ _ ⟨rfl, rfl⟩
  refine g_ifeq 13 dX9_day_7 (by decide) (fun _ => ?_) (fun c => absurd c (by decide))
  refine g_aload_n dX9_day_13 rfl ?_
  refine g_getr dX9_day_14 k_X9_19 rfl (by decide) rfl rfl ?_
  refine g_geti dX9_day_17 k_X9_144 rfl (by decide) rfl ?_
  refine g_bipush (v := 99) dX9_day_20 (by decide) ?_
  refine g_icmplt 28 dX9_day_22 (by decide) (fun c22 => ?_) (fun c22 => ?_)
  · skip
    refine g_aload_n dX9_day_28 rfl ?_
    refine g_getr dX9_day_29 k_X9_19 rfl (by decide) rfl rfl ?_
    refine g_dup dX9_day_32 rfl ?_
    refine g_geti dX9_day_33 k_X9_144 rfl (by decide) rfl ?_
    refine g_iconst (v := 1) dX9_day_36 (by decide) ?_
    refine g_iadd dX9_day_37 ?_
    refine g_puti dX9_day_38 k_X9_144 rfl (by decide) rfl rfl rfl ?_
    refine g_aload_n dX9_day_41 rfl ?_
    refine g_getr dX9_day_42 k_X9_19 rfl (by decide) rfl rfl ?_
    refine g_callV0 dX9_day_45 l_X9_147 s_mX0_startDay (by decide) rfl rfl f_mX0_startDay (Nat.le_of_ble_eq_true rfl) (by decide) (ct_startDay isC3 hN8 ((upI_k (by decide)).trans hN)) ?_
    rintro _ _ ⟨rfl, rfl⟩
    refine g_aload_n dX9_day_48 rfl ?_
    refine g_getr dX9_day_49 k_X9_19 rfl (by decide) rfl rfl ?_
    refine g_geti dX9_day_52 k_X9_144 rfl (by decide) rfl ?_
    exact g_ireturn dX9_day_55 rfl rfl (Or.inr ⟨c22, by show some (Value.int (sdF (upI hi 3 5 (hi 3 5 + 1)) 3 N 3 5)) = _; rw [sd_c _ (by omega), upI_s], rfl⟩)
  · skip
    refine g_bipush (v := -104) dX9_day_25 (by decide) ?_
    exact g_ireturn dX9_day_27 rfl rfl (Or.inl ⟨c22, rfl, rfl⟩)

set_option maxRecDepth 100000 in
set_option maxHeartbeats 4000000 in
theorem ct_mutualE (hE : hi 3 3 = 0) : MC E l 2 mX9_mutual [.ref 0] 83 (hi, hl, RT) 0 0 (fun r h' => r = some (.int (-103)) ∧ h' = (hi, hl, RT)) := by
  refine MC.of [some (.ref 0)] (by decide) rfl (Nat.le_of_ble_eq_true rfl) ?_
  refine g_aload_n dX9_mutual_0 rfl ?_
  refine g_getr dX9_mutual_1 k_X9_19 rfl (by decide) rfl rfl ?_
  refine g_callV0 dX9_mutual_4 l_X9_111 s_mX0_isEmpty (by decide) rfl rfl f_mX0_isEmpty (Nat.le_of_ble_eq_true rfl) (by decide) (ct_emptyY isC3 hE) ?_
  rintro _ _ ⟨rfl, rfl⟩
  refine g_ifeq 13 dX9_mutual_7 (by decide) (fun c => absurd c (by decide)) (fun _ => ?_)
  refine g_bipush (v := -103) dX9_mutual_10 (by decide) ?_
  exact g_ireturn dX9_mutual_12 rfl rfl ⟨rfl, rfl⟩

set_option maxRecDepth 100000 in
set_option maxHeartbeats 4000000 in
theorem ct_mutual (hkv : KV hi) {N : Nat} (hN8 : N ≤ 8) (hN : hi 3 3 = nI N) {F : Nat} (hF8 : F ≤ 8) (hF : hi 3 2 = nI F) (hE : 0 < N) : MC E l 7 mX9_mutual [.ref 0] 83 (hi, hl, RT) 0 0 (fun r h' => r = some (.int (sumI (fun j => bcF (mutF hi 3 N (3 + 6 + j))) F)) ∧ h' = (hi, hl, RT)) := by
  refine MC.of [some (.ref 0)] (by decide) rfl (Nat.le_of_ble_eq_true rfl) ?_
  refine g_aload_n dX9_mutual_0 rfl ?_
  refine g_getr dX9_mutual_1 k_X9_19 rfl (by decide) rfl rfl ?_
  refine g_callV0 dX9_mutual_4 l_X9_111 s_mX0_isEmpty (by decide) rfl rfl f_mX0_isEmpty (Nat.le_of_ble_eq_true rfl) (by decide) (ct_emptyN isC3 hN8 hN hE) ?_
  rintro _ _ ⟨rfl, rfl⟩
  refine g_ifeq 13 dX9_mutual_7 (by decide) (fun _ => ?_) (fun c => absurd c (by decide))
  refine g_aload_n dX9_mutual_13 rfl ?_
  refine g_getr dX9_mutual_14 k_X9_19 rfl (by decide) rfl rfl ?_
  refine g_callV0 dX9_mutual_17 l_X9_179 s_mX0_mutualTwos (by decide) rfl rfl f_mX0_mutualTwos (Nat.le_of_ble_eq_true rfl) (by decide) (ct_mutualTwos hkv isC3 hN8 hN hF8 hF) ?_
  rintro _ _ ⟨rfl, rfl⟩
  exact g_ireturn dX9_mutual_20 rfl rfl ⟨rfl, rfl⟩

set_option maxRecDepth 100000 in
set_option maxHeartbeats 4000000 in
theorem ct_comesX1 (x y z : Int32) (hx : (!decide (x < 1) && !decide (8 < x)) = false) : MC E l 3 mX9_comes [.ref 0, .int (x), .int (y), .int (z)] 83 (hi, hl, RT) 0 0 (fun r h' => r = some (.int (-102)) ∧ h' = (hi, hl, RT)) := by
  refine MC.of [some (.ref 0), some (.int (x)), some (.int (y)), some (.int (z))] (by decide) rfl (Nat.le_of_ble_eq_true rfl) ?_
  refine g_iload_n dX9_comes_0 rfl ?_
  refine g_callS1 dX9_comes_1 l_X9_182 s_mX7_isDays f_mX7_isDays (Nat.le_of_ble_eq_true rfl) (by decide) ((ct_isDays x).weaken (fun r h' q => (⟨by rw [q.1, hx]; rfl, q.2⟩ : r = some (.int 0) ∧ h' = (hi, hl, RT)))) ?_
  rintro _ _ ⟨rfl, rfl⟩
  refine g_ifeq 21 dX9_comes_4 (by decide) (fun _ => ?_) (fun c => absurd c (by decide))
  refine g_bipush (v := -102) dX9_comes_21 (by decide) ?_
  exact g_ireturn dX9_comes_23 rfl rfl ⟨rfl, rfl⟩

set_option maxRecDepth 100000 in
set_option maxHeartbeats 4000000 in
theorem ct_comesX2 (x y z : Int32) (hx : (!decide (x < 1) && !decide (8 < x)) = true) (hy : (!decide (y < 1) && !decide (9 < y)) = false) : MC E l 3 mX9_comes [.ref 0, .int (x), .int (y), .int (z)] 83 (hi, hl, RT) 0 0 (fun r h' => r = some (.int (-102)) ∧ h' = (hi, hl, RT)) := by
  refine MC.of [some (.ref 0), some (.int (x)), some (.int (y)), some (.int (z))] (by decide) rfl (Nat.le_of_ble_eq_true rfl) ?_
  refine g_iload_n dX9_comes_0 rfl ?_
  refine g_callS1 dX9_comes_1 l_X9_182 s_mX7_isDays f_mX7_isDays (Nat.le_of_ble_eq_true rfl) (by decide) ((ct_isDays x).weaken (fun r h' q => (⟨by rw [q.1, hx]; rfl, q.2⟩ : r = some (.int 1) ∧ h' = (hi, hl, RT)))) ?_
  rintro _ _ ⟨rfl, rfl⟩
  refine g_ifeq 21 dX9_comes_4 (by decide) (fun c => absurd c (by decide)) (fun _ => ?_)
  refine g_iload_n dX9_comes_7 rfl ?_
  refine g_callS1 dX9_comes_8 l_X9_108 s_mX9_isLimit f_mX9_isLimit (Nat.le_of_ble_eq_true rfl) (by decide) ((ct_isLimit y).weaken (fun r h' q => (⟨by rw [q.1, hy]; rfl, q.2⟩ : r = some (.int 0) ∧ h' = (hi, hl, RT)))) ?_
  rintro _ _ ⟨rfl, rfl⟩
  refine g_ifeq 21 dX9_comes_11 (by decide) (fun _ => ?_) (fun c => absurd c (by decide))
  refine g_bipush (v := -102) dX9_comes_21 (by decide) ?_
  exact g_ireturn dX9_comes_23 rfl rfl ⟨rfl, rfl⟩

set_option maxRecDepth 100000 in
set_option maxHeartbeats 4000000 in
theorem ct_comesX3 (x y z : Int32) (hx : (!decide (x < 1) && !decide (8 < x)) = true) (hy : (!decide (y < 1) && !decide (9 < y)) = true) (hz : (!decide (z < 0) && !decide (1 < z)) = false) : MC E l 3 mX9_comes [.ref 0, .int (x), .int (y), .int (z)] 83 (hi, hl, RT) 0 0 (fun r h' => r = some (.int (-102)) ∧ h' = (hi, hl, RT)) := by
  refine MC.of [some (.ref 0), some (.int (x)), some (.int (y)), some (.int (z))] (by decide) rfl (Nat.le_of_ble_eq_true rfl) ?_
  refine g_iload_n dX9_comes_0 rfl ?_
  refine g_callS1 dX9_comes_1 l_X9_182 s_mX7_isDays f_mX7_isDays (Nat.le_of_ble_eq_true rfl) (by decide) ((ct_isDays x).weaken (fun r h' q => (⟨by rw [q.1, hx]; rfl, q.2⟩ : r = some (.int 1) ∧ h' = (hi, hl, RT)))) ?_
  rintro _ _ ⟨rfl, rfl⟩
  refine g_ifeq 21 dX9_comes_4 (by decide) (fun c => absurd c (by decide)) (fun _ => ?_)
  refine g_iload_n dX9_comes_7 rfl ?_
  refine g_callS1 dX9_comes_8 l_X9_108 s_mX9_isLimit f_mX9_isLimit (Nat.le_of_ble_eq_true rfl) (by decide) ((ct_isLimit y).weaken (fun r h' q => (⟨by rw [q.1, hy]; rfl, q.2⟩ : r = some (.int 1) ∧ h' = (hi, hl, RT)))) ?_
  rintro _ _ ⟨rfl, rfl⟩
  refine g_ifeq 21 dX9_comes_11 (by decide) (fun c => absurd c (by decide)) (fun _ => ?_)
  refine g_iload_n dX9_comes_14 rfl ?_
  refine g_callS1 dX9_comes_15 l_X9_185 s_mX7_isOrder f_mX7_isOrder (Nat.le_of_ble_eq_true rfl) (by decide) ((ct_isOrder z).weaken (fun r h' q => (⟨by rw [q.1, hz]; rfl, q.2⟩ : r = some (.int 0) ∧ h' = (hi, hl, RT)))) ?_
  rintro _ _ ⟨rfl, rfl⟩
  refine g_ifne 24 dX9_comes_18 (by decide) (fun c => absurd c (by decide)) (fun _ => ?_)
  refine g_bipush (v := -102) dX9_comes_21 (by decide) ?_
  exact g_ireturn dX9_comes_23 rfl rfl ⟨rfl, rfl⟩

set_option maxRecDepth 100000 in
set_option maxHeartbeats 4000000 in
theorem ct_comesE (x y z : Int32) (hx : (!decide (x < 1) && !decide (8 < x)) = true) (hy : (!decide (y < 1) && !decide (9 < y)) = true) (hz : (!decide (z < 0) && !decide (1 < z)) = true) (hE : hi 3 3 = 0) : MC E l 3 mX9_comes [.ref 0, .int (x), .int (y), .int (z)] 83 (hi, hl, RT) 0 0 (fun r h' => r = some (.int (-103)) ∧ h' = (hi, hl, RT)) := by
  refine MC.of [some (.ref 0), some (.int (x)), some (.int (y)), some (.int (z))] (by decide) rfl (Nat.le_of_ble_eq_true rfl) ?_
  refine g_iload_n dX9_comes_0 rfl ?_
  refine g_callS1 dX9_comes_1 l_X9_182 s_mX7_isDays f_mX7_isDays (Nat.le_of_ble_eq_true rfl) (by decide) ((ct_isDays x).weaken (fun r h' q => (⟨by rw [q.1, hx]; rfl, q.2⟩ : r = some (.int 1) ∧ h' = (hi, hl, RT)))) ?_
  rintro _ _ ⟨rfl, rfl⟩
  refine g_ifeq 21 dX9_comes_4 (by decide) (fun c => absurd c (by decide)) (fun _ => ?_)
  refine g_iload_n dX9_comes_7 rfl ?_
  refine g_callS1 dX9_comes_8 l_X9_108 s_mX9_isLimit f_mX9_isLimit (Nat.le_of_ble_eq_true rfl) (by decide) ((ct_isLimit y).weaken (fun r h' q => (⟨by rw [q.1, hy]; rfl, q.2⟩ : r = some (.int 1) ∧ h' = (hi, hl, RT)))) ?_
  rintro _ _ ⟨rfl, rfl⟩
  refine g_ifeq 21 dX9_comes_11 (by decide) (fun c => absurd c (by decide)) (fun _ => ?_)
  refine g_iload_n dX9_comes_14 rfl ?_
  refine g_callS1 dX9_comes_15 l_X9_185 s_mX7_isOrder f_mX7_isOrder (Nat.le_of_ble_eq_true rfl) (by decide) ((ct_isOrder z).weaken (fun r h' q => (⟨by rw [q.1, hz]; rfl, q.2⟩ : r = some (.int 1) ∧ h' = (hi, hl, RT)))) ?_
  rintro _ _ ⟨rfl, rfl⟩
  refine g_ifne 24 dX9_comes_18 (by decide) (fun _ => ?_) (fun c => absurd c (by decide))
  refine g_aload_n dX9_comes_24 rfl ?_
  refine g_getr dX9_comes_25 k_X9_19 rfl (by decide) rfl rfl ?_
  refine g_callV0 dX9_comes_28 l_X9_111 s_mX0_isEmpty (by decide) rfl rfl f_mX0_isEmpty (Nat.le_of_ble_eq_true rfl) (by decide) (ct_emptyY isC3 hE) ?_
  rintro _ _ ⟨rfl, rfl⟩
  refine g_ifeq 37 dX9_comes_31 (by decide) (fun c => absurd c (by decide)) (fun _ => ?_)
  refine g_bipush (v := -103) dX9_comes_34 (by decide) ?_
  exact g_ireturn dX9_comes_36 rfl rfl ⟨rfl, rfl⟩

set_option maxRecDepth 100000 in
set_option maxHeartbeats 4000000 in
theorem ct_comes (hkv : KV hi) (hb3 : PB hi 3) (hb32 : PB hi 32) {N F D : Nat} (hN8 : N ≤ 8) (hFN : F ≤ N) (hN : hi 3 3 = nI N) (hF : hi 3 2 = nI F) (hB : ∀ k, k < 8 → vp_nar .boolean (hi (3 + 5) k) = hi (3 + 5) k) (hD : D ≤ 100) {x : Int32} (hxD : x = nI D) (y z : Int32) (hx : (!decide (x < 1) && !decide (8 < x)) = true) (hy : (!decide (y < 1) && !decide (9 < y)) = true) (hz : (!decide (z < 0) && !decide (1 < z)) = true) (hE : 0 < N) : MC E l 8 mX9_comes [.ref 0, .int (x), .int (y), .int (z)] 83 (hi, hl, RT) 0 0 (fun r h' => ∃ hf, r = some (.int (mvV (vw hi 3 N) N F D y (decide (z = 1)))) ∧ h' = (hf, hl, RT) ∧ TX hi hf) := by
  refine MC.of [some (.ref 0), some (.int (x)), some (.int (y)), some (.int (z))] (by decide) rfl (Nat.le_of_ble_eq_true rfl) ?_
  refine g_iload_n dX9_comes_0 rfl ?_
  refine g_callS1 dX9_comes_1 l_X9_182 s_mX7_isDays f_mX7_isDays (Nat.le_of_ble_eq_true rfl) (by decide) ((ct_isDays x).weaken (fun r h' q => (⟨by rw [q.1, hx]; rfl, q.2⟩ : r = some (.int 1) ∧ h' = (hi, hl, RT)))) ?_
  rintro _ _ ⟨rfl, rfl⟩
  refine g_ifeq 21 dX9_comes_4 (by decide) (fun c => absurd c (by decide)) (fun _ => ?_)
  refine g_iload_n dX9_comes_7 rfl ?_
  refine g_callS1 dX9_comes_8 l_X9_108 s_mX9_isLimit f_mX9_isLimit (Nat.le_of_ble_eq_true rfl) (by decide) ((ct_isLimit y).weaken (fun r h' q => (⟨by rw [q.1, hy]; rfl, q.2⟩ : r = some (.int 1) ∧ h' = (hi, hl, RT)))) ?_
  rintro _ _ ⟨rfl, rfl⟩
  refine g_ifeq 21 dX9_comes_11 (by decide) (fun c => absurd c (by decide)) (fun _ => ?_)
  refine g_iload_n dX9_comes_14 rfl ?_
  refine g_callS1 dX9_comes_15 l_X9_185 s_mX7_isOrder f_mX7_isOrder (Nat.le_of_ble_eq_true rfl) (by decide) ((ct_isOrder z).weaken (fun r h' q => (⟨by rw [q.1, hz]; rfl, q.2⟩ : r = some (.int 1) ∧ h' = (hi, hl, RT)))) ?_
  rintro _ _ ⟨rfl, rfl⟩
  refine g_ifne 24 dX9_comes_18 (by decide) (fun _ => ?_) (fun c => absurd c (by decide))
  refine g_aload_n dX9_comes_24 rfl ?_
  refine g_getr dX9_comes_25 k_X9_19 rfl (by decide) rfl rfl ?_
  refine g_callV0 dX9_comes_28 l_X9_111 s_mX0_isEmpty (by decide) rfl rfl f_mX0_isEmpty (Nat.le_of_ble_eq_true rfl) (by decide) (ct_emptyN isC3 hN8 hN hE) ?_
  rintro _ _ ⟨rfl, rfl⟩
  refine g_ifeq 37 dX9_comes_31 (by decide) (fun _ => ?_) (fun c => absurd c (by decide))
  refine g_aload_n dX9_comes_37 rfl ?_
  refine g_getr dX9_comes_38 k_X9_29 rfl (by decide) rfl rfl ?_
  refine g_aload_n dX9_comes_41 rfl ?_
  refine g_getr dX9_comes_42 k_X9_19 rfl (by decide) rfl rfl ?_
  refine g_iload_n dX9_comes_45 rfl ?_
  refine g_iload_n dX9_comes_46 rfl ?_
  refine g_iload_n dX9_comes_47 rfl ?_
  refine g_callV4 dX9_comes_48 l_X9_188 s_mX7_matchesAfter (by decide) rfl rfl f_mX7_matchesAfter (Nat.le_of_ble_eq_true rfl) (by decide) (by rw [hxD]; exact ct_matchesAfter hkv hb3 hb32 hN8 hFN hN hF hB hD _ _) ?_
  rintro _ _ ⟨hf, rfl, rfl, ht⟩
  exact g_ireturn dX9_comes_51 rfl rfl ⟨hf, rfl, rfl, ht⟩

set_option maxRecDepth 100000 in
set_option maxHeartbeats 4000000 in
theorem ct_bestX1 (x z : Int32) (hx : (!decide (x < 1) && !decide (8 < x)) = false) : MC E l 3 mX9_best [.ref 0, .int (x), .int (z)] 83 (hi, hl, RT) 0 0 (fun r h' => r = some (.int (-102)) ∧ h' = (hi, hl, RT)) := by
  refine MC.of [some (.ref 0), some (.int (x)), some (.int (z))] (by decide) rfl (Nat.le_of_ble_eq_true rfl) ?_
  refine g_iload_n dX9_best_0 rfl ?_
  refine g_callS1 dX9_best_1 l_X9_182 s_mX7_isDays f_mX7_isDays (Nat.le_of_ble_eq_true rfl) (by decide) ((ct_isDays x).weaken (fun r h' q => (⟨by rw [q.1, hx]; rfl, q.2⟩ : r = some (.int 0) ∧ h' = (hi, hl, RT)))) ?_
  rintro _ _ ⟨rfl, rfl⟩
  refine g_ifeq 14 dX9_best_4 (by decide) (fun _ => ?_) (fun c => absurd c (by decide))
  refine g_bipush (v := -102) dX9_best_14 (by decide) ?_
  exact g_ireturn dX9_best_16 rfl rfl ⟨rfl, rfl⟩

set_option maxRecDepth 100000 in
set_option maxHeartbeats 4000000 in
theorem ct_bestX3 (x z : Int32) (hx : (!decide (x < 1) && !decide (8 < x)) = true) (hz : (!decide (z < 0) && !decide (1 < z)) = false) : MC E l 3 mX9_best [.ref 0, .int (x), .int (z)] 83 (hi, hl, RT) 0 0 (fun r h' => r = some (.int (-102)) ∧ h' = (hi, hl, RT)) := by
  refine MC.of [some (.ref 0), some (.int (x)), some (.int (z))] (by decide) rfl (Nat.le_of_ble_eq_true rfl) ?_
  refine g_iload_n dX9_best_0 rfl ?_
  refine g_callS1 dX9_best_1 l_X9_182 s_mX7_isDays f_mX7_isDays (Nat.le_of_ble_eq_true rfl) (by decide) ((ct_isDays x).weaken (fun r h' q => (⟨by rw [q.1, hx]; rfl, q.2⟩ : r = some (.int 1) ∧ h' = (hi, hl, RT)))) ?_
  rintro _ _ ⟨rfl, rfl⟩
  refine g_ifeq 14 dX9_best_4 (by decide) (fun c => absurd c (by decide)) (fun _ => ?_)
  refine g_iload_n dX9_best_7 rfl ?_
  refine g_callS1 dX9_best_8 l_X9_185 s_mX7_isOrder f_mX7_isOrder (Nat.le_of_ble_eq_true rfl) (by decide) ((ct_isOrder z).weaken (fun r h' q => (⟨by rw [q.1, hz]; rfl, q.2⟩ : r = some (.int 0) ∧ h' = (hi, hl, RT)))) ?_
  rintro _ _ ⟨rfl, rfl⟩
  refine g_ifne 17 dX9_best_11 (by decide) (fun c => absurd c (by decide)) (fun _ => ?_)
  refine g_bipush (v := -102) dX9_best_14 (by decide) ?_
  exact g_ireturn dX9_best_16 rfl rfl ⟨rfl, rfl⟩

set_option maxRecDepth 100000 in
set_option maxHeartbeats 4000000 in
theorem ct_bestE (x z : Int32) (hx : (!decide (x < 1) && !decide (8 < x)) = true) (hz : (!decide (z < 0) && !decide (1 < z)) = true) (hE : hi 3 3 = 0) : MC E l 3 mX9_best [.ref 0, .int (x), .int (z)] 83 (hi, hl, RT) 0 0 (fun r h' => r = some (.int (-103)) ∧ h' = (hi, hl, RT)) := by
  refine MC.of [some (.ref 0), some (.int (x)), some (.int (z))] (by decide) rfl (Nat.le_of_ble_eq_true rfl) ?_
  refine g_iload_n dX9_best_0 rfl ?_
  refine g_callS1 dX9_best_1 l_X9_182 s_mX7_isDays f_mX7_isDays (Nat.le_of_ble_eq_true rfl) (by decide) ((ct_isDays x).weaken (fun r h' q => (⟨by rw [q.1, hx]; rfl, q.2⟩ : r = some (.int 1) ∧ h' = (hi, hl, RT)))) ?_
  rintro _ _ ⟨rfl, rfl⟩
  refine g_ifeq 14 dX9_best_4 (by decide) (fun c => absurd c (by decide)) (fun _ => ?_)
  refine g_iload_n dX9_best_7 rfl ?_
  refine g_callS1 dX9_best_8 l_X9_185 s_mX7_isOrder f_mX7_isOrder (Nat.le_of_ble_eq_true rfl) (by decide) ((ct_isOrder z).weaken (fun r h' q => (⟨by rw [q.1, hz]; rfl, q.2⟩ : r = some (.int 1) ∧ h' = (hi, hl, RT)))) ?_
  rintro _ _ ⟨rfl, rfl⟩
  refine g_ifne 17 dX9_best_11 (by decide) (fun _ => ?_) (fun c => absurd c (by decide))
  refine g_aload_n dX9_best_17 rfl ?_
  refine g_getr dX9_best_18 k_X9_19 rfl (by decide) rfl rfl ?_
  refine g_callV0 dX9_best_21 l_X9_111 s_mX0_isEmpty (by decide) rfl rfl f_mX0_isEmpty (Nat.le_of_ble_eq_true rfl) (by decide) (ct_emptyY isC3 hE) ?_
  rintro _ _ ⟨rfl, rfl⟩
  refine g_ifeq 30 dX9_best_24 (by decide) (fun c => absurd c (by decide)) (fun _ => ?_)
  refine g_bipush (v := -103) dX9_best_27 (by decide) ?_
  exact g_ireturn dX9_best_29 rfl rfl ⟨rfl, rfl⟩

set_option maxRecDepth 100000 in
set_option maxHeartbeats 4000000 in
theorem ct_best (hkv : KV hi) (hb3 : PB hi 3) (hb32 : PB hi 32) {N F D : Nat} (hN8 : N ≤ 8) (hFN : F ≤ N) (hN : hi 3 3 = nI N) (hF : hi 3 2 = nI F) (hB : ∀ k, k < 8 → vp_nar .boolean (hi (3 + 5) k) = hi (3 + 5) k) (hD : D ≤ 100) {x : Int32} (hxD : x = nI D) (z : Int32) (hx : (!decide (x < 1) && !decide (8 < x)) = true) (hz : (!decide (z < 0) && !decide (1 < z)) = true) (hE : 0 < N) : MC E l 9 mX9_best [.ref 0, .int (x), .int (z)] 83 (hi, hl, RT) 0 0 (fun r h' => ∃ hf, r = some (.int (blF (fun j => mvV (vw hi 3 N) N F D (nI j) (decide (z = 1))) 8).1) ∧ h' = (hf, hl, RT) ∧ TX hi hf) := by
  refine MC.of [some (.ref 0), some (.int (x)), some (.int (z))] (by decide) rfl (Nat.le_of_ble_eq_true rfl) ?_
  refine g_iload_n dX9_best_0 rfl ?_
  refine g_callS1 dX9_best_1 l_X9_182 s_mX7_isDays f_mX7_isDays (Nat.le_of_ble_eq_true rfl) (by decide) ((ct_isDays x).weaken (fun r h' q => (⟨by rw [q.1, hx]; rfl, q.2⟩ : r = some (.int 1) ∧ h' = (hi, hl, RT)))) ?_
  rintro _ _ ⟨rfl, rfl⟩
  refine g_ifeq 14 dX9_best_4 (by decide) (fun c => absurd c (by decide)) (fun _ => ?_)
  refine g_iload_n dX9_best_7 rfl ?_
  refine g_callS1 dX9_best_8 l_X9_185 s_mX7_isOrder f_mX7_isOrder (Nat.le_of_ble_eq_true rfl) (by decide) ((ct_isOrder z).weaken (fun r h' q => (⟨by rw [q.1, hz]; rfl, q.2⟩ : r = some (.int 1) ∧ h' = (hi, hl, RT)))) ?_
  rintro _ _ ⟨rfl, rfl⟩
  refine g_ifne 17 dX9_best_11 (by decide) (fun _ => ?_) (fun c => absurd c (by decide))
  refine g_aload_n dX9_best_17 rfl ?_
  refine g_getr dX9_best_18 k_X9_19 rfl (by decide) rfl rfl ?_
  refine g_callV0 dX9_best_21 l_X9_111 s_mX0_isEmpty (by decide) rfl rfl f_mX0_isEmpty (Nat.le_of_ble_eq_true rfl) (by decide) (ct_emptyN isC3 hN8 hN hE) ?_
  rintro _ _ ⟨rfl, rfl⟩
  refine g_ifeq 30 dX9_best_24 (by decide) (fun _ => ?_) (fun c => absurd c (by decide))
  refine g_aload_n dX9_best_30 rfl ?_
  refine g_getr dX9_best_31 k_X9_29 rfl (by decide) rfl rfl ?_
  refine g_aload_n dX9_best_34 rfl ?_
  refine g_getr dX9_best_35 k_X9_19 rfl (by decide) rfl rfl ?_
  refine g_iload_n dX9_best_38 rfl ?_
  refine g_iload_n dX9_best_39 rfl ?_
  refine g_callV3 dX9_best_40 l_X9_192 s_mX7_bestLimit (by decide) rfl rfl f_mX7_bestLimit (Nat.le_of_ble_eq_true rfl) (by decide) (by rw [hxD]; exact ct_bestLimit hkv hb3 hb32 hN8 hFN hN hF hB hD _) ?_
  rintro _ _ ⟨hf, rfl, rfl, ht⟩
  exact g_ireturn dX9_best_43 rfl rfl ⟨hf, rfl, rfl, ht⟩

set_option maxRecDepth 100000 in
set_option maxHeartbeats 4000000 in
theorem ct_howManyX (x : Int32) (hx : (!decide (x < 2) && !decide (8 < x)) = false) : MC E l 3 mX9_howMany [.ref 0, .int (x)] 83 (hi, hl, RT) 0 0 (fun r h' => r = some (.int (-102)) ∧ h' = (hi, hl, RT)) := by
  refine MC.of [some (.ref 0), some (.int (x))] (by decide) rfl (Nat.le_of_ble_eq_true rfl) ?_
  refine g_iload_n dX9_howMany_0 rfl ?_
  refine g_callS1 dX9_howMany_1 l_X9_196 s_mX8_isOthers f_mX8_isOthers (Nat.le_of_ble_eq_true rfl) (by decide) ((ct_isOthers x).weaken (fun r h' q => (⟨by rw [q.1, hx]; rfl, q.2⟩ : r = some (.int 0) ∧ h' = (hi, hl, RT)))) ?_
  rintro _ _ ⟨rfl, rfl⟩
  refine g_ifne 10 dX9_howMany_4 (by decide) (fun c => absurd c (by decide)) (fun _ => ?_)
  refine g_bipush (v := -102) dX9_howMany_7 (by decide) ?_
  exact g_ireturn dX9_howMany_9 rfl rfl ⟨rfl, rfl⟩

set_option maxRecDepth 100000 in
set_option maxHeartbeats 4000000 in
theorem ct_howMany {O : Nat} (hO : O ≤ 8) (hO1 : 1 ≤ O) {x : Int32} (hxO : x = nI O) (hx : (!decide (x < 2) && !decide (8 < x)) = true) : MC E l 3 mX9_howMany [.ref 0, .int (x)] 83 (hi, hl, RT) 0 0 (fun r h' => r = some (.int (nI (lkF O (O - 1)))) ∧ h' = (hi, hl, RT)) := by
  refine MC.of [some (.ref 0), some (.int (x))] (by decide) rfl (Nat.le_of_ble_eq_true rfl) ?_
  refine g_iload_n dX9_howMany_0 rfl ?_
  refine g_callS1 dX9_howMany_1 l_X9_196 s_mX8_isOthers f_mX8_isOthers (Nat.le_of_ble_eq_true rfl) (by decide) ((ct_isOthers x).weaken (fun r h' q => (⟨by rw [q.1, hx]; rfl, q.2⟩ : r = some (.int 1) ∧ h' = (hi, hl, RT)))) ?_
  rintro _ _ ⟨rfl, rfl⟩
  refine g_ifne 10 dX9_howMany_4 (by decide) (fun _ => ?_) (fun c => absurd c (by decide))
  refine g_iload_n dX9_howMany_10 rfl ?_
  refine g_callS1 dX9_howMany_11 l_X9_211 s_mX8_likeliest f_mX8_likeliest (Nat.le_of_ble_eq_true rfl) (by decide) (by rw [hxO]; exact ct_likeliest hO hO1) ?_
  rintro _ _ ⟨rfl, rfl⟩
  exact g_ireturn dX9_howMany_14 rfl rfl ⟨rfl, rfl⟩

set_option maxRecDepth 100000 in
set_option maxHeartbeats 4000000 in
theorem ct_waitingX1 (x y z : Int32) (hx : (!decide (x < 2) && !decide (8 < x)) = false) : MC E l 3 mX9_waiting [.ref 0, .int (x), .int (y), .int (z)] 83 (hi, hl, RT) 0 0 (fun r h' => r = some (.int (-102)) ∧ h' = (hi, hl, RT)) := by
  refine MC.of [some (.ref 0), some (.int (x)), some (.int (y)), some (.int (z)), none, none, none] (by decide) rfl (Nat.le_of_ble_eq_true rfl) ?_
  refine g_iload_n dX9_waiting_0 rfl ?_
  refine g_callS1 dX9_waiting_1 l_X9_196 s_mX8_isOthers f_mX8_isOthers (Nat.le_of_ble_eq_true rfl) (by decide) ((ct_isOthers x).weaken (fun r h' q => (⟨by rw [q.1, hx]; rfl, q.2⟩ : r = some (.int 0) ∧ h' = (hi, hl, RT)))) ?_
  rintro _ _ ⟨rfl, rfl⟩
  refine g_ifeq 27 dX9_waiting_4 (by decide) (fun _ => ?_) (fun c => absurd c (by decide))
  refine g_bipush (v := -102) dX9_waiting_27 (by decide) ?_
  exact g_ireturn dX9_waiting_29 rfl rfl ⟨rfl, rfl⟩

set_option maxRecDepth 100000 in
set_option maxHeartbeats 4000000 in
theorem ct_waitingX2 (x y z : Int32) (hx : (!decide (x < 2) && !decide (8 < x)) = true) (hy : (!decide (y < 0) && !decide (x - 1 < y)) = false) : MC E l 3 mX9_waiting [.ref 0, .int (x), .int (y), .int (z)] 83 (hi, hl, RT) 0 0 (fun r h' => r = some (.int (-102)) ∧ h' = (hi, hl, RT)) := by
  refine MC.of [some (.ref 0), some (.int (x)), some (.int (y)), some (.int (z)), none, none, none] (by decide) rfl (Nat.le_of_ble_eq_true rfl) ?_
  refine g_iload_n dX9_waiting_0 rfl ?_
  refine g_callS1 dX9_waiting_1 l_X9_196 s_mX8_isOthers f_mX8_isOthers (Nat.le_of_ble_eq_true rfl) (by decide) ((ct_isOthers x).weaken (fun r h' q => (⟨by rw [q.1, hx]; rfl, q.2⟩ : r = some (.int 1) ∧ h' = (hi, hl, RT)))) ?_
  rintro _ _ ⟨rfl, rfl⟩
  refine g_ifeq 27 dX9_waiting_4 (by decide) (fun c => absurd c (by decide)) (fun _ => ?_)
  refine g_iload_n dX9_waiting_7 rfl ?_
  refine g_iconst (v := 0) dX9_waiting_8 (by decide) ?_
  refine g_iload_n dX9_waiting_9 rfl ?_
  refine g_iconst (v := 1) dX9_waiting_10 (by decide) ?_
  refine g_isub dX9_waiting_11 ?_
  refine g_callS3 dX9_waiting_12 l_X9_40 s_mX9_isWithin f_mX9_isWithin (Nat.le_of_ble_eq_true rfl) (by decide) (ct_withinB (t := false) hy) ?_
  rintro _ _ ⟨rfl, rfl⟩
  refine g_ifeq 27 dX9_waiting_15 (by decide) (fun _ => ?_) (fun c => absurd c (by decide))
  refine g_bipush (v := -102) dX9_waiting_27 (by decide) ?_
  exact g_ireturn dX9_waiting_29 rfl rfl ⟨rfl, rfl⟩

set_option maxRecDepth 100000 in
set_option maxHeartbeats 4000000 in
theorem ct_waitingX3 (x y z : Int32) (hx : (!decide (x < 2) && !decide (8 < x)) = true) (hy : (!decide (y < 0) && !decide (x - 1 < y)) = true) (hz : (!decide (z < 0) && !decide (1 < z)) = false) : MC E l 3 mX9_waiting [.ref 0, .int (x), .int (y), .int (z)] 83 (hi, hl, RT) 0 0 (fun r h' => r = some (.int (-102)) ∧ h' = (hi, hl, RT)) := by
  refine MC.of [some (.ref 0), some (.int (x)), some (.int (y)), some (.int (z)), none, none, none] (by decide) rfl (Nat.le_of_ble_eq_true rfl) ?_
  refine g_iload_n dX9_waiting_0 rfl ?_
  refine g_callS1 dX9_waiting_1 l_X9_196 s_mX8_isOthers f_mX8_isOthers (Nat.le_of_ble_eq_true rfl) (by decide) ((ct_isOthers x).weaken (fun r h' q => (⟨by rw [q.1, hx]; rfl, q.2⟩ : r = some (.int 1) ∧ h' = (hi, hl, RT)))) ?_
  rintro _ _ ⟨rfl, rfl⟩
  refine g_ifeq 27 dX9_waiting_4 (by decide) (fun c => absurd c (by decide)) (fun _ => ?_)
  refine g_iload_n dX9_waiting_7 rfl ?_
  refine g_iconst (v := 0) dX9_waiting_8 (by decide) ?_
  refine g_iload_n dX9_waiting_9 rfl ?_
  refine g_iconst (v := 1) dX9_waiting_10 (by decide) ?_
  refine g_isub dX9_waiting_11 ?_
  refine g_callS3 dX9_waiting_12 l_X9_40 s_mX9_isWithin f_mX9_isWithin (Nat.le_of_ble_eq_true rfl) (by decide) (ct_withinB (t := true) hy) ?_
  rintro _ _ ⟨rfl, rfl⟩
  refine g_ifeq 27 dX9_waiting_15 (by decide) (fun c => absurd c (by decide)) (fun _ => ?_)
  refine g_iload_n dX9_waiting_18 rfl ?_
  refine g_iconst (v := 0) dX9_waiting_19 (by decide) ?_
  refine g_iconst (v := 1) dX9_waiting_20 (by decide) ?_
  refine g_callS3 dX9_waiting_21 l_X9_40 s_mX9_isWithin f_mX9_isWithin (Nat.le_of_ble_eq_true rfl) (by decide) (ct_withinB (t := false) hz) ?_
  rintro _ _ ⟨rfl, rfl⟩
  refine g_ifne 30 dX9_waiting_24 (by decide) (fun c => absurd c (by decide)) (fun _ => ?_)
  refine g_bipush (v := -102) dX9_waiting_27 (by decide) ?_
  exact g_ireturn dX9_waiting_29 rfl rfl ⟨rfl, rfl⟩

theorem gdR_ne (a b : Int32) : ¬ gdR a b = 0 := by
  unfold gdR
  split
  · decide
  · assumption

set_option maxRecDepth 100000 in
set_option maxHeartbeats 4000000 in
theorem ct_waiting {O b : Nat} (hO : O ≤ 8) (hO1 : 1 ≤ O) (hb8 : b ≤ 8) {x y : Int32} (hxO : x = nI O) (hyb : y = nI b) (z : Int32) (hx : (!decide (x < 2) && !decide (8 < x)) = true) (hy : (!decide (y < 0) && !decide (x - 1 < y)) = true) (hz : (!decide (z < 0) && !decide (1 < z)) = true) : MC E l 3 mX9_waiting [.ref 0, .int (x), .int (y), .int (z)] 83 (hi, hl, RT) 0 0 (fun r h' => r = some (.int ((if z = 0 then pbF O b else x * 420) / gdR (pbF O b) (x * 420))) ∧ h' = (hi, hl, RT)) := by
  refine MC.of [some (.ref 0), some (.int (x)), some (.int (y)), some (.int (z)), none, none, none] (by decide) rfl (Nat.le_of_ble_eq_true rfl) ?_
  refine g_iload_n dX9_waiting_0 rfl ?_
  refine g_callS1 dX9_waiting_1 l_X9_196 s_mX8_isOthers f_mX8_isOthers (Nat.le_of_ble_eq_true rfl) (by decide) ((ct_isOthers x).weaken (fun r h' q => (⟨by rw [q.1, hx]; rfl, q.2⟩ : r = some (.int 1) ∧ h' = (hi, hl, RT)))) ?_
  rintro _ _ ⟨rfl, rfl⟩
  refine g_ifeq 27 dX9_waiting_4 (by decide) (fun c => absurd c (by decide)) (fun _ => ?_)
  refine g_iload_n dX9_waiting_7 rfl ?_
  refine g_iconst (v := 0) dX9_waiting_8 (by decide) ?_
  refine g_iload_n dX9_waiting_9 rfl ?_
  refine g_iconst (v := 1) dX9_waiting_10 (by decide) ?_
  refine g_isub dX9_waiting_11 ?_
  refine g_callS3 dX9_waiting_12 l_X9_40 s_mX9_isWithin f_mX9_isWithin (Nat.le_of_ble_eq_true rfl) (by decide) (ct_withinB (t := true) hy) ?_
  rintro _ _ ⟨rfl, rfl⟩
  refine g_ifeq 27 dX9_waiting_15 (by decide) (fun c => absurd c (by decide)) (fun _ => ?_)
  refine g_iload_n dX9_waiting_18 rfl ?_
  refine g_iconst (v := 0) dX9_waiting_19 (by decide) ?_
  refine g_iconst (v := 1) dX9_waiting_20 (by decide) ?_
  refine g_callS3 dX9_waiting_21 l_X9_40 s_mX9_isWithin f_mX9_isWithin (Nat.le_of_ble_eq_true rfl) (by decide) (ct_withinB (t := true) hz) ?_
  rintro _ _ ⟨rfl, rfl⟩
  refine g_ifne 30 dX9_waiting_24 (by decide) (fun _ => ?_) (fun c => absurd c (by decide))
  refine g_iload_n dX9_waiting_30 rfl ?_
  refine g_iload_n dX9_waiting_31 rfl ?_
  refine g_callS2 dX9_waiting_32 l_X9_201 s_mX8_partsOfBest f_mX8_partsOfBest (Nat.le_of_ble_eq_true rfl) (by decide) (by rw [hxO, hyb]; exact ct_partsOfBest hO hO1 hb8) ?_
  rintro _ _ ⟨rfl, rfl⟩
  refine g_istore dX9_waiting_35 (by decide) rfl rfl ?_
  refine g_iload_n dX9_waiting_37 rfl ?_
  refine g_callS1 dX9_waiting_38 l_X9_205 s_mX8_partsOfAll f_mX8_partsOfAll (Nat.le_of_ble_eq_true rfl) (by decide) (ct_partsOfAll _) ?_
  rintro _ _ ⟨rfl, rfl⟩
  refine g_istore dX9_waiting_41 (by decide) rfl rfl ?_
  refine g_iload dX9_waiting_43 rfl ?_
  refine g_iload dX9_waiting_45 rfl ?_
  refine g_callS2 dX9_waiting_47 l_X9_208 s_mX8_greatestDivisor f_mX8_greatestDivisor (Nat.le_of_ble_eq_true rfl) (by decide) (ct_greatestDivisor _ _) ?_
  rintro _ _ ⟨rfl, rfl⟩
  refine g_istore dX9_waiting_50 (by decide) rfl rfl ?_
  refine g_iload_n dX9_waiting_52 rfl ?_
  refine g_ifne 61 dX9_waiting_53 (by decide) (fun c53 => ?_) (fun c53 => ?_)
  · skip
    refine g_iload dX9_waiting_61 rfl ?_
    refine g_iload dX9_waiting_63 rfl ?_
    refine g_idiv dX9_waiting_65 (gdR_ne _ _) ?_
    exact g_ireturn dX9_waiting_66 rfl rfl ⟨by rw [if_neg c53], rfl⟩
  · skip
    refine g_iload dX9_waiting_56 rfl ?_
    refine g_goto 63 dX9_waiting_58 (by decide) ?_
    refine g_iload dX9_waiting_63 rfl ?_
    refine g_idiv dX9_waiting_65 (gdR_ne _ _) ?_
    exact g_ireturn dX9_waiting_66 rfl rfl ⟨by rw [if_pos c53], rfl⟩

set_option maxRecDepth 100000 in
set_option maxHeartbeats 4000000 in
theorem ct_seeX1 {N : Nat} (hN8 : N ≤ 8) (hN : hi 3 3 = nI N) (x y b : Int32) (hx : noP x N) : MC E l 2 mX9_see [.ref 0, .int (x), .int (y), .int (b)] 83 (hi, hl, RT) 0 0 (fun r h' => r = some (.int (-101)) ∧ h' = (hi, hl, RT)) := by
  refine MC.of [some (.ref 0), some (.int (x)), some (.int (y)), some (.int (b))] (by decide) rfl (Nat.le_of_ble_eq_true rfl) ?_
  refine g_aload_n dX9_see_0 rfl ?_
  refine g_getr dX9_see_1 k_X9_19 rfl (by decide) rfl rfl ?_
  refine g_iload_n dX9_see_4 rfl ?_
  refine g_callV1 dX9_see_5 l_X9_77 s_mX0_has (by decide) rfl rfl f_mX0_has (Nat.le_of_ble_eq_true rfl) (by decide) (ct_hasN isC3 hN hx) ?_
  rintro _ _ ⟨rfl, rfl⟩
  refine g_ifeq 22 dX9_see_8 (by decide) (fun _ => ?_) (fun c => absurd c (by decide))
  refine g_bipush (v := -101) dX9_see_22 (by decide) ?_
  exact g_ireturn dX9_see_24 rfl rfl ⟨rfl, rfl⟩

set_option maxRecDepth 100000 in
set_option maxHeartbeats 4000000 in
theorem ct_seeX2 {N : Nat} (hN8 : N ≤ 8) (hN : hi 3 3 = nI N) {i : Nat} (hi1 : i < N) (y b : Int32) (hy : noP y N) : MC E l 2 mX9_see [.ref 0, .int (nI i), .int (y), .int (b)] 83 (hi, hl, RT) 0 0 (fun r h' => r = some (.int (-101)) ∧ h' = (hi, hl, RT)) := by
  refine MC.of [some (.ref 0), some (.int (nI i)), some (.int (y)), some (.int (b))] (by decide) rfl (Nat.le_of_ble_eq_true rfl) ?_
  refine g_aload_n dX9_see_0 rfl ?_
  refine g_getr dX9_see_1 k_X9_19 rfl (by decide) rfl rfl ?_
  refine g_iload_n dX9_see_4 rfl ?_
  refine g_callV1 dX9_see_5 l_X9_77 s_mX0_has (by decide) rfl rfl f_mX0_has (Nat.le_of_ble_eq_true rfl) (by decide) (ct_hasY isC3 hN8 hN hi1) ?_
  rintro _ _ ⟨rfl, rfl⟩
  refine g_ifeq 22 dX9_see_8 (by decide) (fun c => absurd c (by decide)) (fun _ => ?_)
  refine g_aload_n dX9_see_11 rfl ?_
  refine g_getr dX9_see_12 k_X9_19 rfl (by decide) rfl rfl ?_
  refine g_iload_n dX9_see_15 rfl ?_
  refine g_callV1 dX9_see_16 l_X9_77 s_mX0_has (by decide) rfl rfl f_mX0_has (Nat.le_of_ble_eq_true rfl) (by decide) (ct_hasN isC3 hN hy) ?_
  rintro _ _ ⟨rfl, rfl⟩
  refine g_ifne 25 dX9_see_19 (by decide) (fun c => absurd c (by decide)) (fun _ => ?_)
  refine g_bipush (v := -101) dX9_see_22 (by decide) ?_
  exact g_ireturn dX9_see_24 rfl rfl ⟨rfl, rfl⟩

set_option maxRecDepth 100000 in
set_option maxHeartbeats 4000000 in
theorem ct_seeS {N : Nat} (hN8 : N ≤ 8) (hN : hi 3 3 = nI N) {i j : Nat} (hi1 : i < N) (hj1 : j < N) (b : Int32) (hsd : hi (3 + 6 + i) 3 = hi (3 + 6 + j) 3) : MC E l 2 mX9_see [.ref 0, .int (nI i), .int (nI j), .int (b)] 83 (hi, hl, RT) 0 0 (fun r h' => r = some (.int (-103)) ∧ h' = (hi, hl, RT)) := by
  refine MC.of [some (.ref 0), some (.int (nI i)), some (.int (nI j)), some (.int (b))] (by decide) rfl (Nat.le_of_ble_eq_true rfl) ?_
  have hi8 : i < 8 := by omega
  have hj8 : j < 8 := by omega
  refine g_aload_n dX9_see_0 rfl ?_
  refine g_getr dX9_see_1 k_X9_19 rfl (by decide) rfl rfl ?_
  refine g_iload_n dX9_see_4 rfl ?_
  refine g_callV1 dX9_see_5 l_X9_77 s_mX0_has (by decide) rfl rfl f_mX0_has (Nat.le_of_ble_eq_true rfl) (by decide) (ct_hasY isC3 hN8 hN hi1) ?_
  rintro _ _ ⟨rfl, rfl⟩
  refine g_ifeq 22 dX9_see_8 (by decide) (fun c => absurd c (by decide)) (fun _ => ?_)
  refine g_aload_n dX9_see_11 rfl ?_
  refine g_getr dX9_see_12 k_X9_19 rfl (by decide) rfl rfl ?_
  refine g_iload_n dX9_see_15 rfl ?_
  refine g_callV1 dX9_see_16 l_X9_77 s_mX0_has (by decide) rfl rfl f_mX0_has (Nat.le_of_ble_eq_true rfl) (by decide) (ct_hasY isC3 hN8 hN hj1) ?_
  rintro _ _ ⟨rfl, rfl⟩
  refine g_ifne 25 dX9_see_19 (by decide) (fun _ => ?_) (fun c => absurd c (by decide))
  refine g_aload_n dX9_see_25 rfl ?_
  refine g_getr dX9_see_26 k_X9_19 rfl (by decide) rfl rfl ?_
  refine g_getr dX9_see_29 k_X9_80 rfl (by decide) rfl isC3.people ?_
  refine g_iload_n dX9_see_32 rfl ?_
  refine g_aald dX9_see_33 isC3.a1.1 isC3.a1.2 rfl hi8 (by decide) (isC3.rp hi8) ?_
  refine g_geti dX9_see_34 k_X9_214 rfl (isC3.p hi8).1 (isC3.p hi8).2 ?_
  refine g_aload_n dX9_see_37 rfl ?_
  refine g_getr dX9_see_38 k_X9_19 rfl (by decide) rfl rfl ?_
  refine g_getr dX9_see_41 k_X9_80 rfl (by decide) rfl isC3.people ?_
  refine g_iload_n dX9_see_44 rfl ?_
  refine g_aald dX9_see_45 isC3.a1.1 isC3.a1.2 rfl hj8 (by decide) (isC3.rp hj8) ?_
  refine g_geti dX9_see_46 k_X9_214 rfl (isC3.p hj8).1 (isC3.p hj8).2 ?_
  refine g_icmpne 55 dX9_see_49 (by decide) (fun c49 => ?_) (fun c49 => ?_)
  · skip
    exact absurd hsd c49
  · skip
    refine g_bipush (v := -103) dX9_see_52 (by decide) ?_
    exact g_ireturn dX9_see_54 rfl rfl ⟨rfl, rfl⟩

set_option maxRecDepth 100000 in
set_option maxHeartbeats 4000000 in
theorem ct_see {N : Nat} (hN8 : N ≤ 8) (hN : hi 3 3 = nI N) {S : Nat} (hS8 : S ≤ 8) (hS : hi (3 + 2) 3 = nI S) {i j : Nat} (hi1 : i < N) (hj1 : j < N) (b : Int32) (hsd : ¬ hi (3 + 6 + i) 3 = hi (3 + 6 + j) 3) : MC E l 2 mX9_see [.ref 0, .int (nI i), .int (nI j), .int (b)] 83 (hi, hl, RT) 0 0 (fun r h' => (S = 8 ∧ r = some (.int (-104)) ∧ h' = (hi, hl, RT)) ∨ (S < 8 ∧ r = some (.int (nI (S + 1))) ∧ h' = (upI (upI (upI (upI hi (3 + 3) S (nI i)) (3 + 4) S (nI j)) (3 + 5) S (vp_nar .boolean b)) (3 + 2) 3 (nI (S + 1)), hl, RT))) := by
  refine MC.of [some (.ref 0), some (.int (nI i)), some (.int (nI j)), some (.int (b))] (by decide) rfl (Nat.le_of_ble_eq_true rfl) ?_
  have hi8 : i < 8 := by omega
  have hj8 : j < 8 := by omega
  refine g_aload_n dX9_see_0 rfl ?_
  refine g_getr dX9_see_1 k_X9_19 rfl (by decide) rfl rfl ?_
  refine g_iload_n dX9_see_4 rfl ?_
  refine g_callV1 dX9_see_5 l_X9_77 s_mX0_has (by decide) rfl rfl f_mX0_has (Nat.le_of_ble_eq_true rfl) (by decide) (ct_hasY isC3 hN8 hN hi1) ?_
  rintro _ _ ⟨rfl, rfl⟩
  refine g_ifeq 22 dX9_see_8 (by decide) (fun c => absurd c (by decide)) (fun _ => ?_)
  refine g_aload_n dX9_see_11 rfl ?_
  refine g_getr dX9_see_12 k_X9_19 rfl (by decide) rfl rfl ?_
  refine g_iload_n dX9_see_15 rfl ?_
  refine g_callV1 dX9_see_16 l_X9_77 s_mX0_has (by decide) rfl rfl f_mX0_has (Nat.le_of_ble_eq_true rfl) (by decide) (ct_hasY isC3 hN8 hN hj1) ?_
  rintro _ _ ⟨rfl, rfl⟩
  refine g_ifne 25 dX9_see_19 (by decide) (fun _ => ?_) (fun c => absurd c (by decide))
  refine g_aload_n dX9_see_25 rfl ?_
  refine g_getr dX9_see_26 k_X9_19 rfl (by decide) rfl rfl ?_
  refine g_getr dX9_see_29 k_X9_80 rfl (by decide) rfl isC3.people ?_
  refine g_iload_n dX9_see_32 rfl ?_
  refine g_aald dX9_see_33 isC3.a1.1 isC3.a1.2 rfl hi8 (by decide) (isC3.rp hi8) ?_
  refine g_geti dX9_see_34 k_X9_214 rfl (isC3.p hi8).1 (isC3.p hi8).2 ?_
  refine g_aload_n dX9_see_37 rfl ?_
  refine g_getr dX9_see_38 k_X9_19 rfl (by decide) rfl rfl ?_
  refine g_getr dX9_see_41 k_X9_80 rfl (by decide) rfl isC3.people ?_
  refine g_iload_n dX9_see_44 rfl ?_
  refine g_aald dX9_see_45 isC3.a1.1 isC3.a1.2 rfl hj8 (by decide) (isC3.rp hj8) ?_
  refine g_geti dX9_see_46 k_X9_214 rfl (isC3.p hj8).1 (isC3.p hj8).2 ?_
  refine g_icmpne 55 dX9_see_49 (by decide) (fun c49 => ?_) (fun c49 => ?_)
  · skip
    refine g_aload_n dX9_see_55 rfl ?_
    refine g_getr dX9_see_56 k_X9_19 rfl (by decide) rfl rfl ?_
    refine g_getr dX9_see_59 k_X9_217 rfl (by decide) rfl isC3.seen ?_
    refine g_iload_n dX9_see_62 rfl ?_
    refine g_iload_n dX9_see_63 rfl ?_
    refine g_iload_n dX9_see_64 rfl ?_
    refine g_callV3 dX9_see_65 l_X9_221 s_mX6_add isC3.o2.1 isC3.o2.2 rfl f_mX6_add (Nat.le_of_ble_eq_true rfl) (by decide) (ct_sadd isC3 hS8 hS _ _ b) ?_
    rintro _ _ (⟨hc1, rfl, rfl⟩ | ⟨hc1, rfl, rfl⟩)
    · refine g_ifeq 84 dX9_see_68 (by decide) (fun _ => ?_) (fun c => absurd rfl c)
      refine g_bipush (v := -104) dX9_see_84 (by decide) ?_
      exact g_ireturn dX9_see_86 rfl rfl (Or.inl ⟨hc1, rfl, rfl⟩)
    · refine g_ifeq 84 dX9_see_68 (by decide) (fun c => absurd c (by decide)) (fun _ => ?_)
      refine g_aload_n dX9_see_71 rfl ?_
      refine g_getr dX9_see_72 k_X9_19 rfl (by decide) rfl rfl ?_
      refine g_getr dX9_see_75 k_X9_217 rfl (by decide) rfl rfl ?_
      refine g_geti dX9_see_78 k_X9_226 rfl (by decide) rfl ?_
      refine g_goto 86 dX9_see_81 (by decide) ?_
      exact g_ireturn dX9_see_86 rfl rfl (Or.inr ⟨hc1, by show some (Value.int (upI (upI (upI (upI hi (3 + 3) S (nI i)) (3 + 4) S (nI j)) (3 + 5) S (vp_nar .boolean b)) (3 + 2) 3 (nI (S + 1)) (3 + 2) 3)) = _; rw [upI_s], rfl⟩)
  · skip
    exact absurd c49 hsd

set_option maxRecDepth 100000 in
set_option maxHeartbeats 4000000 in
theorem ct_forget  : MC E l 2 mX9_forget [.ref 0] 83 (hi, hl, RT) 0 0 (fun r h' => r = some (.int (hi (3 + 2) 3)) ∧ h' = (upI hi (3 + 2) 3 0, hl, RT)) := by
  refine MC.of [some (.ref 0), none] (by decide) rfl (Nat.le_of_ble_eq_true rfl) ?_
  refine g_aload_n dX9_forget_0 rfl ?_
  refine g_getr dX9_forget_1 k_X9_19 rfl (by decide) rfl rfl ?_
  refine g_getr dX9_forget_4 k_X9_217 rfl (by decide) rfl isC3.seen ?_
  refine g_geti dX9_forget_7 k_X9_226 rfl isC3.o2.1 isC3.o2.2 ?_
  refine g_istore_n dX9_forget_10 (by decide) rfl rfl ?_
  refine g_aload_n dX9_forget_11 rfl ?_
  refine g_getr dX9_forget_12 k_X9_19 rfl (by decide) rfl rfl ?_
  refine g_getr dX9_forget_15 k_X9_217 rfl (by decide) rfl isC3.seen ?_
  refine g_callV0 dX9_forget_18 l_X9_227 s_mX6_clear isC3.o2.1 isC3.o2.2 rfl f_mX6_clear (Nat.le_of_ble_eq_true rfl) (by decide) (ct_sclear isC3) ?_
  rintro _ _ ⟨rfl, rfl⟩
  refine g_iload_n dX9_forget_21 rfl ?_
  exact g_ireturn dX9_forget_22 rfl rfl ⟨rfl, rfl⟩

set_option maxRecDepth 100000 in
set_option maxHeartbeats 4000000 in
theorem ct_imageE (hE : hi 3 3 = 0) : MC E l 3 mX9_image [.ref 0] 83 (hi, hl, RT) 0 0 (fun r h' => r = some (.int (-103)) ∧ h' = (hi, hl, RT)) := by
  refine MC.of [some (.ref 0)] (by decide) rfl (Nat.le_of_ble_eq_true rfl) ?_
  refine g_aload_n dX9_image_0 rfl ?_
  refine g_getr dX9_image_1 k_X9_19 rfl (by decide) rfl rfl ?_
  refine g_callV0 dX9_image_4 l_X9_111 s_mX0_isEmpty (by decide) rfl rfl f_mX0_isEmpty (Nat.le_of_ble_eq_true rfl) (by decide) (ct_emptyY isC3 hE) ?_
  rintro _ _ ⟨rfl, rfl⟩
  refine g_ifeq 13 dX9_image_7 (by decide) (fun c => absurd c (by decide)) (fun _ => ?_)
  refine g_bipush (v := -103) dX9_image_10 (by decide) ?_
  exact g_ireturn dX9_image_12 rfl rfl ⟨rfl, rfl⟩

set_option maxRecDepth 100000 in
set_option maxHeartbeats 4000000 in
theorem ct_image (hkv : KV hi) {N : Nat} (hN8 : N ≤ 8) (hN : hi 3 3 = nI N) (hE : 0 < N) (hB : ∀ k, k < 8 → vp_nar .boolean (hi (3 + 5) k) = hi (3 + 5) k) : MC E l 3 mX9_image [.ref 0] 83 (hi, hl, RT) 0 0 (fun r h' => r = some (.int (hi 3 5)) ∧ h' = (upI (cwF hi 17 3) 0 5 1, hl, RT)) := by
  refine MC.of [some (.ref 0)] (by decide) rfl (Nat.le_of_ble_eq_true rfl) ?_
  refine g_aload_n dX9_image_0 rfl ?_
  refine g_getr dX9_image_1 k_X9_19 rfl (by decide) rfl rfl ?_
  refine g_callV0 dX9_image_4 l_X9_111 s_mX0_isEmpty (by decide) rfl rfl f_mX0_isEmpty (Nat.le_of_ble_eq_true rfl) (by decide) (ct_emptyN isC3 hN8 hN hE) ?_
  rintro _ _ ⟨rfl, rfl⟩
  refine g_ifeq 13 dX9_image_7 (by decide) (fun _ => ?_) (fun c => absurd c (by decide))
  refine g_aload_n dX9_image_13 rfl ?_
  refine g_getr dX9_image_14 k_X9_23 rfl (by decide) rfl rfl ?_
  refine g_aload_n dX9_image_17 rfl ?_
  refine g_getr dX9_image_18 k_X9_19 rfl (by decide) rfl rfl ?_
  refine g_callV1 dX9_image_21 l_X9_249 s_mX0_copyFrom (by decide) rfl rfl f_mX0_copyFrom (Nat.le_of_ble_eq_true rfl) (by decide) (ct_ccopy hkv isC17 isC3 (by omega) hB) ?_
  rintro _ _ ⟨rfl, rfl⟩
  refine g_aload_n dX9_image_24 rfl ?_
  refine g_iconst (v := 1) dX9_image_25 (by decide) ?_
  refine g_puti dX9_image_26 k_X9_67 rfl (by decide) rfl rfl rfl ?_
  refine g_aload_n dX9_image_29 rfl ?_
  refine g_getr dX9_image_30 k_X9_23 rfl (by decide) rfl rfl ?_
  refine g_geti dX9_image_33 k_X9_144 rfl (by decide) rfl ?_
  exact g_ireturn dX9_image_36 rfl rfl ⟨by show some (Value.int (upI (cwF hi 17 3) 0 5 1 17 5)) = _; rw [upI_a (by decide)]; unfold cwF; rw [if_pos (by omega)], rfl⟩

set_option maxRecDepth 100000 in
set_option maxHeartbeats 4000000 in
theorem ct_restoreN (h0 : hi 0 5 = 0) : MC E l 3 mX9_restore [.ref 0] 83 (hi, hl, RT) 0 0 (fun r h' => r = some (.int (-103)) ∧ h' = (hi, hl, RT)) := by
  refine MC.of [some (.ref 0)] (by decide) rfl (Nat.le_of_ble_eq_true rfl) ?_
  refine g_aload_n dX9_restore_0 rfl ?_
  refine g_geti dX9_restore_1 k_X9_67 rfl (by decide) rfl ?_
  refine g_ifne 10 dX9_restore_4 (by decide) (fun c4 => ?_) (fun c4 => ?_)
  · skip
    exact absurd h0 c4
  · skip
    refine g_bipush (v := -103) dX9_restore_7 (by decide) ?_
    exact g_ireturn dX9_restore_9 rfl rfl ⟨rfl, rfl⟩

set_option maxRecDepth 100000 in
set_option maxHeartbeats 4000000 in
theorem ct_restore (hkv : KV hi) (h0 : ¬ hi 0 5 = 0) (hB : ∀ k, k < 8 → vp_nar .boolean (hi (17 + 5) k) = hi (17 + 5) k) : MC E l 3 mX9_restore [.ref 0] 83 (hi, hl, RT) 0 0 (fun r h' => r = some (.int (hi 17 5)) ∧ h' = (cwF hi 3 17, hl, RT)) := by
  refine MC.of [some (.ref 0)] (by decide) rfl (Nat.le_of_ble_eq_true rfl) ?_
  refine g_aload_n dX9_restore_0 rfl ?_
  refine g_geti dX9_restore_1 k_X9_67 rfl (by decide) rfl ?_
  refine g_ifne 10 dX9_restore_4 (by decide) (fun c4 => ?_) (fun c4 => ?_)
  · skip
    refine g_aload_n dX9_restore_10 rfl ?_
    refine g_getr dX9_restore_11 k_X9_19 rfl (by decide) rfl rfl ?_
    refine g_aload_n dX9_restore_14 rfl ?_
    refine g_getr dX9_restore_15 k_X9_23 rfl (by decide) rfl rfl ?_
    refine g_callV1 dX9_restore_18 l_X9_249 s_mX0_copyFrom (by decide) rfl rfl f_mX0_copyFrom (Nat.le_of_ble_eq_true rfl) (by decide) (ct_ccopy hkv isC3 isC17 (by omega) hB) ?_
    rintro _ _ ⟨rfl, rfl⟩
    refine g_aload_n dX9_restore_21 rfl ?_
    refine g_getr dX9_restore_22 k_X9_19 rfl (by decide) rfl rfl ?_
    refine g_geti dX9_restore_25 k_X9_144 rfl (by decide) rfl ?_
    exact g_ireturn dX9_restore_28 rfl rfl ⟨by show some (Value.int (cwF hi 3 17 3 5)) = _; unfold cwF; rw [if_pos (by omega)], rfl⟩
  · skip
    exact absurd c4 h0

set_option maxRecDepth 100000 in
set_option maxHeartbeats 4000000 in
theorem ct_count13  : MC E l 8 mX9_count [.ref 0, .int (13)] 83 (hi, hl, RT) 0 0 (fun r h' => r = some (.int (hi 1 1)) ∧ h' = (hi, hl, RT)) := by
  refine MC.of [some (.ref 0), some (.int (13))] (by decide) rfl (Nat.le_of_ble_eq_true rfl) ?_
  refine g_iload_n dX9_count_0 rfl ?_
  refine g_bipush (v := 13) dX9_count_1 (by decide) ?_
  refine g_icmpne 14 dX9_count_3 (by decide) (fun c3 => ?_) (fun c3 => ?_)
  · skip
    exact absurd rfl c3
  · skip
    refine g_aload_n dX9_count_6 rfl ?_
    refine g_getr dX9_count_7 k_X9_12 rfl (by decide) rfl rfl ?_
    refine g_geti dX9_count_10 k_X9_48 rfl (by decide) rfl ?_
    exact g_ireturn dX9_count_13 rfl rfl ⟨rfl, rfl⟩

set_option maxRecDepth 100000 in
set_option maxHeartbeats 4000000 in
theorem ct_count14  : MC E l 8 mX9_count [.ref 0, .int (14)] 83 (hi, hl, RT) 0 0 (fun r h' => r = some (.int (hi 0 6)) ∧ h' = (hi, hl, RT)) := by
  refine MC.of [some (.ref 0), some (.int (14))] (by decide) rfl (Nat.le_of_ble_eq_true rfl) ?_
  refine g_iload_n dX9_count_0 rfl ?_
  refine g_bipush (v := 13) dX9_count_1 (by decide) ?_
  refine g_icmpne 14 dX9_count_3 (by decide) (fun c3 => ?_) (fun c3 => ?_)
  · skip
    refine g_iload_n dX9_count_14 rfl ?_
    refine g_bipush (v := 14) dX9_count_15 (by decide) ?_
    refine g_icmpne 25 dX9_count_17 (by decide) (fun c17 => ?_) (fun c17 => ?_)
    · skip
      exact absurd rfl c17
    · skip
      refine g_aload_n dX9_count_20 rfl ?_
      refine g_geti dX9_count_21 k_X9_71 rfl (by decide) rfl ?_
      exact g_ireturn dX9_count_24 rfl rfl ⟨rfl, rfl⟩
  · skip
    exact absurd c3 (by decide)

set_option maxRecDepth 100000 in
set_option maxHeartbeats 4000000 in
theorem ct_count (hkv : KV hi) {N : Nat} (hN8 : N ≤ 8) (hN : hi 3 3 = nI N) {F : Nat} (hF8 : F ≤ 8) (hF : hi 3 2 = nI F) (S k : Nat) (hk : k < 13) : MC E l 8 mX9_count [.ref 0, .int (nI k)] 83 (hi, hl, RT) 0 0 (fun r h' => r = some (.int (tellN hi 3 N F S k)) ∧ h' = (hi, hl, RT)) := by
  refine MC.of [some (.ref 0), some (.int (nI k))] (by decide) rfl (Nat.le_of_ble_eq_true rfl) ?_
  refine g_iload_n dX9_count_0 rfl ?_
  refine g_bipush (v := 13) dX9_count_1 (by decide) ?_
  refine g_icmpne 14 dX9_count_3 (by decide) (fun c3 => ?_) (fun c3 => ?_)
  · skip
    refine g_iload_n dX9_count_14 rfl ?_
    refine g_bipush (v := 14) dX9_count_15 (by decide) ?_
    refine g_icmpne 25 dX9_count_17 (by decide) (fun c17 => ?_) (fun c17 => ?_)
    · skip
      refine g_aload_n dX9_count_25 rfl ?_
      refine g_getr dX9_count_26 k_X9_19 rfl (by decide) rfl rfl ?_
      refine g_iload_n dX9_count_29 rfl ?_
      refine g_callV1 dX9_count_30 l_X9_252 s_mX0_tell (by decide) rfl rfl f_mX0_tell (Nat.le_of_ble_eq_true rfl) (by decide) (ct_tell hkv isC3 hN8 hN hF8 hF S k hk) ?_
      rintro _ _ ⟨rfl, rfl⟩
      exact g_ireturn dX9_count_33 rfl rfl ⟨rfl, rfl⟩
    · skip
      exact absurd ((nI_eq (b := 14) (by omega) (by decide)).mp c17) (by omega)
  · skip
    exact absurd ((nI_eq (b := 13) (by omega) (by decide)).mp c3) (by omega)

set_option maxRecDepth 100000 in
set_option maxHeartbeats 4000000 in
theorem ct_countX (x : Int32) (hx : x.toInt < 0 ∨ 14 < x.toInt) : MC E l 8 mX9_count [.ref 0, .int (x)] 83 (hi, hl, RT) 0 0 (fun r h' => r = some (.int (-102)) ∧ h' = (hi, hl, RT)) := by
  refine MC.of [some (.ref 0), some (.int (x))] (by decide) rfl (Nat.le_of_ble_eq_true rfl) ?_
  refine g_iload_n dX9_count_0 rfl ?_
  refine g_bipush (v := 13) dX9_count_1 (by decide) ?_
  refine g_icmpne 14 dX9_count_3 (by decide) (fun c3 => ?_) (fun c3 => ?_)
  · skip
    refine g_iload_n dX9_count_14 rfl ?_
    refine g_bipush (v := 14) dX9_count_15 (by decide) ?_
    refine g_icmpne 25 dX9_count_17 (by decide) (fun c17 => ?_) (fun c17 => ?_)
    · skip
      refine g_aload_n dX9_count_25 rfl ?_
      refine g_getr dX9_count_26 k_X9_19 rfl (by decide) rfl rfl ?_
      refine g_iload_n dX9_count_29 rfl ?_
      refine g_callV1 dX9_count_30 l_X9_252 s_mX0_tell (by decide) rfl rfl f_mX0_tell (Nat.le_of_ble_eq_true rfl) (by decide) (ct_tellX isC3 x (by omega)) ?_
      rintro _ _ ⟨rfl, rfl⟩
      exact g_ireturn dX9_count_33 rfl rfl ⟨rfl, rfl⟩
    · skip
      exact absurd hx (by rw [c17]; decide)
  · skip
    exact absurd hx (by rw [c3]; decide)

end
