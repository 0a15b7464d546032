section
variable {E : XE} {l : Launch} {hi : Nat → Nat → Int32} {hl : Nat → Nat → Int64}
set_option maxRecDepth 100000 in
set_option maxHeartbeats 4000000 in
theorem ct_showX1 {N : Nat} (hN8 : N ≤ 8) (hN : hi 3 3 = nI N) (x y : Int32) (hx : noP x N) : MC E l 2 mX9_show [.ref 0, .int (x), .int (y)] 83 (hi, hl, RT) 0 0 (fun r h' => r = some (.int (-101)) ∧ h' = (hi, hl, RT)) := by
  refine MC.of [some (.ref 0), some (.int (x)), some (.int (y)), none, none] (by decide) rfl (Nat.le_of_ble_eq_true rfl) ?_
  refine g_aload_n dX9_show_0 rfl ?_
  refine g_getr dX9_show_1 k_X9_19 rfl (by decide) rfl rfl ?_
  refine g_iload_n dX9_show_4 rfl ?_
  refine g_callV1 (M' := mX0_has) (mc' := 0) (ms' := 0) dX9_show_5 l_X9_77 s_mX0_has (by decide) rfl rfl f_mX0_has (Nat.le_of_ble_eq_true rfl) (by decide) (ct_hasN isC3 hN hx) ?_
  rintro _ _ ⟨rfl, rfl⟩
  refine g_ifeq 22 dX9_show_8 (by decide) (fun _ => ?_) (fun c => absurd c (by decide))
  refine g_bipush (v := -101) dX9_show_22 (by decide) ?_
  exact g_ireturn dX9_show_24 rfl rfl ⟨rfl, rfl⟩

set_option maxRecDepth 100000 in
set_option maxHeartbeats 4000000 in
theorem ct_showX2 {N : Nat} (hN8 : N ≤ 8) (hN : hi 3 3 = nI N) {i : Nat} (hi1 : i < N) (y : Int32) (hy : noP y N) : MC E l 2 mX9_show [.ref 0, .int (nI i), .int (y)] 83 (hi, hl, RT) 0 0 (fun r h' => r = some (.int (-101)) ∧ h' = (hi, hl, RT)) := by
  refine MC.of [some (.ref 0), some (.int (nI i)), some (.int (y)), none, none] (by decide) rfl (Nat.le_of_ble_eq_true rfl) ?_
  refine g_aload_n dX9_show_0 rfl ?_
  refine g_getr dX9_show_1 k_X9_19 rfl (by decide) rfl rfl ?_
  refine g_iload_n dX9_show_4 rfl ?_
  refine g_callV1 (M' := mX0_has) (mc' := 0) (ms' := 0) dX9_show_5 l_X9_77 s_mX0_has (by decide) rfl rfl f_mX0_has (Nat.le_of_ble_eq_true rfl) (by decide) (ct_hasY isC3 hN8 hN hi1) ?_
  rintro _ _ ⟨rfl, rfl⟩
  refine g_ifeq 22 dX9_show_8 (by decide) (fun c => absurd c (by decide)) (fun _ => ?_)
  refine g_aload_n dX9_show_11 rfl ?_
  refine g_getr dX9_show_12 k_X9_19 rfl (by decide) rfl rfl ?_
  refine g_iload_n dX9_show_15 rfl ?_
  refine g_callV1 (M' := mX0_has) (mc' := 0) (ms' := 0) dX9_show_16 l_X9_77 s_mX0_has (by decide) rfl rfl f_mX0_has (Nat.le_of_ble_eq_true rfl) (by decide) (ct_hasN isC3 hN hy) ?_
  rintro _ _ ⟨rfl, rfl⟩
  refine g_ifne 25 dX9_show_19 (by decide) (fun c => absurd c (by decide)) (fun _ => ?_)
  refine g_bipush (v := -101) dX9_show_22 (by decide) ?_
  exact g_ireturn dX9_show_24 rfl rfl ⟨rfl, rfl⟩

set_option maxRecDepth 100000 in
set_option maxHeartbeats 4000000 in
theorem ct_backX1 {N : Nat} (hN8 : N ≤ 8) (hN : hi 3 3 = nI N) (x y : Int32) (hx : noP x N) : MC E l 2 mX9_back [.ref 0, .int (x), .int (y)] 83 (hi, hl, RT) 0 0 (fun r h' => r = some (.int (-101)) ∧ h' = (hi, hl, RT)) := by
  refine MC.of [some (.ref 0), some (.int (x)), some (.int (y)), none, none, none] (by decide) rfl (Nat.le_of_ble_eq_true rfl) ?_
  refine g_aload_n dX9_back_0 rfl ?_
  refine g_getr dX9_back_1 k_X9_19 rfl (by decide) rfl rfl ?_
  refine g_iload_n dX9_back_4 rfl ?_
  refine g_callV1 (M' := mX0_has) (mc' := 0) (ms' := 0) dX9_back_5 l_X9_77 s_mX0_has (by decide) rfl rfl f_mX0_has (Nat.le_of_ble_eq_true rfl) (by decide) (ct_hasN isC3 hN hx) ?_
  rintro _ _ ⟨rfl, rfl⟩
  refine g_ifeq 22 dX9_back_8 (by decide) (fun _ => ?_) (fun c => absurd c (by decide))
  refine g_bipush (v := -101) dX9_back_22 (by decide) ?_
  exact g_ireturn dX9_back_24 rfl rfl ⟨rfl, rfl⟩

set_option maxRecDepth 100000 in
set_option maxHeartbeats 4000000 in
theorem ct_backX2 {N : Nat} (hN8 : N ≤ 8) (hN : hi 3 3 = nI N) {i : Nat} (hi1 : i < N) (y : Int32) (hy : noP y N) : MC E l 2 mX9_back [.ref 0, .int (nI i), .int (y)] 83 (hi, hl, RT) 0 0 (fun r h' => r = some (.int (-101)) ∧ h' = (hi, hl, RT)) := by
  refine MC.of [some (.ref 0), some (.int (nI i)), some (.int (y)), none, none, none] (by decide) rfl (Nat.le_of_ble_eq_true rfl) ?_
  refine g_aload_n dX9_back_0 rfl ?_
  refine g_getr dX9_back_1 k_X9_19 rfl (by decide) rfl rfl ?_
  refine g_iload_n dX9_back_4 rfl ?_
  refine g_callV1 (M' := mX0_has) (mc' := 0) (ms' := 0) dX9_back_5 l_X9_77 s_mX0_has (by decide) rfl rfl f_mX0_has (Nat.le_of_ble_eq_true rfl) (by decide) (ct_hasY isC3 hN8 hN hi1) ?_
  rintro _ _ ⟨rfl, rfl⟩
  refine g_ifeq 22 dX9_back_8 (by decide) (fun c => absurd c (by decide)) (fun _ => ?_)
  refine g_aload_n dX9_back_11 rfl ?_
  refine g_getr dX9_back_12 k_X9_19 rfl (by decide) rfl rfl ?_
  refine g_iload_n dX9_back_15 rfl ?_
  refine g_callV1 (M' := mX0_has) (mc' := 0) (ms' := 0) dX9_back_16 l_X9_77 s_mX0_has (by decide) rfl rfl f_mX0_has (Nat.le_of_ble_eq_true rfl) (by decide) (ct_hasN isC3 hN hy) ?_
  rintro _ _ ⟨rfl, rfl⟩
  refine g_ifne 25 dX9_back_19 (by decide) (fun c => absurd c (by decide)) (fun _ => ?_)
  refine g_bipush (v := -101) dX9_back_22 (by decide) ?_
  exact g_ireturn dX9_back_24 rfl rfl ⟨rfl, rfl⟩

set_option maxRecDepth 100000 in
set_option maxHeartbeats 4000000 in
theorem ct_meetX1 {N : Nat} (hN8 : N ≤ 8) (hN : hi 3 3 = nI N) (x y : Int32) (hx : noP x N) : MC E l 2 mX9_meet [.ref 0, .int (x), .int (y)] 83 (hi, hl, RT) 0 0 (fun r h' => r = some (.int (-101)) ∧ h' = (hi, hl, RT)) := by
  refine MC.of [some (.ref 0), some (.int (x)), some (.int (y)), none, none] (by decide) rfl (Nat.le_of_ble_eq_true rfl) ?_
  refine g_aload_n dX9_meet_0 rfl ?_
  refine g_getr dX9_meet_1 k_X9_19 rfl (by decide) rfl rfl ?_
  refine g_iload_n dX9_meet_4 rfl ?_
  refine g_callV1 (M' := mX0_has) (mc' := 0) (ms' := 0) dX9_meet_5 l_X9_77 s_mX0_has (by decide) rfl rfl f_mX0_has (Nat.le_of_ble_eq_true rfl) (by decide) (ct_hasN isC3 hN hx) ?_
  rintro _ _ ⟨rfl, rfl⟩
  refine g_ifeq 22 dX9_meet_8 (by decide) (fun _ => ?_) (fun c => absurd c (by decide))
  refine g_bipush (v := -101) dX9_meet_22 (by decide) ?_
  exact g_ireturn dX9_meet_24 rfl rfl ⟨rfl, rfl⟩

set_option maxRecDepth 100000 in
set_option maxHeartbeats 4000000 in
theorem ct_meetX2 {N : Nat} (hN8 : N ≤ 8) (hN : hi 3 3 = nI N) {i : Nat} (hi1 : i < N) (y : Int32) (hy : noP y N) : MC E l 2 mX9_meet [.ref 0, .int (nI i), .int (y)] 83 (hi, hl, RT) 0 0 (fun r h' => r = some (.int (-101)) ∧ h' = (hi, hl, RT)) := by
  refine MC.of [some (.ref 0), some (.int (nI i)), some (.int (y)), none, none] (by decide) rfl (Nat.le_of_ble_eq_true rfl) ?_
  refine g_aload_n dX9_meet_0 rfl ?_
  refine g_getr dX9_meet_1 k_X9_19 rfl (by decide) rfl rfl ?_
  refine g_iload_n dX9_meet_4 rfl ?_
  refine g_callV1 (M' := mX0_has) (mc' := 0) (ms' := 0) dX9_meet_5 l_X9_77 s_mX0_has (by decide) rfl rfl f_mX0_has (Nat.le_of_ble_eq_true rfl) (by decide) (ct_hasY isC3 hN8 hN hi1) ?_
  rintro _ _ ⟨rfl, rfl⟩
  refine g_ifeq 22 dX9_meet_8 (by decide) (fun c => absurd c (by decide)) (fun _ => ?_)
  refine g_aload_n dX9_meet_11 rfl ?_
  refine g_getr dX9_meet_12 k_X9_19 rfl (by decide) rfl rfl ?_
  refine g_iload_n dX9_meet_15 rfl ?_
  refine g_callV1 (M' := mX0_has) (mc' := 0) (ms' := 0) dX9_meet_16 l_X9_77 s_mX0_has (by decide) rfl rfl f_mX0_has (Nat.le_of_ble_eq_true rfl) (by decide) (ct_hasN isC3 hN hy) ?_
  rintro _ _ ⟨rfl, rfl⟩
  refine g_ifne 25 dX9_meet_19 (by decide) (fun c => absurd c (by decide)) (fun _ => ?_)
  refine g_bipush (v := -101) dX9_meet_22 (by decide) ?_
  exact g_ireturn dX9_meet_24 rfl rfl ⟨rfl, rfl⟩

set_option maxRecDepth 100000 in
set_option maxHeartbeats 4000000 in
theorem ct_show (hkv : KV hi) {N : Nat} (hN8 : N ≤ 8) (hN : hi 3 3 = nI N) {i j : Nat} (hi1 : i < N) (hj1 : j < N) : MC E l 5 mX9_show [.ref 0, .int (nI i), .int (nI j)] 83 (hi, hl, RT) 0 0 (fun r h' => (pCan hi (3 + 6 + i) (3 + 6 + j) = false ∧ r = some (.int (-103)) ∧ h' = (hi, hl, RT)) ∨ (pCan hi (3 + 6 + i) (3 + 6 + j) = true ∧ r = some (.int (if pRight hi (3 + 6 + i) (3 + 6 + j) (hi 3 4) = true then (if pMatch (prF hi 3 (3 + 6 + i) (3 + 6 + j)) (3 + 6 + i) (3 + 6 + j) = true then 2 else 1) else 0)) ∧ h' = (prF hi 3 (3 + 6 + i) (3 + 6 + j), hl, RT))) := by
  refine MC.of [some (.ref 0), some (.int (nI i)), some (.int (nI j)), none, none] (by decide) rfl (Nat.le_of_ble_eq_true rfl) ?_
  have hi8 : i < 8 := by omega
  have hj8 : j < 8 := by omega
  refine g_aload_n dX9_show_0 rfl ?_
  refine g_getr dX9_show_1 k_X9_19 rfl (by decide) rfl rfl ?_
  refine g_iload_n dX9_show_4 rfl ?_
  refine g_callV1 (M' := mX0_has) (mc' := 0) (ms' := 0) dX9_show_5 l_X9_77 s_mX0_has (by decide) rfl rfl f_mX0_has (Nat.le_of_ble_eq_true rfl) (by decide) (ct_hasY isC3 hN8 hN hi1) ?_
  rintro _ _ ⟨rfl, rfl⟩
  refine g_ifeq 22 dX9_show_8 (by decide) (fun c => absurd c (by decide)) (fun _ => ?_)
  refine g_aload_n dX9_show_11 rfl ?_
  refine g_getr dX9_show_12 k_X9_19 rfl (by decide) rfl rfl ?_
  refine g_iload_n dX9_show_15 rfl ?_
  refine g_callV1 (M' := mX0_has) (mc' := 0) (ms' := 0) dX9_show_16 l_X9_77 s_mX0_has (by decide) rfl rfl f_mX0_has (Nat.le_of_ble_eq_true rfl) (by decide) (ct_hasY isC3 hN8 hN hj1) ?_
  rintro _ _ ⟨rfl, rfl⟩
  refine g_ifne 25 dX9_show_19 (by decide) (fun _ => ?_) (fun c => absurd c (by decide))
  refine g_aload_n dX9_show_25 rfl ?_
  refine g_getr dX9_show_26 k_X9_19 rfl (by decide) rfl rfl ?_
  refine g_getr dX9_show_29 k_X9_80 rfl (by decide) rfl isC3.people ?_
  refine g_iload_n dX9_show_32 rfl ?_
  refine g_aald dX9_show_33 isC3.a1.1 isC3.a1.2 rfl hi8 (by decide) (isC3.rp hi8) ?_
  refine g_astore_n dX9_show_34 (by decide) rfl rfl ?_
  refine g_aload_n dX9_show_35 rfl ?_
  refine g_getr dX9_show_36 k_X9_19 rfl (by decide) rfl rfl ?_
  refine g_getr dX9_show_39 k_X9_80 rfl (by decide) rfl isC3.people ?_
  refine g_iload_n dX9_show_42 rfl ?_
  refine g_aald dX9_show_43 isC3.a1.1 isC3.a1.2 rfl hj8 (by decide) (isC3.rp hj8) ?_
  refine g_astore dX9_show_44 (by decide) rfl rfl ?_
  refine g_aload_n dX9_show_46 rfl ?_
  refine g_aload dX9_show_47 rfl ?_
  refine g_callV1 (M' := mX5_canBeShown) (mc' := 0) (ms' := 0) dX9_show_49 l_X9_117 s_mX5_canBeShown (isC3.p hi8).1 (isC3.p hi8).2 rfl f_mX5_canBeShown (Nat.le_of_ble_eq_true rfl) (by decide) (ct_canBeShown hkv (isC3.p hi8) (isC3.p hj8)) ?_
  rintro _ _ ⟨rfl, rfl⟩
  refine g_ifne 58 dX9_show_52 (by decide) (fun c52 => ?_) (fun c52 => ?_)
  · skip
    refine g_aload_n dX9_show_58 rfl ?_
    refine g_getr dX9_show_59 k_X9_19 rfl (by decide) rfl rfl ?_
    refine g_aload_n dX9_show_62 rfl ?_
    refine g_aload dX9_show_63 rfl ?_
    refine g_callV2 (M' := mX0_present) (mc' := 0) (ms' := 0) dX9_show_65 l_X9_121 s_mX0_present (by decide) rfl rfl f_mX0_present (Nat.le_of_ble_eq_true rfl) (by decide) (ct_present hkv isC3 (isC3.p hi8) (isC3.p hj8)) ?_
    rintro _ _ ⟨rfl, rfl⟩
    refine g_ifne 73 dX9_show_68 (by decide) (fun c68 => ?_) (fun c68 => ?_)
    · skip
      refine g_aload_n dX9_show_73 rfl ?_
      refine g_aload dX9_show_74 rfl ?_
      refine g_callV1 (M' := mX5_isMatchOf) (mc' := 0) (ms' := 0) dX9_show_76 l_X9_125 s_mX5_isMatchOf (isC3.p hi8).1 (isC3.p hi8).2 rfl f_mX5_isMatchOf (Nat.le_of_ble_eq_true rfl) (by decide) (ct_isMatchOf (isC3.p hi8) (isC3.p hj8)) ?_
      rintro _ _ ⟨rfl, rfl⟩
      refine g_ifeq 86 dX9_show_79 (by decide) (fun c79 => ?_) (fun c79 => ?_)
      · skip
        refine g_iconst (v := 1) dX9_show_86 (by decide) ?_
        exact g_ireturn dX9_show_87 rfl rfl (Or.inr ⟨bI_n.mp c52, by rw [if_pos (bI_n.mp c68), if_neg (by rw [bI_0.mp c79]; decide)], rfl⟩)
      · skip
        refine g_iconst (v := 2) dX9_show_82 (by decide) ?_
        refine g_goto 87 dX9_show_83 (by decide) ?_
        exact g_ireturn dX9_show_87 rfl rfl (Or.inr ⟨bI_n.mp c52, by rw [if_pos (bI_n.mp c68), if_pos (bI_n.mp c79)], rfl⟩)
    · skip
      refine g_iconst (v := 0) dX9_show_71 (by decide) ?_
      exact g_ireturn dX9_show_72 rfl rfl (Or.inr ⟨bI_n.mp c52, by rw [if_neg (by rw [bI_0.mp c68]; decide)], rfl⟩)
  · skip
    refine g_bipush (v := -103) dX9_show_55 (by decide) ?_
    exact g_ireturn dX9_show_57 rfl rfl (Or.inl ⟨bI_0.mp c52, rfl, rfl⟩)

set_option maxRecDepth 100000 in
set_option maxHeartbeats 4000000 in
theorem ct_back {N : Nat} (hN8 : N ≤ 8) (hN : hi 3 3 = nI N) {i j : Nat} (hi1 : i < N) (hj1 : j < N) : MC E l 3 mX9_back [.ref 0, .int (nI i), .int (nI j)] 83 (hi, hl, RT) 0 0 (fun r h' => ((pShown hi (3 + 6 + i) (3 + 6 + j) = false ∨ hi (3 + 6 + i) 11 = hi (3 + 6 + j) 0) ∧ r = some (.int (-103)) ∧ h' = (hi, hl, RT)) ∨ ((pShown hi (3 + 6 + i) (3 + 6 + j) = true ∧ ¬ hi (3 + 6 + i) 11 = hi (3 + 6 + j) 0) ∧ r = some (.int (bI (pWent hi (3 + 6 + i) (3 + 6 + j)))) ∧ h' = (upI (upI (upI hi (3 + 6 + i) 7 (hi (3 + 6 + i) 7 &&& (hi (3 + 6 + j) 1 ^^^ -1))) (3 + 6 + i) 8 (hi (3 + 6 + i) 8 &&& (hi (3 + 6 + j) 1 ^^^ -1))) 3 6 (hi 3 6 + 1), hl, RT))) := by
  refine MC.of [some (.ref 0), some (.int (nI i)), some (.int (nI j)), none, none, none] (by decide) rfl (Nat.le_of_ble_eq_true rfl) ?_
  have hi8 : i < 8 := by omega
  have hj8 : j < 8 := by omega
  have np : ¬ 3 = 3 + 6 + i := by omega
  refine g_aload_n dX9_back_0 rfl ?_
  refine g_getr dX9_back_1 k_X9_19 rfl (by decide) rfl rfl ?_
  refine g_iload_n dX9_back_4 rfl ?_
  refine g_callV1 (M' := mX0_has) (mc' := 0) (ms' := 0) dX9_back_5 l_X9_77 s_mX0_has (by decide) rfl rfl f_mX0_has (Nat.le_of_ble_eq_true rfl) (by decide) (ct_hasY isC3 hN8 hN hi1) ?_
  rintro _ _ ⟨rfl, rfl⟩
  refine g_ifeq 22 dX9_back_8 (by decide) (fun c => absurd c (by decide)) (fun _ => ?_)
  refine g_aload_n dX9_back_11 rfl ?_
  refine g_getr dX9_back_12 k_X9_19 rfl (by decide) rfl rfl ?_
  refine g_iload_n dX9_back_15 rfl ?_
  refine g_callV1 (M' := mX0_has) (mc' := 0) (ms' := 0) dX9_back_16 l_X9_77 s_mX0_has (by decide) rfl rfl f_mX0_has (Nat.le_of_ble_eq_true rfl) (by decide) (ct_hasY isC3 hN8 hN hj1) ?_
  rintro _ _ ⟨rfl, rfl⟩
  refine g_ifne 25 dX9_back_19 (by decide) (fun _ => ?_) (fun c => absurd c (by decide))
  refine g_aload_n dX9_back_25 rfl ?_
  refine g_getr dX9_back_26 k_X9_19 rfl (by decide) rfl rfl ?_
  refine g_getr dX9_back_29 k_X9_80 rfl (by decide) rfl isC3.people ?_
  refine g_iload_n dX9_back_32 rfl ?_
  refine g_aald dX9_back_33 isC3.a1.1 isC3.a1.2 rfl hi8 (by decide) (isC3.rp hi8) ?_
  refine g_astore_n dX9_back_34 (by decide) rfl rfl ?_
  refine g_aload_n dX9_back_35 rfl ?_
  refine g_getr dX9_back_36 k_X9_19 rfl (by decide) rfl rfl ?_
  refine g_getr dX9_back_39 k_X9_80 rfl (by decide) rfl isC3.people ?_
  refine g_iload_n dX9_back_42 rfl ?_
  refine g_aald dX9_back_43 isC3.a1.1 isC3.a1.2 rfl hj8 (by decide) (isC3.rp hj8) ?_
  refine g_astore dX9_back_44 (by decide) rfl rfl ?_
  refine g_aload_n dX9_back_46 rfl ?_
  refine g_aload dX9_back_47 rfl ?_
  refine g_callV1 (M' := mX5_wasShown) (mc' := 0) (ms' := 0) dX9_back_49 l_X9_128 s_mX5_wasShown (isC3.p hi8).1 (isC3.p hi8).2 rfl f_mX5_wasShown (Nat.le_of_ble_eq_true rfl) (by decide) (ct_wasShown (isC3.p hi8) (isC3.p hj8)) ?_
  rintro _ _ ⟨rfl, rfl⟩
  refine g_ifeq 64 dX9_back_52 (by decide) (fun c52 => ?_) (fun c52 => ?_)
  · skip
    refine g_bipush (v := -103) dX9_back_64 (by decide) ?_
    exact g_ireturn dX9_back_66 rfl rfl (Or.inl ⟨Or.inl (bI_0.mp c52), rfl, rfl⟩)
  · skip
    refine g_aload_n dX9_back_55 rfl ?_
    refine g_aload dX9_back_56 rfl ?_
    refine g_callV1 (M' := mX5_isCoupleWith) (mc' := 0) (ms' := 0) dX9_back_58 l_X9_131 s_mX5_isCoupleWith (isC3.p hi8).1 (isC3.p hi8).2 rfl f_mX5_isCoupleWith (Nat.le_of_ble_eq_true rfl) (by decide) (ct_isCoupleWith (isC3.p hi8) (isC3.p hj8)) ?_
    rintro _ _ ⟨rfl, rfl⟩
    refine g_ifeq 67 dX9_back_61 (by decide) (fun c61 => ?_) (fun c61 => ?_)
    · skip
      refine g_aload_n dX9_back_67 rfl ?_
      refine g_aload dX9_back_68 rfl ?_
      refine g_callV1 (M' := mX5_wentRightOn) (mc' := 0) (ms' := 0) dX9_back_70 l_X9_134 s_mX5_wentRightOn (isC3.p hi8).1 (isC3.p hi8).2 rfl f_mX5_wentRightOn (Nat.le_of_ble_eq_true rfl) (by decide) (ct_wentRightOn (isC3.p hi8) (isC3.p hj8)) ?_
      rintro _ _ ⟨rfl, rfl⟩
      refine g_ifeq 80 dX9_back_73 (by decide) (fun c73 => ?_) (fun c73 => ?_)
      · skip
        refine g_iconst (v := 0) dX9_back_80 (by decide) ?_
        refine g_istore dX9_back_81 (by decide) rfl rfl ?_
        refine g_aload_n dX9_back_83 rfl ?_
        refine g_aload dX9_back_84 rfl ?_
        refine g_callV1 (M' := mX5_takeBack) (mc' := 0) (ms' := 0) dX9_back_86 l_X9_137 s_mX5_takeBack (isC3.p hi8).1 (isC3.p hi8).2 rfl f_mX5_takeBack (Nat.le_of_ble_eq_true rfl) (by decide) (ct_takeBack (isC3.p hi8) (isC3.p hj8)) ?_
        rintro _ _ ⟨rfl, rfl⟩
        refine g_aload_n dX9_back_89 rfl ?_
        refine g_getr dX9_back_90 k_X9_19 rfl (by decide) rfl rfl ?_
        refine g_dup dX9_back_93 rfl ?_
        refine g_geti dX9_back_94 k_X9_141 rfl (by decide) rfl ?_
        refine g_iconst (v := 1) dX9_back_97 (by decide) ?_
        refine g_iadd dX9_back_98 ?_
        refine g_puti dX9_back_99 k_X9_141 rfl (by decide) rfl rfl rfl ?_
        refine g_iload dX9_back_102 rfl ?_
        exact g_ireturn dX9_back_104 rfl rfl (Or.inr ⟨⟨bI_n.mp c52, of_decide_eq_false (bI_0.mp c61)⟩, by rw [bI_0.mp c73]; rfl, by simp only [upI_a np]⟩)
      · skip
        refine g_iconst (v := 1) dX9_back_76 (by decide) ?_
        refine g_goto 81 dX9_back_77 (by decide) ?_
        refine g_istore dX9_back_81 (by decide) rfl rfl ?_
        refine g_aload_n dX9_back_83 rfl ?_
        refine g_aload dX9_back_84 rfl ?_
        refine g_callV1 (M' := mX5_takeBack) (mc' := 0) (ms' := 0) dX9_back_86 l_X9_137 s_mX5_takeBack (isC3.p hi8).1 (isC3.p hi8).2 rfl f_mX5_takeBack (Nat.le_of_ble_eq_true rfl) (by decide) (ct_takeBack (isC3.p hi8) (isC3.p hj8)) ?_
        rintro _ _ ⟨rfl, rfl⟩
        refine g_aload_n dX9_back_89 rfl ?_
        refine g_getr dX9_back_90 k_X9_19 rfl (by decide) rfl rfl ?_
        refine g_dup dX9_back_93 rfl ?_
        refine g_geti dX9_back_94 k_X9_141 rfl (by decide) rfl ?_
        refine g_iconst (v := 1) dX9_back_97 (by decide) ?_
        refine g_iadd dX9_back_98 ?_
        refine g_puti dX9_back_99 k_X9_141 rfl (by decide) rfl rfl rfl ?_
        refine g_iload dX9_back_102 rfl ?_
        exact g_ireturn dX9_back_104 rfl rfl (Or.inr ⟨⟨bI_n.mp c52, of_decide_eq_false (bI_0.mp c61)⟩, by rw [bI_n.mp c73]; rfl, by simp only [upI_a np]⟩)
    · skip
      refine g_bipush (v := -103) dX9_back_64 (by decide) ?_
      exact g_ireturn dX9_back_66 rfl rfl (Or.inl ⟨Or.inr (of_decide_eq_true (bI_n.mp c61)), rfl, rfl⟩)

def TLF (hi : Nat → Nat → Int32) (p q : Nat) : Nat → Nat → Int32 := upI (upI hi p 7 (hi p 7 &&& (hi q 1 ^^^ -1))) p 8 (hi p 8 ||| hi q 1)
theorem KV.up {hi : Nat → Nat → Int32} (h : KV hi) {a k : Nat} {v : Int32} (hk : k ≠ 2) : KV (upI hi a k v) := fun p hp => by rw [upI_k (Ne.symm hk)]; exact h p hp

set_option maxRecDepth 100000 in
set_option maxHeartbeats 4000000 in
theorem ct_meet (hkv : KV hi) {N : Nat} (hN8 : N ≤ 8) (hN : hi 3 3 = nI N) {i j : Nat} (hi1 : i < N) (hj1 : j < N) : MC E l 4 mX9_meet [.ref 0, .int (nI i), .int (nI j)] 83 (hi, hl, RT) 0 0 (fun r h' => ((pMatch hi (3 + 6 + i) (3 + 6 + j) && (!pTaken hi (3 + 6 + i) && !pTaken hi (3 + 6 + j))) = false ∧ r = some (.int (-103)) ∧ h' = (hi, hl, RT)) ∨ ((pMatch hi (3 + 6 + i) (3 + 6 + j) && (!pTaken hi (3 + 6 + i) && !pTaken hi (3 + 6 + j))) = true ∧ (pCont (upI hi 3 7 (hi 3 7 + 1)) (3 + 6 + i) ((upI hi 3 7 (hi 3 7 + 1)) (3 + 6 + i) 6) ((upI hi 3 7 (hi 3 7 + 1)) (3 + 6 + j) 4) && pCont (upI hi 3 7 (hi 3 7 + 1)) (3 + 6 + j) ((upI hi 3 7 (hi 3 7 + 1)) (3 + 6 + j) 6) ((upI hi 3 7 (hi 3 7 + 1)) (3 + 6 + i) 4)) = true ∧ r = some (.int 1) ∧ h' = (upI (upI (upI hi 3 7 (hi 3 7 + 1)) (3 + 6 + i) 11 (nI j)) (3 + 6 + j) 11 (nI i), hl, RT)) ∨ ((pMatch hi (3 + 6 + i) (3 + 6 + j) && (!pTaken hi (3 + 6 + i) && !pTaken hi (3 + 6 + j))) = true ∧ (pCont (upI hi 3 7 (hi 3 7 + 1)) (3 + 6 + i) ((upI hi 3 7 (hi 3 7 + 1)) (3 + 6 + i) 6) ((upI hi 3 7 (hi 3 7 + 1)) (3 + 6 + j) 4) && pCont (upI hi 3 7 (hi 3 7 + 1)) (3 + 6 + j) ((upI hi 3 7 (hi 3 7 + 1)) (3 + 6 + j) 6) ((upI hi 3 7 (hi 3 7 + 1)) (3 + 6 + i) 4)) = false ∧ r = some (.int 0) ∧ h' = (TLF (TLF (upI hi 3 7 (hi 3 7 + 1)) (3 + 6 + i) (3 + 6 + j)) (3 + 6 + j) (3 + 6 + i), hl, RT))) := by
  refine MC.of [some (.ref 0), some (.int (nI i)), some (.int (nI j)), none, none] (by decide) rfl (Nat.le_of_ble_eq_true rfl) ?_
  have hi8 : i < 8 := by omega
  have hj8 : j < 8 := by omega
  refine g_aload_n dX9_meet_0 rfl ?_
  refine g_getr dX9_meet_1 k_X9_19 rfl (by decide) rfl rfl ?_
  refine g_iload_n dX9_meet_4 rfl ?_
  refine g_callV1 (M' := mX0_has) (mc' := 0) (ms' := 0) dX9_meet_5 l_X9_77 s_mX0_has (by decide) rfl rfl f_mX0_has (Nat.le_of_ble_eq_true rfl) (by decide) (ct_hasY isC3 hN8 hN hi1) ?_
  rintro _ _ ⟨rfl, rfl⟩
  refine g_ifeq 22 dX9_meet_8 (by decide) (fun c => absurd c (by decide)) (fun _ => ?_)
  refine g_aload_n dX9_meet_11 rfl ?_
  refine g_getr dX9_meet_12 k_X9_19 rfl (by decide) rfl rfl ?_
  refine g_iload_n dX9_meet_15 rfl ?_
  refine g_callV1 (M' := mX0_has) (mc' := 0) (ms' := 0) dX9_meet_16 l_X9_77 s_mX0_has (by decide) rfl rfl f_mX0_has (Nat.le_of_ble_eq_true rfl) (by decide) (ct_hasY isC3 hN8 hN hj1) ?_
  rintro _ _ ⟨rfl, rfl⟩
  refine g_ifne 25 dX9_meet_19 (by decide) (fun _ => ?_) (fun c => absurd c (by decide))
  refine g_aload_n dX9_meet_25 rfl ?_
  refine g_getr dX9_meet_26 k_X9_19 rfl (by decide) rfl rfl ?_
  refine g_getr dX9_meet_29 k_X9_80 rfl (by decide) rfl isC3.people ?_
  refine g_iload_n dX9_meet_32 rfl ?_
  refine g_aald dX9_meet_33 isC3.a1.1 isC3.a1.2 rfl hi8 (by decide) (isC3.rp hi8) ?_
  refine g_astore_n dX9_meet_34 (by decide) rfl rfl ?_
  refine g_aload_n dX9_meet_35 rfl ?_
  refine g_getr dX9_meet_36 k_X9_19 rfl (by decide) rfl rfl ?_
  refine g_getr dX9_meet_39 k_X9_80 rfl (by decide) rfl isC3.people ?_
  refine g_iload_n dX9_meet_42 rfl ?_
  refine g_aald dX9_meet_43 isC3.a1.1 isC3.a1.2 rfl hj8 (by decide) (isC3.rp hj8) ?_
  refine g_astore dX9_meet_44 (by decide) rfl rfl ?_
  refine g_aload_n dX9_meet_46 rfl ?_
  refine g_aload dX9_meet_47 rfl ?_
  refine g_callV1 (M' := mX5_isMatchOf) (mc' := 0) (ms' := 0) dX9_meet_49 l_X9_125 s_mX5_isMatchOf (isC3.p hi8).1 (isC3.p hi8).2 rfl f_mX5_isMatchOf (Nat.le_of_ble_eq_true rfl) (by decide) (ct_isMatchOf (isC3.p hi8) (isC3.p hj8)) ?_
  rintro _ _ ⟨rfl, rfl⟩
  refine g_ifeq 70 dX9_meet_52 (by decide) (fun c52 => ?_) (fun c52 => ?_)
  · skip
    refine g_bipush (v := -103) dX9_meet_70 (by decide) ?_
    exact g_ireturn dX9_meet_72 rfl rfl (Or.inl ⟨by simp [bI_0.mp c52], rfl, rfl⟩)
  · skip
    refine g_aload_n dX9_meet_55 rfl ?_
    refine g_callV0 (M' := mX5_isTaken) (mc' := 0) (ms' := 0) dX9_meet_56 l_X9_150 s_mX5_isTaken (isC3.p hi8).1 (isC3.p hi8).2 rfl f_mX5_isTaken (Nat.le_of_ble_eq_true rfl) (by decide) (ct_isTaken (isC3.p hi8)) ?_
    rintro _ _ ⟨rfl, rfl⟩
    refine g_ifne 70 dX9_meet_59 (by decide) (fun c59 => ?_) (fun c59 => ?_)
    · skip
      refine g_bipush (v := -103) dX9_meet_70 (by decide) ?_
      exact g_ireturn dX9_meet_72 rfl rfl (Or.inl ⟨by simp [bI_n.mp c59], rfl, rfl⟩)
    · skip
      refine g_aload dX9_meet_62 rfl ?_
      refine g_callV0 (M' := mX5_isTaken) (mc' := 0) (ms' := 0) dX9_meet_64 l_X9_150 s_mX5_isTaken (isC3.p hj8).1 (isC3.p hj8).2 rfl f_mX5_isTaken (Nat.le_of_ble_eq_true rfl) (by decide) (ct_isTaken (isC3.p hj8)) ?_
      rintro _ _ ⟨rfl, rfl⟩
      refine g_ifeq 73 dX9_meet_67 (by decide) (fun c67 => ?_) (fun c67 => ?_)
      · skip
        refine g_aload_n dX9_meet_73 rfl ?_
        refine g_getr dX9_meet_74 k_X9_19 rfl (by decide) rfl rfl ?_
        refine g_dup dX9_meet_77 rfl ?_
        refine g_geti dX9_meet_78 k_X9_153 rfl (by decide) rfl ?_
        refine g_iconst (v := 1) dX9_meet_81 (by decide) ?_
        refine g_iadd dX9_meet_82 ?_
        refine g_puti dX9_meet_83 k_X9_153 rfl (by decide) rfl rfl rfl ?_
        refine g_aload_n dX9_meet_86 rfl ?_
        refine g_aload dX9_meet_87 rfl ?_
        refine g_geti dX9_meet_89 k_X9_156 rfl (isC3.p hj8).1 (isC3.p hj8).2 ?_
        refine g_callV1 (M' := mX5_isContentWith) (mc' := 0) (ms' := 0) dX9_meet_92 l_X9_159 s_mX5_isContentWith (isC3.p hi8).1 (isC3.p hi8).2 rfl f_mX5_isContentWith (Nat.le_of_ble_eq_true rfl) (by decide) (ct_isContentWith (hkv.up (by decide)) (isC3.p hi8) _) ?_
        rintro _ _ ⟨rfl, rfl⟩
        refine g_ifeq 123 dX9_meet_95 (by decide) (fun c95 => ?_) (fun c95 => ?_)
        · skip
          refine g_aload_n dX9_meet_123 rfl ?_
          refine g_aload dX9_meet_124 rfl ?_
          refine g_callV1 (M' := mX5_turnLeftOn) (mc' := 0) (ms' := 0) dX9_meet_126 l_X9_165 s_mX5_turnLeftOn (isC3.p hi8).1 (isC3.p hi8).2 rfl f_mX5_turnLeftOn (Nat.le_of_ble_eq_true rfl) (by decide) (ct_turnLeftOn (isC3.p hi8) (isC3.p hj8)) ?_
          rintro _ _ ⟨rfl, rfl⟩
          refine g_aload dX9_meet_129 rfl ?_
          refine g_aload_n dX9_meet_131 rfl ?_
          refine g_callV1 (M' := mX5_turnLeftOn) (mc' := 0) (ms' := 0) dX9_meet_132 l_X9_165 s_mX5_turnLeftOn (isC3.p hj8).1 (isC3.p hj8).2 rfl f_mX5_turnLeftOn (Nat.le_of_ble_eq_true rfl) (by decide) (ct_turnLeftOn (isC3.p hj8) (isC3.p hi8)) ?_
          rintro _ _ ⟨rfl, rfl⟩
          refine g_iconst (v := 0) dX9_meet_135 (by decide) ?_
          exact g_ireturn dX9_meet_136 rfl rfl (Or.inr (Or.inr ⟨by simp [bI_n.mp c52, bI_0.mp c59, bI_0.mp c67], Bool.and_eq_false_iff.mpr (Or.inl (bI_0.mp c95)), rfl, rfl⟩))
        · skip
          refine g_aload dX9_meet_98 rfl ?_
          refine g_aload_n dX9_meet_100 rfl ?_
          refine g_geti dX9_meet_101 k_X9_156 rfl (isC3.p hi8).1 (isC3.p hi8).2 ?_
          refine g_callV1 (M' := mX5_isContentWith) (mc' := 0) (ms' := 0) dX9_meet_104 l_X9_159 s_mX5_isContentWith (isC3.p hj8).1 (isC3.p hj8).2 rfl f_mX5_isContentWith (Nat.le_of_ble_eq_true rfl) (by decide) (ct_isContentWith (hkv.up (by decide)) (isC3.p hj8) _) ?_
          rintro _ _ ⟨rfl, rfl⟩
          refine g_ifeq 123 dX9_meet_107 (by decide) (fun c107 => ?_) (fun c107 => ?_)
          · skip
            refine g_aload_n dX9_meet_123 rfl ?_
            refine g_aload dX9_meet_124 rfl ?_
            refine g_callV1 (M' := mX5_turnLeftOn) (mc' := 0) (ms' := 0) dX9_meet_126 l_X9_165 s_mX5_turnLeftOn (isC3.p hi8).1 (isC3.p hi8).2 rfl f_mX5_turnLeftOn (Nat.le_of_ble_eq_true rfl) (by decide) (ct_turnLeftOn (isC3.p hi8) (isC3.p hj8)) ?_
            rintro _ _ ⟨rfl, rfl⟩
            refine g_aload dX9_meet_129 rfl ?_
            refine g_aload_n dX9_meet_131 rfl ?_
            refine g_callV1 (M' := mX5_turnLeftOn) (mc' := 0) (ms' := 0) dX9_meet_132 l_X9_165 s_mX5_turnLeftOn (isC3.p hj8).1 (isC3.p hj8).2 rfl f_mX5_turnLeftOn (Nat.le_of_ble_eq_true rfl) (by decide) (ct_turnLeftOn (isC3.p hj8) (isC3.p hi8)) ?_
            rintro _ _ ⟨rfl, rfl⟩
            refine g_iconst (v := 0) dX9_meet_135 (by decide) ?_
            exact g_ireturn dX9_meet_136 rfl rfl (Or.inr (Or.inr ⟨by simp [bI_n.mp c52, bI_0.mp c59, bI_0.mp c67], Bool.and_eq_false_iff.mpr (Or.inr (bI_0.mp c107)), rfl, rfl⟩))
          · skip
            refine g_aload_n dX9_meet_110 rfl ?_
            refine g_iload_n dX9_meet_111 rfl ?_
            refine g_puti dX9_meet_112 k_X9_162 rfl (isC3.p hi8).1 (isC3.p hi8).2 rfl rfl ?_
            refine g_aload dX9_meet_115 rfl ?_
            refine g_iload_n dX9_meet_117 rfl ?_
            refine g_puti dX9_meet_118 k_X9_162 rfl (isC3.p hj8).1 (isC3.p hj8).2 rfl rfl ?_
            refine g_iconst (v := 1) dX9_meet_121 (by decide) ?_
            exact g_ireturn dX9_meet_122 rfl rfl (Or.inr (Or.inl ⟨by simp [bI_n.mp c52, bI_0.mp c59, bI_0.mp c67], Bool.and_eq_true_iff.mpr ⟨bI_n.mp c95, bI_n.mp c107⟩, rfl, rfl⟩))
      · skip
        refine g_bipush (v := -103) dX9_meet_70 (by decide) ?_
        exact g_ireturn dX9_meet_72 rfl rfl (Or.inl ⟨by simp [bI_n.mp c67], rfl, rfl⟩)

end
