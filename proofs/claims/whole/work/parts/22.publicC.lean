section
variable {E : XE} {l : Launch} {hi : Nat → Nat → Int32} {hl : Nat → Nat → Int64}
set_option maxRecDepth 100000 in
set_option maxHeartbeats 4000000 in
theorem ct_partX {N : Nat} (hN8 : N ≤ 8) (hN : hi 3 3 = nI N) (x : Int32) (hx : noP x N) : MC E l 2 mX9_part [.ref 0, .int (x)] 83 (hi, hl, RT) 0 0 (fun r h' => r = some (.int (-101)) ∧ h' = (hi, hl, RT)) := by
  refine MC.of [some (.ref 0), some (.int (x)), none, none, none] (by decide) rfl (Nat.le_of_ble_eq_true rfl) ?_
  refine g_aload_n dX9_part_0 rfl ?_
  refine g_getr dX9_part_1 k_X9_19 rfl (by decide) rfl rfl ?_
  refine g_iload_n dX9_part_4 rfl ?_
  refine g_callV1 (M' := mX0_has) (mc' := 0) (ms' := 0) dX9_part_5 l_X9_77 s_mX0_has (by decide) rfl rfl f_mX0_has (Nat.le_of_ble_eq_true rfl) (by decide) (ct_hasN isC3 hN hx) ?_
  rintro _ _ ⟨rfl, rfl⟩
  refine g_ifne 14 dX9_part_8 (by decide) (fun c => absurd c (by decide)) (fun _ => ?_)
  refine g_bipush (v := -101) dX9_part_11 (by decide) ?_
  exact g_ireturn dX9_part_13 rfl rfl ⟨rfl, rfl⟩

set_option maxRecDepth 100000 in
set_option maxHeartbeats 4000000 in
theorem ct_partE {N : Nat} (hN8 : N ≤ 8) (hN : hi 3 3 = nI N) {i : Nat} (hi1 : i < N) (hy : noP (hi (3 + 6 + i) 11) N) : MC E l 2 mX9_part [.ref 0, .int (nI i)] 83 (hi, hl, RT) 0 0 (fun r h' => r = some (.int (-103)) ∧ h' = (hi, hl, RT)) := by
  refine MC.of [some (.ref 0), some (.int (nI i)), none, none, none] (by decide) rfl (Nat.le_of_ble_eq_true rfl) ?_
  have hi8 : i < 8 := by omega
  refine g_aload_n dX9_part_0 rfl ?_
  refine g_getr dX9_part_1 k_X9_19 rfl (by decide) rfl rfl ?_
  refine g_iload_n dX9_part_4 rfl ?_
  refine g_callV1 (M' := mX0_has) (mc' := 0) (ms' := 0) dX9_part_5 l_X9_77 s_mX0_has (by decide) rfl rfl f_mX0_has (Nat.le_of_ble_eq_true rfl) (by decide) (ct_hasY isC3 hN8 hN hi1) ?_
  rintro _ _ ⟨rfl, rfl⟩
  refine g_ifne 14 dX9_part_8 (by decide) (fun _ => ?_) (fun c => absurd c (by decide))
  refine g_aload_n dX9_part_14 rfl ?_
  refine g_getr dX9_part_15 k_X9_19 rfl (by decide) rfl rfl ?_
  refine g_getr dX9_part_18 k_X9_80 rfl (by decide) rfl isC3.people ?_
  refine g_iload_n dX9_part_21 rfl ?_
  refine g_aald dX9_part_22 isC3.a1.1 isC3.a1.2 rfl hi8 (by decide) (isC3.rp hi8) ?_
  refine g_astore_n dX9_part_23 (by decide) rfl rfl ?_
  refine g_aload_n dX9_part_24 rfl ?_
  refine g_geti dX9_part_25 k_X9_162 rfl (isC3.p hi8).1 (isC3.p hi8).2 ?_
  refine g_istore_n dX9_part_28 (by decide) rfl rfl ?_
  refine g_aload_n dX9_part_29 rfl ?_
  refine g_getr dX9_part_30 k_X9_19 rfl (by decide) rfl rfl ?_
  refine g_iload_n dX9_part_33 rfl ?_
  refine g_callV1 (M' := mX0_has) (mc' := 0) (ms' := 0) dX9_part_34 l_X9_77 s_mX0_has (by decide) rfl rfl f_mX0_has (Nat.le_of_ble_eq_true rfl) (by decide) (ct_hasN isC3 hN hy) ?_
  rintro _ _ ⟨rfl, rfl⟩
  refine g_ifne 43 dX9_part_37 (by decide) (fun c => absurd c (by decide)) (fun _ => ?_)
  refine g_bipush (v := -103) dX9_part_40 (by decide) ?_
  exact g_ireturn dX9_part_42 rfl rfl ⟨rfl, rfl⟩

set_option maxRecDepth 100000 in
set_option maxHeartbeats 4000000 in
theorem ct_part {N : Nat} (hN8 : N ≤ 8) (hN : hi 3 3 = nI N) {i j : Nat} (hi1 : i < N) (hj1 : j < N) (hy : hi (3 + 6 + i) 11 = nI j) : MC E l 2 mX9_part [.ref 0, .int (nI i)] 83 (hi, hl, RT) 0 0 (fun r h' => r = some (.int (nI j)) ∧ h' = (TLF (TLF (upI (upI hi (3 + 6 + i) 11 (-1)) (3 + 6 + j) 11 (-1)) (3 + 6 + i) (3 + 6 + j)) (3 + 6 + j) (3 + 6 + i), hl, RT)) := by
  refine MC.of [some (.ref 0), some (.int (nI i)), none, none, none] (by decide) rfl (Nat.le_of_ble_eq_true rfl) ?_
  have hi8 : i < 8 := by omega
  have hj8 : j < 8 := by omega
  refine g_aload_n dX9_part_0 rfl ?_
  refine g_getr dX9_part_1 k_X9_19 rfl (by decide) rfl rfl ?_
  refine g_iload_n dX9_part_4 rfl ?_
  refine g_callV1 (M' := mX0_has) (mc' := 0) (ms' := 0) dX9_part_5 l_X9_77 s_mX0_has (by decide) rfl rfl f_mX0_has (Nat.le_of_ble_eq_true rfl) (by decide) (ct_hasY isC3 hN8 hN hi1) ?_
  rintro _ _ ⟨rfl, rfl⟩
  refine g_ifne 14 dX9_part_8 (by decide) (fun _ => ?_) (fun c => absurd c (by decide))
  refine g_aload_n dX9_part_14 rfl ?_
  refine g_getr dX9_part_15 k_X9_19 rfl (by decide) rfl rfl ?_
  refine g_getr dX9_part_18 k_X9_80 rfl (by decide) rfl isC3.people ?_
  refine g_iload_n dX9_part_21 rfl ?_
  refine g_aald dX9_part_22 isC3.a1.1 isC3.a1.2 rfl hi8 (by decide) (isC3.rp hi8) ?_
  refine g_astore_n dX9_part_23 (by decide) rfl rfl ?_
  refine g_aload_n dX9_part_24 rfl ?_
  refine g_geti dX9_part_25 k_X9_162 rfl (isC3.p hi8).1 (isC3.p hi8).2 ?_
  rw [show (hi, hl, RT).1 (3 + 6 + i) 11 = nI j from hy]
  refine g_istore_n dX9_part_28 (by decide) rfl rfl ?_
  refine g_aload_n dX9_part_29 rfl ?_
  refine g_getr dX9_part_30 k_X9_19 rfl (by decide) rfl rfl ?_
  refine g_iload_n dX9_part_33 rfl ?_
  refine g_callV1 (M' := mX0_has) (mc' := 0) (ms' := 0) dX9_part_34 l_X9_77 s_mX0_has (by decide) rfl rfl f_mX0_has (Nat.le_of_ble_eq_true rfl) (by decide) (ct_hasY isC3 hN8 hN hj1) ?_
  rintro _ _ ⟨rfl, rfl⟩
  refine g_ifne 43 dX9_part_37 (by decide) (fun _ => ?_) (fun c => absurd c (by decide))
  refine g_aload_n dX9_part_43 rfl ?_
  refine g_getr dX9_part_44 k_X9_19 rfl (by decide) rfl rfl ?_
  refine g_getr dX9_part_47 k_X9_80 rfl (by decide) rfl isC3.people ?_
  refine g_iload_n dX9_part_50 rfl ?_
  refine g_aald dX9_part_51 isC3.a1.1 isC3.a1.2 rfl hj8 (by decide) (isC3.rp hj8) ?_
  refine g_astore dX9_part_52 (by decide) rfl rfl ?_
  refine g_aload_n dX9_part_54 rfl ?_
  refine g_iconst (v := -1) dX9_part_55 (by decide) ?_
  refine g_puti dX9_part_56 k_X9_162 rfl (isC3.p hi8).1 (isC3.p hi8).2 rfl rfl ?_
  refine g_aload dX9_part_59 rfl ?_
  refine g_iconst (v := -1) dX9_part_61 (by decide) ?_
  refine g_puti dX9_part_62 k_X9_162 rfl (isC3.p hj8).1 (isC3.p hj8).2 rfl rfl ?_
  refine g_aload_n dX9_part_65 rfl ?_
  refine g_aload dX9_part_66 rfl ?_
  refine g_callV1 (M' := mX5_turnLeftOn) (mc' := 0) (ms' := 0) dX9_part_68 l_X9_165 s_mX5_turnLeftOn (isC3.p hi8).1 (isC3.p hi8).2 rfl f_mX5_turnLeftOn (Nat.le_of_ble_eq_true rfl) (by decide) (ct_turnLeftOn (isC3.p hi8) (isC3.p hj8)) ?_
  rintro _ _ ⟨rfl, rfl⟩
  refine g_aload dX9_part_71 rfl ?_
  refine g_aload_n dX9_part_73 rfl ?_
  refine g_callV1 (M' := mX5_turnLeftOn) (mc' := 0) (ms' := 0) dX9_part_74 l_X9_165 s_mX5_turnLeftOn (isC3.p hj8).1 (isC3.p hj8).2 rfl f_mX5_turnLeftOn (Nat.le_of_ble_eq_true rfl) (by decide) (ct_turnLeftOn (isC3.p hj8) (isC3.p hi8)) ?_
  rintro _ _ ⟨rfl, rfl⟩
  refine g_iload_n dX9_part_77 rfl ?_
  exact g_ireturn dX9_part_78 rfl rfl ⟨rfl, rfl⟩

set_option maxRecDepth 100000 in
set_option maxHeartbeats 4000000 in
theorem ct_dayE (hE : hi 3 3 = 0) : MC E l 2 mX9_day [.ref 0] 83 (hi, hl, RT) 0 0 (fun r h' => r = some (.int (-103)) ∧ h' = (hi, hl, RT)) := by
  refine MC.of [some (.ref 0)] (by decide) rfl (Nat.le_of_ble_eq_true rfl) ?_
  refine g_aload_n dX9_day_0 rfl ?_
  refine g_getr dX9_day_1 k_X9_19 rfl (by decide) rfl rfl ?_
  refine g_callV0 (M' := mX0_isEmpty) (mc' := 0) (ms' := 0) dX9_day_4 l_X9_111 s_mX0_isEmpty (by decide) rfl rfl f_mX0_isEmpty (Nat.le_of_ble_eq_true rfl) (by decide) (ct_emptyY isC3 hE) ?_
  rintro _ _ ⟨rfl, rfl⟩
  refine g_ifeq 13 dX9_day_7 (by decide) (fun c => absurd c (by decide)) (fun _ => ?_)
  refine g_bipush (v := -103) dX9_day_10 (by decide) ?_
  exact g_ireturn dX9_day_12 rfl rfl ⟨rfl, rfl⟩

set_option maxRecDepth 100000 in
set_option maxHeartbeats 4000000 in
theorem ct_day {N : Nat} (hN8 : N ≤ 8) (hN : hi 3 3 = nI N) (hE : 0 < N) : MC E l 2 mX9_day [.ref 0] 83 (hi, hl, RT) 0 0 (fun r h' => (¬ hi 3 5 < 99 ∧ r = some (.int (-104)) ∧ h' = (hi, hl, RT)) ∨ (hi 3 5 < 99 ∧ r = some (.int (hi 3 5 + 1)) ∧ h' = (sdF (upI hi 3 5 (hi 3 5 + 1)) 3 N, hl, RT))) := by
  refine MC.of [some (.ref 0)] (by decide) rfl (Nat.le_of_ble_eq_true rfl) ?_
  refine g_aload_n dX9_day_0 rfl ?_
  refine g_getr dX9_day_1 k_X9_19 rfl (by decide) rfl rfl ?_
  refine g_callV0 (M' := mX0_isEmpty) (mc' := 0) (ms' := 0) dX9_day_4 l_X9_111 s_mX0_isEmpty (by decide) rfl rfl f_mX0_isEmpty (Nat.le_of_ble_eq_true rfl) (by decide) (ct_emptyN isC3 hN8 hN hE) ?_
  rintro _ _ ⟨rfl, rfl⟩
  refine g_ifeq 13 dX9_day_7 (by decide) (fun _ => ?_) (fun c => absurd c (by decide))
  refine g_aload_n dX9_day_13 rfl ?_
  refine g_getr dX9_day_14 k_X9_19 rfl (by decide) rfl rfl ?_
  refine g_geti dX9_day_17 k_X9_144 rfl (by decide) rfl ?_
  refine g_bipush (v := 99) dX9_day_20 (by decide) ?_
  refine g_icmplt 28 dX9_day_22 (by decide) (fun c22 => ?_) (fun c22 => ?_)
  · skip
    refine g_aload_n dX9_day_28 rfl ?_
    refine g_getr dX9_day_29 k_X9_19 rfl (by decide) rfl rfl ?_
    refine g_dup dX9_day_32 rfl ?_
    refine g_geti dX9_day_33 k_X9_144 rfl (by decide) rfl ?_
    refine g_iconst (v := 1) dX9_day_36 (by decide) ?_
    refine g_iadd dX9_day_37 ?_
    refine g_puti dX9_day_38 k_X9_144 rfl (by decide) rfl rfl rfl ?_
    refine g_aload_n dX9_day_41 rfl ?_
    refine g_getr dX9_day_42 k_X9_19 rfl (by decide) rfl rfl ?_
    refine g_callV0 (M' := mX0_startDay) (mc' := 0) (ms' := 0) dX9_day_45 l_X9_147 s_mX0_startDay (by decide) rfl rfl f_mX0_startDay (Nat.le_of_ble_eq_true rfl) (by decide) (ct_startDay isC3 hN8 ((upI_k (by decide)).trans hN)) ?_
    rintro _ _ ⟨rfl, rfl⟩
    refine g_aload_n dX9_day_48 rfl ?_
    refine g_getr dX9_day_49 k_X9_19 rfl (by decide) rfl rfl ?_
    refine g_geti dX9_day_52 k_X9_144 rfl (by decide) rfl ?_
    exact g_ireturn dX9_day_55 rfl rfl (Or.inr ⟨c22, by show some (Value.int (sdF (upI hi 3 5 (hi 3 5 + 1)) 3 N 3 5)) = _; rw [sd_c _ (by omega), upI_s], rfl⟩)
  · skip
    refine g_bipush (v := -104) dX9_day_25 (by decide) ?_
    exact g_ireturn dX9_day_27 rfl rfl (Or.inl ⟨c22, rfl, rfl⟩)

set_option maxRecDepth 100000 in
set_option maxHeartbeats 4000000 in
theorem ct_mutualE (hE : hi 3 3 = 0) : MC E l 2 mX9_mutual [.ref 0] 83 (hi, hl, RT) 0 0 (fun r h' => r = some (.int (-103)) ∧ h' = (hi, hl, RT)) := by
  refine MC.of [some (.ref 0)] (by decide) rfl (Nat.le_of_ble_eq_true rfl) ?_
  refine g_aload_n dX9_mutual_0 rfl ?_
  refine g_getr dX9_mutual_1 k_X9_19 rfl (by decide) rfl rfl ?_
  refine g_callV0 (M' := mX0_isEmpty) (mc' := 0) (ms' := 0) dX9_mutual_4 l_X9_111 s_mX0_isEmpty (by decide) rfl rfl f_mX0_isEmpty (Nat.le_of_ble_eq_true rfl) (by decide) (ct_emptyY isC3 hE) ?_
  rintro _ _ ⟨rfl, rfl⟩
  refine g_ifeq 13 dX9_mutual_7 (by decide) (fun c => absurd c (by decide)) (fun _ => ?_)
  refine g_bipush (v := -103) dX9_mutual_10 (by decide) ?_
  exact g_ireturn dX9_mutual_12 rfl rfl ⟨rfl, rfl⟩

set_option maxRecDepth 100000 in
set_option maxHeartbeats 4000000 in
theorem ct_mutual (hkv : KV hi) {N : Nat} (hN8 : N ≤ 8) (hN : hi 3 3 = nI N) {F : Nat} (hF8 : F ≤ 8) (hF : hi 3 2 = nI F) (hE : 0 < N) : MC E l 7 mX9_mutual [.ref 0] 83 (hi, hl, RT) 0 0 (fun r h' => r = some (.int (sumI (fun j => bcF (mutF hi 3 N (3 + 6 + j))) F)) ∧ h' = (hi, hl, RT)) := by
  refine MC.of [some (.ref 0)] (by decide) rfl (Nat.le_of_ble_eq_true rfl) ?_
  refine g_aload_n dX9_mutual_0 rfl ?_
  refine g_getr dX9_mutual_1 k_X9_19 rfl (by decide) rfl rfl ?_
  refine g_callV0 (M' := mX0_isEmpty) (mc' := 0) (ms' := 0) dX9_mutual_4 l_X9_111 s_mX0_isEmpty (by decide) rfl rfl f_mX0_isEmpty (Nat.le_of_ble_eq_true rfl) (by decide) (ct_emptyN isC3 hN8 hN hE) ?_
  rintro _ _ ⟨rfl, rfl⟩
  refine g_ifeq 13 dX9_mutual_7 (by decide) (fun _ => ?_) (fun c => absurd c (by decide))
  refine g_aload_n dX9_mutual_13 rfl ?_
  refine g_getr dX9_mutual_14 k_X9_19 rfl (by decide) rfl rfl ?_
  refine g_callV0 (M' := mX0_mutualTwos) (mc' := 0) (ms' := 0) dX9_mutual_17 l_X9_179 s_mX0_mutualTwos (by decide) rfl rfl f_mX0_mutualTwos (Nat.le_of_ble_eq_true rfl) (by decide) (ct_mutualTwos hkv isC3 hN8 hN hF8 hF) ?_
  rintro _ _ ⟨rfl, rfl⟩
  exact g_ireturn dX9_mutual_20 rfl rfl ⟨rfl, rfl⟩

end
