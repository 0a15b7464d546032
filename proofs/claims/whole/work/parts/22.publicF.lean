section
variable {E : XE} {l : Launch} {hi : Nat → Nat → Int32} {hl : Nat → Nat → Int64}
set_option maxRecDepth 100000 in
set_option maxHeartbeats 4000000 in
theorem ct_seeX1 {N : Nat} (hN8 : N ≤ 8) (hN : hi 3 3 = nI N) (x y b : Int32) (hx : noP x N) : MC E l 2 mX9_see [.ref 0, .int (x), .int (y), .int (b)] 83 (hi, hl, RT) 0 0 (fun r h' => r = some (.int (-101)) ∧ h' = (hi, hl, RT)) := by
  refine MC.of [some (.ref 0), some (.int (x)), some (.int (y)), some (.int (b))] (by decide) rfl (Nat.le_of_ble_eq_true rfl) ?_
  refine g_aload_n dX9_see_0 rfl ?_
  refine g_getr dX9_see_1 k_X9_19 rfl (by decide) rfl rfl ?_
  refine g_iload_n dX9_see_4 rfl ?_
  refine g_callV1 (M' := mX0_has) (mc' := 0) (ms' := 0) dX9_see_5 l_X9_77 s_mX0_has (by decide) rfl rfl f_mX0_has (Nat.le_of_ble_eq_true rfl) (by decide) (ct_hasN isC3 hN hx) ?_
  rintro _ _ ⟨rfl, rfl⟩
  refine g_ifeq 22 dX9_see_8 (by decide) (fun _ => ?_) (fun c => absurd c (by decide))
  refine g_bipush (v := -101) dX9_see_22 (by decide) ?_
  exact g_ireturn dX9_see_24 rfl rfl ⟨rfl, rfl⟩

set_option maxRecDepth 100000 in
set_option maxHeartbeats 4000000 in
theorem ct_seeX2 {N : Nat} (hN8 : N ≤ 8) (hN : hi 3 3 = nI N) {i : Nat} (hi1 : i < N) (y b : Int32) (hy : noP y N) : MC E l 2 mX9_see [.ref 0, .int (nI i), .int (y), .int (b)] 83 (hi, hl, RT) 0 0 (fun r h' => r = some (.int (-101)) ∧ h' = (hi, hl, RT)) := by
  refine MC.of [some (.ref 0), some (.int (nI i)), some (.int (y)), some (.int (b))] (by decide) rfl (Nat.le_of_ble_eq_true rfl) ?_
  refine g_aload_n dX9_see_0 rfl ?_
  refine g_getr dX9_see_1 k_X9_19 rfl (by decide) rfl rfl ?_
  refine g_iload_n dX9_see_4 rfl ?_
  refine g_callV1 (M' := mX0_has) (mc' := 0) (ms' := 0) dX9_see_5 l_X9_77 s_mX0_has (by decide) rfl rfl f_mX0_has (Nat.le_of_ble_eq_true rfl) (by decide) (ct_hasY isC3 hN8 hN hi1) ?_
  rintro _ _ ⟨rfl, rfl⟩
  refine g_ifeq 22 dX9_see_8 (by decide) (fun c => absurd c (by decide)) (fun _ => ?_)
  refine g_aload_n dX9_see_11 rfl ?_
  refine g_getr dX9_see_12 k_X9_19 rfl (by decide) rfl rfl ?_
  refine g_iload_n dX9_see_15 rfl ?_
  refine g_callV1 (M' := mX0_has) (mc' := 0) (ms' := 0) dX9_see_16 l_X9_77 s_mX0_has (by decide) rfl rfl f_mX0_has (Nat.le_of_ble_eq_true rfl) (by decide) (ct_hasN isC3 hN hy) ?_
  rintro _ _ ⟨rfl, rfl⟩
  refine g_ifne 25 dX9_see_19 (by decide) (fun c => absurd c (by decide)) (fun _ => ?_)
  refine g_bipush (v := -101) dX9_see_22 (by decide) ?_
  exact g_ireturn dX9_see_24 rfl rfl ⟨rfl, rfl⟩

set_option maxRecDepth 100000 in
set_option maxHeartbeats 4000000 in
theorem ct_seeS {N : Nat} (hN8 : N ≤ 8) (hN : hi 3 3 = nI N) {i j : Nat} (hi1 : i < N) (hj1 : j < N) (b : Int32) (hsd : hi (3 + 6 + i) 3 = hi (3 + 6 + j) 3) : MC E l 2 mX9_see [.ref 0, .int (nI i), .int (nI j), .int (b)] 83 (hi, hl, RT) 0 0 (fun r h' => r = some (.int (-103)) ∧ h' = (hi, hl, RT)) := by
  refine MC.of [some (.ref 0), some (.int (nI i)), some (.int (nI j)), some (.int (b))] (by decide) rfl (Nat.le_of_ble_eq_true rfl) ?_
  have hi8 : i < 8 := by omega
  have hj8 : j < 8 := by omega
  refine g_aload_n dX9_see_0 rfl ?_
  refine g_getr dX9_see_1 k_X9_19 rfl (by decide) rfl rfl ?_
  refine g_iload_n dX9_see_4 rfl ?_
  refine g_callV1 (M' := mX0_has) (mc' := 0) (ms' := 0) dX9_see_5 l_X9_77 s_mX0_has (by decide) rfl rfl f_mX0_has (Nat.le_of_ble_eq_true rfl) (by decide) (ct_hasY isC3 hN8 hN hi1) ?_
  rintro _ _ ⟨rfl, rfl⟩
  refine g_ifeq 22 dX9_see_8 (by decide) (fun c => absurd c (by decide)) (fun _ => ?_)
  refine g_aload_n dX9_see_11 rfl ?_
  refine g_getr dX9_see_12 k_X9_19 rfl (by decide) rfl rfl ?_
  refine g_iload_n dX9_see_15 rfl ?_
  refine g_callV1 (M' := mX0_has) (mc' := 0) (ms' := 0) dX9_see_16 l_X9_77 s_mX0_has (by decide) rfl rfl f_mX0_has (Nat.le_of_ble_eq_true rfl) (by decide) (ct_hasY isC3 hN8 hN hj1) ?_
  rintro _ _ ⟨rfl, rfl⟩
  refine g_ifne 25 dX9_see_19 (by decide) (fun _ => ?_) (fun c => absurd c (by decide))
  refine g_aload_n dX9_see_25 rfl ?_
  refine g_getr dX9_see_26 k_X9_19 rfl (by decide) rfl rfl ?_
  refine g_getr dX9_see_29 k_X9_80 rfl (by decide) rfl isC3.people ?_
  refine g_iload_n dX9_see_32 rfl ?_
  refine g_aald dX9_see_33 isC3.a1.1 isC3.a1.2 rfl hi8 (by decide) (isC3.rp hi8) ?_
  refine g_geti dX9_see_34 k_X9_214 rfl (isC3.p hi8).1 (isC3.p hi8).2 ?_
  refine g_aload_n dX9_see_37 rfl ?_
  refine g_getr dX9_see_38 k_X9_19 rfl (by decide) rfl rfl ?_
  refine g_getr dX9_see_41 k_X9_80 rfl (by decide) rfl isC3.people ?_
  refine g_iload_n dX9_see_44 rfl ?_
  refine g_aald dX9_see_45 isC3.a1.1 isC3.a1.2 rfl hj8 (by decide) (isC3.rp hj8) ?_
  refine g_geti dX9_see_46 k_X9_214 rfl (isC3.p hj8).1 (isC3.p hj8).2 ?_
  refine g_icmpne 55 dX9_see_49 (by decide) (fun c49 => ?_) (fun c49 => ?_)
  · skip
    exact absurd hsd c49
  · skip
    refine g_bipush (v := -103) dX9_see_52 (by decide) ?_
    exact g_ireturn dX9_see_54 rfl rfl ⟨rfl, rfl⟩

set_option maxRecDepth 100000 in
set_option maxHeartbeats 4000000 in
theorem ct_see {N : Nat} (hN8 : N ≤ 8) (hN : hi 3 3 = nI N) {S : Nat} (hS8 : S ≤ 8) (hS : hi (3 + 2) 3 = nI S) {i j : Nat} (hi1 : i < N) (hj1 : j < N) (b : Int32) (hsd : ¬ hi (3 + 6 + i) 3 = hi (3 + 6 + j) 3) : MC E l 2 mX9_see [.ref 0, .int (nI i), .int (nI j), .int (b)] 83 (hi, hl, RT) 0 0 (fun r h' => (S = 8 ∧ r = some (.int (-104)) ∧ h' = (hi, hl, RT)) ∨ (S < 8 ∧ r = some (.int (nI (S + 1))) ∧ h' = (upI (upI (upI (upI hi (3 + 3) S (nI i)) (3 + 4) S (nI j)) (3 + 5) S (vp_nar .boolean b)) (3 + 2) 3 (nI (S + 1)), hl, RT))) := by
  refine MC.of [some (.ref 0), some (.int (nI i)), some (.int (nI j)), some (.int (b))] (by decide) rfl (Nat.le_of_ble_eq_true rfl) ?_
  have hi8 : i < 8 := by omega
  have hj8 : j < 8 := by omega
  refine g_aload_n dX9_see_0 rfl ?_
  refine g_getr dX9_see_1 k_X9_19 rfl (by decide) rfl rfl ?_
  refine g_iload_n dX9_see_4 rfl ?_
  refine g_callV1 (M' := mX0_has) (mc' := 0) (ms' := 0) dX9_see_5 l_X9_77 s_mX0_has (by decide) rfl rfl f_mX0_has (Nat.le_of_ble_eq_true rfl) (by decide) (ct_hasY isC3 hN8 hN hi1) ?_
  rintro _ _ ⟨rfl, rfl⟩
  refine g_ifeq 22 dX9_see_8 (by decide) (fun c => absurd c (by decide)) (fun _ => ?_)
  refine g_aload_n dX9_see_11 rfl ?_
  refine g_getr dX9_see_12 k_X9_19 rfl (by decide) rfl rfl ?_
  refine g_iload_n dX9_see_15 rfl ?_
  refine g_callV1 (M' := mX0_has) (mc' := 0) (ms' := 0) dX9_see_16 l_X9_77 s_mX0_has (by decide) rfl rfl f_mX0_has (Nat.le_of_ble_eq_true rfl) (by decide) (ct_hasY isC3 hN8 hN hj1) ?_
  rintro _ _ ⟨rfl, rfl⟩
  refine g_ifne 25 dX9_see_19 (by decide) (fun _ => ?_) (fun c => absurd c (by decide))
  refine g_aload_n dX9_see_25 rfl ?_
  refine g_getr dX9_see_26 k_X9_19 rfl (by decide) rfl rfl ?_
  refine g_getr dX9_see_29 k_X9_80 rfl (by decide) rfl isC3.people ?_
  refine g_iload_n dX9_see_32 rfl ?_
  refine g_aald dX9_see_33 isC3.a1.1 isC3.a1.2 rfl hi8 (by decide) (isC3.rp hi8) ?_
  refine g_geti dX9_see_34 k_X9_214 rfl (isC3.p hi8).1 (isC3.p hi8).2 ?_
  refine g_aload_n dX9_see_37 rfl ?_
  refine g_getr dX9_see_38 k_X9_19 rfl (by decide) rfl rfl ?_
  refine g_getr dX9_see_41 k_X9_80 rfl (by decide) rfl isC3.people ?_
  refine g_iload_n dX9_see_44 rfl ?_
  refine g_aald dX9_see_45 isC3.a1.1 isC3.a1.2 rfl hj8 (by decide) (isC3.rp hj8) ?_
  refine g_geti dX9_see_46 k_X9_214 rfl (isC3.p hj8).1 (isC3.p hj8).2 ?_
  refine g_icmpne 55 dX9_see_49 (by decide) (fun c49 => ?_) (fun c49 => ?_)
  · skip
    refine g_aload_n dX9_see_55 rfl ?_
    refine g_getr dX9_see_56 k_X9_19 rfl (by decide) rfl rfl ?_
    refine g_getr dX9_see_59 k_X9_217 rfl (by decide) rfl isC3.seen ?_
    refine g_iload_n dX9_see_62 rfl ?_
    refine g_iload_n dX9_see_63 rfl ?_
    refine g_iload_n dX9_see_64 rfl ?_
    refine g_callV3 (M' := mX6_add) (mc' := 0) (ms' := 0) dX9_see_65 l_X9_221 s_mX6_add isC3.o2.1 isC3.o2.2 rfl f_mX6_add (Nat.le_of_ble_eq_true rfl) (by decide) (ct_sadd isC3 hS8 hS _ _ b) ?_
    rintro _ _ (⟨hc1, rfl, rfl⟩ | ⟨hc1, rfl, rfl⟩)
    · refine g_ifeq 84 dX9_see_68 (by decide) (fun _ => ?_) (fun c => absurd rfl c)
      refine g_bipush (v := -104) dX9_see_84 (by decide) ?_
      exact g_ireturn dX9_see_86 rfl rfl (Or.inl ⟨hc1, rfl, rfl⟩)
    · refine g_ifeq 84 dX9_see_68 (by decide) (fun c => absurd c (by decide)) (fun _ => ?_)
      refine g_aload_n dX9_see_71 rfl ?_
      refine g_getr dX9_see_72 k_X9_19 rfl (by decide) rfl rfl ?_
      refine g_getr dX9_see_75 k_X9_217 rfl (by decide) rfl rfl ?_
      refine g_geti dX9_see_78 k_X9_226 rfl (by decide) rfl ?_
      refine g_goto 86 dX9_see_81 (by decide) ?_
      exact g_ireturn dX9_see_86 rfl rfl (Or.inr ⟨hc1, by show some (Value.int (upI (upI (upI (upI hi (3 + 3) S (nI i)) (3 + 4) S (nI j)) (3 + 5) S (vp_nar .boolean b)) (3 + 2) 3 (nI (S + 1)) (3 + 2) 3)) = _; rw [upI_s], rfl⟩)
  · skip
    exact absurd c49 hsd

set_option maxRecDepth 100000 in
set_option maxHeartbeats 4000000 in
theorem ct_forget  : MC E l 2 mX9_forget [.ref 0] 83 (hi, hl, RT) 0 0 (fun r h' => r = some (.int (hi (3 + 2) 3)) ∧ h' = (upI hi (3 + 2) 3 0, hl, RT)) := by
  refine MC.of [some (.ref 0), none] (by decide) rfl (Nat.le_of_ble_eq_true rfl) ?_
  refine g_aload_n dX9_forget_0 rfl ?_
  refine g_getr dX9_forget_1 k_X9_19 rfl (by decide) rfl rfl ?_
  refine g_getr dX9_forget_4 k_X9_217 rfl (by decide) rfl isC3.seen ?_
  refine g_geti dX9_forget_7 k_X9_226 rfl isC3.o2.1 isC3.o2.2 ?_
  refine g_istore_n dX9_forget_10 (by decide) rfl rfl ?_
  refine g_aload_n dX9_forget_11 rfl ?_
  refine g_getr dX9_forget_12 k_X9_19 rfl (by decide) rfl rfl ?_
  refine g_getr dX9_forget_15 k_X9_217 rfl (by decide) rfl isC3.seen ?_
  refine g_callV0 (M' := mX6_clear) (mc' := 0) (ms' := 0) dX9_forget_18 l_X9_227 s_mX6_clear isC3.o2.1 isC3.o2.2 rfl f_mX6_clear (Nat.le_of_ble_eq_true rfl) (by decide) (ct_sclear isC3) ?_
  rintro _ _ ⟨rfl, rfl⟩
  refine g_iload_n dX9_forget_21 rfl ?_
  exact g_ireturn dX9_forget_22 rfl rfl ⟨rfl, rfl⟩

end
