section
variable {E : XE} {l : Launch} {hi : Nat → Nat → Int32} {hl : Nat → Nat → Int64}
set_option maxRecDepth 100000 in
set_option maxHeartbeats 4000000 in
theorem ct_imageE (hE : hi 3 3 = 0) : MC E l 3 mX9_image [.ref 0] 83 (hi, hl, RT) 0 0 (fun r h' => r = some (.int (-103)) ∧ h' = (hi, hl, RT)) := by
  refine MC.of [some (.ref 0)] (by decide) rfl (Nat.le_of_ble_eq_true rfl) ?_
  refine g_aload_n dX9_image_0 rfl ?_
  refine g_getr dX9_image_1 k_X9_19 rfl (by decide) rfl rfl ?_
  refine g_callV0 (M' := mX0_isEmpty) (mc' := 0) (ms' := 0) dX9_image_4 l_X9_111 s_mX0_isEmpty (by decide) rfl rfl f_mX0_isEmpty (Nat.le_of_ble_eq_true rfl) (by decide) (ct_emptyY isC3 hE) ?_
  rintro _ _ ⟨rfl, rfl⟩
  refine g_ifeq 13 dX9_image_7 (by decide) (fun c => absurd c (by decide)) (fun _ => ?_)
  refine g_bipush (v := -103) dX9_image_10 (by decide) ?_
  exact g_ireturn dX9_image_12 rfl rfl ⟨rfl, rfl⟩

set_option maxRecDepth 100000 in
set_option maxHeartbeats 4000000 in
theorem ct_image (hkv : KV hi) {N : Nat} (hN8 : N ≤ 8) (hN : hi 3 3 = nI N) (hE : 0 < N) (hB : ∀ k, k < 8 → vp_nar .boolean (hi (3 + 5) k) = hi (3 + 5) k) : MC E l 3 mX9_image [.ref 0] 83 (hi, hl, RT) 0 0 (fun r h' => r = some (.int (hi 3 5)) ∧ h' = (upI (cwF hi 17 3) 0 5 1, hl, RT)) := by
  refine MC.of [some (.ref 0)] (by decide) rfl (Nat.le_of_ble_eq_true rfl) ?_
  refine g_aload_n dX9_image_0 rfl ?_
  refine g_getr dX9_image_1 k_X9_19 rfl (by decide) rfl rfl ?_
  refine g_callV0 (M' := mX0_isEmpty) (mc' := 0) (ms' := 0) dX9_image_4 l_X9_111 s_mX0_isEmpty (by decide) rfl rfl f_mX0_isEmpty (Nat.le_of_ble_eq_true rfl) (by decide) (ct_emptyN isC3 hN8 hN hE) ?_
  rintro _ _ ⟨rfl, rfl⟩
  refine g_ifeq 13 dX9_image_7 (by decide) (fun _ => ?_) (fun c => absurd c (by decide))
  refine g_aload_n dX9_image_13 rfl ?_
  refine g_getr dX9_image_14 k_X9_23 rfl (by decide) rfl rfl ?_
  refine g_aload_n dX9_image_17 rfl ?_
  refine g_getr dX9_image_18 k_X9_19 rfl (by decide) rfl rfl ?_
  refine g_callV1 (M' := mX0_copyFrom) (mc' := 0) (ms' := 0) dX9_image_21 l_X9_249 s_mX0_copyFrom (by decide) rfl rfl f_mX0_copyFrom (Nat.le_of_ble_eq_true rfl) (by decide) (ct_ccopy hkv isC17 isC3 (by omega) hB) ?_
  rintro _ _ ⟨rfl, rfl⟩
  refine g_aload_n dX9_image_24 rfl ?_
  refine g_iconst (v := 1) dX9_image_25 (by decide) ?_
  refine g_puti dX9_image_26 k_X9_67 rfl (by decide) rfl rfl rfl ?_
  refine g_aload_n dX9_image_29 rfl ?_
  refine g_getr dX9_image_30 k_X9_23 rfl (by decide) rfl rfl ?_
  refine g_geti dX9_image_33 k_X9_144 rfl (by decide) rfl ?_
  exact g_ireturn dX9_image_36 rfl rfl ⟨by show some (Value.int (upI (cwF hi 17 3) 0 5 1 17 5)) = _; rw [upI_a (by decide)]; unfold cwF; rw [if_pos (by omega)], rfl⟩

set_option maxRecDepth 100000 in
set_option maxHeartbeats 4000000 in
theorem ct_restoreN (h0 : hi 0 5 = 0) : MC E l 3 mX9_restore [.ref 0] 83 (hi, hl, RT) 0 0 (fun r h' => r = some (.int (-103)) ∧ h' = (hi, hl, RT)) := by
  refine MC.of [some (.ref 0)] (by decide) rfl (Nat.le_of_ble_eq_true rfl) ?_
  refine g_aload_n dX9_restore_0 rfl ?_
  refine g_geti dX9_restore_1 k_X9_67 rfl (by decide) rfl ?_
  refine g_ifne 10 dX9_restore_4 (by decide) (fun c4 => ?_) (fun c4 => ?_)
  · skip
    exact absurd h0 c4
  · skip
    refine g_bipush (v := -103) dX9_restore_7 (by decide) ?_
    exact g_ireturn dX9_restore_9 rfl rfl ⟨rfl, rfl⟩

set_option maxRecDepth 100000 in
set_option maxHeartbeats 4000000 in
theorem ct_restore (hkv : KV hi) (h0 : ¬ hi 0 5 = 0) (hB : ∀ k, k < 8 → vp_nar .boolean (hi (17 + 5) k) = hi (17 + 5) k) : MC E l 3 mX9_restore [.ref 0] 83 (hi, hl, RT) 0 0 (fun r h' => r = some (.int (hi 17 5)) ∧ h' = (cwF hi 3 17, hl, RT)) := by
  refine MC.of [some (.ref 0)] (by decide) rfl (Nat.le_of_ble_eq_true rfl) ?_
  refine g_aload_n dX9_restore_0 rfl ?_
  refine g_geti dX9_restore_1 k_X9_67 rfl (by decide) rfl ?_
  refine g_ifne 10 dX9_restore_4 (by decide) (fun c4 => ?_) (fun c4 => ?_)
  · skip
    refine g_aload_n dX9_restore_10 rfl ?_
    refine g_getr dX9_restore_11 k_X9_19 rfl (by decide) rfl rfl ?_
    refine g_aload_n dX9_restore_14 rfl ?_
    refine g_getr dX9_restore_15 k_X9_23 rfl (by decide) rfl rfl ?_
    refine g_callV1 (M' := mX0_copyFrom) (mc' := 0) (ms' := 0) dX9_restore_18 l_X9_249 s_mX0_copyFrom (by decide) rfl rfl f_mX0_copyFrom (Nat.le_of_ble_eq_true rfl) (by decide) (ct_ccopy hkv isC3 isC17 (by omega) hB) ?_
    rintro _ _ ⟨rfl, rfl⟩
    refine g_aload_n dX9_restore_21 rfl ?_
    refine g_getr dX9_restore_22 k_X9_19 rfl (by decide) rfl rfl ?_
    refine g_geti dX9_restore_25 k_X9_144 rfl (by decide) rfl ?_
    exact g_ireturn dX9_restore_28 rfl rfl ⟨by show some (Value.int (cwF hi 3 17 3 5)) = _; unfold cwF; rw [if_pos (by omega)], rfl⟩
  · skip
    exact absurd c4 h0

set_option maxRecDepth 100000 in
set_option maxHeartbeats 4000000 in
theorem ct_count13  : MC E l 8 mX9_count [.ref 0, .int (13)] 83 (hi, hl, RT) 0 0 (fun r h' => r = some (.int (hi 1 1)) ∧ h' = (hi, hl, RT)) := by
  refine MC.of [some (.ref 0), some (.int (13))] (by decide) rfl (Nat.le_of_ble_eq_true rfl) ?_
  refine g_iload_n dX9_count_0 rfl ?_
  refine g_bipush (v := 13) dX9_count_1 (by decide) ?_
  refine g_icmpne 14 dX9_count_3 (by decide) (fun c3 => ?_) (fun c3 => ?_)
  · skip
    exact absurd rfl c3
  · skip
    refine g_aload_n dX9_count_6 rfl ?_
    refine g_getr dX9_count_7 k_X9_12 rfl (by decide) rfl rfl ?_
    refine g_geti dX9_count_10 k_X9_48 rfl (by decide) rfl ?_
    exact g_ireturn dX9_count_13 rfl rfl ⟨rfl, rfl⟩

set_option maxRecDepth 100000 in
set_option maxHeartbeats 4000000 in
theorem ct_count14  : MC E l 8 mX9_count [.ref 0, .int (14)] 83 (hi, hl, RT) 0 0 (fun r h' => r = some (.int (hi 0 6)) ∧ h' = (hi, hl, RT)) := by
  refine MC.of [some (.ref 0), some (.int (14))] (by decide) rfl (Nat.le_of_ble_eq_true rfl) ?_
  refine g_iload_n dX9_count_0 rfl ?_
  refine g_bipush (v := 13) dX9_count_1 (by decide) ?_
  refine g_icmpne 14 dX9_count_3 (by decide) (fun c3 => ?_) (fun c3 => ?_)
  · skip
    refine g_iload_n dX9_count_14 rfl ?_
    refine g_bipush (v := 14) dX9_count_15 (by decide) ?_
    refine g_icmpne 25 dX9_count_17 (by decide) (fun c17 => ?_) (fun c17 => ?_)
    · skip
      exact absurd rfl c17
    · skip
      refine g_aload_n dX9_count_20 rfl ?_
      refine g_geti dX9_count_21 k_X9_71 rfl (by decide) rfl ?_
      exact g_ireturn dX9_count_24 rfl rfl ⟨rfl, rfl⟩
  · skip
    exact absurd c3 (by decide)

set_option maxRecDepth 100000 in
set_option maxHeartbeats 4000000 in
theorem ct_count (hkv : KV hi) {N : Nat} (hN8 : N ≤ 8) (hN : hi 3 3 = nI N) {F : Nat} (hF8 : F ≤ 8) (hF : hi 3 2 = nI F) (S k : Nat) (hk : k < 13) : MC E l 8 mX9_count [.ref 0, .int (nI k)] 83 (hi, hl, RT) 0 0 (fun r h' => r = some (.int (tellN hi 3 N F S k)) ∧ h' = (hi, hl, RT)) := by
  refine MC.of [some (.ref 0), some (.int (nI k))] (by decide) rfl (Nat.le_of_ble_eq_true rfl) ?_
  refine g_iload_n dX9_count_0 rfl ?_
  refine g_bipush (v := 13) dX9_count_1 (by decide) ?_
  refine g_icmpne 14 dX9_count_3 (by decide) (fun c3 => ?_) (fun c3 => ?_)
  · skip
    refine g_iload_n dX9_count_14 rfl ?_
    refine g_bipush (v := 14) dX9_count_15 (by decide) ?_
    refine g_icmpne 25 dX9_count_17 (by decide) (fun c17 => ?_) (fun c17 => ?_)
    · skip
      refine g_aload_n dX9_count_25 rfl ?_
      refine g_getr dX9_count_26 k_X9_19 rfl (by decide) rfl rfl ?_
      refine g_iload_n dX9_count_29 rfl ?_
      refine g_callV1 (M' := mX0_tell) (mc' := 0) (ms' := 0) dX9_count_30 l_X9_252 s_mX0_tell (by decide) rfl rfl f_mX0_tell (Nat.le_of_ble_eq_true rfl) (by decide) (ct_tell hkv isC3 hN8 hN hF8 hF S k hk) ?_
      rintro _ _ ⟨rfl, rfl⟩
      exact g_ireturn dX9_count_33 rfl rfl ⟨rfl, rfl⟩
    · skip
      exact absurd ((nI_eq (b := 14) (by omega) (by decide)).mp c17) (by omega)
  · skip
    exact absurd ((nI_eq (b := 13) (by omega) (by decide)).mp c3) (by omega)

set_option maxRecDepth 100000 in
set_option maxHeartbeats 4000000 in
theorem ct_countX (x : Int32) (hx : x.toInt < 0 ∨ 14 < x.toInt) : MC E l 8 mX9_count [.ref 0, .int (x)] 83 (hi, hl, RT) 0 0 (fun r h' => r = some (.int (-102)) ∧ h' = (hi, hl, RT)) := by
  refine MC.of [some (.ref 0), some (.int (x))] (by decide) rfl (Nat.le_of_ble_eq_true rfl) ?_
  refine g_iload_n dX9_count_0 rfl ?_
  refine g_bipush (v := 13) dX9_count_1 (by decide) ?_
  refine g_icmpne 14 dX9_count_3 (by decide) (fun c3 => ?_) (fun c3 => ?_)
  · skip
    refine g_iload_n dX9_count_14 rfl ?_
    refine g_bipush (v := 14) dX9_count_15 (by decide) ?_
    refine g_icmpne 25 dX9_count_17 (by decide) (fun c17 => ?_) (fun c17 => ?_)
    · skip
      refine g_aload_n dX9_count_25 rfl ?_
      refine g_getr dX9_count_26 k_X9_19 rfl (by decide) rfl rfl ?_
      refine g_iload_n dX9_count_29 rfl ?_
      refine g_callV1 (M' := mX0_tell) (mc' := 0) (ms' := 0) dX9_count_30 l_X9_252 s_mX0_tell (by decide) rfl rfl f_mX0_tell (Nat.le_of_ble_eq_true rfl) (by decide) (ct_tellX isC3 x (by omega)) ?_
      rintro _ _ ⟨rfl, rfl⟩
      exact g_ireturn dX9_count_33 rfl rfl ⟨rfl, rfl⟩
    · skip
      exact absurd hx (by rw [c17]; decide)
  · skip
    exact absurd hx (by rw [c3]; decide)

end
