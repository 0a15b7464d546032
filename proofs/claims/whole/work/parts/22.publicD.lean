section
variable {E : XE} {l : Launch} {hi : Nat → Nat → Int32} {hl : Nat → Nat → Int64}
set_option maxRecDepth 100000 in
set_option maxHeartbeats 4000000 in
theorem ct_comesX1 (x y z : Int32) (hx : (!decide (x < 1) && !decide (8 < x)) = false) : MC E l 3 mX9_comes [.ref 0, .int (x), .int (y), .int (z)] 83 (hi, hl, RT) 0 0 (fun r h' => r = some (.int (-102)) ∧ h' = (hi, hl, RT)) := by
  refine MC.of [some (.ref 0), some (.int (x)), some (.int (y)), some (.int (z))] (by decide) rfl (Nat.le_of_ble_eq_true rfl) ?_
  refine g_iload_n dX9_comes_0 rfl ?_
  refine g_callS1 (M' := mX7_isDays) (mc' := 0) (ms' := 0) dX9_comes_1 l_X9_182 s_mX7_isDays f_mX7_isDays (Nat.le_of_ble_eq_true rfl) (by decide) ((ct_isDays (x)).weaken (fun r h' q => (⟨by rw [q.1, hx]; rfl, q.2⟩ : r = some (.int 0) ∧ h' = (hi, hl, RT)))) ?_
  rintro _ _ ⟨rfl, rfl⟩
  refine g_ifeq 21 dX9_comes_4 (by decide) (fun _ => ?_) (fun c => absurd c (by decide))
  refine g_bipush (v := -102) dX9_comes_21 (by decide) ?_
  exact g_ireturn dX9_comes_23 rfl rfl ⟨rfl, rfl⟩

set_option maxRecDepth 100000 in
set_option maxHeartbeats 4000000 in
theorem ct_comesX2 (x y z : Int32) (hx : (!decide (x < 1) && !decide (8 < x)) = true) (hy : (!decide (y < 1) && !decide (9 < y)) = false) : MC E l 3 mX9_comes [.ref 0, .int (x), .int (y), .int (z)] 83 (hi, hl, RT) 0 0 (fun r h' => r = some (.int (-102)) ∧ h' = (hi, hl, RT)) := by
  refine MC.of [some (.ref 0), some (.int (x)), some (.int (y)), some (.int (z))] (by decide) rfl (Nat.le_of_ble_eq_true rfl) ?_
  refine g_iload_n dX9_comes_0 rfl ?_
  refine g_callS1 (M' := mX7_isDays) (mc' := 0) (ms' := 0) dX9_comes_1 l_X9_182 s_mX7_isDays f_mX7_isDays (Nat.le_of_ble_eq_true rfl) (by decide) ((ct_isDays (x)).weaken (fun r h' q => (⟨by rw [q.1, hx]; rfl, q.2⟩ : r = some (.int 1) ∧ h' = (hi, hl, RT)))) ?_
  rintro _ _ ⟨rfl, rfl⟩
  refine g_ifeq 21 dX9_comes_4 (by decide) (fun c => absurd c (by decide)) (fun _ => ?_)
  refine g_iload_n dX9_comes_7 rfl ?_
  refine g_callS1 (M' := mX9_isLimit) (mc' := 0) (ms' := 0) dX9_comes_8 l_X9_108 s_mX9_isLimit f_mX9_isLimit (Nat.le_of_ble_eq_true rfl) (by decide) ((ct_isLimit (y)).weaken (fun r h' q => (⟨by rw [q.1, hy]; rfl, q.2⟩ : r = some (.int 0) ∧ h' = (hi, hl, RT)))) ?_
  rintro _ _ ⟨rfl, rfl⟩
  refine g_ifeq 21 dX9_comes_11 (by decide) (fun _ => ?_) (fun c => absurd c (by decide))
  refine g_bipush (v := -102) dX9_comes_21 (by decide) ?_
  exact g_ireturn dX9_comes_23 rfl rfl ⟨rfl, rfl⟩

set_option maxRecDepth 100000 in
set_option maxHeartbeats 4000000 in
theorem ct_comesX3 (x y z : Int32) (hx : (!decide (x < 1) && !decide (8 < x)) = true) (hy : (!decide (y < 1) && !decide (9 < y)) = true) (hz : (!decide (z < 0) && !decide (1 < z)) = false) : MC E l 3 mX9_comes [.ref 0, .int (x), .int (y), .int (z)] 83 (hi, hl, RT) 0 0 (fun r h' => r = some (.int (-102)) ∧ h' = (hi, hl, RT)) := by
  refine MC.of [some (.ref 0), some (.int (x)), some (.int (y)), some (.int (z))] (by decide) rfl (Nat.le_of_ble_eq_true rfl) ?_
  refine g_iload_n dX9_comes_0 rfl ?_
  refine g_callS1 (M' := mX7_isDays) (mc' := 0) (ms' := 0) dX9_comes_1 l_X9_182 s_mX7_isDays f_mX7_isDays (Nat.le_of_ble_eq_true rfl) (by decide) ((ct_isDays (x)).weaken (fun r h' q => (⟨by rw [q.1, hx]; rfl, q.2⟩ : r = some (.int 1) ∧ h' = (hi, hl, RT)))) ?_
  rintro _ _ ⟨rfl, rfl⟩
  refine g_ifeq 21 dX9_comes_4 (by decide) (fun c => absurd c (by decide)) (fun _ => ?_)
  refine g_iload_n dX9_comes_7 rfl ?_
  refine g_callS1 (M' := mX9_isLimit) (mc' := 0) (ms' := 0) dX9_comes_8 l_X9_108 s_mX9_isLimit f_mX9_isLimit (Nat.le_of_ble_eq_true rfl) (by decide) ((ct_isLimit (y)).weaken (fun r h' q => (⟨by rw [q.1, hy]; rfl, q.2⟩ : r = some (.int 1) ∧ h' = (hi, hl, RT)))) ?_
  rintro _ _ ⟨rfl, rfl⟩
  refine g_ifeq 21 dX9_comes_11 (by decide) (fun c => absurd c (by decide)) (fun _ => ?_)
  refine g_iload_n dX9_comes_14 rfl ?_
  refine g_callS1 (M' := mX7_isOrder) (mc' := 0) (ms' := 0) dX9_comes_15 l_X9_185 s_mX7_isOrder f_mX7_isOrder (Nat.le_of_ble_eq_true rfl) (by decide) ((ct_isOrder (z)).weaken (fun r h' q => (⟨by rw [q.1, hz]; rfl, q.2⟩ : r = some (.int 0) ∧ h' = (hi, hl, RT)))) ?_
  rintro _ _ ⟨rfl, rfl⟩
  refine g_ifne 24 dX9_comes_18 (by decide) (fun c => absurd c (by decide)) (fun _ => ?_)
  refine g_bipush (v := -102) dX9_comes_21 (by decide) ?_
  exact g_ireturn dX9_comes_23 rfl rfl ⟨rfl, rfl⟩

set_option maxRecDepth 100000 in
set_option maxHeartbeats 4000000 in
theorem ct_comesE (x y z : Int32) (hx : (!decide (x < 1) && !decide (8 < x)) = true) (hy : (!decide (y < 1) && !decide (9 < y)) = true) (hz : (!decide (z < 0) && !decide (1 < z)) = true) (hE : hi 3 3 = 0) : MC E l 3 mX9_comes [.ref 0, .int (x), .int (y), .int (z)] 83 (hi, hl, RT) 0 0 (fun r h' => r = some (.int (-103)) ∧ h' = (hi, hl, RT)) := by
  refine MC.of [some (.ref 0), some (.int (x)), some (.int (y)), some (.int (z))] (by decide) rfl (Nat.le_of_ble_eq_true rfl) ?_
  refine g_iload_n dX9_comes_0 rfl ?_
  refine g_callS1 (M' := mX7_isDays) (mc' := 0) (ms' := 0) dX9_comes_1 l_X9_182 s_mX7_isDays f_mX7_isDays (Nat.le_of_ble_eq_true rfl) (by decide) ((ct_isDays (x)).weaken (fun r h' q => (⟨by rw [q.1, hx]; rfl, q.2⟩ : r = some (.int 1) ∧ h' = (hi, hl, RT)))) ?_
  rintro _ _ ⟨rfl, rfl⟩
  refine g_ifeq 21 dX9_comes_4 (by decide) (fun c => absurd c (by decide)) (fun _ => ?_)
  refine g_iload_n dX9_comes_7 rfl ?_
  refine g_callS1 (M' := mX9_isLimit) (mc' := 0) (ms' := 0) dX9_comes_8 l_X9_108 s_mX9_isLimit f_mX9_isLimit (Nat.le_of_ble_eq_true rfl) (by decide) ((ct_isLimit (y)).weaken (fun r h' q => (⟨by rw [q.1, hy]; rfl, q.2⟩ : r = some (.int 1) ∧ h' = (hi, hl, RT)))) ?_
  rintro _ _ ⟨rfl, rfl⟩
  refine g_ifeq 21 dX9_comes_11 (by decide) (fun c => absurd c (by decide)) (fun _ => ?_)
  refine g_iload_n dX9_comes_14 rfl ?_
  refine g_callS1 (M' := mX7_isOrder) (mc' := 0) (ms' := 0) dX9_comes_15 l_X9_185 s_mX7_isOrder f_mX7_isOrder (Nat.le_of_ble_eq_true rfl) (by decide) ((ct_isOrder (z)).weaken (fun r h' q => (⟨by rw [q.1, hz]; rfl, q.2⟩ : r = some (.int 1) ∧ h' = (hi, hl, RT)))) ?_
  rintro _ _ ⟨rfl, rfl⟩
  refine g_ifne 24 dX9_comes_18 (by decide) (fun _ => ?_) (fun c => absurd c (by decide))
  refine g_aload_n dX9_comes_24 rfl ?_
  refine g_getr dX9_comes_25 k_X9_19 rfl (by decide) rfl rfl ?_
  refine g_callV0 (M' := mX0_isEmpty) (mc' := 0) (ms' := 0) dX9_comes_28 l_X9_111 s_mX0_isEmpty (by decide) rfl rfl f_mX0_isEmpty (Nat.le_of_ble_eq_true rfl) (by decide) (ct_emptyY isC3 hE) ?_
  rintro _ _ ⟨rfl, rfl⟩
  refine g_ifeq 37 dX9_comes_31 (by decide) (fun c => absurd c (by decide)) (fun _ => ?_)
  refine g_bipush (v := -103) dX9_comes_34 (by decide) ?_
  exact g_ireturn dX9_comes_36 rfl rfl ⟨rfl, rfl⟩

set_option maxRecDepth 100000 in
set_option maxHeartbeats 4000000 in
theorem ct_comes (hkv : KV hi) (hb3 : PB hi 3) (hb32 : PB hi 32) {N F D : Nat} (hN8 : N ≤ 8) (hFN : F ≤ N) (hN : hi 3 3 = nI N) (hF : hi 3 2 = nI F) (hB : ∀ k, k < 8 → vp_nar .boolean (hi (3 + 5) k) = hi (3 + 5) k) (hD : D ≤ 100) (y z : Int32) (hx : (!decide (nI D < 1) && !decide (8 < nI D)) = true) (hy : (!decide (y < 1) && !decide (9 < y)) = true) (hz : (!decide (z < 0) && !decide (1 < z)) = true) (hE : 0 < N) : MC E l 8 mX9_comes [.ref 0, .int (nI D), .int (y), .int (z)] 83 (hi, hl, RT) 0 0 (fun r h' => ∃ hf, r = some (.int (mvV (vw hi 3 N) N F D y (decide (z = 1)))) ∧ h' = (hf, hl, RT) ∧ TX hi hf) := by
  refine MC.of [some (.ref 0), some (.int (nI D)), some (.int (y)), some (.int (z))] (by decide) rfl (Nat.le_of_ble_eq_true rfl) ?_
  refine g_iload_n dX9_comes_0 rfl ?_
  refine g_callS1 (M' := mX7_isDays) (mc' := 0) (ms' := 0) dX9_comes_1 l_X9_182 s_mX7_isDays f_mX7_isDays (Nat.le_of_ble_eq_true rfl) (by decide) ((ct_isDays (nI D)).weaken (fun r h' q => (⟨by rw [q.1, hx]; rfl, q.2⟩ : r = some (.int 1) ∧ h' = (hi, hl, RT)))) ?_
  rintro _ _ ⟨rfl, rfl⟩
  refine g_ifeq 21 dX9_comes_4 (by decide) (fun c => absurd c (by decide)) (fun _ => ?_)
  refine g_iload_n dX9_comes_7 rfl ?_
  refine g_callS1 (M' := mX9_isLimit) (mc' := 0) (ms' := 0) dX9_comes_8 l_X9_108 s_mX9_isLimit f_mX9_isLimit (Nat.le_of_ble_eq_true rfl) (by decide) ((ct_isLimit (y)).weaken (fun r h' q => (⟨by rw [q.1, hy]; rfl, q.2⟩ : r = some (.int 1) ∧ h' = (hi, hl, RT)))) ?_
  rintro _ _ ⟨rfl, rfl⟩
  refine g_ifeq 21 dX9_comes_11 (by decide) (fun c => absurd c (by decide)) (fun _ => ?_)
  refine g_iload_n dX9_comes_14 rfl ?_
  refine g_callS1 (M' := mX7_isOrder) (mc' := 0) (ms' := 0) dX9_comes_15 l_X9_185 s_mX7_isOrder f_mX7_isOrder (Nat.le_of_ble_eq_true rfl) (by decide) ((ct_isOrder (z)).weaken (fun r h' q => (⟨by rw [q.1, hz]; rfl, q.2⟩ : r = some (.int 1) ∧ h' = (hi, hl, RT)))) ?_
  rintro _ _ ⟨rfl, rfl⟩
  refine g_ifne 24 dX9_comes_18 (by decide) (fun _ => ?_) (fun c => absurd c (by decide))
  refine g_aload_n dX9_comes_24 rfl ?_
  refine g_getr dX9_comes_25 k_X9_19 rfl (by decide) rfl rfl ?_
  refine g_callV0 (M' := mX0_isEmpty) (mc' := 0) (ms' := 0) dX9_comes_28 l_X9_111 s_mX0_isEmpty (by decide) rfl rfl f_mX0_isEmpty (Nat.le_of_ble_eq_true rfl) (by decide) (ct_emptyN isC3 hN8 hN hE) ?_
  rintro _ _ ⟨rfl, rfl⟩
  refine g_ifeq 37 dX9_comes_31 (by decide) (fun _ => ?_) (fun c => absurd c (by decide))
  refine g_aload_n dX9_comes_37 rfl ?_
  refine g_getr dX9_comes_38 k_X9_29 rfl (by decide) rfl rfl ?_
  refine g_aload_n dX9_comes_41 rfl ?_
  refine g_getr dX9_comes_42 k_X9_19 rfl (by decide) rfl rfl ?_
  refine g_iload_n dX9_comes_45 rfl ?_
  refine g_iload_n dX9_comes_46 rfl ?_
  refine g_iload_n dX9_comes_47 rfl ?_
  refine g_callV4 (M' := mX7_matchesAfter) (mc' := 0) (ms' := 0) dX9_comes_48 l_X9_188 s_mX7_matchesAfter (by decide) rfl rfl f_mX7_matchesAfter (Nat.le_of_ble_eq_true rfl) (by decide) (ct_matchesAfter hkv hb3 hb32 hN8 hFN hN hF hB hD _ _) ?_
  rintro _ _ ⟨hf, rfl, rfl, ht⟩
  exact g_ireturn dX9_comes_51 rfl rfl ⟨hf, rfl, rfl, ht⟩

set_option maxRecDepth 100000 in
set_option maxHeartbeats 4000000 in
theorem ct_bestX1 (x z : Int32) (hx : (!decide (x < 1) && !decide (8 < x)) = false) : MC E l 3 mX9_best [.ref 0, .int (x), .int (z)] 83 (hi, hl, RT) 0 0 (fun r h' => r = some (.int (-102)) ∧ h' = (hi, hl, RT)) := by
  refine MC.of [some (.ref 0), some (.int (x)), some (.int (z))] (by decide) rfl (Nat.le_of_ble_eq_true rfl) ?_
  refine g_iload_n dX9_best_0 rfl ?_
  refine g_callS1 (M' := mX7_isDays) (mc' := 0) (ms' := 0) dX9_best_1 l_X9_182 s_mX7_isDays f_mX7_isDays (Nat.le_of_ble_eq_true rfl) (by decide) ((ct_isDays (x)).weaken (fun r h' q => (⟨by rw [q.1, hx]; rfl, q.2⟩ : r = some (.int 0) ∧ h' = (hi, hl, RT)))) ?_
  rintro _ _ ⟨rfl, rfl⟩
  refine g_ifeq 14 dX9_best_4 (by decide) (fun _ => ?_) (fun c => absurd c (by decide))
  refine g_bipush (v := -102) dX9_best_14 (by decide) ?_
  exact g_ireturn dX9_best_16 rfl rfl ⟨rfl, rfl⟩

set_option maxRecDepth 100000 in
set_option maxHeartbeats 4000000 in
theorem ct_bestX3 (x z : Int32) (hx : (!decide (x < 1) && !decide (8 < x)) = true) (hz : (!decide (z < 0) && !decide (1 < z)) = false) : MC E l 3 mX9_best [.ref 0, .int (x), .int (z)] 83 (hi, hl, RT) 0 0 (fun r h' => r = some (.int (-102)) ∧ h' = (hi, hl, RT)) := by
  refine MC.of [some (.ref 0), some (.int (x)), some (.int (z))] (by decide) rfl (Nat.le_of_ble_eq_true rfl) ?_
  refine g_iload_n dX9_best_0 rfl ?_
  refine g_callS1 (M' := mX7_isDays) (mc' := 0) (ms' := 0) dX9_best_1 l_X9_182 s_mX7_isDays f_mX7_isDays (Nat.le_of_ble_eq_true rfl) (by decide) ((ct_isDays (x)).weaken (fun r h' q => (⟨by rw [q.1, hx]; rfl, q.2⟩ : r = some (.int 1) ∧ h' = (hi, hl, RT)))) ?_
  rintro _ _ ⟨rfl, rfl⟩
  refine g_ifeq 14 dX9_best_4 (by decide) (fun c => absurd c (by decide)) (fun _ => ?_)
  refine g_iload_n dX9_best_7 rfl ?_
  refine g_callS1 (M' := mX7_isOrder) (mc' := 0) (ms' := 0) dX9_best_8 l_X9_185 s_mX7_isOrder f_mX7_isOrder (Nat.le_of_ble_eq_true rfl) (by decide) ((ct_isOrder (z)).weaken (fun r h' q => (⟨by rw [q.1, hz]; rfl, q.2⟩ : r = some (.int 0) ∧ h' = (hi, hl, RT)))) ?_
  rintro _ _ ⟨rfl, rfl⟩
  refine g_ifne 17 dX9_best_11 (by decide) (fun c => absurd c (by decide)) (fun _ => ?_)
  refine g_bipush (v := -102) dX9_best_14 (by decide) ?_
  exact g_ireturn dX9_best_16 rfl rfl ⟨rfl, rfl⟩

set_option maxRecDepth 100000 in
set_option maxHeartbeats 4000000 in
theorem ct_bestE (x z : Int32) (hx : (!decide (x < 1) && !decide (8 < x)) = true) (hz : (!decide (z < 0) && !decide (1 < z)) = true) (hE : hi 3 3 = 0) : MC E l 3 mX9_best [.ref 0, .int (x), .int (z)] 83 (hi, hl, RT) 0 0 (fun r h' => r = some (.int (-103)) ∧ h' = (hi, hl, RT)) := by
  refine MC.of [some (.ref 0), some (.int (x)), some (.int (z))] (by decide) rfl (Nat.le_of_ble_eq_true rfl) ?_
  refine g_iload_n dX9_best_0 rfl ?_
  refine g_callS1 (M' := mX7_isDays) (mc' := 0) (ms' := 0) dX9_best_1 l_X9_182 s_mX7_isDays f_mX7_isDays (Nat.le_of_ble_eq_true rfl) (by decide) ((ct_isDays (x)).weaken (fun r h' q => (⟨by rw [q.1, hx]; rfl, q.2⟩ : r = some (.int 1) ∧ h' = (hi, hl, RT)))) ?_
  rintro _ _ ⟨rfl, rfl⟩
  refine g_ifeq 14 dX9_best_4 (by decide) (fun c => absurd c (by decide)) (fun _ => ?_)
  refine g_iload_n dX9_best_7 rfl ?_
  refine g_callS1 (M' := mX7_isOrder) (mc' := 0) (ms' := 0) dX9_best_8 l_X9_185 s_mX7_isOrder f_mX7_isOrder (Nat.le_of_ble_eq_true rfl) (by decide) ((ct_isOrder (z)).weaken (fun r h' q => (⟨by rw [q.1, hz]; rfl, q.2⟩ : r = some (.int 1) ∧ h' = (hi, hl, RT)))) ?_
  rintro _ _ ⟨rfl, rfl⟩
  refine g_ifne 17 dX9_best_11 (by decide) (fun _ => ?_) (fun c => absurd c (by decide))
  refine g_aload_n dX9_best_17 rfl ?_
  refine g_getr dX9_best_18 k_X9_19 rfl (by decide) rfl rfl ?_
  refine g_callV0 (M' := mX0_isEmpty) (mc' := 0) (ms' := 0) dX9_best_21 l_X9_111 s_mX0_isEmpty (by decide) rfl rfl f_mX0_isEmpty (Nat.le_of_ble_eq_true rfl) (by decide) (ct_emptyY isC3 hE) ?_
  rintro _ _ ⟨rfl, rfl⟩
  refine g_ifeq 30 dX9_best_24 (by decide) (fun c => absurd c (by decide)) (fun _ => ?_)
  refine g_bipush (v := -103) dX9_best_27 (by decide) ?_
  exact g_ireturn dX9_best_29 rfl rfl ⟨rfl, rfl⟩

set_option maxRecDepth 100000 in
set_option maxHeartbeats 4000000 in
theorem ct_best (hkv : KV hi) (hb3 : PB hi 3) (hb32 : PB hi 32) {N F D : Nat} (hN8 : N ≤ 8) (hFN : F ≤ N) (hN : hi 3 3 = nI N) (hF : hi 3 2 = nI F) (hB : ∀ k, k < 8 → vp_nar .boolean (hi (3 + 5) k) = hi (3 + 5) k) (hD : D ≤ 100) (z : Int32) (hx : (!decide (nI D < 1) && !decide (8 < nI D)) = true) (hz : (!decide (z < 0) && !decide (1 < z)) = true) (hE : 0 < N) : MC E l 9 mX9_best [.ref 0, .int (nI D), .int (z)] 83 (hi, hl, RT) 0 0 (fun r h' => ∃ hf, r = some (.int (blF (fun j => mvV (vw hi 3 N) N F D (nI j) (decide (z = 1))) 8).1) ∧ h' = (hf, hl, RT) ∧ TX hi hf) := by
  refine MC.of [some (.ref 0), some (.int (nI D)), some (.int (z))] (by decide) rfl (Nat.le_of_ble_eq_true rfl) ?_
  refine g_iload_n dX9_best_0 rfl ?_
  refine g_callS1 (M' := mX7_isDays) (mc' := 0) (ms' := 0) dX9_best_1 l_X9_182 s_mX7_isDays f_mX7_isDays (Nat.le_of_ble_eq_true rfl) (by decide) ((ct_isDays (nI D)).weaken (fun r h' q => (⟨by rw [q.1, hx]; rfl, q.2⟩ : r = some (.int 1) ∧ h' = (hi, hl, RT)))) ?_
  rintro _ _ ⟨rfl, rfl⟩
  refine g_ifeq 14 dX9_best_4 (by decide) (fun c => absurd c (by decide)) (fun _ => ?_)
  refine g_iload_n dX9_best_7 rfl ?_
  refine g_callS1 (M' := mX7_isOrder) (mc' := 0) (ms' := 0) dX9_best_8 l_X9_185 s_mX7_isOrder f_mX7_isOrder (Nat.le_of_ble_eq_true rfl) (by decide) ((ct_isOrder (z)).weaken (fun r h' q => (⟨by rw [q.1, hz]; rfl, q.2⟩ : r = some (.int 1) ∧ h' = (hi, hl, RT)))) ?_
  rintro _ _ ⟨rfl, rfl⟩
  refine g_ifne 17 dX9_best_11 (by decide) (fun _ => ?_) (fun c => absurd c (by decide))
  refine g_aload_n dX9_best_17 rfl ?_
  refine g_getr dX9_best_18 k_X9_19 rfl (by decide) rfl rfl ?_
  refine g_callV0 (M' := mX0_isEmpty) (mc' := 0) (ms' := 0) dX9_best_21 l_X9_111 s_mX0_isEmpty (by decide) rfl rfl f_mX0_isEmpty (Nat.le_of_ble_eq_true rfl) (by decide) (ct_emptyN isC3 hN8 hN hE) ?_
  rintro _ _ ⟨rfl, rfl⟩
  refine g_ifeq 30 dX9_best_24 (by decide) (fun _ => ?_) (fun c => absurd c (by decide))
  refine g_aload_n dX9_best_30 rfl ?_
  refine g_getr dX9_best_31 k_X9_29 rfl (by decide) rfl rfl ?_
  refine g_aload_n dX9_best_34 rfl ?_
  refine g_getr dX9_best_35 k_X9_19 rfl (by decide) rfl rfl ?_
  refine g_iload_n dX9_best_38 rfl ?_
  refine g_iload_n dX9_best_39 rfl ?_
  refine g_callV3 (M' := mX7_bestLimit) (mc' := 0) (ms' := 0) dX9_best_40 l_X9_192 s_mX7_bestLimit (by decide) rfl rfl f_mX7_bestLimit (Nat.le_of_ble_eq_true rfl) (by decide) (ct_bestLimit hkv hb3 hb32 hN8 hFN hN hF hB hD _) ?_
  rintro _ _ ⟨hf, rfl, rfl, ht⟩
  exact g_ireturn dX9_best_43 rfl rfl ⟨hf, rfl, rfl, ht⟩

end
