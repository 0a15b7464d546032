section
variable {E : XE} {l : Launch} {hi : Nat → Nat → Int32} {hl : Nat → Nat → Int64}
set_option maxRecDepth 100000 in
set_option maxHeartbeats 4000000 in
theorem ct_howManyX (x : Int32) (hx : (!decide (x < 2) && !decide (8 < x)) = false) : MC E l 3 mX9_howMany [.ref 0, .int (x)] 83 (hi, hl, RT) 0 0 (fun r h' => r = some (.int (-102)) ∧ h' = (hi, hl, RT)) := by
  refine MC.of [some (.ref 0), some (.int (x))] (by decide) rfl (Nat.le_of_ble_eq_true rfl) ?_
  refine g_iload_n dX9_howMany_0 rfl ?_
  refine g_callS1 (M' := mX8_isOthers) (mc' := 0) (ms' := 0) dX9_howMany_1 l_X9_196 s_mX8_isOthers f_mX8_isOthers (Nat.le_of_ble_eq_true rfl) (by decide) ((ct_isOthers (x)).weaken (fun r h' q => (⟨by rw [q.1, hx]; rfl, q.2⟩ : r = some (.int 0) ∧ h' = (hi, hl, RT)))) ?_
  rintro _ _ ⟨rfl, rfl⟩
  refine g_ifne 10 dX9_howMany_4 (by decide) (fun c => absurd c (by decide)) (fun _ => ?_)
  refine g_bipush (v := -102) dX9_howMany_7 (by decide) ?_
  exact g_ireturn dX9_howMany_9 rfl rfl ⟨rfl, rfl⟩

set_option maxRecDepth 100000 in
set_option maxHeartbeats 4000000 in
theorem ct_howMany {O : Nat} (hO : O ≤ 8) (hO1 : 1 ≤ O) (hx : (!decide (nI O < 2) && !decide (8 < nI O)) = true) : MC E l 3 mX9_howMany [.ref 0, .int (nI O)] 83 (hi, hl, RT) 0 0 (fun r h' => r = some (.int (nI (lkF O (O - 1)))) ∧ h' = (hi, hl, RT)) := by
  refine MC.of [some (.ref 0), some (.int (nI O))] (by decide) rfl (Nat.le_of_ble_eq_true rfl) ?_
  refine g_iload_n dX9_howMany_0 rfl ?_
  refine g_callS1 (M' := mX8_isOthers) (mc' := 0) (ms' := 0) dX9_howMany_1 l_X9_196 s_mX8_isOthers f_mX8_isOthers (Nat.le_of_ble_eq_true rfl) (by decide) ((ct_isOthers (nI O)).weaken (fun r h' q => (⟨by rw [q.1, hx]; rfl, q.2⟩ : r = some (.int 1) ∧ h' = (hi, hl, RT)))) ?_
  rintro _ _ ⟨rfl, rfl⟩
  refine g_ifne 10 dX9_howMany_4 (by decide) (fun _ => ?_) (fun c => absurd c (by decide))
  refine g_iload_n dX9_howMany_10 rfl ?_
  refine g_callS1 (M' := mX8_likeliest) (mc' := 0) (ms' := 0) dX9_howMany_11 l_X9_211 s_mX8_likeliest f_mX8_likeliest (Nat.le_of_ble_eq_true rfl) (by decide) (ct_likeliest hO hO1) ?_
  rintro _ _ ⟨rfl, rfl⟩
  exact g_ireturn dX9_howMany_14 rfl rfl ⟨rfl, rfl⟩

set_option maxRecDepth 100000 in
set_option maxHeartbeats 4000000 in
theorem ct_waitingX1 (x y z : Int32) (hx : (!decide (x < 2) && !decide (8 < x)) = false) : MC E l 3 mX9_waiting [.ref 0, .int (x), .int (y), .int (z)] 83 (hi, hl, RT) 0 0 (fun r h' => r = some (.int (-102)) ∧ h' = (hi, hl, RT)) := by
  refine MC.of [some (.ref 0), some (.int (x)), some (.int (y)), some (.int (z)), none, none, none] (by decide) rfl (Nat.le_of_ble_eq_true rfl) ?_
  refine g_iload_n dX9_waiting_0 rfl ?_
  refine g_callS1 (M' := mX8_isOthers) (mc' := 0) (ms' := 0) dX9_waiting_1 l_X9_196 s_mX8_isOthers f_mX8_isOthers (Nat.le_of_ble_eq_true rfl) (by decide) ((ct_isOthers (x)).weaken (fun r h' q => (⟨by rw [q.1, hx]; rfl, q.2⟩ : r = some (.int 0) ∧ h' = (hi, hl, RT)))) ?_
  rintro _ _ ⟨rfl, rfl⟩
  refine g_ifeq 27 dX9_waiting_4 (by decide) (fun _ => ?_) (fun c => absurd c (by decide))
  refine g_bipush (v := -102) dX9_waiting_27 (by decide) ?_
  exact g_ireturn dX9_waiting_29 rfl rfl ⟨rfl, rfl⟩

set_option maxRecDepth 100000 in
set_option maxHeartbeats 4000000 in
theorem ct_waitingX2 (x y z : Int32) (hx : (!decide (x < 2) && !decide (8 < x)) = true) (hy : (!decide (y < 0) && !decide (x - 1 < y)) = false) : MC E l 3 mX9_waiting [.ref 0, .int (x), .int (y), .int (z)] 83 (hi, hl, RT) 0 0 (fun r h' => r = some (.int (-102)) ∧ h' = (hi, hl, RT)) := by
  refine MC.of [some (.ref 0), some (.int (x)), some (.int (y)), some (.int (z)), none, none, none] (by decide) rfl (Nat.le_of_ble_eq_true rfl) ?_
  refine g_iload_n dX9_waiting_0 rfl ?_
  refine g_callS1 (M' := mX8_isOthers) (mc' := 0) (ms' := 0) dX9_waiting_1 l_X9_196 s_mX8_isOthers f_mX8_isOthers (Nat.le_of_ble_eq_true rfl) (by decide) ((ct_isOthers (x)).weaken (fun r h' q => (⟨by rw [q.1, hx]; rfl, q.2⟩ : r = some (.int 1) ∧ h' = (hi, hl, RT)))) ?_
  rintro _ _ ⟨rfl, rfl⟩
  refine g_ifeq 27 dX9_waiting_4 (by decide) (fun c => absurd c (by decide)) (fun _ => ?_)
  refine g_iload_n dX9_waiting_7 rfl ?_
  refine g_iconst (v := 0) dX9_waiting_8 (by decide) ?_
  refine g_iload_n dX9_waiting_9 rfl ?_
  refine g_iconst (v := 1) dX9_waiting_10 (by decide) ?_
  refine g_isub dX9_waiting_11 ?_
  refine g_callS3 (M' := mX9_isWithin) (mc' := 0) (ms' := 0) dX9_waiting_12 l_X9_40 s_mX9_isWithin f_mX9_isWithin (Nat.le_of_ble_eq_true rfl) (by decide) (ct_withinB (t := false) hy) ?_
  rintro _ _ ⟨rfl, rfl⟩
  refine g_ifeq 27 dX9_waiting_15 (by decide) (fun _ => ?_) (fun c => absurd c (by decide))
  refine g_bipush (v := -102) dX9_waiting_27 (by decide) ?_
  exact g_ireturn dX9_waiting_29 rfl rfl ⟨rfl, rfl⟩

set_option maxRecDepth 100000 in
set_option maxHeartbeats 4000000 in
theorem ct_waitingX3 (x y z : Int32) (hx : (!decide (x < 2) && !decide (8 < x)) = true) (hy : (!decide (y < 0) && !decide (x - 1 < y)) = true) (hz : (!decide (z < 0) && !decide (1 < z)) = false) : MC E l 3 mX9_waiting [.ref 0, .int (x), .int (y), .int (z)] 83 (hi, hl, RT) 0 0 (fun r h' => r = some (.int (-102)) ∧ h' = (hi, hl, RT)) := by
  refine MC.of [some (.ref 0), some (.int (x)), some (.int (y)), some (.int (z)), none, none, none] (by decide) rfl (Nat.le_of_ble_eq_true rfl) ?_
  refine g_iload_n dX9_waiting_0 rfl ?_
  refine g_callS1 (M' := mX8_isOthers) (mc' := 0) (ms' := 0) dX9_waiting_1 l_X9_196 s_mX8_isOthers f_mX8_isOthers (Nat.le_of_ble_eq_true rfl) (by decide) ((ct_isOthers (x)).weaken (fun r h' q => (⟨by rw [q.1, hx]; rfl, q.2⟩ : r = some (.int 1) ∧ h' = (hi, hl, RT)))) ?_
  rintro _ _ ⟨rfl, rfl⟩
  refine g_ifeq 27 dX9_waiting_4 (by decide) (fun c => absurd c (by decide)) (fun _ => ?_)
  refine g_iload_n dX9_waiting_7 rfl ?_
  refine g_iconst (v := 0) dX9_waiting_8 (by decide) ?_
  refine g_iload_n dX9_waiting_9 rfl ?_
  refine g_iconst (v := 1) dX9_waiting_10 (by decide) ?_
  refine g_isub dX9_waiting_11 ?_
  refine g_callS3 (M' := mX9_isWithin) (mc' := 0) (ms' := 0) dX9_waiting_12 l_X9_40 s_mX9_isWithin f_mX9_isWithin (Nat.le_of_ble_eq_true rfl) (by decide) (ct_withinB (t := true) hy) ?_
  rintro _ _ ⟨rfl, rfl⟩
  refine g_ifeq 27 dX9_waiting_15 (by decide) (fun c => absurd c (by decide)) (fun _ => ?_)
  refine g_iload_n dX9_waiting_18 rfl ?_
  refine g_iconst (v := 0) dX9_waiting_19 (by decide) ?_
  refine g_iconst (v := 1) dX9_waiting_20 (by decide) ?_
  refine g_callS3 (M' := mX9_isWithin) (mc' := 0) (ms' := 0) dX9_waiting_21 l_X9_40 s_mX9_isWithin f_mX9_isWithin (Nat.le_of_ble_eq_true rfl) (by decide) (ct_withinB (t := false) hz) ?_
  rintro _ _ ⟨rfl, rfl⟩
  refine g_ifne 30 dX9_waiting_24 (by decide) (fun c => absurd c (by decide)) (fun _ => ?_)
  refine g_bipush (v := -102) dX9_waiting_27 (by decide) ?_
  exact g_ireturn dX9_waiting_29 rfl rfl ⟨rfl, rfl⟩

theorem gdR_ne (a b : Int32) : ¬ gdR a b = 0 := by
  unfold gdR
  split
  · decide
  · assumption

set_option maxRecDepth 100000 in
set_option maxHeartbeats 4000000 in
theorem ct_waiting {O b : Nat} (hO : O ≤ 8) (hO1 : 1 ≤ O) (hb8 : b ≤ 8) (z : Int32) (hx : (!decide (nI O < 2) && !decide (8 < nI O)) = true) (hy : (!decide (nI b < 0) && !decide (nI O - 1 < nI b)) = true) (hz : (!decide (z < 0) && !decide (1 < z)) = true) : MC E l 3 mX9_waiting [.ref 0, .int (nI O), .int (nI b), .int (z)] 83 (hi, hl, RT) 0 0 (fun r h' => r = some (.int ((if z = 0 then pbF O b else nI O * 420) / gdR (pbF O b) (nI O * 420))) ∧ h' = (hi, hl, RT)) := by
  refine MC.of [some (.ref 0), some (.int (nI O)), some (.int (nI b)), some (.int (z)), none, none, none] (by decide) rfl (Nat.le_of_ble_eq_true rfl) ?_
  refine g_iload_n dX9_waiting_0 rfl ?_
  refine g_callS1 (M' := mX8_isOthers) (mc' := 0) (ms' := 0) dX9_waiting_1 l_X9_196 s_mX8_isOthers f_mX8_isOthers (Nat.le_of_ble_eq_true rfl) (by decide) ((ct_isOthers (nI O)).weaken (fun r h' q => (⟨by rw [q.1, hx]; rfl, q.2⟩ : r = some (.int 1) ∧ h' = (hi, hl, RT)))) ?_
  rintro _ _ ⟨rfl, rfl⟩
  refine g_ifeq 27 dX9_waiting_4 (by decide) (fun c => absurd c (by decide)) (fun _ => ?_)
  refine g_iload_n dX9_waiting_7 rfl ?_
  refine g_iconst (v := 0) dX9_waiting_8 (by decide) ?_
  refine g_iload_n dX9_waiting_9 rfl ?_
  refine g_iconst (v := 1) dX9_waiting_10 (by decide) ?_
  refine g_isub dX9_waiting_11 ?_
  refine g_callS3 (M' := mX9_isWithin) (mc' := 0) (ms' := 0) dX9_waiting_12 l_X9_40 s_mX9_isWithin f_mX9_isWithin (Nat.le_of_ble_eq_true rfl) (by decide) (ct_withinB (t := true) hy) ?_
  rintro _ _ ⟨rfl, rfl⟩
  refine g_ifeq 27 dX9_waiting_15 (by decide) (fun c => absurd c (by decide)) (fun _ => ?_)
  refine g_iload_n dX9_waiting_18 rfl ?_
  refine g_iconst (v := 0) dX9_waiting_19 (by decide) ?_
  refine g_iconst (v := 1) dX9_waiting_20 (by decide) ?_
  refine g_callS3 (M' := mX9_isWithin) (mc' := 0) (ms' := 0) dX9_waiting_21 l_X9_40 s_mX9_isWithin f_mX9_isWithin (Nat.le_of_ble_eq_true rfl) (by decide) (ct_withinB (t := true) hz) ?_
  rintro _ _ ⟨rfl, rfl⟩
  refine g_ifne 30 dX9_waiting_24 (by decide) (fun _ => ?_) (fun c => absurd c (by decide))
  refine g_iload_n dX9_waiting_30 rfl ?_
  refine g_iload_n dX9_waiting_31 rfl ?_
  refine g_callS2 (M' := mX8_partsOfBest) (mc' := 0) (ms' := 0) dX9_waiting_32 l_X9_201 s_mX8_partsOfBest f_mX8_partsOfBest (Nat.le_of_ble_eq_true rfl) (by decide) (ct_partsOfBest hO hO1 hb8) ?_
  rintro _ _ ⟨rfl, rfl⟩
  refine g_istore dX9_waiting_35 (by decide) rfl rfl ?_
  refine g_iload_n dX9_waiting_37 rfl ?_
  refine g_callS1 (M' := mX8_partsOfAll) (mc' := 0) (ms' := 0) dX9_waiting_38 l_X9_205 s_mX8_partsOfAll f_mX8_partsOfAll (Nat.le_of_ble_eq_true rfl) (by decide) (ct_partsOfAll _) ?_
  rintro _ _ ⟨rfl, rfl⟩
  refine g_istore dX9_waiting_41 (by decide) rfl rfl ?_
  refine g_iload dX9_waiting_43 rfl ?_
  refine g_iload dX9_waiting_45 rfl ?_
  refine g_callS2 (M' := mX8_greatestDivisor) (mc' := 0) (ms' := 0) dX9_waiting_47 l_X9_208 s_mX8_greatestDivisor f_mX8_greatestDivisor (Nat.le_of_ble_eq_true rfl) (by decide) (ct_greatestDivisor _ _) ?_
  rintro _ _ ⟨rfl, rfl⟩
  refine g_istore dX9_waiting_50 (by decide) rfl rfl ?_
  refine g_iload_n dX9_waiting_52 rfl ?_
  refine g_ifne 61 dX9_waiting_53 (by decide) (fun c53 => ?_) (fun c53 => ?_)
  · skip
    refine g_iload dX9_waiting_61 rfl ?_
    refine g_iload dX9_waiting_63 rfl ?_
    refine g_idiv dX9_waiting_65 (gdR_ne _ _) ?_
    exact g_ireturn dX9_waiting_66 rfl rfl ⟨by rw [if_neg c53], rfl⟩
  · skip
    refine g_iload dX9_waiting_56 rfl ?_
    refine g_goto 63 dX9_waiting_58 (by decide) ?_
    refine g_iload dX9_waiting_63 rfl ?_
    refine g_idiv dX9_waiting_65 (gdR_ne _ _) ?_
    exact g_ireturn dX9_waiting_66 rfl rfl ⟨by rw [if_pos c53], rfl⟩

end
