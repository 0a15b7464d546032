section
variable {E : XE} {l : Launch} {hi : Nat → Nat → Int32} {hl : Nat → Nat → Int64}

theorem add_as (a b c : Int32) : a + b + c = a + (b + c) := Int32.add_assoc a b c
set_option maxRecDepth 100000 in
set_option maxHeartbeats 4000000 in
theorem lp_mutIn {N F : Nat} (hj : MO7 hi N F) {p : Nat} (hp : p < F) {s : Int32} (hk : ∀ l3, xcat2 l3 = false → G E l 6 mX10_mutualNow 48 [some (.ref 53), some (.int (s + cntB (fun e => vMay (vm hi N F) p (F + e)) (N - F))), some (.int (nI p)), l3] [] 83 (hi, hl, RT) 0 0 (fun r h' => r = some (.int (sumI (fun p => cntB (fun e => vMay (vm hi N F) p (F + e)) (N - F)) F)) ∧ h' = (hi, hl, RT))) : ∀ (n e : Nat), e + n = N - F → G E l 6 mX10_mutualNow 17 [some (.ref 53), some (.int (s + cntB (fun e => vMay (vm hi N F) p (F + e)) e)), some (.int (nI p)), some (.int (nI (F + e)))] [] 83 (hi, hl, RT) 0 0 (fun r h' => r = some (.int (sumI (fun p => cntB (fun e => vMay (vm hi N F) p (F + e)) (N - F)) F)) ∧ h' = (hi, hl, RT)) := by
  have hj0 := hj
  obtain ⟨hN8, hFN, hN, hF⟩ := hj
  intro n
  induction n with
  | zero =>
    intro e hen
    have heN : e = N - F := by omega
    refine g_iload_n dX10_mutualNow_17 rfl ?_
    refine g_aload_n dX10_mutualNow_18 rfl ?_
    refine g_geti dX10_mutualNow_19 k_X10_140 rfl (by decide) rfl ?_
    refine g_icmpge 48 dX10_mutualNow_22 (by decide) (fun c22 => ?_) (fun c22 => ?_)
    · skip
      rw [heN]
      exact hk _ rfl
    · skip
      exact absurd (by show hi 53 2 ≤ nI (F + e); rw [hN]; exact nI_le (by omega) (by omega)) c22
  | succ n ih =>
    intro e hen
    have heN : F + e < N := by omega
    refine g_iload_n dX10_mutualNow_17 rfl ?_
    refine g_aload_n dX10_mutualNow_18 rfl ?_
    refine g_geti dX10_mutualNow_19 k_X10_140 rfl (by decide) rfl ?_
    refine g_icmpge 48 dX10_mutualNow_22 (by decide) (fun c22 => ?_) (fun c22 => ?_)
    · skip
      exact absurd (ge_out hN c22 (by omega) (by omega)) (by omega)
    · skip
      refine g_iload_n dX10_mutualNow_25 rfl ?_
      refine g_aload_n dX10_mutualNow_26 rfl ?_
      refine g_iload_n dX10_mutualNow_27 rfl ?_
      refine g_iload_n dX10_mutualNow_28 rfl ?_
      refine g_callV2 (M' := mX10_mayBe) (mc' := 0) (ms' := 0) dX10_mutualNow_29 l_X10_230 s_mX10_mayBe (by decide) rfl rfl f_mX10_mayBe (Nat.le_of_ble_eq_true rfl) (by decide) (ct_mayBe hj0 (by omega) heN) ?_
      rintro _ _ ⟨rfl, rfl⟩
      refine g_ifeq 39 dX10_mutualNow_32 (by decide) (fun c32 => ?_) (fun c32 => ?_)
      · skip
        refine g_iconst (v := 0) dX10_mutualNow_39 (by decide) ?_
        refine g_iadd dX10_mutualNow_40 ?_
        refine g_istore_n dX10_mutualNow_41 (by decide) rfl rfl ?_
        refine g_iinc dX10_mutualNow_42 rfl (nI_inc (F + e)) (by decide) rfl rfl ?_
        refine g_goto 17 dX10_mutualNow_45 (by decide) ?_
        have hz : cntB (fun e => vMay (vm hi N F) p (F + e)) (e + 1) = cntB (fun e => vMay (vm hi N F) p (F + e)) e + 0 := by rw [cntB]; simp [bI_0.mp c32, bI]
        rw [show s + cntB (fun e => vMay (vm hi N F) p (F + e)) e + 0 = s + cntB (fun e => vMay (vm hi N F) p (F + e)) (e + 1) from by rw [hz, add_as]]
        exact ih (e + 1) (by omega)
      · skip
        refine g_iconst (v := 1) dX10_mutualNow_35 (by decide) ?_
        refine g_goto 40 dX10_mutualNow_36 (by decide) ?_
        refine g_iadd dX10_mutualNow_40 ?_
        refine g_istore_n dX10_mutualNow_41 (by decide) rfl rfl ?_
        refine g_iinc dX10_mutualNow_42 rfl (nI_inc (F + e)) (by decide) rfl rfl ?_
        refine g_goto 17 dX10_mutualNow_45 (by decide) ?_
        have hz : cntB (fun e => vMay (vm hi N F) p (F + e)) (e + 1) = cntB (fun e => vMay (vm hi N F) p (F + e)) e + 1 := by rw [cntB]; simp [bI_n.mp c32, bI]
        rw [show s + cntB (fun e => vMay (vm hi N F) p (F + e)) e + 1 = s + cntB (fun e => vMay (vm hi N F) p (F + e)) (e + 1) from by rw [hz, add_as]]
        exact ih (e + 1) (by omega)

set_option maxRecDepth 100000 in
set_option maxHeartbeats 4000000 in
theorem lp_mut {N F : Nat} (hj : MO7 hi N F) : ∀ (n p : Nat) (l3 : Option Value), p + n = F → xcat2 l3 = false → G E l 6 mX10_mutualNow 4 [some (.ref 53), some (.int (sumI (fun p => cntB (fun e => vMay (vm hi N F) p (F + e)) (N - F)) p)), some (.int (nI p)), l3] [] 83 (hi, hl, RT) 0 0 (fun r h' => r = some (.int (sumI (fun p => cntB (fun e => vMay (vm hi N F) p (F + e)) (N - F)) F)) ∧ h' = (hi, hl, RT)) := by
  have hj0 := hj
  obtain ⟨hN8, hFN, hN, hF⟩ := hj
  intro n
  induction n with
  | zero =>
    intro p l3 hpn hx
    have hpF : p = F := by omega
    refine g_iload_n dX10_mutualNow_4 rfl ?_
    refine g_aload_n dX10_mutualNow_5 rfl ?_
    refine g_geti dX10_mutualNow_6 k_X10_137 rfl (by decide) rfl ?_
    refine g_icmpge 54 dX10_mutualNow_9 (by decide) (fun c9 => ?_) (fun c9 => ?_)
    · skip
      refine g_iload_n dX10_mutualNow_54 rfl ?_
      exact g_ireturn dX10_mutualNow_55 rfl rfl ⟨by rw [hpF], rfl⟩
    · skip
      exact absurd (by show hi 53 1 ≤ nI p; rw [hF]; exact nI_le (by omega) (by omega)) c9
  | succ n ih =>
    intro p l3 hpn hx
    have hpF : p < F := by omega
    refine g_iload_n dX10_mutualNow_4 rfl ?_
    refine g_aload_n dX10_mutualNow_5 rfl ?_
    refine g_geti dX10_mutualNow_6 k_X10_137 rfl (by decide) rfl ?_
    refine g_icmpge 54 dX10_mutualNow_9 (by decide) (fun c9 => ?_) (fun c9 => ?_)
    · skip
      exact absurd (ge_out hF c9 (by omega) (by omega)) (by omega)
    · skip
      refine g_aload_n dX10_mutualNow_12 rfl ?_
      refine g_geti dX10_mutualNow_13 k_X10_137 rfl (by decide) rfl ?_
      rw [show (hi, hl, RT).1 53 1 = nI F from hF]
      refine g_istore_n dX10_mutualNow_16 (by decide) rfl rfl ?_
      have hh := lp_mutIn (E := E) (l := l) (hl := hl) hj0 hpF (s := sumI (fun p => cntB (fun e => vMay (vm hi N F) p (F + e)) (N - F)) p) (fun l2 hx2 => ?_) (N - F) 0 (by omega)
      · rw [show sumI (fun p => cntB (fun e => vMay (vm hi N F) p (F + e)) (N - F)) p + cntB (fun e => vMay (vm hi N F) p (F + e)) 0 = sumI (fun p => cntB (fun e => vMay (vm hi N F) p (F + e)) (N - F)) p from Int32.add_zero _] at hh
        exact hh
      · skip
        refine g_iinc dX10_mutualNow_48 rfl (nI_inc p) (by decide) rfl rfl ?_
        refine g_goto 4 dX10_mutualNow_51 (by decide) ?_
        exact ih (p + 1) _ (by omega) hx2

set_option maxRecDepth 100000 in
set_option maxHeartbeats 4000000 in
theorem ct_mutualNow {N F : Nat} (hj : MO7 hi N F) : MC E l 6 mX10_mutualNow [.ref 53] 83 (hi, hl, RT) 0 0 (fun r h' => r = some (.int (sumI (fun p => cntB (fun e => vMay (vm hi N F) p (F + e)) (N - F)) F)) ∧ h' = (hi, hl, RT)) := by
  refine MC.of [some (.ref 53), none, none, none] (by decide) rfl (Nat.le_of_ble_eq_true rfl) ?_
  refine g_iconst (v := 0) dX10_mutualNow_0 (by decide) ?_
  refine g_istore_n dX10_mutualNow_1 (by decide) rfl rfl ?_
  refine g_iconst (v := 0) dX10_mutualNow_2 (by decide) ?_
  refine g_istore_n dX10_mutualNow_3 (by decide) rfl rfl ?_
  exact lp_mut hj F 0 none (by omega) rfl

set_option maxRecDepth 100000 in
set_option maxHeartbeats 4000000 in
theorem ct_mmutualE (hE : hi 53 2 = 0) : MC E l 7 mX10_mutual [.ref 53] 83 (hi, hl, RT) 0 0 (fun r h' => r = some (.int (-103)) ∧ h' = (hi, hl, RT)) := by
  refine MC.of [some (.ref 53)] (by decide) rfl (Nat.le_of_ble_eq_true rfl) ?_
  refine g_aload_n dX10_mutual_0 rfl ?_
  refine g_geti dX10_mutual_1 k_X10_140 rfl (by decide) rfl ?_
  refine g_ifne 12 dX10_mutual_4 (by decide) (fun c4 => ?_) (fun c4 => ?_)
  · skip
    exact absurd hE c4
  · skip
    refine g_bipush (v := -103) dX10_mutual_7 (by decide) ?_
    refine g_goto 16 dX10_mutual_9 (by decide) ?_
    exact g_ireturn dX10_mutual_16 rfl rfl ⟨rfl, rfl⟩

set_option maxRecDepth 100000 in
set_option maxHeartbeats 4000000 in
theorem ct_mmutual {N F : Nat} (hj : MO7 hi N F) (hE : 0 < N) : MC E l 7 mX10_mutual [.ref 53] 83 (hi, hl, RT) 0 0 (fun r h' => r = some (.int (sumI (fun p => cntB (fun e => vMay (vm hi N F) p (F + e)) (N - F)) F)) ∧ h' = (hi, hl, RT)) := by
  refine MC.of [some (.ref 53)] (by decide) rfl (Nat.le_of_ble_eq_true rfl) ?_
  refine g_aload_n dX10_mutual_0 rfl ?_
  refine g_geti dX10_mutual_1 k_X10_140 rfl (by decide) rfl ?_
  refine g_ifne 12 dX10_mutual_4 (by decide) (fun c4 => ?_) (fun c4 => ?_)
  · skip
    refine g_aload_n dX10_mutual_12 rfl ?_
    refine g_callV0 (M' := mX10_mutualNow) (mc' := 0) (ms' := 0) dX10_mutual_13 l_X10_264 s_mX10_mutualNow (by decide) rfl rfl f_mX10_mutualNow (Nat.le_of_ble_eq_true rfl) (by decide) (ct_mutualNow hj) ?_
    rintro _ _ ⟨rfl, rfl⟩
    exact g_ireturn dX10_mutual_16 rfl rfl ⟨rfl, rfl⟩
  · skip
    exact absurd (hj.2.2.1.symm.trans c4) (nI_ne0 hE (by have := hj.1; omega))

set_option maxRecDepth 100000 in
set_option maxHeartbeats 4000000 in
theorem ct_mseeX1 {N F : Nat} (hj : MO7 hi N F) (x y b : Int32) (hx : noP x N) : MC E l 4 mX10_see [.ref 53, .int x, .int y, .int b] 83 (hi, hl, RT) 0 0 (fun r h' => r = some (.int (-101)) ∧ h' = (hi, hl, RT)) := by
  refine MC.of [some (.ref 53), some (.int x), some (.int y), some (.int b)] (by decide) rfl (Nat.le_of_ble_eq_true rfl) ?_
  refine g_aload_n dX10_see_0 rfl ?_
  refine g_iload_n dX10_see_1 rfl ?_
  refine g_iload_n dX10_see_2 rfl ?_
  refine g_callV2 (M' := mX10_areTwo) (mc' := 0) (ms' := 0) dX10_see_3 l_X10_208 s_mX10_areTwo (by decide) rfl rfl f_mX10_areTwo (Nat.le_of_ble_eq_true rfl) (by decide) (ct_areTwoN1 hj hx _) ?_
  rintro _ _ ⟨rfl, rfl⟩
  refine g_ifne 12 dX10_see_6 (by decide) (fun c => absurd c (by decide)) (fun _ => ?_)
  refine g_bipush (v := -101) dX10_see_9 (by decide) ?_
  exact g_ireturn dX10_see_11 rfl rfl ⟨rfl, rfl⟩

set_option maxRecDepth 100000 in
set_option maxHeartbeats 4000000 in
theorem ct_mseeX2 {N F : Nat} (hj : MO7 hi N F) {i : Nat} (hi1 : i < N) (x b : Int32) (hx : noP x N) : MC E l 4 mX10_see [.ref 53, .int (nI i), .int x, .int b] 83 (hi, hl, RT) 0 0 (fun r h' => r = some (.int (-101)) ∧ h' = (hi, hl, RT)) := by
  refine MC.of [some (.ref 53), some (.int (nI i)), some (.int x), some (.int b)] (by decide) rfl (Nat.le_of_ble_eq_true rfl) ?_
  refine g_aload_n dX10_see_0 rfl ?_
  refine g_iload_n dX10_see_1 rfl ?_
  refine g_iload_n dX10_see_2 rfl ?_
  refine g_callV2 (M' := mX10_areTwo) (mc' := 0) (ms' := 0) dX10_see_3 l_X10_208 s_mX10_areTwo (by decide) rfl rfl f_mX10_areTwo (Nat.le_of_ble_eq_true rfl) (by decide) (ct_areTwoN2 hj hi1 hx) ?_
  rintro _ _ ⟨rfl, rfl⟩
  refine g_ifne 12 dX10_see_6 (by decide) (fun c => absurd c (by decide)) (fun _ => ?_)
  refine g_bipush (v := -101) dX10_see_9 (by decide) ?_
  exact g_ireturn dX10_see_11 rfl rfl ⟨rfl, rfl⟩

set_option maxRecDepth 100000 in
set_option maxHeartbeats 4000000 in
theorem ct_mseeS {N F : Nat} (hj : MO7 hi N F) {i j : Nat} (hi1 : i < N) (hj1 : j < N) (b : Int32) (hsd : vm hi N F 3 i = vm hi N F 3 j) : MC E l 4 mX10_see [.ref 53, .int (nI i), .int (nI j), .int b] 83 (hi, hl, RT) 0 0 (fun r h' => r = some (.int (-103)) ∧ h' = (hi, hl, RT)) := by
  refine MC.of [some (.ref 53), some (.int (nI i)), some (.int (nI j)), some (.int b)] (by decide) rfl (Nat.le_of_ble_eq_true rfl) ?_
  refine g_aload_n dX10_see_0 rfl ?_
  refine g_iload_n dX10_see_1 rfl ?_
  refine g_iload_n dX10_see_2 rfl ?_
  refine g_callV2 (M' := mX10_areTwo) (mc' := 0) (ms' := 0) dX10_see_3 l_X10_208 s_mX10_areTwo (by decide) rfl rfl f_mX10_areTwo (Nat.le_of_ble_eq_true rfl) (by decide) (ct_areTwoY hj hi1 hj1) ?_
  rintro _ _ ⟨rfl, rfl⟩
  refine g_ifne 12 dX10_see_6 (by decide) (fun _ => ?_) (fun c => absurd c (by decide))
  refine g_aload_n dX10_see_12 rfl ?_
  refine g_iload_n dX10_see_13 rfl ?_
  refine g_iload_n dX10_see_14 rfl ?_
  refine g_callV2 (M' := mX10_areOther) (mc' := 0) (ms' := 0) dX10_see_15 l_X10_174 s_mX10_areOther (by decide) rfl rfl f_mX10_areOther (Nat.le_of_ble_eq_true rfl) (by decide) ((ct_areOther hj hi1 hj1).weaken (fun r h' q => (⟨by rw [q.1, decide_eq_true hsd]; rfl, q.2⟩ : r = some (.int 0) ∧ h' = (hi, hl, RT)))) ?_
  rintro _ _ ⟨rfl, rfl⟩
  refine g_ifne 24 dX10_see_18 (by decide) (fun c => absurd c (by decide)) (fun _ => ?_)
  refine g_bipush (v := -103) dX10_see_21 (by decide) ?_
  exact g_ireturn dX10_see_23 rfl rfl ⟨rfl, rfl⟩

set_option maxRecDepth 100000 in
set_option maxHeartbeats 4000000 in
theorem ct_mseeF {N F : Nat} (hj : MO7 hi N F) {i j : Nat} (hi1 : i < N) (hj1 : j < N) (b : Int32) (hsd : ¬ vm hi N F 3 i = vm hi N F 3 j) (hS : hi 53 18 = 8) : MC E l 4 mX10_see [.ref 53, .int (nI i), .int (nI j), .int b] 83 (hi, hl, RT) 0 0 (fun r h' => r = some (.int (-104)) ∧ h' = (hi, hl, RT)) := by
  refine MC.of [some (.ref 53), some (.int (nI i)), some (.int (nI j)), some (.int b)] (by decide) rfl (Nat.le_of_ble_eq_true rfl) ?_
  refine g_aload_n dX10_see_0 rfl ?_
  refine g_iload_n dX10_see_1 rfl ?_
  refine g_iload_n dX10_see_2 rfl ?_
  refine g_callV2 (M' := mX10_areTwo) (mc' := 0) (ms' := 0) dX10_see_3 l_X10_208 s_mX10_areTwo (by decide) rfl rfl f_mX10_areTwo (Nat.le_of_ble_eq_true rfl) (by decide) (ct_areTwoY hj hi1 hj1) ?_
  rintro _ _ ⟨rfl, rfl⟩
  refine g_ifne 12 dX10_see_6 (by decide) (fun _ => ?_) (fun c => absurd c (by decide))
  refine g_aload_n dX10_see_12 rfl ?_
  refine g_iload_n dX10_see_13 rfl ?_
  refine g_iload_n dX10_see_14 rfl ?_
  refine g_callV2 (M' := mX10_areOther) (mc' := 0) (ms' := 0) dX10_see_15 l_X10_174 s_mX10_areOther (by decide) rfl rfl f_mX10_areOther (Nat.le_of_ble_eq_true rfl) (by decide) ((ct_areOther hj hi1 hj1).weaken (fun r h' q => (⟨by rw [q.1, decide_eq_false hsd]; rfl, q.2⟩ : r = some (.int 1) ∧ h' = (hi, hl, RT)))) ?_
  rintro _ _ ⟨rfl, rfl⟩
  refine g_ifne 24 dX10_see_18 (by decide) (fun _ => ?_) (fun c => absurd c (by decide))
  refine g_aload_n dX10_see_24 rfl ?_
  refine g_geti dX10_see_25 k_X10_164 rfl (by decide) rfl ?_
  refine g_bipush (v := 8) dX10_see_28 (by decide) ?_
  refine g_icmpne 36 dX10_see_30 (by decide) (fun c30 => ?_) (fun c30 => ?_)
  · skip
    exact absurd hS c30
  · skip
    refine g_bipush (v := -104) dX10_see_33 (by decide) ?_
    exact g_ireturn dX10_see_35 rfl rfl ⟨rfl, rfl⟩

set_option maxRecDepth 100000 in
set_option maxHeartbeats 4000000 in
theorem ct_msee {N F : Nat} (hj : MO7 hi N F) {i j : Nat} (hi1 : i < N) (hj1 : j < N) (b : Int32) (hsd : ¬ vm hi N F 3 i = vm hi N F 3 j) {S : Nat} (hS8 : S < 8) (hS : hi 53 18 = nI S) : MC E l 4 mX10_see [.ref 53, .int (nI i), .int (nI j), .int b] 83 (hi, hl, RT) 0 0 (fun r h' => r = some (.int (nI (S + 1))) ∧ h' = (upI (upI (upI (upI hi 63 S (nI i)) 64 S (nI j)) 65 S (if b = 0 then 0 else 1)) 53 18 (nI (S + 1)), hl, RT)) := by
  refine MC.of [some (.ref 53), some (.int (nI i)), some (.int (nI j)), some (.int b)] (by decide) rfl (Nat.le_of_ble_eq_true rfl) ?_
  have ecS : (nI S).toNatClampNeg = S := nI_clamp (by omega)
  refine g_aload_n dX10_see_0 rfl ?_
  refine g_iload_n dX10_see_1 rfl ?_
  refine g_iload_n dX10_see_2 rfl ?_
  refine g_callV2 (M' := mX10_areTwo) (mc' := 0) (ms' := 0) dX10_see_3 l_X10_208 s_mX10_areTwo (by decide) rfl rfl f_mX10_areTwo (Nat.le_of_ble_eq_true rfl) (by decide) (ct_areTwoY hj hi1 hj1) ?_
  rintro _ _ ⟨rfl, rfl⟩
  refine g_ifne 12 dX10_see_6 (by decide) (fun _ => ?_) (fun c => absurd c (by decide))
  refine g_aload_n dX10_see_12 rfl ?_
  refine g_iload_n dX10_see_13 rfl ?_
  refine g_iload_n dX10_see_14 rfl ?_
  refine g_callV2 (M' := mX10_areOther) (mc' := 0) (ms' := 0) dX10_see_15 l_X10_174 s_mX10_areOther (by decide) rfl rfl f_mX10_areOther (Nat.le_of_ble_eq_true rfl) (by decide) ((ct_areOther hj hi1 hj1).weaken (fun r h' q => (⟨by rw [q.1, decide_eq_false hsd]; rfl, q.2⟩ : r = some (.int 1) ∧ h' = (hi, hl, RT)))) ?_
  rintro _ _ ⟨rfl, rfl⟩
  refine g_ifne 24 dX10_see_18 (by decide) (fun _ => ?_) (fun c => absurd c (by decide))
  refine g_aload_n dX10_see_24 rfl ?_
  refine g_geti dX10_see_25 k_X10_164 rfl (by decide) rfl ?_
  refine g_bipush (v := 8) dX10_see_28 (by decide) ?_
  refine g_icmpne 36 dX10_see_30 (by decide) (fun c30 => ?_) (fun c30 => ?_)
  · skip
    refine g_aload_n dX10_see_36 rfl ?_
    refine g_getr dX10_see_37 k_X10_37 rfl (by decide) rfl rfl ?_
    refine g_aload_n dX10_see_40 rfl ?_
    refine g_geti dX10_see_41 k_X10_164 rfl (by decide) rfl ?_
    rw [show (hi, hl, RT).1 53 18 = nI S from hS]
    refine g_iload_n dX10_see_44 rfl ?_
    refine g_iast dX10_see_45 (by decide) rfl (vp_in_nI (by omega) (by decide)) ?_
    refine g_aload_n dX10_see_46 rfl ?_
    refine g_getr dX10_see_47 k_X10_40 rfl (by decide) rfl rfl ?_
    refine g_aload_n dX10_see_50 rfl ?_
    refine g_geti dX10_see_51 k_X10_164 rfl (by decide) rfl ?_
    dsimp only
    rw [show upI hi 63 (nI S).toNatClampNeg (nI i) 53 18 = nI S from (upI_a (by decide)).trans hS]
    refine g_iload_n dX10_see_54 rfl ?_
    refine g_iast dX10_see_55 (by decide) rfl (vp_in_nI (by omega) (by decide)) ?_
    refine g_aload_n dX10_see_56 rfl ?_
    refine g_getr dX10_see_57 k_X10_43 rfl (by decide) rfl rfl ?_
    refine g_aload_n dX10_see_60 rfl ?_
    refine g_geti dX10_see_61 k_X10_164 rfl (by decide) rfl ?_
    dsimp only
    rw [show upI (upI hi 63 (nI S).toNatClampNeg (nI i)) 64 (nI S).toNatClampNeg (nI j) 53 18 = nI S from (upI_a (by decide)).trans ((upI_a (by decide)).trans hS)]
    refine g_iload_n dX10_see_64 rfl ?_
    refine g_ifeq 72 dX10_see_65 (by decide) (fun c65 => ?_) (fun c65 => ?_)
    · skip
      refine g_iconst (v := 0) dX10_see_72 (by decide) ?_
      refine g_iast dX10_see_73 (by decide) rfl (vp_in_nI (by omega) (by decide)) ?_
      refine g_aload_n dX10_see_74 rfl ?_
      refine g_dup dX10_see_75 rfl ?_
      refine g_geti dX10_see_76 k_X10_164 rfl (by decide) rfl ?_
      refine g_iconst (v := 1) dX10_see_79 (by decide) ?_
      refine g_iadd dX10_see_80 ?_
      refine g_puti dX10_see_81 k_X10_164 rfl (by decide) rfl rfl rfl ?_
      refine g_aload_n dX10_see_84 rfl ?_
      refine g_geti dX10_see_85 k_X10_164 rfl (by decide) rfl ?_
      exact g_ireturn dX10_see_88 rfl rfl ⟨by
        show some (Value.int (upI (upI (upI (upI hi 63 (nI S).toNatClampNeg (nI i)) 64 (nI S).toNatClampNeg (nI j)) 65 (nI S).toNatClampNeg 0) 53 18 ((upI (upI (upI hi 63 (nI S).toNatClampNeg (nI i)) 64 (nI S).toNatClampNeg (nI j)) 65 (nI S).toNatClampNeg 0) 53 18 + 1) 53 18)) = _
        rw [upI_s, upI_a (by decide), upI_a (by decide), upI_a (by decide), hS, nI_inc1], by
        show (upI (upI (upI (upI hi 63 (nI S).toNatClampNeg (nI i)) 64 (nI S).toNatClampNeg (nI j)) 65 (nI S).toNatClampNeg 0) 53 18 ((upI (upI (upI hi 63 (nI S).toNatClampNeg (nI i)) 64 (nI S).toNatClampNeg (nI j)) 65 (nI S).toNatClampNeg 0) 53 18 + 1), hl, RT) = _
        rw [upI_a (by decide), upI_a (by decide), upI_a (by decide), hS, nI_inc1, ecS, if_pos c65]⟩
    · skip
      refine g_iconst (v := 1) dX10_see_68 (by decide) ?_
      refine g_goto 73 dX10_see_69 (by decide) ?_
      refine g_iast dX10_see_73 (by decide) rfl (vp_in_nI (by omega) (by decide)) ?_
      refine g_aload_n dX10_see_74 rfl ?_
      refine g_dup dX10_see_75 rfl ?_
      refine g_geti dX10_see_76 k_X10_164 rfl (by decide) rfl ?_
      refine g_iconst (v := 1) dX10_see_79 (by decide) ?_
      refine g_iadd dX10_see_80 ?_
      refine g_puti dX10_see_81 k_X10_164 rfl (by decide) rfl rfl rfl ?_
      refine g_aload_n dX10_see_84 rfl ?_
      refine g_geti dX10_see_85 k_X10_164 rfl (by decide) rfl ?_
      exact g_ireturn dX10_see_88 rfl rfl ⟨by
        show some (Value.int (upI (upI (upI (upI hi 63 (nI S).toNatClampNeg (nI i)) 64 (nI S).toNatClampNeg (nI j)) 65 (nI S).toNatClampNeg 1) 53 18 ((upI (upI (upI hi 63 (nI S).toNatClampNeg (nI i)) 64 (nI S).toNatClampNeg (nI j)) 65 (nI S).toNatClampNeg 1) 53 18 + 1) 53 18)) = _
        rw [upI_s, upI_a (by decide), upI_a (by decide), upI_a (by decide), hS, nI_inc1], by
        show (upI (upI (upI (upI hi 63 (nI S).toNatClampNeg (nI i)) 64 (nI S).toNatClampNeg (nI j)) 65 (nI S).toNatClampNeg 1) 53 18 ((upI (upI (upI hi 63 (nI S).toNatClampNeg (nI i)) 64 (nI S).toNatClampNeg (nI j)) 65 (nI S).toNatClampNeg 1) 53 18 + 1), hl, RT) = _
        rw [upI_a (by decide), upI_a (by decide), upI_a (by decide), hS, nI_inc1, ecS, if_neg c65]⟩
  · skip
    exact absurd (hS.symm.trans c30) (fun q => absurd ((nI_eq (b := 8) (by omega) (by decide)).mp q) (by omega))

set_option maxRecDepth 100000 in
set_option maxHeartbeats 4000000 in
theorem ct_mforget  : MC E l 2 mX10_forget [.ref 53] 83 (hi, hl, RT) 0 0 (fun r h' => r = some (.int (hi 53 18)) ∧ h' = (upI hi 53 18 0, hl, RT)) := by
  refine MC.of [some (.ref 53), none] (by decide) rfl (Nat.le_of_ble_eq_true rfl) ?_
  refine g_aload_n dX10_forget_0 rfl ?_
  refine g_geti dX10_forget_1 k_X10_164 rfl (by decide) rfl ?_
  refine g_istore_n dX10_forget_4 (by decide) rfl rfl ?_
  refine g_aload_n dX10_forget_5 rfl ?_
  refine g_iconst (v := 0) dX10_forget_6 (by decide) ?_
  refine g_puti dX10_forget_7 k_X10_164 rfl (by decide) rfl rfl rfl ?_
  refine g_iload_n dX10_forget_10 rfl ?_
  exact g_ireturn dX10_forget_11 rfl rfl ⟨rfl, rfl⟩

def imF (hi : Nat → Nat → Int32) (i : Nat) : Nat → Nat → Int32 := fun a k => if (73 ≤ a ∧ a ≤ 82) ∧ k < i then hi (a - 17) k else hi a k
theorem imF_0 (hi : Nat → Nat → Int32) : imF hi 0 = hi := by
  funext a k
  exact if_neg (by omega)
theorem imF_off {hi : Nat → Nat → Int32} {i a : Nat} (h : a < 73 ∨ 82 < a) (k : Nat) : imF hi i a k = hi a k := if_neg (by omega)
theorem imF_at {hi : Nat → Nat → Int32} {i a : Nat} (h : a < 73 ∨ 82 < a) : imF hi i a i = hi a i := if_neg (by omega)
theorem imF_step (hi : Nat → Nat → Int32) (i : Nat) : upI (upI (upI (upI (upI (upI (upI (upI (upI (upI (imF hi i) 73 i (hi 56 i)) 74 i (hi 57 i)) 75 i (hi 58 i)) 76 i (hi 59 i)) 77 i (hi 60 i)) 78 i (hi 61 i)) 79 i (hi 62 i)) 80 i (hi 63 i)) 81 i (hi 64 i)) 82 i (hi 65 i) = imF hi (i + 1) := by
  funext a k
  by_cases hk : k = i
  · subst hk
    by_cases ha : 73 ≤ a ∧ a ≤ 82
    · have e : imF hi (k + 1) a k = hi (a - 17) k := if_pos ⟨ha, Nat.lt_succ_self k⟩
      rw [e]
      have : a = 73 ∨ a = 74 ∨ a = 75 ∨ a = 76 ∨ a = 77 ∨ a = 78 ∨ a = 79 ∨ a = 80 ∨ a = 81 ∨ a = 82 := by omega
      rcases this with rfl | rfl | rfl | rfl | rfl | rfl | rfl | rfl | rfl | rfl
      · rw [upI_a (by decide), upI_a (by decide), upI_a (by decide), upI_a (by decide), upI_a (by decide), upI_a (by decide), upI_a (by decide), upI_a (by decide), upI_a (by decide), upI_s]
      · rw [upI_a (by decide), upI_a (by decide), upI_a (by decide), upI_a (by decide), upI_a (by decide), upI_a (by decide), upI_a (by decide), upI_a (by decide), upI_s]
      · rw [upI_a (by decide), upI_a (by decide), upI_a (by decide), upI_a (by decide), upI_a (by decide), upI_a (by decide), upI_a (by decide), upI_s]
      · rw [upI_a (by decide), upI_a (by decide), upI_a (by decide), upI_a (by decide), upI_a (by decide), upI_a (by decide), upI_s]
      · rw [upI_a (by decide), upI_a (by decide), upI_a (by decide), upI_a (by decide), upI_a (by decide), upI_s]
      · rw [upI_a (by decide), upI_a (by decide), upI_a (by decide), upI_a (by decide), upI_s]
      · rw [upI_a (by decide), upI_a (by decide), upI_a (by decide), upI_s]
      · rw [upI_a (by decide), upI_a (by decide), upI_s]
      · rw [upI_a (by decide), upI_s]
      · rw [upI_s]
    · have e : imF hi (k + 1) a k = hi a k := if_neg (fun q => ha q.1)
      rw [e, upI_a (by omega), upI_a (by omega), upI_a (by omega), upI_a (by omega), upI_a (by omega), upI_a (by omega), upI_a (by omega), upI_a (by omega), upI_a (by omega), upI_a (by omega)]
      exact if_neg (fun q => ha q.1)
  · have e : imF hi (i + 1) a k = imF hi i a k := by
      unfold imF
      by_cases z : (73 ≤ a ∧ a ≤ 82) ∧ k < i
      · rw [if_pos z, if_pos (by omega)]
      · rw [if_neg z, if_neg (by omega)]
    rw [e, upI_k hk, upI_k hk, upI_k hk, upI_k hk, upI_k hk, upI_k hk, upI_k hk, upI_k hk, upI_k hk, upI_k hk]

def reF (hi : Nat → Nat → Int32) (i : Nat) : Nat → Nat → Int32 := fun a k => if (56 ≤ a ∧ a ≤ 65) ∧ k < i then hi (a + 17) k else hi a k
theorem reF_0 (hi : Nat → Nat → Int32) : reF hi 0 = hi := by
  funext a k
  exact if_neg (by omega)
theorem reF_off {hi : Nat → Nat → Int32} {i a : Nat} (h : a < 56 ∨ 65 < a) (k : Nat) : reF hi i a k = hi a k := if_neg (by omega)
theorem reF_at {hi : Nat → Nat → Int32} {i a : Nat} (h : a < 56 ∨ 65 < a) : reF hi i a i = hi a i := if_neg (by omega)
theorem reF_step (hi : Nat → Nat → Int32) (i : Nat) : upI (upI (upI (upI (upI (upI (upI (upI (upI (upI (reF hi i) 56 i (hi 73 i)) 57 i (hi 74 i)) 58 i (hi 75 i)) 59 i (hi 76 i)) 60 i (hi 77 i)) 61 i (hi 78 i)) 62 i (hi 79 i)) 63 i (hi 80 i)) 64 i (hi 81 i)) 65 i (hi 82 i) = reF hi (i + 1) := by
  funext a k
  by_cases hk : k = i
  · subst hk
    by_cases ha : 56 ≤ a ∧ a ≤ 65
    · have e : reF hi (k + 1) a k = hi (a + 17) k := if_pos ⟨ha, Nat.lt_succ_self k⟩
      rw [e]
      have : a = 56 ∨ a = 57 ∨ a = 58 ∨ a = 59 ∨ a = 60 ∨ a = 61 ∨ a = 62 ∨ a = 63 ∨ a = 64 ∨ a = 65 := by omega
      rcases this with rfl | rfl | rfl | rfl | rfl | rfl | rfl | rfl | rfl | rfl
      · rw [upI_a (by decide), upI_a (by decide), upI_a (by decide), upI_a (by decide), upI_a (by decide), upI_a (by decide), upI_a (by decide), upI_a (by decide), upI_a (by decide), upI_s]
      · rw [upI_a (by decide), upI_a (by decide), upI_a (by decide), upI_a (by decide), upI_a (by decide), upI_a (by decide), upI_a (by decide), upI_a (by decide), upI_s]
      · rw [upI_a (by decide), upI_a (by decide), upI_a (by decide), upI_a (by decide), upI_a (by decide), upI_a (by decide), upI_a (by decide), upI_s]
      · rw [upI_a (by decide), upI_a (by decide), upI_a (by decide), upI_a (by decide), upI_a (by decide), upI_a (by decide), upI_s]
      · rw [upI_a (by decide), upI_a (by decide), upI_a (by decide), upI_a (by decide), upI_a (by decide), upI_s]
      · rw [upI_a (by decide), upI_a (by decide), upI_a (by decide), upI_a (by decide), upI_s]
      · rw [upI_a (by decide), upI_a (by decide), upI_a (by decide), upI_s]
      · rw [upI_a (by decide), upI_a (by decide), upI_s]
      · rw [upI_a (by decide), upI_s]
      · rw [upI_s]
    · have e : reF hi (k + 1) a k = hi a k := if_neg (fun q => ha q.1)
      rw [e, upI_a (by omega), upI_a (by omega), upI_a (by omega), upI_a (by omega), upI_a (by omega), upI_a (by omega), upI_a (by omega), upI_a (by omega), upI_a (by omega), upI_a (by omega)]
      exact if_neg (fun q => ha q.1)
  · have e : reF hi (i + 1) a k = reF hi i a k := by
      unfold reF
      by_cases z : (56 ≤ a ∧ a ≤ 65) ∧ k < i
      · rw [if_pos z, if_pos (by omega)]
      · rw [if_neg z, if_neg (by omega)]
    rw [e, upI_k hk, upI_k hk, upI_k hk, upI_k hk, upI_k hk, upI_k hk, upI_k hk, upI_k hk, upI_k hk, upI_k hk]

def svF (hi : Nat → Nat → Int32) (i : Nat) : Nat → Nat → Int32 := fun a k => if (69 ≤ a ∧ a ≤ 72) ∧ k < i then hi (a - 11) k else hi a k
theorem svF_0 (hi : Nat → Nat → Int32) : svF hi 0 = hi := by
  funext a k
  exact if_neg (by omega)
theorem svF_off {hi : Nat → Nat → Int32} {i a : Nat} (h : a < 69 ∨ 72 < a) (k : Nat) : svF hi i a k = hi a k := if_neg (by omega)
theorem svF_at {hi : Nat → Nat → Int32} {i a : Nat} (h : a < 69 ∨ 72 < a) : svF hi i a i = hi a i := if_neg (by omega)
theorem svF_step (hi : Nat → Nat → Int32) (i : Nat) : upI (upI (upI (upI (svF hi i) 69 i (hi 58 i)) 70 i (hi 59 i)) 71 i (hi 60 i)) 72 i (hi 61 i) = svF hi (i + 1) := by
  funext a k
  by_cases hk : k = i
  · subst hk
    by_cases ha : 69 ≤ a ∧ a ≤ 72
    · have e : svF hi (k + 1) a k = hi (a - 11) k := if_pos ⟨ha, Nat.lt_succ_self k⟩
      rw [e]
      have : a = 69 ∨ a = 70 ∨ a = 71 ∨ a = 72 := by omega
      rcases this with rfl | rfl | rfl | rfl
      · rw [upI_a (by decide), upI_a (by decide), upI_a (by decide), upI_s]
      · rw [upI_a (by decide), upI_a (by decide), upI_s]
      · rw [upI_a (by decide), upI_s]
      · rw [upI_s]
    · have e : svF hi (k + 1) a k = hi a k := if_neg (fun q => ha q.1)
      rw [e, upI_a (by omega), upI_a (by omega), upI_a (by omega), upI_a (by omega)]
      exact if_neg (fun q => ha q.1)
  · have e : svF hi (i + 1) a k = svF hi i a k := by
      unfold svF
      by_cases z : (69 ≤ a ∧ a ≤ 72) ∧ k < i
      · rw [if_pos z, if_pos (by omega)]
      · rw [if_neg z, if_neg (by omega)]
    rw [e, upI_k hk, upI_k hk, upI_k hk, upI_k hk]

def ldF (hi : Nat → Nat → Int32) (i : Nat) : Nat → Nat → Int32 := fun a k => if (58 ≤ a ∧ a ≤ 61) ∧ k < i then hi (a + 11) k else hi a k
theorem ldF_0 (hi : Nat → Nat → Int32) : ldF hi 0 = hi := by
  funext a k
  exact if_neg (by omega)
theorem ldF_off {hi : Nat → Nat → Int32} {i a : Nat} (h : a < 58 ∨ 61 < a) (k : Nat) : ldF hi i a k = hi a k := if_neg (by omega)
theorem ldF_at {hi : Nat → Nat → Int32} {i a : Nat} (h : a < 58 ∨ 61 < a) : ldF hi i a i = hi a i := if_neg (by omega)
theorem ldF_step (hi : Nat → Nat → Int32) (i : Nat) : upI (upI (upI (upI (ldF hi i) 58 i (hi 69 i)) 59 i (hi 70 i)) 60 i (hi 71 i)) 61 i (hi 72 i) = ldF hi (i + 1) := by
  funext a k
  by_cases hk : k = i
  · subst hk
    by_cases ha : 58 ≤ a ∧ a ≤ 61
    · have e : ldF hi (k + 1) a k = hi (a + 11) k := if_pos ⟨ha, Nat.lt_succ_self k⟩
      rw [e]
      have : a = 58 ∨ a = 59 ∨ a = 60 ∨ a = 61 := by omega
      rcases this with rfl | rfl | rfl | rfl
      · rw [upI_a (by decide), upI_a (by decide), upI_a (by decide), upI_s]
      · rw [upI_a (by decide), upI_a (by decide), upI_s]
      · rw [upI_a (by decide), upI_s]
      · rw [upI_s]
    · have e : ldF hi (k + 1) a k = hi a k := if_neg (fun q => ha q.1)
      rw [e, upI_a (by omega), upI_a (by omega), upI_a (by omega), upI_a (by omega)]
      exact if_neg (fun q => ha q.1)
  · have e : ldF hi (i + 1) a k = ldF hi i a k := by
      unfold ldF
      by_cases z : (58 ≤ a ∧ a ≤ 61) ∧ k < i
      · rw [if_pos z, if_pos (by omega)]
      · rw [if_neg z, if_neg (by omega)]
    rw [e, upI_k hk, upI_k hk, upI_k hk, upI_k hk]

set_option maxRecDepth 100000 in
set_option maxHeartbeats 4000000 in
theorem lp_imF  : ∀ (n i : Nat), i ≤ 8 → 8 + 1 ≤ i + n → G E l 1 mX10_image 81 [some (.ref 53), some (.int (nI i))] [] 83 (imF hi i, hl, RT) 0 0 (fun r h' => r = some (.int (hi 53 13)) ∧ h' = (imF hi 8, hl, RT)) := by
  intro n
  induction n with
  | zero =>
    intro i h1 h2
    exact absurd h2 (by omega)
  | succ n ih =>
    intro i hi1 hi2
    have hi8 : i ≤ 8 := hi1
    have eci : (nI i).toNatClampNeg = i := nI_clamp (by omega)
    refine g_iload_n dX10_image_81 rfl ?_
    refine g_bipush (v := 8) dX10_image_82 (by decide) ?_
    refine g_icmpge 213 dX10_image_84 (by decide) (fun c84 => ?_) (fun c84 => ?_)
    · skip
      have hiN : i = 8 := Nat.le_antisymm hi1 ((nI_leI (a := 8) (by decide) (by omega)).mp c84)
      refine g_aload_n dX10_image_213 rfl ?_
      refine g_geti dX10_image_214 k_X10_146 rfl (by decide) rfl ?_
      exact g_ireturn dX10_image_217 rfl rfl ⟨by show some (Value.int (imF hi i 53 13)) = _; rw [imF_off (by omega)], by rw [hiN]⟩
    · skip
      have hlt : i < 8 := Nat.lt_of_not_le (fun q => c84 (nI_le (a := 8) q (by omega)))
      refine g_aload_n dX10_image_87 rfl ?_
      refine g_getr dX10_image_88 k_X10_68 rfl (by decide) rfl rfl ?_
      refine g_iload_n dX10_image_91 rfl ?_
      refine g_aload_n dX10_image_92 rfl ?_
      refine g_getr dX10_image_93 k_X10_16 rfl (by decide) rfl rfl ?_
      refine g_iload_n dX10_image_96 rfl ?_
      refine g_iald dX10_image_97 (by decide) rfl (vp_in_nI (by omega) (by decide)) ?_
      dsimp only
      rw [eci, show (imF hi i) 56 i = hi 56 i from by rw [imF_at (by omega)]]
      refine g_iast dX10_image_98 (by decide) rfl (vp_in_nI (by omega) (by decide)) ?_
      refine g_aload_n dX10_image_99 rfl ?_
      refine g_getr dX10_image_100 k_X10_71 rfl (by decide) rfl rfl ?_
      refine g_iload_n dX10_image_103 rfl ?_
      refine g_aload_n dX10_image_104 rfl ?_
      refine g_getr dX10_image_105 k_X10_19 rfl (by decide) rfl rfl ?_
      refine g_iload_n dX10_image_108 rfl ?_
      refine g_iald dX10_image_109 (by decide) rfl (vp_in_nI (by omega) (by decide)) ?_
      dsimp only
      rw [eci, show (upI (imF hi i) 73 i (hi 56 i)) 57 i = hi 57 i from by rw [upI_a (by decide), imF_at (by omega)]]
      refine g_iast dX10_image_110 (by decide) rfl (vp_in_nI (by omega) (by decide)) ?_
      refine g_aload_n dX10_image_111 rfl ?_
      refine g_getr dX10_image_112 k_X10_74 rfl (by decide) rfl rfl ?_
      refine g_iload_n dX10_image_115 rfl ?_
      refine g_aload_n dX10_image_116 rfl ?_
      refine g_getr dX10_image_117 k_X10_22 rfl (by decide) rfl rfl ?_
      refine g_iload_n dX10_image_120 rfl ?_
      refine g_iald dX10_image_121 (by decide) rfl (vp_in_nI (by omega) (by decide)) ?_
      dsimp only
      rw [eci, show (upI (upI (imF hi i) 73 i (hi 56 i)) 74 i (hi 57 i)) 58 i = hi 58 i from by rw [upI_a (by decide), upI_a (by decide), imF_at (by omega)]]
      refine g_iast dX10_image_122 (by decide) rfl (vp_in_nI (by omega) (by decide)) ?_
      refine g_aload_n dX10_image_123 rfl ?_
      refine g_getr dX10_image_124 k_X10_77 rfl (by decide) rfl rfl ?_
      refine g_iload_n dX10_image_127 rfl ?_
      refine g_aload_n dX10_image_128 rfl ?_
      refine g_getr dX10_image_129 k_X10_25 rfl (by decide) rfl rfl ?_
      refine g_iload_n dX10_image_132 rfl ?_
      refine g_iald dX10_image_133 (by decide) rfl (vp_in_nI (by omega) (by decide)) ?_
      dsimp only
      rw [eci, show (upI (upI (upI (imF hi i) 73 i (hi 56 i)) 74 i (hi 57 i)) 75 i (hi 58 i)) 59 i = hi 59 i from by rw [upI_a (by decide), upI_a (by decide), upI_a (by decide), imF_at (by omega)]]
      refine g_iast dX10_image_134 (by decide) rfl (vp_in_nI (by omega) (by decide)) ?_
      refine g_aload_n dX10_image_135 rfl ?_
      refine g_getr dX10_image_136 k_X10_80 rfl (by decide) rfl rfl ?_
      refine g_iload_n dX10_image_139 rfl ?_
      refine g_aload_n dX10_image_140 rfl ?_
      refine g_getr dX10_image_141 k_X10_28 rfl (by decide) rfl rfl ?_
      refine g_iload_n dX10_image_144 rfl ?_
      refine g_iald dX10_image_145 (by decide) rfl (vp_in_nI (by omega) (by decide)) ?_
      dsimp only
      rw [eci, show (upI (upI (upI (upI (imF hi i) 73 i (hi 56 i)) 74 i (hi 57 i)) 75 i (hi 58 i)) 76 i (hi 59 i)) 60 i = hi 60 i from by rw [upI_a (by decide), upI_a (by decide), upI_a (by decide), upI_a (by decide), imF_at (by omega)]]
      refine g_iast dX10_image_146 (by decide) rfl (vp_in_nI (by omega) (by decide)) ?_
      refine g_aload_n dX10_image_147 rfl ?_
      refine g_getr dX10_image_148 k_X10_83 rfl (by decide) rfl rfl ?_
      refine g_iload_n dX10_image_151 rfl ?_
      refine g_aload_n dX10_image_152 rfl ?_
      refine g_getr dX10_image_153 k_X10_31 rfl (by decide) rfl rfl ?_
      refine g_iload_n dX10_image_156 rfl ?_
      refine g_iald dX10_image_157 (by decide) rfl (vp_in_nI (by omega) (by decide)) ?_
      dsimp only
      rw [eci, show (upI (upI (upI (upI (upI (imF hi i) 73 i (hi 56 i)) 74 i (hi 57 i)) 75 i (hi 58 i)) 76 i (hi 59 i)) 77 i (hi 60 i)) 61 i = hi 61 i from by rw [upI_a (by decide), upI_a (by decide), upI_a (by decide), upI_a (by decide), upI_a (by decide), imF_at (by omega)]]
      refine g_iast dX10_image_158 (by decide) rfl (vp_in_nI (by omega) (by decide)) ?_
      refine g_aload_n dX10_image_159 rfl ?_
      refine g_getr dX10_image_160 k_X10_86 rfl (by decide) rfl rfl ?_
      refine g_iload_n dX10_image_163 rfl ?_
      refine g_aload_n dX10_image_164 rfl ?_
      refine g_getr dX10_image_165 k_X10_34 rfl (by decide) rfl rfl ?_
      refine g_iload_n dX10_image_168 rfl ?_
      refine g_iald dX10_image_169 (by decide) rfl (vp_in_nI (by omega) (by decide)) ?_
      dsimp only
      rw [eci, show (upI (upI (upI (upI (upI (upI (imF hi i) 73 i (hi 56 i)) 74 i (hi 57 i)) 75 i (hi 58 i)) 76 i (hi 59 i)) 77 i (hi 60 i)) 78 i (hi 61 i)) 62 i = hi 62 i from by rw [upI_a (by decide), upI_a (by decide), upI_a (by decide), upI_a (by decide), upI_a (by decide), upI_a (by decide), imF_at (by omega)]]
      refine g_iast dX10_image_170 (by decide) rfl (vp_in_nI (by omega) (by decide)) ?_
      refine g_aload_n dX10_image_171 rfl ?_
      refine g_getr dX10_image_172 k_X10_89 rfl (by decide) rfl rfl ?_
      refine g_iload_n dX10_image_175 rfl ?_
      refine g_aload_n dX10_image_176 rfl ?_
      refine g_getr dX10_image_177 k_X10_37 rfl (by decide) rfl rfl ?_
      refine g_iload_n dX10_image_180 rfl ?_
      refine g_iald dX10_image_181 (by decide) rfl (vp_in_nI (by omega) (by decide)) ?_
      dsimp only
      rw [eci, show (upI (upI (upI (upI (upI (upI (upI (imF hi i) 73 i (hi 56 i)) 74 i (hi 57 i)) 75 i (hi 58 i)) 76 i (hi 59 i)) 77 i (hi 60 i)) 78 i (hi 61 i)) 79 i (hi 62 i)) 63 i = hi 63 i from by rw [upI_a (by decide), upI_a (by decide), upI_a (by decide), upI_a (by decide), upI_a (by decide), upI_a (by decide), upI_a (by decide), imF_at (by omega)]]
      refine g_iast dX10_image_182 (by decide) rfl (vp_in_nI (by omega) (by decide)) ?_
      refine g_aload_n dX10_image_183 rfl ?_
      refine g_getr dX10_image_184 k_X10_92 rfl (by decide) rfl rfl ?_
      refine g_iload_n dX10_image_187 rfl ?_
      refine g_aload_n dX10_image_188 rfl ?_
      refine g_getr dX10_image_189 k_X10_40 rfl (by decide) rfl rfl ?_
      refine g_iload_n dX10_image_192 rfl ?_
      refine g_iald dX10_image_193 (by decide) rfl (vp_in_nI (by omega) (by decide)) ?_
      dsimp only
      rw [eci, show (upI (upI (upI (upI (upI (upI (upI (upI (imF hi i) 73 i (hi 56 i)) 74 i (hi 57 i)) 75 i (hi 58 i)) 76 i (hi 59 i)) 77 i (hi 60 i)) 78 i (hi 61 i)) 79 i (hi 62 i)) 80 i (hi 63 i)) 64 i = hi 64 i from by rw [upI_a (by decide), upI_a (by decide), upI_a (by decide), upI_a (by decide), upI_a (by decide), upI_a (by decide), upI_a (by decide), upI_a (by decide), imF_at (by omega)]]
      refine g_iast dX10_image_194 (by decide) rfl (vp_in_nI (by omega) (by decide)) ?_
      refine g_aload_n dX10_image_195 rfl ?_
      refine g_getr dX10_image_196 k_X10_95 rfl (by decide) rfl rfl ?_
      refine g_iload_n dX10_image_199 rfl ?_
      refine g_aload_n dX10_image_200 rfl ?_
      refine g_getr dX10_image_201 k_X10_43 rfl (by decide) rfl rfl ?_
      refine g_iload_n dX10_image_204 rfl ?_
      refine g_iald dX10_image_205 (by decide) rfl (vp_in_nI (by omega) (by decide)) ?_
      dsimp only
      rw [eci, show (upI (upI (upI (upI (upI (upI (upI (upI (upI (imF hi i) 73 i (hi 56 i)) 74 i (hi 57 i)) 75 i (hi 58 i)) 76 i (hi 59 i)) 77 i (hi 60 i)) 78 i (hi 61 i)) 79 i (hi 62 i)) 80 i (hi 63 i)) 81 i (hi 64 i)) 65 i = hi 65 i from by rw [upI_a (by decide), upI_a (by decide), upI_a (by decide), upI_a (by decide), upI_a (by decide), upI_a (by decide), upI_a (by decide), upI_a (by decide), upI_a (by decide), imF_at (by omega)]]
      refine g_iast dX10_image_206 (by decide) rfl (vp_in_nI (by omega) (by decide)) ?_
      refine g_iinc dX10_image_207 rfl (nI_inc i) (by decide) rfl rfl ?_
      refine g_goto 81 dX10_image_210 (by decide) ?_
      dsimp only
      rw [eci, imF_step]
      exact ih (i + 1) (by omega) (by omega)

set_option maxRecDepth 100000 in
set_option maxHeartbeats 4000000 in
theorem lp_reF  : ∀ (n i : Nat), i ≤ 8 → 8 + 1 ≤ i + n → G E l 1 mX10_restore 79 [some (.ref 53), some (.int (nI i))] [] 83 (reF hi i, hl, RT) 0 0 (fun r h' => r = some (.int (hi 53 13)) ∧ h' = (reF hi 8, hl, RT)) := by
  intro n
  induction n with
  | zero =>
    intro i h1 h2
    exact absurd h2 (by omega)
  | succ n ih =>
    intro i hi1 hi2
    have hi8 : i ≤ 8 := hi1
    have eci : (nI i).toNatClampNeg = i := nI_clamp (by omega)
    refine g_iload_n dX10_restore_79 rfl ?_
    refine g_bipush (v := 8) dX10_restore_80 (by decide) ?_
    refine g_icmpge 211 dX10_restore_82 (by decide) (fun c82 => ?_) (fun c82 => ?_)
    · skip
      have hiN : i = 8 := Nat.le_antisymm hi1 ((nI_leI (a := 8) (by decide) (by omega)).mp c82)
      refine g_aload_n dX10_restore_211 rfl ?_
      refine g_geti dX10_restore_212 k_X10_146 rfl (by decide) rfl ?_
      exact g_ireturn dX10_restore_215 rfl rfl ⟨by show some (Value.int (reF hi i 53 13)) = _; rw [reF_off (by omega)], by rw [hiN]⟩
    · skip
      have hlt : i < 8 := Nat.lt_of_not_le (fun q => c82 (nI_le (a := 8) q (by omega)))
      refine g_aload_n dX10_restore_85 rfl ?_
      refine g_getr dX10_restore_86 k_X10_16 rfl (by decide) rfl rfl ?_
      refine g_iload_n dX10_restore_89 rfl ?_
      refine g_aload_n dX10_restore_90 rfl ?_
      refine g_getr dX10_restore_91 k_X10_68 rfl (by decide) rfl rfl ?_
      refine g_iload_n dX10_restore_94 rfl ?_
      refine g_iald dX10_restore_95 (by decide) rfl (vp_in_nI (by omega) (by decide)) ?_
      dsimp only
      rw [eci, show (reF hi i) 73 i = hi 73 i from by rw [reF_at (by omega)]]
      refine g_iast dX10_restore_96 (by decide) rfl (vp_in_nI (by omega) (by decide)) ?_
      refine g_aload_n dX10_restore_97 rfl ?_
      refine g_getr dX10_restore_98 k_X10_19 rfl (by decide) rfl rfl ?_
      refine g_iload_n dX10_restore_101 rfl ?_
      refine g_aload_n dX10_restore_102 rfl ?_
      refine g_getr dX10_restore_103 k_X10_71 rfl (by decide) rfl rfl ?_
      refine g_iload_n dX10_restore_106 rfl ?_
      refine g_iald dX10_restore_107 (by decide) rfl (vp_in_nI (by omega) (by decide)) ?_
      dsimp only
      rw [eci, show (upI (reF hi i) 56 i (hi 73 i)) 74 i = hi 74 i from by rw [upI_a (by decide), reF_at (by omega)]]
      refine g_iast dX10_restore_108 (by decide) rfl (vp_in_nI (by omega) (by decide)) ?_
      refine g_aload_n dX10_restore_109 rfl ?_
      refine g_getr dX10_restore_110 k_X10_22 rfl (by decide) rfl rfl ?_
      refine g_iload_n dX10_restore_113 rfl ?_
      refine g_aload_n dX10_restore_114 rfl ?_
      refine g_getr dX10_restore_115 k_X10_74 rfl (by decide) rfl rfl ?_
      refine g_iload_n dX10_restore_118 rfl ?_
      refine g_iald dX10_restore_119 (by decide) rfl (vp_in_nI (by omega) (by decide)) ?_
      dsimp only
      rw [eci, show (upI (upI (reF hi i) 56 i (hi 73 i)) 57 i (hi 74 i)) 75 i = hi 75 i from by rw [upI_a (by decide), upI_a (by decide), reF_at (by omega)]]
      refine g_iast dX10_restore_120 (by decide) rfl (vp_in_nI (by omega) (by decide)) ?_
      refine g_aload_n dX10_restore_121 rfl ?_
      refine g_getr dX10_restore_122 k_X10_25 rfl (by decide) rfl rfl ?_
      refine g_iload_n dX10_restore_125 rfl ?_
      refine g_aload_n dX10_restore_126 rfl ?_
      refine g_getr dX10_restore_127 k_X10_77 rfl (by decide) rfl rfl ?_
      refine g_iload_n dX10_restore_130 rfl ?_
      refine g_iald dX10_restore_131 (by decide) rfl (vp_in_nI (by omega) (by decide)) ?_
      dsimp only
      rw [eci, show (upI (upI (upI (reF hi i) 56 i (hi 73 i)) 57 i (hi 74 i)) 58 i (hi 75 i)) 76 i = hi 76 i from by rw [upI_a (by decide), upI_a (by decide), upI_a (by decide), reF_at (by omega)]]
      refine g_iast dX10_restore_132 (by decide) rfl (vp_in_nI (by omega) (by decide)) ?_
      refine g_aload_n dX10_restore_133 rfl ?_
      refine g_getr dX10_restore_134 k_X10_28 rfl (by decide) rfl rfl ?_
      refine g_iload_n dX10_restore_137 rfl ?_
      refine g_aload_n dX10_restore_138 rfl ?_
      refine g_getr dX10_restore_139 k_X10_80 rfl (by decide) rfl rfl ?_
      refine g_iload_n dX10_restore_142 rfl ?_
      refine g_iald dX10_restore_143 (by decide) rfl (vp_in_nI (by omega) (by decide)) ?_
      dsimp only
      rw [eci, show (upI (upI (upI (upI (reF hi i) 56 i (hi 73 i)) 57 i (hi 74 i)) 58 i (hi 75 i)) 59 i (hi 76 i)) 77 i = hi 77 i from by rw [upI_a (by decide), upI_a (by decide), upI_a (by decide), upI_a (by decide), reF_at (by omega)]]
      refine g_iast dX10_restore_144 (by decide) rfl (vp_in_nI (by omega) (by decide)) ?_
      refine g_aload_n dX10_restore_145 rfl ?_
      refine g_getr dX10_restore_146 k_X10_31 rfl (by decide) rfl rfl ?_
      refine g_iload_n dX10_restore_149 rfl ?_
      refine g_aload_n dX10_restore_150 rfl ?_
      refine g_getr dX10_restore_151 k_X10_83 rfl (by decide) rfl rfl ?_
      refine g_iload_n dX10_restore_154 rfl ?_
      refine g_iald dX10_restore_155 (by decide) rfl (vp_in_nI (by omega) (by decide)) ?_
      dsimp only
      rw [eci, show (upI (upI (upI (upI (upI (reF hi i) 56 i (hi 73 i)) 57 i (hi 74 i)) 58 i (hi 75 i)) 59 i (hi 76 i)) 60 i (hi 77 i)) 78 i = hi 78 i from by rw [upI_a (by decide), upI_a (by decide), upI_a (by decide), upI_a (by decide), upI_a (by decide), reF_at (by omega)]]
      refine g_iast dX10_restore_156 (by decide) rfl (vp_in_nI (by omega) (by decide)) ?_
      refine g_aload_n dX10_restore_157 rfl ?_
      refine g_getr dX10_restore_158 k_X10_34 rfl (by decide) rfl rfl ?_
      refine g_iload_n dX10_restore_161 rfl ?_
      refine g_aload_n dX10_restore_162 rfl ?_
      refine g_getr dX10_restore_163 k_X10_86 rfl (by decide) rfl rfl ?_
      refine g_iload_n dX10_restore_166 rfl ?_
      refine g_iald dX10_restore_167 (by decide) rfl (vp_in_nI (by omega) (by decide)) ?_
      dsimp only
      rw [eci, show (upI (upI (upI (upI (upI (upI (reF hi i) 56 i (hi 73 i)) 57 i (hi 74 i)) 58 i (hi 75 i)) 59 i (hi 76 i)) 60 i (hi 77 i)) 61 i (hi 78 i)) 79 i = hi 79 i from by rw [upI_a (by decide), upI_a (by decide), upI_a (by decide), upI_a (by decide), upI_a (by decide), upI_a (by decide), reF_at (by omega)]]
      refine g_iast dX10_restore_168 (by decide) rfl (vp_in_nI (by omega) (by decide)) ?_
      refine g_aload_n dX10_restore_169 rfl ?_
      refine g_getr dX10_restore_170 k_X10_37 rfl (by decide) rfl rfl ?_
      refine g_iload_n dX10_restore_173 rfl ?_
      refine g_aload_n dX10_restore_174 rfl ?_
      refine g_getr dX10_restore_175 k_X10_89 rfl (by decide) rfl rfl ?_
      refine g_iload_n dX10_restore_178 rfl ?_
      refine g_iald dX10_restore_179 (by decide) rfl (vp_in_nI (by omega) (by decide)) ?_
      dsimp only
      rw [eci, show (upI (upI (upI (upI (upI (upI (upI (reF hi i) 56 i (hi 73 i)) 57 i (hi 74 i)) 58 i (hi 75 i)) 59 i (hi 76 i)) 60 i (hi 77 i)) 61 i (hi 78 i)) 62 i (hi 79 i)) 80 i = hi 80 i from by rw [upI_a (by decide), upI_a (by decide), upI_a (by decide), upI_a (by decide), upI_a (by decide), upI_a (by decide), upI_a (by decide), reF_at (by omega)]]
      refine g_iast dX10_restore_180 (by decide) rfl (vp_in_nI (by omega) (by decide)) ?_
      refine g_aload_n dX10_restore_181 rfl ?_
      refine g_getr dX10_restore_182 k_X10_40 rfl (by decide) rfl rfl ?_
      refine g_iload_n dX10_restore_185 rfl ?_
      refine g_aload_n dX10_restore_186 rfl ?_
      refine g_getr dX10_restore_187 k_X10_92 rfl (by decide) rfl rfl ?_
      refine g_iload_n dX10_restore_190 rfl ?_
      refine g_iald dX10_restore_191 (by decide) rfl (vp_in_nI (by omega) (by decide)) ?_
      dsimp only
      rw [eci, show (upI (upI (upI (upI (upI (upI (upI (upI (reF hi i) 56 i (hi 73 i)) 57 i (hi 74 i)) 58 i (hi 75 i)) 59 i (hi 76 i)) 60 i (hi 77 i)) 61 i (hi 78 i)) 62 i (hi 79 i)) 63 i (hi 80 i)) 81 i = hi 81 i from by rw [upI_a (by decide), upI_a (by decide), upI_a (by decide), upI_a (by decide), upI_a (by decide), upI_a (by decide), upI_a (by decide), upI_a (by decide), reF_at (by omega)]]
      refine g_iast dX10_restore_192 (by decide) rfl (vp_in_nI (by omega) (by decide)) ?_
      refine g_aload_n dX10_restore_193 rfl ?_
      refine g_getr dX10_restore_194 k_X10_43 rfl (by decide) rfl rfl ?_
      refine g_iload_n dX10_restore_197 rfl ?_
      refine g_aload_n dX10_restore_198 rfl ?_
      refine g_getr dX10_restore_199 k_X10_95 rfl (by decide) rfl rfl ?_
      refine g_iload_n dX10_restore_202 rfl ?_
      refine g_iald dX10_restore_203 (by decide) rfl (vp_in_nI (by omega) (by decide)) ?_
      dsimp only
      rw [eci, show (upI (upI (upI (upI (upI (upI (upI (upI (upI (reF hi i) 56 i (hi 73 i)) 57 i (hi 74 i)) 58 i (hi 75 i)) 59 i (hi 76 i)) 60 i (hi 77 i)) 61 i (hi 78 i)) 62 i (hi 79 i)) 63 i (hi 80 i)) 64 i (hi 81 i)) 82 i = hi 82 i from by rw [upI_a (by decide), upI_a (by decide), upI_a (by decide), upI_a (by decide), upI_a (by decide), upI_a (by decide), upI_a (by decide), upI_a (by decide), upI_a (by decide), reF_at (by omega)]]
      refine g_iast dX10_restore_204 (by decide) rfl (vp_in_nI (by omega) (by decide)) ?_
      refine g_iinc dX10_restore_205 rfl (nI_inc i) (by decide) rfl rfl ?_
      refine g_goto 79 dX10_restore_208 (by decide) ?_
      dsimp only
      rw [eci, reF_step]
      exact ih (i + 1) (by omega) (by omega)

set_option maxRecDepth 100000 in
set_option maxHeartbeats 4000000 in
theorem lp_svF  : ∀ (n i : Nat), i ≤ 8 → 8 + 1 ≤ i + n → G E l 1 mX10_save 26 [some (.ref 53), some (.int (nI i))] [] 83 (svF hi i, hl, RT) 0 0 (fun r h' => r = none ∧ h' = (svF hi 8, hl, RT)) := by
  intro n
  induction n with
  | zero =>
    intro i h1 h2
    exact absurd h2 (by omega)
  | succ n ih =>
    intro i hi1 hi2
    have hi8 : i ≤ 8 := hi1
    have eci : (nI i).toNatClampNeg = i := nI_clamp (by omega)
    refine g_iload_n dX10_save_26 rfl ?_
    refine g_bipush (v := 8) dX10_save_27 (by decide) ?_
    refine g_icmpge 86 dX10_save_29 (by decide) (fun c29 => ?_) (fun c29 => ?_)
    · skip
      have hiN : i = 8 := Nat.le_antisymm hi1 ((nI_leI (a := 8) (by decide) (by omega)).mp c29)
      exact g_return dX10_save_86 rfl ⟨rfl, by rw [hiN]⟩
    · skip
      have hlt : i < 8 := Nat.lt_of_not_le (fun q => c29 (nI_le (a := 8) q (by omega)))
      refine g_aload_n dX10_save_32 rfl ?_
      refine g_getr dX10_save_33 k_X10_56 rfl (by decide) rfl rfl ?_
      refine g_iload_n dX10_save_36 rfl ?_
      refine g_aload_n dX10_save_37 rfl ?_
      refine g_getr dX10_save_38 k_X10_22 rfl (by decide) rfl rfl ?_
      refine g_iload_n dX10_save_41 rfl ?_
      refine g_iald dX10_save_42 (by decide) rfl (vp_in_nI (by omega) (by decide)) ?_
      dsimp only
      rw [eci, show (svF hi i) 58 i = hi 58 i from by rw [svF_at (by omega)]]
      refine g_iast dX10_save_43 (by decide) rfl (vp_in_nI (by omega) (by decide)) ?_
      refine g_aload_n dX10_save_44 rfl ?_
      refine g_getr dX10_save_45 k_X10_59 rfl (by decide) rfl rfl ?_
      refine g_iload_n dX10_save_48 rfl ?_
      refine g_aload_n dX10_save_49 rfl ?_
      refine g_getr dX10_save_50 k_X10_25 rfl (by decide) rfl rfl ?_
      refine g_iload_n dX10_save_53 rfl ?_
      refine g_iald dX10_save_54 (by decide) rfl (vp_in_nI (by omega) (by decide)) ?_
      dsimp only
      rw [eci, show (upI (svF hi i) 69 i (hi 58 i)) 59 i = hi 59 i from by rw [upI_a (by decide), svF_at (by omega)]]
      refine g_iast dX10_save_55 (by decide) rfl (vp_in_nI (by omega) (by decide)) ?_
      refine g_aload_n dX10_save_56 rfl ?_
      refine g_getr dX10_save_57 k_X10_62 rfl (by decide) rfl rfl ?_
      refine g_iload_n dX10_save_60 rfl ?_
      refine g_aload_n dX10_save_61 rfl ?_
      refine g_getr dX10_save_62 k_X10_28 rfl (by decide) rfl rfl ?_
      refine g_iload_n dX10_save_65 rfl ?_
      refine g_iald dX10_save_66 (by decide) rfl (vp_in_nI (by omega) (by decide)) ?_
      dsimp only
      rw [eci, show (upI (upI (svF hi i) 69 i (hi 58 i)) 70 i (hi 59 i)) 60 i = hi 60 i from by rw [upI_a (by decide), upI_a (by decide), svF_at (by omega)]]
      refine g_iast dX10_save_67 (by decide) rfl (vp_in_nI (by omega) (by decide)) ?_
      refine g_aload_n dX10_save_68 rfl ?_
      refine g_getr dX10_save_69 k_X10_65 rfl (by decide) rfl rfl ?_
      refine g_iload_n dX10_save_72 rfl ?_
      refine g_aload_n dX10_save_73 rfl ?_
      refine g_getr dX10_save_74 k_X10_31 rfl (by decide) rfl rfl ?_
      refine g_iload_n dX10_save_77 rfl ?_
      refine g_iald dX10_save_78 (by decide) rfl (vp_in_nI (by omega) (by decide)) ?_
      dsimp only
      rw [eci, show (upI (upI (upI (svF hi i) 69 i (hi 58 i)) 70 i (hi 59 i)) 71 i (hi 60 i)) 61 i = hi 61 i from by rw [upI_a (by decide), upI_a (by decide), upI_a (by decide), svF_at (by omega)]]
      refine g_iast dX10_save_79 (by decide) rfl (vp_in_nI (by omega) (by decide)) ?_
      refine g_iinc dX10_save_80 rfl (nI_inc i) (by decide) rfl rfl ?_
      refine g_goto 26 dX10_save_83 (by decide) ?_
      dsimp only
      rw [eci, svF_step]
      exact ih (i + 1) (by omega) (by omega)

set_option maxRecDepth 100000 in
set_option maxHeartbeats 4000000 in
theorem lp_ldF  : ∀ (n i : Nat), i ≤ 8 → 8 + 1 ≤ i + n → G E l 1 mX10_load 26 [some (.ref 53), some (.int (nI i))] [] 83 (ldF hi i, hl, RT) 0 0 (fun r h' => r = none ∧ h' = (ldF hi 8, hl, RT)) := by
  intro n
  induction n with
  | zero =>
    intro i h1 h2
    exact absurd h2 (by omega)
  | succ n ih =>
    intro i hi1 hi2
    have hi8 : i ≤ 8 := hi1
    have eci : (nI i).toNatClampNeg = i := nI_clamp (by omega)
    refine g_iload_n dX10_load_26 rfl ?_
    refine g_bipush (v := 8) dX10_load_27 (by decide) ?_
    refine g_icmpge 86 dX10_load_29 (by decide) (fun c29 => ?_) (fun c29 => ?_)
    · skip
      have hiN : i = 8 := Nat.le_antisymm hi1 ((nI_leI (a := 8) (by decide) (by omega)).mp c29)
      exact g_return dX10_load_86 rfl ⟨rfl, by rw [hiN]⟩
    · skip
      have hlt : i < 8 := Nat.lt_of_not_le (fun q => c29 (nI_le (a := 8) q (by omega)))
      refine g_aload_n dX10_load_32 rfl ?_
      refine g_getr dX10_load_33 k_X10_22 rfl (by decide) rfl rfl ?_
      refine g_iload_n dX10_load_36 rfl ?_
      refine g_aload_n dX10_load_37 rfl ?_
      refine g_getr dX10_load_38 k_X10_56 rfl (by decide) rfl rfl ?_
      refine g_iload_n dX10_load_41 rfl ?_
      refine g_iald dX10_load_42 (by decide) rfl (vp_in_nI (by omega) (by decide)) ?_
      dsimp only
      rw [eci, show (ldF hi i) 69 i = hi 69 i from by rw [ldF_at (by omega)]]
      refine g_iast dX10_load_43 (by decide) rfl (vp_in_nI (by omega) (by decide)) ?_
      refine g_aload_n dX10_load_44 rfl ?_
      refine g_getr dX10_load_45 k_X10_25 rfl (by decide) rfl rfl ?_
      refine g_iload_n dX10_load_48 rfl ?_
      refine g_aload_n dX10_load_49 rfl ?_
      refine g_getr dX10_load_50 k_X10_59 rfl (by decide) rfl rfl ?_
      refine g_iload_n dX10_load_53 rfl ?_
      refine g_iald dX10_load_54 (by decide) rfl (vp_in_nI (by omega) (by decide)) ?_
      dsimp only
      rw [eci, show (upI (ldF hi i) 58 i (hi 69 i)) 70 i = hi 70 i from by rw [upI_a (by decide), ldF_at (by omega)]]
      refine g_iast dX10_load_55 (by decide) rfl (vp_in_nI (by omega) (by decide)) ?_
      refine g_aload_n dX10_load_56 rfl ?_
      refine g_getr dX10_load_57 k_X10_28 rfl (by decide) rfl rfl ?_
      refine g_iload_n dX10_load_60 rfl ?_
      refine g_aload_n dX10_load_61 rfl ?_
      refine g_getr dX10_load_62 k_X10_62 rfl (by decide) rfl rfl ?_
      refine g_iload_n dX10_load_65 rfl ?_
      refine g_iald dX10_load_66 (by decide) rfl (vp_in_nI (by omega) (by decide)) ?_
      dsimp only
      rw [eci, show (upI (upI (ldF hi i) 58 i (hi 69 i)) 59 i (hi 70 i)) 71 i = hi 71 i from by rw [upI_a (by decide), upI_a (by decide), ldF_at (by omega)]]
      refine g_iast dX10_load_67 (by decide) rfl (vp_in_nI (by omega) (by decide)) ?_
      refine g_aload_n dX10_load_68 rfl ?_
      refine g_getr dX10_load_69 k_X10_31 rfl (by decide) rfl rfl ?_
      refine g_iload_n dX10_load_72 rfl ?_
      refine g_aload_n dX10_load_73 rfl ?_
      refine g_getr dX10_load_74 k_X10_65 rfl (by decide) rfl rfl ?_
      refine g_iload_n dX10_load_77 rfl ?_
      refine g_iald dX10_load_78 (by decide) rfl (vp_in_nI (by omega) (by decide)) ?_
      dsimp only
      rw [eci, show (upI (upI (upI (ldF hi i) 58 i (hi 69 i)) 59 i (hi 70 i)) 60 i (hi 71 i)) 72 i = hi 72 i from by rw [upI_a (by decide), upI_a (by decide), upI_a (by decide), ldF_at (by omega)]]
      refine g_iast dX10_load_79 (by decide) rfl (vp_in_nI (by omega) (by decide)) ?_
      refine g_iinc dX10_load_80 rfl (nI_inc i) (by decide) rfl rfl ?_
      refine g_goto 26 dX10_load_83 (by decide) ?_
      dsimp only
      rw [eci, ldF_step]
      exact ih (i + 1) (by omega) (by omega)

def imS (hi : Nat → Nat → Int32) : Nat → Nat → Int32 := upI (upI (upI (upI (upI (upI (upI (upI (upI hi 53 38 1) 53 39 (hi 53 0)) 53 40 (hi 53 12)) 53 41 (hi 53 13)) 53 42 (hi 53 14)) 53 43 (hi 53 15)) 53 44 (hi 53 16)) 53 45 (hi 53 17)) 53 46 (hi 53 18)
def reS (hi : Nat → Nat → Int32) : Nat → Nat → Int32 := upI (upI (upI (upI (upI (upI (upI hi 53 12 (hi 53 40)) 53 13 (hi 53 41)) 53 14 (hi 53 42)) 53 15 (hi 53 43)) 53 16 (hi 53 44)) 53 17 (hi 53 45)) 53 18 (hi 53 46)
def svS (hi : Nat → Nat → Int32) : Nat → Nat → Int32 := upI (upI (upI hi 53 34 (hi 53 12)) 53 35 (hi 53 14)) 53 36 (hi 53 15)
def ldS (hi : Nat → Nat → Int32) : Nat → Nat → Int32 := upI (upI (upI hi 53 12 (hi 53 34)) 53 14 (hi 53 35)) 53 15 (hi 53 36)
set_option maxRecDepth 100000 in
set_option maxHeartbeats 4000000 in
theorem ct_mimageE (hE : hi 53 2 = 0) : MC E l 1 mX10_image [.ref 53] 83 (hi, hl, RT) 0 0 (fun r h' => r = some (.int (-103)) ∧ h' = (hi, hl, RT)) := by
  refine MC.of [some (.ref 53), none] (by decide) rfl (Nat.le_of_ble_eq_true rfl) ?_
  refine g_aload_n dX10_image_0 rfl ?_
  refine g_geti dX10_image_1 k_X10_140 rfl (by decide) rfl ?_
  refine g_ifne 10 dX10_image_4 (by decide) (fun c4 => ?_) (fun c4 => ?_)
  · skip
    exact absurd hE c4
  · skip
    refine g_bipush (v := -103) dX10_image_7 (by decide) ?_
    exact g_ireturn dX10_image_9 rfl rfl ⟨rfl, rfl⟩

set_option maxRecDepth 100000 in
set_option maxHeartbeats 4000000 in
theorem ct_mimage {N F : Nat} (hj : MO7 hi N F) (hE : 0 < N) : MC E l 1 mX10_image [.ref 53] 83 (hi, hl, RT) 0 0 (fun r h' => r = some (.int (hi 53 13)) ∧ h' = (imF (imS hi) 8, hl, RT)) := by
  refine MC.of [some (.ref 53), none] (by decide) rfl (Nat.le_of_ble_eq_true rfl) ?_
  refine g_aload_n dX10_image_0 rfl ?_
  refine g_geti dX10_image_1 k_X10_140 rfl (by decide) rfl ?_
  refine g_ifne 10 dX10_image_4 (by decide) (fun c4 => ?_) (fun c4 => ?_)
  · skip
    refine g_aload_n dX10_image_10 rfl ?_
    refine g_iconst (v := 1) dX10_image_11 (by decide) ?_
    refine g_puti dX10_image_12 k_X10_329 rfl (by decide) rfl rfl rfl ?_
    refine g_aload_n dX10_image_15 rfl ?_
    refine g_aload_n dX10_image_16 rfl ?_
    refine g_geti dX10_image_17 k_X10_161 rfl (by decide) rfl ?_
    refine g_puti dX10_image_20 k_X10_332 rfl (by decide) rfl rfl rfl ?_
    refine g_aload_n dX10_image_23 rfl ?_
    refine g_aload_n dX10_image_24 rfl ?_
    refine g_geti dX10_image_25 k_X10_143 rfl (by decide) rfl ?_
    refine g_puti dX10_image_28 k_X10_335 rfl (by decide) rfl rfl rfl ?_
    refine g_aload_n dX10_image_31 rfl ?_
    refine g_aload_n dX10_image_32 rfl ?_
    refine g_geti dX10_image_33 k_X10_146 rfl (by decide) rfl ?_
    refine g_puti dX10_image_36 k_X10_338 rfl (by decide) rfl rfl rfl ?_
    refine g_aload_n dX10_image_39 rfl ?_
    refine g_aload_n dX10_image_40 rfl ?_
    refine g_geti dX10_image_41 k_X10_149 rfl (by decide) rfl ?_
    refine g_puti dX10_image_44 k_X10_341 rfl (by decide) rfl rfl rfl ?_
    refine g_aload_n dX10_image_47 rfl ?_
    refine g_aload_n dX10_image_48 rfl ?_
    refine g_geti dX10_image_49 k_X10_152 rfl (by decide) rfl ?_
    refine g_puti dX10_image_52 k_X10_344 rfl (by decide) rfl rfl rfl ?_
    refine g_aload_n dX10_image_55 rfl ?_
    refine g_aload_n dX10_image_56 rfl ?_
    refine g_geti dX10_image_57 k_X10_155 rfl (by decide) rfl ?_
    refine g_puti dX10_image_60 k_X10_347 rfl (by decide) rfl rfl rfl ?_
    refine g_aload_n dX10_image_63 rfl ?_
    refine g_aload_n dX10_image_64 rfl ?_
    refine g_geti dX10_image_65 k_X10_158 rfl (by decide) rfl ?_
    refine g_puti dX10_image_68 k_X10_350 rfl (by decide) rfl rfl rfl ?_
    refine g_aload_n dX10_image_71 rfl ?_
    refine g_aload_n dX10_image_72 rfl ?_
    refine g_geti dX10_image_73 k_X10_164 rfl (by decide) rfl ?_
    refine g_puti dX10_image_76 k_X10_353 rfl (by decide) rfl rfl rfl ?_
    refine g_iconst (v := 0) dX10_image_79 (by decide) ?_
    refine g_istore_n dX10_image_80 (by decide) rfl rfl ?_
    have hh := lp_imF (E := E) (l := l) (hl := hl) (hi := imS hi) 9 0 (by omega) (by omega)
    rw [imF_0] at hh
    refine g_hi (f := imS hi) rfl ?_
    exact hh
  · skip
    exact absurd (hj.2.2.1.symm.trans c4) (nI_ne0 hE (by have := hj.1; omega))

set_option maxRecDepth 100000 in
set_option maxHeartbeats 4000000 in
theorem ct_mrestoreN (h0 : hi 53 38 = 0 ∨ ¬ hi 53 39 = hi 53 0) : MC E l 1 mX10_restore [.ref 53] 83 (hi, hl, RT) 0 0 (fun r h' => r = some (.int (-103)) ∧ h' = (hi, hl, RT)) := by
  refine MC.of [some (.ref 53), none] (by decide) rfl (Nat.le_of_ble_eq_true rfl) ?_
  refine g_aload_n dX10_restore_0 rfl ?_
  refine g_geti dX10_restore_1 k_X10_329 rfl (by decide) rfl ?_
  refine g_ifeq 18 dX10_restore_4 (by decide) (fun c4 => ?_) (fun c4 => ?_)
  · skip
    refine g_bipush (v := -103) dX10_restore_18 (by decide) ?_
    exact g_ireturn dX10_restore_20 rfl rfl ⟨rfl, rfl⟩
  · skip
    refine g_aload_n dX10_restore_7 rfl ?_
    refine g_geti dX10_restore_8 k_X10_332 rfl (by decide) rfl ?_
    refine g_aload_n dX10_restore_11 rfl ?_
    refine g_geti dX10_restore_12 k_X10_161 rfl (by decide) rfl ?_
    refine g_icmpeq 21 dX10_restore_15 (by decide) (fun c15 => ?_) (fun c15 => ?_)
    · skip
      exact absurd c15 (h0.resolve_left c4)
    · skip
      refine g_bipush (v := -103) dX10_restore_18 (by decide) ?_
      exact g_ireturn dX10_restore_20 rfl rfl ⟨rfl, rfl⟩

set_option maxRecDepth 100000 in
set_option maxHeartbeats 4000000 in
theorem ct_mrestore (h0 : ¬ hi 53 38 = 0) (h1 : hi 53 39 = hi 53 0) : MC E l 1 mX10_restore [.ref 53] 83 (hi, hl, RT) 0 0 (fun r h' => r = some (.int (hi 53 41)) ∧ h' = (reF (reS hi) 8, hl, RT)) := by
  refine MC.of [some (.ref 53), none] (by decide) rfl (Nat.le_of_ble_eq_true rfl) ?_
  refine g_aload_n dX10_restore_0 rfl ?_
  refine g_geti dX10_restore_1 k_X10_329 rfl (by decide) rfl ?_
  refine g_ifeq 18 dX10_restore_4 (by decide) (fun c4 => ?_) (fun c4 => ?_)
  · skip
    exact absurd c4 h0
  · skip
    refine g_aload_n dX10_restore_7 rfl ?_
    refine g_geti dX10_restore_8 k_X10_332 rfl (by decide) rfl ?_
    refine g_aload_n dX10_restore_11 rfl ?_
    refine g_geti dX10_restore_12 k_X10_161 rfl (by decide) rfl ?_
    refine g_icmpeq 21 dX10_restore_15 (by decide) (fun c15 => ?_) (fun c15 => ?_)
    · skip
      refine g_aload_n dX10_restore_21 rfl ?_
      refine g_aload_n dX10_restore_22 rfl ?_
      refine g_geti dX10_restore_23 k_X10_335 rfl (by decide) rfl ?_
      refine g_puti dX10_restore_26 k_X10_143 rfl (by decide) rfl rfl rfl ?_
      refine g_aload_n dX10_restore_29 rfl ?_
      refine g_aload_n dX10_restore_30 rfl ?_
      refine g_geti dX10_restore_31 k_X10_338 rfl (by decide) rfl ?_
      refine g_puti dX10_restore_34 k_X10_146 rfl (by decide) rfl rfl rfl ?_
      refine g_aload_n dX10_restore_37 rfl ?_
      refine g_aload_n dX10_restore_38 rfl ?_
      refine g_geti dX10_restore_39 k_X10_341 rfl (by decide) rfl ?_
      refine g_puti dX10_restore_42 k_X10_149 rfl (by decide) rfl rfl rfl ?_
      refine g_aload_n dX10_restore_45 rfl ?_
      refine g_aload_n dX10_restore_46 rfl ?_
      refine g_geti dX10_restore_47 k_X10_344 rfl (by decide) rfl ?_
      refine g_puti dX10_restore_50 k_X10_152 rfl (by decide) rfl rfl rfl ?_
      refine g_aload_n dX10_restore_53 rfl ?_
      refine g_aload_n dX10_restore_54 rfl ?_
      refine g_geti dX10_restore_55 k_X10_347 rfl (by decide) rfl ?_
      refine g_puti dX10_restore_58 k_X10_155 rfl (by decide) rfl rfl rfl ?_
      refine g_aload_n dX10_restore_61 rfl ?_
      refine g_aload_n dX10_restore_62 rfl ?_
      refine g_geti dX10_restore_63 k_X10_350 rfl (by decide) rfl ?_
      refine g_puti dX10_restore_66 k_X10_158 rfl (by decide) rfl rfl rfl ?_
      refine g_aload_n dX10_restore_69 rfl ?_
      refine g_aload_n dX10_restore_70 rfl ?_
      refine g_geti dX10_restore_71 k_X10_353 rfl (by decide) rfl ?_
      refine g_puti dX10_restore_74 k_X10_164 rfl (by decide) rfl rfl rfl ?_
      refine g_iconst (v := 0) dX10_restore_77 (by decide) ?_
      refine g_istore_n dX10_restore_78 (by decide) rfl rfl ?_
      have hh := lp_reF (E := E) (l := l) (hl := hl) (hi := reS hi) 9 0 (by omega) (by omega)
      rw [reF_0] at hh
      refine g_hi (f := reS hi) rfl ?_
      exact hh
    · skip
      exact absurd h1 c15

set_option maxRecDepth 100000 in
set_option maxHeartbeats 4000000 in
theorem ct_save  : MC E l 1 mX10_save [.ref 53] 83 (hi, hl, RT) 0 0 (fun r h' => r = none ∧ h' = (svF (svS hi) 8, hl, RT)) := by
  refine MC.of [some (.ref 53), none] (by decide) rfl (Nat.le_of_ble_eq_true rfl) ?_
  refine g_aload_n dX10_save_0 rfl ?_
  refine g_aload_n dX10_save_1 rfl ?_
  refine g_geti dX10_save_2 k_X10_143 rfl (by decide) rfl ?_
  refine g_puti dX10_save_5 k_X10_267 rfl (by decide) rfl rfl rfl ?_
  refine g_aload_n dX10_save_8 rfl ?_
  refine g_aload_n dX10_save_9 rfl ?_
  refine g_geti dX10_save_10 k_X10_149 rfl (by decide) rfl ?_
  refine g_puti dX10_save_13 k_X10_270 rfl (by decide) rfl rfl rfl ?_
  refine g_aload_n dX10_save_16 rfl ?_
  refine g_aload_n dX10_save_17 rfl ?_
  refine g_geti dX10_save_18 k_X10_152 rfl (by decide) rfl ?_
  refine g_puti dX10_save_21 k_X10_273 rfl (by decide) rfl rfl rfl ?_
  refine g_iconst (v := 0) dX10_save_24 (by decide) ?_
  refine g_istore_n dX10_save_25 (by decide) rfl rfl ?_
  have hh := lp_svF (E := E) (l := l) (hl := hl) (hi := svS hi) 9 0 (by omega) (by omega)
  rw [svF_0] at hh
  refine g_hi (f := svS hi) rfl ?_
  exact hh

set_option maxRecDepth 100000 in
set_option maxHeartbeats 4000000 in
theorem ct_load  : MC E l 1 mX10_load [.ref 53] 83 (hi, hl, RT) 0 0 (fun r h' => r = none ∧ h' = (ldF (ldS hi) 8, hl, RT)) := by
  refine MC.of [some (.ref 53), none] (by decide) rfl (Nat.le_of_ble_eq_true rfl) ?_
  refine g_aload_n dX10_load_0 rfl ?_
  refine g_aload_n dX10_load_1 rfl ?_
  refine g_geti dX10_load_2 k_X10_267 rfl (by decide) rfl ?_
  refine g_puti dX10_load_5 k_X10_143 rfl (by decide) rfl rfl rfl ?_
  refine g_aload_n dX10_load_8 rfl ?_
  refine g_aload_n dX10_load_9 rfl ?_
  refine g_geti dX10_load_10 k_X10_270 rfl (by decide) rfl ?_
  refine g_puti dX10_load_13 k_X10_149 rfl (by decide) rfl rfl rfl ?_
  refine g_aload_n dX10_load_16 rfl ?_
  refine g_aload_n dX10_load_17 rfl ?_
  refine g_geti dX10_load_18 k_X10_273 rfl (by decide) rfl ?_
  refine g_puti dX10_load_21 k_X10_152 rfl (by decide) rfl rfl rfl ?_
  refine g_iconst (v := 0) dX10_load_24 (by decide) ?_
  refine g_istore_n dX10_load_25 (by decide) rfl rfl ?_
  have hh := lp_ldF (E := E) (l := l) (hl := hl) (hi := ldS hi) 9 0 (by omega) (by omega)
  rw [ldF_0] at hh
  refine g_hi (f := ldS hi) rfl ?_
  exact hh

def st5 (v : VV) (i : Nat) : Int32 := if vGone v i = true then 2 else if v 11 i = -1 then 0 else 1
def hmN (hi : Nat → Nat → Int32) (N F : Nat) : Nat → Int32
  | 0 => hi 53 1 | 1 => hi 53 2 - hi 53 1
  | 2 => cntB (fun p => decide (st5 (vm hi N F) p = 0)) N
  | 3 => cntB (fun p => decide (st5 (vm hi N F) p = 1)) N / 2
  | 4 => cntB (fun p => decide (st5 (vm hi N F) p = 2)) N
  | 5 => sumI (fun k => szF (orB (fun q => vMatch (vm hi N F) k q) bitI N)) F - cntB (fun p => decide (st5 (vm hi N F) p = 1)) N / 2
  | 6 => hi 53 14 | 7 => hi 53 15 | 8 => hi 53 12 | 9 => hi 53 13 | 10 => hi 53 16 | 11 => hi 53 17 | 12 => hi 53 18 | 13 => hi 53 22 | _ => hi 53 0

set_option maxRecDepth 100000 in
set_option maxHeartbeats 4000000 in
theorem lp_peopleNow {N F : Nat} (hj : MO7 hi N F) {S : Nat} (hse : SE (hi 64) (hi 65) S N) (hS : hi 53 18 = nI S) (x : Int32) : ∀ (n i : Nat), i ≤ N → N + 1 ≤ i + n → ∀ (b : Int32), b = cntB (fun p => decide (st5 (vm hi N F) p = x)) i → G E l 9 mX10_peopleNow 4 [some (.ref 53), some (.int x), some (.int b), some (.int (nI i))] [] 83 (hi, hl, RT) 0 0 (fun r h' => r = some (.int (cntB (fun p => decide (st5 (vm hi N F) p = x)) N)) ∧ h' = (hi, hl, RT)) := by
  intro n
  induction n with
  | zero =>
    intro i h1 h2
    exact absurd h2 (by omega)
  | succ n ih =>
    intro i hi1 hi2 b hb
    have hN8 := hj.1
    have hN := hj.2.2.1
    refine g_iload_n dX10_peopleNow_4 rfl ?_
    refine g_aload_n dX10_peopleNow_5 rfl ?_
    refine g_geti dX10_peopleNow_6 k_X10_140 rfl (by decide) rfl ?_
    refine g_icmpge 36 dX10_peopleNow_9 (by decide) (fun c9 => ?_) (fun c9 => ?_)
    · skip
      have hiN : i = N := Nat.le_antisymm hi1 (ge_out hN c9 (by omega) (by omega))
      refine g_iload_n dX10_peopleNow_36 rfl ?_
      exact g_ireturn dX10_peopleNow_37 rfl rfl ⟨by rw [hb, hiN], rfl⟩
    · skip
      have hlt : i < N := lt_in hN c9 (by omega) (by omega)
      refine g_iload_n dX10_peopleNow_12 rfl ?_
      refine g_aload_n dX10_peopleNow_13 rfl ?_
      refine g_iload_n dX10_peopleNow_14 rfl ?_
      refine g_iconst (v := 5) dX10_peopleNow_15 (by decide) ?_
      refine g_callV2 (M' := mX10_personNow) (mc' := 0) (ms' := 0) dX10_peopleNow_16 l_X10_201 s_mX10_personNow (by decide) rfl rfl f_mX10_personNow (Nat.le_of_ble_eq_true rfl) (by decide) (ct_personNow hj hse hS hlt 5 (by decide)) ?_
      rintro _ _ ⟨rfl, rfl⟩
      refine g_iload_n dX10_peopleNow_19 rfl ?_
      refine g_icmpne 27 dX10_peopleNow_20 (by decide) (fun c20 => ?_) (fun c20 => ?_)
      · skip
        refine g_iconst (v := 0) dX10_peopleNow_27 (by decide) ?_
        refine g_iadd dX10_peopleNow_28 ?_
        refine g_istore_n dX10_peopleNow_29 (by decide) rfl rfl ?_
        refine g_iinc dX10_peopleNow_30 rfl (nI_inc i) (by decide) rfl rfl ?_
        refine g_goto 4 dX10_peopleNow_33 (by decide) ?_
        exact ih (i + 1) (by omega) (by omega) _ (by rw [hb, cntB]; have c21 : ¬ (st5 (vm hi N F) i = x) := c20; simp [c21, bI])
      · skip
        refine g_iconst (v := 1) dX10_peopleNow_23 (by decide) ?_
        refine g_goto 28 dX10_peopleNow_24 (by decide) ?_
        refine g_iadd dX10_peopleNow_28 ?_
        refine g_istore_n dX10_peopleNow_29 (by decide) rfl rfl ?_
        refine g_iinc dX10_peopleNow_30 rfl (nI_inc i) (by decide) rfl rfl ?_
        refine g_goto 4 dX10_peopleNow_33 (by decide) ?_
        exact ih (i + 1) (by omega) (by omega) _ (by rw [hb, cntB]; have c21 : (st5 (vm hi N F) i = x) := c20; simp [c21, bI])

set_option maxRecDepth 100000 in
set_option maxHeartbeats 4000000 in
theorem ct_peopleNow {N F : Nat} (hj : MO7 hi N F) {S : Nat} (hse : SE (hi 64) (hi 65) S N) (hS : hi 53 18 = nI S) (x : Int32) : MC E l 9 mX10_peopleNow [.ref 53, .int x] 83 (hi, hl, RT) 0 0 (fun r h' => r = some (.int (cntB (fun p => decide (st5 (vm hi N F) p = x)) N)) ∧ h' = (hi, hl, RT)) := by
  refine MC.of [some (.ref 53), some (.int x), none, none] (by decide) rfl (Nat.le_of_ble_eq_true rfl) ?_
  refine g_iconst (v := 0) dX10_peopleNow_0 (by decide) ?_
  refine g_istore_n dX10_peopleNow_1 (by decide) rfl rfl ?_
  refine g_iconst (v := 0) dX10_peopleNow_2 (by decide) ?_
  refine g_istore_n dX10_peopleNow_3 (by decide) rfl rfl ?_
  exact lp_peopleNow hj hse hS x (N + 1) 0 (by omega) (by omega) 0 rfl

set_option maxRecDepth 100000 in
set_option maxHeartbeats 4000000 in
theorem ct_howManyOf {N F : Nat} (hj : MO7 hi N F) {S : Nat} (hse : SE (hi 64) (hi 65) S N) (hS : hi 53 18 = nI S) (k : Nat) (hk : k < 15) : MC E l 10 mX10_howManyOf [.ref 53, .int (nI k)] 83 (hi, hl, RT) 0 0 (fun r h' => r = some (.int (hmN hi N F k)) ∧ h' = (hi, hl, RT)) := by
  refine MC.of [some (.ref 53), some (.int (nI k))] (by decide) rfl (Nat.le_of_ble_eq_true rfl) ?_
  refine g_iload_n dX10_howManyOf_0 rfl ?_
  match k, hk with
  | 0, hk =>
    refine g_tableIn (off := 75) 76 dX10_howManyOf_1 (by decide) (by decide) (by decide) (by decide) ?_
    refine g_aload_n dX10_howManyOf_76 rfl ?_
    refine g_geti dX10_howManyOf_77 k_X10_137 rfl (by decide) rfl ?_
    exact g_ireturn dX10_howManyOf_80 rfl rfl ⟨rfl, rfl⟩
  | 1, hk =>
    refine g_tableIn (off := 80) 81 dX10_howManyOf_1 (by decide) (by decide) (by decide) (by decide) ?_
    refine g_aload_n dX10_howManyOf_81 rfl ?_
    refine g_geti dX10_howManyOf_82 k_X10_140 rfl (by decide) rfl ?_
    refine g_aload_n dX10_howManyOf_85 rfl ?_
    refine g_geti dX10_howManyOf_86 k_X10_137 rfl (by decide) rfl ?_
    refine g_isub dX10_howManyOf_89 ?_
    exact g_ireturn dX10_howManyOf_90 rfl rfl ⟨rfl, rfl⟩
  | 2, hk =>
    refine g_tableIn (off := 90) 91 dX10_howManyOf_1 (by decide) (by decide) (by decide) (by decide) ?_
    refine g_aload_n dX10_howManyOf_91 rfl ?_
    refine g_iconst (v := 0) dX10_howManyOf_92 (by decide) ?_
    refine g_callV1 (M' := mX10_peopleNow) (mc' := 0) (ms' := 0) dX10_howManyOf_93 l_X10_356 s_mX10_peopleNow (by decide) rfl rfl f_mX10_peopleNow (Nat.le_of_ble_eq_true rfl) (by decide) (ct_peopleNow hj hse hS 0) ?_
    rintro _ _ ⟨rfl, rfl⟩
    exact g_ireturn dX10_howManyOf_96 rfl rfl ⟨rfl, rfl⟩
  | 3, hk =>
    refine g_tableIn (off := 96) 97 dX10_howManyOf_1 (by decide) (by decide) (by decide) (by decide) ?_
    refine g_aload_n dX10_howManyOf_97 rfl ?_
    refine g_iconst (v := 1) dX10_howManyOf_98 (by decide) ?_
    refine g_callV1 (M' := mX10_peopleNow) (mc' := 0) (ms' := 0) dX10_howManyOf_99 l_X10_356 s_mX10_peopleNow (by decide) rfl rfl f_mX10_peopleNow (Nat.le_of_ble_eq_true rfl) (by decide) (ct_peopleNow hj hse hS 1) ?_
    rintro _ _ ⟨rfl, rfl⟩
    refine g_iconst (v := 2) dX10_howManyOf_102 (by decide) ?_
    refine g_idiv dX10_howManyOf_103 (by decide) ?_
    exact g_ireturn dX10_howManyOf_104 rfl rfl ⟨rfl, rfl⟩
  | 4, hk =>
    refine g_tableIn (off := 104) 105 dX10_howManyOf_1 (by decide) (by decide) (by decide) (by decide) ?_
    refine g_aload_n dX10_howManyOf_105 rfl ?_
    refine g_iconst (v := 2) dX10_howManyOf_106 (by decide) ?_
    refine g_callV1 (M' := mX10_peopleNow) (mc' := 0) (ms' := 0) dX10_howManyOf_107 l_X10_356 s_mX10_peopleNow (by decide) rfl rfl f_mX10_peopleNow (Nat.le_of_ble_eq_true rfl) (by decide) (ct_peopleNow hj hse hS 2) ?_
    rintro _ _ ⟨rfl, rfl⟩
    exact g_ireturn dX10_howManyOf_110 rfl rfl ⟨rfl, rfl⟩
  | 5, hk =>
    refine g_tableIn (off := 110) 111 dX10_howManyOf_1 (by decide) (by decide) (by decide) (by decide) ?_
    refine g_aload_n dX10_howManyOf_111 rfl ?_
    refine g_callV0 (M' := mX10_matches) (mc' := 0) (ms' := 0) dX10_howManyOf_112 l_X10_288 s_mX10_matches (by decide) rfl rfl f_mX10_matches (Nat.le_of_ble_eq_true rfl) (by decide) (ct_matches hj) ?_
    rintro _ _ ⟨rfl, rfl⟩
    refine g_aload_n dX10_howManyOf_115 rfl ?_
    refine g_iconst (v := 1) dX10_howManyOf_116 (by decide) ?_
    refine g_callV1 (M' := mX10_peopleNow) (mc' := 0) (ms' := 0) dX10_howManyOf_117 l_X10_356 s_mX10_peopleNow (by decide) rfl rfl f_mX10_peopleNow (Nat.le_of_ble_eq_true rfl) (by decide) (ct_peopleNow hj hse hS 1) ?_
    rintro _ _ ⟨rfl, rfl⟩
    refine g_iconst (v := 2) dX10_howManyOf_120 (by decide) ?_
    refine g_idiv dX10_howManyOf_121 (by decide) ?_
    refine g_isub dX10_howManyOf_122 ?_
    exact g_ireturn dX10_howManyOf_123 rfl rfl ⟨rfl, rfl⟩
  | 6, hk =>
    refine g_tableIn (off := 123) 124 dX10_howManyOf_1 (by decide) (by decide) (by decide) (by decide) ?_
    refine g_aload_n dX10_howManyOf_124 rfl ?_
    refine g_geti dX10_howManyOf_125 k_X10_149 rfl (by decide) rfl ?_
    exact g_ireturn dX10_howManyOf_128 rfl rfl ⟨rfl, rfl⟩
  | 7, hk =>
    refine g_tableIn (off := 128) 129 dX10_howManyOf_1 (by decide) (by decide) (by decide) (by decide) ?_
    refine g_aload_n dX10_howManyOf_129 rfl ?_
    refine g_geti dX10_howManyOf_130 k_X10_152 rfl (by decide) rfl ?_
    exact g_ireturn dX10_howManyOf_133 rfl rfl ⟨rfl, rfl⟩
  | 8, hk =>
    refine g_tableIn (off := 133) 134 dX10_howManyOf_1 (by decide) (by decide) (by decide) (by decide) ?_
    refine g_aload_n dX10_howManyOf_134 rfl ?_
    refine g_geti dX10_howManyOf_135 k_X10_143 rfl (by decide) rfl ?_
    exact g_ireturn dX10_howManyOf_138 rfl rfl ⟨rfl, rfl⟩
  | 9, hk =>
    refine g_tableIn (off := 138) 139 dX10_howManyOf_1 (by decide) (by decide) (by decide) (by decide) ?_
    refine g_aload_n dX10_howManyOf_139 rfl ?_
    refine g_geti dX10_howManyOf_140 k_X10_146 rfl (by decide) rfl ?_
    exact g_ireturn dX10_howManyOf_143 rfl rfl ⟨rfl, rfl⟩
  | 10, hk =>
    refine g_tableIn (off := 143) 144 dX10_howManyOf_1 (by decide) (by decide) (by decide) (by decide) ?_
    refine g_aload_n dX10_howManyOf_144 rfl ?_
    refine g_geti dX10_howManyOf_145 k_X10_155 rfl (by decide) rfl ?_
    exact g_ireturn dX10_howManyOf_148 rfl rfl ⟨rfl, rfl⟩
  | 11, hk =>
    refine g_tableIn (off := 148) 149 dX10_howManyOf_1 (by decide) (by decide) (by decide) (by decide) ?_
    refine g_aload_n dX10_howManyOf_149 rfl ?_
    refine g_geti dX10_howManyOf_150 k_X10_158 rfl (by decide) rfl ?_
    exact g_ireturn dX10_howManyOf_153 rfl rfl ⟨rfl, rfl⟩
  | 12, hk =>
    refine g_tableIn (off := 153) 154 dX10_howManyOf_1 (by decide) (by decide) (by decide) (by decide) ?_
    refine g_aload_n dX10_howManyOf_154 rfl ?_
    refine g_geti dX10_howManyOf_155 k_X10_164 rfl (by decide) rfl ?_
    exact g_ireturn dX10_howManyOf_158 rfl rfl ⟨rfl, rfl⟩
  | 13, hk =>
    refine g_tableIn (off := 158) 159 dX10_howManyOf_1 (by decide) (by decide) (by decide) (by decide) ?_
    refine g_aload_n dX10_howManyOf_159 rfl ?_
    refine g_geti dX10_howManyOf_160 k_X10_102 rfl (by decide) rfl ?_
    exact g_ireturn dX10_howManyOf_163 rfl rfl ⟨rfl, rfl⟩
  | 14, hk =>
    refine g_tableIn (off := 163) 164 dX10_howManyOf_1 (by decide) (by decide) (by decide) (by decide) ?_
    refine g_aload_n dX10_howManyOf_164 rfl ?_
    refine g_geti dX10_howManyOf_165 k_X10_161 rfl (by decide) rfl ?_
    exact g_ireturn dX10_howManyOf_168 rfl rfl ⟨rfl, rfl⟩

set_option maxRecDepth 100000 in
set_option maxHeartbeats 4000000 in
theorem ct_howManyOfX (x : Int32) (hx : x.toInt < 0 ∨ 14 < x.toInt) : MC E l 10 mX10_howManyOf [.ref 53, .int x] 83 (hi, hl, RT) 0 0 (fun r h' => r = some (.int (-102)) ∧ h' = (hi, hl, RT)) := by
  refine MC.of [some (.ref 53), some (.int x)] (by decide) rfl (Nat.le_of_ble_eq_true rfl) ?_
  refine g_iload_n dX10_howManyOf_0 rfl ?_
  refine g_tableOut 169 dX10_howManyOf_1 hx (by decide) ?_
  refine g_bipush (v := -102) dX10_howManyOf_169 (by decide) ?_
  exact g_ireturn dX10_howManyOf_171 rfl rfl ⟨rfl, rfl⟩

set_option maxRecDepth 100000 in
set_option maxHeartbeats 4000000 in
theorem ct_mcount {N F : Nat} (hj : MO7 hi N F) {S : Nat} (hse : SE (hi 64) (hi 65) S N) (hS : hi 53 18 = nI S) (k : Nat) (hk : k < 15) : MC E l 11 mX10_count [.ref 53, .int (nI k)] 83 (hi, hl, RT) 0 0 (fun r h' => r = some (.int (hmN hi N F k)) ∧ h' = (hi, hl, RT)) := by
  refine MC.of [some (.ref 53), some (.int (nI k))] (by decide) rfl (Nat.le_of_ble_eq_true rfl) ?_
  refine g_aload_n dX10_count_0 rfl ?_
  refine g_iload_n dX10_count_1 rfl ?_
  refine g_callV1 (M' := mX10_howManyOf) (mc' := 0) (ms' := 0) dX10_count_2 l_X10_359 s_mX10_howManyOf (by decide) rfl rfl f_mX10_howManyOf (Nat.le_of_ble_eq_true rfl) (by decide) (ct_howManyOf hj hse hS k hk) ?_
  rintro _ _ ⟨rfl, rfl⟩
  exact g_ireturn dX10_count_5 rfl rfl ⟨rfl, rfl⟩

set_option maxRecDepth 100000 in
set_option maxHeartbeats 4000000 in
theorem ct_mcountX (x : Int32) (hx : x.toInt < 0 ∨ 14 < x.toInt) : MC E l 11 mX10_count [.ref 53, .int x] 83 (hi, hl, RT) 0 0 (fun r h' => r = some (.int (-102)) ∧ h' = (hi, hl, RT)) := by
  refine MC.of [some (.ref 53), some (.int x)] (by decide) rfl (Nat.le_of_ble_eq_true rfl) ?_
  refine g_aload_n dX10_count_0 rfl ?_
  refine g_iload_n dX10_count_1 rfl ?_
  refine g_callV1 (M' := mX10_howManyOf) (mc' := 0) (ms' := 0) dX10_count_2 l_X10_359 s_mX10_howManyOf (by decide) rfl rfl f_mX10_howManyOf (Nat.le_of_ble_eq_true rfl) (by decide) (ct_howManyOfX x hx) ?_
  rintro _ _ ⟨rfl, rfl⟩
  exact g_ireturn dX10_count_5 rfl rfl ⟨rfl, rfl⟩

end
