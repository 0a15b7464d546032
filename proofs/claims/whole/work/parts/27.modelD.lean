section
variable {E : XE} {l : Launch} {hi : Nat → Nat → Int32} {hl : Nat → Nat → Int64}

theorem MO7.of {f g : Nat → Nat → Int32} {N F : Nat} (h : MO7 f N F) (h1 : g 53 1 = f 53 1) (h2 : g 53 2 = f 53 2) : MO7 g N F := ⟨h.1, h.2.1, h2.trans h.2.2.1, h1.trans h.2.2.2⟩
theorem MO7.up {f : Nat → Nat → Int32} {N F : Nat} (h : MO7 f N F) {a k : Nat} {v : Int32} (ha : a = 53 → k ≠ 1 ∧ k ≠ 2) : MO7 (upI f a k v) N F :=
  h.of (upI_a' (fun q => (ha q.1.symm).1 q.2.symm)) (upI_a' (fun q => (ha q.1.symm).2 q.2.symm))
theorem MO7.sh {f : Nat → Nat → Int32} {N F : Nat} (h : MO7 f N F) (i j : Nat) : MO7 (mShF f N F i j) N F := by
  unfold mShF
  split
  · exact (((h.up (fun q => absurd q (by decide))).up (fun q => absurd q (by decide))).up (fun q => absurd q (by decide))).up (fun _ => by decide)
  · exact ((h.up (fun q => absurd q (by decide))).up (fun q => absurd q (by decide))).up (fun _ => by decide)

set_option maxRecDepth 100000 in
set_option maxHeartbeats 4000000 in
theorem ct_mshowX1 {N F : Nat} (hj : MO7 hi N F) (x y : Int32) (hx : noP x N) : MC E l 4 mX10_show [.ref 53, .int x, .int y] 83 (hi, hl, RT) 0 0 (fun r h' => r = some (.int (-101)) ∧ h' = (hi, hl, RT)) := by
  refine MC.of [some (.ref 53), some (.int x), some (.int y), none] (by decide) rfl (Nat.le_of_ble_eq_true rfl) ?_
  refine g_aload_n dX10_show_0 rfl ?_
  refine g_iload_n dX10_show_1 rfl ?_
  refine g_iload_n dX10_show_2 rfl ?_
  refine g_callV2 (M' := mX10_areTwo) (mc' := 0) (ms' := 0) dX10_show_3 l_X10_208 s_mX10_areTwo (by decide) rfl rfl f_mX10_areTwo (Nat.le_of_ble_eq_true rfl) (by decide) (ct_areTwoN1 hj hx _) ?_
  rintro _ _ ⟨rfl, rfl⟩
  refine g_ifne 12 dX10_show_6 (by decide) (fun c => absurd c (by decide)) (fun _ => ?_)
  refine g_bipush (v := -101) dX10_show_9 (by decide) ?_
  exact g_ireturn dX10_show_11 rfl rfl ⟨rfl, rfl⟩

set_option maxRecDepth 100000 in
set_option maxHeartbeats 4000000 in
theorem ct_mshowX2 {N F : Nat} (hj : MO7 hi N F) {i : Nat} (hi1 : i < N) (x : Int32) (hx : noP x N) : MC E l 4 mX10_show [.ref 53, .int (nI i), .int x] 83 (hi, hl, RT) 0 0 (fun r h' => r = some (.int (-101)) ∧ h' = (hi, hl, RT)) := by
  refine MC.of [some (.ref 53), some (.int (nI i)), some (.int x), none] (by decide) rfl (Nat.le_of_ble_eq_true rfl) ?_
  refine g_aload_n dX10_show_0 rfl ?_
  refine g_iload_n dX10_show_1 rfl ?_
  refine g_iload_n dX10_show_2 rfl ?_
  refine g_callV2 (M' := mX10_areTwo) (mc' := 0) (ms' := 0) dX10_show_3 l_X10_208 s_mX10_areTwo (by decide) rfl rfl f_mX10_areTwo (Nat.le_of_ble_eq_true rfl) (by decide) (ct_areTwoN2 hj hi1 hx) ?_
  rintro _ _ ⟨rfl, rfl⟩
  refine g_ifne 12 dX10_show_6 (by decide) (fun c => absurd c (by decide)) (fun _ => ?_)
  refine g_bipush (v := -101) dX10_show_9 (by decide) ?_
  exact g_ireturn dX10_show_11 rfl rfl ⟨rfl, rfl⟩

set_option maxRecDepth 100000 in
set_option maxHeartbeats 4000000 in
theorem ct_mbackX1 {N F : Nat} (hj : MO7 hi N F) (x y : Int32) (hx : noP x N) : MC E l 4 mX10_back [.ref 53, .int x, .int y] 83 (hi, hl, RT) 0 0 (fun r h' => r = some (.int (-101)) ∧ h' = (hi, hl, RT)) := by
  refine MC.of [some (.ref 53), some (.int x), some (.int y), none] (by decide) rfl (Nat.le_of_ble_eq_true rfl) ?_
  refine g_aload_n dX10_back_0 rfl ?_
  refine g_iload_n dX10_back_1 rfl ?_
  refine g_iload_n dX10_back_2 rfl ?_
  refine g_callV2 (M' := mX10_areTwo) (mc' := 0) (ms' := 0) dX10_back_3 l_X10_208 s_mX10_areTwo (by decide) rfl rfl f_mX10_areTwo (Nat.le_of_ble_eq_true rfl) (by decide) (ct_areTwoN1 hj hx _) ?_
  rintro _ _ ⟨rfl, rfl⟩
  refine g_ifne 12 dX10_back_6 (by decide) (fun c => absurd c (by decide)) (fun _ => ?_)
  refine g_bipush (v := -101) dX10_back_9 (by decide) ?_
  exact g_ireturn dX10_back_11 rfl rfl ⟨rfl, rfl⟩

set_option maxRecDepth 100000 in
set_option maxHeartbeats 4000000 in
theorem ct_mbackX2 {N F : Nat} (hj : MO7 hi N F) {i : Nat} (hi1 : i < N) (x : Int32) (hx : noP x N) : MC E l 4 mX10_back [.ref 53, .int (nI i), .int x] 83 (hi, hl, RT) 0 0 (fun r h' => r = some (.int (-101)) ∧ h' = (hi, hl, RT)) := by
  refine MC.of [some (.ref 53), some (.int (nI i)), some (.int x), none] (by decide) rfl (Nat.le_of_ble_eq_true rfl) ?_
  refine g_aload_n dX10_back_0 rfl ?_
  refine g_iload_n dX10_back_1 rfl ?_
  refine g_iload_n dX10_back_2 rfl ?_
  refine g_callV2 (M' := mX10_areTwo) (mc' := 0) (ms' := 0) dX10_back_3 l_X10_208 s_mX10_areTwo (by decide) rfl rfl f_mX10_areTwo (Nat.le_of_ble_eq_true rfl) (by decide) (ct_areTwoN2 hj hi1 hx) ?_
  rintro _ _ ⟨rfl, rfl⟩
  refine g_ifne 12 dX10_back_6 (by decide) (fun c => absurd c (by decide)) (fun _ => ?_)
  refine g_bipush (v := -101) dX10_back_9 (by decide) ?_
  exact g_ireturn dX10_back_11 rfl rfl ⟨rfl, rfl⟩

set_option maxRecDepth 100000 in
set_option maxHeartbeats 4000000 in
theorem ct_mmeetX1 {N F : Nat} (hj : MO7 hi N F) (x y : Int32) (hx : noP x N) : MC E l 4 mX10_meet [.ref 53, .int x, .int y] 83 (hi, hl, RT) 0 0 (fun r h' => r = some (.int (-101)) ∧ h' = (hi, hl, RT)) := by
  refine MC.of [some (.ref 53), some (.int x), some (.int y)] (by decide) rfl (Nat.le_of_ble_eq_true rfl) ?_
  refine g_aload_n dX10_meet_0 rfl ?_
  refine g_iload_n dX10_meet_1 rfl ?_
  refine g_iload_n dX10_meet_2 rfl ?_
  refine g_callV2 (M' := mX10_areTwo) (mc' := 0) (ms' := 0) dX10_meet_3 l_X10_208 s_mX10_areTwo (by decide) rfl rfl f_mX10_areTwo (Nat.le_of_ble_eq_true rfl) (by decide) (ct_areTwoN1 hj hx _) ?_
  rintro _ _ ⟨rfl, rfl⟩
  refine g_ifne 12 dX10_meet_6 (by decide) (fun c => absurd c (by decide)) (fun _ => ?_)
  refine g_bipush (v := -101) dX10_meet_9 (by decide) ?_
  exact g_ireturn dX10_meet_11 rfl rfl ⟨rfl, rfl⟩

set_option maxRecDepth 100000 in
set_option maxHeartbeats 4000000 in
theorem ct_mmeetX2 {N F : Nat} (hj : MO7 hi N F) {i : Nat} (hi1 : i < N) (x : Int32) (hx : noP x N) : MC E l 4 mX10_meet [.ref 53, .int (nI i), .int x] 83 (hi, hl, RT) 0 0 (fun r h' => r = some (.int (-101)) ∧ h' = (hi, hl, RT)) := by
  refine MC.of [some (.ref 53), some (.int (nI i)), some (.int x)] (by decide) rfl (Nat.le_of_ble_eq_true rfl) ?_
  refine g_aload_n dX10_meet_0 rfl ?_
  refine g_iload_n dX10_meet_1 rfl ?_
  refine g_iload_n dX10_meet_2 rfl ?_
  refine g_callV2 (M' := mX10_areTwo) (mc' := 0) (ms' := 0) dX10_meet_3 l_X10_208 s_mX10_areTwo (by decide) rfl rfl f_mX10_areTwo (Nat.le_of_ble_eq_true rfl) (by decide) (ct_areTwoN2 hj hi1 hx) ?_
  rintro _ _ ⟨rfl, rfl⟩
  refine g_ifne 12 dX10_meet_6 (by decide) (fun c => absurd c (by decide)) (fun _ => ?_)
  refine g_bipush (v := -101) dX10_meet_9 (by decide) ?_
  exact g_ireturn dX10_meet_11 rfl rfl ⟨rfl, rfl⟩

set_option maxRecDepth 100000 in
set_option maxHeartbeats 4000000 in
theorem ct_mshow {N F : Nat} (hj : MO7 hi N F) {i j : Nat} (hi1 : i < N) (hj1 : j < N) : MC E l 6 mX10_show [.ref 53, .int (nI i), .int (nI j)] 83 (hi, hl, RT) 0 0 (fun r h' => (vCan (vm hi N F) i j = false ∧ r = some (.int (-103)) ∧ h' = (hi, hl, RT)) ∨ (vCan (vm hi N F) i j = true ∧ r = some (.int (if vRight (vm hi N F) i j (hi 53 12) = true then (if vMatch (vm (mShF hi N F i j) N F) i j = true then 2 else 1) else 0)) ∧ h' = (mShF hi N F i j, hl, RT))) := by
  refine MC.of [some (.ref 53), some (.int (nI i)), some (.int (nI j)), none] (by decide) rfl (Nat.le_of_ble_eq_true rfl) ?_
  have hj0 := hj
  obtain ⟨hN8, hFN, hN, hF⟩ := hj
  have eci : (nI i).toNatClampNeg = i := nI_clamp (by omega)
  have ecj : (nI j).toNatClampNeg = j := nI_clamp (by omega)
  have m11i := m_11 (hi := hi) (F := F) hi1
  have m11j := m_11 (hi := hi) (F := F) hj1
  refine g_aload_n dX10_show_0 rfl ?_
  refine g_iload_n dX10_show_1 rfl ?_
  refine g_iload_n dX10_show_2 rfl ?_
  refine g_callV2 (M' := mX10_areTwo) (mc' := 0) (ms' := 0) dX10_show_3 l_X10_208 s_mX10_areTwo (by decide) rfl rfl f_mX10_areTwo (Nat.le_of_ble_eq_true rfl) (by decide) (ct_areTwoY hj0 hi1 hj1) ?_
  rintro _ _ ⟨rfl, rfl⟩
  refine g_ifne 12 dX10_show_6 (by decide) (fun _ => ?_) (fun c => absurd c (by decide))
  refine g_aload_n dX10_show_12 rfl ?_
  refine g_iload_n dX10_show_13 rfl ?_
  refine g_iload_n dX10_show_14 rfl ?_
  refine g_callV2 (M' := mX10_areOther) (mc' := 0) (ms' := 0) dX10_show_15 l_X10_174 s_mX10_areOther (by decide) rfl rfl f_mX10_areOther (Nat.le_of_ble_eq_true rfl) (by decide) (ct_areOther hj0 hi1 hj1) ?_
  rintro _ _ ⟨rfl, rfl⟩
  refine g_ifeq 52 dX10_show_18 (by decide) (fun c18 => ?_) (fun c18 => ?_)
  · skip
    refine g_iconst (v := 0) dX10_show_52 (by decide) ?_
    refine g_istore_n dX10_show_53 (by decide) rfl rfl ?_
    refine g_iload_n dX10_show_54 rfl ?_
    refine g_ifne 61 dX10_show_55 (by decide) (fun c => absurd c (by decide)) (fun _ => ?_)
    refine g_bipush (v := -103) dX10_show_58 (by decide) ?_
    exact g_ireturn dX10_show_60 rfl rfl (Or.inl ⟨by have := bI_0.mp c18; simp_all [vCan], rfl, rfl⟩)
  · skip
    refine g_aload_n dX10_show_21 rfl ?_
    refine g_iload_n dX10_show_22 rfl ?_
    refine g_iload_n dX10_show_23 rfl ?_
    refine g_callV2 (M' := mX10_wasShown) (mc' := 0) (ms' := 0) dX10_show_24 l_X10_211 s_mX10_wasShown (by decide) rfl rfl f_mX10_wasShown (Nat.le_of_ble_eq_true rfl) (by decide) (ct_mWasShown hj0 hi1 hj1) ?_
    rintro _ _ ⟨rfl, rfl⟩
    refine g_ifne 52 dX10_show_27 (by decide) (fun c27 => ?_) (fun c27 => ?_)
    · skip
      refine g_iconst (v := 0) dX10_show_52 (by decide) ?_
      refine g_istore_n dX10_show_53 (by decide) rfl rfl ?_
      refine g_iload_n dX10_show_54 rfl ?_
      refine g_ifne 61 dX10_show_55 (by decide) (fun c => absurd c (by decide)) (fun _ => ?_)
      refine g_bipush (v := -103) dX10_show_58 (by decide) ?_
      exact g_ireturn dX10_show_60 rfl rfl (Or.inl ⟨by simp [vCan, bI_n.mp c27], rfl, rfl⟩)
    · skip
      refine g_aload_n dX10_show_30 rfl ?_
      refine g_iload_n dX10_show_31 rfl ?_
      refine g_callV1 (M' := mX10_isFree) (mc' := 0) (ms' := 0) dX10_show_32 l_X10_214 s_mX10_isFree (by decide) rfl rfl f_mX10_isFree (Nat.le_of_ble_eq_true rfl) (by decide) (ct_mFree hj0 hi1) ?_
      rintro _ _ ⟨rfl, rfl⟩
      refine g_ifeq 52 dX10_show_35 (by decide) (fun c35 => ?_) (fun c35 => ?_)
      · skip
        refine g_iconst (v := 0) dX10_show_52 (by decide) ?_
        refine g_istore_n dX10_show_53 (by decide) rfl rfl ?_
        refine g_iload_n dX10_show_54 rfl ?_
        refine g_ifne 61 dX10_show_55 (by decide) (fun c => absurd c (by decide)) (fun _ => ?_)
        refine g_bipush (v := -103) dX10_show_58 (by decide) ?_
        exact g_ireturn dX10_show_60 rfl rfl (Or.inl ⟨by simp [vCan, bI_0.mp c35], rfl, rfl⟩)
      · skip
        refine g_aload_n dX10_show_38 rfl ?_
        refine g_getr dX10_show_39 k_X10_34 rfl (by decide) rfl rfl ?_
        refine g_iload_n dX10_show_42 rfl ?_
        refine g_iald dX10_show_43 (by decide) rfl (vp_in_nI (by omega) (by decide)) ?_
        refine g_iconst (v := -1) dX10_show_44 (by decide) ?_
        refine g_icmpne 52 dX10_show_45 (by decide) (fun c45 => ?_) (fun c45 => ?_)
        · skip
          refine g_iconst (v := 0) dX10_show_52 (by decide) ?_
          refine g_istore_n dX10_show_53 (by decide) rfl rfl ?_
          refine g_iload_n dX10_show_54 rfl ?_
          refine g_ifne 61 dX10_show_55 (by decide) (fun c => absurd c (by decide)) (fun _ => ?_)
          refine g_bipush (v := -103) dX10_show_58 (by decide) ?_
          exact g_ireturn dX10_show_60 rfl rfl (Or.inl ⟨by have z : ¬ vm hi N F 11 j = -1 := (by rw [m11j, ← ecj]; exact c45); simp [vCan, vTaken, z], rfl, rfl⟩)
        · skip
          have z : vm hi N F 11 j = -1 := by rw [m11j, ← ecj]; exact c45
          have hcan : vCan (vm hi N F) i j = true := by simp [vCan, vTaken, bI_n.mp c18, bI_0.mp c27, bI_n.mp c35, z]
          refine g_iconst (v := 1) dX10_show_48 (by decide) ?_
          refine g_goto 53 dX10_show_49 (by decide) ?_
          refine g_istore_n dX10_show_53 (by decide) rfl rfl ?_
          refine g_iload_n dX10_show_54 rfl ?_
          refine g_ifne 61 dX10_show_55 (by decide) (fun _ => ?_) (fun c => absurd c (by decide))
          refine g_aload_n dX10_show_61 rfl ?_
          refine g_iload_n dX10_show_62 rfl ?_
          refine g_iload_n dX10_show_63 rfl ?_
          refine g_callV2 (M' := mX10_shown) (mc' := 0) (ms' := 0) dX10_show_64 l_X10_217 s_mX10_shown (by decide) rfl rfl f_mX10_shown (Nat.le_of_ble_eq_true rfl) (by decide) (ct_mShown hj0 hi1 hj1) ?_
          rintro _ _ ⟨rfl, rfl⟩
          refine g_ifne 74 dX10_show_67 (by decide) (fun c67 => ?_) (fun c67 => ?_)
          · skip
            refine g_aload_n dX10_show_74 rfl ?_
            refine g_iload_n dX10_show_75 rfl ?_
            refine g_iload_n dX10_show_76 rfl ?_
            refine g_callV2 (M' := mX10_isMatch) (mc' := 0) (ms' := 0) dX10_show_77 l_X10_186 s_mX10_isMatch (by decide) rfl rfl f_mX10_isMatch (Nat.le_of_ble_eq_true rfl) (by decide) (ct_mMatch (hj0.sh i j) hi1 hj1) ?_
            rintro _ _ ⟨rfl, rfl⟩
            refine g_ifeq 87 dX10_show_80 (by decide) (fun c80 => ?_) (fun c80 => ?_)
            · skip
              refine g_iconst (v := 1) dX10_show_87 (by decide) ?_
              exact g_ireturn dX10_show_88 rfl rfl (Or.inr ⟨hcan, by rw [if_pos (bI_n.mp c67), if_neg (by rw [bI_0.mp c80]; decide)], rfl⟩)
            · skip
              refine g_iconst (v := 2) dX10_show_83 (by decide) ?_
              refine g_goto 88 dX10_show_84 (by decide) ?_
              exact g_ireturn dX10_show_88 rfl rfl (Or.inr ⟨hcan, by rw [if_pos (bI_n.mp c67), if_pos (bI_n.mp c80)], rfl⟩)
          · skip
            refine g_iconst (v := 0) dX10_show_70 (by decide) ?_
            refine g_goto 88 dX10_show_71 (by decide) ?_
            exact g_ireturn dX10_show_88 rfl rfl (Or.inr ⟨hcan, by rw [if_neg (by rw [bI_0.mp c67]; decide)], rfl⟩)

def mBkF (hi : Nat → Nat → Int32) (i j : Nat) : Nat → Nat → Int32 := upI (upI (upI hi 58 i (hi 58 i &&& (bitI j ^^^ -1))) 59 i (hi 59 i &&& (bitI j ^^^ -1))) 53 16 (hi 53 16 + 1)
set_option maxRecDepth 100000 in
set_option maxHeartbeats 4000000 in
theorem ct_mback {N F : Nat} (hj : MO7 hi N F) {i j : Nat} (hi1 : i < N) (hj1 : j < N) : MC E l 4 mX10_back [.ref 53, .int (nI i), .int (nI j)] 83 (hi, hl, RT) 0 0 (fun r h' => ((vShown (vm hi N F) i j = false ∨ (vm hi N F) 11 i = nI j) ∧ r = some (.int (-103)) ∧ h' = (hi, hl, RT)) ∨ ((vShown (vm hi N F) i j = true ∧ ¬ (vm hi N F) 11 i = nI j) ∧ r = some (.int (bI (vWent (vm hi N F) i j))) ∧ h' = (mBkF hi i j, hl, RT))) := by
  refine MC.of [some (.ref 53), some (.int (nI i)), some (.int (nI j)), none] (by decide) rfl (Nat.le_of_ble_eq_true rfl) ?_
  have hj0 := hj
  obtain ⟨hN8, hFN, hN, hF⟩ := hj
  have eci : (nI i).toNatClampNeg = i := nI_clamp (by omega)
  have ecj : (nI j).toNatClampNeg = j := nI_clamp (by omega)
  have m11i := m_11 (hi := hi) (F := F) hi1
  have m11j := m_11 (hi := hi) (F := F) hj1
  have m7i := m_7 (hi := hi) (F := F) hi1
  have e7 := inI (hi 58 i) (k := j) (by omega)
  refine g_aload_n dX10_back_0 rfl ?_
  refine g_iload_n dX10_back_1 rfl ?_
  refine g_iload_n dX10_back_2 rfl ?_
  refine g_callV2 (M' := mX10_areTwo) (mc' := 0) (ms' := 0) dX10_back_3 l_X10_208 s_mX10_areTwo (by decide) rfl rfl f_mX10_areTwo (Nat.le_of_ble_eq_true rfl) (by decide) (ct_areTwoY hj0 hi1 hj1) ?_
  rintro _ _ ⟨rfl, rfl⟩
  refine g_ifne 12 dX10_back_6 (by decide) (fun _ => ?_) (fun c => absurd c (by decide))
  refine g_aload_n dX10_back_12 rfl ?_
  refine g_iload_n dX10_back_13 rfl ?_
  refine g_iload_n dX10_back_14 rfl ?_
  refine g_callV2 (M' := mX10_wasShown) (mc' := 0) (ms' := 0) dX10_back_15 l_X10_211 s_mX10_wasShown (by decide) rfl rfl f_mX10_wasShown (Nat.le_of_ble_eq_true rfl) (by decide) (ct_mWasShown hj0 hi1 hj1) ?_
  rintro _ _ ⟨rfl, rfl⟩
  refine g_ifeq 31 dX10_back_18 (by decide) (fun c18 => ?_) (fun c18 => ?_)
  · skip
    refine g_bipush (v := -103) dX10_back_31 (by decide) ?_
    exact g_ireturn dX10_back_33 rfl rfl (Or.inl ⟨Or.inl (bI_0.mp c18), rfl, rfl⟩)
  · skip
    refine g_aload_n dX10_back_21 rfl ?_
    refine g_getr dX10_back_22 k_X10_34 rfl (by decide) rfl rfl ?_
    refine g_iload_n dX10_back_25 rfl ?_
    refine g_iald dX10_back_26 (by decide) rfl (vp_in_nI (by omega) (by decide)) ?_
    refine g_iload_n dX10_back_27 rfl ?_
    refine g_icmpne 34 dX10_back_28 (by decide) (fun c28 => ?_) (fun c28 => ?_)
    · skip
      refine g_aload_n dX10_back_34 rfl ?_
      refine g_getr dX10_back_35 k_X10_22 rfl (by decide) rfl rfl ?_
      refine g_iload_n dX10_back_38 rfl ?_
      refine g_iald dX10_back_39 (by decide) rfl (vp_in_nI (by omega) (by decide)) ?_
      refine g_iload_n dX10_back_40 rfl ?_
      refine g_ishr dX10_back_41 ?_
      refine g_iconst (v := 1) dX10_back_42 (by decide) ?_
      refine g_iand dX10_back_43 ?_
      refine g_istore_n dX10_back_44 (by decide) rfl rfl ?_
      refine g_aload_n dX10_back_45 rfl ?_
      refine g_getr dX10_back_46 k_X10_22 rfl (by decide) rfl rfl ?_
      refine g_iload_n dX10_back_49 rfl ?_
      refine g_dup2 dX10_back_50 rfl rfl ?_
      refine g_iald dX10_back_51 (by decide) rfl (vp_in_nI (by omega) (by decide)) ?_
      refine g_iconst (v := 1) dX10_back_52 (by decide) ?_
      refine g_iload_n dX10_back_53 rfl ?_
      refine g_ishl dX10_back_54 ?_
      refine g_iconst (v := -1) dX10_back_55 (by decide) ?_
      refine g_ixor dX10_back_56 ?_
      refine g_iand dX10_back_57 ?_
      refine g_iast dX10_back_58 (by decide) rfl (vp_in_nI (by omega) (by decide)) ?_
      refine g_aload_n dX10_back_59 rfl ?_
      refine g_getr dX10_back_60 k_X10_25 rfl (by decide) rfl rfl ?_
      refine g_iload_n dX10_back_63 rfl ?_
      refine g_dup2 dX10_back_64 rfl rfl ?_
      refine g_iald dX10_back_65 (by decide) rfl (vp_in_nI (by omega) (by decide)) ?_
      refine g_iconst (v := 1) dX10_back_66 (by decide) ?_
      refine g_iload_n dX10_back_67 rfl ?_
      refine g_ishl dX10_back_68 ?_
      refine g_iconst (v := -1) dX10_back_69 (by decide) ?_
      refine g_ixor dX10_back_70 ?_
      refine g_iand dX10_back_71 ?_
      refine g_iast dX10_back_72 (by decide) rfl (vp_in_nI (by omega) (by decide)) ?_
      refine g_aload_n dX10_back_73 rfl ?_
      refine g_dup dX10_back_74 rfl ?_
      refine g_geti dX10_back_75 k_X10_155 rfl (by decide) rfl ?_
      refine g_iconst (v := 1) dX10_back_78 (by decide) ?_
      refine g_iadd dX10_back_79 ?_
      refine g_puti dX10_back_80 k_X10_155 rfl (by decide) rfl rfl rfl ?_
      refine g_iload_n dX10_back_83 rfl ?_
      exact g_ireturn dX10_back_84 rfl rfl (Or.inr ⟨⟨bI_n.mp c18, fun q => c28 (by show hi 62 (nI i).toNatClampNeg = nI j; rw [eci, ← m11i]; exact q)⟩, by rw [vWent, m7i, ← e7, eci], by rw [mBkF, eci]; rfl⟩)
    · skip
      refine g_bipush (v := -103) dX10_back_31 (by decide) ?_
      exact g_ireturn dX10_back_33 rfl rfl (Or.inl ⟨Or.inr (by rw [m11i, ← eci]; exact c28), rfl, rfl⟩)

def mdF (hi : Nat → Nat → Int32) (i : Nat) : Nat → Nat → Int32 := fun a k => if a = 61 ∧ k < i then 0 else hi a k
theorem md_0 (hi : Nat → Nat → Int32) : mdF hi 0 = hi := by
  funext a k
  exact if_neg (by omega)
theorem md_step (hi : Nat → Nat → Int32) (i : Nat) : upI (mdF hi i) 61 i 0 = mdF hi (i + 1) := by
  funext a k
  unfold upI mdF
  by_cases h1 : a = 61 ∧ k = i
  · rw [if_pos h1, if_pos (by omega)]
  · rw [if_neg h1]
    by_cases h2 : a = 61 ∧ k < i
    · rw [if_pos h2, if_pos (by omega)]
    · rw [if_neg h2, if_neg (by omega)]
theorem md_off {hi : Nat → Nat → Int32} {i a : Nat} (h : ¬ a = 61) (k : Nat) : mdF hi i a k = hi a k := if_neg (fun q => h q.1)
theorem m_md {hi : Nat → Nat → Int32} {N F : Nat} : vm (mdF hi N) N F = sdV (vm hi N F) N := by
  funext s i
  unfold vm sdV mdF
  dsimp only
  by_cases q : i < N ∧ 2 ≤ s ∧ s ≤ 11
  · rw [if_pos q, if_pos q]
    by_cases s3 : s = 3
    · rw [if_pos s3, if_neg (by omega), if_pos s3]
    · rw [if_neg s3, if_neg s3]
      by_cases z : s = 10
      · have w : (if s = 2 then 54 else 51 + s) = 61 ∧ i < N := by rw [if_neg (by omega)]; omega
        rw [if_pos w, if_pos ⟨q.1, z⟩]
      · have w : ¬ ((if s = 2 then 54 else 51 + s) = 61 ∧ i < N) := by split <;> omega
        rw [if_neg w, if_neg (c := i < N ∧ s = 10) (by omega)]
  · rw [if_neg q, if_neg q]
    split <;> rfl

set_option maxRecDepth 100000 in
set_option maxHeartbeats 4000000 in
theorem lp_mday {N F : Nat} (hj : MO7 hi N F) : ∀ (n i : Nat), i ≤ N → N + 1 ≤ i + n → G E l 2 mX10_day 24 [some (.ref 53), some (.int (nI i))] [] 83 (mdF hi i, hl, RT) 0 0 (fun r h' => r = some (.int (hi 53 13 + 1)) ∧ h' = (upI (mdF hi N) 53 13 (hi 53 13 + 1), hl, RT)) := by
  intro n
  induction n with
  | zero =>
    intro i h1 h2
    exact absurd h2 (by omega)
  | succ n ih =>
    intro i hi1 hi2
    have hN8 := hj.1
    have hN : mdF hi i 53 2 = nI N := (md_off (by decide) 2).trans hj.2.2.1
    have eci : (nI i).toNatClampNeg = i := nI_clamp (by omega)
    refine g_iload_n dX10_day_24 rfl ?_
    refine g_aload_n dX10_day_25 rfl ?_
    refine g_geti dX10_day_26 k_X10_140 rfl (by decide) rfl ?_
    refine g_icmpge 45 dX10_day_29 (by decide) (fun c29 => ?_) (fun c29 => ?_)
    · skip
      have hiN : i = N := Nat.le_antisymm hi1 (ge_out hN c29 (by omega) (by omega))
      refine g_aload_n dX10_day_45 rfl ?_
      refine g_dup dX10_day_46 rfl ?_
      refine g_geti dX10_day_47 k_X10_146 rfl (by decide) rfl ?_
      refine g_iconst (v := 1) dX10_day_50 (by decide) ?_
      refine g_iadd dX10_day_51 ?_
      refine g_puti dX10_day_52 k_X10_146 rfl (by decide) rfl rfl rfl ?_
      refine g_aload_n dX10_day_55 rfl ?_
      refine g_geti dX10_day_56 k_X10_146 rfl (by decide) rfl ?_
      exact g_ireturn dX10_day_59 rfl rfl ⟨by show some (Value.int (upI (mdF hi i) 53 13 (mdF hi i 53 13 + 1) 53 13)) = _; rw [upI_s, md_off (by decide)], by show (upI (mdF hi i) 53 13 (mdF hi i 53 13 + 1), hl, RT) = _; rw [md_off (by decide), hiN]⟩
    · skip
      have hlt : i < N := lt_in hN c29 (by omega) (by omega)
      refine g_aload_n dX10_day_32 rfl ?_
      refine g_getr dX10_day_33 k_X10_31 rfl (by decide) rfl rfl ?_
      refine g_iload_n dX10_day_36 rfl ?_
      refine g_iconst (v := 0) dX10_day_37 (by decide) ?_
      refine g_iast dX10_day_38 (by decide) rfl (vp_in_nI (by omega) (by decide)) ?_
      refine g_iinc dX10_day_39 rfl (nI_inc i) (by decide) rfl rfl ?_
      refine g_goto 24 dX10_day_42 (by decide) ?_
      rw [eci, md_step]
      exact ih (i + 1) (by omega) (by omega)

set_option maxRecDepth 100000 in
set_option maxHeartbeats 4000000 in
theorem ct_mdayE (hE : hi 53 2 = 0) : MC E l 2 mX10_day [.ref 53] 83 (hi, hl, RT) 0 0 (fun r h' => r = some (.int (-103)) ∧ h' = (hi, hl, RT)) := by
  refine MC.of [some (.ref 53), none] (by decide) rfl (Nat.le_of_ble_eq_true rfl) ?_
  refine g_aload_n dX10_day_0 rfl ?_
  refine g_geti dX10_day_1 k_X10_140 rfl (by decide) rfl ?_
  refine g_ifne 10 dX10_day_4 (by decide) (fun c4 => ?_) (fun c4 => ?_)
  · skip
    exact absurd hE c4
  · skip
    refine g_bipush (v := -103) dX10_day_7 (by decide) ?_
    exact g_ireturn dX10_day_9 rfl rfl ⟨rfl, rfl⟩

set_option maxRecDepth 100000 in
set_option maxHeartbeats 4000000 in
theorem ct_mdayF {N F : Nat} (hj : MO7 hi N F) (hE : 0 < N) (hd : hi 53 13 = 99) : MC E l 2 mX10_day [.ref 53] 83 (hi, hl, RT) 0 0 (fun r h' => r = some (.int (-104)) ∧ h' = (hi, hl, RT)) := by
  refine MC.of [some (.ref 53), none] (by decide) rfl (Nat.le_of_ble_eq_true rfl) ?_
  refine g_aload_n dX10_day_0 rfl ?_
  refine g_geti dX10_day_1 k_X10_140 rfl (by decide) rfl ?_
  refine g_ifne 10 dX10_day_4 (by decide) (fun c4 => ?_) (fun c4 => ?_)
  · skip
    refine g_aload_n dX10_day_10 rfl ?_
    refine g_geti dX10_day_11 k_X10_146 rfl (by decide) rfl ?_
    refine g_bipush (v := 99) dX10_day_14 (by decide) ?_
    refine g_icmpne 22 dX10_day_16 (by decide) (fun c16 => ?_) (fun c16 => ?_)
    · skip
      exact absurd hd c16
    · skip
      refine g_bipush (v := -104) dX10_day_19 (by decide) ?_
      exact g_ireturn dX10_day_21 rfl rfl ⟨rfl, rfl⟩
  · skip
    exact absurd (hj.2.2.1.symm.trans c4) (nI_ne0 hE (by have := hj.1; omega))

set_option maxRecDepth 100000 in
set_option maxHeartbeats 4000000 in
theorem ct_mday {N F : Nat} (hj : MO7 hi N F) (hE : 0 < N) (hd : ¬ hi 53 13 = 99) : MC E l 2 mX10_day [.ref 53] 83 (hi, hl, RT) 0 0 (fun r h' => r = some (.int (hi 53 13 + 1)) ∧ h' = (upI (mdF hi N) 53 13 (hi 53 13 + 1), hl, RT)) := by
  refine MC.of [some (.ref 53), none] (by decide) rfl (Nat.le_of_ble_eq_true rfl) ?_
  refine g_aload_n dX10_day_0 rfl ?_
  refine g_geti dX10_day_1 k_X10_140 rfl (by decide) rfl ?_
  refine g_ifne 10 dX10_day_4 (by decide) (fun c4 => ?_) (fun c4 => ?_)
  · skip
    refine g_aload_n dX10_day_10 rfl ?_
    refine g_geti dX10_day_11 k_X10_146 rfl (by decide) rfl ?_
    refine g_bipush (v := 99) dX10_day_14 (by decide) ?_
    refine g_icmpne 22 dX10_day_16 (by decide) (fun c16 => ?_) (fun c16 => ?_)
    · skip
      refine g_iconst (v := 0) dX10_day_22 (by decide) ?_
      refine g_istore_n dX10_day_23 (by decide) rfl rfl ?_
      have hh := lp_mday (E := E) (l := l) (hl := hl) hj (N + 1) 0 (by omega) (by omega)
      rw [md_0] at hh
      exact hh
    · skip
      exact absurd c16 hd
  · skip
    exact absurd (hj.2.2.1.symm.trans c4) (nI_ne0 hE (by have := hj.1; omega))

set_option maxRecDepth 100000 in
set_option maxHeartbeats 4000000 in
theorem ct_mmeet {N F : Nat} (hj : MO7 hi N F) {i j : Nat} (hi1 : i < N) (hj1 : j < N) : MC E l 4 mX10_meet [.ref 53, .int (nI i), .int (nI j)] 83 (hi, hl, RT) 0 0 (fun r h' => ((vMatch (vm hi N F) i j && (!vTaken (vm hi N F) i && !vTaken (vm hi N F) j)) = false ∧ r = some (.int (-103)) ∧ h' = (hi, hl, RT)) ∨ ((vMatch (vm hi N F) i j && (!vTaken (vm hi N F) i && !vTaken (vm hi N F) j)) = true ∧ (vCont (vm hi N F) i ((vm hi N F) 6 i) ((vm hi N F) 4 j) && vCont (vm hi N F) j ((vm hi N F) 6 j) ((vm hi N F) 4 i)) = true ∧ r = some (.int 1) ∧ h' = (upI (upI (upI hi 53 17 (hi 53 17 + 1)) 62 i (nI j)) 62 j (nI i), hl, RT)) ∨ ((vMatch (vm hi N F) i j && (!vTaken (vm hi N F) i && !vTaken (vm hi N F) j)) = true ∧ (vCont (vm hi N F) i ((vm hi N F) 6 i) ((vm hi N F) 4 j) && vCont (vm hi N F) j ((vm hi N F) 6 j) ((vm hi N F) 4 i)) = false ∧ r = some (.int 0) ∧ h' = (mLvF (mLvF (upI hi 53 17 (hi 53 17 + 1)) i j) j i, hl, RT))) := by
  refine MC.of [some (.ref 53), some (.int (nI i)), some (.int (nI j))] (by decide) rfl (Nat.le_of_ble_eq_true rfl) ?_
  have hj0 := hj
  obtain ⟨hN8, hFN, hN, hF⟩ := hj
  have eci : (nI i).toNatClampNeg = i := nI_clamp (by omega)
  have ecj : (nI j).toNatClampNeg = j := nI_clamp (by omega)
  have m11i := m_11 (hi := hi) (F := F) hi1
  have m11j := m_11 (hi := hi) (F := F) hj1
  have e17 : vm (upI hi 53 17 (hi 53 17 + 1)) N F = vm hi N F := m_off (by omega) _
  have hj17 : MO7 (upI hi 53 17 (hi 53 17 + 1)) N F := hj0.up (fun _ => by decide)
  refine g_aload_n dX10_meet_0 rfl ?_
  refine g_iload_n dX10_meet_1 rfl ?_
  refine g_iload_n dX10_meet_2 rfl ?_
  refine g_callV2 (M' := mX10_areTwo) (mc' := 0) (ms' := 0) dX10_meet_3 l_X10_208 s_mX10_areTwo (by decide) rfl rfl f_mX10_areTwo (Nat.le_of_ble_eq_true rfl) (by decide) (ct_areTwoY hj0 hi1 hj1) ?_
  rintro _ _ ⟨rfl, rfl⟩
  refine g_ifne 12 dX10_meet_6 (by decide) (fun _ => ?_) (fun c => absurd c (by decide))
  refine g_aload_n dX10_meet_12 rfl ?_
  refine g_iload_n dX10_meet_13 rfl ?_
  refine g_iload_n dX10_meet_14 rfl ?_
  refine g_callV2 (M' := mX10_isMatch) (mc' := 0) (ms' := 0) dX10_meet_15 l_X10_186 s_mX10_isMatch (by decide) rfl rfl f_mX10_isMatch (Nat.le_of_ble_eq_true rfl) (by decide) (ct_mMatch hj0 hi1 hj1) ?_
  rintro _ _ ⟨rfl, rfl⟩
  refine g_ifeq 41 dX10_meet_18 (by decide) (fun c18 => ?_) (fun c18 => ?_)
  · skip
    refine g_bipush (v := -103) dX10_meet_41 (by decide) ?_
    exact g_ireturn dX10_meet_43 rfl rfl (Or.inl ⟨by simp [bI_0.mp c18], rfl, rfl⟩)
  · skip
    refine g_aload_n dX10_meet_21 rfl ?_
    refine g_getr dX10_meet_22 k_X10_34 rfl (by decide) rfl rfl ?_
    refine g_iload_n dX10_meet_25 rfl ?_
    refine g_iald dX10_meet_26 (by decide) rfl (vp_in_nI (by omega) (by decide)) ?_
    refine g_iconst (v := -1) dX10_meet_27 (by decide) ?_
    refine g_icmpne 41 dX10_meet_28 (by decide) (fun c28 => ?_) (fun c28 => ?_)
    · skip
      refine g_bipush (v := -103) dX10_meet_41 (by decide) ?_
      exact g_ireturn dX10_meet_43 rfl rfl (Or.inl ⟨by have z1 : ¬ vm hi N F 11 i = -1 := (by rw [m11i, ← eci]; exact c28); simp [vTaken, z1], rfl, rfl⟩)
    · skip
      refine g_aload_n dX10_meet_31 rfl ?_
      refine g_getr dX10_meet_32 k_X10_34 rfl (by decide) rfl rfl ?_
      refine g_iload_n dX10_meet_35 rfl ?_
      refine g_iald dX10_meet_36 (by decide) rfl (vp_in_nI (by omega) (by decide)) ?_
      refine g_iconst (v := -1) dX10_meet_37 (by decide) ?_
      refine g_icmpeq 44 dX10_meet_38 (by decide) (fun c38 => ?_) (fun c38 => ?_)
      · skip
        refine g_aload_n dX10_meet_44 rfl ?_
        refine g_dup dX10_meet_45 rfl ?_
        refine g_geti dX10_meet_46 k_X10_158 rfl (by decide) rfl ?_
        refine g_iconst (v := 1) dX10_meet_49 (by decide) ?_
        refine g_iadd dX10_meet_50 ?_
        refine g_puti dX10_meet_51 k_X10_158 rfl (by decide) rfl rfl rfl ?_
        refine g_aload_n dX10_meet_54 rfl ?_
        refine g_iload_n dX10_meet_55 rfl ?_
        refine g_iload_n dX10_meet_56 rfl ?_
        refine g_callV2 (M' := mX10_isContent) (mc' := 0) (ms' := 0) dX10_meet_57 l_X10_220 s_mX10_isContent (by decide) rfl rfl f_mX10_isContent (Nat.le_of_ble_eq_true rfl) (by decide) ((ct_mContent (hi := (upI hi 53 17 (hi 53 17 + 1))) hj17 hi1 hj1).weaken (fun r h' q => (⟨by rw [q.1, e17], q.2⟩ : r = some (.int (bI (vCont (vm hi N F) i ((vm hi N F) 6 i) ((vm hi N F) 4 j)))) ∧ h' = ((upI hi 53 17 (hi 53 17 + 1)), hl, RT)))) ?_
        rintro _ _ ⟨rfl, rfl⟩
        refine g_ifeq 88 dX10_meet_60 (by decide) (fun c60 => ?_) (fun c60 => ?_)
        · skip
          refine g_aload_n dX10_meet_88 rfl ?_
          refine g_iload_n dX10_meet_89 rfl ?_
          refine g_iload_n dX10_meet_90 rfl ?_
          refine g_callV2 (M' := mX10_leaves) (mc' := 0) (ms' := 0) dX10_meet_91 l_X10_223 s_mX10_leaves (by decide) rfl rfl f_mX10_leaves (Nat.le_of_ble_eq_true rfl) (by decide) (ct_leaves hN8 hi1 hj1) ?_
          rintro _ _ ⟨rfl, rfl⟩
          refine g_aload_n dX10_meet_94 rfl ?_
          refine g_iload_n dX10_meet_95 rfl ?_
          refine g_iload_n dX10_meet_96 rfl ?_
          refine g_callV2 (M' := mX10_leaves) (mc' := 0) (ms' := 0) dX10_meet_97 l_X10_223 s_mX10_leaves (by decide) rfl rfl f_mX10_leaves (Nat.le_of_ble_eq_true rfl) (by decide) (ct_leaves hN8 hj1 hi1) ?_
          rintro _ _ ⟨rfl, rfl⟩
          refine g_iconst (v := 0) dX10_meet_100 (by decide) ?_
          exact g_ireturn dX10_meet_101 rfl rfl (Or.inr (Or.inr ⟨by have z1 : vm hi N F 11 i = -1 := (by rw [m11i, ← eci]; exact c28); have z2 : vm hi N F 11 j = -1 := (by rw [m11j, ← ecj]; exact c38); simp [vTaken, z1, z2, bI_n.mp c18], Bool.and_eq_false_iff.mpr (Or.inl (bI_0.mp c60)), rfl, rfl⟩))
        · skip
          refine g_aload_n dX10_meet_63 rfl ?_
          refine g_iload_n dX10_meet_64 rfl ?_
          refine g_iload_n dX10_meet_65 rfl ?_
          refine g_callV2 (M' := mX10_isContent) (mc' := 0) (ms' := 0) dX10_meet_66 l_X10_220 s_mX10_isContent (by decide) rfl rfl f_mX10_isContent (Nat.le_of_ble_eq_true rfl) (by decide) ((ct_mContent (hi := (upI hi 53 17 (hi 53 17 + 1))) hj17 hj1 hi1).weaken (fun r h' q => (⟨by rw [q.1, e17], q.2⟩ : r = some (.int (bI (vCont (vm hi N F) j ((vm hi N F) 6 j) ((vm hi N F) 4 i)))) ∧ h' = ((upI hi 53 17 (hi 53 17 + 1)), hl, RT)))) ?_
          rintro _ _ ⟨rfl, rfl⟩
          refine g_ifeq 88 dX10_meet_69 (by decide) (fun c69 => ?_) (fun c69 => ?_)
          · skip
            refine g_aload_n dX10_meet_88 rfl ?_
            refine g_iload_n dX10_meet_89 rfl ?_
            refine g_iload_n dX10_meet_90 rfl ?_
            refine g_callV2 (M' := mX10_leaves) (mc' := 0) (ms' := 0) dX10_meet_91 l_X10_223 s_mX10_leaves (by decide) rfl rfl f_mX10_leaves (Nat.le_of_ble_eq_true rfl) (by decide) (ct_leaves hN8 hi1 hj1) ?_
            rintro _ _ ⟨rfl, rfl⟩
            refine g_aload_n dX10_meet_94 rfl ?_
            refine g_iload_n dX10_meet_95 rfl ?_
            refine g_iload_n dX10_meet_96 rfl ?_
            refine g_callV2 (M' := mX10_leaves) (mc' := 0) (ms' := 0) dX10_meet_97 l_X10_223 s_mX10_leaves (by decide) rfl rfl f_mX10_leaves (Nat.le_of_ble_eq_true rfl) (by decide) (ct_leaves hN8 hj1 hi1) ?_
            rintro _ _ ⟨rfl, rfl⟩
            refine g_iconst (v := 0) dX10_meet_100 (by decide) ?_
            exact g_ireturn dX10_meet_101 rfl rfl (Or.inr (Or.inr ⟨by have z1 : vm hi N F 11 i = -1 := (by rw [m11i, ← eci]; exact c28); have z2 : vm hi N F 11 j = -1 := (by rw [m11j, ← ecj]; exact c38); simp [vTaken, z1, z2, bI_n.mp c18], Bool.and_eq_false_iff.mpr (Or.inr (bI_0.mp c69)), rfl, rfl⟩))
          · skip
            refine g_aload_n dX10_meet_72 rfl ?_
            refine g_getr dX10_meet_73 k_X10_34 rfl (by decide) rfl rfl ?_
            refine g_iload_n dX10_meet_76 rfl ?_
            refine g_iload_n dX10_meet_77 rfl ?_
            refine g_iast dX10_meet_78 (by decide) rfl (vp_in_nI (by omega) (by decide)) ?_
            refine g_aload_n dX10_meet_79 rfl ?_
            refine g_getr dX10_meet_80 k_X10_34 rfl (by decide) rfl rfl ?_
            refine g_iload_n dX10_meet_83 rfl ?_
            refine g_iload_n dX10_meet_84 rfl ?_
            refine g_iast dX10_meet_85 (by decide) rfl (vp_in_nI (by omega) (by decide)) ?_
            refine g_iconst (v := 1) dX10_meet_86 (by decide) ?_
            exact g_ireturn dX10_meet_87 rfl rfl (Or.inr (Or.inl ⟨by have z1 : vm hi N F 11 i = -1 := (by rw [m11i, ← eci]; exact c28); have z2 : vm hi N F 11 j = -1 := (by rw [m11j, ← ecj]; exact c38); simp [vTaken, z1, z2, bI_n.mp c18], Bool.and_eq_true_iff.mpr ⟨bI_n.mp c60, bI_n.mp c69⟩, rfl, by rw [eci, ecj]⟩))
      · skip
        refine g_bipush (v := -103) dX10_meet_41 (by decide) ?_
        exact g_ireturn dX10_meet_43 rfl rfl (Or.inl ⟨by have z2 : ¬ vm hi N F 11 j = -1 := (by rw [m11j, ← ecj]; exact c38); simp [vTaken, z2], rfl, rfl⟩)

set_option maxRecDepth 100000 in
set_option maxHeartbeats 4000000 in
theorem ct_mpartX {N F : Nat} (hj : MO7 hi N F) (x : Int32) (hx : noP x N) : MC E l 3 mX10_part [.ref 53, .int x] 83 (hi, hl, RT) 0 0 (fun r h' => r = some (.int (-101)) ∧ h' = (hi, hl, RT)) := by
  refine MC.of [some (.ref 53), some (.int x), none] (by decide) rfl (Nat.le_of_ble_eq_true rfl) ?_
  refine g_aload_n dX10_part_0 rfl ?_
  refine g_iload_n dX10_part_1 rfl ?_
  refine g_callV1 (M' := mX10_isPerson) (mc' := 0) (ms' := 0) dX10_part_2 l_X10_167 s_mX10_isPerson (by decide) rfl rfl f_mX10_isPerson (Nat.le_of_ble_eq_true rfl) (by decide) (ct_isPersonN hj hx) ?_
  rintro _ _ ⟨rfl, rfl⟩
  refine g_ifne 11 dX10_part_5 (by decide) (fun c => absurd c (by decide)) (fun _ => ?_)
  refine g_bipush (v := -101) dX10_part_8 (by decide) ?_
  exact g_ireturn dX10_part_10 rfl rfl ⟨rfl, rfl⟩

set_option maxRecDepth 100000 in
set_option maxHeartbeats 4000000 in
theorem ct_mpartE {N F : Nat} (hj : MO7 hi N F) {i : Nat} (hi1 : i < N) (hy : hi 62 i = -1) : MC E l 3 mX10_part [.ref 53, .int (nI i)] 83 (hi, hl, RT) 0 0 (fun r h' => r = some (.int (-103)) ∧ h' = (hi, hl, RT)) := by
  refine MC.of [some (.ref 53), some (.int (nI i)), none] (by decide) rfl (Nat.le_of_ble_eq_true rfl) ?_
  have hj0 := hj
  obtain ⟨hN8, hFN, hN, hF⟩ := hj
  have eci : (nI i).toNatClampNeg = i := nI_clamp (by omega)
  refine g_aload_n dX10_part_0 rfl ?_
  refine g_iload_n dX10_part_1 rfl ?_
  refine g_callV1 (M' := mX10_isPerson) (mc' := 0) (ms' := 0) dX10_part_2 l_X10_167 s_mX10_isPerson (by decide) rfl rfl f_mX10_isPerson (Nat.le_of_ble_eq_true rfl) (by decide) (ct_isPersonY hj0 hi1) ?_
  rintro _ _ ⟨rfl, rfl⟩
  refine g_ifne 11 dX10_part_5 (by decide) (fun _ => ?_) (fun c => absurd c (by decide))
  refine g_aload_n dX10_part_11 rfl ?_
  refine g_getr dX10_part_12 k_X10_34 rfl (by decide) rfl rfl ?_
  refine g_iload_n dX10_part_15 rfl ?_
  refine g_iald dX10_part_16 (by decide) rfl (vp_in_nI (by omega) (by decide)) ?_
  refine g_istore_n dX10_part_17 (by decide) rfl rfl ?_
  refine g_iload_n dX10_part_18 rfl ?_
  refine g_iconst (v := -1) dX10_part_19 (by decide) ?_
  refine g_icmpne 26 dX10_part_20 (by decide) (fun c20 => ?_) (fun c20 => ?_)
  · skip
    exact absurd (by show hi 62 (nI i).toNatClampNeg = -1; rw [eci]; exact hy) c20
  · skip
    refine g_bipush (v := -103) dX10_part_23 (by decide) ?_
    exact g_ireturn dX10_part_25 rfl rfl ⟨rfl, rfl⟩

set_option maxRecDepth 100000 in
set_option maxHeartbeats 4000000 in
theorem ct_mpart {N F : Nat} (hj : MO7 hi N F) {i j : Nat} (hi1 : i < N) (hj1 : j < N) (hy : hi 62 i = nI j) : MC E l 3 mX10_part [.ref 53, .int (nI i)] 83 (hi, hl, RT) 0 0 (fun r h' => r = some (.int (nI j)) ∧ h' = (mLvF (mLvF (upI (upI hi 62 i (-1)) 62 j (-1)) i j) j i, hl, RT)) := by
  refine MC.of [some (.ref 53), some (.int (nI i)), none] (by decide) rfl (Nat.le_of_ble_eq_true rfl) ?_
  have hj0 := hj
  obtain ⟨hN8, hFN, hN, hF⟩ := hj
  have eci : (nI i).toNatClampNeg = i := nI_clamp (by omega)
  have ecj : (nI j).toNatClampNeg = j := nI_clamp (by omega)
  refine g_aload_n dX10_part_0 rfl ?_
  refine g_iload_n dX10_part_1 rfl ?_
  refine g_callV1 (M' := mX10_isPerson) (mc' := 0) (ms' := 0) dX10_part_2 l_X10_167 s_mX10_isPerson (by decide) rfl rfl f_mX10_isPerson (Nat.le_of_ble_eq_true rfl) (by decide) (ct_isPersonY hj0 hi1) ?_
  rintro _ _ ⟨rfl, rfl⟩
  refine g_ifne 11 dX10_part_5 (by decide) (fun _ => ?_) (fun c => absurd c (by decide))
  refine g_aload_n dX10_part_11 rfl ?_
  refine g_getr dX10_part_12 k_X10_34 rfl (by decide) rfl rfl ?_
  refine g_iload_n dX10_part_15 rfl ?_
  refine g_iald dX10_part_16 (by decide) rfl (vp_in_nI (by omega) (by decide)) ?_
  rw [eci, show (hi, hl, RT).1 62 i = nI j from hy]
  refine g_istore_n dX10_part_17 (by decide) rfl rfl ?_
  refine g_iload_n dX10_part_18 rfl ?_
  refine g_iconst (v := -1) dX10_part_19 (by decide) ?_
  refine g_icmpne 26 dX10_part_20 (by decide) (fun c20 => ?_) (fun c20 => ?_)
  · skip
    refine g_aload_n dX10_part_26 rfl ?_
    refine g_getr dX10_part_27 k_X10_34 rfl (by decide) rfl rfl ?_
    refine g_iload_n dX10_part_30 rfl ?_
    refine g_iconst (v := -1) dX10_part_31 (by decide) ?_
    refine g_iast dX10_part_32 (by decide) rfl (vp_in_nI (by omega) (by decide)) ?_
    refine g_aload_n dX10_part_33 rfl ?_
    refine g_getr dX10_part_34 k_X10_34 rfl (by decide) rfl rfl ?_
    refine g_iload_n dX10_part_37 rfl ?_
    refine g_iconst (v := -1) dX10_part_38 (by decide) ?_
    refine g_iast dX10_part_39 (by decide) rfl (vp_in_nI (by omega) (by decide)) ?_
    refine g_aload_n dX10_part_40 rfl ?_
    refine g_iload_n dX10_part_41 rfl ?_
    refine g_iload_n dX10_part_42 rfl ?_
    refine g_callV2 (M' := mX10_leaves) (mc' := 0) (ms' := 0) dX10_part_43 l_X10_223 s_mX10_leaves (by decide) rfl rfl f_mX10_leaves (Nat.le_of_ble_eq_true rfl) (by decide) (ct_leaves hN8 hi1 hj1) ?_
    rintro _ _ ⟨rfl, rfl⟩
    refine g_aload_n dX10_part_46 rfl ?_
    refine g_iload_n dX10_part_47 rfl ?_
    refine g_iload_n dX10_part_48 rfl ?_
    refine g_callV2 (M' := mX10_leaves) (mc' := 0) (ms' := 0) dX10_part_49 l_X10_223 s_mX10_leaves (by decide) rfl rfl f_mX10_leaves (Nat.le_of_ble_eq_true rfl) (by decide) (ct_leaves hN8 hj1 hi1) ?_
    rintro _ _ ⟨rfl, rfl⟩
    refine g_iload_n dX10_part_52 rfl ?_
    exact g_ireturn dX10_part_53 rfl rfl ⟨rfl, by rw [eci, ecj]⟩
  · skip
    exact absurd c20 (fun q => nI_pos (n := j) (by omega) (by rw [q]; decide))

theorem by_id {x : Int32} (h : (!decide (x < 32) && !decide (126 < x)) = true) : vp_nar .byte x.toInt8.toInt32 = x := by
  have h1 : ¬ x < 32 := by intro q; simp [q] at h
  have h2 : ¬ 126 < x := by intro q; simp [q] at h
  have h3 : ¬ x < 0 := fun q => h1 (Int32.lt_trans q (by decide))
  obtain ⟨k, hk, rfl⟩ := nI_of h3
  have hk2 : k < 127 := by
    refine Nat.lt_of_not_le (fun q => h2 ?_)
    exact nI_lt (a := 126) q hk
  have : ∀ k, k < 127 → vp_nar .byte (nI k).toInt8.toInt32 = nI k := by decide +kernel
  exact this k hk2

set_option maxRecDepth 100000 in
set_option maxHeartbeats 4000000 in
theorem ct_mletterX (x : Int32) (hw : (!decide (x < 32) && !decide (126 < x)) = false) : MC E l 2 mX10_letter [.ref 53, .int x] 83 (hi, hl, RT) 0 0 (fun r h' => r = some (.int (-102)) ∧ h' = (hi, hl, RT)) := by
  refine MC.of [some (.ref 53), some (.int x)] (by decide) rfl (Nat.le_of_ble_eq_true rfl) ?_
  refine g_iload_n dX10_letter_0 rfl ?_
  refine g_bipush (v := 32) dX10_letter_1 (by decide) ?_
  refine g_bipush (v := 126) dX10_letter_3 (by decide) ?_
  refine g_callS3 (M' := mX10_within) (mc' := 0) (ms' := 0) dX10_letter_5 l_X10_98 s_mX10_within f_mX10_within (Nat.le_of_ble_eq_true rfl) (by decide) ((ct_within _ _ _).weaken (fun r h' q => (⟨by rw [q.1, hw]; rfl, q.2⟩ : r = some (.int 0) ∧ h' = (hi, hl, RT)))) ?_
  rintro _ _ ⟨rfl, rfl⟩
  refine g_ifne 14 dX10_letter_8 (by decide) (fun c => absurd c (by decide)) (fun _ => ?_)
  refine g_bipush (v := -102) dX10_letter_11 (by decide) ?_
  exact g_ireturn dX10_letter_13 rfl rfl ⟨rfl, rfl⟩

set_option maxRecDepth 100000 in
set_option maxHeartbeats 4000000 in
theorem ct_mletterF (x : Int32) (hw : (!decide (x < 32) && !decide (126 < x)) = true) (hL : hi 53 22 = 41) : MC E l 2 mX10_letter [.ref 53, .int x] 83 (hi, hl, RT) 0 0 (fun r h' => r = some (.int (-104)) ∧ h' = (hi, hl, RT)) := by
  refine MC.of [some (.ref 53), some (.int x)] (by decide) rfl (Nat.le_of_ble_eq_true rfl) ?_
  refine g_iload_n dX10_letter_0 rfl ?_
  refine g_bipush (v := 32) dX10_letter_1 (by decide) ?_
  refine g_bipush (v := 126) dX10_letter_3 (by decide) ?_
  refine g_callS3 (M' := mX10_within) (mc' := 0) (ms' := 0) dX10_letter_5 l_X10_98 s_mX10_within f_mX10_within (Nat.le_of_ble_eq_true rfl) (by decide) ((ct_within _ _ _).weaken (fun r h' q => (⟨by rw [q.1, hw]; rfl, q.2⟩ : r = some (.int 1) ∧ h' = (hi, hl, RT)))) ?_
  rintro _ _ ⟨rfl, rfl⟩
  refine g_ifne 14 dX10_letter_8 (by decide) (fun _ => ?_) (fun c => absurd c (by decide))
  refine g_aload_n dX10_letter_14 rfl ?_
  refine g_geti dX10_letter_15 k_X10_102 rfl (by decide) rfl ?_
  refine g_bipush (v := 41) dX10_letter_18 (by decide) ?_
  refine g_icmpne 26 dX10_letter_20 (by decide) (fun c20 => ?_) (fun c20 => ?_)
  · skip
    exact absurd hL c20
  · skip
    refine g_bipush (v := -104) dX10_letter_23 (by decide) ?_
    exact g_ireturn dX10_letter_25 rfl rfl ⟨rfl, rfl⟩

theorem nI_inc1 (L : Nat) : nI L + 1 = nI (L + 1) := nI_inc L
set_option maxRecDepth 100000 in
set_option maxHeartbeats 4000000 in
theorem ct_mletter (x : Int32) (hw : (!decide (x < 32) && !decide (126 < x)) = true) {L : Nat} (hL1 : L < 41) (hL2 : hi 53 22 = nI L) : MC E l 2 mX10_letter [.ref 53, .int x] 83 (hi, hl, RT) 0 0 (fun r h' => r = some (.int (nI (L + 1))) ∧ h' = (upI (upI hi 66 L x) 53 22 (nI (L + 1)), hl, RT)) := by
  refine MC.of [some (.ref 53), some (.int x)] (by decide) rfl (Nat.le_of_ble_eq_true rfl) ?_
  have ecL : (nI L).toNatClampNeg = L := nI_clamp (by omega)
  refine g_iload_n dX10_letter_0 rfl ?_
  refine g_bipush (v := 32) dX10_letter_1 (by decide) ?_
  refine g_bipush (v := 126) dX10_letter_3 (by decide) ?_
  refine g_callS3 (M' := mX10_within) (mc' := 0) (ms' := 0) dX10_letter_5 l_X10_98 s_mX10_within f_mX10_within (Nat.le_of_ble_eq_true rfl) (by decide) ((ct_within _ _ _).weaken (fun r h' q => (⟨by rw [q.1, hw]; rfl, q.2⟩ : r = some (.int 1) ∧ h' = (hi, hl, RT)))) ?_
  rintro _ _ ⟨rfl, rfl⟩
  refine g_ifne 14 dX10_letter_8 (by decide) (fun _ => ?_) (fun c => absurd c (by decide))
  refine g_aload_n dX10_letter_14 rfl ?_
  refine g_geti dX10_letter_15 k_X10_102 rfl (by decide) rfl ?_
  refine g_bipush (v := 41) dX10_letter_18 (by decide) ?_
  refine g_icmpne 26 dX10_letter_20 (by decide) (fun c20 => ?_) (fun c20 => ?_)
  · skip
    refine g_aload_n dX10_letter_26 rfl ?_
    refine g_getr dX10_letter_27 k_X10_46 rfl (by decide) rfl rfl ?_
    refine g_aload_n dX10_letter_30 rfl ?_
    refine g_geti dX10_letter_31 k_X10_102 rfl (by decide) rfl ?_
    rw [show (hi, hl, RT).1 53 22 = nI L from hL2]
    refine g_iload_n dX10_letter_34 rfl ?_
    refine g_i2b dX10_letter_35 ?_
    refine g_bast dX10_letter_36 (by decide) rfl (vp_in_nI (by omega) (by decide)) ?_
    refine g_aload_n dX10_letter_37 rfl ?_
    refine g_dup dX10_letter_38 rfl ?_
    refine g_geti dX10_letter_39 k_X10_102 rfl (by decide) rfl ?_
    refine g_iconst (v := 1) dX10_letter_42 (by decide) ?_
    refine g_iadd dX10_letter_43 ?_
    refine g_puti dX10_letter_44 k_X10_102 rfl (by decide) rfl rfl rfl ?_
    refine g_aload_n dX10_letter_47 rfl ?_
    refine g_geti dX10_letter_48 k_X10_102 rfl (by decide) rfl ?_
    exact g_ireturn dX10_letter_51 rfl rfl ⟨by
      show some (Value.int (upI (upI hi 66 (nI L).toNatClampNeg (vp_nar .byte x.toInt8.toInt32)) 53 22 (upI hi 66 (nI L).toNatClampNeg (vp_nar .byte x.toInt8.toInt32) 53 22 + 1) 53 22)) = _
      rw [upI_s, upI_a (by decide), hL2, nI_inc1], by
      show (upI (upI hi 66 (nI L).toNatClampNeg (vp_nar .byte x.toInt8.toInt32)) 53 22 (upI hi 66 (nI L).toNatClampNeg (vp_nar .byte x.toInt8.toInt32) 53 22 + 1), hl, RT) = _
      rw [upI_a (by decide), hL2, nI_inc1, ecL, by_id hw]⟩
  · skip
    exact absurd (hL2.symm.trans c20) (fun q => absurd ((nI_eq (b := 41) (by omega) (by decide)).mp q) (by omega))

set_option maxRecDepth 100000 in
set_option maxHeartbeats 4000000 in
theorem ct_mblank  : MC E l 2 mX10_blank [.ref 53] 83 (hi, hl, RT) 0 0 (fun r h' => r = some (.int (hi 53 22)) ∧ h' = (upI hi 53 22 0, hl, RT)) := by
  refine MC.of [some (.ref 53), none] (by decide) rfl (Nat.le_of_ble_eq_true rfl) ?_
  refine g_aload_n dX10_blank_0 rfl ?_
  refine g_geti dX10_blank_1 k_X10_102 rfl (by decide) rfl ?_
  refine g_istore_n dX10_blank_4 (by decide) rfl rfl ?_
  refine g_aload_n dX10_blank_5 rfl ?_
  refine g_iconst (v := 0) dX10_blank_6 (by decide) ?_
  refine g_puti dX10_blank_7 k_X10_102 rfl (by decide) rfl rfl rfl ?_
  refine g_iload_n dX10_blank_10 rfl ?_
  exact g_ireturn dX10_blank_11 rfl rfl ⟨rfl, rfl⟩

end
