section
variable {E : XE} {l : Launch} {hi : Nat → Nat → Int32} {hl : Nat → Nat → Int64}

/-! the page, as the reference reads it -/
def kbV (x : Int32) : Int32 := if x = 111 then 0 else if x = 101 then 1 else if x = 104 then 2 else if x = 115 then 3 else if x = 103 then 4 else -1
def aV (c : Nat → Int32) (L k : Nat) : Int32 := if k < L then c k else 0
def fgB (c : Nat → Int32) (L k : Nat) (m : Int32) : Bool := !decide (aV c L k - 48 < 0) && !decide (m < aV c L k - 48)
def roV (c : Nat → Int32) (L k : Nat) : Nat := if kbV (aV c L k) = -1 then k else if fgB c L (k + 1) 9 = false then k + 1 else if fgB c L (k + 2) 3 = false then k + 2 else if fgB c L (k + 3) 9 = false then k + 3 else k + 4
def rsV (c : Nat → Int32) (L : Nat) : Nat → Nat → Nat → Nat × Nat × Bool
  | 0, k, m => (k, m, false)
  | n + 1, k, m => if roV c L k = k + 4 then (if m + 1 = 4 ∨ ¬ aV c L (k + 4) = 44 then (k + 4, m + 1, true) else rsV c L n (k + 5) (m + 1)) else (roV c L k, m, false)
def wfB (c : Nat → Int32) (L : Nat) : Bool := (rsV c L 4 0 0).2.2 && decide (aV c L (rsV c L 4 0 0).1 = 59)
def rdE (c : Nat → Int32) (L : Nat) : Nat := if wfB c L = true then (rsV c L 4 ((rsV c L 4 0 0).1 + 1) 0).1 else (rsV c L 4 0 0).1
def rdW (c : Nat → Int32) (L : Nat) : Bool := wfB c L && ((rsV c L 4 ((rsV c L 4 0 0).1 + 1) 0).2.2 && decide ((rsV c L 4 ((rsV c L 4 0 0).1 + 1) 0).1 = L))
def RX (f g : Nat → Nat → Int32) : Prop := ∀ a k, ¬ (a = 53 ∧ 24 ≤ k ∧ k ≤ 25) → g a k = f a k
def RZ (f g : Nat → Nat → Int32) : Prop := ∀ a k, ¬ (a = 53 ∧ 24 ≤ k ∧ k ≤ 26) → g a k = f a k
theorem RX.rz {f g : Nat → Nat → Int32} (h : RX f g) : RZ f g := fun a k q => h a k (by omega)
theorem RZ.trans {f g h : Nat → Nat → Int32} (h1 : RZ f g) (h2 : RZ g h) : RZ f h := fun a k q => (h2 a k q).trans (h1 a k q)
theorem RZ.up {f : Nat → Nat → Int32} {k : Nat} {x : Int32} (h : 24 ≤ k ∧ k ≤ 26) : RZ f (upI f 53 k x) := fun a j q => upI_a' (by omega)
theorem RX.rf {f : Nat → Nat → Int32} : RX f f := fun _ _ _ => rfl
theorem RX.trans {f g h : Nat → Nat → Int32} (h1 : RX f g) (h2 : RX g h) : RX f h := fun a k q => (h2 a k q).trans (h1 a k q)
theorem RX.up {f : Nat → Nat → Int32} {k : Nat} {x : Int32} (h : 24 ≤ k ∧ k ≤ 25) : RX f (upI f 53 k x) := fun a j q => upI_a' (by omega)
theorem roV_le (c : Nat → Int32) (L k : Nat) : roV c L k ≤ k + 4 := by
  unfold roV
  repeat' split
  all_goals omega
theorem rsV_le (c : Nat → Int32) (L : Nat) : ∀ n k m, (rsV c L n k m).1 ≤ k + 5 * n ∧ (rsV c L n k m).2.1 ≤ m + n
  | 0, k, m => ⟨Nat.le_refl _, Nat.le_refl _⟩
  | n + 1, k, m => by
    have h := rsV_le c L n (k + 5) (m + 1)
    have h2 := roV_le c L k
    rw [rsV]
    split
    · split
      · exact ⟨by show k + 4 ≤ _; omega, by show m + 1 ≤ _; omega⟩
      · exact ⟨by omega, by omega⟩
    · exact ⟨by show roV c L k ≤ _; omega, by show m ≤ _; omega⟩

theorem kb_rng {x : Int32} (h : ¬ (x.toInt < 101 ∨ 115 < x.toInt)) : ∃ j : Nat, j < 15 ∧ x = nI (101 + j) := by
  have h0 : ¬ x < 0 := fun q => by
    have := Int32.lt_iff_toInt_lt.mp q
    simp at this
    omega
  obtain ⟨k, hk, rfl⟩ := nI_of h0
  rw [nI_toInt hk] at h
  exact ⟨k - 101, by omega, by rw [show 101 + (k - 101) = k from by omega]⟩
theorem kb_out {x : Int32} (h : x.toInt < 101 ∨ 115 < x.toInt) : kbV x = -1 := by
  have e : ∀ y : Int32, ¬ (y.toInt < 101 ∨ 115 < y.toInt) → ¬ x = y := fun y hy q => hy (q ▸ h)
  rw [kbV, if_neg (e 111 (by decide)), if_neg (e 101 (by decide)), if_neg (e 104 (by decide)), if_neg (e 115 (by decide)), if_neg (e 103 (by decide))]

set_option maxRecDepth 100000 in
set_option maxHeartbeats 4000000 in
theorem ct_kindBy (x : Int32) : MC E l 1 mX10_kindBy [.int x] 83 (hi, hl, RT) 0 0 (fun r h' => r = some (.int (kbV x)) ∧ h' = (hi, hl, RT)) := by
  refine MC.of [some (.int x)] (by decide) rfl (Nat.le_of_ble_eq_true rfl) ?_
  refine g_iload_n dX10_kindBy_0 rfl ?_
  rcases Classical.em (x.toInt < 101 ∨ 115 < x.toInt) with ho | hn
  · refine g_tableOut 86 dX10_kindBy_1 ho (by decide) ?_
    refine g_iconst (v := -1) dX10_kindBy_86 (by decide) ?_
    exact g_ireturn dX10_kindBy_87 rfl rfl ⟨by rw [kb_out ho], rfl⟩
  · obtain ⟨j, hj, rfl⟩ : ∃ j : Nat, j < 15 ∧ x = nI (101 + j) := kb_rng hn
    match j, hj with
    | 0, hj =>
      refine g_tableIn (off := 77) 78 dX10_kindBy_1 (by decide) (by decide) (by decide) (by decide) ?_
      refine g_iconst (v := 1) dX10_kindBy_78 (by decide) ?_
      exact g_ireturn dX10_kindBy_79 rfl rfl ⟨by decide, rfl⟩
    | 1, hj =>
      refine g_tableIn (off := 85) 86 dX10_kindBy_1 (by decide) (by decide) (by decide) (by decide) ?_
      refine g_iconst (v := -1) dX10_kindBy_86 (by decide) ?_
      exact g_ireturn dX10_kindBy_87 rfl rfl ⟨by decide, rfl⟩
    | 2, hj =>
      refine g_tableIn (off := 83) 84 dX10_kindBy_1 (by decide) (by decide) (by decide) (by decide) ?_
      refine g_iconst (v := 4) dX10_kindBy_84 (by decide) ?_
      exact g_ireturn dX10_kindBy_85 rfl rfl ⟨by decide, rfl⟩
    | 3, hj =>
      refine g_tableIn (off := 79) 80 dX10_kindBy_1 (by decide) (by decide) (by decide) (by decide) ?_
      refine g_iconst (v := 2) dX10_kindBy_80 (by decide) ?_
      exact g_ireturn dX10_kindBy_81 rfl rfl ⟨by decide, rfl⟩
    | 4, hj =>
      refine g_tableIn (off := 85) 86 dX10_kindBy_1 (by decide) (by decide) (by decide) (by decide) ?_
      refine g_iconst (v := -1) dX10_kindBy_86 (by decide) ?_
      exact g_ireturn dX10_kindBy_87 rfl rfl ⟨by decide, rfl⟩
    | 5, hj =>
      refine g_tableIn (off := 85) 86 dX10_kindBy_1 (by decide) (by decide) (by decide) (by decide) ?_
      refine g_iconst (v := -1) dX10_kindBy_86 (by decide) ?_
      exact g_ireturn dX10_kindBy_87 rfl rfl ⟨by decide, rfl⟩
    | 6, hj =>
      refine g_tableIn (off := 85) 86 dX10_kindBy_1 (by decide) (by decide) (by decide) (by decide) ?_
      refine g_iconst (v := -1) dX10_kindBy_86 (by decide) ?_
      exact g_ireturn dX10_kindBy_87 rfl rfl ⟨by decide, rfl⟩
    | 7, hj =>
      refine g_tableIn (off := 85) 86 dX10_kindBy_1 (by decide) (by decide) (by decide) (by decide) ?_
      refine g_iconst (v := -1) dX10_kindBy_86 (by decide) ?_
      exact g_ireturn dX10_kindBy_87 rfl rfl ⟨by decide, rfl⟩
    | 8, hj =>
      refine g_tableIn (off := 85) 86 dX10_kindBy_1 (by decide) (by decide) (by decide) (by decide) ?_
      refine g_iconst (v := -1) dX10_kindBy_86 (by decide) ?_
      exact g_ireturn dX10_kindBy_87 rfl rfl ⟨by decide, rfl⟩
    | 9, hj =>
      refine g_tableIn (off := 85) 86 dX10_kindBy_1 (by decide) (by decide) (by decide) (by decide) ?_
      refine g_iconst (v := -1) dX10_kindBy_86 (by decide) ?_
      exact g_ireturn dX10_kindBy_87 rfl rfl ⟨by decide, rfl⟩
    | 10, hj =>
      refine g_tableIn (off := 75) 76 dX10_kindBy_1 (by decide) (by decide) (by decide) (by decide) ?_
      refine g_iconst (v := 0) dX10_kindBy_76 (by decide) ?_
      exact g_ireturn dX10_kindBy_77 rfl rfl ⟨by decide, rfl⟩
    | 11, hj =>
      refine g_tableIn (off := 85) 86 dX10_kindBy_1 (by decide) (by decide) (by decide) (by decide) ?_
      refine g_iconst (v := -1) dX10_kindBy_86 (by decide) ?_
      exact g_ireturn dX10_kindBy_87 rfl rfl ⟨by decide, rfl⟩
    | 12, hj =>
      refine g_tableIn (off := 85) 86 dX10_kindBy_1 (by decide) (by decide) (by decide) (by decide) ?_
      refine g_iconst (v := -1) dX10_kindBy_86 (by decide) ?_
      exact g_ireturn dX10_kindBy_87 rfl rfl ⟨by decide, rfl⟩
    | 13, hj =>
      refine g_tableIn (off := 85) 86 dX10_kindBy_1 (by decide) (by decide) (by decide) (by decide) ?_
      refine g_iconst (v := -1) dX10_kindBy_86 (by decide) ?_
      exact g_ireturn dX10_kindBy_87 rfl rfl ⟨by decide, rfl⟩
    | 14, hj =>
      refine g_tableIn (off := 81) 82 dX10_kindBy_1 (by decide) (by decide) (by decide) (by decide) ?_
      refine g_iconst (v := 3) dX10_kindBy_82 (by decide) ?_
      exact g_ireturn dX10_kindBy_83 rfl rfl ⟨by decide, rfl⟩

set_option maxRecDepth 100000 in
set_option maxHeartbeats 4000000 in
theorem ct_at {L : Nat} (hL1 : L ≤ 41) (hL2 : hi 53 22 = nI L) {k : Nat} (hk : k < 1000) : MC E l 1 mX10_at [.ref 53, .int (nI k)] 83 (hi, hl, RT) 0 0 (fun r h' => r = some (.int (aV (hi 66) L k)) ∧ h' = (hi, hl, RT)) := by
  refine MC.of [some (.ref 53), some (.int (nI k))] (by decide) rfl (Nat.le_of_ble_eq_true rfl) ?_
  have eck : (nI k).toNatClampNeg = k := nI_clamp (by omega)
  refine g_iload_n dX10_at_0 rfl ?_
  refine g_aload_n dX10_at_1 rfl ?_
  refine g_geti dX10_at_2 k_X10_102 rfl (by decide) rfl ?_
  refine g_icmpge 17 dX10_at_5 (by decide) (fun c5 => ?_) (fun c5 => ?_)
  · skip
    refine g_iconst (v := 0) dX10_at_17 (by decide) ?_
    exact g_ireturn dX10_at_18 rfl rfl ⟨by rw [aV, if_neg (Nat.not_lt.mpr (ge_out hL2 c5 (by omega) (by omega)))], rfl⟩
  · skip
    have hlt : k < L := lt_in hL2 c5 (by omega) (by omega)
    refine g_aload_n dX10_at_8 rfl ?_
    refine g_getr dX10_at_9 k_X10_46 rfl (by decide) rfl rfl ?_
    refine g_iload_n dX10_at_12 rfl ?_
    refine g_bald dX10_at_13 (by decide) rfl (vp_in_nI (by omega) (by decide)) ?_
    refine g_goto 18 dX10_at_14 (by decide) ?_
    exact g_ireturn dX10_at_18 rfl rfl ⟨by rw [aV, if_pos hlt, eck], rfl⟩

set_option maxRecDepth 100000 in
set_option maxHeartbeats 4000000 in
theorem ct_isFigure {L : Nat} (hL1 : L ≤ 41) (hL2 : hi 53 22 = nI L) {k : Nat} (hk : k < 1000) (m : Int32) : MC E l 2 mX10_isFigure [.ref 53, .int (nI k), .int m] 83 (hi, hl, RT) 0 0 (fun r h' => r = some (.int (bI (fgB (hi 66) L k m))) ∧ h' = (hi, hl, RT)) := by
  refine MC.of [some (.ref 53), some (.int (nI k)), some (.int m)] (by decide) rfl (Nat.le_of_ble_eq_true rfl) ?_
  refine g_aload_n dX10_isFigure_0 rfl ?_
  refine g_iload_n dX10_isFigure_1 rfl ?_
  refine g_callV1 (M' := mX10_at) (mc' := 0) (ms' := 0) dX10_isFigure_2 l_X10_106 s_mX10_at (by decide) rfl rfl f_mX10_at (Nat.le_of_ble_eq_true rfl) (by decide) (ct_at hL1 hL2 hk) ?_
  rintro _ _ ⟨rfl, rfl⟩
  refine g_bipush (v := 48) dX10_isFigure_5 (by decide) ?_
  refine g_isub dX10_isFigure_7 ?_
  refine g_iconst (v := 0) dX10_isFigure_8 (by decide) ?_
  refine g_iload_n dX10_isFigure_9 rfl ?_
  refine g_callS3 (M' := mX10_within) (mc' := 0) (ms' := 0) dX10_isFigure_10 l_X10_98 s_mX10_within f_mX10_within (Nat.le_of_ble_eq_true rfl) (by decide) (ct_within _ _ _) ?_
  rintro _ _ ⟨rfl, rfl⟩
  exact g_ireturn dX10_isFigure_13 rfl (bI_nar _) ⟨rfl, rfl⟩

set_option maxRecDepth 100000 in
set_option maxHeartbeats 4000000 in
theorem ct_readOne {L : Nat} (hL1 : L ≤ 41) (hL2 : hi 53 22 = nI L) {k : Nat} (hk : k < 900) : MC E l 3 mX10_readOne [.ref 53, .int (nI k)] 83 (hi, hl, RT) 0 0 (fun r h' => r = some (.int (nI (roV (hi 66) L k))) ∧ h' = (hi, hl, RT)) := by
  refine MC.of [some (.ref 53), some (.int (nI k))] (by decide) rfl (Nat.le_of_ble_eq_true rfl) ?_
  refine g_aload_n dX10_readOne_0 rfl ?_
  refine g_iload_n dX10_readOne_1 rfl ?_
  refine g_callV1 (M' := mX10_at) (mc' := 0) (ms' := 0) dX10_readOne_2 l_X10_106 s_mX10_at (by decide) rfl rfl f_mX10_at (Nat.le_of_ble_eq_true rfl) (by decide) (ct_at hL1 hL2 (by omega)) ?_
  rintro _ _ ⟨rfl, rfl⟩
  refine g_callS1 (M' := mX10_kindBy) (mc' := 0) (ms' := 0) dX10_readOne_5 l_X10_110 s_mX10_kindBy f_mX10_kindBy (Nat.le_of_ble_eq_true rfl) (by decide) (ct_kindBy _) ?_
  rintro _ _ ⟨rfl, rfl⟩
  refine g_iconst (v := -1) dX10_readOne_8 (by decide) ?_
  refine g_icmpne 14 dX10_readOne_9 (by decide) (fun c9 => ?_) (fun c9 => ?_)
  · skip
    refine g_aload_n dX10_readOne_14 rfl ?_
    refine g_iload_n dX10_readOne_15 rfl ?_
    refine g_iconst (v := 1) dX10_readOne_16 (by decide) ?_
    refine g_iadd dX10_readOne_17 ?_
    rw [show nI k + 1 = nI (k + 1) from pk_add k 1]
    refine g_bipush (v := 9) dX10_readOne_18 (by decide) ?_
    refine g_callV2 (M' := mX10_isFigure) (mc' := 0) (ms' := 0) dX10_readOne_20 l_X10_113 s_mX10_isFigure (by decide) rfl rfl f_mX10_isFigure (Nat.le_of_ble_eq_true rfl) (by decide) (ct_isFigure hL1 hL2 (k := k + 1) (by omega) 9) ?_
    rintro _ _ ⟨rfl, rfl⟩
    refine g_ifne 32 dX10_readOne_23 (by decide) (fun c23 => ?_) (fun c23 => ?_)
    · skip
      refine g_aload_n dX10_readOne_32 rfl ?_
      refine g_iload_n dX10_readOne_33 rfl ?_
      refine g_iconst (v := 2) dX10_readOne_34 (by decide) ?_
      refine g_iadd dX10_readOne_35 ?_
      rw [show nI k + 2 = nI (k + 2) from pk_add k 2]
      refine g_iconst (v := 3) dX10_readOne_36 (by decide) ?_
      refine g_callV2 (M' := mX10_isFigure) (mc' := 0) (ms' := 0) dX10_readOne_37 l_X10_113 s_mX10_isFigure (by decide) rfl rfl f_mX10_isFigure (Nat.le_of_ble_eq_true rfl) (by decide) (ct_isFigure hL1 hL2 (k := k + 2) (by omega) 3) ?_
      rintro _ _ ⟨rfl, rfl⟩
      refine g_ifne 49 dX10_readOne_40 (by decide) (fun c40 => ?_) (fun c40 => ?_)
      · skip
        refine g_aload_n dX10_readOne_49 rfl ?_
        refine g_iload_n dX10_readOne_50 rfl ?_
        refine g_iconst (v := 3) dX10_readOne_51 (by decide) ?_
        refine g_iadd dX10_readOne_52 ?_
        rw [show nI k + 3 = nI (k + 3) from pk_add k 3]
        refine g_bipush (v := 9) dX10_readOne_53 (by decide) ?_
        refine g_callV2 (M' := mX10_isFigure) (mc' := 0) (ms' := 0) dX10_readOne_55 l_X10_113 s_mX10_isFigure (by decide) rfl rfl f_mX10_isFigure (Nat.le_of_ble_eq_true rfl) (by decide) (ct_isFigure hL1 hL2 (k := k + 3) (by omega) 9) ?_
        rintro _ _ ⟨rfl, rfl⟩
        refine g_ifne 67 dX10_readOne_58 (by decide) (fun c58 => ?_) (fun c58 => ?_)
        · skip
          refine g_iload_n dX10_readOne_67 rfl ?_
          refine g_iconst (v := 4) dX10_readOne_68 (by decide) ?_
          refine g_iadd dX10_readOne_69 ?_
          exact g_ireturn dX10_readOne_70 rfl rfl ⟨by rw [roV, if_neg c9, if_neg (by rw [bI_n.mp c23]; decide), if_neg (by rw [bI_n.mp c40]; decide), if_neg (by rw [bI_n.mp c58]; decide)]; exact congrArg (fun x => some (Value.int x)) (pk_add k 4), rfl⟩
        · skip
          refine g_iload_n dX10_readOne_61 rfl ?_
          refine g_iconst (v := 3) dX10_readOne_62 (by decide) ?_
          refine g_iadd dX10_readOne_63 ?_
          refine g_goto 70 dX10_readOne_64 (by decide) ?_
          exact g_ireturn dX10_readOne_70 rfl rfl ⟨by rw [roV, if_neg c9, if_neg (by rw [bI_n.mp c23]; decide), if_neg (by rw [bI_n.mp c40]; decide), if_pos (bI_0.mp c58)]; exact congrArg (fun x => some (Value.int x)) (pk_add k 3), rfl⟩
      · skip
        refine g_iload_n dX10_readOne_43 rfl ?_
        refine g_iconst (v := 2) dX10_readOne_44 (by decide) ?_
        refine g_iadd dX10_readOne_45 ?_
        refine g_goto 70 dX10_readOne_46 (by decide) ?_
        exact g_ireturn dX10_readOne_70 rfl rfl ⟨by rw [roV, if_neg c9, if_neg (by rw [bI_n.mp c23]; decide), if_pos (bI_0.mp c40)]; exact congrArg (fun x => some (Value.int x)) (pk_add k 2), rfl⟩
    · skip
      refine g_iload_n dX10_readOne_26 rfl ?_
      refine g_iconst (v := 1) dX10_readOne_27 (by decide) ?_
      refine g_iadd dX10_readOne_28 ?_
      refine g_goto 70 dX10_readOne_29 (by decide) ?_
      exact g_ireturn dX10_readOne_70 rfl rfl ⟨by rw [roV, if_neg c9, if_pos (bI_0.mp c23)]; exact congrArg (fun x => some (Value.int x)) (pk_add k 1), rfl⟩
  · skip
    refine g_iload_n dX10_readOne_12 rfl ?_
    exact g_ireturn dX10_readOne_13 rfl rfl ⟨by rw [roV, if_pos c9], rfl⟩

set_option maxRecDepth 100000 in
set_option maxHeartbeats 4000000 in
theorem lp_readSide {L : Nat} (hL1 : L ≤ 41) (hL2 : hi 53 22 = nI L) {l1 : Int32} : ∀ (n k m : Nat) (g : Nat → Nat → Int32) (l3 : Option Value), m + n = 4 → k + 5 * n < 800 → RX hi g → g 53 25 = nI m → g 53 24 = 0 → (1 ≤ n) → G E l 4 mX10_readSide 12 [some (.ref 53), some (.int l1), some (.int (nI k)), l3] [] 83 (g, hl, RT) 0 0 (fun r h' => ∃ hz, r = some (.int (nI (rsV (hi 66) L n k m).1)) ∧ h' = (hz, hl, RT) ∧ RX hi hz ∧ hz 53 25 = nI (rsV (hi 66) L n k m).2.1 ∧ hz 53 24 = bI (rsV (hi 66) L n k m).2.2) := by
  intro n
  induction n with
  | zero =>
    intro k m g l3 hmn hk hrx h25 h24 hn1
    exact absurd hn1 (by omega)
  | succ n ih =>
    intro k m g l3 hmn hk hrx h25 h24 hn1
    have hLg : g 53 22 = nI L := (hrx 53 22 (by omega)).trans hL2
    have hpg : g 66 = hi 66 := funext (fun j => hrx 66 j (by omega))
    have e4 : nI k + 4 = nI (k + 4) := pk_add k 4
    have hro : roV (hi 66) L k ≤ k + 4 := roV_le _ _ _
    refine g_aload_n dX10_readSide_12 rfl ?_
    refine g_iload_n dX10_readSide_13 rfl ?_
    refine g_callV1 (M' := mX10_readOne) (mc' := 0) (ms' := 0) dX10_readSide_14 l_X10_124 s_mX10_readOne (by decide) rfl rfl f_mX10_readOne (Nat.le_of_ble_eq_true rfl) (by decide) ((ct_readOne (hi := g) hL1 hLg (k := k) (by omega)).weaken (fun r h' z => (⟨by rw [z.1, hpg], z.2⟩ : r = some (.int (nI (roV (hi 66) L k))) ∧ h' = (g, hl, RT)))) ?_
    rintro _ _ ⟨rfl, rfl⟩
    refine g_istore_n dX10_readSide_17 (by decide) rfl rfl ?_
    refine g_iload_n dX10_readSide_18 rfl ?_
    refine g_iload_n dX10_readSide_19 rfl ?_
    refine g_iconst (v := 4) dX10_readSide_20 (by decide) ?_
    refine g_iadd dX10_readSide_21 ?_
    refine g_icmpeq 27 dX10_readSide_22 (by decide) (fun c22 => ?_) (fun c22 => ?_)
    · skip
      have cro : roV (hi 66) L k = k + 4 := by
        have z : nI (roV (hi 66) L k) = nI (k + 4) := by rw [← e4]; exact c22
        exact (nI_eq (by omega) (by omega)).mp z
      rw [cro]
      refine g_aload_n dX10_readSide_27 rfl ?_
      refine g_dup dX10_readSide_28 rfl ?_
      refine g_geti dX10_readSide_29 k_X10_117 rfl (by decide) rfl ?_
      refine g_iconst (v := 1) dX10_readSide_32 (by decide) ?_
      refine g_iadd dX10_readSide_33 ?_
      dsimp only
      rw [show g 53 25 = nI m from h25, nI_inc1]
      refine g_puti dX10_readSide_34 k_X10_117 rfl (by decide) rfl rfl rfl ?_
      refine g_iload_n dX10_readSide_37 rfl ?_
      refine g_istore_n dX10_readSide_38 (by decide) rfl rfl ?_
      refine g_aload_n dX10_readSide_39 rfl ?_
      refine g_iconst (v := 1) dX10_readSide_40 (by decide) ?_
      refine g_puti dX10_readSide_41 k_X10_120 rfl (by decide) rfl rfl rfl ?_
      refine g_aload_n dX10_readSide_44 rfl ?_
      refine g_geti dX10_readSide_45 k_X10_117 rfl (by decide) rfl ?_
      refine g_iconst (v := 4) dX10_readSide_48 (by decide) ?_
      dsimp only
      rw [show upI (upI g 53 25 (nI (m + 1))) 53 24 1 53 25 = nI (m + 1) from (upI_k (by decide)).trans upI_s]
      refine g_icmpeq 62 dX10_readSide_49 (by decide) (fun c49 => ?_) (fun c49 => ?_)
      · skip
        refine g_iload_n dX10_readSide_62 rfl ?_
        exact g_ireturn dX10_readSide_63 rfl rfl (by
          have e : rsV (hi 66) L (n + 1) k m = (k + 4, m + 1, true) := by rw [rsV, if_pos cro, if_pos (Or.inl (by have := (nI_eq (b := 4) (by omega) (by decide)).mp c49; omega))]
          rw [e]
          exact ⟨_, rfl, rfl, hrx.trans ((RX.up (by omega)).trans (RX.up (by omega))), by show (upI (upI g 53 25 (nI (m + 1))) 53 24 1) 53 25 = _; rw [upI_k (by decide), upI_s], upI_s⟩)
      · skip
        refine g_aload_n dX10_readSide_52 rfl ?_
        refine g_iload_n dX10_readSide_53 rfl ?_
        refine g_callV1 (M' := mX10_at) (mc' := 0) (ms' := 0) dX10_readSide_54 l_X10_106 s_mX10_at (by decide) rfl rfl f_mX10_at (Nat.le_of_ble_eq_true rfl) (by decide) ((ct_at (hi := (upI (upI g 53 25 (nI (m + 1))) 53 24 1)) hL1 (L := L) (by rw [upI_k (by decide), upI_k (by decide)]; exact hLg) (k := k + 4) (by omega)).weaken (fun r h' z => (⟨by rw [z.1]; exact congrArg (fun c => some (Value.int (aV c L (k + 4)))) hpg, z.2⟩ : r = some (.int (aV (hi 66) L (k + 4))) ∧ h' = ((upI (upI g 53 25 (nI (m + 1))) 53 24 1), hl, RT)))) ?_
        rintro _ _ ⟨rfl, rfl⟩
        refine g_bipush (v := 44) dX10_readSide_57 (by decide) ?_
        refine g_icmpeq 64 dX10_readSide_59 (by decide) (fun c59 => ?_) (fun c59 => ?_)
        · skip
          refine g_aload_n dX10_readSide_64 rfl ?_
          refine g_iconst (v := 0) dX10_readSide_65 (by decide) ?_
          refine g_puti dX10_readSide_66 k_X10_120 rfl (by decide) rfl rfl rfl ?_
          refine g_iinc dX10_readSide_69 rfl (nI_inc (k + 4)) (by decide) rfl rfl ?_
          refine g_goto 12 dX10_readSide_72 (by decide) ?_
          have c : ¬ (m + 1 = 4 ∨ ¬ aV (hi 66) L (k + 4) = 44) := by
            rintro (z | z)
            · exact c49 (by rw [z]; rfl)
            · exact z c59
          have e : rsV (hi 66) L (n + 1) k m = rsV (hi 66) L n (k + 5) (m + 1) := by rw [rsV, if_pos cro, if_neg c]
          rw [e]
          have hn : 1 ≤ n := Nat.pos_of_ne_zero (fun z => c (Or.inl (by omega)))
          refine g_hi (f := upI (upI (upI g 53 25 (nI (m + 1))) 53 24 1) 53 24 0) rfl ?_
          exact ih (k + 5) (m + 1) _ _ (by omega) (by omega) (hrx.trans ((RX.up (by omega)).trans ((RX.up (by omega)).trans (RX.up (by omega))))) ((upI_k (by decide)).trans ((upI_k (by decide)).trans upI_s)) upI_s hn
        · skip
          refine g_iload_n dX10_readSide_62 rfl ?_
          exact g_ireturn dX10_readSide_63 rfl rfl (by
          have e : rsV (hi 66) L (n + 1) k m = (k + 4, m + 1, true) := by rw [rsV, if_pos cro, if_pos (Or.inr c59)]
          rw [e]
          exact ⟨_, rfl, rfl, hrx.trans ((RX.up (by omega)).trans (RX.up (by omega))), by show (upI (upI g 53 25 (nI (m + 1))) 53 24 1) 53 25 = _; rw [upI_k (by decide), upI_s], upI_s⟩)
    · skip
      refine g_iload_n dX10_readSide_25 rfl ?_
      exact g_ireturn dX10_readSide_26 rfl rfl (by
          have c : ¬ roV (hi 66) L k = k + 4 := fun z => c22 (by rw [z, e4])
          have e : rsV (hi 66) L (n + 1) k m = (roV (hi 66) L k, m, false) := by rw [rsV, if_neg c]
          rw [e]
          exact ⟨g, rfl, rfl, hrx, h25, h24⟩)

set_option maxRecDepth 100000 in
set_option maxHeartbeats 4000000 in
theorem ct_readSide {L : Nat} (hL1 : L ≤ 41) (hL2 : hi 53 22 = nI L) {k : Nat} (hk : k < 700) : MC E l 4 mX10_readSide [.ref 53, .int (nI k)] 83 (hi, hl, RT) 0 0 (fun r h' => ∃ hz, r = some (.int (nI (rsV (hi 66) L 4 k 0).1)) ∧ h' = (hz, hl, RT) ∧ RX hi hz ∧ hz 53 25 = nI (rsV (hi 66) L 4 k 0).2.1 ∧ hz 53 24 = bI (rsV (hi 66) L 4 k 0).2.2) := by
  refine MC.of [some (.ref 53), some (.int (nI k)), none, none] (by decide) rfl (Nat.le_of_ble_eq_true rfl) ?_
  refine g_aload_n dX10_readSide_0 rfl ?_
  refine g_iconst (v := 0) dX10_readSide_1 (by decide) ?_
  refine g_puti dX10_readSide_2 k_X10_117 rfl (by decide) rfl rfl rfl ?_
  refine g_aload_n dX10_readSide_5 rfl ?_
  refine g_iconst (v := 0) dX10_readSide_6 (by decide) ?_
  refine g_puti dX10_readSide_7 k_X10_120 rfl (by decide) rfl rfl rfl ?_
  refine g_iload_n dX10_readSide_10 rfl ?_
  refine g_istore_n dX10_readSide_11 (by decide) rfl rfl ?_
  refine g_hi (f := upI (upI hi 53 25 0) 53 24 0) rfl ?_
  exact lp_readSide (hi := hi) hL1 hL2 4 k 0 _ none rfl (by omega) ((RX.up (by omega)).trans (RX.up (by omega))) ((upI_k (by decide)).trans upI_s) upI_s (by omega)

set_option maxRecDepth 100000 in
set_option maxHeartbeats 4000000 in
theorem ct_read {L : Nat} (hL1 : L ≤ 41) (hL2 : hi 53 22 = nI L) : MC E l 5 mX10_read [.ref 53] 83 (hi, hl, RT) 0 0 (fun r h' => ∃ hf, r = some (.int (nI (rdE (hi 66) L))) ∧ h' = (hf, hl, RT) ∧ RZ hi hf ∧ hf 53 24 = bI (rdW (hi 66) L) ∧ (rdW (hi 66) L = true → hf 53 26 = nI (rsV (hi 66) L 4 0 0).2.1 ∧ hf 53 25 = nI (rsV (hi 66) L 4 ((rsV (hi 66) L 4 0 0).1 + 1) 0).2.1)) := by
  refine MC.of [some (.ref 53), none, none] (by decide) rfl (Nat.le_of_ble_eq_true rfl) ?_
  have b1 := rsV_le (hi 66) L 4 0 0
  have b2 := rsV_le (hi 66) L 4 ((rsV (hi 66) L 4 0 0).1 + 1) 0
  refine g_aload_n dX10_read_0 rfl ?_
  refine g_iconst (v := 0) dX10_read_1 (by decide) ?_
  refine g_callV1 (M' := mX10_readSide) (mc' := 0) (ms' := 0) dX10_read_2 l_X10_127 s_mX10_readSide (by decide) rfl rfl f_mX10_readSide (Nat.le_of_ble_eq_true rfl) (by decide) (ct_readSide hL1 hL2 (k := 0) (by omega)) ?_
  rintro _ _ ⟨hf, rfl, rfl, q3, q4, q5⟩
  have hp1 : (upI hf 53 26 (hf 53 25)) 66 = hi 66 := funext (fun j => (upI_a (by decide)).trans (q3 66 j (by omega)))
  refine g_istore_n dX10_read_5 (by decide) rfl rfl ?_
  refine g_aload_n dX10_read_6 rfl ?_
  refine g_aload_n dX10_read_7 rfl ?_
  refine g_geti dX10_read_8 k_X10_117 rfl (by decide) rfl ?_
  refine g_puti dX10_read_11 k_X10_130 rfl (by decide) rfl rfl rfl ?_
  refine g_aload_n dX10_read_14 rfl ?_
  refine g_geti dX10_read_15 k_X10_120 rfl (by decide) rfl ?_
  dsimp only
  rw [show upI hf 53 26 (hf 53 25) 53 24 = hf 53 24 from upI_k (by decide)]
  refine g_ifeq 31 dX10_read_18 (by decide) (fun c18 => ?_) (fun c18 => ?_)
  · skip
    refine g_aload_n dX10_read_31 rfl ?_
    refine g_iconst (v := 0) dX10_read_32 (by decide) ?_
    refine g_puti dX10_read_33 k_X10_120 rfl (by decide) rfl rfl rfl ?_
    refine g_iload_n dX10_read_36 rfl ?_
    exact g_ireturn dX10_read_37 rfl rfl (by
          have hw : wfB (hi 66) L = false := by rw [wfB, bI_0.mp (q5 ▸ c18 : bI (rsV (hi 66) L 4 0 0).2.2 = 0)]; rfl
          have hd : rdW (hi 66) L = false := by rw [rdW, hw]; rfl
          have he : rdE (hi 66) L = (rsV (hi 66) L 4 0 0).1 := by rw [rdE, hw]; rfl
          rw [hd, he]
          exact ⟨_, rfl, rfl, q3.rz.trans ((RZ.up (by omega)).trans (RZ.up (by omega))), upI_s, fun z => absurd z (by decide)⟩)
  · skip
    refine g_aload_n dX10_read_21 rfl ?_
    refine g_iload_n dX10_read_22 rfl ?_
    refine g_callV1 (M' := mX10_at) (mc' := 0) (ms' := 0) dX10_read_23 l_X10_106 s_mX10_at (by decide) rfl rfl f_mX10_at (Nat.le_of_ble_eq_true rfl) (by decide) ((ct_at (hi := (upI hf 53 26 (hf 53 25))) hL1 (L := L) (by rw [upI_k (by decide)]; exact (q3 53 22 (by omega)).trans hL2) (k := (rsV (hi 66) L 4 0 0).1) (by omega)).weaken (fun r h' z => (⟨by rw [z.1]; exact congrArg (fun c => some (Value.int (aV c L (rsV (hi 66) L 4 0 0).1))) hp1, z.2⟩ : r = some (.int (aV (hi 66) L (rsV (hi 66) L 4 0 0).1)) ∧ h' = ((upI hf 53 26 (hf 53 25)), hl, RT)))) ?_
    rintro _ _ ⟨rfl, rfl⟩
    refine g_bipush (v := 59) dX10_read_26 (by decide) ?_
    refine g_icmpeq 38 dX10_read_28 (by decide) (fun c28 => ?_) (fun c28 => ?_)
    · skip
      refine g_aload_n dX10_read_38 rfl ?_
      refine g_iload_n dX10_read_39 rfl ?_
      refine g_iconst (v := 1) dX10_read_40 (by decide) ?_
      refine g_iadd dX10_read_41 ?_
      rw [show nI (rsV (hi 66) L 4 0 0).1 + 1 = nI ((rsV (hi 66) L 4 0 0).1 + 1) from pk_add _ 1]
      refine g_callV1 (M' := mX10_readSide) (mc' := 0) (ms' := 0) dX10_read_42 l_X10_127 s_mX10_readSide (by decide) rfl rfl f_mX10_readSide (Nat.le_of_ble_eq_true rfl) (by decide) ((ct_readSide (hi := (upI hf 53 26 (hf 53 25))) hL1 (L := L) (by rw [upI_k (by decide)]; exact (q3 53 22 (by omega)).trans hL2) (k := (rsV (hi 66) L 4 0 0).1 + 1) (by omega)).weaken (fun r h' z => (by rw [show (upI hf 53 26 (hf 53 25)) 66 = hi 66 from hp1] at z; exact z : ∃ hz, r = some (.int (nI ((rsV (hi 66) L 4 ((rsV (hi 66) L 4 0 0).1 + 1) 0)).1)) ∧ h' = (hz, hl, RT) ∧ RX (upI hf 53 26 (hf 53 25)) hz ∧ hz 53 25 = nI ((rsV (hi 66) L 4 ((rsV (hi 66) L 4 0 0).1 + 1) 0)).2.1 ∧ hz 53 24 = bI ((rsV (hi 66) L 4 ((rsV (hi 66) L 4 0 0).1 + 1) 0)).2.2))) ?_
      rintro _ _ ⟨hg, rfl, rfl, w3, w4, w5⟩
      have hLg : hg 53 22 = nI L := (w3 53 22 (by omega)).trans ((upI_k (by decide)).trans ((q3 53 22 (by omega)).trans hL2))
      have hw : wfB (hi 66) L = true := by rw [wfB, bI_n.mp (q5 ▸ c18 : ¬ bI (rsV (hi 66) L 4 0 0).2.2 = 0), decide_eq_true c28]; rfl
      have w26 : hg 53 26 = nI (rsV (hi 66) L 4 0 0).2.1 := (w3 53 26 (by omega)).trans (upI_s.trans q4)
      refine g_istore_n dX10_read_45 (by decide) rfl rfl ?_
      refine g_aload_n dX10_read_46 rfl ?_
      refine g_aload_n dX10_read_47 rfl ?_
      refine g_geti dX10_read_48 k_X10_120 rfl (by decide) rfl ?_
      refine g_ifeq 66 dX10_read_51 (by decide) (fun c51 => ?_) (fun c51 => ?_)
      · skip
        refine g_iconst (v := 0) dX10_read_66 (by decide) ?_
        refine g_puti dX10_read_67 k_X10_120 rfl (by decide) rfl rfl rfl ?_
        refine g_iload_n dX10_read_70 rfl ?_
        exact g_ireturn dX10_read_71 rfl rfl (by
          have hd : rdW (hi 66) L = false := by rw [rdW, hw, bI_0.mp (w5 ▸ c51 : bI (rsV (hi 66) L 4 ((rsV (hi 66) L 4 0 0).1 + 1) 0).2.2 = 0)]; rfl
          have he : rdE (hi 66) L = (rsV (hi 66) L 4 ((rsV (hi 66) L 4 0 0).1 + 1) 0).1 := by rw [rdE, hw]; rfl
          rw [hd, he]
          exact ⟨_, rfl, rfl, (q3.rz.trans (RZ.up (by omega))).trans (w3.rz.trans (RZ.up (by omega))), upI_s, fun z => absurd z (by decide)⟩)
      · skip
        refine g_iload_n dX10_read_54 rfl ?_
        refine g_aload_n dX10_read_55 rfl ?_
        refine g_geti dX10_read_56 k_X10_102 rfl (by decide) rfl ?_
        refine g_icmpne 66 dX10_read_59 (by decide) (fun c59 => ?_) (fun c59 => ?_)
        · skip
          refine g_iconst (v := 0) dX10_read_66 (by decide) ?_
          refine g_puti dX10_read_67 k_X10_120 rfl (by decide) rfl rfl rfl ?_
          refine g_iload_n dX10_read_70 rfl ?_
          exact g_ireturn dX10_read_71 rfl rfl (by
          have cL : ¬ (rsV (hi 66) L 4 ((rsV (hi 66) L 4 0 0).1 + 1) 0).1 = L := fun z => c59 (by show nI (rsV (hi 66) L 4 ((rsV (hi 66) L 4 0 0).1 + 1) 0).1 = hg 53 22; rw [z, hLg])
          have hd : rdW (hi 66) L = false := by rw [rdW, hw, decide_eq_false cL]; simp
          have he : rdE (hi 66) L = (rsV (hi 66) L 4 ((rsV (hi 66) L 4 0 0).1 + 1) 0).1 := by rw [rdE, hw]; rfl
          rw [hd, he]
          exact ⟨_, rfl, rfl, (q3.rz.trans (RZ.up (by omega))).trans (w3.rz.trans (RZ.up (by omega))), upI_s, fun z => absurd z (by decide)⟩)
        · skip
          refine g_iconst (v := 1) dX10_read_62 (by decide) ?_
          refine g_goto 67 dX10_read_63 (by decide) ?_
          refine g_puti dX10_read_67 k_X10_120 rfl (by decide) rfl rfl rfl ?_
          refine g_iload_n dX10_read_70 rfl ?_
          exact g_ireturn dX10_read_71 rfl rfl (by
          have cL : (rsV (hi 66) L 4 ((rsV (hi 66) L 4 0 0).1 + 1) 0).1 = L := (nI_eq (by omega) (by omega)).mp (by rw [← hLg]; exact c59)
          have hd : rdW (hi 66) L = true := by rw [rdW, hw, bI_n.mp (w5 ▸ c51 : ¬ bI (rsV (hi 66) L 4 ((rsV (hi 66) L 4 0 0).1 + 1) 0).2.2 = 0), decide_eq_true cL]; rfl
          have he : rdE (hi 66) L = (rsV (hi 66) L 4 ((rsV (hi 66) L 4 0 0).1 + 1) 0).1 := by rw [rdE, hw]; rfl
          rw [hd, he]
          exact ⟨_, rfl, rfl, (q3.rz.trans (RZ.up (by omega))).trans (w3.rz.trans (RZ.up (by omega))), upI_s, fun _ => ⟨(upI_k (by decide)).trans w26, (upI_k (by decide)).trans w4⟩⟩)
    · skip
      refine g_aload_n dX10_read_31 rfl ?_
      refine g_iconst (v := 0) dX10_read_32 (by decide) ?_
      refine g_puti dX10_read_33 k_X10_120 rfl (by decide) rfl rfl rfl ?_
      refine g_iload_n dX10_read_36 rfl ?_
      exact g_ireturn dX10_read_37 rfl rfl (by
          have hw : wfB (hi 66) L = false := by rw [wfB, bI_n.mp (q5 ▸ c18 : ¬ bI (rsV (hi 66) L 4 0 0).2.2 = 0), decide_eq_false c28]; rfl
          have hd : rdW (hi 66) L = false := by rw [rdW, hw]; rfl
          have he : rdE (hi 66) L = (rsV (hi 66) L 4 0 0).1 := by rw [rdE, hw]; rfl
          rw [hd, he]
          exact ⟨_, rfl, rfl, q3.rz.trans ((RZ.up (by omega)).trans (RZ.up (by omega))), upI_s, fun z => absurd z (by decide)⟩)

set_option maxRecDepth 100000 in
set_option maxHeartbeats 4000000 in
theorem ct_mfault {L : Nat} (hL1 : L ≤ 41) (hL2 : hi 53 22 = nI L) : MC E l 6 mX10_fault [.ref 53] 83 (hi, hl, RT) 0 0 (fun r h' => ∃ hf, r = some (.int (nI (rdE (hi 66) L))) ∧ h' = (hf, hl, RT) ∧ RZ hi hf) := by
  refine MC.of [some (.ref 53)] (by decide) rfl (Nat.le_of_ble_eq_true rfl) ?_
  refine g_aload_n dX10_fault_0 rfl ?_
  refine g_callV0 (M' := mX10_read) (mc' := 0) (ms' := 0) dX10_fault_1 l_X10_133 s_mX10_read (by decide) rfl rfl f_mX10_read (Nat.le_of_ble_eq_true rfl) (by decide) (ct_read hL1 hL2) ?_
  rintro _ _ ⟨hf, rfl, rfl, q3, q4, q5⟩
  exact g_ireturn dX10_fault_4 rfl rfl ⟨hf, rfl, rfl, q3⟩

set_option maxRecDepth 100000 in
set_option maxHeartbeats 4000000 in
theorem ct_mseaX {L : Nat} (hL1 : L ≤ 41) (hL2 : hi 53 22 = nI L) (hw : rdW (hi 66) L = false) : MC E l 6 mX10_sea [.ref 53] 83 (hi, hl, RT) 0 0 (fun r h' => ∃ hf, r = some (.int (-103)) ∧ h' = (hf, hl, RT) ∧ RZ hi hf) := by
  refine MC.of [some (.ref 53), none] (by decide) rfl (Nat.le_of_ble_eq_true rfl) ?_
  refine g_aload_n dX10_sea_0 rfl ?_
  refine g_callV0 (M' := mX10_read) (mc' := 0) (ms' := 0) dX10_sea_1 l_X10_133 s_mX10_read (by decide) rfl rfl f_mX10_read (Nat.le_of_ble_eq_true rfl) (by decide) (ct_read hL1 hL2) ?_
  rintro _ _ ⟨hf, rfl, rfl, q3, q4, q5⟩
  rw [hw] at q4
  refine g_pop dX10_sea_4 rfl ?_
  refine g_aload_n dX10_sea_5 rfl ?_
  refine g_geti dX10_sea_6 k_X10_120 rfl (by decide) rfl ?_
  refine g_ifne 15 dX10_sea_9 (by decide) (fun c9 => ?_) (fun c9 => ?_)
  · skip
    exact absurd q4 c9
  · skip
    refine g_bipush (v := -103) dX10_sea_12 (by decide) ?_
    exact g_ireturn dX10_sea_14 rfl rfl ⟨hf, rfl, rfl, q3⟩

def spV (g : Nat → Nat → Int32) (a k : Nat) : Int32 := if a = 54 then kbV (g 66 (5 * k)) else if a = 55 then g 66 (5 * k + 1) - 48 else if a = 56 then g 66 (5 * k + 2) - 48 else if a = 57 then g 66 (5 * k + 3) - 48 else if a = 62 then -1 else 0
def spF (g : Nat → Nat → Int32) (i : Nat) : Nat → Nat → Int32 := fun a k => if (54 ≤ a ∧ a ≤ 62) ∧ k < i then spV g a k else g a k
theorem sp_0 (g : Nat → Nat → Int32) : spF g 0 = g := by
  funext a k
  exact if_neg (by omega)
theorem sp_off {g : Nat → Nat → Int32} {i a : Nat} (h : a < 54 ∨ 62 < a) (k : Nat) : spF g i a k = g a k := if_neg (by omega)
theorem sp_step (g : Nat → Nat → Int32) (i : Nat) : upI (upI (upI (upI (upI (upI (upI (upI (upI (spF g i) 54 i (kbV (g 66 (5 * i)))) 55 i (g 66 (5 * i + 1) - 48)) 56 i (g 66 (5 * i + 2) - 48)) 57 i (g 66 (5 * i + 3) - 48)) 58 i 0) 59 i 0) 60 i 0) 61 i 0) 62 i (-1) = spF g (i + 1) := by
  funext a k
  by_cases hk : k = i
  · subst hk
    by_cases ha : 54 ≤ a ∧ a ≤ 62
    · have e : spF g (k + 1) a k = spV g a k := if_pos ⟨ha, Nat.lt_succ_self k⟩
      rw [e]
      have : a = 54 ∨ a = 55 ∨ a = 56 ∨ a = 57 ∨ a = 58 ∨ a = 59 ∨ a = 60 ∨ a = 61 ∨ a = 62 := by omega
      rcases this with rfl | rfl | rfl | rfl | rfl | rfl | rfl | rfl | rfl <;> simp [upI, spV]
    · have e : spF g (k + 1) a k = g a k := if_neg (fun q => ha q.1)
      rw [e, upI_a (by omega), upI_a (by omega), upI_a (by omega), upI_a (by omega), upI_a (by omega), upI_a (by omega), upI_a (by omega), upI_a (by omega), upI_a (by omega)]
      exact if_neg (fun q => ha q.1)
  · have e : spF g (i + 1) a k = spF g i a k := by
      unfold spF
      by_cases z : (54 ≤ a ∧ a ≤ 62) ∧ k < i
      · rw [if_pos z, if_pos (by omega)]
      · rw [if_neg z, if_neg (by omega)]
    rw [e, upI_k hk, upI_k hk, upI_k hk, upI_k hk, upI_k hk, upI_k hk, upI_k hk, upI_k hk, upI_k hk]
def seT (g : Nat → Nat → Int32) : Nat → Nat → Int32 := upI (upI (upI (upI (upI (upI (upI (upI (upI g 53 12 9) 53 13 0) 53 14 0) 53 15 0) 53 16 0) 53 17 0) 53 0 (g 53 0 + 1)) 53 18 0) 53 22 0

theorem pk_mul5 (i : Nat) : (5 : Int32) * nI i = nI (5 * i) := (Int32.ofNat_mul 5 i).symm

set_option maxRecDepth 100000 in
set_option maxHeartbeats 4000000 in
theorem lp_sea {N : Nat} (hN8 : N ≤ 8) {g : Nat → Nat → Int32} (hN : g 53 2 = nI N) : ∀ (n i : Nat), i + n = N → G E l 6 mX10_sea 38 [some (.ref 53), some (.int (nI i))] [] 83 (spF g i, hl, RT) 0 0 (fun r h' => r = some (.int (nI N)) ∧ h' = (seT (spF g N), hl, RT)) := by
  intro n
  induction n with
  | zero =>
    intro i hin
    have hiN : i = N := by omega
    have hNg : spF g i 53 2 = nI N := (sp_off (by omega) 2).trans hN
    refine g_iload_n dX10_sea_38 rfl ?_
    refine g_aload_n dX10_sea_39 rfl ?_
    refine g_geti dX10_sea_40 k_X10_140 rfl (by decide) rfl ?_
    refine g_icmpge 161 dX10_sea_43 (by decide) (fun c43 => ?_) (fun c43 => ?_)
    · skip
      refine g_aload_n dX10_sea_161 rfl ?_
      refine g_bipush (v := 9) dX10_sea_162 (by decide) ?_
      refine g_puti dX10_sea_164 k_X10_143 rfl (by decide) rfl rfl rfl ?_
      refine g_aload_n dX10_sea_167 rfl ?_
      refine g_iconst (v := 0) dX10_sea_168 (by decide) ?_
      refine g_puti dX10_sea_169 k_X10_146 rfl (by decide) rfl rfl rfl ?_
      refine g_aload_n dX10_sea_172 rfl ?_
      refine g_iconst (v := 0) dX10_sea_173 (by decide) ?_
      refine g_puti dX10_sea_174 k_X10_149 rfl (by decide) rfl rfl rfl ?_
      refine g_aload_n dX10_sea_177 rfl ?_
      refine g_iconst (v := 0) dX10_sea_178 (by decide) ?_
      refine g_puti dX10_sea_179 k_X10_152 rfl (by decide) rfl rfl rfl ?_
      refine g_aload_n dX10_sea_182 rfl ?_
      refine g_iconst (v := 0) dX10_sea_183 (by decide) ?_
      refine g_puti dX10_sea_184 k_X10_155 rfl (by decide) rfl rfl rfl ?_
      refine g_aload_n dX10_sea_187 rfl ?_
      refine g_iconst (v := 0) dX10_sea_188 (by decide) ?_
      refine g_puti dX10_sea_189 k_X10_158 rfl (by decide) rfl rfl rfl ?_
      refine g_aload_n dX10_sea_192 rfl ?_
      refine g_dup dX10_sea_193 rfl ?_
      refine g_geti dX10_sea_194 k_X10_161 rfl (by decide) rfl ?_
      refine g_iconst (v := 1) dX10_sea_197 (by decide) ?_
      refine g_iadd dX10_sea_198 ?_
      refine g_puti dX10_sea_199 k_X10_161 rfl (by decide) rfl rfl rfl ?_
      refine g_aload_n dX10_sea_202 rfl ?_
      refine g_iconst (v := 0) dX10_sea_203 (by decide) ?_
      refine g_puti dX10_sea_204 k_X10_164 rfl (by decide) rfl rfl rfl ?_
      refine g_aload_n dX10_sea_207 rfl ?_
      refine g_iconst (v := 0) dX10_sea_208 (by decide) ?_
      refine g_puti dX10_sea_209 k_X10_102 rfl (by decide) rfl rfl rfl ?_
      refine g_aload_n dX10_sea_212 rfl ?_
      refine g_geti dX10_sea_213 k_X10_140 rfl (by decide) rfl ?_
      exact g_ireturn dX10_sea_216 rfl rfl ⟨by
      show some (Value.int (seT (spF g i) 53 2)) = _
      rw [seT, upI_k (by decide), upI_k (by decide), upI_k (by decide), upI_k (by decide), upI_k (by decide), upI_k (by decide), upI_k (by decide), upI_k (by decide), upI_k (by decide), hNg], by rw [← hiN]; rfl⟩
    · skip
      exact absurd (by show spF g i 53 2 ≤ nI i; rw [hNg, hiN]; exact nI_le (Nat.le_refl _) (by omega)) c43
  | succ n ih =>
    intro i hin
    have hlt : i < N := by omega
    have hNg : spF g i 53 2 = nI N := (sp_off (by omega) 2).trans hN
    have eci : (nI i).toNatClampNeg = i := nI_clamp (by omega)
    refine g_iload_n dX10_sea_38 rfl ?_
    refine g_aload_n dX10_sea_39 rfl ?_
    refine g_geti dX10_sea_40 k_X10_140 rfl (by decide) rfl ?_
    refine g_icmpge 161 dX10_sea_43 (by decide) (fun c43 => ?_) (fun c43 => ?_)
    · skip
      exact absurd (ge_out hNg c43 (by omega) (by omega)) (by omega)
    · skip
      refine g_aload_n dX10_sea_46 rfl ?_
      refine g_getr dX10_sea_47 k_X10_7 rfl (by decide) rfl rfl ?_
      refine g_iload_n dX10_sea_50 rfl ?_
      refine g_aload_n dX10_sea_51 rfl ?_
      refine g_getr dX10_sea_52 k_X10_46 rfl (by decide) rfl rfl ?_
      refine g_iconst (v := 5) dX10_sea_55 (by decide) ?_
      refine g_iload_n dX10_sea_56 rfl ?_
      refine g_imul dX10_sea_57 ?_
      rw [show (5 : Int32) * nI i = nI (5 * i) from pk_mul5 i]
      refine g_bald dX10_sea_58 (by decide) rfl (vp_in_nI (by omega) (by decide)) ?_
      dsimp only
      rw [show (nI (5 * i)).toNatClampNeg = 5 * i from nI_clamp (by omega), show (spF g i) 66 (5 * i) = g 66 (5 * i) from by rw [sp_off (by omega)]]
      refine g_callS1 (M' := mX10_kindBy) (mc' := 0) (ms' := 0) dX10_sea_59 l_X10_110 s_mX10_kindBy f_mX10_kindBy (Nat.le_of_ble_eq_true rfl) (by decide) (ct_kindBy _) ?_
      rintro _ _ ⟨rfl, rfl⟩
      refine g_iast dX10_sea_62 (by decide) rfl (vp_in_nI (by omega) (by decide)) ?_
      dsimp only
      rw [eci]
      refine g_aload_n dX10_sea_63 rfl ?_
      refine g_getr dX10_sea_64 k_X10_13 rfl (by decide) rfl rfl ?_
      refine g_iload_n dX10_sea_67 rfl ?_
      refine g_aload_n dX10_sea_68 rfl ?_
      refine g_getr dX10_sea_69 k_X10_46 rfl (by decide) rfl rfl ?_
      refine g_iconst (v := 5) dX10_sea_72 (by decide) ?_
      refine g_iload_n dX10_sea_73 rfl ?_
      refine g_imul dX10_sea_74 ?_
      refine g_iconst (v := 1) dX10_sea_75 (by decide) ?_
      refine g_iadd dX10_sea_76 ?_
      rw [show (5 : Int32) * nI i + 1 = nI (5 * i + 1) from (by rw [pk_mul5]; exact pk_add (5 * i) 1)]
      refine g_bald dX10_sea_77 (by decide) rfl (vp_in_nI (by omega) (by decide)) ?_
      dsimp only
      rw [show (nI (5 * i + 1)).toNatClampNeg = 5 * i + 1 from nI_clamp (by omega), show (upI (spF g i) 54 i (kbV (g 66 (5 * i)))) 66 (5 * i + 1) = g 66 (5 * i + 1) from by rw [upI_a (by decide), sp_off (by omega)]]
      refine g_bipush (v := 48) dX10_sea_78 (by decide) ?_
      refine g_isub dX10_sea_80 ?_
      refine g_iast dX10_sea_81 (by decide) rfl (vp_in_nI (by omega) (by decide)) ?_
      dsimp only
      rw [eci]
      refine g_aload_n dX10_sea_82 rfl ?_
      refine g_getr dX10_sea_83 k_X10_16 rfl (by decide) rfl rfl ?_
      refine g_iload_n dX10_sea_86 rfl ?_
      refine g_aload_n dX10_sea_87 rfl ?_
      refine g_getr dX10_sea_88 k_X10_46 rfl (by decide) rfl rfl ?_
      refine g_iconst (v := 5) dX10_sea_91 (by decide) ?_
      refine g_iload_n dX10_sea_92 rfl ?_
      refine g_imul dX10_sea_93 ?_
      refine g_iconst (v := 2) dX10_sea_94 (by decide) ?_
      refine g_iadd dX10_sea_95 ?_
      rw [show (5 : Int32) * nI i + 2 = nI (5 * i + 2) from (by rw [pk_mul5]; exact pk_add (5 * i) 2)]
      refine g_bald dX10_sea_96 (by decide) rfl (vp_in_nI (by omega) (by decide)) ?_
      dsimp only
      rw [show (nI (5 * i + 2)).toNatClampNeg = 5 * i + 2 from nI_clamp (by omega), show (upI (upI (spF g i) 54 i (kbV (g 66 (5 * i)))) 55 i (g 66 (5 * i + 1) - 48)) 66 (5 * i + 2) = g 66 (5 * i + 2) from by rw [upI_a (by decide), upI_a (by decide), sp_off (by omega)]]
      refine g_bipush (v := 48) dX10_sea_97 (by decide) ?_
      refine g_isub dX10_sea_99 ?_
      refine g_iast dX10_sea_100 (by decide) rfl (vp_in_nI (by omega) (by decide)) ?_
      dsimp only
      rw [eci]
      refine g_aload_n dX10_sea_101 rfl ?_
      refine g_getr dX10_sea_102 k_X10_19 rfl (by decide) rfl rfl ?_
      refine g_iload_n dX10_sea_105 rfl ?_
      refine g_aload_n dX10_sea_106 rfl ?_
      refine g_getr dX10_sea_107 k_X10_46 rfl (by decide) rfl rfl ?_
      refine g_iconst (v := 5) dX10_sea_110 (by decide) ?_
      refine g_iload_n dX10_sea_111 rfl ?_
      refine g_imul dX10_sea_112 ?_
      refine g_iconst (v := 3) dX10_sea_113 (by decide) ?_
      refine g_iadd dX10_sea_114 ?_
      rw [show (5 : Int32) * nI i + 3 = nI (5 * i + 3) from (by rw [pk_mul5]; exact pk_add (5 * i) 3)]
      refine g_bald dX10_sea_115 (by decide) rfl (vp_in_nI (by omega) (by decide)) ?_
      dsimp only
      rw [show (nI (5 * i + 3)).toNatClampNeg = 5 * i + 3 from nI_clamp (by omega), show (upI (upI (upI (spF g i) 54 i (kbV (g 66 (5 * i)))) 55 i (g 66 (5 * i + 1) - 48)) 56 i (g 66 (5 * i + 2) - 48)) 66 (5 * i + 3) = g 66 (5 * i + 3) from by rw [upI_a (by decide), upI_a (by decide), upI_a (by decide), sp_off (by omega)]]
      refine g_bipush (v := 48) dX10_sea_116 (by decide) ?_
      refine g_isub dX10_sea_118 ?_
      refine g_iast dX10_sea_119 (by decide) rfl (vp_in_nI (by omega) (by decide)) ?_
      dsimp only
      rw [eci]
      refine g_aload_n dX10_sea_120 rfl ?_
      refine g_getr dX10_sea_121 k_X10_22 rfl (by decide) rfl rfl ?_
      refine g_iload_n dX10_sea_124 rfl ?_
      refine g_iconst (v := 0) dX10_sea_125 (by decide) ?_
      refine g_iast dX10_sea_126 (by decide) rfl (vp_in_nI (by omega) (by decide)) ?_
      dsimp only
      rw [eci]
      refine g_aload_n dX10_sea_127 rfl ?_
      refine g_getr dX10_sea_128 k_X10_25 rfl (by decide) rfl rfl ?_
      refine g_iload_n dX10_sea_131 rfl ?_
      refine g_iconst (v := 0) dX10_sea_132 (by decide) ?_
      refine g_iast dX10_sea_133 (by decide) rfl (vp_in_nI (by omega) (by decide)) ?_
      dsimp only
      rw [eci]
      refine g_aload_n dX10_sea_134 rfl ?_
      refine g_getr dX10_sea_135 k_X10_28 rfl (by decide) rfl rfl ?_
      refine g_iload_n dX10_sea_138 rfl ?_
      refine g_iconst (v := 0) dX10_sea_139 (by decide) ?_
      refine g_iast dX10_sea_140 (by decide) rfl (vp_in_nI (by omega) (by decide)) ?_
      dsimp only
      rw [eci]
      refine g_aload_n dX10_sea_141 rfl ?_
      refine g_getr dX10_sea_142 k_X10_31 rfl (by decide) rfl rfl ?_
      refine g_iload_n dX10_sea_145 rfl ?_
      refine g_iconst (v := 0) dX10_sea_146 (by decide) ?_
      refine g_iast dX10_sea_147 (by decide) rfl (vp_in_nI (by omega) (by decide)) ?_
      dsimp only
      rw [eci]
      refine g_aload_n dX10_sea_148 rfl ?_
      refine g_getr dX10_sea_149 k_X10_34 rfl (by decide) rfl rfl ?_
      refine g_iload_n dX10_sea_152 rfl ?_
      refine g_iconst (v := -1) dX10_sea_153 (by decide) ?_
      refine g_iast dX10_sea_154 (by decide) rfl (vp_in_nI (by omega) (by decide)) ?_
      dsimp only
      rw [eci]
      refine g_iinc dX10_sea_155 rfl (nI_inc i) (by decide) rfl rfl ?_
      refine g_goto 38 dX10_sea_158 (by decide) ?_
      rw [sp_step]
      exact ih (i + 1) (by omega)

set_option maxRecDepth 100000 in
set_option maxHeartbeats 4000000 in
theorem ct_msea {L : Nat} (hL1 : L ≤ 41) (hL2 : hi 53 22 = nI L) {m1 m2 : Nat} (hw : rdW (hi 66) L = true) (h1 : (rsV (hi 66) L 4 0 0).2.1 = m1) (h2 : (rsV (hi 66) L 4 ((rsV (hi 66) L 4 0 0).1 + 1) 0).2.1 = m2) (h8 : m1 + m2 ≤ 8) : MC E l 6 mX10_sea [.ref 53] 83 (hi, hl, RT) 0 0 (fun r h' => ∃ hf, r = some (.int (nI (m1 + m2))) ∧ h' = (seT (spF (upI (upI hf 53 1 (nI m1)) 53 2 (nI (m1 + m2))) (m1 + m2)), hl, RT) ∧ RZ hi hf) := by
  refine MC.of [some (.ref 53), none] (by decide) rfl (Nat.le_of_ble_eq_true rfl) ?_
  refine g_aload_n dX10_sea_0 rfl ?_
  refine g_callV0 (M' := mX10_read) (mc' := 0) (ms' := 0) dX10_sea_1 l_X10_133 s_mX10_read (by decide) rfl rfl f_mX10_read (Nat.le_of_ble_eq_true rfl) (by decide) (ct_read hL1 hL2) ?_
  rintro _ _ ⟨hf, rfl, rfl, q3, q4, q5⟩
  rw [hw] at q4
  obtain ⟨q6, q7⟩ := q5 hw
  rw [h1] at q6
  rw [h2] at q7
  refine g_pop dX10_sea_4 rfl ?_
  refine g_aload_n dX10_sea_5 rfl ?_
  refine g_geti dX10_sea_6 k_X10_120 rfl (by decide) rfl ?_
  refine g_ifne 15 dX10_sea_9 (by decide) (fun c9 => ?_) (fun c9 => ?_)
  · skip
    refine g_aload_n dX10_sea_15 rfl ?_
    refine g_aload_n dX10_sea_16 rfl ?_
    refine g_geti dX10_sea_17 k_X10_130 rfl (by decide) rfl ?_
    dsimp only
    rw [show hf 53 26 = nI m1 from q6]
    refine g_puti dX10_sea_20 k_X10_137 rfl (by decide) rfl rfl rfl ?_
    refine g_aload_n dX10_sea_23 rfl ?_
    refine g_aload_n dX10_sea_24 rfl ?_
    refine g_geti dX10_sea_25 k_X10_130 rfl (by decide) rfl ?_
    refine g_aload_n dX10_sea_28 rfl ?_
    refine g_geti dX10_sea_29 k_X10_117 rfl (by decide) rfl ?_
    refine g_iadd dX10_sea_32 ?_
    dsimp only
    rw [show upI hf 53 1 (nI m1) 53 26 = nI m1 from (upI_k (by decide)).trans q6, show upI hf 53 1 (nI m1) 53 25 = nI m2 from (upI_k (by decide)).trans q7, pk_add]
    refine g_puti dX10_sea_33 k_X10_140 rfl (by decide) rfl rfl rfl ?_
    refine g_iconst (v := 0) dX10_sea_36 (by decide) ?_
    refine g_istore_n dX10_sea_37 (by decide) rfl rfl ?_
    have hh := lp_sea (E := E) (l := l) (hl := hl) (N := m1 + m2) h8 (g := (upI (upI hf 53 1 (nI m1)) 53 2 (nI (m1 + m2)))) upI_s (m1 + m2) 0 (by omega)
    rw [sp_0] at hh
    exact g_mono (fun r h2 z => ⟨hf, z.1, z.2, q3⟩) hh
  · skip
    exact absurd (q4.symm.trans c9) (by decide)

end
