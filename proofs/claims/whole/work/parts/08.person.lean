section
variable {E : XE} {l : Launch} {hi : Nat → Nat → Int32} {hl : Nat → Nat → Int64}

set_option maxRecDepth 100000 in
set_option maxHeartbeats 4000000 in
theorem ct_picture {p : Nat} (hp : XO 3 p) : MC E l 1 mX5_picture [.ref p] 83 (hi, hl, RT) 0 0 (fun r h' => r = some (.int (pPic hi p)) ∧ h' = (hi, hl, RT)) := by
  refine MC.of [some (.ref p)] (by decide) rfl (Nat.le_of_ble_eq_true rfl) ?_
  refine g_aload_n dX5_picture_0 rfl ?_
  refine g_geti dX5_picture_1 k_X5_33 rfl hp.1 hp.2 ?_
  refine g_aload_n dX5_picture_4 rfl ?_
  refine g_geti dX5_picture_5 k_X5_36 rfl hp.1 hp.2 ?_
  refine g_iadd dX5_picture_8 ?_
  exact g_ireturn dX5_picture_9 rfl rfl ⟨rfl, rfl⟩

set_option maxRecDepth 100000 in
set_option maxHeartbeats 4000000 in
theorem ct_isTaken {p : Nat} (hp : XO 3 p) : MC E l 1 mX5_isTaken [.ref p] 83 (hi, hl, RT) 0 0 (fun r h' => r = some (.int (bI (pTaken hi p))) ∧ h' = (hi, hl, RT)) := by
  refine MC.of [some (.ref p)] (by decide) rfl (Nat.le_of_ble_eq_true rfl) ?_
  refine g_aload_n dX5_isTaken_0 rfl ?_
  refine g_geti dX5_isTaken_1 k_X5_20 rfl hp.1 hp.2 ?_
  refine g_iconst (v := -1) dX5_isTaken_4 (by decide) ?_
  refine g_icmpeq 12 dX5_isTaken_5 (by decide) (fun c5 => ?_) (fun c5 => ?_)
  · skip
    refine g_iconst (v := 0) dX5_isTaken_12 (by decide) ?_
    exact g_ireturn dX5_isTaken_13 rfl rfl ⟨by simp_all [bI, pTaken], rfl⟩
  · skip
    refine g_iconst (v := 1) dX5_isTaken_8 (by decide) ?_
    refine g_goto 13 dX5_isTaken_9 (by decide) ?_
    exact g_ireturn dX5_isTaken_13 rfl rfl ⟨by simp_all [bI, pTaken], rfl⟩

set_option maxRecDepth 100000 in
set_option maxHeartbeats 4000000 in
theorem ct_isGone (hkv : KV hi) {p : Nat} (hp : XO 3 p) : MC E l 1 mX5_isGone [.ref p] 83 (hi, hl, RT) 0 0 (fun r h' => r = some (.int (bI (pGone hi p))) ∧ h' = (hi, hl, RT)) := by
  refine MC.of [some (.ref p)] (by decide) rfl (Nat.le_of_ble_eq_true rfl) ?_
  obtain ⟨jkp, h5p, hjp⟩ := hkv p hp
  have e4 := kx4 hjp h5p
  refine g_aload_n dX5_isGone_0 rfl ?_
  refine g_getk dX5_isGone_1 k_X5_15 rfl hp.1 hp.2 hjp h5p ?_
  refine g_getsK (i := 4) dX5_isGone_4 (by decide) rfl k_X5_54 ?_
  refine g_acmpne 14 dX5_isGone_7 (by decide) h5p (by decide) (fun c7 => ?_) (fun c7 => ?_)
  · skip
    refine g_iconst (v := 0) dX5_isGone_14 (by decide) ?_
    exact g_ireturn dX5_isGone_15 rfl rfl ⟨by simp_all [bI, pGone], rfl⟩
  · skip
    refine g_iconst (v := 1) dX5_isGone_10 (by decide) ?_
    refine g_goto 15 dX5_isGone_11 (by decide) ?_
    exact g_ireturn dX5_isGone_15 rfl rfl ⟨by simp_all [bI, pGone], rfl⟩

set_option maxRecDepth 100000 in
set_option maxHeartbeats 4000000 in
theorem ct_isFree (hkv : KV hi) {p : Nat} (hp : XO 3 p) : MC E l 2 mX5_isFree [.ref p] 83 (hi, hl, RT) 0 0 (fun r h' => r = some (.int (bI (pFree hi p))) ∧ h' = (hi, hl, RT)) := by
  refine MC.of [some (.ref p)] (by decide) rfl (Nat.le_of_ble_eq_true rfl) ?_
  refine g_aload_n dX5_isFree_0 rfl ?_
  refine g_callV0 (M' := mX5_isTaken) (mc' := 0) (ms' := 0) dX5_isFree_1 l_X5_57 s_mX5_isTaken hp.1 hp.2 rfl f_mX5_isTaken (Nat.le_of_ble_eq_true rfl) (by decide) (ct_isTaken hp) ?_
  rintro _ _ ⟨rfl, rfl⟩
  refine g_ifne 18 dX5_isFree_4 (by decide) (fun c4 => ?_) (fun c4 => ?_)
  · skip
    refine g_iconst (v := 0) dX5_isFree_18 (by decide) ?_
    exact g_ireturn dX5_isFree_19 rfl rfl ⟨by simp_all [bI, pFree], rfl⟩
  · skip
    refine g_aload_n dX5_isFree_7 rfl ?_
    refine g_callV0 (M' := mX5_isGone) (mc' := 0) (ms' := 0) dX5_isFree_8 l_X5_61 s_mX5_isGone hp.1 hp.2 rfl f_mX5_isGone (Nat.le_of_ble_eq_true rfl) (by decide) (ct_isGone hkv hp) ?_
    rintro _ _ ⟨rfl, rfl⟩
    refine g_ifne 18 dX5_isFree_11 (by decide) (fun c11 => ?_) (fun c11 => ?_)
    · skip
      refine g_iconst (v := 0) dX5_isFree_18 (by decide) ?_
      exact g_ireturn dX5_isFree_19 rfl rfl ⟨by simp_all [bI, pFree], rfl⟩
    · skip
      refine g_iconst (v := 1) dX5_isFree_14 (by decide) ?_
      refine g_goto 19 dX5_isFree_15 (by decide) ?_
      exact g_ireturn dX5_isFree_19 rfl rfl ⟨by simp_all [bI, pFree], rfl⟩

set_option maxRecDepth 100000 in
set_option maxHeartbeats 4000000 in
theorem ct_isCoupleWith {p q : Nat} (hp : XO 3 p) (hq : XO 3 q) : MC E l 1 mX5_isCoupleWith [.ref p, .ref q] 83 (hi, hl, RT) 0 0 (fun r h' => r = some (.int (bI (decide (hi p 11 = hi q 0)))) ∧ h' = (hi, hl, RT)) := by
  refine MC.of [some (.ref p), some (.ref q)] (by decide) rfl (Nat.le_of_ble_eq_true rfl) ?_
  refine g_aload_n dX5_isCoupleWith_0 rfl ?_
  refine g_geti dX5_isCoupleWith_1 k_X5_20 rfl hp.1 hp.2 ?_
  refine g_aload_n dX5_isCoupleWith_4 rfl ?_
  refine g_geti dX5_isCoupleWith_5 k_X5_24 rfl hq.1 hq.2 ?_
  refine g_icmpne 15 dX5_isCoupleWith_8 (by decide) (fun c8 => ?_) (fun c8 => ?_)
  · skip
    refine g_iconst (v := 0) dX5_isCoupleWith_15 (by decide) ?_
    exact g_ireturn dX5_isCoupleWith_16 rfl rfl ⟨by simp_all [bI], rfl⟩
  · skip
    refine g_iconst (v := 1) dX5_isCoupleWith_11 (by decide) ?_
    refine g_goto 16 dX5_isCoupleWith_12 (by decide) ?_
    exact g_ireturn dX5_isCoupleWith_16 rfl rfl ⟨by simp_all [bI], rfl⟩

set_option maxRecDepth 100000 in
set_option maxHeartbeats 4000000 in
theorem ct_wouldBeContent (hkv : KV hi) {p : Nat} (hp : XO 3 p) (s a : Int32) : MC E l 1 mX5_wouldBeContent [.ref p, .int s, .int a] 83 (hi, hl, RT) 0 0 (fun r h' => r = some (.int (bI (pCont hi p s a))) ∧ h' = (hi, hl, RT)) := by
  refine MC.of [some (.ref p), some (.int s), some (.int a)] (by decide) rfl (Nat.le_of_ble_eq_true rfl) ?_
  obtain ⟨jkp, h5p, hjp⟩ := hkv p hp
  have e1 := kx1 hjp h5p
  refine g_aload_n dX5_wouldBeContent_0 rfl ?_
  refine g_getk dX5_wouldBeContent_1 k_X5_15 rfl hp.1 hp.2 hjp h5p ?_
  refine g_getsK (i := 1) dX5_wouldBeContent_4 (by decide) rfl k_X5_68 ?_
  refine g_acmpeq 15 dX5_wouldBeContent_7 (by decide) h5p (by decide) (fun c7 => ?_) (fun c7 => ?_)
  · skip
    refine g_iconst (v := 1) dX5_wouldBeContent_15 (by decide) ?_
    refine g_goto 20 dX5_wouldBeContent_16 (by decide) ?_
    exact g_ireturn dX5_wouldBeContent_20 rfl rfl ⟨by simp_all [bI, pCont], rfl⟩
  · skip
    refine g_iload_n dX5_wouldBeContent_10 rfl ?_
    refine g_iload_n dX5_wouldBeContent_11 rfl ?_
    refine g_icmplt 19 dX5_wouldBeContent_12 (by decide) (fun c12 => ?_) (fun c12 => ?_)
    · skip
      refine g_iconst (v := 0) dX5_wouldBeContent_19 (by decide) ?_
      exact g_ireturn dX5_wouldBeContent_20 rfl rfl ⟨by simp_all [bI, pCont], rfl⟩
    · skip
      refine g_iconst (v := 1) dX5_wouldBeContent_15 (by decide) ?_
      refine g_goto 20 dX5_wouldBeContent_16 (by decide) ?_
      exact g_ireturn dX5_wouldBeContent_20 rfl rfl ⟨by simp_all [bI, pCont], rfl⟩

set_option maxRecDepth 100000 in
set_option maxHeartbeats 4000000 in
theorem ct_isContentWith (hkv : KV hi) {p : Nat} (hp : XO 3 p) (a : Int32) : MC E l 2 mX5_isContentWith [.ref p, .int a] 83 (hi, hl, RT) 0 0 (fun r h' => r = some (.int (bI (pCont hi p (hi p 6) a))) ∧ h' = (hi, hl, RT)) := by
  refine MC.of [some (.ref p), some (.int a)] (by decide) rfl (Nat.le_of_ble_eq_true rfl) ?_
  refine g_aload_n dX5_isContentWith_0 rfl ?_
  refine g_aload_n dX5_isContentWith_1 rfl ?_
  refine g_geti dX5_isContentWith_2 k_X5_39 rfl hp.1 hp.2 ?_
  refine g_iload_n dX5_isContentWith_5 rfl ?_
  refine g_callV2 (M' := mX5_wouldBeContent) (mc' := 0) (ms' := 0) dX5_isContentWith_6 l_X5_64 s_mX5_wouldBeContent hp.1 hp.2 rfl f_mX5_wouldBeContent (Nat.le_of_ble_eq_true rfl) (by decide) (ct_wouldBeContent hkv hp _ _) ?_
  rintro _ _ ⟨rfl, rfl⟩
  exact g_ireturn dX5_isContentWith_9 rfl (bI_nar _) ⟨rfl, rfl⟩

set_option maxRecDepth 100000 in
set_option maxHeartbeats 4000000 in
theorem ct_likes (hkv : KV hi) {p q : Nat} (hp : XO 3 p) (hq : XO 3 q) : MC E l 2 mX5_likes [.ref p, .ref q] 83 (hi, hl, RT) 0 0 (fun r h' => r = some (.int (bI (pLikes hi p q))) ∧ h' = (hi, hl, RT)) := by
  refine MC.of [some (.ref p), some (.ref q)] (by decide) rfl (Nat.le_of_ble_eq_true rfl) ?_
  refine g_aload_n dX5_likes_0 rfl ?_
  refine g_geti dX5_likes_1 k_X5_30 rfl hp.1 hp.2 ?_
  refine g_aload_n dX5_likes_4 rfl ?_
  refine g_geti dX5_likes_5 k_X5_30 rfl hq.1 hq.2 ?_
  refine g_icmpeq 30 dX5_likes_8 (by decide) (fun c8 => ?_) (fun c8 => ?_)
  · skip
    refine g_iconst (v := 0) dX5_likes_30 (by decide) ?_
    exact g_ireturn dX5_likes_31 rfl rfl ⟨by simp_all [bI, pLikes], rfl⟩
  · skip
    refine g_aload_n dX5_likes_11 rfl ?_
    refine g_aload_n dX5_likes_12 rfl ?_
    refine g_geti dX5_likes_13 k_X5_39 rfl hp.1 hp.2 ?_
    refine g_aload_n dX5_likes_16 rfl ?_
    refine g_callV0 (M' := mX5_picture) (mc' := 0) (ms' := 0) dX5_likes_17 l_X5_71 s_mX5_picture hq.1 hq.2 rfl f_mX5_picture (Nat.le_of_ble_eq_true rfl) (by decide) (ct_picture hq) ?_
    rintro _ _ ⟨rfl, rfl⟩
    refine g_callV2 (M' := mX5_wouldBeContent) (mc' := 0) (ms' := 0) dX5_likes_20 l_X5_64 s_mX5_wouldBeContent hp.1 hp.2 rfl f_mX5_wouldBeContent (Nat.le_of_ble_eq_true rfl) (by decide) (ct_wouldBeContent hkv hp _ _) ?_
    rintro _ _ ⟨rfl, rfl⟩
    refine g_ifeq 30 dX5_likes_23 (by decide) (fun c23 => ?_) (fun c23 => ?_)
    · skip
      refine g_iconst (v := 0) dX5_likes_30 (by decide) ?_
      exact g_ireturn dX5_likes_31 rfl rfl ⟨by simp_all [bI, pLikes], rfl⟩
    · skip
      refine g_iconst (v := 1) dX5_likes_26 (by decide) ?_
      refine g_goto 31 dX5_likes_27 (by decide) ?_
      exact g_ireturn dX5_likes_31 rfl rfl ⟨by simp_all [bI, pLikes], rfl⟩

set_option maxRecDepth 100000 in
set_option maxHeartbeats 4000000 in
theorem ct_wentRightOn {p q : Nat} (hp : XO 3 p) (hq : XO 3 q) : MC E l 1 mX5_wentRightOn [.ref p, .ref q] 83 (hi, hl, RT) 0 0 (fun r h' => r = some (.int (bI (pWent hi p q))) ∧ h' = (hi, hl, RT)) := by
  refine MC.of [some (.ref p), some (.ref q)] (by decide) rfl (Nat.le_of_ble_eq_true rfl) ?_
  refine g_aload_n dX5_wentRightOn_0 rfl ?_
  refine g_geti dX5_wentRightOn_1 k_X5_42 rfl hp.1 hp.2 ?_
  refine g_aload_n dX5_wentRightOn_4 rfl ?_
  refine g_geti dX5_wentRightOn_5 k_X5_27 rfl hq.1 hq.2 ?_
  refine g_iand dX5_wentRightOn_8 ?_
  refine g_ifeq 16 dX5_wentRightOn_9 (by decide) (fun c9 => ?_) (fun c9 => ?_)
  · skip
    refine g_iconst (v := 0) dX5_wentRightOn_16 (by decide) ?_
    exact g_ireturn dX5_wentRightOn_17 rfl rfl ⟨by simp_all [bI, pWent], rfl⟩
  · skip
    refine g_iconst (v := 1) dX5_wentRightOn_12 (by decide) ?_
    refine g_goto 17 dX5_wentRightOn_13 (by decide) ?_
    exact g_ireturn dX5_wentRightOn_17 rfl rfl ⟨by simp_all [bI, pWent], rfl⟩

set_option maxRecDepth 100000 in
set_option maxHeartbeats 4000000 in
theorem ct_wasShown {p q : Nat} (hp : XO 3 p) (hq : XO 3 q) : MC E l 1 mX5_wasShown [.ref p, .ref q] 83 (hi, hl, RT) 0 0 (fun r h' => r = some (.int (bI (pShown hi p q))) ∧ h' = (hi, hl, RT)) := by
  refine MC.of [some (.ref p), some (.ref q)] (by decide) rfl (Nat.le_of_ble_eq_true rfl) ?_
  refine g_aload_n dX5_wasShown_0 rfl ?_
  refine g_geti dX5_wasShown_1 k_X5_42 rfl hp.1 hp.2 ?_
  refine g_aload_n dX5_wasShown_4 rfl ?_
  refine g_geti dX5_wasShown_5 k_X5_45 rfl hp.1 hp.2 ?_
  refine g_ior dX5_wasShown_8 ?_
  refine g_aload_n dX5_wasShown_9 rfl ?_
  refine g_geti dX5_wasShown_10 k_X5_27 rfl hq.1 hq.2 ?_
  refine g_iand dX5_wasShown_13 ?_
  refine g_ifeq 21 dX5_wasShown_14 (by decide) (fun c14 => ?_) (fun c14 => ?_)
  · skip
    refine g_iconst (v := 0) dX5_wasShown_21 (by decide) ?_
    exact g_ireturn dX5_wasShown_22 rfl rfl ⟨by simp_all [bI, pShown], rfl⟩
  · skip
    refine g_iconst (v := 1) dX5_wasShown_17 (by decide) ?_
    refine g_goto 22 dX5_wasShown_18 (by decide) ?_
    exact g_ireturn dX5_wasShown_22 rfl rfl ⟨by simp_all [bI, pShown], rfl⟩

set_option maxRecDepth 100000 in
set_option maxHeartbeats 4000000 in
theorem ct_isMatchOf {p q : Nat} (hp : XO 3 p) (hq : XO 3 q) : MC E l 2 mX5_isMatchOf [.ref p, .ref q] 83 (hi, hl, RT) 0 0 (fun r h' => r = some (.int (bI (pMatch hi p q))) ∧ h' = (hi, hl, RT)) := by
  refine MC.of [some (.ref p), some (.ref q)] (by decide) rfl (Nat.le_of_ble_eq_true rfl) ?_
  refine g_aload_n dX5_isMatchOf_0 rfl ?_
  refine g_aload_n dX5_isMatchOf_1 rfl ?_
  refine g_callV1 (M' := mX5_wentRightOn) (mc' := 0) (ms' := 0) dX5_isMatchOf_2 l_X5_75 s_mX5_wentRightOn hp.1 hp.2 rfl f_mX5_wentRightOn (Nat.le_of_ble_eq_true rfl) (by decide) (ct_wentRightOn hp hq) ?_
  rintro _ _ ⟨rfl, rfl⟩
  refine g_ifeq 20 dX5_isMatchOf_5 (by decide) (fun c5 => ?_) (fun c5 => ?_)
  · skip
    refine g_iconst (v := 0) dX5_isMatchOf_20 (by decide) ?_
    exact g_ireturn dX5_isMatchOf_21 rfl rfl ⟨by simp_all [bI, pMatch], rfl⟩
  · skip
    refine g_aload_n dX5_isMatchOf_8 rfl ?_
    refine g_aload_n dX5_isMatchOf_9 rfl ?_
    refine g_callV1 (M' := mX5_wentRightOn) (mc' := 0) (ms' := 0) dX5_isMatchOf_10 l_X5_75 s_mX5_wentRightOn hq.1 hq.2 rfl f_mX5_wentRightOn (Nat.le_of_ble_eq_true rfl) (by decide) (ct_wentRightOn hq hp) ?_
    rintro _ _ ⟨rfl, rfl⟩
    refine g_ifeq 20 dX5_isMatchOf_13 (by decide) (fun c13 => ?_) (fun c13 => ?_)
    · skip
      refine g_iconst (v := 0) dX5_isMatchOf_20 (by decide) ?_
      exact g_ireturn dX5_isMatchOf_21 rfl rfl ⟨by simp_all [bI, pMatch], rfl⟩
    · skip
      refine g_iconst (v := 1) dX5_isMatchOf_16 (by decide) ?_
      refine g_goto 21 dX5_isMatchOf_17 (by decide) ?_
      exact g_ireturn dX5_isMatchOf_21 rfl rfl ⟨by simp_all [bI, pMatch], rfl⟩

set_option maxRecDepth 100000 in
set_option maxHeartbeats 4000000 in
theorem ct_canBeShown (hkv : KV hi) {p q : Nat} (hp : XO 3 p) (hq : XO 3 q) : MC E l 3 mX5_canBeShown [.ref p, .ref q] 83 (hi, hl, RT) 0 0 (fun r h' => r = some (.int (bI (pCan hi p q))) ∧ h' = (hi, hl, RT)) := by
  refine MC.of [some (.ref p), some (.ref q)] (by decide) rfl (Nat.le_of_ble_eq_true rfl) ?_
  refine g_aload_n dX5_canBeShown_0 rfl ?_
  refine g_geti dX5_canBeShown_1 k_X5_30 rfl hp.1 hp.2 ?_
  refine g_aload_n dX5_canBeShown_4 rfl ?_
  refine g_geti dX5_canBeShown_5 k_X5_30 rfl hq.1 hq.2 ?_
  refine g_icmpeq 37 dX5_canBeShown_8 (by decide) (fun c8 => ?_) (fun c8 => ?_)
  · skip
    refine g_iconst (v := 0) dX5_canBeShown_37 (by decide) ?_
    exact g_ireturn dX5_canBeShown_38 rfl rfl ⟨by simp_all [bI, pCan], rfl⟩
  · skip
    refine g_aload_n dX5_canBeShown_11 rfl ?_
    refine g_callV0 (M' := mX5_isFree) (mc' := 0) (ms' := 0) dX5_canBeShown_12 l_X5_79 s_mX5_isFree hp.1 hp.2 rfl f_mX5_isFree (Nat.le_of_ble_eq_true rfl) (by decide) (ct_isFree hkv hp) ?_
    rintro _ _ ⟨rfl, rfl⟩
    refine g_ifeq 37 dX5_canBeShown_15 (by decide) (fun c15 => ?_) (fun c15 => ?_)
    · skip
      refine g_iconst (v := 0) dX5_canBeShown_37 (by decide) ?_
      exact g_ireturn dX5_canBeShown_38 rfl rfl ⟨by simp_all [bI, pCan], rfl⟩
    · skip
      refine g_aload_n dX5_canBeShown_18 rfl ?_
      refine g_callV0 (M' := mX5_isTaken) (mc' := 0) (ms' := 0) dX5_canBeShown_19 l_X5_57 s_mX5_isTaken hq.1 hq.2 rfl f_mX5_isTaken (Nat.le_of_ble_eq_true rfl) (by decide) (ct_isTaken hq) ?_
      rintro _ _ ⟨rfl, rfl⟩
      refine g_ifne 37 dX5_canBeShown_22 (by decide) (fun c22 => ?_) (fun c22 => ?_)
      · skip
        refine g_iconst (v := 0) dX5_canBeShown_37 (by decide) ?_
        exact g_ireturn dX5_canBeShown_38 rfl rfl ⟨by simp_all [bI, pCan], rfl⟩
      · skip
        refine g_aload_n dX5_canBeShown_25 rfl ?_
        refine g_aload_n dX5_canBeShown_26 rfl ?_
        refine g_callV1 (M' := mX5_wasShown) (mc' := 0) (ms' := 0) dX5_canBeShown_27 l_X5_82 s_mX5_wasShown hp.1 hp.2 rfl f_mX5_wasShown (Nat.le_of_ble_eq_true rfl) (by decide) (ct_wasShown hp hq) ?_
        rintro _ _ ⟨rfl, rfl⟩
        refine g_ifne 37 dX5_canBeShown_30 (by decide) (fun c30 => ?_) (fun c30 => ?_)
        · skip
          refine g_iconst (v := 0) dX5_canBeShown_37 (by decide) ?_
          exact g_ireturn dX5_canBeShown_38 rfl rfl ⟨by simp_all [bI, pCan], rfl⟩
        · skip
          refine g_iconst (v := 1) dX5_canBeShown_33 (by decide) ?_
          refine g_goto 38 dX5_canBeShown_34 (by decide) ?_
          exact g_ireturn dX5_canBeShown_38 rfl rfl ⟨by simp_all [bI, pCan], rfl⟩

set_option maxRecDepth 100000 in
set_option maxHeartbeats 4000000 in
theorem ct_isTurnToHasten {p : Nat} (hp : XO 3 p) : MC E l 1 mX5_isTurnToHasten [.ref p] 83 (hi, hl, RT) 0 0 (fun r h' => r = some (.int (bI (pHasten hi p))) ∧ h' = (hi, hl, RT)) := by
  refine MC.of [some (.ref p)] (by decide) rfl (Nat.le_of_ble_eq_true rfl) ?_
  refine g_aload_n dX5_isTurnToHasten_0 rfl ?_
  refine g_geti dX5_isTurnToHasten_1 k_X5_48 rfl hp.1 hp.2 ?_
  refine g_iconst (v := 3) dX5_isTurnToHasten_4 (by decide) ?_
  refine g_irem dX5_isTurnToHasten_5 (by decide) ?_
  refine g_iconst (v := 2) dX5_isTurnToHasten_6 (by decide) ?_
  refine g_icmpne 14 dX5_isTurnToHasten_7 (by decide) (fun c7 => ?_) (fun c7 => ?_)
  · skip
    refine g_iconst (v := 0) dX5_isTurnToHasten_14 (by decide) ?_
    exact g_ireturn dX5_isTurnToHasten_15 rfl rfl ⟨by simp_all [bI, pHasten], rfl⟩
  · skip
    refine g_iconst (v := 1) dX5_isTurnToHasten_10 (by decide) ?_
    refine g_goto 15 dX5_isTurnToHasten_11 (by decide) ?_
    exact g_ireturn dX5_isTurnToHasten_15 rfl rfl ⟨by simp_all [bI, pHasten], rfl⟩

set_option maxRecDepth 100000 in
set_option maxHeartbeats 4000000 in
theorem ct_isA {k : Nat} (hk : k < 5) (w : Int32) : MC E l 1 mX2_isA [.ref (1000 + k), .int w] 83 (hi, hl, RT) 0 0 (fun r h' => r = some (.int (bI (kIsA (nI k) w))) ∧ h' = (hi, hl, RT)) := by
  refine MC.of [some (.ref (1000 + k)), some (.int w)] (by decide) rfl (Nat.le_of_ble_eq_true rfl) ?_
  have e4 : nI k = 4 ↔ k = 4 := kx4 rfl hk
  have e9 : [(0 : Int32), 1, 2, 3, 4].getD k 0 = nI k := by match k, hk with | 0, _ => rfl | 1, _ => rfl | 2, _ => rfl | 3, _ => rfl | 4, _ => rfl
  refine g_iload_n dX2_isA_0 rfl ?_
  refine g_getsK (i := 0) dX2_isA_1 (by decide) rfl k_X2_3 ?_
  refine g_getn (f := 0) dX2_isA_4 (by decide) rfl k_X2_38 ?_
  refine g_icmpeq 35 dX2_isA_7 (by decide) (fun c7 => ?_) (fun c7 => ?_)
  · skip
    refine g_iconst (v := 1) dX2_isA_35 (by decide) ?_
    refine g_goto 40 dX2_isA_36 (by decide) ?_
    exact g_ireturn dX2_isA_40 rfl rfl ⟨by simp_all [bI, kIsA], rfl⟩
  · skip
    refine g_iload_n dX2_isA_10 rfl ?_
    refine g_aload_n dX2_isA_11 rfl ?_
    refine g_getn (f := 0) dX2_isA_12 hk rfl k_X2_38 ?_
    refine g_icmpeq 35 dX2_isA_15 (by decide) (fun c15 => ?_) (fun c15 => ?_)
    · skip
      refine g_iconst (v := 1) dX2_isA_35 (by decide) ?_
      refine g_goto 40 dX2_isA_36 (by decide) ?_
      exact g_ireturn dX2_isA_40 rfl rfl ⟨by simp_all [bI, kIsA], rfl⟩
    · skip
      refine g_iload_n dX2_isA_18 rfl ?_
      refine g_getsK (i := 3) dX2_isA_19 (by decide) rfl k_X2_13 ?_
      refine g_getn (f := 0) dX2_isA_22 (by decide) rfl k_X2_38 ?_
      refine g_icmpne 39 dX2_isA_25 (by decide) (fun c25 => ?_) (fun c25 => ?_)
      · skip
        refine g_iconst (v := 0) dX2_isA_39 (by decide) ?_
        exact g_ireturn dX2_isA_40 rfl rfl ⟨by simp_all [bI, kIsA], rfl⟩
      · skip
        refine g_aload_n dX2_isA_28 rfl ?_
        refine g_getsK (i := 4) dX2_isA_29 (by decide) rfl k_X2_16 ?_
        refine g_acmpne 39 dX2_isA_32 (by decide) hk (by decide) (fun c32 => ?_) (fun c32 => ?_)
        · skip
          refine g_iconst (v := 0) dX2_isA_39 (by decide) ?_
          exact g_ireturn dX2_isA_40 rfl rfl ⟨by simp_all [bI, kIsA], rfl⟩
        · skip
          refine g_iconst (v := 1) dX2_isA_35 (by decide) ?_
          refine g_goto 40 dX2_isA_36 (by decide) ?_
          exact g_ireturn dX2_isA_40 rfl rfl ⟨by simp_all [bI, kIsA], rfl⟩

set_option maxRecDepth 100000 in
set_option maxHeartbeats 4000000 in
theorem ct_goesRightOn (hkv : KV hi) {p q : Nat} (hp : XO 3 p) (hq : XO 3 q) (lim : Int32) : MC E l 3 mX5_goesRightOn [.ref p, .ref q, .int lim] 83 (hi, hl, RT) 0 0 (fun r h' => r = some (.int (bI (pRight hi p q lim))) ∧ h' = (hi, hl, RT)) := by
  refine MC.of [some (.ref p), some (.ref q), some (.int lim)] (by decide) rfl (Nat.le_of_ble_eq_true rfl) ?_
  obtain ⟨jkp, h5p, hjp⟩ := hkv p hp
  have e2 := kx2 hjp h5p
  refine g_aload_n dX5_goesRightOn_0 rfl ?_
  refine g_aload_n dX5_goesRightOn_1 rfl ?_
  refine g_callV1 (M' := mX5_likes) (mc' := 0) (ms' := 0) dX5_goesRightOn_2 l_X5_85 s_mX5_likes hp.1 hp.2 rfl f_mX5_likes (Nat.le_of_ble_eq_true rfl) (by decide) (ct_likes hkv hp hq) ?_
  rintro _ _ ⟨rfl, rfl⟩
  refine g_ifeq 16 dX5_goesRightOn_5 (by decide) (fun c5 => ?_) (fun c5 => ?_)
  · skip
    refine g_iconst (v := 0) dX5_goesRightOn_16 (by decide) ?_
    exact g_ireturn dX5_goesRightOn_17 rfl rfl ⟨by simp_all [bI, pRight], rfl⟩
  · skip
    refine g_aload_n dX5_goesRightOn_8 rfl ?_
    refine g_geti dX5_goesRightOn_9 k_X5_51 rfl hp.1 hp.2 ?_
    refine g_iload_n dX5_goesRightOn_12 rfl ?_
    refine g_icmplt 18 dX5_goesRightOn_13 (by decide) (fun c13 => ?_) (fun c13 => ?_)
    · skip
      refine g_aload_n dX5_goesRightOn_18 rfl ?_
      refine g_getk dX5_goesRightOn_19 k_X5_15 rfl hp.1 hp.2 hjp h5p ?_
      refine g_getsK (i := 2) dX5_goesRightOn_22 (by decide) rfl k_X5_88 ?_
      refine g_acmpne 37 dX5_goesRightOn_25 (by decide) h5p (by decide) (fun c25 => ?_) (fun c25 => ?_)
      · skip
        refine g_aload_n dX5_goesRightOn_37 rfl ?_
        refine g_getk dX5_goesRightOn_38 k_X5_15 rfl hp.1 hp.2 hjp h5p ?_
        refine g_getsK (i := 3) dX5_goesRightOn_41 (by decide) rfl k_X5_94 ?_
        refine g_getn (f := 0) dX5_goesRightOn_44 (by decide) rfl k_X5_97 ?_
        refine g_callK1 (M' := mX2_isA) (mc' := 0) (ms' := 0) dX5_goesRightOn_47 l_X5_98 s_mX2_isA h5p rfl f_mX2_isA (Nat.le_of_ble_eq_true rfl) (by decide) (ct_isA h5p _) ?_
        rintro _ _ ⟨rfl, rfl⟩
        refine g_ifeq 61 dX5_goesRightOn_50 (by decide) (fun c50 => ?_) (fun c50 => ?_)
        · skip
          refine g_iconst (v := 1) dX5_goesRightOn_61 (by decide) ?_
          refine g_goto 66 dX5_goesRightOn_62 (by decide) ?_
          exact g_ireturn dX5_goesRightOn_66 rfl rfl ⟨by simp_all [bI, pRight], rfl⟩
        · skip
          refine g_aload_n dX5_goesRightOn_53 rfl ?_
          refine g_aload_n dX5_goesRightOn_54 rfl ?_
          refine g_callV1 (M' := mX5_wentRightOn) (mc' := 0) (ms' := 0) dX5_goesRightOn_55 l_X5_75 s_mX5_wentRightOn hq.1 hq.2 rfl f_mX5_wentRightOn (Nat.le_of_ble_eq_true rfl) (by decide) (ct_wentRightOn hq hp) ?_
          rintro _ _ ⟨rfl, rfl⟩
          refine g_ifeq 65 dX5_goesRightOn_58 (by decide) (fun c58 => ?_) (fun c58 => ?_)
          · skip
            refine g_iconst (v := 0) dX5_goesRightOn_65 (by decide) ?_
            exact g_ireturn dX5_goesRightOn_66 rfl rfl ⟨by simp_all [bI, pRight], rfl⟩
          · skip
            refine g_iconst (v := 1) dX5_goesRightOn_61 (by decide) ?_
            refine g_goto 66 dX5_goesRightOn_62 (by decide) ?_
            exact g_ireturn dX5_goesRightOn_66 rfl rfl ⟨by simp_all [bI, pRight], rfl⟩
      · skip
        refine g_aload_n dX5_goesRightOn_28 rfl ?_
        refine g_callV0 (M' := mX5_isTurnToHasten) (mc' := 0) (ms' := 0) dX5_goesRightOn_29 l_X5_91 s_mX5_isTurnToHasten hp.1 hp.2 rfl f_mX5_isTurnToHasten (Nat.le_of_ble_eq_true rfl) (by decide) (ct_isTurnToHasten hp) ?_
        rintro _ _ ⟨rfl, rfl⟩
        refine g_ifeq 37 dX5_goesRightOn_32 (by decide) (fun c32 => ?_) (fun c32 => ?_)
        · skip
          refine g_aload_n dX5_goesRightOn_37 rfl ?_
          refine g_getk dX5_goesRightOn_38 k_X5_15 rfl hp.1 hp.2 hjp h5p ?_
          refine g_getsK (i := 3) dX5_goesRightOn_41 (by decide) rfl k_X5_94 ?_
          refine g_getn (f := 0) dX5_goesRightOn_44 (by decide) rfl k_X5_97 ?_
          refine g_callK1 (M' := mX2_isA) (mc' := 0) (ms' := 0) dX5_goesRightOn_47 l_X5_98 s_mX2_isA h5p rfl f_mX2_isA (Nat.le_of_ble_eq_true rfl) (by decide) (ct_isA h5p _) ?_
          rintro _ _ ⟨rfl, rfl⟩
          refine g_ifeq 61 dX5_goesRightOn_50 (by decide) (fun c50 => ?_) (fun c50 => ?_)
          · skip
            refine g_iconst (v := 1) dX5_goesRightOn_61 (by decide) ?_
            refine g_goto 66 dX5_goesRightOn_62 (by decide) ?_
            exact g_ireturn dX5_goesRightOn_66 rfl rfl ⟨by simp_all [bI, pRight], rfl⟩
          · skip
            refine g_aload_n dX5_goesRightOn_53 rfl ?_
            refine g_aload_n dX5_goesRightOn_54 rfl ?_
            refine g_callV1 (M' := mX5_wentRightOn) (mc' := 0) (ms' := 0) dX5_goesRightOn_55 l_X5_75 s_mX5_wentRightOn hq.1 hq.2 rfl f_mX5_wentRightOn (Nat.le_of_ble_eq_true rfl) (by decide) (ct_wentRightOn hq hp) ?_
            rintro _ _ ⟨rfl, rfl⟩
            refine g_ifeq 65 dX5_goesRightOn_58 (by decide) (fun c58 => ?_) (fun c58 => ?_)
            · skip
              refine g_iconst (v := 0) dX5_goesRightOn_65 (by decide) ?_
              exact g_ireturn dX5_goesRightOn_66 rfl rfl ⟨by simp_all [bI, pRight], rfl⟩
            · skip
              refine g_iconst (v := 1) dX5_goesRightOn_61 (by decide) ?_
              refine g_goto 66 dX5_goesRightOn_62 (by decide) ?_
              exact g_ireturn dX5_goesRightOn_66 rfl rfl ⟨by simp_all [bI, pRight], rfl⟩
        · skip
          refine g_iconst (v := 0) dX5_goesRightOn_35 (by decide) ?_
          exact g_ireturn dX5_goesRightOn_36 rfl rfl ⟨by simp_all [bI, pRight], rfl⟩
    · skip
      refine g_iconst (v := 0) dX5_goesRightOn_16 (by decide) ?_
      exact g_ireturn dX5_goesRightOn_17 rfl rfl ⟨by simp_all [bI, pRight], rfl⟩

set_option maxRecDepth 100000 in
set_option maxHeartbeats 4000000 in
theorem ct_goRightOn {p q : Nat} (hp : XO 3 p) (hq : XO 3 q) : MC E l 1 mX5_goRightOn [.ref p, .ref q] 83 (hi, hl, RT) 0 0 (fun r h' => r = none ∧ h' = (upI (upI (upI hi p 7 (hi p 7 ||| hi q 1)) p 9 0) p 10 (hi p 10 + 1), hl, RT)) := by
  refine MC.of [some (.ref p), some (.ref q)] (by decide) rfl (Nat.le_of_ble_eq_true rfl) ?_
  refine g_aload_n dX5_goRightOn_0 rfl ?_
  refine g_dup dX5_goRightOn_1 rfl ?_
  refine g_geti dX5_goRightOn_2 k_X5_42 rfl hp.1 hp.2 ?_
  refine g_aload_n dX5_goRightOn_5 rfl ?_
  refine g_geti dX5_goRightOn_6 k_X5_27 rfl hq.1 hq.2 ?_
  refine g_ior dX5_goRightOn_9 ?_
  refine g_puti dX5_goRightOn_10 k_X5_42 rfl hp.1 hp.2 rfl rfl ?_
  refine g_aload_n dX5_goRightOn_13 rfl ?_
  refine g_iconst (v := 0) dX5_goRightOn_14 (by decide) ?_
  refine g_puti dX5_goRightOn_15 k_X5_48 rfl hp.1 hp.2 rfl rfl ?_
  refine g_aload_n dX5_goRightOn_18 rfl ?_
  refine g_dup dX5_goRightOn_19 rfl ?_
  refine g_geti dX5_goRightOn_20 k_X5_51 rfl hp.1 hp.2 ?_
  refine g_iconst (v := 1) dX5_goRightOn_23 (by decide) ?_
  refine g_iadd dX5_goRightOn_24 ?_
  refine g_puti dX5_goRightOn_25 k_X5_51 rfl hp.1 hp.2 rfl rfl ?_
  exact g_return dX5_goRightOn_28 rfl ⟨rfl, by simp [upI_k]⟩

set_option maxRecDepth 100000 in
set_option maxHeartbeats 4000000 in
theorem ct_goLeftOn {p q : Nat} (hp : XO 3 p) (hq : XO 3 q) : MC E l 1 mX5_goLeftOn [.ref p, .ref q] 83 (hi, hl, RT) 0 0 (fun r h' => r = none ∧ h' = (upI (upI hi p 8 (hi p 8 ||| hi q 1)) p 9 (hi p 9 + 1), hl, RT)) := by
  refine MC.of [some (.ref p), some (.ref q)] (by decide) rfl (Nat.le_of_ble_eq_true rfl) ?_
  refine g_aload_n dX5_goLeftOn_0 rfl ?_
  refine g_dup dX5_goLeftOn_1 rfl ?_
  refine g_geti dX5_goLeftOn_2 k_X5_45 rfl hp.1 hp.2 ?_
  refine g_aload_n dX5_goLeftOn_5 rfl ?_
  refine g_geti dX5_goLeftOn_6 k_X5_27 rfl hq.1 hq.2 ?_
  refine g_ior dX5_goLeftOn_9 ?_
  refine g_puti dX5_goLeftOn_10 k_X5_45 rfl hp.1 hp.2 rfl rfl ?_
  refine g_aload_n dX5_goLeftOn_13 rfl ?_
  refine g_dup dX5_goLeftOn_14 rfl ?_
  refine g_geti dX5_goLeftOn_15 k_X5_48 rfl hp.1 hp.2 ?_
  refine g_iconst (v := 1) dX5_goLeftOn_18 (by decide) ?_
  refine g_iadd dX5_goLeftOn_19 ?_
  refine g_puti dX5_goLeftOn_20 k_X5_48 rfl hp.1 hp.2 rfl rfl ?_
  exact g_return dX5_goLeftOn_23 rfl ⟨rfl, by simp [upI_k]⟩

set_option maxRecDepth 100000 in
set_option maxHeartbeats 4000000 in
theorem ct_turnLeftOn {p q : Nat} (hp : XO 3 p) (hq : XO 3 q) : MC E l 1 mX5_turnLeftOn [.ref p, .ref q] 83 (hi, hl, RT) 0 0 (fun r h' => r = none ∧ h' = (upI (upI hi p 7 (hi p 7 &&& (hi q 1 ^^^ -1))) p 8 (hi p 8 ||| hi q 1), hl, RT)) := by
  refine MC.of [some (.ref p), some (.ref q)] (by decide) rfl (Nat.le_of_ble_eq_true rfl) ?_
  refine g_aload_n dX5_turnLeftOn_0 rfl ?_
  refine g_dup dX5_turnLeftOn_1 rfl ?_
  refine g_geti dX5_turnLeftOn_2 k_X5_42 rfl hp.1 hp.2 ?_
  refine g_aload_n dX5_turnLeftOn_5 rfl ?_
  refine g_geti dX5_turnLeftOn_6 k_X5_27 rfl hq.1 hq.2 ?_
  refine g_iconst (v := -1) dX5_turnLeftOn_9 (by decide) ?_
  refine g_ixor dX5_turnLeftOn_10 ?_
  refine g_iand dX5_turnLeftOn_11 ?_
  refine g_puti dX5_turnLeftOn_12 k_X5_42 rfl hp.1 hp.2 rfl rfl ?_
  refine g_aload_n dX5_turnLeftOn_15 rfl ?_
  refine g_dup dX5_turnLeftOn_16 rfl ?_
  refine g_geti dX5_turnLeftOn_17 k_X5_45 rfl hp.1 hp.2 ?_
  refine g_aload_n dX5_turnLeftOn_20 rfl ?_
  refine g_geti dX5_turnLeftOn_21 k_X5_27 rfl hq.1 hq.2 ?_
  refine g_ior dX5_turnLeftOn_24 ?_
  refine g_puti dX5_turnLeftOn_25 k_X5_45 rfl hp.1 hp.2 rfl rfl ?_
  exact g_return dX5_turnLeftOn_28 rfl ⟨rfl, by simp [upI_k]⟩

set_option maxRecDepth 100000 in
set_option maxHeartbeats 4000000 in
theorem ct_takeBack {p q : Nat} (hp : XO 3 p) (hq : XO 3 q) : MC E l 1 mX5_takeBack [.ref p, .ref q] 83 (hi, hl, RT) 0 0 (fun r h' => r = none ∧ h' = (upI (upI hi p 7 (hi p 7 &&& (hi q 1 ^^^ -1))) p 8 (hi p 8 &&& (hi q 1 ^^^ -1)), hl, RT)) := by
  refine MC.of [some (.ref p), some (.ref q)] (by decide) rfl (Nat.le_of_ble_eq_true rfl) ?_
  refine g_aload_n dX5_takeBack_0 rfl ?_
  refine g_dup dX5_takeBack_1 rfl ?_
  refine g_geti dX5_takeBack_2 k_X5_42 rfl hp.1 hp.2 ?_
  refine g_aload_n dX5_takeBack_5 rfl ?_
  refine g_geti dX5_takeBack_6 k_X5_27 rfl hq.1 hq.2 ?_
  refine g_iconst (v := -1) dX5_takeBack_9 (by decide) ?_
  refine g_ixor dX5_takeBack_10 ?_
  refine g_iand dX5_takeBack_11 ?_
  refine g_puti dX5_takeBack_12 k_X5_42 rfl hp.1 hp.2 rfl rfl ?_
  refine g_aload_n dX5_takeBack_15 rfl ?_
  refine g_dup dX5_takeBack_16 rfl ?_
  refine g_geti dX5_takeBack_17 k_X5_45 rfl hp.1 hp.2 ?_
  refine g_aload_n dX5_takeBack_20 rfl ?_
  refine g_geti dX5_takeBack_21 k_X5_27 rfl hq.1 hq.2 ?_
  refine g_iconst (v := -1) dX5_takeBack_24 (by decide) ?_
  refine g_ixor dX5_takeBack_25 ?_
  refine g_iand dX5_takeBack_26 ?_
  refine g_puti dX5_takeBack_27 k_X5_45 rfl hp.1 hp.2 rfl rfl ?_
  exact g_return dX5_takeBack_30 rfl ⟨rfl, by simp [upI_k]⟩

set_option maxRecDepth 100000 in
set_option maxHeartbeats 4000000 in
theorem ct_clearShown {p : Nat} (hp : XO 3 p) : MC E l 1 mX5_clearShown [.ref p] 83 (hi, hl, RT) 0 0 (fun r h' => r = none ∧ h' = (upI (upI (upI (upI hi p 7 0) p 8 0) p 9 0) p 10 0, hl, RT)) := by
  refine MC.of [some (.ref p)] (by decide) rfl (Nat.le_of_ble_eq_true rfl) ?_
  refine g_aload_n dX5_clearShown_0 rfl ?_
  refine g_iconst (v := 0) dX5_clearShown_1 (by decide) ?_
  refine g_puti dX5_clearShown_2 k_X5_42 rfl hp.1 hp.2 rfl rfl ?_
  refine g_aload_n dX5_clearShown_5 rfl ?_
  refine g_iconst (v := 0) dX5_clearShown_6 (by decide) ?_
  refine g_puti dX5_clearShown_7 k_X5_45 rfl hp.1 hp.2 rfl rfl ?_
  refine g_aload_n dX5_clearShown_10 rfl ?_
  refine g_iconst (v := 0) dX5_clearShown_11 (by decide) ?_
  refine g_puti dX5_clearShown_12 k_X5_48 rfl hp.1 hp.2 rfl rfl ?_
  refine g_aload_n dX5_clearShown_15 rfl ?_
  refine g_iconst (v := 0) dX5_clearShown_16 (by decide) ?_
  refine g_puti dX5_clearShown_17 k_X5_51 rfl hp.1 hp.2 rfl rfl ?_
  exact g_return dX5_clearShown_20 rfl ⟨rfl, rfl⟩

theorem copy_aux {f : Nat → Nat → Int32} {p q : Nat} (hne : p ≠ q) (v : Int32) (k j : Nat) : upI f p k v q j = f q j := upI_a (Ne.symm hne)
def cpP (hi : Nat → Nat → Int32) (p q : Nat) : Nat → Nat → Int32 := fun a k => if a = p ∧ 2 ≤ k ∧ k ≤ 11 then hi q k else hi a k
set_option maxRecDepth 100000 in
set_option maxHeartbeats 4000000 in
theorem ct_copyFrom (hkv : KV hi) {p q : Nat} (hp : XO 3 p) (hq : XO 3 q) (hne : p ≠ q) : MC E l 1 mX5_copyFrom [.ref p, .ref q] 83 (hi, hl, RT) 0 0 (fun r h' => r = none ∧ h' = (cpP hi p q, hl, RT)) := by
  refine MC.of [some (.ref p), some (.ref q)] (by decide) rfl (Nat.le_of_ble_eq_true rfl) ?_
  obtain ⟨jkq, h5q, hjq⟩ := hkv q hq
  refine g_aload_n dX5_copyFrom_0 rfl ?_
  refine g_aload_n dX5_copyFrom_1 rfl ?_
  refine g_getk dX5_copyFrom_2 k_X5_15 rfl hq.1 hq.2 hjq h5q ?_
  refine g_putk dX5_copyFrom_5 k_X5_15 rfl hp.1 hp.2 h5q ⟨_, rfl⟩ ?_
  refine g_aload_n dX5_copyFrom_8 rfl ?_
  refine g_aload_n dX5_copyFrom_9 rfl ?_
  refine g_geti dX5_copyFrom_10 k_X5_30 rfl hq.1 hq.2 ?_
  refine g_puti dX5_copyFrom_13 k_X5_30 rfl hp.1 hp.2 rfl rfl ?_
  refine g_aload_n dX5_copyFrom_16 rfl ?_
  refine g_aload_n dX5_copyFrom_17 rfl ?_
  refine g_geti dX5_copyFrom_18 k_X5_33 rfl hq.1 hq.2 ?_
  refine g_puti dX5_copyFrom_21 k_X5_33 rfl hp.1 hp.2 rfl rfl ?_
  refine g_aload_n dX5_copyFrom_24 rfl ?_
  refine g_aload_n dX5_copyFrom_25 rfl ?_
  refine g_geti dX5_copyFrom_26 k_X5_36 rfl hq.1 hq.2 ?_
  refine g_puti dX5_copyFrom_29 k_X5_36 rfl hp.1 hp.2 rfl rfl ?_
  refine g_aload_n dX5_copyFrom_32 rfl ?_
  refine g_aload_n dX5_copyFrom_33 rfl ?_
  refine g_geti dX5_copyFrom_34 k_X5_39 rfl hq.1 hq.2 ?_
  refine g_puti dX5_copyFrom_37 k_X5_39 rfl hp.1 hp.2 rfl rfl ?_
  refine g_aload_n dX5_copyFrom_40 rfl ?_
  refine g_aload_n dX5_copyFrom_41 rfl ?_
  refine g_geti dX5_copyFrom_42 k_X5_42 rfl hq.1 hq.2 ?_
  refine g_puti dX5_copyFrom_45 k_X5_42 rfl hp.1 hp.2 rfl rfl ?_
  refine g_aload_n dX5_copyFrom_48 rfl ?_
  refine g_aload_n dX5_copyFrom_49 rfl ?_
  refine g_geti dX5_copyFrom_50 k_X5_45 rfl hq.1 hq.2 ?_
  refine g_puti dX5_copyFrom_53 k_X5_45 rfl hp.1 hp.2 rfl rfl ?_
  refine g_aload_n dX5_copyFrom_56 rfl ?_
  refine g_aload_n dX5_copyFrom_57 rfl ?_
  refine g_geti dX5_copyFrom_58 k_X5_48 rfl hq.1 hq.2 ?_
  refine g_puti dX5_copyFrom_61 k_X5_48 rfl hp.1 hp.2 rfl rfl ?_
  refine g_aload_n dX5_copyFrom_64 rfl ?_
  refine g_aload_n dX5_copyFrom_65 rfl ?_
  refine g_geti dX5_copyFrom_66 k_X5_51 rfl hq.1 hq.2 ?_
  refine g_puti dX5_copyFrom_69 k_X5_51 rfl hp.1 hp.2 rfl rfl ?_
  refine g_aload_n dX5_copyFrom_72 rfl ?_
  refine g_aload_n dX5_copyFrom_73 rfl ?_
  refine g_geti dX5_copyFrom_74 k_X5_20 rfl hq.1 hq.2 ?_
  refine g_puti dX5_copyFrom_77 k_X5_20 rfl hp.1 hp.2 rfl rfl ?_
  exact g_return dX5_copyFrom_80 rfl ⟨rfl, by
      refine congrArg (fun f => ((f, hl, RT) : XH)) ?_
      funext a k
      simp only [copy_aux hne, upI, cpP, ← hjq]
      by_cases ha : a = p
      · subst ha
        by_cases h2 : k < 2
        · simp only [true_and]
          rw [if_neg (by omega), if_neg (by omega), if_neg (by omega), if_neg (by omega), if_neg (by omega), if_neg (by omega), if_neg (by omega), if_neg (by omega), if_neg (by omega), if_neg (by omega), if_neg (by omega)]
        · by_cases h11 : 11 < k
          · simp only [true_and]
            rw [if_neg (by omega), if_neg (by omega), if_neg (by omega), if_neg (by omega), if_neg (by omega), if_neg (by omega), if_neg (by omega), if_neg (by omega), if_neg (by omega), if_neg (by omega), if_neg (by omega)]
          · have hk : k = 2 ∨ k = 3 ∨ k = 4 ∨ k = 5 ∨ k = 6 ∨ k = 7 ∨ k = 8 ∨ k = 9 ∨ k = 10 ∨ k = 11 := by omega
            rcases hk with rfl | rfl | rfl | rfl | rfl | rfl | rfl | rfl | rfl | rfl <;> simp
      · simp [ha]⟩

end
