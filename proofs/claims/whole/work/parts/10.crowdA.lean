section
variable {E : XE} {l : Launch} {hi : Nat → Nat → Int32} {hl : Nat → Nat → Int64}

set_option maxRecDepth 100000 in
set_option maxHeartbeats 4000000 in
theorem ct_has {c : Nat} (hc : isC c) (x : Int32) : MC E l 1 mX0_has [.ref c, .int x] 83 (hi, hl, RT) 0 0 (fun r h' => r = some (.int (bI (!decide (x < 0) && !decide (hi c 3 ≤ x)))) ∧ h' = (hi, hl, RT)) := by
  refine MC.of [some (.ref c), some (.int x)] (by decide) rfl (Nat.le_of_ble_eq_true rfl) ?_
  refine g_iload_n dX0_has_0 rfl ?_
  refine g_iflt 16 dX0_has_1 (by decide) (fun c1 => ?_) (fun c1 => ?_)
  · skip
    refine g_iconst (v := 0) dX0_has_16 (by decide) ?_
    exact g_ireturn dX0_has_17 rfl rfl ⟨by simp_all [bI], rfl⟩
  · skip
    refine g_iload_n dX0_has_4 rfl ?_
    refine g_aload_n dX0_has_5 rfl ?_
    refine g_geti dX0_has_6 k_X0_27 rfl hc.o.1 hc.o.2 ?_
    refine g_icmpge 16 dX0_has_9 (by decide) (fun c9 => ?_) (fun c9 => ?_)
    · skip
      refine g_iconst (v := 0) dX0_has_16 (by decide) ?_
      exact g_ireturn dX0_has_17 rfl rfl ⟨by simp_all [bI], rfl⟩
    · skip
      refine g_iconst (v := 1) dX0_has_12 (by decide) ?_
      refine g_goto 17 dX0_has_13 (by decide) ?_
      exact g_ireturn dX0_has_17 rfl rfl ⟨by simp_all [bI], rfl⟩

set_option maxRecDepth 100000 in
set_option maxHeartbeats 4000000 in
theorem ct_isEmpty {c : Nat} (hc : isC c) : MC E l 1 mX0_isEmpty [.ref c] 83 (hi, hl, RT) 0 0 (fun r h' => r = some (.int (bI (decide (hi c 3 = 0)))) ∧ h' = (hi, hl, RT)) := by
  refine MC.of [some (.ref c)] (by decide) rfl (Nat.le_of_ble_eq_true rfl) ?_
  refine g_aload_n dX0_isEmpty_0 rfl ?_
  refine g_geti dX0_isEmpty_1 k_X0_27 rfl hc.o.1 hc.o.2 ?_
  refine g_ifne 11 dX0_isEmpty_4 (by decide) (fun c4 => ?_) (fun c4 => ?_)
  · skip
    refine g_iconst (v := 0) dX0_isEmpty_11 (by decide) ?_
    exact g_ireturn dX0_isEmpty_12 rfl rfl ⟨by simp_all [bI], rfl⟩
  · skip
    refine g_iconst (v := 1) dX0_isEmpty_7 (by decide) ?_
    refine g_goto 12 dX0_isEmpty_8 (by decide) ?_
    exact g_ireturn dX0_isEmpty_12 rfl rfl ⟨by simp_all [bI], rfl⟩

set_option maxRecDepth 100000 in
set_option maxHeartbeats 4000000 in
theorem lp_likedBy (hkv : KV hi) {c : Nat} (hc : isC c) {N : Nat} (hN8 : N ≤ 8) (hN : hi c 3 = nI N) {p : Nat} (hp : XO 3 p) : ∀ (n i : Nat), i ≤ N → N + 1 ≤ i + n → ∀ (b : Int32), b = orB (fun j => pLikes hi p (c + 6 + j)) (fun j => hi (c + 6 + j) 1) i → G E l 4 mX0_likedBy 4 [some (.ref c), some (.ref p), some (.int b), some (.int (nI i))] [] 83 (hi, hl, RT) 0 0 (fun r h' => r = some (.int (orB (fun j => pLikes hi p (c + 6 + j)) (fun j => hi (c + 6 + j) 1) N)) ∧ h' = (hi, hl, RT)) := by
  intro n
  induction n with
  | zero =>
    intro i h1 h2
    exact absurd h2 (by omega)
  | succ n ih =>
    intro i hi1 hi2 b hb
    refine g_iload_n dX0_likedBy_4 rfl ?_
    refine g_aload_n dX0_likedBy_5 rfl ?_
    refine g_geti dX0_likedBy_6 k_X0_27 rfl hc.o.1 hc.o.2 ?_
    refine g_icmpge 43 dX0_likedBy_9 (by decide) (fun c9 => ?_) (fun c9 => ?_)
    · skip
      have hiN : i = N := Nat.le_antisymm hi1 (ge_out hN c9 (by omega) (by omega))
      subst hiN
      refine g_iload_n dX0_likedBy_43 rfl ?_
      exact g_ireturn dX0_likedBy_44 rfl rfl ⟨by rw [hb], rfl⟩
    · skip
      have hlt : i < N := lt_in hN c9 (by omega) (by omega)
      have hi8 : i < 8 := by omega
      refine g_aload_n dX0_likedBy_12 rfl ?_
      refine g_aload_n dX0_likedBy_13 rfl ?_
      refine g_getr dX0_likedBy_14 k_X0_11 rfl hc.o.1 hc.o.2 hc.people ?_
      refine g_iload_n dX0_likedBy_17 rfl ?_
      refine g_aald dX0_likedBy_18 hc.a1.1 hc.a1.2 rfl (by omega) (by decide) (hc.rp (by omega)) ?_
      refine g_callV1 (M' := mX5_likes) (mc' := 0) (ms' := 0) dX0_likedBy_19 l_X0_172 s_mX5_likes hp.1 hp.2 rfl f_mX5_likes (Nat.le_of_ble_eq_true rfl) (by decide) (ct_likes hkv hp (hc.p hi8)) ?_
      rintro _ _ ⟨rfl, rfl⟩
      refine g_ifeq 37 dX0_likedBy_22 (by decide) (fun c22 => ?_) (fun c22 => ?_)
      · skip
        refine g_iinc dX0_likedBy_37 rfl (nI_inc i) (by decide) rfl rfl ?_
        refine g_goto 4 dX0_likedBy_40 (by decide) ?_
        exact ih (i + 1) (by omega) (by omega) _ (by rw [hb]; exact (orB_n (P := fun j => pLikes hi p (c + 6 + j)) (w := fun j => hi (c + 6 + j) 1) (bI_0.mp c22)).symm)
      · skip
        refine g_iload_n dX0_likedBy_25 rfl ?_
        refine g_aload_n dX0_likedBy_26 rfl ?_
        refine g_getr dX0_likedBy_27 k_X0_11 rfl hc.o.1 hc.o.2 hc.people ?_
        refine g_iload_n dX0_likedBy_30 rfl ?_
        refine g_aald dX0_likedBy_31 hc.a1.1 hc.a1.2 rfl (by omega) (by decide) (hc.rp (by omega)) ?_
        refine g_geti dX0_likedBy_32 k_X0_176 rfl (hc.p hi8).1 (hc.p hi8).2 ?_
        refine g_ior dX0_likedBy_35 ?_
        refine g_istore_n dX0_likedBy_36 (by decide) rfl rfl ?_
        refine g_iinc dX0_likedBy_37 rfl (nI_inc i) (by decide) rfl rfl ?_
        refine g_goto 4 dX0_likedBy_40 (by decide) ?_
        exact ih (i + 1) (by omega) (by omega) _ (by rw [hb]; exact (orB_y (P := fun j => pLikes hi p (c + 6 + j)) (w := fun j => hi (c + 6 + j) 1) (bI_n.mp c22)).symm)

set_option maxRecDepth 100000 in
set_option maxHeartbeats 4000000 in
theorem ct_likedBy (hkv : KV hi) {c : Nat} (hc : isC c) {N : Nat} (hN8 : N ≤ 8) (hN : hi c 3 = nI N) {p : Nat} (hp : XO 3 p) : MC E l 4 mX0_likedBy [.ref c, .ref p] 83 (hi, hl, RT) 0 0 (fun r h' => r = some (.int (orB (fun j => pLikes hi p (c + 6 + j)) (fun j => hi (c + 6 + j) 1) N)) ∧ h' = (hi, hl, RT)) := by
  refine MC.of [some (.ref c), some (.ref p), none, none] (by decide) rfl (Nat.le_of_ble_eq_true rfl) ?_
  refine g_iconst (v := 0) dX0_likedBy_0 (by decide) ?_
  refine g_istore_n dX0_likedBy_1 (by decide) rfl rfl ?_
  refine g_iconst (v := 0) dX0_likedBy_2 (by decide) ?_
  refine g_istore_n dX0_likedBy_3 (by decide) rfl rfl ?_
  exact lp_likedBy hkv hc hN8 hN hp (N + 1) 0 (by omega) (by omega) 0 rfl

set_option maxRecDepth 100000 in
set_option maxHeartbeats 4000000 in
theorem lp_matchesOf {c : Nat} (hc : isC c) {N : Nat} (hN8 : N ≤ 8) (hN : hi c 3 = nI N) {p : Nat} (hp : XO 3 p) : ∀ (n i : Nat), i ≤ N → N + 1 ≤ i + n → ∀ (b : Int32), b = orB (fun j => pMatch hi p (c + 6 + j)) (fun j => hi (c + 6 + j) 1) i → G E l 4 mX0_matchesOf 4 [some (.ref c), some (.ref p), some (.int b), some (.int (nI i))] [] 83 (hi, hl, RT) 0 0 (fun r h' => r = some (.int (orB (fun j => pMatch hi p (c + 6 + j)) (fun j => hi (c + 6 + j) 1) N)) ∧ h' = (hi, hl, RT)) := by
  intro n
  induction n with
  | zero =>
    intro i h1 h2
    exact absurd h2 (by omega)
  | succ n ih =>
    intro i hi1 hi2 b hb
    refine g_iload_n dX0_matchesOf_4 rfl ?_
    refine g_aload_n dX0_matchesOf_5 rfl ?_
    refine g_geti dX0_matchesOf_6 k_X0_27 rfl hc.o.1 hc.o.2 ?_
    refine g_icmpge 43 dX0_matchesOf_9 (by decide) (fun c9 => ?_) (fun c9 => ?_)
    · skip
      have hiN : i = N := Nat.le_antisymm hi1 (ge_out hN c9 (by omega) (by omega))
      subst hiN
      refine g_iload_n dX0_matchesOf_43 rfl ?_
      exact g_ireturn dX0_matchesOf_44 rfl rfl ⟨by rw [hb], rfl⟩
    · skip
      have hlt : i < N := lt_in hN c9 (by omega) (by omega)
      have hi8 : i < 8 := by omega
      refine g_aload_n dX0_matchesOf_12 rfl ?_
      refine g_aload_n dX0_matchesOf_13 rfl ?_
      refine g_getr dX0_matchesOf_14 k_X0_11 rfl hc.o.1 hc.o.2 hc.people ?_
      refine g_iload_n dX0_matchesOf_17 rfl ?_
      refine g_aald dX0_matchesOf_18 hc.a1.1 hc.a1.2 rfl (by omega) (by decide) (hc.rp (by omega)) ?_
      refine g_callV1 (M' := mX5_isMatchOf) (mc' := 0) (ms' := 0) dX0_matchesOf_19 l_X0_179 s_mX5_isMatchOf hp.1 hp.2 rfl f_mX5_isMatchOf (Nat.le_of_ble_eq_true rfl) (by decide) (ct_isMatchOf hp (hc.p hi8)) ?_
      rintro _ _ ⟨rfl, rfl⟩
      refine g_ifeq 37 dX0_matchesOf_22 (by decide) (fun c22 => ?_) (fun c22 => ?_)
      · skip
        refine g_iinc dX0_matchesOf_37 rfl (nI_inc i) (by decide) rfl rfl ?_
        refine g_goto 4 dX0_matchesOf_40 (by decide) ?_
        exact ih (i + 1) (by omega) (by omega) _ (by rw [hb]; exact (orB_n (P := fun j => pMatch hi p (c + 6 + j)) (w := fun j => hi (c + 6 + j) 1) (bI_0.mp c22)).symm)
      · skip
        refine g_iload_n dX0_matchesOf_25 rfl ?_
        refine g_aload_n dX0_matchesOf_26 rfl ?_
        refine g_getr dX0_matchesOf_27 k_X0_11 rfl hc.o.1 hc.o.2 hc.people ?_
        refine g_iload_n dX0_matchesOf_30 rfl ?_
        refine g_aald dX0_matchesOf_31 hc.a1.1 hc.a1.2 rfl (by omega) (by decide) (hc.rp (by omega)) ?_
        refine g_geti dX0_matchesOf_32 k_X0_176 rfl (hc.p hi8).1 (hc.p hi8).2 ?_
        refine g_ior dX0_matchesOf_35 ?_
        refine g_istore_n dX0_matchesOf_36 (by decide) rfl rfl ?_
        refine g_iinc dX0_matchesOf_37 rfl (nI_inc i) (by decide) rfl rfl ?_
        refine g_goto 4 dX0_matchesOf_40 (by decide) ?_
        exact ih (i + 1) (by omega) (by omega) _ (by rw [hb]; exact (orB_y (P := fun j => pMatch hi p (c + 6 + j)) (w := fun j => hi (c + 6 + j) 1) (bI_n.mp c22)).symm)

set_option maxRecDepth 100000 in
set_option maxHeartbeats 4000000 in
theorem ct_matchesOf {c : Nat} (hc : isC c) {N : Nat} (hN8 : N ≤ 8) (hN : hi c 3 = nI N) {p : Nat} (hp : XO 3 p) : MC E l 4 mX0_matchesOf [.ref c, .ref p] 83 (hi, hl, RT) 0 0 (fun r h' => r = some (.int (orB (fun j => pMatch hi p (c + 6 + j)) (fun j => hi (c + 6 + j) 1) N)) ∧ h' = (hi, hl, RT)) := by
  refine MC.of [some (.ref c), some (.ref p), none, none] (by decide) rfl (Nat.le_of_ble_eq_true rfl) ?_
  refine g_iconst (v := 0) dX0_matchesOf_0 (by decide) ?_
  refine g_istore_n dX0_matchesOf_1 (by decide) rfl rfl ?_
  refine g_iconst (v := 0) dX0_matchesOf_2 (by decide) ?_
  refine g_istore_n dX0_matchesOf_3 (by decide) rfl rfl ?_
  exact lp_matchesOf hc hN8 hN hp (N + 1) 0 (by omega) (by omega) 0 rfl

set_option maxRecDepth 100000 in
set_option maxHeartbeats 4000000 in
theorem lp_freeOnes (hkv : KV hi) {c : Nat} (hc : isC c) {N : Nat} (hN8 : N ≤ 8) (hN : hi c 3 = nI N) : ∀ (n i : Nat), i ≤ N → N + 1 ≤ i + n → ∀ (b : Int32), b = cntB (fun j => pFree hi (c + 6 + j)) i → G E l 4 mX0_freeOnes 4 [some (.ref c), some (.int b), some (.int (nI i))] [] 83 (hi, hl, RT) 0 0 (fun r h' => r = some (.int (cntB (fun j => pFree hi (c + 6 + j)) N)) ∧ h' = (hi, hl, RT)) := by
  intro n
  induction n with
  | zero =>
    intro i h1 h2
    exact absurd h2 (by omega)
  | succ n ih =>
    intro i hi1 hi2 b hb
    refine g_iload_n dX0_freeOnes_4 rfl ?_
    refine g_aload_n dX0_freeOnes_5 rfl ?_
    refine g_geti dX0_freeOnes_6 k_X0_27 rfl hc.o.1 hc.o.2 ?_
    refine g_icmpge 38 dX0_freeOnes_9 (by decide) (fun c9 => ?_) (fun c9 => ?_)
    · skip
      have hiN : i = N := Nat.le_antisymm hi1 (ge_out hN c9 (by omega) (by omega))
      subst hiN
      refine g_iload_n dX0_freeOnes_38 rfl ?_
      exact g_ireturn dX0_freeOnes_39 rfl rfl ⟨by rw [hb], rfl⟩
    · skip
      have hlt : i < N := lt_in hN c9 (by omega) (by omega)
      have hi8 : i < 8 := by omega
      refine g_iload_n dX0_freeOnes_12 rfl ?_
      refine g_aload_n dX0_freeOnes_13 rfl ?_
      refine g_getr dX0_freeOnes_14 k_X0_11 rfl hc.o.1 hc.o.2 hc.people ?_
      refine g_iload_n dX0_freeOnes_17 rfl ?_
      refine g_aald dX0_freeOnes_18 hc.a1.1 hc.a1.2 rfl (by omega) (by decide) (hc.rp (by omega)) ?_
      refine g_callV0 (M' := mX5_isFree) (mc' := 0) (ms' := 0) dX0_freeOnes_19 l_X0_182 s_mX5_isFree (hc.p hi8).1 (hc.p hi8).2 rfl f_mX5_isFree (Nat.le_of_ble_eq_true rfl) (by decide) (ct_isFree hkv (hc.p hi8)) ?_
      rintro _ _ ⟨rfl, rfl⟩
      refine g_ifeq 29 dX0_freeOnes_22 (by decide) (fun c22 => ?_) (fun c22 => ?_)
      · skip
        refine g_iconst (v := 0) dX0_freeOnes_29 (by decide) ?_
        refine g_iadd dX0_freeOnes_30 ?_
        refine g_istore_n dX0_freeOnes_31 (by decide) rfl rfl ?_
        refine g_iinc dX0_freeOnes_32 rfl (nI_inc i) (by decide) rfl rfl ?_
        refine g_goto 4 dX0_freeOnes_35 (by decide) ?_
        exact ih (i + 1) (by omega) (by omega) _ (by rw [hb, cntB, bI_0.mp c22]; rfl)
      · skip
        refine g_iconst (v := 1) dX0_freeOnes_25 (by decide) ?_
        refine g_goto 30 dX0_freeOnes_26 (by decide) ?_
        refine g_iadd dX0_freeOnes_30 ?_
        refine g_istore_n dX0_freeOnes_31 (by decide) rfl rfl ?_
        refine g_iinc dX0_freeOnes_32 rfl (nI_inc i) (by decide) rfl rfl ?_
        refine g_goto 4 dX0_freeOnes_35 (by decide) ?_
        exact ih (i + 1) (by omega) (by omega) _ (by rw [hb, cntB, bI_n.mp c22]; rfl)

set_option maxRecDepth 100000 in
set_option maxHeartbeats 4000000 in
theorem ct_freeOnes (hkv : KV hi) {c : Nat} (hc : isC c) {N : Nat} (hN8 : N ≤ 8) (hN : hi c 3 = nI N) : MC E l 4 mX0_freeOnes [.ref c] 83 (hi, hl, RT) 0 0 (fun r h' => r = some (.int (cntB (fun j => pFree hi (c + 6 + j)) N)) ∧ h' = (hi, hl, RT)) := by
  refine MC.of [some (.ref c), none, none] (by decide) rfl (Nat.le_of_ble_eq_true rfl) ?_
  refine g_iconst (v := 0) dX0_freeOnes_0 (by decide) ?_
  refine g_istore_n dX0_freeOnes_1 (by decide) rfl rfl ?_
  refine g_iconst (v := 0) dX0_freeOnes_2 (by decide) ?_
  refine g_istore_n dX0_freeOnes_3 (by decide) rfl rfl ?_
  exact lp_freeOnes hkv hc hN8 hN (N + 1) 0 (by omega) (by omega) 0 rfl

set_option maxRecDepth 100000 in
set_option maxHeartbeats 4000000 in
theorem lp_goneOnes (hkv : KV hi) {c : Nat} (hc : isC c) {N : Nat} (hN8 : N ≤ 8) (hN : hi c 3 = nI N) : ∀ (n i : Nat), i ≤ N → N + 1 ≤ i + n → ∀ (b : Int32), b = cntB (fun j => pGone hi (c + 6 + j)) i → G E l 4 mX0_goneOnes 4 [some (.ref c), some (.int b), some (.int (nI i))] [] 83 (hi, hl, RT) 0 0 (fun r h' => r = some (.int (cntB (fun j => pGone hi (c + 6 + j)) N)) ∧ h' = (hi, hl, RT)) := by
  intro n
  induction n with
  | zero =>
    intro i h1 h2
    exact absurd h2 (by omega)
  | succ n ih =>
    intro i hi1 hi2 b hb
    refine g_iload_n dX0_goneOnes_4 rfl ?_
    refine g_aload_n dX0_goneOnes_5 rfl ?_
    refine g_geti dX0_goneOnes_6 k_X0_27 rfl hc.o.1 hc.o.2 ?_
    refine g_icmpge 38 dX0_goneOnes_9 (by decide) (fun c9 => ?_) (fun c9 => ?_)
    · skip
      have hiN : i = N := Nat.le_antisymm hi1 (ge_out hN c9 (by omega) (by omega))
      subst hiN
      refine g_iload_n dX0_goneOnes_38 rfl ?_
      exact g_ireturn dX0_goneOnes_39 rfl rfl ⟨by rw [hb], rfl⟩
    · skip
      have hlt : i < N := lt_in hN c9 (by omega) (by omega)
      have hi8 : i < 8 := by omega
      refine g_iload_n dX0_goneOnes_12 rfl ?_
      refine g_aload_n dX0_goneOnes_13 rfl ?_
      refine g_getr dX0_goneOnes_14 k_X0_11 rfl hc.o.1 hc.o.2 hc.people ?_
      refine g_iload_n dX0_goneOnes_17 rfl ?_
      refine g_aald dX0_goneOnes_18 hc.a1.1 hc.a1.2 rfl (by omega) (by decide) (hc.rp (by omega)) ?_
      refine g_callV0 (M' := mX5_isGone) (mc' := 0) (ms' := 0) dX0_goneOnes_19 l_X0_133 s_mX5_isGone (hc.p hi8).1 (hc.p hi8).2 rfl f_mX5_isGone (Nat.le_of_ble_eq_true rfl) (by decide) (ct_isGone hkv (hc.p hi8)) ?_
      rintro _ _ ⟨rfl, rfl⟩
      refine g_ifeq 29 dX0_goneOnes_22 (by decide) (fun c22 => ?_) (fun c22 => ?_)
      · skip
        refine g_iconst (v := 0) dX0_goneOnes_29 (by decide) ?_
        refine g_iadd dX0_goneOnes_30 ?_
        refine g_istore_n dX0_goneOnes_31 (by decide) rfl rfl ?_
        refine g_iinc dX0_goneOnes_32 rfl (nI_inc i) (by decide) rfl rfl ?_
        refine g_goto 4 dX0_goneOnes_35 (by decide) ?_
        exact ih (i + 1) (by omega) (by omega) _ (by rw [hb, cntB, bI_0.mp c22]; rfl)
      · skip
        refine g_iconst (v := 1) dX0_goneOnes_25 (by decide) ?_
        refine g_goto 30 dX0_goneOnes_26 (by decide) ?_
        refine g_iadd dX0_goneOnes_30 ?_
        refine g_istore_n dX0_goneOnes_31 (by decide) rfl rfl ?_
        refine g_iinc dX0_goneOnes_32 rfl (nI_inc i) (by decide) rfl rfl ?_
        refine g_goto 4 dX0_goneOnes_35 (by decide) ?_
        exact ih (i + 1) (by omega) (by omega) _ (by rw [hb, cntB, bI_n.mp c22]; rfl)

set_option maxRecDepth 100000 in
set_option maxHeartbeats 4000000 in
theorem ct_goneOnes (hkv : KV hi) {c : Nat} (hc : isC c) {N : Nat} (hN8 : N ≤ 8) (hN : hi c 3 = nI N) : MC E l 4 mX0_goneOnes [.ref c] 83 (hi, hl, RT) 0 0 (fun r h' => r = some (.int (cntB (fun j => pGone hi (c + 6 + j)) N)) ∧ h' = (hi, hl, RT)) := by
  refine MC.of [some (.ref c), none, none] (by decide) rfl (Nat.le_of_ble_eq_true rfl) ?_
  refine g_iconst (v := 0) dX0_goneOnes_0 (by decide) ?_
  refine g_istore_n dX0_goneOnes_1 (by decide) rfl rfl ?_
  refine g_iconst (v := 0) dX0_goneOnes_2 (by decide) ?_
  refine g_istore_n dX0_goneOnes_3 (by decide) rfl rfl ?_
  exact lp_goneOnes hkv hc hN8 hN (N + 1) 0 (by omega) (by omega) 0 rfl

set_option maxRecDepth 100000 in
set_option maxHeartbeats 4000000 in
theorem lp_couples {c : Nat} (hc : isC c) {F : Nat} (hF8 : F ≤ 8) (hF : hi c 2 = nI F) : ∀ (n i : Nat), i ≤ F → F + 1 ≤ i + n → ∀ (b : Int32), b = cntB (fun j => pTaken hi (c + 6 + j)) i → G E l 4 mX0_couples 4 [some (.ref c), some (.int b), some (.int (nI i))] [] 83 (hi, hl, RT) 0 0 (fun r h' => r = some (.int (cntB (fun j => pTaken hi (c + 6 + j)) F)) ∧ h' = (hi, hl, RT)) := by
  intro n
  induction n with
  | zero =>
    intro i h1 h2
    exact absurd h2 (by omega)
  | succ n ih =>
    intro i hi1 hi2 b hb
    refine g_iload_n dX0_couples_4 rfl ?_
    refine g_aload_n dX0_couples_5 rfl ?_
    refine g_geti dX0_couples_6 k_X0_71 rfl hc.o.1 hc.o.2 ?_
    refine g_icmpge 38 dX0_couples_9 (by decide) (fun c9 => ?_) (fun c9 => ?_)
    · skip
      have hiN : i = F := Nat.le_antisymm hi1 (ge_out hF c9 (by omega) (by omega))
      subst hiN
      refine g_iload_n dX0_couples_38 rfl ?_
      exact g_ireturn dX0_couples_39 rfl rfl ⟨by rw [hb], rfl⟩
    · skip
      have hlt : i < F := lt_in hF c9 (by omega) (by omega)
      have hi8 : i < 8 := by omega
      refine g_iload_n dX0_couples_12 rfl ?_
      refine g_aload_n dX0_couples_13 rfl ?_
      refine g_getr dX0_couples_14 k_X0_11 rfl hc.o.1 hc.o.2 hc.people ?_
      refine g_iload_n dX0_couples_17 rfl ?_
      refine g_aald dX0_couples_18 hc.a1.1 hc.a1.2 rfl (by omega) (by decide) (hc.rp (by omega)) ?_
      refine g_callV0 (M' := mX5_isTaken) (mc' := 0) (ms' := 0) dX0_couples_19 l_X0_129 s_mX5_isTaken (hc.p hi8).1 (hc.p hi8).2 rfl f_mX5_isTaken (Nat.le_of_ble_eq_true rfl) (by decide) (ct_isTaken (hc.p hi8)) ?_
      rintro _ _ ⟨rfl, rfl⟩
      refine g_ifeq 29 dX0_couples_22 (by decide) (fun c22 => ?_) (fun c22 => ?_)
      · skip
        refine g_iconst (v := 0) dX0_couples_29 (by decide) ?_
        refine g_iadd dX0_couples_30 ?_
        refine g_istore_n dX0_couples_31 (by decide) rfl rfl ?_
        refine g_iinc dX0_couples_32 rfl (nI_inc i) (by decide) rfl rfl ?_
        refine g_goto 4 dX0_couples_35 (by decide) ?_
        exact ih (i + 1) (by omega) (by omega) _ (by rw [hb, cntB, bI_0.mp c22]; rfl)
      · skip
        refine g_iconst (v := 1) dX0_couples_25 (by decide) ?_
        refine g_goto 30 dX0_couples_26 (by decide) ?_
        refine g_iadd dX0_couples_30 ?_
        refine g_istore_n dX0_couples_31 (by decide) rfl rfl ?_
        refine g_iinc dX0_couples_32 rfl (nI_inc i) (by decide) rfl rfl ?_
        refine g_goto 4 dX0_couples_35 (by decide) ?_
        exact ih (i + 1) (by omega) (by omega) _ (by rw [hb, cntB, bI_n.mp c22]; rfl)

set_option maxRecDepth 100000 in
set_option maxHeartbeats 4000000 in
theorem ct_couples {c : Nat} (hc : isC c) {F : Nat} (hF8 : F ≤ 8) (hF : hi c 2 = nI F) : MC E l 4 mX0_couples [.ref c] 83 (hi, hl, RT) 0 0 (fun r h' => r = some (.int (cntB (fun j => pTaken hi (c + 6 + j)) F)) ∧ h' = (hi, hl, RT)) := by
  refine MC.of [some (.ref c), none, none] (by decide) rfl (Nat.le_of_ble_eq_true rfl) ?_
  refine g_iconst (v := 0) dX0_couples_0 (by decide) ?_
  refine g_istore_n dX0_couples_1 (by decide) rfl rfl ?_
  refine g_iconst (v := 0) dX0_couples_2 (by decide) ?_
  refine g_istore_n dX0_couples_3 (by decide) rfl rfl ?_
  exact lp_couples hc hF8 hF (F + 1) 0 (by omega) (by omega) 0 rfl

/-- what bitCount reckons -/
def bcF (x : Int32) : Int32 :=
  let a := x - ((x.toUInt32 >>> (Int32.toUInt32 1 &&& Int32.toUInt32 31)).toInt32 &&& 1431655765)
  let b := (a &&& 858993459) + ((a.toUInt32 >>> (Int32.toUInt32 2 &&& Int32.toUInt32 31)).toInt32 &&& 858993459)
  let d := (b + (b.toUInt32 >>> (Int32.toUInt32 4 &&& Int32.toUInt32 31)).toInt32) &&& 252645135
  let e := d + (d.toUInt32 >>> (Int32.toUInt32 8 &&& Int32.toUInt32 31)).toInt32
  let f := e + (e.toUInt32 >>> (Int32.toUInt32 16 &&& Int32.toUInt32 31)).toInt32
  f &&& 63

set_option maxRecDepth 100000 in
set_option maxHeartbeats 4000000 in
theorem ct_bitCount (x : Int32) : MC E l 1 mJ6_bitCount_0f7a4 [.int x] 83 (hi, hl, RT) 0 0 (fun r h' => r = some (.int (bcF x)) ∧ h' = (hi, hl, RT)) := by
  refine MC.of [some (.int x)] (by decide) rfl (Nat.le_of_ble_eq_true rfl) ?_
  refine g_iload_n dJ6_bitCount_0f7a4_0 rfl ?_
  refine g_iload_n dJ6_bitCount_0f7a4_1 rfl ?_
  refine g_iconst (v := 1) dJ6_bitCount_0f7a4_2 (by decide) ?_
  refine g_iushr dJ6_bitCount_0f7a4_3 ?_
  refine g_ldcw dJ6_bitCount_0f7a4_4 c_J6_265 ?_
  refine g_iand dJ6_bitCount_0f7a4_7 ?_
  refine g_isub dJ6_bitCount_0f7a4_8 ?_
  refine g_istore_n dJ6_bitCount_0f7a4_9 (by decide) rfl rfl ?_
  refine g_iload_n dJ6_bitCount_0f7a4_10 rfl ?_
  refine g_ldcw dJ6_bitCount_0f7a4_11 c_J6_266 ?_
  refine g_iand dJ6_bitCount_0f7a4_14 ?_
  refine g_iload_n dJ6_bitCount_0f7a4_15 rfl ?_
  refine g_iconst (v := 2) dJ6_bitCount_0f7a4_16 (by decide) ?_
  refine g_iushr dJ6_bitCount_0f7a4_17 ?_
  refine g_ldcw dJ6_bitCount_0f7a4_18 c_J6_266 ?_
  refine g_iand dJ6_bitCount_0f7a4_21 ?_
  refine g_iadd dJ6_bitCount_0f7a4_22 ?_
  refine g_istore_n dJ6_bitCount_0f7a4_23 (by decide) rfl rfl ?_
  refine g_iload_n dJ6_bitCount_0f7a4_24 rfl ?_
  refine g_iload_n dJ6_bitCount_0f7a4_25 rfl ?_
  refine g_iconst (v := 4) dJ6_bitCount_0f7a4_26 (by decide) ?_
  refine g_iushr dJ6_bitCount_0f7a4_27 ?_
  refine g_iadd dJ6_bitCount_0f7a4_28 ?_
  refine g_ldcw dJ6_bitCount_0f7a4_29 c_J6_267 ?_
  refine g_iand dJ6_bitCount_0f7a4_32 ?_
  refine g_istore_n dJ6_bitCount_0f7a4_33 (by decide) rfl rfl ?_
  refine g_iload_n dJ6_bitCount_0f7a4_34 rfl ?_
  refine g_iload_n dJ6_bitCount_0f7a4_35 rfl ?_
  refine g_bipush (v := 8) dJ6_bitCount_0f7a4_36 (by decide) ?_
  refine g_iushr dJ6_bitCount_0f7a4_38 ?_
  refine g_iadd dJ6_bitCount_0f7a4_39 ?_
  refine g_istore_n dJ6_bitCount_0f7a4_40 (by decide) rfl rfl ?_
  refine g_iload_n dJ6_bitCount_0f7a4_41 rfl ?_
  refine g_iload_n dJ6_bitCount_0f7a4_42 rfl ?_
  refine g_bipush (v := 16) dJ6_bitCount_0f7a4_43 (by decide) ?_
  refine g_iushr dJ6_bitCount_0f7a4_45 ?_
  refine g_iadd dJ6_bitCount_0f7a4_46 ?_
  refine g_istore_n dJ6_bitCount_0f7a4_47 (by decide) rfl rfl ?_
  refine g_iload_n dJ6_bitCount_0f7a4_48 rfl ?_
  refine g_bipush (v := 63) dJ6_bitCount_0f7a4_49 (by decide) ?_
  refine g_iand dJ6_bitCount_0f7a4_51 ?_
  exact g_ireturn dJ6_bitCount_0f7a4_52 rfl rfl ⟨rfl, rfl⟩

theorem g_mmax {d : Nat} {M : XM} {pc : Nat} {ls : XL} {st : List Value} {cnt : Nat} {h : XH} {mr sr : Nat} {Q : Option Value → XH → Prop} {idx : Nat} {x y : Int32} (hd : decode M.2.1 pc = .ok (.invokestatic idx, 3)) (hl : Cond.methodLink M.1.cls idx yJ9_max_7cf53 ∈ xtbl) (hd1 : 1 ≤ d) (hst : (st.map fun v => v.category).sum ≤ 8) (k : G E l d M (pc + 3) ls (.int (if x < y then y else x) :: st) cnt h mr sr Q) : G E l d M pc ls (.int y :: .int x :: st) cnt h mr sr Q := by
  intro p e s m args below meth c R Fin cF ms X H locs cells slots lsA r
  have hR := X.2.2.2.2.2.2.1
  have r1 := r.1
  have r6 := r.2.2.2.2.2.1
  have r7 := r.2.2.2.2.2.2
  exact va_mmax X.1 X.2.1 (X.2.2.1.trans r.2.2.2.2.1.1.symm) X.2.2.2.1 (X.2.2.2.2.2.1 _ hl) (X.2.2.2.2.2.1 _ s_mJ9_max_7cf53) (X.2.2.2.2.2.1 _ f_mJ9_max_7cf53.1) (X.2.2.2.2.2.1 _ f_mJ9_max_7cf53.2.1) (by omega) (by rw [xv_cats]; omega) (by omega) (by omega) hd (k p e s m args below meth c R Fin cF ms X H locs cells slots lsA r)
theorem g_mabs {d : Nat} {M : XM} {pc : Nat} {ls : XL} {st : List Value} {cnt : Nat} {h : XH} {mr sr : Nat} {Q : Option Value → XH → Prop} {idx : Nat} {x : Int32} (hd : decode M.2.1 pc = .ok (.invokestatic idx, 3)) (hl : Cond.methodLink M.1.cls idx yJ9_abs_0f7a4 ∈ xtbl) (hd1 : 1 ≤ d) (hst : (st.map fun v => v.category).sum ≤ 8) (k : G E l d M (pc + 3) ls (.int (if 0 ≤ x then x else 0 - x) :: st) cnt h mr sr Q) : G E l d M pc ls (.int x :: st) cnt h mr sr Q := by
  intro p e s m args below meth c R Fin cF ms X H locs cells slots lsA r
  have hR := X.2.2.2.2.2.2.1
  have r1 := r.1
  have r6 := r.2.2.2.2.2.1
  have r7 := r.2.2.2.2.2.2
  exact va_mabs X.1 X.2.1 (X.2.2.1.trans r.2.2.2.2.1.1.symm) X.2.2.2.1 (X.2.2.2.2.2.1 _ hl) (X.2.2.2.2.2.1 _ s_mJ9_abs_0f7a4) (X.2.2.2.2.2.1 _ f_mJ9_abs_0f7a4.1) (X.2.2.2.2.2.1 _ f_mJ9_abs_0f7a4.2.1) (by omega) (by rw [xv_cats]; omega) (by omega) (by omega) hd (k p e s m args below meth c R Fin cF ms X H locs cells slots lsA r)

def mutF (hi : Nat → Nat → Int32) (c N p : Nat) : Int32 := if pFree hi p = true then orB (fun j => pFree hi (c + 6 + j) && (pLikes hi p (c + 6 + j) && pLikes hi (c + 6 + j) p)) (fun j => hi (c + 6 + j) 1) N else 0
set_option maxRecDepth 100000 in
set_option maxHeartbeats 4000000 in
theorem lp_mutualOf (hkv : KV hi) {c : Nat} (hc : isC c) {N : Nat} (hN8 : N ≤ 8) (hN : hi c 3 = nI N) {p : Nat} (hp : XO 3 p) : ∀ (n i : Nat), i ≤ N → N + 1 ≤ i + n → ∀ (l4 : Option Value) (b : Int32), (l4 = none ∨ ∃ z, l4 = some (.ref z)) → (pFree hi p = true → b = orB (fun j => pFree hi (c + 6 + j) && (pLikes hi p (c + 6 + j) && pLikes hi (c + 6 + j) p)) (fun j => hi (c + 6 + j) 1) i) → (pFree hi p = false → b = 0) → G E l 4 mX0_mutualOf 4 [some (.ref c), some (.ref p), some (.int b), some (.int (nI i)), l4] [] 83 (hi, hl, RT) 0 0 (fun r h' => r = some (.int (mutF hi c N p)) ∧ h' = (hi, hl, RT)) := by
  intro n
  induction n with
  | zero =>
    intro i h1 h2
    exact absurd h2 (by omega)
  | succ n ih =>
    intro i hi1 hi2 l4 b hl4 hb hb0
    refine g_iload_n dX0_mutualOf_4 rfl ?_
    refine g_aload_n dX0_mutualOf_5 rfl ?_
    refine g_geti dX0_mutualOf_6 k_X0_27 rfl hc.o.1 hc.o.2 ?_
    refine g_icmpge 67 dX0_mutualOf_9 (by decide) (fun c9 => ?_) (fun c9 => ?_)
    · skip
      have hiN : i = N := Nat.le_antisymm hi1 (ge_out hN c9 (by omega) (by omega))
      subst hiN
      refine g_iload_n dX0_mutualOf_67 rfl ?_
      exact g_ireturn dX0_mutualOf_68 rfl rfl ⟨by cases hq : pFree hi p with | true => (rw [mutF, if_pos hq, hb hq]) | false => (rw [mutF, if_neg (by rw [hq]; decide), hb0 hq]), rfl⟩
    · skip
      have hlt : i < N := lt_in hN c9 (by omega) (by omega)
      have hi8 : i < 8 := by omega
      refine g_aload_n dX0_mutualOf_12 rfl ?_
      refine g_callV0 (M' := mX5_isFree) (mc' := 0) (ms' := 0) dX0_mutualOf_13 l_X0_182 s_mX5_isFree hp.1 hp.2 rfl f_mX5_isFree (Nat.le_of_ble_eq_true rfl) (by decide) (ct_isFree hkv hp) ?_
      rintro _ _ ⟨rfl, rfl⟩
      refine g_ifeq 67 dX0_mutualOf_16 (by decide) (fun c16 => ?_) (fun c16 => ?_)
      · skip
        skip
        refine g_iload_n dX0_mutualOf_67 rfl ?_
        exact g_ireturn dX0_mutualOf_68 rfl rfl ⟨by rw [mutF, if_neg (by rw [bI_0.mp c16]; decide), hb0 (bI_0.mp c16)], rfl⟩
      · skip
        refine g_aload_n dX0_mutualOf_19 rfl ?_
        refine g_getr dX0_mutualOf_20 k_X0_11 rfl hc.o.1 hc.o.2 hc.people ?_
        refine g_iload_n dX0_mutualOf_23 rfl ?_
        refine g_aald dX0_mutualOf_24 hc.a1.1 hc.a1.2 rfl (by omega) (by decide) (hc.rp (by omega)) ?_
        refine g_astore dX0_mutualOf_25 (by decide) rfl rfl ?_
        refine g_aload dX0_mutualOf_27 rfl ?_
        refine g_callV0 (M' := mX5_isFree) (mc' := 0) (ms' := 0) dX0_mutualOf_29 l_X0_182 s_mX5_isFree (hc.p hi8).1 (hc.p hi8).2 rfl f_mX5_isFree (Nat.le_of_ble_eq_true rfl) (by decide) (ct_isFree hkv (hc.p hi8)) ?_
        rintro _ _ ⟨rfl, rfl⟩
        refine g_ifeq 61 dX0_mutualOf_32 (by decide) (fun c32 => ?_) (fun c32 => ?_)
        · skip
          refine g_iinc dX0_mutualOf_61 rfl (nI_inc i) (by decide) rfl rfl ?_
          refine g_goto 4 dX0_mutualOf_64 (by decide) ?_
          have hP : (fun j => pFree hi (c + 6 + j) && (pLikes hi p (c + 6 + j) && pLikes hi (c + 6 + j) p)) i = false := by
            show (pFree hi (c + 6 + i) && (pLikes hi p (c + 6 + i) && pLikes hi (c + 6 + i) p)) = false
            simp [bI_0.mp c32]
          exact ih (i + 1) (by omega) (by omega) _ _ (Or.inr ⟨_, rfl⟩) (fun q => by rw [hb q]; exact (orB_n (P := fun j => pFree hi (c + 6 + j) && (pLikes hi p (c + 6 + j) && pLikes hi (c + 6 + j) p)) (w := fun j => hi (c + 6 + j) 1) hP).symm) (fun q => absurd (bI_n.mp c16) (by rw [q]; decide))
        · skip
          refine g_aload_n dX0_mutualOf_35 rfl ?_
          refine g_aload dX0_mutualOf_36 rfl ?_
          refine g_callV1 (M' := mX5_likes) (mc' := 0) (ms' := 0) dX0_mutualOf_38 l_X0_172 s_mX5_likes hp.1 hp.2 rfl f_mX5_likes (Nat.le_of_ble_eq_true rfl) (by decide) (ct_likes hkv hp (hc.p hi8)) ?_
          rintro _ _ ⟨rfl, rfl⟩
          refine g_ifeq 61 dX0_mutualOf_41 (by decide) (fun c41 => ?_) (fun c41 => ?_)
          · skip
            refine g_iinc dX0_mutualOf_61 rfl (nI_inc i) (by decide) rfl rfl ?_
            refine g_goto 4 dX0_mutualOf_64 (by decide) ?_
            have hP : (fun j => pFree hi (c + 6 + j) && (pLikes hi p (c + 6 + j) && pLikes hi (c + 6 + j) p)) i = false := by
              show (pFree hi (c + 6 + i) && (pLikes hi p (c + 6 + i) && pLikes hi (c + 6 + i) p)) = false
              simp [bI_0.mp c41]
            exact ih (i + 1) (by omega) (by omega) _ _ (Or.inr ⟨_, rfl⟩) (fun q => by rw [hb q]; exact (orB_n (P := fun j => pFree hi (c + 6 + j) && (pLikes hi p (c + 6 + j) && pLikes hi (c + 6 + j) p)) (w := fun j => hi (c + 6 + j) 1) hP).symm) (fun q => absurd (bI_n.mp c16) (by rw [q]; decide))
          · skip
            refine g_aload dX0_mutualOf_44 rfl ?_
            refine g_aload_n dX0_mutualOf_46 rfl ?_
            refine g_callV1 (M' := mX5_likes) (mc' := 0) (ms' := 0) dX0_mutualOf_47 l_X0_172 s_mX5_likes (hc.p hi8).1 (hc.p hi8).2 rfl f_mX5_likes (Nat.le_of_ble_eq_true rfl) (by decide) (ct_likes hkv (hc.p hi8) hp) ?_
            rintro _ _ ⟨rfl, rfl⟩
            refine g_ifeq 61 dX0_mutualOf_50 (by decide) (fun c50 => ?_) (fun c50 => ?_)
            · skip
              refine g_iinc dX0_mutualOf_61 rfl (nI_inc i) (by decide) rfl rfl ?_
              refine g_goto 4 dX0_mutualOf_64 (by decide) ?_
              have hP : (fun j => pFree hi (c + 6 + j) && (pLikes hi p (c + 6 + j) && pLikes hi (c + 6 + j) p)) i = false := by
                show (pFree hi (c + 6 + i) && (pLikes hi p (c + 6 + i) && pLikes hi (c + 6 + i) p)) = false
                simp [bI_0.mp c50]
              exact ih (i + 1) (by omega) (by omega) _ _ (Or.inr ⟨_, rfl⟩) (fun q => by rw [hb q]; exact (orB_n (P := fun j => pFree hi (c + 6 + j) && (pLikes hi p (c + 6 + j) && pLikes hi (c + 6 + j) p)) (w := fun j => hi (c + 6 + j) 1) hP).symm) (fun q => absurd (bI_n.mp c16) (by rw [q]; decide))
            · skip
              have hP : (fun j => pFree hi (c + 6 + j) && (pLikes hi p (c + 6 + j) && pLikes hi (c + 6 + j) p)) i = true := by
                show (pFree hi (c + 6 + i) && (pLikes hi p (c + 6 + i) && pLikes hi (c + 6 + i) p)) = true
                rw [bI_n.mp c32, bI_n.mp c41, bI_n.mp c50]; rfl
              refine g_iload_n dX0_mutualOf_53 rfl ?_
              refine g_aload dX0_mutualOf_54 rfl ?_
              refine g_geti dX0_mutualOf_56 k_X0_176 rfl (hc.p hi8).1 (hc.p hi8).2 ?_
              refine g_ior dX0_mutualOf_59 ?_
              refine g_istore_n dX0_mutualOf_60 (by decide) rfl rfl ?_
              refine g_iinc dX0_mutualOf_61 rfl (nI_inc i) (by decide) rfl rfl ?_
              refine g_goto 4 dX0_mutualOf_64 (by decide) ?_
              exact ih (i + 1) (by omega) (by omega) _ _ (Or.inr ⟨_, rfl⟩) (fun q => by rw [hb q]; exact (orB_y (P := fun j => pFree hi (c + 6 + j) && (pLikes hi p (c + 6 + j) && pLikes hi (c + 6 + j) p)) (w := fun j => hi (c + 6 + j) 1) hP).symm) (fun q => absurd (bI_n.mp c16) (by rw [q]; decide))

set_option maxRecDepth 100000 in
set_option maxHeartbeats 4000000 in
theorem ct_mutualOf (hkv : KV hi) {c : Nat} (hc : isC c) {N : Nat} (hN8 : N ≤ 8) (hN : hi c 3 = nI N) {p : Nat} (hp : XO 3 p) : MC E l 4 mX0_mutualOf [.ref c, .ref p] 83 (hi, hl, RT) 0 0 (fun r h' => r = some (.int (mutF hi c N p)) ∧ h' = (hi, hl, RT)) := by
  refine MC.of [some (.ref c), some (.ref p), none, none, none] (by decide) rfl (Nat.le_of_ble_eq_true rfl) ?_
  refine g_iconst (v := 0) dX0_mutualOf_0 (by decide) ?_
  refine g_istore_n dX0_mutualOf_1 (by decide) rfl rfl ?_
  refine g_iconst (v := 0) dX0_mutualOf_2 (by decide) ?_
  refine g_istore_n dX0_mutualOf_3 (by decide) rfl rfl ?_
  exact lp_mutualOf hkv hc hN8 hN hp (N + 1) 0 (by omega) (by omega) none 0 (Or.inl rfl) (fun _ => rfl) (fun _ => rfl)

set_option maxRecDepth 100000 in
set_option maxHeartbeats 4000000 in
theorem lp_mutualTwos (hkv : KV hi) {c : Nat} (hc : isC c) {N : Nat} (hN8 : N ≤ 8) (hN : hi c 3 = nI N) {F : Nat} (hF8 : F ≤ 8) (hF : hi c 2 = nI F) : ∀ (n i : Nat), i ≤ F → F + 1 ≤ i + n → ∀ (b : Int32), b = sumI (fun j => bcF (mutF hi c N (c + 6 + j))) i → G E l 6 mX0_mutualTwos 4 [some (.ref c), some (.int b), some (.int (nI i))] [] 83 (hi, hl, RT) 0 0 (fun r h' => r = some (.int (sumI (fun j => bcF (mutF hi c N (c + 6 + j))) F)) ∧ h' = (hi, hl, RT)) := by
  intro n
  induction n with
  | zero =>
    intro i h1 h2
    exact absurd h2 (by omega)
  | succ n ih =>
    intro i hi1 hi2 b hb
    refine g_iload_n dX0_mutualTwos_4 rfl ?_
    refine g_aload_n dX0_mutualTwos_5 rfl ?_
    refine g_geti dX0_mutualTwos_6 k_X0_71 rfl hc.o.1 hc.o.2 ?_
    refine g_icmpge 34 dX0_mutualTwos_9 (by decide) (fun c9 => ?_) (fun c9 => ?_)
    · skip
      have hiN : i = F := Nat.le_antisymm hi1 (ge_out hF c9 (by omega) (by omega))
      subst hiN
      refine g_iload_n dX0_mutualTwos_34 rfl ?_
      exact g_ireturn dX0_mutualTwos_35 rfl rfl ⟨by rw [hb], rfl⟩
    · skip
      have hlt : i < F := lt_in hF c9 (by omega) (by omega)
      have hi8 : i < 8 := by omega
      refine g_iload_n dX0_mutualTwos_12 rfl ?_
      refine g_aload_n dX0_mutualTwos_13 rfl ?_
      refine g_aload_n dX0_mutualTwos_14 rfl ?_
      refine g_getr dX0_mutualTwos_15 k_X0_11 rfl hc.o.1 hc.o.2 hc.people ?_
      refine g_iload_n dX0_mutualTwos_18 rfl ?_
      refine g_aald dX0_mutualTwos_19 hc.a1.1 hc.a1.2 rfl (by omega) (by decide) (hc.rp (by omega)) ?_
      refine g_callV1 (M' := mX0_mutualOf) (mc' := 0) (ms' := 0) dX0_mutualTwos_20 l_X0_190 s_mX0_mutualOf hc.o.1 hc.o.2 rfl f_mX0_mutualOf (Nat.le_of_ble_eq_true rfl) (by decide) (ct_mutualOf hkv hc hN8 hN (hc.p hi8)) ?_
      rintro _ _ ⟨rfl, rfl⟩
      refine g_callS1 (M' := mJ6_bitCount_0f7a4) (mc' := 0) (ms' := 0) dX0_mutualTwos_23 l_X0_185 s_mJ6_bitCount_0f7a4 f_mJ6_bitCount_0f7a4 (Nat.le_of_ble_eq_true rfl) (by decide) (ct_bitCount _) ?_
      rintro _ _ ⟨rfl, rfl⟩
      refine g_iadd dX0_mutualTwos_26 ?_
      refine g_istore_n dX0_mutualTwos_27 (by decide) rfl rfl ?_
      refine g_iinc dX0_mutualTwos_28 rfl (nI_inc i) (by decide) rfl rfl ?_
      refine g_goto 4 dX0_mutualTwos_31 (by decide) ?_
      exact ih (i + 1) (by omega) (by omega) _ (by rw [hb]; rfl)

set_option maxRecDepth 100000 in
set_option maxHeartbeats 4000000 in
theorem ct_mutualTwos (hkv : KV hi) {c : Nat} (hc : isC c) {N : Nat} (hN8 : N ≤ 8) (hN : hi c 3 = nI N) {F : Nat} (hF8 : F ≤ 8) (hF : hi c 2 = nI F) : MC E l 6 mX0_mutualTwos [.ref c] 83 (hi, hl, RT) 0 0 (fun r h' => r = some (.int (sumI (fun j => bcF (mutF hi c N (c + 6 + j))) F)) ∧ h' = (hi, hl, RT)) := by
  refine MC.of [some (.ref c), none, none] (by decide) rfl (Nat.le_of_ble_eq_true rfl) ?_
  refine g_iconst (v := 0) dX0_mutualTwos_0 (by decide) ?_
  refine g_istore_n dX0_mutualTwos_1 (by decide) rfl rfl ?_
  refine g_iconst (v := 0) dX0_mutualTwos_2 (by decide) ?_
  refine g_istore_n dX0_mutualTwos_3 (by decide) rfl rfl ?_
  exact lp_mutualTwos hkv hc hN8 hN hF8 hF (F + 1) 0 (by omega) (by omega) 0 rfl

set_option maxRecDepth 100000 in
set_option maxHeartbeats 4000000 in
theorem lp_openMatches {c : Nat} (hc : isC c) {N : Nat} (hN8 : N ≤ 8) (hN : hi c 3 = nI N) {F : Nat} (hF8 : F ≤ 8) (hF : hi c 2 = nI F) : ∀ (n i : Nat), i ≤ F → F + 1 ≤ i + n → ∀ (l3 l4 : Option Value), xcat2 l3 = false → xcat2 l4 = false → ∀ (b : Int32), b = sumI (fun j => bcF (orB (fun k => pMatch hi (c + 6 + j) (c + 6 + k)) (fun k => hi (c + 6 + k) 1) N &&& ((if pTaken hi (c + 6 + j) = true then 1 <<< (hi (c + 6 + j) 11 &&& 31) else 0) ^^^ -1))) i → G E l 6 mX0_openMatches 4 [some (.ref c), some (.int b), some (.int (nI i)), l3, l4] [] 83 (hi, hl, RT) 0 0 (fun r h' => r = some (.int (sumI (fun j => bcF (orB (fun k => pMatch hi (c + 6 + j) (c + 6 + k)) (fun k => hi (c + 6 + k) 1) N &&& ((if pTaken hi (c + 6 + j) = true then 1 <<< (hi (c + 6 + j) 11 &&& 31) else 0) ^^^ -1))) F)) ∧ h' = (hi, hl, RT)) := by
  intro n
  induction n with
  | zero =>
    intro i h1 h2
    exact absurd h2 (by omega)
  | succ n ih =>
    intro i hi1 hi2 l3 l4 hx3 hx4 b hb
    refine g_iload_n dX0_openMatches_4 rfl ?_
    refine g_aload_n dX0_openMatches_5 rfl ?_
    refine g_geti dX0_openMatches_6 k_X0_71 rfl hc.o.1 hc.o.2 ?_
    refine g_icmpge 60 dX0_openMatches_9 (by decide) (fun c9 => ?_) (fun c9 => ?_)
    · skip
      have hiN : i = F := Nat.le_antisymm hi1 (ge_out hF c9 (by omega) (by omega))
      subst hiN
      refine g_iload_n dX0_openMatches_60 rfl ?_
      exact g_ireturn dX0_openMatches_61 rfl rfl ⟨by rw [hb], rfl⟩
    · skip
      have hlt : i < F := lt_in hF c9 (by omega) (by omega)
      have hi8 : i < 8 := by omega
      refine g_aload_n dX0_openMatches_12 rfl ?_
      refine g_getr dX0_openMatches_13 k_X0_11 rfl hc.o.1 hc.o.2 hc.people ?_
      refine g_iload_n dX0_openMatches_16 rfl ?_
      refine g_aald dX0_openMatches_17 hc.a1.1 hc.a1.2 rfl (by omega) (by decide) (hc.rp (by omega)) ?_
      refine g_astore_n dX0_openMatches_18 (by decide) rfl rfl ?_
      refine g_aload_n dX0_openMatches_19 rfl ?_
      refine g_callV0 (M' := mX5_isTaken) (mc' := 0) (ms' := 0) dX0_openMatches_20 l_X0_129 s_mX5_isTaken (hc.p hi8).1 (hc.p hi8).2 rfl f_mX5_isTaken (Nat.le_of_ble_eq_true rfl) (by decide) (ct_isTaken (hc.p hi8)) ?_
      rintro _ _ ⟨rfl, rfl⟩
      refine g_ifeq 35 dX0_openMatches_23 (by decide) (fun c23 => ?_) (fun c23 => ?_)
      · skip
        refine g_iconst (v := 0) dX0_openMatches_35 (by decide) ?_
        refine g_istore dX0_openMatches_36 (by decide) rfl rfl ?_
        refine g_iload_n dX0_openMatches_38 rfl ?_
        refine g_aload_n dX0_openMatches_39 rfl ?_
        refine g_aload_n dX0_openMatches_40 rfl ?_
        refine g_callV1 (M' := mX0_matchesOf) (mc' := 0) (ms' := 0) dX0_openMatches_41 l_X0_146 s_mX0_matchesOf hc.o.1 hc.o.2 rfl f_mX0_matchesOf (Nat.le_of_ble_eq_true rfl) (by decide) (ct_matchesOf hc hN8 hN (hc.p hi8)) ?_
        rintro _ _ ⟨rfl, rfl⟩
        refine g_iload dX0_openMatches_44 rfl ?_
        refine g_iconst (v := -1) dX0_openMatches_46 (by decide) ?_
        refine g_ixor dX0_openMatches_47 ?_
        refine g_iand dX0_openMatches_48 ?_
        refine g_callS1 (M' := mJ6_bitCount_0f7a4) (mc' := 0) (ms' := 0) dX0_openMatches_49 l_X0_185 s_mJ6_bitCount_0f7a4 f_mJ6_bitCount_0f7a4 (Nat.le_of_ble_eq_true rfl) (by decide) (ct_bitCount _) ?_
        rintro _ _ ⟨rfl, rfl⟩
        refine g_iadd dX0_openMatches_52 ?_
        refine g_istore_n dX0_openMatches_53 (by decide) rfl rfl ?_
        refine g_iinc dX0_openMatches_54 rfl (nI_inc i) (by decide) rfl rfl ?_
        refine g_goto 4 dX0_openMatches_57 (by decide) ?_
        exact ih (i + 1) (by omega) (by omega) _ _ rfl rfl _ (by rw [hb, sumI, if_neg (by rw [bI_0.mp c23]; decide)])
      · skip
        refine g_iconst (v := 1) dX0_openMatches_26 (by decide) ?_
        refine g_aload_n dX0_openMatches_27 rfl ?_
        refine g_geti dX0_openMatches_28 k_X0_65 rfl (hc.p hi8).1 (hc.p hi8).2 ?_
        refine g_ishl dX0_openMatches_31 ?_
        refine g_goto 36 dX0_openMatches_32 (by decide) ?_
        refine g_istore dX0_openMatches_36 (by decide) rfl rfl ?_
        refine g_iload_n dX0_openMatches_38 rfl ?_
        refine g_aload_n dX0_openMatches_39 rfl ?_
        refine g_aload_n dX0_openMatches_40 rfl ?_
        refine g_callV1 (M' := mX0_matchesOf) (mc' := 0) (ms' := 0) dX0_openMatches_41 l_X0_146 s_mX0_matchesOf hc.o.1 hc.o.2 rfl f_mX0_matchesOf (Nat.le_of_ble_eq_true rfl) (by decide) (ct_matchesOf hc hN8 hN (hc.p hi8)) ?_
        rintro _ _ ⟨rfl, rfl⟩
        refine g_iload dX0_openMatches_44 rfl ?_
        refine g_iconst (v := -1) dX0_openMatches_46 (by decide) ?_
        refine g_ixor dX0_openMatches_47 ?_
        refine g_iand dX0_openMatches_48 ?_
        refine g_callS1 (M' := mJ6_bitCount_0f7a4) (mc' := 0) (ms' := 0) dX0_openMatches_49 l_X0_185 s_mJ6_bitCount_0f7a4 f_mJ6_bitCount_0f7a4 (Nat.le_of_ble_eq_true rfl) (by decide) (ct_bitCount _) ?_
        rintro _ _ ⟨rfl, rfl⟩
        refine g_iadd dX0_openMatches_52 ?_
        refine g_istore_n dX0_openMatches_53 (by decide) rfl rfl ?_
        refine g_iinc dX0_openMatches_54 rfl (nI_inc i) (by decide) rfl rfl ?_
        refine g_goto 4 dX0_openMatches_57 (by decide) ?_
        exact ih (i + 1) (by omega) (by omega) _ _ rfl rfl _ (by rw [hb, sumI, if_pos (bI_n.mp c23)])

set_option maxRecDepth 100000 in
set_option maxHeartbeats 4000000 in
theorem ct_openMatches {c : Nat} (hc : isC c) {N : Nat} (hN8 : N ≤ 8) (hN : hi c 3 = nI N) {F : Nat} (hF8 : F ≤ 8) (hF : hi c 2 = nI F) : MC E l 6 mX0_openMatches [.ref c] 83 (hi, hl, RT) 0 0 (fun r h' => r = some (.int (sumI (fun j => bcF (orB (fun k => pMatch hi (c + 6 + j) (c + 6 + k)) (fun k => hi (c + 6 + k) 1) N &&& ((if pTaken hi (c + 6 + j) = true then 1 <<< (hi (c + 6 + j) 11 &&& 31) else 0) ^^^ -1))) F)) ∧ h' = (hi, hl, RT)) := by
  refine MC.of [some (.ref c), none, none, none, none] (by decide) rfl (Nat.le_of_ble_eq_true rfl) ?_
  refine g_iconst (v := 0) dX0_openMatches_0 (by decide) ?_
  refine g_istore_n dX0_openMatches_1 (by decide) rfl rfl ?_
  refine g_iconst (v := 0) dX0_openMatches_2 (by decide) ?_
  refine g_istore_n dX0_openMatches_3 (by decide) rfl rfl ?_
  exact lp_openMatches hc hN8 hN hF8 hF (F + 1) 0 (by omega) (by omega) none none rfl rfl 0 rfl

end
