section
variable {E : XE} {l : Launch} {hi : Nat → Nat → Int32} {hl : Nat → Nat → Int64}

set_option maxRecDepth 100000 in
set_option maxHeartbeats 4000000 in
theorem ct_has {c : Nat} (hc : isC c) (x : Int32) : MC E l 1 mX0_has [.ref c, .int x] 83 (hi, hl, RT) 0 0 (fun r h' => r = some (.int (bI (!decide (x < 0) && !decide (hi c 3 ≤ x)))) ∧ h' = (hi, hl, RT)) := by
  refine MC.of [some (.ref c), some (.int x)] (by decide) rfl (Nat.le_of_ble_eq_true rfl) ?_
  refine g_iload_n dX0_has_0 rfl ?_
  refine g_iflt 16 dX0_has_1 (by decide) (fun c1 => ?_) (fun c1 => ?_)
  · skip
    refine g_iconst (v := 0) dX0_has_16 (by decide) ?_
    exact g_ireturn dX0_has_17 rfl rfl ⟨by simp_all [bI], rfl⟩
  · skip
    refine g_iload_n dX0_has_4 rfl ?_
    refine g_aload_n dX0_has_5 rfl ?_
    refine g_geti dX0_has_6 k_X0_27 rfl hc.o.1 hc.o.2 ?_
    refine g_icmpge 16 dX0_has_9 (by decide) (fun c9 => ?_) (fun c9 => ?_)
    · skip
      refine g_iconst (v := 0) dX0_has_16 (by decide) ?_
      exact g_ireturn dX0_has_17 rfl rfl ⟨by simp_all [bI], rfl⟩
    · skip
      refine g_iconst (v := 1) dX0_has_12 (by decide) ?_
      refine g_goto 17 dX0_has_13 (by decide) ?_
      exact g_ireturn dX0_has_17 rfl rfl ⟨by simp_all [bI], rfl⟩

set_option maxRecDepth 100000 in
set_option maxHeartbeats 4000000 in
theorem ct_isEmpty {c : Nat} (hc : isC c) : MC E l 1 mX0_isEmpty [.ref c] 83 (hi, hl, RT) 0 0 (fun r h' => r = some (.int (bI (decide (hi c 3 = 0)))) ∧ h' = (hi, hl, RT)) := by
  refine MC.of [some (.ref c)] (by decide) rfl (Nat.le_of_ble_eq_true rfl) ?_
  refine g_aload_n dX0_isEmpty_0 rfl ?_
  refine g_geti dX0_isEmpty_1 k_X0_27 rfl hc.o.1 hc.o.2 ?_
  refine g_ifne 11 dX0_isEmpty_4 (by decide) (fun c4 => ?_) (fun c4 => ?_)
  · skip
    refine g_iconst (v := 0) dX0_isEmpty_11 (by decide) ?_
    exact g_ireturn dX0_isEmpty_12 rfl rfl ⟨by simp_all [bI], rfl⟩
  · skip
    refine g_iconst (v := 1) dX0_isEmpty_7 (by decide) ?_
    refine g_goto 12 dX0_isEmpty_8 (by decide) ?_
    exact g_ireturn dX0_isEmpty_12 rfl rfl ⟨by simp_all [bI], rfl⟩

set_option maxRecDepth 100000 in
set_option maxHeartbeats 4000000 in
theorem lp_likedBy (hkv : KV hi) {c : Nat} (hc : isC c) {N : Nat} (hN8 : N ≤ 8) (hN : hi c 3 = nI N) {p : Nat} (hp : XO 3 p) : ∀ (n i : Nat), i ≤ N → N + 1 ≤ i + n → ∀ (b : Int32), b = orB (fun j => pLikes hi p (c + 6 + j)) (fun j => hi (c + 6 + j) 1) i → , G E l 4 mX0_likedBy 4 [some (.ref c), some (.ref p), some (.int b), some (.int (nI i))] [] 83 (hi, hl, RT) 0 0 (fun r h' => r = some (.int (orB (fun j => pLikes hi p (c + 6 + j)) (fun j => hi (c + 6 + j) 1) N)) ∧ h' = (hi, hl, RT)) := by
  intro n
  induction n with
  | zero =>
    intro i h1 h2
    exact absurd h2 (by omega)
  | succ n ih =>
    intro i hi1 hi2 b hb
    refine g_iload_n dX0_likedBy_4 rfl ?_
    refine g_aload_n dX0_likedBy_5 rfl ?_
    refine g_geti dX0_likedBy_6 k_X0_27 rfl hc.o.1 hc.o.2 ?_
    refine g_icmpge 43 dX0_likedBy_9 (by decide) (fun c9 => ?_) (fun c9 => ?_)
    · skip
      have hiN : i = N := Nat.le_antisymm hi1 (ge_out hN c9 (by omega) (by omega))
      subst hiN
      refine g_iload_n dX0_likedBy_43 rfl ?_
      exact g_ireturn dX0_likedBy_44 rfl rfl ⟨by rw [hb], rfl⟩
    · skip
      have hlt : i < N := lt_in hN c9 (by omega) (by omega)
      have hi8 : i < 8 := by omega
      refine g_aload_n dX0_likedBy_12 rfl ?_
      refine g_aload_n dX0_likedBy_13 rfl ?_
      refine g_getr dX0_likedBy_14 k_X0_11 rfl hc.o.1 hc.o.2 hc.people ?_
      refine g_iload_n dX0_likedBy_17 rfl ?_
      refine g_aald dX0_likedBy_18 hc.a1.1 hc.a1.2 rfl (by omega) (by decide) (hc.rp (by omega)) ?_
      refine g_callV1 dX0_likedBy_19 l_X0_172 s_mX5_likes hp.1 hp.2 rfl f_mX5_likes (Nat.le_of_ble_eq_true rfl) (by decide) (ct_likes hkv hp (hc.p hi8)) ?_
      rintro _ _ ⟨rfl, rfl⟩
      refine g_ifeq 37 dX0_likedBy_22 (by decide) (fun c22 => ?_) (fun c22 => ?_)
      · skip
        refine g_iinc dX0_likedBy_37 rfl (nI_inc i) (by decide) rfl rfl ?_
        refine g_goto 4 dX0_likedBy_40 (by decide) ?_
        exact ih (i + 1) (by omega) (by omega) _ (by rw [hb, orB_n (bI_0.mp c22)])
      · skip
        refine g_iload_n dX0_likedBy_25 rfl ?_
        refine g_aload_n dX0_likedBy_26 rfl ?_
        refine g_getr dX0_likedBy_27 k_X0_11 rfl hc.o.1 hc.o.2 hc.people ?_
        refine g_iload_n dX0_likedBy_30 rfl ?_
        refine g_aald dX0_likedBy_31 hc.a1.1 hc.a1.2 rfl (by omega) (by decide) (hc.rp (by omega)) ?_
        refine g_geti dX0_likedBy_32 k_X0_176 rfl (hc.p hi8).1 (hc.p hi8).2 ?_
        refine g_ior dX0_likedBy_35 ?_
        refine g_istore_n dX0_likedBy_36 (by decide) rfl rfl ?_
        refine g_iinc dX0_likedBy_37 rfl (nI_inc i) (by decide) rfl rfl ?_
        refine g_goto 4 dX0_likedBy_40 (by decide) ?_
        exact ih (i + 1) (by omega) (by omega) _ (by rw [hb, orB_y (bI_n.mp c22)])

set_option maxRecDepth 100000 in
set_option maxHeartbeats 4000000 in
theorem ct_likedBy (hkv : KV hi) {c : Nat} (hc : isC c) {N : Nat} (hN8 : N ≤ 8) (hN : hi c 3 = nI N) {p : Nat} (hp : XO 3 p) : MC E l 4 mX0_likedBy [.ref c, .ref p] 83 (hi, hl, RT) 0 0 (fun r h' => r = some (.int (orB (fun j => pLikes hi p (c + 6 + j)) (fun j => hi (c + 6 + j) 1) N)) ∧ h' = (hi, hl, RT)) := by
  refine MC.of [some (.ref c), some (.ref p), none, none] (by decide) rfl (Nat.le_of_ble_eq_true rfl) ?_
  refine g_iconst (v := 0) dX0_likedBy_0 (by decide) ?_
  refine g_istore_n dX0_likedBy_1 (by decide) rfl rfl ?_
  refine g_iconst (v := 0) dX0_likedBy_2 (by decide) ?_
  refine g_istore_n dX0_likedBy_3 (by decide) rfl rfl ?_
  exact lp_likedBy hkv hc hN8 hN hp (N + 1) 0 (by omega) (by omega) 0 rfl

set_option maxRecDepth 100000 in
set_option maxHeartbeats 4000000 in
theorem lp_matchesOf {c : Nat} (hc : isC c) {N : Nat} (hN8 : N ≤ 8) (hN : hi c 3 = nI N) {p : Nat} (hp : XO 3 p) : ∀ (n i : Nat), i ≤ N → N + 1 ≤ i + n → ∀ (b : Int32), b = orB (fun j => pMatch hi p (c + 6 + j)) (fun j => hi (c + 6 + j) 1) i → , G E l 4 mX0_matchesOf 4 [some (.ref c), some (.ref p), some (.int b), some (.int (nI i))] [] 83 (hi, hl, RT) 0 0 (fun r h' => r = some (.int (orB (fun j => pMatch hi p (c + 6 + j)) (fun j => hi (c + 6 + j) 1) N)) ∧ h' = (hi, hl, RT)) := by
  intro n
  induction n with
  | zero =>
    intro i h1 h2
    exact absurd h2 (by omega)
  | succ n ih =>
    intro i hi1 hi2 b hb
    refine g_iload_n dX0_matchesOf_4 rfl ?_
    refine g_aload_n dX0_matchesOf_5 rfl ?_
    refine g_geti dX0_matchesOf_6 k_X0_27 rfl hc.o.1 hc.o.2 ?_
    refine g_icmpge 43 dX0_matchesOf_9 (by decide) (fun c9 => ?_) (fun c9 => ?_)
    · skip
      have hiN : i = N := Nat.le_antisymm hi1 (ge_out hN c9 (by omega) (by omega))
      subst hiN
      refine g_iload_n dX0_matchesOf_43 rfl ?_
      exact g_ireturn dX0_matchesOf_44 rfl rfl ⟨by rw [hb], rfl⟩
    · skip
      have hlt : i < N := lt_in hN c9 (by omega) (by omega)
      have hi8 : i < 8 := by omega
      refine g_aload_n dX0_matchesOf_12 rfl ?_
      refine g_aload_n dX0_matchesOf_13 rfl ?_
      refine g_getr dX0_matchesOf_14 k_X0_11 rfl hc.o.1 hc.o.2 hc.people ?_
      refine g_iload_n dX0_matchesOf_17 rfl ?_
      refine g_aald dX0_matchesOf_18 hc.a1.1 hc.a1.2 rfl (by omega) (by decide) (hc.rp (by omega)) ?_
      refine g_callV1 dX0_matchesOf_19 l_X0_179 s_mX5_isMatchOf hp.1 hp.2 rfl f_mX5_isMatchOf (Nat.le_of_ble_eq_true rfl) (by decide) (ct_isMatchOf hp (hc.p hi8)) ?_
      rintro _ _ ⟨rfl, rfl⟩
      refine g_ifeq 37 dX0_matchesOf_22 (by decide) (fun c22 => ?_) (fun c22 => ?_)
      · skip
        refine g_iinc dX0_matchesOf_37 rfl (nI_inc i) (by decide) rfl rfl ?_
        refine g_goto 4 dX0_matchesOf_40 (by decide) ?_
        exact ih (i + 1) (by omega) (by omega) _ (by rw [hb, orB_n (bI_0.mp c22)])
      · skip
        refine g_iload_n dX0_matchesOf_25 rfl ?_
        refine g_aload_n dX0_matchesOf_26 rfl ?_
        refine g_getr dX0_matchesOf_27 k_X0_11 rfl hc.o.1 hc.o.2 hc.people ?_
        refine g_iload_n dX0_matchesOf_30 rfl ?_
        refine g_aald dX0_matchesOf_31 hc.a1.1 hc.a1.2 rfl (by omega) (by decide) (hc.rp (by omega)) ?_
        refine g_geti dX0_matchesOf_32 k_X0_176 rfl (hc.p hi8).1 (hc.p hi8).2 ?_
        refine g_ior dX0_matchesOf_35 ?_
        refine g_istore_n dX0_matchesOf_36 (by decide) rfl rfl ?_
        refine g_iinc dX0_matchesOf_37 rfl (nI_inc i) (by decide) rfl rfl ?_
        refine g_goto 4 dX0_matchesOf_40 (by decide) ?_
        exact ih (i + 1) (by omega) (by omega) _ (by rw [hb, orB_y (bI_n.mp c22)])

set_option maxRecDepth 100000 in
set_option maxHeartbeats 4000000 in
theorem ct_matchesOf {c : Nat} (hc : isC c) {N : Nat} (hN8 : N ≤ 8) (hN : hi c 3 = nI N) {p : Nat} (hp : XO 3 p) : MC E l 4 mX0_matchesOf [.ref c, .ref p] 83 (hi, hl, RT) 0 0 (fun r h' => r = some (.int (orB (fun j => pMatch hi p (c + 6 + j)) (fun j => hi (c + 6 + j) 1) N)) ∧ h' = (hi, hl, RT)) := by
  refine MC.of [some (.ref c), some (.ref p), none, none] (by decide) rfl (Nat.le_of_ble_eq_true rfl) ?_
  refine g_iconst (v := 0) dX0_matchesOf_0 (by decide) ?_
  refine g_istore_n dX0_matchesOf_1 (by decide) rfl rfl ?_
  refine g_iconst (v := 0) dX0_matchesOf_2 (by decide) ?_
  refine g_istore_n dX0_matchesOf_3 (by decide) rfl rfl ?_
  exact lp_matchesOf hc hN8 hN hp (N + 1) 0 (by omega) (by omega) 0 rfl

set_option maxRecDepth 100000 in
set_option maxHeartbeats 4000000 in
theorem lp_freeOnes (hkv : KV hi) {c : Nat} (hc : isC c) {N : Nat} (hN8 : N ≤ 8) (hN : hi c 3 = nI N) : ∀ (n i : Nat), i ≤ N → N + 1 ≤ i + n → ∀ (b : Int32), b = cntB (fun j => pFree hi (c + 6 + j)) i → , G E l 4 mX0_freeOnes 4 [some (.ref c), some (.int b), some (.int (nI i))] [] 83 (hi, hl, RT) 0 0 (fun r h' => r = some (.int (cntB (fun j => pFree hi (c + 6 + j)) N)) ∧ h' = (hi, hl, RT)) := by
  intro n
  induction n with
  | zero =>
    intro i h1 h2
    exact absurd h2 (by omega)
  | succ n ih =>
    intro i hi1 hi2 b hb
    refine g_iload_n dX0_freeOnes_4 rfl ?_
    refine g_aload_n dX0_freeOnes_5 rfl ?_
    refine g_geti dX0_freeOnes_6 k_X0_27 rfl hc.o.1 hc.o.2 ?_
    refine g_icmpge 38 dX0_freeOnes_9 (by decide) (fun c9 => ?_) (fun c9 => ?_)
    · skip
      have hiN : i = N := Nat.le_antisymm hi1 (ge_out hN c9 (by omega) (by omega))
      subst hiN
      refine g_iload_n dX0_freeOnes_38 rfl ?_
      exact g_ireturn dX0_freeOnes_39 rfl rfl ⟨by rw [hb], rfl⟩
    · skip
      have hlt : i < N := lt_in hN c9 (by omega) (by omega)
      have hi8 : i < 8 := by omega
      refine g_iload_n dX0_freeOnes_12 rfl ?_
      refine g_aload_n dX0_freeOnes_13 rfl ?_
      refine g_getr dX0_freeOnes_14 k_X0_11 rfl hc.o.1 hc.o.2 hc.people ?_
      refine g_iload_n dX0_freeOnes_17 rfl ?_
      refine g_aald dX0_freeOnes_18 hc.a1.1 hc.a1.2 rfl (by omega) (by decide) (hc.rp (by omega)) ?_
      refine g_callV0 dX0_freeOnes_19 l_X0_182 s_mX5_isFree (hc.p hi8).1 (hc.p hi8).2 rfl f_mX5_isFree (Nat.le_of_ble_eq_true rfl) (by decide) (ct_isFree hkv (hc.p hi8)) ?_
      rintro _ _ ⟨rfl, rfl⟩
      refine g_ifeq 29 dX0_freeOnes_22 (by decide) (fun c22 => ?_) (fun c22 => ?_)
      · skip
        refine g_iconst (v := 0) dX0_freeOnes_29 (by decide) ?_
        refine g_iadd dX0_freeOnes_30 ?_
        refine g_istore_n dX0_freeOnes_31 (by decide) rfl rfl ?_
        refine g_iinc dX0_freeOnes_32 rfl (nI_inc i) (by decide) rfl rfl ?_
        refine g_goto 4 dX0_freeOnes_35 (by decide) ?_
        exact ih (i + 1) (by omega) (by omega) _ (by rw [hb, cntB, bI_0.mp c22]; rfl)
      · skip
        refine g_iconst (v := 1) dX0_freeOnes_25 (by decide) ?_
        refine g_goto 30 dX0_freeOnes_26 (by decide) ?_
        refine g_iadd dX0_freeOnes_30 ?_
        refine g_istore_n dX0_freeOnes_31 (by decide) rfl rfl ?_
        refine g_iinc dX0_freeOnes_32 rfl (nI_inc i) (by decide) rfl rfl ?_
        refine g_goto 4 dX0_freeOnes_35 (by decide) ?_
        exact ih (i + 1) (by omega) (by omega) _ (by rw [hb, cntB, bI_n.mp c22]; rfl)

set_option maxRecDepth 100000 in
set_option maxHeartbeats 4000000 in
theorem ct_freeOnes (hkv : KV hi) {c : Nat} (hc : isC c) {N : Nat} (hN8 : N ≤ 8) (hN : hi c 3 = nI N) : MC E l 4 mX0_freeOnes [.ref c] 83 (hi, hl, RT) 0 0 (fun r h' => r = some (.int (cntB (fun j => pFree hi (c + 6 + j)) N)) ∧ h' = (hi, hl, RT)) := by
  refine MC.of [some (.ref c), none, none] (by decide) rfl (Nat.le_of_ble_eq_true rfl) ?_
  refine g_iconst (v := 0) dX0_freeOnes_0 (by decide) ?_
  refine g_istore_n dX0_freeOnes_1 (by decide) rfl rfl ?_
  refine g_iconst (v := 0) dX0_freeOnes_2 (by decide) ?_
  refine g_istore_n dX0_freeOnes_3 (by decide) rfl rfl ?_
  exact lp_freeOnes hkv hc hN8 hN (N + 1) 0 (by omega) (by omega) 0 rfl

set_option maxRecDepth 100000 in
set_option maxHeartbeats 4000000 in
theorem lp_goneOnes (hkv : KV hi) {c : Nat} (hc : isC c) {N : Nat} (hN8 : N ≤ 8) (hN : hi c 3 = nI N) : ∀ (n i : Nat), i ≤ N → N + 1 ≤ i + n → ∀ (b : Int32), b = cntB (fun j => pGone hi (c + 6 + j)) i → , G E l 4 mX0_goneOnes 4 [some (.ref c), some (.int b), some (.int (nI i))] [] 83 (hi, hl, RT) 0 0 (fun r h' => r = some (.int (cntB (fun j => pGone hi (c + 6 + j)) N)) ∧ h' = (hi, hl, RT)) := by
  intro n
  induction n with
  | zero =>
    intro i h1 h2
    exact absurd h2 (by omega)
  | succ n ih =>
    intro i hi1 hi2 b hb
    refine g_iload_n dX0_goneOnes_4 rfl ?_
    refine g_aload_n dX0_goneOnes_5 rfl ?_
    refine g_geti dX0_goneOnes_6 k_X0_27 rfl hc.o.1 hc.o.2 ?_
    refine g_icmpge 38 dX0_goneOnes_9 (by decide) (fun c9 => ?_) (fun c9 => ?_)
    · skip
      have hiN : i = N := Nat.le_antisymm hi1 (ge_out hN c9 (by omega) (by omega))
      subst hiN
      refine g_iload_n dX0_goneOnes_38 rfl ?_
      exact g_ireturn dX0_goneOnes_39 rfl rfl ⟨by rw [hb], rfl⟩
    · skip
      have hlt : i < N := lt_in hN c9 (by omega) (by omega)
      have hi8 : i < 8 := by omega
      refine g_iload_n dX0_goneOnes_12 rfl ?_
      refine g_aload_n dX0_goneOnes_13 rfl ?_
      refine g_getr dX0_goneOnes_14 k_X0_11 rfl hc.o.1 hc.o.2 hc.people ?_
      refine g_iload_n dX0_goneOnes_17 rfl ?_
      refine g_aald dX0_goneOnes_18 hc.a1.1 hc.a1.2 rfl (by omega) (by decide) (hc.rp (by omega)) ?_
      refine g_callV0 dX0_goneOnes_19 l_X0_133 s_mX5_isGone (hc.p hi8).1 (hc.p hi8).2 rfl f_mX5_isGone (Nat.le_of_ble_eq_true rfl) (by decide) (ct_isGone hkv (hc.p hi8)) ?_
      rintro _ _ ⟨rfl, rfl⟩
      refine g_ifeq 29 dX0_goneOnes_22 (by decide) (fun c22 => ?_) (fun c22 => ?_)
      · skip
        refine g_iconst (v := 0) dX0_goneOnes_29 (by decide) ?_
        refine g_iadd dX0_goneOnes_30 ?_
        refine g_istore_n dX0_goneOnes_31 (by decide) rfl rfl ?_
        refine g_iinc dX0_goneOnes_32 rfl (nI_inc i) (by decide) rfl rfl ?_
        refine g_goto 4 dX0_goneOnes_35 (by decide) ?_
        exact ih (i + 1) (by omega) (by omega) _ (by rw [hb, cntB, bI_0.mp c22]; rfl)
      · skip
        refine g_iconst (v := 1) dX0_goneOnes_25 (by decide) ?_
        refine g_goto 30 dX0_goneOnes_26 (by decide) ?_
        refine g_iadd dX0_goneOnes_30 ?_
        refine g_istore_n dX0_goneOnes_31 (by decide) rfl rfl ?_
        refine g_iinc dX0_goneOnes_32 rfl (nI_inc i) (by decide) rfl rfl ?_
        refine g_goto 4 dX0_goneOnes_35 (by decide) ?_
        exact ih (i + 1) (by omega) (by omega) _ (by rw [hb, cntB, bI_n.mp c22]; rfl)

set_option maxRecDepth 100000 in
set_option maxHeartbeats 4000000 in
theorem ct_goneOnes (hkv : KV hi) {c : Nat} (hc : isC c) {N : Nat} (hN8 : N ≤ 8) (hN : hi c 3 = nI N) : MC E l 4 mX0_goneOnes [.ref c] 83 (hi, hl, RT) 0 0 (fun r h' => r = some (.int (cntB (fun j => pGone hi (c + 6 + j)) N)) ∧ h' = (hi, hl, RT)) := by
  refine MC.of [some (.ref c), none, none] (by decide) rfl (Nat.le_of_ble_eq_true rfl) ?_
  refine g_iconst (v := 0) dX0_goneOnes_0 (by decide) ?_
  refine g_istore_n dX0_goneOnes_1 (by decide) rfl rfl ?_
  refine g_iconst (v := 0) dX0_goneOnes_2 (by decide) ?_
  refine g_istore_n dX0_goneOnes_3 (by decide) rfl rfl ?_
  exact lp_goneOnes hkv hc hN8 hN (N + 1) 0 (by omega) (by omega) 0 rfl

set_option maxRecDepth 100000 in
set_option maxHeartbeats 4000000 in
theorem lp_couples {c : Nat} (hc : isC c) {F : Nat} (hF8 : F ≤ 8) (hF : hi c 2 = nI F) : ∀ (n i : Nat), i ≤ F → F + 1 ≤ i + n → ∀ (b : Int32), b = cntB (fun j => pTaken hi (c + 6 + j)) i → , G E l 4 mX0_couples 4 [some (.ref c), some (.int b), some (.int (nI i))] [] 83 (hi, hl, RT) 0 0 (fun r h' => r = some (.int (cntB (fun j => pTaken hi (c + 6 + j)) F)) ∧ h' = (hi, hl, RT)) := by
  intro n
  induction n with
  | zero =>
    intro i h1 h2
    exact absurd h2 (by omega)
  | succ n ih =>
    intro i hi1 hi2 b hb
    refine g_iload_n dX0_couples_4 rfl ?_
    refine g_aload_n dX0_couples_5 rfl ?_
    refine g_geti dX0_couples_6 k_X0_71 rfl hc.o.1 hc.o.2 ?_
    refine g_icmpge 38 dX0_couples_9 (by decide) (fun c9 => ?_) (fun c9 => ?_)
    · skip
      have hiN : i = F := Nat.le_antisymm hi1 (ge_out hF c9 (by omega) (by omega))
      subst hiN
      refine g_iload_n dX0_couples_38 rfl ?_
      exact g_ireturn dX0_couples_39 rfl rfl ⟨by rw [hb], rfl⟩
    · skip
      have hlt : i < F := lt_in hF c9 (by omega) (by omega)
      have hi8 : i < 8 := by omega
      refine g_iload_n dX0_couples_12 rfl ?_
      refine g_aload_n dX0_couples_13 rfl ?_
      refine g_getr dX0_couples_14 k_X0_11 rfl hc.o.1 hc.o.2 hc.people ?_
      refine g_iload_n dX0_couples_17 rfl ?_
      refine g_aald dX0_couples_18 hc.a1.1 hc.a1.2 rfl (by omega) (by decide) (hc.rp (by omega)) ?_
      refine g_callV0 dX0_couples_19 l_X0_129 s_mX5_isTaken (hc.p hi8).1 (hc.p hi8).2 rfl f_mX5_isTaken (Nat.le_of_ble_eq_true rfl) (by decide) (ct_isTaken (hc.p hi8)) ?_
      rintro _ _ ⟨rfl, rfl⟩
      refine g_ifeq 29 dX0_couples_22 (by decide) (fun c22 => ?_) (fun c22 => ?_)
      · skip
        refine g_iconst (v := 0) dX0_couples_29 (by decide) ?_
        refine g_iadd dX0_couples_30 ?_
        refine g_istore_n dX0_couples_31 (by decide) rfl rfl ?_
        refine g_iinc dX0_couples_32 rfl (nI_inc i) (by decide) rfl rfl ?_
        refine g_goto 4 dX0_couples_35 (by decide) ?_
        exact ih (i + 1) (by omega) (by omega) _ (by rw [hb, cntB, bI_0.mp c22]; rfl)
      · skip
        refine g_iconst (v := 1) dX0_couples_25 (by decide) ?_
        refine g_goto 30 dX0_couples_26 (by decide) ?_
        refine g_iadd dX0_couples_30 ?_
        refine g_istore_n dX0_couples_31 (by decide) rfl rfl ?_
        refine g_iinc dX0_couples_32 rfl (nI_inc i) (by decide) rfl rfl ?_
        refine g_goto 4 dX0_couples_35 (by decide) ?_
        exact ih (i + 1) (by omega) (by omega) _ (by rw [hb, cntB, bI_n.mp c22]; rfl)

set_option maxRecDepth 100000 in
set_option maxHeartbeats 4000000 in
theorem ct_couples {c : Nat} (hc : isC c) {F : Nat} (hF8 : F ≤ 8) (hF : hi c 2 = nI F) : MC E l 4 mX0_couples [.ref c] 83 (hi, hl, RT) 0 0 (fun r h' => r = some (.int (cntB (fun j => pTaken hi (c + 6 + j)) F)) ∧ h' = (hi, hl, RT)) := by
  refine MC.of [some (.ref c), none, none] (by decide) rfl (Nat.le_of_ble_eq_true rfl) ?_
  refine g_iconst (v := 0) dX0_couples_0 (by decide) ?_
  refine g_istore_n dX0_couples_1 (by decide) rfl rfl ?_
  refine g_iconst (v := 0) dX0_couples_2 (by decide) ?_
  refine g_istore_n dX0_couples_3 (by decide) rfl rfl ?_
  exact lp_couples hc hF8 hF (F + 1) 0 (by omega) (by omega) 0 rfl

end
