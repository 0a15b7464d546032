section
variable {E : XE} {l : Launch} {hi : Nat → Nat → Int32} {hl : Nat → Nat → Int64}

set_option maxRecDepth 100000 in
set_option maxHeartbeats 4000000 in
theorem lp_matches {N F : Nat} (hj : MO7 hi N F) : ∀ (n i : Nat), i ≤ F → F + 1 ≤ i + n → ∀ (b : Int32), b = sumI (fun k => szF (orB (fun q => vMatch (vm hi N F) k q) bitI N)) i → G E l 6 mX10_matches 4 [some (.ref 53), some (.int b), some (.int (nI i))] [] 83 (hi, hl, RT) 0 0 (fun r h' => r = some (.int (sumI (fun k => szF (orB (fun q => vMatch (vm hi N F) k q) bitI N)) F)) ∧ h' = (hi, hl, RT)) := by
  intro n
  induction n with
  | zero =>
    intro i h1 h2
    exact absurd h2 (by omega)
  | succ n ih =>
    intro i hi1 hi2 b hb
    have hN8 := hj.1
    have hFN := hj.2.1
    refine g_iload_n dX10_matches_4 rfl ?_
    refine g_aload_n dX10_matches_5 rfl ?_
    refine g_geti dX10_matches_6 k_X10_137 rfl (by decide) rfl ?_
    refine g_icmpge 29 dX10_matches_9 (by decide) (fun c9 => ?_) (fun c9 => ?_)
    · skip
      have hiN : i = F := Nat.le_antisymm hi1 (ge_out hj.2.2.2 c9 (by omega) (by omega))
      subst hiN
      refine g_iload_n dX10_matches_29 rfl ?_
      exact g_ireturn dX10_matches_30 rfl rfl ⟨by rw [hb], rfl⟩
    · skip
      have hlt : i < F := lt_in hj.2.2.2 c9 (by omega) (by omega)
      refine g_iload_n dX10_matches_12 rfl ?_
      refine g_aload_n dX10_matches_13 rfl ?_
      refine g_iload_n dX10_matches_14 rfl ?_
      refine g_callV1 (M' := mX10_matchedWith) (mc' := 0) (ms' := 0) dX10_matches_15 l_X10_192 s_mX10_matchedWith (by decide) rfl rfl f_mX10_matchedWith (Nat.le_of_ble_eq_true rfl) (by decide) (ct_mMatchedWith hj (by omega)) ?_
      rintro _ _ ⟨rfl, rfl⟩
      refine g_callS1 (M' := mX10_size) (mc' := 0) (ms' := 0) dX10_matches_18 l_X10_279 s_mX10_size f_mX10_size (Nat.le_of_ble_eq_true rfl) (by decide) (ct_size _) ?_
      rintro _ _ ⟨rfl, rfl⟩
      refine g_iadd dX10_matches_21 ?_
      refine g_istore_n dX10_matches_22 (by decide) rfl rfl ?_
      refine g_iinc dX10_matches_23 rfl (nI_inc i) (by decide) rfl rfl ?_
      refine g_goto 4 dX10_matches_26 (by decide) ?_
      exact ih (i + 1) (by omega) (by omega) _ (by rw [hb, sumI])

set_option maxRecDepth 100000 in
set_option maxHeartbeats 4000000 in
theorem ct_matches {N F : Nat} (hj : MO7 hi N F) : MC E l 6 mX10_matches [.ref 53] 83 (hi, hl, RT) 0 0 (fun r h' => r = some (.int (sumI (fun k => szF (orB (fun q => vMatch (vm hi N F) k q) bitI N)) F)) ∧ h' = (hi, hl, RT)) := by
  refine MC.of [some (.ref 53), none, none] (by decide) rfl (Nat.le_of_ble_eq_true rfl) ?_
  refine g_iconst (v := 0) dX10_matches_0 (by decide) ?_
  refine g_istore_n dX10_matches_1 (by decide) rfl rfl ?_
  refine g_iconst (v := 0) dX10_matches_2 (by decide) ?_
  refine g_istore_n dX10_matches_3 (by decide) rfl rfl ?_
  exact lp_matches hj (F + 1) 0 (by omega) (by omega) 0 rfl

set_option maxRecDepth 100000 in
set_option maxHeartbeats 4000000 in
theorem ct_wouldLike {N F : Nat} (hj : MO7 hi N F) {i j : Nat} (hi1 : i < N) (hj1 : j < N) (x : Int32) : MC E l 2 mX10_wouldLike [.ref 53, .int (nI i), .int x, .int (nI j)] 83 (hi, hl, RT) 0 0 (fun r h' => r = some (.int (bI (vCont (vm hi N F) i x (vPic (vm hi N F) j)))) ∧ h' = (hi, hl, RT)) := by
  refine MC.of [some (.ref 53), some (.int (nI i)), some (.int x), some (.int (nI j))] (by decide) rfl (Nat.le_of_ble_eq_true rfl) ?_
  have hj0 := hj
  obtain ⟨hN8, hFN, hN, hF⟩ := hj
  have eci : (nI i).toNatClampNeg = i := nI_clamp (by omega)
  have m2i := m_2 (hi := hi) (F := F) hi1
  refine g_aload_n dX10_wouldLike_0 rfl ?_
  refine g_getr dX10_wouldLike_1 k_X10_7 rfl (by decide) rfl rfl ?_
  refine g_iload_n dX10_wouldLike_4 rfl ?_
  refine g_iald dX10_wouldLike_5 (by decide) rfl (vp_in_nI (by omega) (by decide)) ?_
  refine g_iconst (v := 1) dX10_wouldLike_6 (by decide) ?_
  refine g_icmpeq 19 dX10_wouldLike_7 (by decide) (fun c7 => ?_) (fun c7 => ?_)
  · skip
    refine g_iconst (v := 1) dX10_wouldLike_19 (by decide) ?_
    refine g_goto 24 dX10_wouldLike_20 (by decide) ?_
    exact g_ireturn dX10_wouldLike_24 rfl rfl ⟨by simp_all [bI, vCont], rfl⟩
  · skip
    refine g_aload_n dX10_wouldLike_10 rfl ?_
    refine g_iload_n dX10_wouldLike_11 rfl ?_
    refine g_callV1 (M' := mX10_picture) (mc' := 0) (ms' := 0) dX10_wouldLike_12 l_X10_177 s_mX10_picture (by decide) rfl rfl f_mX10_picture (Nat.le_of_ble_eq_true rfl) (by decide) (ct_mPic hj0 hj1) ?_
    rintro _ _ ⟨rfl, rfl⟩
    refine g_iload_n dX10_wouldLike_15 rfl ?_
    refine g_icmplt 23 dX10_wouldLike_16 (by decide) (fun c16 => ?_) (fun c16 => ?_)
    · skip
      refine g_iconst (v := 0) dX10_wouldLike_23 (by decide) ?_
      exact g_ireturn dX10_wouldLike_24 rfl rfl ⟨by simp_all [bI, vCont], rfl⟩
    · skip
      refine g_iconst (v := 1) dX10_wouldLike_19 (by decide) ?_
      refine g_goto 24 dX10_wouldLike_20 (by decide) ?_
      exact g_ireturn dX10_wouldLike_24 rfl rfl ⟨by simp_all [bI, vCont], rfl⟩

/-- what one thing seen says, in the sea's words -/
def sOkV (v : VV) (s1 s2 s3 : Nat → Int32) (i : Nat) (x : Int32) (k : Nat) : Bool := !(decide (s1 k = nI i) && !decide (bI (vCont v i x (vPic v (s2 k).toNatClampNeg)) = s3 k))
def chV (v : VV) (s1 s2 s3 : Nat → Int32) (S i : Nat) : Int32 := orB (fun c => allB (sOkV v s1 s2 s3 i (nI c)) S) bitI 10
/-- what was seen is of people, yes or no -/
def SE (s2 s3 : Nat → Int32) (S N : Nat) : Prop := S ≤ 8 ∧ ∀ k, k < S → (∃ j : Nat, j < N ∧ s2 k = nI j) ∧ (s3 k = 0 ∨ s3 k = 1)

set_option maxRecDepth 100000 in
set_option maxHeartbeats 4000000 in
theorem lp_choIn {N F : Nat} (hj : MO7 hi N F) {S : Nat} (hse : SE (hi 64) (hi 65) S N) (hS : hi 53 18 = nI S) {i c : Nat} (hi1 : i < N) (hc : c < 10) (b : Int32) (hk : ∀ l5, xcat2 l5 = false → G E l 6 mX10_choosiesOf 86 [some (.ref 53), some (.int (nI i)), some (.int b), some (.int (nI c)), some (.int (bI (allB (sOkV (vm hi N F) (hi 63) (hi 64) (hi 65) i (nI c)) S))), l5] [] 83 (hi, hl, RT) 0 0 (fun r h' => r = some (.int (orB (fun c => allB (sOkV (vm hi N F) (hi 63) (hi 64) (hi 65) i (nI c)) S) bitI 10)) ∧ h' = (hi, hl, RT))) : ∀ (n k : Nat), k + n = S → G E l 6 mX10_choosiesOf 16 [some (.ref 53), some (.int (nI i)), some (.int b), some (.int (nI c)), some (.int (bI (allB (sOkV (vm hi N F) (hi 63) (hi 64) (hi 65) i (nI c)) k))), some (.int (nI k))] [] 83 (hi, hl, RT) 0 0 (fun r h' => r = some (.int (orB (fun c => allB (sOkV (vm hi N F) (hi 63) (hi 64) (hi 65) i (nI c)) S) bitI 10)) ∧ h' = (hi, hl, RT)) := by
  have hj0 := hj
  obtain ⟨hN8, hFN, hN, hF⟩ := hj
  obtain ⟨hS8, hse⟩ := hse
  intro n
  induction n with
  | zero =>
    intro k hkn
    have hkS : k = S := by omega
    subst hkS
    refine g_iload dX10_choosiesOf_16 rfl ?_
    refine g_aload_n dX10_choosiesOf_18 rfl ?_
    refine g_geti dX10_choosiesOf_19 k_X10_164 rfl (by decide) rfl ?_
    refine g_icmpge 86 dX10_choosiesOf_22 (by decide) (fun c22 => ?_) (fun c22 => ?_)
    · skip
      exact hk _ rfl
    · skip
      exact absurd (by show hi 53 18 ≤ nI k; rw [hS]; exact nI_le (Nat.le_refl _) (by omega)) c22
  | succ n ih =>
    intro k hkn
    have eck : (nI k).toNatClampNeg = k := nI_clamp (by omega)
    obtain ⟨⟨j, hj1, hjs⟩, hs3⟩ := hse k (by omega)
    have ecj : (nI j).toNatClampNeg = j := nI_clamp (by omega)
    have ex2 : (hi, hl, RT).1 64 (nI k).toNatClampNeg = nI j := by rw [eck]; exact hjs
    have ex3 : (hi, hl, RT).1 65 (nI k).toNatClampNeg = hi 65 k := by rw [eck]
    have ex1 : (hi, hl, RT).1 63 (nI k).toNatClampNeg = hi 63 k := by rw [eck]
    refine g_iload dX10_choosiesOf_16 rfl ?_
    refine g_aload_n dX10_choosiesOf_18 rfl ?_
    refine g_geti dX10_choosiesOf_19 k_X10_164 rfl (by decide) rfl ?_
    refine g_icmpge 86 dX10_choosiesOf_22 (by decide) (fun c22 => ?_) (fun c22 => ?_)
    · skip
      exact absurd (ge_out hS c22 (by omega) (by omega)) (by omega)
    · skip
      refine g_iload dX10_choosiesOf_25 rfl ?_
      refine g_ifeq 77 dX10_choosiesOf_27 (by decide) (fun c27 => ?_) (fun c27 => ?_)
      · skip
        refine g_iconst (v := 0) dX10_choosiesOf_77 (by decide) ?_
        refine g_istore dX10_choosiesOf_78 (by decide) rfl rfl ?_
        refine g_iinc dX10_choosiesOf_80 rfl (nI_inc k) (by decide) rfl rfl ?_
        refine g_goto 16 dX10_choosiesOf_83 (by decide) ?_
        have hz : allB (sOkV (vm hi N F) (hi 63) (hi 64) (hi 65) i (nI c)) (k + 1) = false := by
          rw [allB, bI_0.mp c27]; rfl
        rw [show (0 : Int32) = bI (allB (sOkV (vm hi N F) (hi 63) (hi 64) (hi 65) i (nI c)) (k + 1)) from by rw [hz]; rfl]
        exact ih (k + 1) (by omega)
      · skip
        refine g_aload_n dX10_choosiesOf_30 rfl ?_
        refine g_getr dX10_choosiesOf_31 k_X10_37 rfl (by decide) rfl rfl ?_
        refine g_iload dX10_choosiesOf_34 rfl ?_
        refine g_iald dX10_choosiesOf_36 (by decide) rfl (vp_in_nI (by omega) (by decide)) ?_
        refine g_iload_n dX10_choosiesOf_37 rfl ?_
        refine g_icmpne 73 dX10_choosiesOf_38 (by decide) (fun c38 => ?_) (fun c38 => ?_)
        · skip
          refine g_iconst (v := 1) dX10_choosiesOf_73 (by decide) ?_
          refine g_goto 78 dX10_choosiesOf_74 (by decide) ?_
          refine g_istore dX10_choosiesOf_78 (by decide) rfl rfl ?_
          refine g_iinc dX10_choosiesOf_80 rfl (nI_inc k) (by decide) rfl rfl ?_
          refine g_goto 16 dX10_choosiesOf_83 (by decide) ?_
          have hz : allB (sOkV (vm hi N F) (hi 63) (hi 64) (hi 65) i (nI c)) (k + 1) = true := by
            rw [allB, bI_n.mp c27, Bool.true_and]
            have z : ¬ hi 63 k = nI i := by rw [← ex1]; exact c38
            simp [sOkV, z]
          rw [show (1 : Int32) = bI (allB (sOkV (vm hi N F) (hi 63) (hi 64) (hi 65) i (nI c)) (k + 1)) from by rw [hz]; rfl]
          exact ih (k + 1) (by omega)
        · skip
          refine g_aload_n dX10_choosiesOf_41 rfl ?_
          refine g_iload_n dX10_choosiesOf_42 rfl ?_
          refine g_iload_n dX10_choosiesOf_43 rfl ?_
          refine g_aload_n dX10_choosiesOf_44 rfl ?_
          refine g_getr dX10_choosiesOf_45 k_X10_40 rfl (by decide) rfl rfl ?_
          refine g_iload dX10_choosiesOf_48 rfl ?_
          refine g_iald dX10_choosiesOf_50 (by decide) rfl (vp_in_nI (by omega) (by decide)) ?_
          rw [ex2]
          refine g_callV3 (M' := mX10_wouldLike) (mc' := 0) (ms' := 0) dX10_choosiesOf_51 l_X10_307 s_mX10_wouldLike (by decide) rfl rfl f_mX10_wouldLike (Nat.le_of_ble_eq_true rfl) (by decide) (ct_wouldLike hj0 hi1 hj1 _) ?_
          rintro _ _ ⟨rfl, rfl⟩
          refine g_aload_n dX10_choosiesOf_54 rfl ?_
          refine g_getr dX10_choosiesOf_55 k_X10_43 rfl (by decide) rfl rfl ?_
          refine g_iload dX10_choosiesOf_58 rfl ?_
          refine g_iald dX10_choosiesOf_60 (by decide) rfl (vp_in_nI (by omega) (by decide)) ?_
          refine g_iconst (v := 1) dX10_choosiesOf_61 (by decide) ?_
          refine g_icmpne 69 dX10_choosiesOf_62 (by decide) (fun c62 => ?_) (fun c62 => ?_)
          · skip
            refine g_iconst (v := 0) dX10_choosiesOf_69 (by decide) ?_
            refine g_icmpne 77 dX10_choosiesOf_70 (by decide) (fun c70 => ?_) (fun c70 => ?_)
            · skip
              refine g_iconst (v := 0) dX10_choosiesOf_77 (by decide) ?_
              refine g_istore dX10_choosiesOf_78 (by decide) rfl rfl ?_
              refine g_iinc dX10_choosiesOf_80 rfl (nI_inc k) (by decide) rfl rfl ?_
              refine g_goto 16 dX10_choosiesOf_83 (by decide) ?_
              have hz : allB (sOkV (vm hi N F) (hi 63) (hi 64) (hi 65) i (nI c)) (k + 1) = false := by
                rw [allB, bI_n.mp c27, Bool.true_and]
                have z1 : hi 63 k = nI i := by rw [← ex1]; exact c38
                have z2 : (hi 64 k).toNatClampNeg = j := by rw [hjs, ecj]
                have z3 : hi 65 k = 0 := hs3.resolve_right (by rw [← ex3]; exact c62)
                simp [sOkV, z1, z2, z3, c70]
              rw [show (0 : Int32) = bI (allB (sOkV (vm hi N F) (hi 63) (hi 64) (hi 65) i (nI c)) (k + 1)) from by rw [hz]; rfl]
              exact ih (k + 1) (by omega)
            · skip
              refine g_iconst (v := 1) dX10_choosiesOf_73 (by decide) ?_
              refine g_goto 78 dX10_choosiesOf_74 (by decide) ?_
              refine g_istore dX10_choosiesOf_78 (by decide) rfl rfl ?_
              refine g_iinc dX10_choosiesOf_80 rfl (nI_inc k) (by decide) rfl rfl ?_
              refine g_goto 16 dX10_choosiesOf_83 (by decide) ?_
              have hz : allB (sOkV (vm hi N F) (hi 63) (hi 64) (hi 65) i (nI c)) (k + 1) = true := by
                rw [allB, bI_n.mp c27, Bool.true_and]
                have z1 : hi 63 k = nI i := by rw [← ex1]; exact c38
                have z2 : (hi 64 k).toNatClampNeg = j := by rw [hjs, ecj]
                have z3 : hi 65 k = 0 := hs3.resolve_right (by rw [← ex3]; exact c62)
                simp [sOkV, z1, z2, z3, c70]
              rw [show (1 : Int32) = bI (allB (sOkV (vm hi N F) (hi 63) (hi 64) (hi 65) i (nI c)) (k + 1)) from by rw [hz]; rfl]
              exact ih (k + 1) (by omega)
          · skip
            refine g_iconst (v := 1) dX10_choosiesOf_65 (by decide) ?_
            refine g_goto 70 dX10_choosiesOf_66 (by decide) ?_
            refine g_icmpne 77 dX10_choosiesOf_70 (by decide) (fun c70 => ?_) (fun c70 => ?_)
            · skip
              refine g_iconst (v := 0) dX10_choosiesOf_77 (by decide) ?_
              refine g_istore dX10_choosiesOf_78 (by decide) rfl rfl ?_
              refine g_iinc dX10_choosiesOf_80 rfl (nI_inc k) (by decide) rfl rfl ?_
              refine g_goto 16 dX10_choosiesOf_83 (by decide) ?_
              have hz : allB (sOkV (vm hi N F) (hi 63) (hi 64) (hi 65) i (nI c)) (k + 1) = false := by
                rw [allB, bI_n.mp c27, Bool.true_and]
                have z1 : hi 63 k = nI i := by rw [← ex1]; exact c38
                have z2 : (hi 64 k).toNatClampNeg = j := by rw [hjs, ecj]
                have z3 : hi 65 k = 1 := by rw [← ex3]; exact c62
                simp [sOkV, z1, z2, z3, c70]
              rw [show (0 : Int32) = bI (allB (sOkV (vm hi N F) (hi 63) (hi 64) (hi 65) i (nI c)) (k + 1)) from by rw [hz]; rfl]
              exact ih (k + 1) (by omega)
            · skip
              refine g_iconst (v := 1) dX10_choosiesOf_73 (by decide) ?_
              refine g_goto 78 dX10_choosiesOf_74 (by decide) ?_
              refine g_istore dX10_choosiesOf_78 (by decide) rfl rfl ?_
              refine g_iinc dX10_choosiesOf_80 rfl (nI_inc k) (by decide) rfl rfl ?_
              refine g_goto 16 dX10_choosiesOf_83 (by decide) ?_
              have hz : allB (sOkV (vm hi N F) (hi 63) (hi 64) (hi 65) i (nI c)) (k + 1) = true := by
                rw [allB, bI_n.mp c27, Bool.true_and]
                have z1 : hi 63 k = nI i := by rw [← ex1]; exact c38
                have z2 : (hi 64 k).toNatClampNeg = j := by rw [hjs, ecj]
                have z3 : hi 65 k = 1 := by rw [← ex3]; exact c62
                simp [sOkV, z1, z2, z3, c70]
              rw [show (1 : Int32) = bI (allB (sOkV (vm hi N F) (hi 63) (hi 64) (hi 65) i (nI c)) (k + 1)) from by rw [hz]; rfl]
              exact ih (k + 1) (by omega)

set_option maxRecDepth 100000 in
set_option maxHeartbeats 4000000 in
theorem lp_cho {N F : Nat} (hj : MO7 hi N F) {S : Nat} (hse : SE (hi 64) (hi 65) S N) (hS : hi 53 18 = nI S) {i : Nat} (hi1 : i < N) : ∀ (n c : Nat) (b : Int32) (l4 l5 : Option Value), c + n = 10 → xcat2 l4 = false → xcat2 l5 = false → b = orB (fun c => allB (sOkV (vm hi N F) (hi 63) (hi 64) (hi 65) i (nI c)) S) bitI c → G E l 6 mX10_choosiesOf 4 [some (.ref 53), some (.int (nI i)), some (.int b), some (.int (nI c)), l4, l5] [] 83 (hi, hl, RT) 0 0 (fun r h' => r = some (.int (orB (fun c => allB (sOkV (vm hi N F) (hi 63) (hi 64) (hi 65) i (nI c)) S) bitI 10)) ∧ h' = (hi, hl, RT)) := by
  intro n
  induction n with
  | zero =>
    intro c b l4 l5 hcn hx4 hx5 hb
    have hc10 : c = 10 := by omega
    subst hc10
    refine g_iload_n dX10_choosiesOf_4 rfl ?_
    refine g_bipush (v := 9) dX10_choosiesOf_5 (by decide) ?_
    refine g_icmpgt 107 dX10_choosiesOf_7 (by decide) (fun c7 => ?_) (fun c7 => ?_)
    · skip
      refine g_iload_n dX10_choosiesOf_107 rfl ?_
      exact g_ireturn dX10_choosiesOf_108 rfl rfl ⟨by rw [hb], rfl⟩
    · skip
      exact absurd (by decide) c7
  | succ n ih =>
    intro c b l4 l5 hcn hx4 hx5 hb
    refine g_iload_n dX10_choosiesOf_4 rfl ?_
    refine g_bipush (v := 9) dX10_choosiesOf_5 (by decide) ?_
    refine g_icmpgt 107 dX10_choosiesOf_7 (by decide) (fun c7 => ?_) (fun c7 => ?_)
    · skip
      exact absurd ((nI_ltI (a := 9) (by decide) (by omega)).mp c7) (by omega)
    · skip
      refine g_iconst (v := 1) dX10_choosiesOf_10 (by decide) ?_
      refine g_istore dX10_choosiesOf_11 (by decide) rfl rfl ?_
      refine g_iconst (v := 0) dX10_choosiesOf_13 (by decide) ?_
      refine g_istore dX10_choosiesOf_14 (by decide) rfl rfl ?_
      refine lp_choIn hj hse hS hi1 (by omega) b (fun l2 hx2 => ?_) S 0 (by omega)
      refine g_iload_n dX10_choosiesOf_86 rfl ?_
      refine g_iload dX10_choosiesOf_87 rfl ?_
      refine g_ifeq 98 dX10_choosiesOf_89 (by decide) (fun c89 => ?_) (fun c89 => ?_)
      · skip
        refine g_iconst (v := 0) dX10_choosiesOf_98 (by decide) ?_
        refine g_ior dX10_choosiesOf_99 ?_
        refine g_istore_n dX10_choosiesOf_100 (by decide) rfl rfl ?_
        refine g_iinc dX10_choosiesOf_101 rfl (nI_inc c) (by decide) rfl rfl ?_
        refine g_goto 4 dX10_choosiesOf_104 (by decide) ?_
        exact ih (c + 1) _ _ _ (by omega) rfl hx2 (by rw [hb]; rw [orB_n (P := fun c => allB (sOkV (vm hi N F) (hi 63) (hi 64) (hi 65) i (nI c)) S) (bI_0.mp c89), or0])
      · skip
        refine g_iconst (v := 1) dX10_choosiesOf_92 (by decide) ?_
        refine g_iload_n dX10_choosiesOf_93 rfl ?_
        refine g_ishl dX10_choosiesOf_94 ?_
        refine g_goto 99 dX10_choosiesOf_95 (by decide) ?_
        refine g_ior dX10_choosiesOf_99 ?_
        refine g_istore_n dX10_choosiesOf_100 (by decide) rfl rfl ?_
        refine g_iinc dX10_choosiesOf_101 rfl (nI_inc c) (by decide) rfl rfl ?_
        refine g_goto 4 dX10_choosiesOf_104 (by decide) ?_
        exact ih (c + 1) _ _ _ (by omega) rfl hx2 (by rw [hb]; exact (orB_y (P := fun c => allB (sOkV (vm hi N F) (hi 63) (hi 64) (hi 65) i (nI c)) S) (w := bitI) (bI_n.mp c89)).symm)

set_option maxRecDepth 100000 in
set_option maxHeartbeats 4000000 in
theorem ct_mChoosies {N F : Nat} (hj : MO7 hi N F) {S : Nat} (hse : SE (hi 64) (hi 65) S N) (hS : hi 53 18 = nI S) {i : Nat} (hi1 : i < N) : MC E l 6 mX10_choosiesOf [.ref 53, .int (nI i)] 83 (hi, hl, RT) 0 0 (fun r h' => r = some (.int (chV (vm hi N F) (hi 63) (hi 64) (hi 65) S i)) ∧ h' = (hi, hl, RT)) := by
  refine MC.of [some (.ref 53), some (.int (nI i)), none, none, none, none] (by decide) rfl (Nat.le_of_ble_eq_true rfl) ?_
  refine g_iconst (v := 0) dX10_choosiesOf_0 (by decide) ?_
  refine g_istore_n dX10_choosiesOf_1 (by decide) rfl rfl ?_
  refine g_iconst (v := 0) dX10_choosiesOf_2 (by decide) ?_
  refine g_istore_n dX10_choosiesOf_3 (by decide) rfl rfl ?_
  exact lp_cho hj hse hS hi1 10 0 0 none none (by omega) rfl rfl rfl

end
