section
variable {E : XE} {l : Launch} {hi : Nat → Nat → Int32} {hl : Nat → Nat → Int64}

set_option maxRecDepth 100000 in
set_option maxHeartbeats 4000000 in
theorem ct_sclear {c : Nat} (hc : isC c) : MC E l 1 mX6_clear [.ref (c + 2)] 83 (hi, hl, RT) 0 0 (fun r h' => r = none ∧ h' = (upI hi (c + 2) 3 0, hl, RT)) := by
  refine MC.of [some (.ref (c + 2))] (by decide) rfl (Nat.le_of_ble_eq_true rfl) ?_
  refine g_aload_n dX6_clear_0 rfl ?_
  refine g_iconst (v := 0) dX6_clear_1 (by decide) ?_
  refine g_puti dX6_clear_2 k_X6_22 rfl hc.o2.1 hc.o2.2 rfl rfl ?_
  exact g_return dX6_clear_5 rfl ⟨rfl, rfl⟩

set_option maxRecDepth 100000 in
set_option maxHeartbeats 4000000 in
theorem ct_sadd {c : Nat} (hc : isC c) {S : Nat} (hS8 : S ≤ 8) (hS : hi (c + 2) 3 = nI S) (x y b : Int32) : MC E l 1 mX6_add [.ref (c + 2), .int x, .int y, .int b] 83 (hi, hl, RT) 0 0 (fun r h' => (S = 8 ∧ r = some (.int 0) ∧ h' = (hi, hl, RT)) ∨ (S < 8 ∧ r = some (.int 1) ∧ h' = (upI (upI (upI (upI hi (c + 3) S x) (c + 4) S y) (c + 5) S (vp_nar .boolean b)) (c + 2) 3 (nI (S + 1)), hl, RT))) := by
  refine MC.of [some (.ref (c + 2)), some (.int x), some (.int y), some (.int b)] (by decide) rfl (Nat.le_of_ble_eq_true rfl) ?_
  refine g_aload_n dX6_add_0 rfl ?_
  refine g_geti dX6_add_1 k_X6_22 rfl hc.o2.1 hc.o2.2 ?_
  refine g_bipush (v := 8) dX6_add_4 (by decide) ?_
  refine g_icmplt 11 dX6_add_6 (by decide) (fun c6 => ?_) (fun c6 => ?_)
  · skip
    have hlt : S < 8 := (nI_ltI (by omega) (by decide)).mp (hS ▸ c6)
    have e0 : (hi (c + 2) 3).toNatClampNeg = S := by rw [hS]; exact nI_clamp (by omega)
    have hv : vp_in (hi (c + 2) 3) 8 := by rw [hS]; exact vp_in_nI hlt (by decide)
    refine g_aload_n dX6_add_11 rfl ?_
    refine g_getr dX6_add_12 k_X6_9 rfl hc.o2.1 hc.o2.2 hc.r3 ?_
    refine g_aload_n dX6_add_15 rfl ?_
    refine g_geti dX6_add_16 k_X6_22 rfl hc.o2.1 hc.o2.2 ?_
    refine g_iload_n dX6_add_19 rfl ?_
    refine g_iast dX6_add_20 hc.a3.1 hc.a3.2 hv ?_
    refine g_aload_n dX6_add_21 rfl ?_
    refine g_getr dX6_add_22 k_X6_15 rfl hc.o2.1 hc.o2.2 hc.r4 ?_
    refine g_aload_n dX6_add_25 rfl ?_
    refine g_geti dX6_add_26 k_X6_22 rfl hc.o2.1 hc.o2.2 ?_
    refine g_iload_n dX6_add_29 rfl ?_
    refine g_iast dX6_add_30 hc.a4.1 hc.a4.2 (by show vp_in (upI _ _ _ _ _ _) 8; rw [upI_a (by omega)]; exact hv) ?_
    refine g_aload_n dX6_add_31 rfl ?_
    refine g_getr dX6_add_32 k_X6_18 rfl hc.o2.1 hc.o2.2 hc.r5 ?_
    refine g_aload_n dX6_add_35 rfl ?_
    refine g_geti dX6_add_36 k_X6_22 rfl hc.o2.1 hc.o2.2 ?_
    refine g_iload_n dX6_add_39 rfl ?_
    refine g_zast dX6_add_40 hc.a5.1 hc.a5.2 (by show vp_in (upI _ _ _ _ _ _) 8; rw [upI_a (by omega)]; show vp_in (upI _ _ _ _ _ _) 8; rw [upI_a (by omega)]; exact hv) ?_
    refine g_aload_n dX6_add_41 rfl ?_
    refine g_dup dX6_add_42 rfl ?_
    refine g_geti dX6_add_43 k_X6_22 rfl hc.o2.1 hc.o2.2 ?_
    refine g_iconst (v := 1) dX6_add_46 (by decide) ?_
    refine g_iadd dX6_add_47 ?_
    refine g_puti dX6_add_48 k_X6_22 rfl hc.o2.1 hc.o2.2 rfl rfl ?_
    refine g_iconst (v := 1) dX6_add_51 (by decide) ?_
    exact g_ireturn dX6_add_52 rfl rfl (Or.inr ⟨hlt, rfl, by
      have n1 : ¬ c + 2 = c + 3 := by omega
      have n2 : ¬ c + 2 = c + 4 := by omega
      have n3 : ¬ c + 2 = c + 5 := by omega
      have ecl : (nI S).toNatClampNeg = S := nI_clamp (by omega)
      simp only [upI_a n1, upI_a n2, upI_a n3, hS, ecl, nI_1]⟩)
  · skip
    have hge : ¬ S < 8 := fun q => c6 (by show hi (c + 2) 3 < nI 8; rw [hS]; exact nI_lt q (by decide))
    refine g_iconst (v := 0) dX6_add_9 (by decide) ?_
    exact g_ireturn dX6_add_10 rfl rfl (Or.inl ⟨by omega, rfl, rfl⟩)

/-- what one thing seen says of a choosiness -/
def sOk (hi : Nat → Nat → Int32) (c p : Nat) (x : Int32) (k : Nat) : Bool := !(decide (hi (c + 3) k = hi p 0) && (!decide (hi (c + 4) k < 0) && (!decide (8 ≤ hi (c + 4) k) && !decide (bI (pCont hi p x (pPic hi (c + 6 + (hi (c + 4) k).toNatClampNeg))) = hi (c + 5) k))))

set_option maxRecDepth 100000 in
set_option maxHeartbeats 4000000 in
theorem lp_isSoFor (hkv : KV hi) {c : Nat} (hc : isC c) {S : Nat} (hS8 : S ≤ 8) (hS : hi (c + 2) 3 = nI S) {p : Nat} (hp : XO 3 p) (x : Int32) : ∀ (n i : Nat), i ≤ S → S + 1 ≤ i + n → ∀ (l5 : Option Value), xcat2 l5 = false → allB (sOk hi c p x) i = true → G E l 3 mX6_isSoFor 3 [some (.ref (c + 2)), some (.ref p), some (.int x), some (.ref (c + 1)), some (.int (nI i)), l5] [] 83 (hi, hl, RT) 0 0 (fun r h' => r = some (.int (bI (allB (sOk hi c p x) S))) ∧ h' = (hi, hl, RT)) := by
  intro n
  induction n with
  | zero =>
    intro i h1 h2
    exact absurd h2 (by omega)
  | succ n ih =>
    intro i hi1 hi2 l5 hl5 hal
    refine g_iload dX6_isSoFor_3 rfl ?_
    refine g_aload_n dX6_isSoFor_5 rfl ?_
    refine g_geti dX6_isSoFor_6 k_X6_22 rfl hc.o2.1 hc.o2.2 ?_
    refine g_icmpge 77 dX6_isSoFor_9 (by decide) (fun c9 => ?_) (fun c9 => ?_)
    · skip
      have hiN : i = S := Nat.le_antisymm hi1 (ge_out hS c9 (by omega) (by omega))
      subst hiN
      refine g_iconst (v := 1) dX6_isSoFor_77 (by decide) ?_
      exact g_ireturn dX6_isSoFor_78 rfl rfl ⟨by rw [hal]; rfl, rfl⟩
    · skip
      have hlt : i < S := lt_in hS c9 (by omega) (by omega)
      have hi8 : i < 8 := by omega
      have ecl : (nI i).toNatClampNeg = i := nI_clamp (by omega)
      refine g_aload_n dX6_isSoFor_12 rfl ?_
      refine g_getr dX6_isSoFor_13 k_X6_15 rfl hc.o2.1 hc.o2.2 hc.r4 ?_
      refine g_iload dX6_isSoFor_16 rfl ?_
      refine g_iald dX6_isSoFor_18 hc.a4.1 hc.a4.2 (vp_in_nI hi8 (by decide)) ?_
      refine g_istore dX6_isSoFor_19 (by decide) rfl rfl ?_
      refine g_aload_n dX6_isSoFor_21 rfl ?_
      refine g_getr dX6_isSoFor_22 k_X6_9 rfl hc.o2.1 hc.o2.2 hc.r3 ?_
      refine g_iload dX6_isSoFor_25 rfl ?_
      refine g_iald dX6_isSoFor_27 hc.a3.1 hc.a3.2 (vp_in_nI hi8 (by decide)) ?_
      refine g_aload_n dX6_isSoFor_28 rfl ?_
      refine g_geti dX6_isSoFor_29 k_X6_30 rfl hp.1 hp.2 ?_
      refine g_icmpne 71 dX6_isSoFor_32 (by decide) (fun c32 => ?_) (fun c32 => ?_)
      · skip
        refine g_iinc dX6_isSoFor_71 rfl (nI_inc i) (by decide) rfl rfl ?_
        refine g_goto 3 dX6_isSoFor_74 (by decide) ?_
        have hP : sOk hi c p x i = true := by
          have c32' : ¬ hi (c + 3) i = hi p 0 := by rw [← ecl]; exact c32
          simp [sOk, c32']
        exact ih (i + 1) (by omega) (by omega) _ rfl (by rw [allB, hal, hP]; rfl)
      · skip
        refine g_iload dX6_isSoFor_35 rfl ?_
        refine g_iflt 71 dX6_isSoFor_37 (by decide) (fun c37 => ?_) (fun c37 => ?_)
        · skip
          refine g_iinc dX6_isSoFor_71 rfl (nI_inc i) (by decide) rfl rfl ?_
          refine g_goto 3 dX6_isSoFor_74 (by decide) ?_
          have hP : sOk hi c p x i = true := by
            have c37' : hi (c + 4) i < 0 := by rw [← ecl]; exact c37
            simp [sOk, c37']
          exact ih (i + 1) (by omega) (by omega) _ rfl (by rw [allB, hal, hP]; rfl)
        · skip
          refine g_iload dX6_isSoFor_40 rfl ?_
          refine g_aload_n dX6_isSoFor_42 rfl ?_
          refine g_alen dX6_isSoFor_43 hc.a1.1 hc.a1.2 (Or.inr rfl) ?_
          refine g_icmpge 71 dX6_isSoFor_44 (by decide) (fun c44 => ?_) (fun c44 => ?_)
          · skip
            refine g_iinc dX6_isSoFor_71 rfl (nI_inc i) (by decide) rfl rfl ?_
            refine g_goto 3 dX6_isSoFor_74 (by decide) ?_
            have hP : sOk hi c p x i = true := by
              have c44' : 8 ≤ hi (c + 4) i := by rw [← ecl]; exact c44
              simp [sOk, c44']
            exact ih (i + 1) (by omega) (by omega) _ rfl (by rw [allB, hal, hP]; rfl)
          · skip
            refine g_aload_n dX6_isSoFor_47 rfl ?_
            refine g_iload_n dX6_isSoFor_48 rfl ?_
            obtain ⟨j, hj8, hjx⟩ : ∃ j : Nat, j < 8 ∧ hi (c + 4) (nI i).toNatClampNeg = nI j := by
              obtain ⟨j, h1, h2⟩ := nI_of c37
              exact ⟨j, lt_in (x := nI 8) rfl (by rw [← h2]; exact c44) (by decide) h1, h2⟩
            refine g_aload_n dX6_isSoFor_49 rfl ?_
            refine g_iload dX6_isSoFor_50 rfl ?_
            refine g_aald dX6_isSoFor_52 hc.a1.1 hc.a1.2 hjx hj8 (by decide) (hc.rp hj8) ?_
            refine g_callV0 (M' := mX5_picture) (mc' := 0) (ms' := 0) dX6_isSoFor_53 l_X6_35 s_mX5_picture (hc.p hj8).1 (hc.p hj8).2 rfl f_mX5_picture (Nat.le_of_ble_eq_true rfl) (by decide) (ct_picture (hc.p hj8)) ?_
            rintro _ _ ⟨rfl, rfl⟩
            refine g_callV2 (M' := mX5_wouldBeContent) (mc' := 0) (ms' := 0) dX6_isSoFor_56 l_X6_39 s_mX5_wouldBeContent hp.1 hp.2 rfl f_mX5_wouldBeContent (Nat.le_of_ble_eq_true rfl) (by decide) (ct_wouldBeContent hkv hp _ _) ?_
            rintro _ _ ⟨rfl, rfl⟩
            refine g_aload_n dX6_isSoFor_59 rfl ?_
            refine g_getr dX6_isSoFor_60 k_X6_18 rfl hc.o2.1 hc.o2.2 hc.r5 ?_
            refine g_iload dX6_isSoFor_63 rfl ?_
            refine g_zald dX6_isSoFor_65 hc.a5.1 hc.a5.2 (vp_in_nI hi8 (by decide)) ?_
            refine g_icmpeq 71 dX6_isSoFor_66 (by decide) (fun c66 => ?_) (fun c66 => ?_)
            · skip
              refine g_iinc dX6_isSoFor_71 rfl (nI_inc i) (by decide) rfl rfl ?_
              refine g_goto 3 dX6_isSoFor_74 (by decide) ?_
              have hP : sOk hi c p x i = true := by
                have c66' : bI (pCont hi p x (pPic hi (c + 6 + (hi (c + 4) i).toNatClampNeg))) = hi (c + 5) i := by rw [ecl] at hjx; rw [hjx, nI_clamp (by omega)]; exact (show _ = hi (c + 5) (nI i).toNatClampNeg from c66).trans (by rw [ecl])
                simp [sOk, c66']
              exact ih (i + 1) (by omega) (by omega) _ rfl (by rw [allB, hal, hP]; rfl)
            · skip
              refine g_iconst (v := 0) dX6_isSoFor_69 (by decide) ?_
              exact g_ireturn dX6_isSoFor_70 rfl rfl (by
            have hP : sOk hi c p x i = false := by
              have e1 : hi (c + 3) i = hi p 0 := by
                have := c32
                rw [ecl] at this
                exact this
              have e2 : ¬ hi (c + 4) i < 0 := by rw [← ecl]; exact c37
              have e3 : ¬ 8 ≤ hi (c + 4) i := by rw [← ecl]; exact c44
              have e4 : ¬ bI (pCont hi p x (pPic hi (c + 6 + (hi (c + 4) i).toNatClampNeg))) = hi (c + 5) i := by
                intro q
                apply c66
                rw [ecl] at hjx
                rw [hjx, nI_clamp (by omega)] at q
                exact q.trans (by rw [ecl])
              simp [sOk, e1, e2, e3, e4]
            exact ⟨by rw [allB_no hP hlt]; rfl, rfl⟩)

set_option maxRecDepth 100000 in
set_option maxHeartbeats 4000000 in
theorem ct_isSoFor (hkv : KV hi) {c : Nat} (hc : isC c) {S : Nat} (hS8 : S ≤ 8) (hS : hi (c + 2) 3 = nI S) {p : Nat} (hp : XO 3 p) (x : Int32) : MC E l 3 mX6_isSoFor [.ref (c + 2), .ref p, .int x, .ref (c + 1)] 83 (hi, hl, RT) 0 0 (fun r h' => r = some (.int (bI (allB (sOk hi c p x) S))) ∧ h' = (hi, hl, RT)) := by
  refine MC.of [some (.ref (c + 2)), some (.ref p), some (.int x), some (.ref (c + 1)), none, none] (by decide) rfl (Nat.le_of_ble_eq_true rfl) ?_
  refine g_iconst (v := 0) dX6_isSoFor_0 (by decide) ?_
  refine g_istore dX6_isSoFor_1 (by decide) rfl rfl ?_
  exact lp_isSoFor hkv hc hS8 hS hp x (S + 1) 0 (by omega) (by omega) none rfl rfl

def chF (hi : Nat → Nat → Int32) (c p S : Nat) : Int32 := orB (fun k => allB (sOk hi c p (nI k)) S) (fun k => 1 <<< (nI k &&& 31)) 10
set_option maxRecDepth 100000 in
set_option maxHeartbeats 4000000 in
theorem lp_choosiesOf (hkv : KV hi) {c : Nat} (hc : isC c) {S : Nat} (hS8 : S ≤ 8) (hS : hi (c + 2) 3 = nI S) {p : Nat} (hp : XO 3 p) : ∀ (n i : Nat), i ≤ 10 → 10 + 1 ≤ i + n → ∀ (b : Int32), b = orB (fun k => allB (sOk hi c p (nI k)) S) (fun k => 1 <<< (nI k &&& 31)) i → G E l 4 mX6_choosiesOf 5 [some (.ref (c + 2)), some (.ref p), some (.ref (c + 1)), some (.int b), some (.int (nI i))] [] 83 (hi, hl, RT) 0 0 (fun r h' => r = some (.int (chF hi c p S)) ∧ h' = (hi, hl, RT)) := by
  intro n
  induction n with
  | zero =>
    intro i h1 h2
    exact absurd h2 (by omega)
  | succ n ih =>
    intro i hi1 hi2 b hb
    refine g_iload dX6_choosiesOf_5 rfl ?_
    refine g_bipush (v := 9) dX6_choosiesOf_7 (by decide) ?_
    refine g_icmpgt 36 dX6_choosiesOf_9 (by decide) (fun c9 => ?_) (fun c9 => ?_)
    · skip
      have hiN : i = 10 := Nat.le_antisymm hi1 (Nat.succ_le_of_lt ((nI_ltI (a := 9) (by decide) (by omega)).mp c9))
      subst hiN
      refine g_iload_n dX6_choosiesOf_36 rfl ?_
      exact g_ireturn dX6_choosiesOf_37 rfl rfl ⟨by rw [hb]; rfl, rfl⟩
    · skip
      have hlt : i < 10 := Nat.lt_of_not_le (fun q => c9 (nI_lt (a := 9) (by omega) (by omega)))
      refine g_aload_n dX6_choosiesOf_12 rfl ?_
      refine g_aload_n dX6_choosiesOf_13 rfl ?_
      refine g_iload dX6_choosiesOf_14 rfl ?_
      refine g_aload_n dX6_choosiesOf_16 rfl ?_
      refine g_callV3 (M' := mX6_isSoFor) (mc' := 0) (ms' := 0) dX6_choosiesOf_17 l_X6_26 s_mX6_isSoFor hc.o2.1 hc.o2.2 rfl f_mX6_isSoFor (Nat.le_of_ble_eq_true rfl) (by decide) (ct_isSoFor hkv hc hS8 hS hp _) ?_
      rintro _ _ ⟨rfl, rfl⟩
      refine g_ifeq 30 dX6_choosiesOf_20 (by decide) (fun c20 => ?_) (fun c20 => ?_)
      · skip
        refine g_iinc dX6_choosiesOf_30 rfl (nI_inc i) (by decide) rfl rfl ?_
        refine g_goto 5 dX6_choosiesOf_33 (by decide) ?_
        exact ih (i + 1) (by omega) (by omega) _ (by rw [hb]; exact (orB_n (P := fun k => allB (sOk hi c p (nI k)) S) (w := fun k => 1 <<< (nI k &&& 31)) (bI_0.mp c20)).symm)
      · skip
        refine g_iload_n dX6_choosiesOf_23 rfl ?_
        refine g_iconst (v := 1) dX6_choosiesOf_24 (by decide) ?_
        refine g_iload dX6_choosiesOf_25 rfl ?_
        refine g_ishl dX6_choosiesOf_27 ?_
        refine g_ior dX6_choosiesOf_28 ?_
        refine g_istore_n dX6_choosiesOf_29 (by decide) rfl rfl ?_
        refine g_iinc dX6_choosiesOf_30 rfl (nI_inc i) (by decide) rfl rfl ?_
        refine g_goto 5 dX6_choosiesOf_33 (by decide) ?_
        exact ih (i + 1) (by omega) (by omega) _ (by rw [hb]; exact (orB_y (P := fun k => allB (sOk hi c p (nI k)) S) (w := fun k => 1 <<< (nI k &&& 31)) (bI_n.mp c20)).symm)

set_option maxRecDepth 100000 in
set_option maxHeartbeats 4000000 in
theorem ct_choosiesOf (hkv : KV hi) {c : Nat} (hc : isC c) {S : Nat} (hS8 : S ≤ 8) (hS : hi (c + 2) 3 = nI S) {p : Nat} (hp : XO 3 p) : MC E l 4 mX6_choosiesOf [.ref (c + 2), .ref p, .ref (c + 1)] 83 (hi, hl, RT) 0 0 (fun r h' => r = some (.int (chF hi c p S)) ∧ h' = (hi, hl, RT)) := by
  refine MC.of [some (.ref (c + 2)), some (.ref p), some (.ref (c + 1)), none, none] (by decide) rfl (Nat.le_of_ble_eq_true rfl) ?_
  refine g_iconst (v := 0) dX6_choosiesOf_0 (by decide) ?_
  refine g_istore_n dX6_choosiesOf_1 (by decide) rfl rfl ?_
  refine g_iconst (v := 0) dX6_choosiesOf_2 (by decide) ?_
  refine g_istore dX6_choosiesOf_3 (by decide) rfl rfl ?_
  exact lp_choosiesOf hkv hc hS8 hS hp 11 0 (by omega) (by omega) 0 rfl

def lwF (hi : Nat → Nat → Int32) (p : Nat) (b pic : Int32) : Int32 := if cntB (fun k => !decide (b &&& (1 <<< (nI k &&& 31)) = 0) && pCont hi p (nI k) pic) 10 < cntB (fun k => !decide (b &&& (1 <<< (nI k &&& 31)) = 0) && !pCont hi p (nI k) pic) 10 then cntB (fun k => !decide (b &&& (1 <<< (nI k &&& 31)) = 0) && !pCont hi p (nI k) pic) 10 else cntB (fun k => !decide (b &&& (1 <<< (nI k &&& 31)) = 0) && pCont hi p (nI k) pic) 10
set_option maxRecDepth 100000 in
set_option maxHeartbeats 4000000 in
theorem lp_leftAtWorst (hkv : KV hi) {p : Nat} (hp : XO 3 p) (b pic : Int32) : ∀ (n i : Nat), i ≤ 10 → 10 + 1 ≤ i + n → ∀ (u v : Int32), u = cntB (fun k => !decide (b &&& (1 <<< (nI k &&& 31)) = 0) && pCont hi p (nI k) pic) i → v = cntB (fun k => !decide (b &&& (1 <<< (nI k &&& 31)) = 0) && !pCont hi p (nI k) pic) i → G E l 2 mX0_leftAtWorst 8 [some (.ref p), some (.int b), some (.int pic), some (.int u), some (.int v), some (.int (nI i))] [] 83 (hi, hl, RT) 0 0 (fun r h' => r = some (.int (lwF hi p b pic)) ∧ h' = (hi, hl, RT)) := by
  intro n
  induction n with
  | zero =>
    intro i h1 h2
    exact absurd h2 (by omega)
  | succ n ih =>
    intro i hi1 hi2 u v hu hv
    refine g_iload dX0_leftAtWorst_8 rfl ?_
    refine g_bipush (v := 9) dX0_leftAtWorst_10 (by decide) ?_
    refine g_icmpgt 52 dX0_leftAtWorst_12 (by decide) (fun c12 => ?_) (fun c12 => ?_)
    · skip
      have hiN : i = 10 := Nat.le_antisymm hi1 (Nat.succ_le_of_lt ((nI_ltI (a := 9) (by decide) (by omega)).mp c12))
      subst hiN
      refine g_iload_n dX0_leftAtWorst_52 rfl ?_
      refine g_iload dX0_leftAtWorst_53 rfl ?_
      refine g_mmax dX0_leftAtWorst_55 l_X0_201 (by decide) (Nat.le_of_ble_eq_true rfl) ?_
      exact g_ireturn dX0_leftAtWorst_58 rfl rfl ⟨by rw [hu, hv]; rfl, rfl⟩
    · skip
      have hlt : i < 10 := Nat.lt_of_not_le (fun q => c12 (nI_lt (a := 9) (by omega) (by omega)))
      refine g_iload_n dX0_leftAtWorst_15 rfl ?_
      refine g_iconst (v := 1) dX0_leftAtWorst_16 (by decide) ?_
      refine g_iload dX0_leftAtWorst_17 rfl ?_
      refine g_ishl dX0_leftAtWorst_19 ?_
      refine g_iand dX0_leftAtWorst_20 ?_
      refine g_ifne 27 dX0_leftAtWorst_21 (by decide) (fun c21 => ?_) (fun c21 => ?_)
      · skip
        refine g_aload_n dX0_leftAtWorst_27 rfl ?_
        refine g_iload dX0_leftAtWorst_28 rfl ?_
        refine g_iload_n dX0_leftAtWorst_30 rfl ?_
        refine g_callV2 (M' := mX5_wouldBeContent) (mc' := 0) (ms' := 0) dX0_leftAtWorst_31 l_X0_197 s_mX5_wouldBeContent hp.1 hp.2 rfl f_mX5_wouldBeContent (Nat.le_of_ble_eq_true rfl) (by decide) (ct_wouldBeContent hkv hp _ _) ?_
        rintro _ _ ⟨rfl, rfl⟩
        refine g_ifeq 43 dX0_leftAtWorst_34 (by decide) (fun c34 => ?_) (fun c34 => ?_)
        · skip
          refine g_iinc dX0_leftAtWorst_43 rfl rfl (by decide) rfl rfl ?_
          refine g_iinc dX0_leftAtWorst_46 rfl (nI_inc i) (by decide) rfl rfl ?_
          refine g_goto 8 dX0_leftAtWorst_49 (by decide) ?_
          exact ih (i + 1) (by omega) (by omega) _ _ (by rw [hu, cntB]; simp [c21, bI_0.mp c34, bI]) (by rw [hv, cntB]; simp [c21, bI_0.mp c34, bI])
        · skip
          refine g_iinc dX0_leftAtWorst_37 rfl rfl (by decide) rfl rfl ?_
          refine g_goto 46 dX0_leftAtWorst_40 (by decide) ?_
          refine g_iinc dX0_leftAtWorst_46 rfl (nI_inc i) (by decide) rfl rfl ?_
          refine g_goto 8 dX0_leftAtWorst_49 (by decide) ?_
          exact ih (i + 1) (by omega) (by omega) _ _ (by rw [hu, cntB]; simp [c21, bI_n.mp c34, bI]) (by rw [hv, cntB]; simp [c21, bI_n.mp c34, bI])
      · skip
        refine g_goto 46 dX0_leftAtWorst_24 (by decide) ?_
        refine g_iinc dX0_leftAtWorst_46 rfl (nI_inc i) (by decide) rfl rfl ?_
        refine g_goto 8 dX0_leftAtWorst_49 (by decide) ?_
        exact ih (i + 1) (by omega) (by omega) _ _ (by rw [hu, cntB]; simp [c21, bI]) (by rw [hv, cntB]; simp [c21, bI])

set_option maxRecDepth 100000 in
set_option maxHeartbeats 4000000 in
theorem ct_leftAtWorst (hkv : KV hi) {p : Nat} (hp : XO 3 p) (b pic : Int32) : MC E l 2 mX0_leftAtWorst [.ref p, .int b, .int pic] 83 (hi, hl, RT) 0 0 (fun r h' => r = some (.int (lwF hi p b pic)) ∧ h' = (hi, hl, RT)) := by
  refine MC.of [some (.ref p), some (.int b), some (.int pic), none, none, none] (by decide) rfl (Nat.le_of_ble_eq_true rfl) ?_
  refine g_iconst (v := 0) dX0_leftAtWorst_0 (by decide) ?_
  refine g_istore_n dX0_leftAtWorst_1 (by decide) rfl rfl ?_
  refine g_iconst (v := 0) dX0_leftAtWorst_2 (by decide) ?_
  refine g_istore dX0_leftAtWorst_3 (by decide) rfl rfl ?_
  refine g_iconst (v := 0) dX0_leftAtWorst_5 (by decide) ?_
  refine g_istore dX0_leftAtWorst_6 (by decide) rfl rfl ?_
  exact lp_leftAtWorst hkv hp b pic 11 0 (by omega) (by omega) 0 0 rfl rfl

end
