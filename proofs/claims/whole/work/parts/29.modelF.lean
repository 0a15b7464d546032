section
variable {E : XE} {l : Launch} {hi : Nat → Nat → Int32} {hl : Nat → Nat → Int64}

/-! come of it, as the reference does it -/
def vMS (v : VV) (i e : Nat) : Bool := !decide (v 3 i = v 3 e) && (!vTaken v e && !vShown v i e)
def nfV (v : VV) (i : Nat) (b : Bool) : Nat → Option Nat
  | 0 => none
  | e + 1 => if (vMS v i e && (match nfV v i b e with | none => true | some f => b && vPref v e f)) = true then some e else nfV v i b e
def oI : Option Nat → Int32
  | none => -1
  | some f => nI f
theorem nfV_lt {v : VV} {i : Nat} {b : Bool} : ∀ {n f : Nat}, nfV v i b n = some f → f < n
  | 0, f, h => by rw [nfV] at h; cases h
  | n + 1, f, h => by
    have e : nfV v i b (n + 1) = some n ∨ nfV v i b (n + 1) = nfV v i b n := by
      rw [nfV]
      by_cases z : (vMS v i n && (match nfV v i b n with | none => true | some f => b && vPref v n f)) = true
      · exact Or.inl (if_pos z)
      · exact Or.inr (if_neg z)
    rcases e with e | e
    · rw [e] at h
      cases h
      exact Nat.lt_succ_self n
    · rw [e] at h
      exact Nat.lt_succ_of_lt (nfV_lt h)
def stV (N : Nat) (lim : Int32) (b : Bool) (i : Nat) : Nat → VV → VV
  | 0, v => v
  | n + 1, v => stV N lim b i n (match nfV v i b N with | none => v | some e => vShow v i e lim)
def mppV (b : Bool) (lim : Int32) (N : Nat) : Nat → Nat → VV → VV
  | 0, _, v => v
  | n + 1, i, v => mppV b lim N n (i + 1) (if vFree v i = true then stV N lim b i 3 v else v)
def mdyV (b : Bool) (lim : Int32) (N : Nat) : Nat → VV → VV
  | 0, v => v
  | d + 1, v => mdyV b lim N d (mppV b lim N N 0 (sdV v N))
def c3V (v : VV) (N : Nat) : VV := fun s i => if i < N ∧ 7 ≤ s ∧ s ≤ 9 then 0 else v s i
def mcV (v : VV) (N F D : Nat) (lim : Int32) (b : Bool) : Int32 := sumI (fun k => szF (orB (fun q => vMatch (mdyV b lim N D (c3V v N)) k q) bitI N)) F
def bnV (m : Nat → Int32) : Nat → Int32 × Int32
  | 0 => (1, -1)
  | j + 1 => if (bnV m j).2 < m j then (nI (j + 1), m j) else bnV m j
/-- what showing may change -/
def MR (f g : Nat → Nat → Int32) : Prop := ∀ a k, ¬ ((58 ≤ a ∧ a ≤ 61) ∧ k < 8) → ¬ (a = 53 ∧ (k = 14 ∨ k = 15)) → g a k = f a k
theorem MR.rf {f : Nat → Nat → Int32} : MR f f := fun _ _ _ _ => rfl
theorem MR.trans {f g h : Nat → Nat → Int32} (h1 : MR f g) (h2 : MR g h) : MR f h := fun a k q z => (h2 a k q z).trans (h1 a k q z)
theorem MR.mo {f g : Nat → Nat → Int32} {N F : Nat} (h : MR f g) (hj : MO7 f N F) : MO7 g N F := hj.of (h 53 1 (by omega) (by omega)) (h 53 2 (by omega) (by omega))
theorem MR.lim {f g : Nat → Nat → Int32} (h : MR f g) : g 53 12 = f 53 12 := h 53 12 (by omega) (by omega)
theorem MR.sh {f : Nat → Nat → Int32} {N F i : Nat} (hi8 : i < 8) (j : Nat) : MR f (mShF f N F i j) := by
  intro a k h1 h2
  unfold mShF
  split
  · unfold upI
    rw [if_neg (by omega), if_neg (by omega), if_neg (by omega), if_neg (by omega)]
  · unfold upI
    rw [if_neg (by omega), if_neg (by omega), if_neg (by omega)]
theorem MR.md {f : Nat → Nat → Int32} {N : Nat} (h : N ≤ 8) : MR f (mdF f N) := fun a k h1 h2 => if_neg (by omega)
theorem m_show {hi : Nat → Nat → Int32} {N F i j : Nat} (h : i < N) : vm (mShF hi N F i j) N F = vShow (vm hi N F) i j (hi 53 12) := by
  unfold mShF vShow
  split
  · rw [m_off (by omega), m_up h (s := 10) (a := 61) (by decide) (by decide) (by decide) rfl, m_up h (s := 9) (a := 60) (by decide) (by decide) (by decide) rfl, m_up h (s := 7) (a := 58) (by decide) (by decide) (by decide) rfl, m_7 h, m_10 h]
  · rw [m_off (by omega), m_up h (s := 9) (a := 60) (by decide) (by decide) (by decide) rfl, m_up h (s := 8) (a := 59) (by decide) (by decide) (by decide) rfl, m_8 h, m_9 h]

set_option maxRecDepth 100000 in
set_option maxHeartbeats 4000000 in
theorem lp_nextFor {N F : Nat} (hj : MO7 hi N F) {i : Nat} (hi1 : i < N) (o : Int32) : ∀ (n e : Nat) (u : Int32) (l5 l6 : Option Value), e + n = N → u = oI (nfV (vm hi N F) i (decide (o = 1)) e) → G E l 3 mX10_nextFor 5 [some (.ref 53), some (.int (nI i)), some (.int o), some (.int u), some (.int (nI e)), l5, l6] [] 83 (hi, hl, RT) 0 0 (fun r h' => r = some (.int (oI (nfV (vm hi N F) i (decide (o = 1)) N))) ∧ h' = (hi, hl, RT)) := by
  have hj0 := hj
  obtain ⟨hN8, hFN, hN, hF⟩ := hj
  intro n
  induction n with
  | zero =>
    intro e u l5 l6 hen hu
    have heN : e = N := by omega
    refine g_iload dX10_nextFor_5 rfl ?_
    refine g_aload_n dX10_nextFor_7 rfl ?_
    refine g_geti dX10_nextFor_8 k_X10_140 rfl (by decide) rfl ?_
    refine g_icmpge 102 dX10_nextFor_11 (by decide) (fun c11 => ?_) (fun c11 => ?_)
    · skip
      refine g_iload_n dX10_nextFor_102 rfl ?_
      exact g_ireturn dX10_nextFor_103 rfl rfl ⟨by rw [hu, heN], rfl⟩
    · skip
      exact absurd (by show hi 53 2 ≤ nI e; rw [hN, heN]; exact nI_le (Nat.le_refl _) (by omega)) c11
  | succ n ih =>
    intro e u l5 l6 hen hu
    have heN : e < N := by omega
    have hec : (nI e).toNatClampNeg = e := nI_clamp (by omega)
    have m11e := m_11 (hi := hi) (F := F) heN
    cases hq : nfV (vm hi N F) i (decide (o = 1)) e with
    | none =>
      have hu2 : u = -1 := by rw [hu, hq]; rfl
      rw [hu2]
      refine g_iload dX10_nextFor_5 rfl ?_
      refine g_aload_n dX10_nextFor_7 rfl ?_
      refine g_geti dX10_nextFor_8 k_X10_140 rfl (by decide) rfl ?_
      refine g_icmpge 102 dX10_nextFor_11 (by decide) (fun c11 => ?_) (fun c11 => ?_)
      · skip
        exact absurd (ge_out hN c11 (by omega) (by omega)) (by omega)
      · skip
        refine g_aload_n dX10_nextFor_14 rfl ?_
        refine g_iload_n dX10_nextFor_15 rfl ?_
        refine g_iload dX10_nextFor_16 rfl ?_
        refine g_callV2 (M' := mX10_areOther) (mc' := 0) (ms' := 0) dX10_nextFor_18 l_X10_174 s_mX10_areOther (by decide) rfl rfl f_mX10_areOther (Nat.le_of_ble_eq_true rfl) (by decide) (ct_areOther hj0 hi1 heN) ?_
        rintro _ _ ⟨rfl, rfl⟩
        refine g_ifeq 49 dX10_nextFor_21 (by decide) (fun c21 => ?_) (fun c21 => ?_)
        · skip
          refine g_iconst (v := 0) dX10_nextFor_49 (by decide) ?_
          refine g_istore dX10_nextFor_50 (by decide) rfl rfl ?_
          refine g_iload_n dX10_nextFor_52 rfl ?_
          refine g_iconst (v := -1) dX10_nextFor_53 (by decide) ?_
          refine g_icmpeq 72 dX10_nextFor_54 (by decide) (fun _ => ?_) (fun c => absurd c (by decide))
          refine g_iconst (v := 1) dX10_nextFor_72 (by decide) ?_
          refine g_goto 77 dX10_nextFor_73 (by decide) ?_
          refine g_istore dX10_nextFor_77 (by decide) rfl rfl ?_
          refine g_iload dX10_nextFor_79 rfl ?_
          refine g_ifeq 94 dX10_nextFor_81 (by decide) (fun _ => ?_) (fun c => absurd c (by decide))
          refine g_iload_n dX10_nextFor_94 rfl ?_
          refine g_istore_n dX10_nextFor_95 (by decide) rfl rfl ?_
          refine g_iinc dX10_nextFor_96 rfl (nI_inc e) (by decide) rfl rfl ?_
          refine g_goto 5 dX10_nextFor_99 (by decide) ?_
          have hm : vMS (vm hi N F) i e = false := by have := bI_0.mp c21; simp_all [vMS]
          exact ih (e + 1) _ _ _ (by omega) (by
            have hz : nfV (vm hi N F) i (decide (o = 1)) (e + 1) = none := by rw [nfV, hq]; simp [hm]
            rw [hz]; rfl)
        · skip
          refine g_aload_n dX10_nextFor_24 rfl ?_
          refine g_getr dX10_nextFor_25 k_X10_34 rfl (by decide) rfl rfl ?_
          refine g_iload dX10_nextFor_28 rfl ?_
          refine g_iald dX10_nextFor_30 (by decide) rfl (vp_in_nI (by omega) (by decide)) ?_
          refine g_iconst (v := -1) dX10_nextFor_31 (by decide) ?_
          refine g_icmpne 49 dX10_nextFor_32 (by decide) (fun c32 => ?_) (fun c32 => ?_)
          · skip
            refine g_iconst (v := 0) dX10_nextFor_49 (by decide) ?_
            refine g_istore dX10_nextFor_50 (by decide) rfl rfl ?_
            refine g_iload_n dX10_nextFor_52 rfl ?_
            refine g_iconst (v := -1) dX10_nextFor_53 (by decide) ?_
            refine g_icmpeq 72 dX10_nextFor_54 (by decide) (fun _ => ?_) (fun c => absurd c (by decide))
            refine g_iconst (v := 1) dX10_nextFor_72 (by decide) ?_
            refine g_goto 77 dX10_nextFor_73 (by decide) ?_
            refine g_istore dX10_nextFor_77 (by decide) rfl rfl ?_
            refine g_iload dX10_nextFor_79 rfl ?_
            refine g_ifeq 94 dX10_nextFor_81 (by decide) (fun _ => ?_) (fun c => absurd c (by decide))
            refine g_iload_n dX10_nextFor_94 rfl ?_
            refine g_istore_n dX10_nextFor_95 (by decide) rfl rfl ?_
            refine g_iinc dX10_nextFor_96 rfl (nI_inc e) (by decide) rfl rfl ?_
            refine g_goto 5 dX10_nextFor_99 (by decide) ?_
            have hm : vMS (vm hi N F) i e = false := by
              have z : ¬ vm hi N F 11 e = -1 := by rw [m11e, ← hec]; exact c32
              simp [vMS, vTaken, z]
            exact ih (e + 1) _ _ _ (by omega) (by
              have hz : nfV (vm hi N F) i (decide (o = 1)) (e + 1) = none := by rw [nfV, hq]; simp [hm]
              rw [hz]; rfl)
          · skip
            refine g_aload_n dX10_nextFor_35 rfl ?_
            refine g_iload_n dX10_nextFor_36 rfl ?_
            refine g_iload dX10_nextFor_37 rfl ?_
            refine g_callV2 (M' := mX10_wasShown) (mc' := 0) (ms' := 0) dX10_nextFor_39 l_X10_211 s_mX10_wasShown (by decide) rfl rfl f_mX10_wasShown (Nat.le_of_ble_eq_true rfl) (by decide) (ct_mWasShown hj0 hi1 heN) ?_
            rintro _ _ ⟨rfl, rfl⟩
            refine g_ifne 49 dX10_nextFor_42 (by decide) (fun c42 => ?_) (fun c42 => ?_)
            · skip
              refine g_iconst (v := 0) dX10_nextFor_49 (by decide) ?_
              refine g_istore dX10_nextFor_50 (by decide) rfl rfl ?_
              refine g_iload_n dX10_nextFor_52 rfl ?_
              refine g_iconst (v := -1) dX10_nextFor_53 (by decide) ?_
              refine g_icmpeq 72 dX10_nextFor_54 (by decide) (fun _ => ?_) (fun c => absurd c (by decide))
              refine g_iconst (v := 1) dX10_nextFor_72 (by decide) ?_
              refine g_goto 77 dX10_nextFor_73 (by decide) ?_
              refine g_istore dX10_nextFor_77 (by decide) rfl rfl ?_
              refine g_iload dX10_nextFor_79 rfl ?_
              refine g_ifeq 94 dX10_nextFor_81 (by decide) (fun _ => ?_) (fun c => absurd c (by decide))
              refine g_iload_n dX10_nextFor_94 rfl ?_
              refine g_istore_n dX10_nextFor_95 (by decide) rfl rfl ?_
              refine g_iinc dX10_nextFor_96 rfl (nI_inc e) (by decide) rfl rfl ?_
              refine g_goto 5 dX10_nextFor_99 (by decide) ?_
              have hm : vMS (vm hi N F) i e = false := by simp [vMS, bI_n.mp c42]
              exact ih (e + 1) _ _ _ (by omega) (by
                have hz : nfV (vm hi N F) i (decide (o = 1)) (e + 1) = none := by rw [nfV, hq]; simp [hm]
                rw [hz]; rfl)
            · skip
              refine g_iconst (v := 1) dX10_nextFor_45 (by decide) ?_
              refine g_goto 50 dX10_nextFor_46 (by decide) ?_
              refine g_istore dX10_nextFor_50 (by decide) rfl rfl ?_
              refine g_iload_n dX10_nextFor_52 rfl ?_
              refine g_iconst (v := -1) dX10_nextFor_53 (by decide) ?_
              refine g_icmpeq 72 dX10_nextFor_54 (by decide) (fun _ => ?_) (fun c => absurd c (by decide))
              refine g_iconst (v := 1) dX10_nextFor_72 (by decide) ?_
              refine g_goto 77 dX10_nextFor_73 (by decide) ?_
              refine g_istore dX10_nextFor_77 (by decide) rfl rfl ?_
              refine g_iload dX10_nextFor_79 rfl ?_
              refine g_ifeq 94 dX10_nextFor_81 (by decide) (fun c => absurd c (by decide)) (fun _ => ?_)
              refine g_iload dX10_nextFor_84 rfl ?_
              refine g_ifeq 94 dX10_nextFor_86 (by decide) (fun c => absurd c (by decide)) (fun _ => ?_)
              refine g_iload dX10_nextFor_89 rfl ?_
              refine g_goto 95 dX10_nextFor_91 (by decide) ?_
              refine g_istore_n dX10_nextFor_95 (by decide) rfl rfl ?_
              refine g_iinc dX10_nextFor_96 rfl (nI_inc e) (by decide) rfl rfl ?_
              refine g_goto 5 dX10_nextFor_99 (by decide) ?_
              have hm : vMS (vm hi N F) i e = true := by
                have z : vm hi N F 11 e = -1 := by rw [m11e, ← hec]; exact c32
                have z2 := bI_n.mp c21
                simp_all [vMS, vTaken, bI_0.mp c42]
              exact ih (e + 1) _ _ _ (by omega) (by
                have hz : nfV (vm hi N F) i (decide (o = 1)) (e + 1) = some e := by rw [nfV, hq]; simp [hm]
                rw [hz]; rfl)
    | some f =>
      have hfN : f < e := nfV_lt hq
      have hu2 : u = nI f := by rw [hu, hq]; rfl
      rw [hu2]
      refine g_iload dX10_nextFor_5 rfl ?_
      refine g_aload_n dX10_nextFor_7 rfl ?_
      refine g_geti dX10_nextFor_8 k_X10_140 rfl (by decide) rfl ?_
      refine g_icmpge 102 dX10_nextFor_11 (by decide) (fun c11 => ?_) (fun c11 => ?_)
      · skip
        exact absurd (ge_out hN c11 (by omega) (by omega)) (by omega)
      · skip
        refine g_aload_n dX10_nextFor_14 rfl ?_
        refine g_iload_n dX10_nextFor_15 rfl ?_
        refine g_iload dX10_nextFor_16 rfl ?_
        refine g_callV2 (M' := mX10_areOther) (mc' := 0) (ms' := 0) dX10_nextFor_18 l_X10_174 s_mX10_areOther (by decide) rfl rfl f_mX10_areOther (Nat.le_of_ble_eq_true rfl) (by decide) (ct_areOther hj0 hi1 heN) ?_
        rintro _ _ ⟨rfl, rfl⟩
        refine g_ifeq 49 dX10_nextFor_21 (by decide) (fun c21 => ?_) (fun c21 => ?_)
        · skip
          refine g_iconst (v := 0) dX10_nextFor_49 (by decide) ?_
          refine g_istore dX10_nextFor_50 (by decide) rfl rfl ?_
          refine g_iload_n dX10_nextFor_52 rfl ?_
          refine g_iconst (v := -1) dX10_nextFor_53 (by decide) ?_
          refine g_icmpeq 72 dX10_nextFor_54 (by decide) (fun c54 => ?_) (fun c54 => ?_)
          · skip
            exact absurd c54 (fun q => nI_pos (n := f) (by omega) (by rw [q]; decide))
          · skip
            refine g_iload_n dX10_nextFor_57 rfl ?_
            refine g_iconst (v := 1) dX10_nextFor_58 (by decide) ?_
            refine g_icmpne 76 dX10_nextFor_59 (by decide) (fun c59 => ?_) (fun c59 => ?_)
            · skip
              refine g_iconst (v := 0) dX10_nextFor_76 (by decide) ?_
              refine g_istore dX10_nextFor_77 (by decide) rfl rfl ?_
              refine g_iload dX10_nextFor_79 rfl ?_
              refine g_ifeq 94 dX10_nextFor_81 (by decide) (fun _ => ?_) (fun c => absurd c (by decide))
              refine g_iload_n dX10_nextFor_94 rfl ?_
              refine g_istore_n dX10_nextFor_95 (by decide) rfl rfl ?_
              refine g_iinc dX10_nextFor_96 rfl (nI_inc e) (by decide) rfl rfl ?_
              refine g_goto 5 dX10_nextFor_99 (by decide) ?_
              have hm : vMS (vm hi N F) i e = false := by have := bI_0.mp c21; simp_all [vMS]
              exact ih (e + 1) _ _ _ (by omega) (by
                have hz : nfV (vm hi N F) i (decide (o = 1)) (e + 1) = some f := by rw [nfV, hq]; simp [hm, c59]
                rw [hz]; rfl)
            · skip
              refine g_aload_n dX10_nextFor_62 rfl ?_
              refine g_iload dX10_nextFor_63 rfl ?_
              refine g_iload_n dX10_nextFor_65 rfl ?_
              refine g_callV2 (M' := mX10_prefers) (mc' := 0) (ms' := 0) dX10_nextFor_66 l_X10_236 s_mX10_prefers (by decide) rfl rfl f_mX10_prefers (Nat.le_of_ble_eq_true rfl) (by decide) (ct_prefers hj0 heN (by omega)) ?_
              rintro _ _ ⟨rfl, rfl⟩
              refine g_ifeq 76 dX10_nextFor_69 (by decide) (fun c69 => ?_) (fun c69 => ?_)
              · skip
                refine g_iconst (v := 0) dX10_nextFor_76 (by decide) ?_
                refine g_istore dX10_nextFor_77 (by decide) rfl rfl ?_
                refine g_iload dX10_nextFor_79 rfl ?_
                refine g_ifeq 94 dX10_nextFor_81 (by decide) (fun _ => ?_) (fun c => absurd c (by decide))
                refine g_iload_n dX10_nextFor_94 rfl ?_
                refine g_istore_n dX10_nextFor_95 (by decide) rfl rfl ?_
                refine g_iinc dX10_nextFor_96 rfl (nI_inc e) (by decide) rfl rfl ?_
                refine g_goto 5 dX10_nextFor_99 (by decide) ?_
                have hm : vMS (vm hi N F) i e = false := by have := bI_0.mp c21; simp_all [vMS]
                exact ih (e + 1) _ _ _ (by omega) (by
                  have hz : nfV (vm hi N F) i (decide (o = 1)) (e + 1) = some f := by rw [nfV, hq]; simp [hm, bI_0.mp c69]
                  rw [hz]; rfl)
              · skip
                refine g_iconst (v := 1) dX10_nextFor_72 (by decide) ?_
                refine g_goto 77 dX10_nextFor_73 (by decide) ?_
                refine g_istore dX10_nextFor_77 (by decide) rfl rfl ?_
                refine g_iload dX10_nextFor_79 rfl ?_
                refine g_ifeq 94 dX10_nextFor_81 (by decide) (fun _ => ?_) (fun c => absurd c (by decide))
                refine g_iload_n dX10_nextFor_94 rfl ?_
                refine g_istore_n dX10_nextFor_95 (by decide) rfl rfl ?_
                refine g_iinc dX10_nextFor_96 rfl (nI_inc e) (by decide) rfl rfl ?_
                refine g_goto 5 dX10_nextFor_99 (by decide) ?_
                have hm : vMS (vm hi N F) i e = false := by have := bI_0.mp c21; simp_all [vMS]
                exact ih (e + 1) _ _ _ (by omega) (by
                  have hz : nfV (vm hi N F) i (decide (o = 1)) (e + 1) = some f := by rw [nfV, hq]; simp [hm, c59, bI_n.mp c69]
                  rw [hz]; rfl)
        · skip
          refine g_aload_n dX10_nextFor_24 rfl ?_
          refine g_getr dX10_nextFor_25 k_X10_34 rfl (by decide) rfl rfl ?_
          refine g_iload dX10_nextFor_28 rfl ?_
          refine g_iald dX10_nextFor_30 (by decide) rfl (vp_in_nI (by omega) (by decide)) ?_
          refine g_iconst (v := -1) dX10_nextFor_31 (by decide) ?_
          refine g_icmpne 49 dX10_nextFor_32 (by decide) (fun c32 => ?_) (fun c32 => ?_)
          · skip
            refine g_iconst (v := 0) dX10_nextFor_49 (by decide) ?_
            refine g_istore dX10_nextFor_50 (by decide) rfl rfl ?_
            refine g_iload_n dX10_nextFor_52 rfl ?_
            refine g_iconst (v := -1) dX10_nextFor_53 (by decide) ?_
            refine g_icmpeq 72 dX10_nextFor_54 (by decide) (fun c54 => ?_) (fun c54 => ?_)
            · skip
              exact absurd c54 (fun q => nI_pos (n := f) (by omega) (by rw [q]; decide))
            · skip
              refine g_iload_n dX10_nextFor_57 rfl ?_
              refine g_iconst (v := 1) dX10_nextFor_58 (by decide) ?_
              refine g_icmpne 76 dX10_nextFor_59 (by decide) (fun c59 => ?_) (fun c59 => ?_)
              · skip
                refine g_iconst (v := 0) dX10_nextFor_76 (by decide) ?_
                refine g_istore dX10_nextFor_77 (by decide) rfl rfl ?_
                refine g_iload dX10_nextFor_79 rfl ?_
                refine g_ifeq 94 dX10_nextFor_81 (by decide) (fun _ => ?_) (fun c => absurd c (by decide))
                refine g_iload_n dX10_nextFor_94 rfl ?_
                refine g_istore_n dX10_nextFor_95 (by decide) rfl rfl ?_
                refine g_iinc dX10_nextFor_96 rfl (nI_inc e) (by decide) rfl rfl ?_
                refine g_goto 5 dX10_nextFor_99 (by decide) ?_
                have hm : vMS (vm hi N F) i e = false := by
                  have z : ¬ vm hi N F 11 e = -1 := by rw [m11e, ← hec]; exact c32
                  simp [vMS, vTaken, z]
                exact ih (e + 1) _ _ _ (by omega) (by
                  have hz : nfV (vm hi N F) i (decide (o = 1)) (e + 1) = some f := by rw [nfV, hq]; simp [hm, c59]
                  rw [hz]; rfl)
              · skip
                refine g_aload_n dX10_nextFor_62 rfl ?_
                refine g_iload dX10_nextFor_63 rfl ?_
                refine g_iload_n dX10_nextFor_65 rfl ?_
                refine g_callV2 (M' := mX10_prefers) (mc' := 0) (ms' := 0) dX10_nextFor_66 l_X10_236 s_mX10_prefers (by decide) rfl rfl f_mX10_prefers (Nat.le_of_ble_eq_true rfl) (by decide) (ct_prefers hj0 heN (by omega)) ?_
                rintro _ _ ⟨rfl, rfl⟩
                refine g_ifeq 76 dX10_nextFor_69 (by decide) (fun c69 => ?_) (fun c69 => ?_)
                · skip
                  refine g_iconst (v := 0) dX10_nextFor_76 (by decide) ?_
                  refine g_istore dX10_nextFor_77 (by decide) rfl rfl ?_
                  refine g_iload dX10_nextFor_79 rfl ?_
                  refine g_ifeq 94 dX10_nextFor_81 (by decide) (fun _ => ?_) (fun c => absurd c (by decide))
                  refine g_iload_n dX10_nextFor_94 rfl ?_
                  refine g_istore_n dX10_nextFor_95 (by decide) rfl rfl ?_
                  refine g_iinc dX10_nextFor_96 rfl (nI_inc e) (by decide) rfl rfl ?_
                  refine g_goto 5 dX10_nextFor_99 (by decide) ?_
                  have hm : vMS (vm hi N F) i e = false := by
                    have z : ¬ vm hi N F 11 e = -1 := by rw [m11e, ← hec]; exact c32
                    simp [vMS, vTaken, z]
                  exact ih (e + 1) _ _ _ (by omega) (by
                    have hz : nfV (vm hi N F) i (decide (o = 1)) (e + 1) = some f := by rw [nfV, hq]; simp [hm, bI_0.mp c69]
                    rw [hz]; rfl)
                · skip
                  refine g_iconst (v := 1) dX10_nextFor_72 (by decide) ?_
                  refine g_goto 77 dX10_nextFor_73 (by decide) ?_
                  refine g_istore dX10_nextFor_77 (by decide) rfl rfl ?_
                  refine g_iload dX10_nextFor_79 rfl ?_
                  refine g_ifeq 94 dX10_nextFor_81 (by decide) (fun _ => ?_) (fun c => absurd c (by decide))
                  refine g_iload_n dX10_nextFor_94 rfl ?_
                  refine g_istore_n dX10_nextFor_95 (by decide) rfl rfl ?_
                  refine g_iinc dX10_nextFor_96 rfl (nI_inc e) (by decide) rfl rfl ?_
                  refine g_goto 5 dX10_nextFor_99 (by decide) ?_
                  have hm : vMS (vm hi N F) i e = false := by
                    have z : ¬ vm hi N F 11 e = -1 := by rw [m11e, ← hec]; exact c32
                    simp [vMS, vTaken, z]
                  exact ih (e + 1) _ _ _ (by omega) (by
                    have hz : nfV (vm hi N F) i (decide (o = 1)) (e + 1) = some f := by rw [nfV, hq]; simp [hm, c59, bI_n.mp c69]
                    rw [hz]; rfl)
          · skip
            refine g_aload_n dX10_nextFor_35 rfl ?_
            refine g_iload_n dX10_nextFor_36 rfl ?_
            refine g_iload dX10_nextFor_37 rfl ?_
            refine g_callV2 (M' := mX10_wasShown) (mc' := 0) (ms' := 0) dX10_nextFor_39 l_X10_211 s_mX10_wasShown (by decide) rfl rfl f_mX10_wasShown (Nat.le_of_ble_eq_true rfl) (by decide) (ct_mWasShown hj0 hi1 heN) ?_
            rintro _ _ ⟨rfl, rfl⟩
            refine g_ifne 49 dX10_nextFor_42 (by decide) (fun c42 => ?_) (fun c42 => ?_)
            · skip
              refine g_iconst (v := 0) dX10_nextFor_49 (by decide) ?_
              refine g_istore dX10_nextFor_50 (by decide) rfl rfl ?_
              refine g_iload_n dX10_nextFor_52 rfl ?_
              refine g_iconst (v := -1) dX10_nextFor_53 (by decide) ?_
              refine g_icmpeq 72 dX10_nextFor_54 (by decide) (fun c54 => ?_) (fun c54 => ?_)
              · skip
                exact absurd c54 (fun q => nI_pos (n := f) (by omega) (by rw [q]; decide))
              · skip
                refine g_iload_n dX10_nextFor_57 rfl ?_
                refine g_iconst (v := 1) dX10_nextFor_58 (by decide) ?_
                refine g_icmpne 76 dX10_nextFor_59 (by decide) (fun c59 => ?_) (fun c59 => ?_)
                · skip
                  refine g_iconst (v := 0) dX10_nextFor_76 (by decide) ?_
                  refine g_istore dX10_nextFor_77 (by decide) rfl rfl ?_
                  refine g_iload dX10_nextFor_79 rfl ?_
                  refine g_ifeq 94 dX10_nextFor_81 (by decide) (fun _ => ?_) (fun c => absurd c (by decide))
                  refine g_iload_n dX10_nextFor_94 rfl ?_
                  refine g_istore_n dX10_nextFor_95 (by decide) rfl rfl ?_
                  refine g_iinc dX10_nextFor_96 rfl (nI_inc e) (by decide) rfl rfl ?_
                  refine g_goto 5 dX10_nextFor_99 (by decide) ?_
                  have hm : vMS (vm hi N F) i e = false := by simp [vMS, bI_n.mp c42]
                  exact ih (e + 1) _ _ _ (by omega) (by
                    have hz : nfV (vm hi N F) i (decide (o = 1)) (e + 1) = some f := by rw [nfV, hq]; simp [hm, c59]
                    rw [hz]; rfl)
                · skip
                  refine g_aload_n dX10_nextFor_62 rfl ?_
                  refine g_iload dX10_nextFor_63 rfl ?_
                  refine g_iload_n dX10_nextFor_65 rfl ?_
                  refine g_callV2 (M' := mX10_prefers) (mc' := 0) (ms' := 0) dX10_nextFor_66 l_X10_236 s_mX10_prefers (by decide) rfl rfl f_mX10_prefers (Nat.le_of_ble_eq_true rfl) (by decide) (ct_prefers hj0 heN (by omega)) ?_
                  rintro _ _ ⟨rfl, rfl⟩
                  refine g_ifeq 76 dX10_nextFor_69 (by decide) (fun c69 => ?_) (fun c69 => ?_)
                  · skip
                    refine g_iconst (v := 0) dX10_nextFor_76 (by decide) ?_
                    refine g_istore dX10_nextFor_77 (by decide) rfl rfl ?_
                    refine g_iload dX10_nextFor_79 rfl ?_
                    refine g_ifeq 94 dX10_nextFor_81 (by decide) (fun _ => ?_) (fun c => absurd c (by decide))
                    refine g_iload_n dX10_nextFor_94 rfl ?_
                    refine g_istore_n dX10_nextFor_95 (by decide) rfl rfl ?_
                    refine g_iinc dX10_nextFor_96 rfl (nI_inc e) (by decide) rfl rfl ?_
                    refine g_goto 5 dX10_nextFor_99 (by decide) ?_
                    have hm : vMS (vm hi N F) i e = false := by simp [vMS, bI_n.mp c42]
                    exact ih (e + 1) _ _ _ (by omega) (by
                      have hz : nfV (vm hi N F) i (decide (o = 1)) (e + 1) = some f := by rw [nfV, hq]; simp [hm, bI_0.mp c69]
                      rw [hz]; rfl)
                  · skip
                    refine g_iconst (v := 1) dX10_nextFor_72 (by decide) ?_
                    refine g_goto 77 dX10_nextFor_73 (by decide) ?_
                    refine g_istore dX10_nextFor_77 (by decide) rfl rfl ?_
                    refine g_iload dX10_nextFor_79 rfl ?_
                    refine g_ifeq 94 dX10_nextFor_81 (by decide) (fun _ => ?_) (fun c => absurd c (by decide))
                    refine g_iload_n dX10_nextFor_94 rfl ?_
                    refine g_istore_n dX10_nextFor_95 (by decide) rfl rfl ?_
                    refine g_iinc dX10_nextFor_96 rfl (nI_inc e) (by decide) rfl rfl ?_
                    refine g_goto 5 dX10_nextFor_99 (by decide) ?_
                    have hm : vMS (vm hi N F) i e = false := by simp [vMS, bI_n.mp c42]
                    exact ih (e + 1) _ _ _ (by omega) (by
                      have hz : nfV (vm hi N F) i (decide (o = 1)) (e + 1) = some f := by rw [nfV, hq]; simp [hm, c59, bI_n.mp c69]
                      rw [hz]; rfl)
            · skip
              refine g_iconst (v := 1) dX10_nextFor_45 (by decide) ?_
              refine g_goto 50 dX10_nextFor_46 (by decide) ?_
              refine g_istore dX10_nextFor_50 (by decide) rfl rfl ?_
              refine g_iload_n dX10_nextFor_52 rfl ?_
              refine g_iconst (v := -1) dX10_nextFor_53 (by decide) ?_
              refine g_icmpeq 72 dX10_nextFor_54 (by decide) (fun c54 => ?_) (fun c54 => ?_)
              · skip
                exact absurd c54 (fun q => nI_pos (n := f) (by omega) (by rw [q]; decide))
              · skip
                refine g_iload_n dX10_nextFor_57 rfl ?_
                refine g_iconst (v := 1) dX10_nextFor_58 (by decide) ?_
                refine g_icmpne 76 dX10_nextFor_59 (by decide) (fun c59 => ?_) (fun c59 => ?_)
                · skip
                  refine g_iconst (v := 0) dX10_nextFor_76 (by decide) ?_
                  refine g_istore dX10_nextFor_77 (by decide) rfl rfl ?_
                  refine g_iload dX10_nextFor_79 rfl ?_
                  refine g_ifeq 94 dX10_nextFor_81 (by decide) (fun c => absurd c (by decide)) (fun _ => ?_)
                  refine g_iload dX10_nextFor_84 rfl ?_
                  refine g_ifeq 94 dX10_nextFor_86 (by decide) (fun _ => ?_) (fun c => absurd c (by decide))
                  refine g_iload_n dX10_nextFor_94 rfl ?_
                  refine g_istore_n dX10_nextFor_95 (by decide) rfl rfl ?_
                  refine g_iinc dX10_nextFor_96 rfl (nI_inc e) (by decide) rfl rfl ?_
                  refine g_goto 5 dX10_nextFor_99 (by decide) ?_
                  have hm : vMS (vm hi N F) i e = true := by
                    have z : vm hi N F 11 e = -1 := by rw [m11e, ← hec]; exact c32
                    have z2 := bI_n.mp c21
                    simp_all [vMS, vTaken, bI_0.mp c42]
                  exact ih (e + 1) _ _ _ (by omega) (by
                    have hz : nfV (vm hi N F) i (decide (o = 1)) (e + 1) = some f := by rw [nfV, hq]; simp [hm, c59]
                    rw [hz]; rfl)
                · skip
                  refine g_aload_n dX10_nextFor_62 rfl ?_
                  refine g_iload dX10_nextFor_63 rfl ?_
                  refine g_iload_n dX10_nextFor_65 rfl ?_
                  refine g_callV2 (M' := mX10_prefers) (mc' := 0) (ms' := 0) dX10_nextFor_66 l_X10_236 s_mX10_prefers (by decide) rfl rfl f_mX10_prefers (Nat.le_of_ble_eq_true rfl) (by decide) (ct_prefers hj0 heN (by omega)) ?_
                  rintro _ _ ⟨rfl, rfl⟩
                  refine g_ifeq 76 dX10_nextFor_69 (by decide) (fun c69 => ?_) (fun c69 => ?_)
                  · skip
                    refine g_iconst (v := 0) dX10_nextFor_76 (by decide) ?_
                    refine g_istore dX10_nextFor_77 (by decide) rfl rfl ?_
                    refine g_iload dX10_nextFor_79 rfl ?_
                    refine g_ifeq 94 dX10_nextFor_81 (by decide) (fun c => absurd c (by decide)) (fun _ => ?_)
                    refine g_iload dX10_nextFor_84 rfl ?_
                    refine g_ifeq 94 dX10_nextFor_86 (by decide) (fun _ => ?_) (fun c => absurd c (by decide))
                    refine g_iload_n dX10_nextFor_94 rfl ?_
                    refine g_istore_n dX10_nextFor_95 (by decide) rfl rfl ?_
                    refine g_iinc dX10_nextFor_96 rfl (nI_inc e) (by decide) rfl rfl ?_
                    refine g_goto 5 dX10_nextFor_99 (by decide) ?_
                    have hm : vMS (vm hi N F) i e = true := by
                      have z : vm hi N F 11 e = -1 := by rw [m11e, ← hec]; exact c32
                      have z2 := bI_n.mp c21
                      simp_all [vMS, vTaken, bI_0.mp c42]
                    exact ih (e + 1) _ _ _ (by omega) (by
                      have hz : nfV (vm hi N F) i (decide (o = 1)) (e + 1) = some f := by rw [nfV, hq]; simp [hm, bI_0.mp c69]
                      rw [hz]; rfl)
                  · skip
                    refine g_iconst (v := 1) dX10_nextFor_72 (by decide) ?_
                    refine g_goto 77 dX10_nextFor_73 (by decide) ?_
                    refine g_istore dX10_nextFor_77 (by decide) rfl rfl ?_
                    refine g_iload dX10_nextFor_79 rfl ?_
                    refine g_ifeq 94 dX10_nextFor_81 (by decide) (fun c => absurd c (by decide)) (fun _ => ?_)
                    refine g_iload dX10_nextFor_84 rfl ?_
                    refine g_ifeq 94 dX10_nextFor_86 (by decide) (fun c => absurd c (by decide)) (fun _ => ?_)
                    refine g_iload dX10_nextFor_89 rfl ?_
                    refine g_goto 95 dX10_nextFor_91 (by decide) ?_
                    refine g_istore_n dX10_nextFor_95 (by decide) rfl rfl ?_
                    refine g_iinc dX10_nextFor_96 rfl (nI_inc e) (by decide) rfl rfl ?_
                    refine g_goto 5 dX10_nextFor_99 (by decide) ?_
                    have hm : vMS (vm hi N F) i e = true := by
                      have z : vm hi N F 11 e = -1 := by rw [m11e, ← hec]; exact c32
                      have z2 := bI_n.mp c21
                      simp_all [vMS, vTaken, bI_0.mp c42]
                    exact ih (e + 1) _ _ _ (by omega) (by
                      have hz : nfV (vm hi N F) i (decide (o = 1)) (e + 1) = some e := by rw [nfV, hq]; simp [hm, c59, bI_n.mp c69]
                      rw [hz]; rfl)

set_option maxRecDepth 100000 in
set_option maxHeartbeats 4000000 in
theorem ct_nextFor {N F : Nat} (hj : MO7 hi N F) {i : Nat} (hi1 : i < N) (o : Int32) : MC E l 3 mX10_nextFor [.ref 53, .int (nI i), .int o] 83 (hi, hl, RT) 0 0 (fun r h' => r = some (.int (oI (nfV (vm hi N F) i (decide (o = 1)) N))) ∧ h' = (hi, hl, RT)) := by
  refine MC.of [some (.ref 53), some (.int (nI i)), some (.int o), none, none, none, none] (by decide) rfl (Nat.le_of_ble_eq_true rfl) ?_
  refine g_iconst (v := -1) dX10_nextFor_0 (by decide) ?_
  refine g_istore_n dX10_nextFor_1 (by decide) rfl rfl ?_
  refine g_iconst (v := 0) dX10_nextFor_2 (by decide) ?_
  refine g_istore dX10_nextFor_3 (by decide) rfl rfl ?_
  exact lp_nextFor hj hi1 o N 0 _ none none (by omega) rfl

set_option maxRecDepth 100000 in
set_option maxHeartbeats 4000000 in
theorem lp_showThree {N F i : Nat} (hi1 : i < N) (o : Int32) : ∀ (n k : Nat) (g : Nat → Nat → Int32) (l4 : Option Value), k + n = 3 → MO7 g N F → G E l 6 mX10_showThree 2 [some (.ref 53), some (.int (nI i)), some (.int o), some (.int (nI k)), l4] [] 83 (g, hl, RT) 0 0 (fun r h' => r = none ∧ ∃ hf, h' = (hf, hl, RT) ∧ MR g hf ∧ vm hf N F = stV N (g 53 12) (decide (o = 1)) i n (vm g N F)) := by
  intro n
  induction n with
  | zero =>
    intro k g l4 hkn hj
    have hk3 : k = 3 := by omega
    subst hk3
    refine g_iload_n dX10_showThree_2 rfl ?_
    refine g_iconst (v := 3) dX10_showThree_3 (by decide) ?_
    refine g_icmpge 35 dX10_showThree_4 (by decide) (fun c4 => ?_) (fun c4 => ?_)
    · skip
      exact g_return dX10_showThree_35 rfl ⟨rfl, g, rfl, MR.rf, rfl⟩
    · skip
      exact absurd (by decide) c4
  | succ n ih =>
    intro k g l4 hkn hj
    have hk3 : k < 3 := by omega
    have hN8 := hj.1
    cases hq : nfV (vm g N F) i (decide (o = 1)) N with
    | none =>
      refine g_iload_n dX10_showThree_2 rfl ?_
      refine g_iconst (v := 3) dX10_showThree_3 (by decide) ?_
      refine g_icmpge 35 dX10_showThree_4 (by decide) (fun c4 => ?_) (fun c4 => ?_)
      · skip
        exact absurd ((nI_leI (a := 3) (by decide) (by omega)).mp c4) (by omega)
      · skip
        refine g_aload_n dX10_showThree_7 rfl ?_
        refine g_iload_n dX10_showThree_8 rfl ?_
        refine g_iload_n dX10_showThree_9 rfl ?_
        refine g_callV2 (M' := mX10_nextFor) (mc' := 0) (ms' := 0) dX10_showThree_10 l_X10_276 s_mX10_nextFor (by decide) rfl rfl f_mX10_nextFor (Nat.le_of_ble_eq_true rfl) (by decide) ((ct_nextFor hj hi1 o).weaken (fun r h' q => (⟨by rw [q.1, hq]; rfl, q.2⟩ : r = some (.int (-1)) ∧ h' = (g, hl, RT)))) ?_
        rintro _ _ ⟨rfl, rfl⟩
        refine g_istore dX10_showThree_13 (by decide) rfl rfl ?_
        refine g_iload dX10_showThree_15 rfl ?_
        refine g_iconst (v := -1) dX10_showThree_17 (by decide) ?_
        refine g_icmpeq 29 dX10_showThree_18 (by decide) (fun _ => ?_) (fun c => absurd c (by decide))
        refine g_iinc dX10_showThree_29 rfl (nI_inc k) (by decide) rfl rfl ?_
        refine g_goto 2 dX10_showThree_32 (by decide) ?_
        have e1 : stV N (g 53 12) (decide (o = 1)) i (n + 1) (vm g N F) = stV N (g 53 12) (decide (o = 1)) i n (vm g N F) := by rw [stV, hq]
        rw [e1]
        exact ih (k + 1) g _ (by omega) hj
    | some f =>
      have hfN : f < N := nfV_lt hq
      refine g_iload_n dX10_showThree_2 rfl ?_
      refine g_iconst (v := 3) dX10_showThree_3 (by decide) ?_
      refine g_icmpge 35 dX10_showThree_4 (by decide) (fun c4 => ?_) (fun c4 => ?_)
      · skip
        exact absurd ((nI_leI (a := 3) (by decide) (by omega)).mp c4) (by omega)
      · skip
        refine g_aload_n dX10_showThree_7 rfl ?_
        refine g_iload_n dX10_showThree_8 rfl ?_
        refine g_iload_n dX10_showThree_9 rfl ?_
        refine g_callV2 (M' := mX10_nextFor) (mc' := 0) (ms' := 0) dX10_showThree_10 l_X10_276 s_mX10_nextFor (by decide) rfl rfl f_mX10_nextFor (Nat.le_of_ble_eq_true rfl) (by decide) ((ct_nextFor hj hi1 o).weaken (fun r h' q => (⟨by rw [q.1, hq]; rfl, q.2⟩ : r = some (.int (nI f)) ∧ h' = (g, hl, RT)))) ?_
        rintro _ _ ⟨rfl, rfl⟩
        refine g_istore dX10_showThree_13 (by decide) rfl rfl ?_
        refine g_iload dX10_showThree_15 rfl ?_
        refine g_iconst (v := -1) dX10_showThree_17 (by decide) ?_
        refine g_icmpeq 29 dX10_showThree_18 (by decide) (fun c18 => ?_) (fun c18 => ?_)
        · skip
          exact absurd c18 (fun q => nI_pos (n := f) (by omega) (by rw [q]; decide))
        · skip
          refine g_aload_n dX10_showThree_21 rfl ?_
          refine g_iload_n dX10_showThree_22 rfl ?_
          refine g_iload dX10_showThree_23 rfl ?_
          refine g_callV2 (M' := mX10_shown) (mc' := 0) (ms' := 0) dX10_showThree_25 l_X10_217 s_mX10_shown (by decide) rfl rfl f_mX10_shown (Nat.le_of_ble_eq_true rfl) (by decide) (ct_mShown hj hi1 hfN) ?_
          rintro _ _ ⟨rfl, rfl⟩
          refine g_pop dX10_showThree_28 rfl ?_
          refine g_iinc dX10_showThree_29 rfl (nI_inc k) (by decide) rfl rfl ?_
          refine g_goto 2 dX10_showThree_32 (by decide) ?_
          have e1 : stV N (g 53 12) (decide (o = 1)) i (n + 1) (vm g N F) = stV N (mShF g N F i f 53 12) (decide (o = 1)) i n (vm (mShF g N F i f) N F) := by rw [stV, hq, m_show hi1, (MR.sh (f := g) (by omega) f).lim]
          rw [e1]
          refine g_mono (fun r h2 q => ?_) (ih (k + 1) (mShF g N F i f) _ (by omega) (hj.sh i f))
          obtain ⟨q1, hf, q2, q3, q4⟩ := q
          exact ⟨q1, hf, q2, (MR.sh (by omega) f).trans q3, q4⟩

set_option maxRecDepth 100000 in
set_option maxHeartbeats 4000000 in
theorem ct_showThree {g : Nat → Nat → Int32} {N F i : Nat} (hj : MO7 g N F) (hi1 : i < N) (o : Int32) : MC E l 6 mX10_showThree [.ref 53, .int (nI i), .int o] 83 (g, hl, RT) 0 0 (fun r h' => r = none ∧ ∃ hf, h' = (hf, hl, RT) ∧ MR g hf ∧ vm hf N F = stV N (g 53 12) (decide (o = 1)) i 3 (vm g N F)) := by
  refine MC.of [some (.ref 53), some (.int (nI i)), some (.int o), none, none] (by decide) rfl (Nat.le_of_ble_eq_true rfl) ?_
  refine g_iconst (v := 0) dX10_showThree_0 (by decide) ?_
  refine g_istore_n dX10_showThree_1 (by decide) rfl rfl ?_
  exact lp_showThree hi1 o 3 0 g none (by omega) hj

def c3F (g : Nat → Nat → Int32) (i : Nat) : Nat → Nat → Int32 := fun a k => if (58 ≤ a ∧ a ≤ 60) ∧ k < i then 0 else g a k
theorem c3_0 (g : Nat → Nat → Int32) : c3F g 0 = g := by
  funext a k
  exact if_neg (by omega)
theorem c3_off {g : Nat → Nat → Int32} {i a : Nat} (h : a < 58 ∨ 60 < a) (k : Nat) : c3F g i a k = g a k := if_neg (by omega)
theorem c3_step (g : Nat → Nat → Int32) (i : Nat) : upI (upI (upI (c3F g i) 58 i 0) 59 i 0) 60 i 0 = c3F g (i + 1) := by
  funext a k
  unfold upI c3F
  by_cases h1 : k = i
  · by_cases h2 : 58 ≤ a ∧ a ≤ 60
    · rw [if_pos (c := (58 ≤ a ∧ a ≤ 60) ∧ k < i + 1) (by omega)]
      have : a = 58 ∨ a = 59 ∨ a = 60 := by omega
      rcases this with rfl | rfl | rfl <;> simp [h1]
    · rw [if_neg (by omega), if_neg (by omega), if_neg (by omega), if_neg (by omega), if_neg (by omega)]
  · rw [if_neg (by omega), if_neg (by omega), if_neg (by omega)]
    by_cases h2 : (58 ≤ a ∧ a ≤ 60) ∧ k < i
    · rw [if_pos h2, if_pos (by omega)]
    · rw [if_neg h2, if_neg (by omega)]
theorem MR.c3 {f : Nat → Nat → Int32} {N : Nat} (h : N ≤ 8) : MR f (c3F f N) := fun a k h1 h2 => if_neg (by omega)
theorem m_c3 {hi : Nat → Nat → Int32} {N F : Nat} : vm (c3F hi N) N F = c3V (vm hi N F) N := by
  funext s i
  unfold vm c3V c3F
  dsimp only
  by_cases q : i < N ∧ 2 ≤ s ∧ s ≤ 11
  · rw [if_pos q, if_pos q]
    by_cases s3 : s = 3
    · rw [if_pos s3, if_neg (by omega), if_pos s3]
    · rw [if_neg s3, if_neg s3]
      by_cases z : 7 ≤ s ∧ s ≤ 9
      · have w : (58 ≤ (if s = 2 then 54 else 51 + s) ∧ (if s = 2 then 54 else 51 + s) ≤ 60) ∧ i < N := by rw [if_neg (by omega)]; omega
        rw [if_pos w, if_pos ⟨q.1, z⟩]
      · have w : ¬ ((58 ≤ (if s = 2 then 54 else 51 + s) ∧ (if s = 2 then 54 else 51 + s) ≤ 60) ∧ i < N) := by split <;> omega
        rw [if_neg w, if_neg (c := i < N ∧ 7 ≤ s ∧ s ≤ 9) (by omega)]
  · rw [if_neg q, if_neg q]
    split <;> rfl
/-- the whole goes back to what it was -/
def CX (hi hf : Nat → Nat → Int32) : Prop := ∀ a k, ¬ (69 ≤ a ∧ a ≤ 72) → ¬ (a = 53 ∧ 34 ≤ k ∧ k ≤ 36) → hf a k = hi a k
theorem CX.rf {f : Nat → Nat → Int32} : CX f f := fun _ _ _ _ => rfl
theorem CX.trans {f g h : Nat → Nat → Int32} (h1 : CX f g) (h2 : CX g h) : CX f h := fun a k q z => (h2 a k q z).trans (h1 a k q z)
theorem CX.mo {f g : Nat → Nat → Int32} {N F : Nat} (h : CX f g) (hj : MO7 f N F) : MO7 g N F := hj.of (h 53 1 (by omega) (by omega)) (h 53 2 (by omega) (by omega))
theorem CX.vm {f g : Nat → Nat → Int32} {N F : Nat} (h : CX f g) : vm g N F = vm f N F := m_congr (fun k _ a h1 h2 => h a k (by omega) (by omega))
def cmB (hi : Nat → Nat → Int32) (lim : Int32) : Nat → Nat → Int32 := upI (svF (svS hi) 8) 53 12 lim
theorem cx_load {hi g : Nat → Nat → Int32} {lim : Int32} (h : MR (cmB hi lim) g) : CX hi (ldF (ldS g) 8) := by
  have hs : ∀ a k, 69 ≤ a → a ≤ 72 → k < 8 → g a k = hi (a - 11) k := by
    intro a k h1 h2 h3
    rw [h a k (by omega) (by omega), cmB, upI_a (by omega)]
    have e : svF (svS hi) 8 a k = svS hi (a - 11) k := if_pos ⟨⟨h1, h2⟩, h3⟩
    rw [e, svS, upI_a (by omega), upI_a (by omega), upI_a (by omega)]
  have hb : ∀ a k, (a < 58 ∨ 61 < a) → ¬ (69 ≤ a ∧ a ≤ 72) → ¬ (a = 53 ∧ (k = 12 ∨ k = 14 ∨ k = 15 ∨ k = 34 ∨ k = 35 ∨ k = 36)) → g a k = hi a k := by
    intro a k h1 h2 h3
    rw [h a k (by omega) (by omega), cmB, upI_a' (by omega), svF_off (by omega), svS, upI_a' (by omega), upI_a' (by omega), upI_a' (by omega)]
  have h8 : ∀ a k, 58 ≤ a → a ≤ 61 → 8 ≤ k → g a k = hi a k := by
    intro a k h1 h2 h3
    rw [h a k (by omega) (by omega), cmB, upI_a (by omega), svF_off (by omega), svS, upI_a (by omega), upI_a (by omega), upI_a (by omega)]
  have hsc : g 53 34 = hi 53 12 ∧ g 53 35 = hi 53 14 ∧ g 53 36 = hi 53 15 := by
    refine ⟨?_, ?_, ?_⟩
    · rw [h 53 34 (by omega) (by omega), cmB, upI_k (by decide), svF_off (by omega), svS, upI_k (by decide), upI_k (by decide), upI_s]
    · rw [h 53 35 (by omega) (by omega), cmB, upI_k (by decide), svF_off (by omega), svS, upI_k (by decide), upI_s]
    · rw [h 53 36 (by omega) (by omega), cmB, upI_k (by decide), svF_off (by omega), svS, upI_s]
  intro a k h1 h2
  by_cases c1 : (58 ≤ a ∧ a ≤ 61) ∧ k < 8
  · have e : ldF (ldS g) 8 a k = ldS g (a + 11) k := if_pos c1
    rw [e, ldS, upI_a (by omega), upI_a (by omega), upI_a (by omega), hs (a + 11) k (by omega) (by omega) c1.2]
    rfl
  · have e : ldF (ldS g) 8 a k = ldS g a k := if_neg c1
    rw [e]
    by_cases c2 : 58 ≤ a ∧ a ≤ 61
    · rw [ldS, upI_a (by omega), upI_a (by omega), upI_a (by omega)]
      exact h8 a k c2.1 c2.2 (by omega)
    · by_cases c3 : a = 53 ∧ (k = 12 ∨ k = 14 ∨ k = 15)
      · obtain ⟨rfl, c4⟩ := c3
        rcases c4 with rfl | rfl | rfl
        · rw [ldS, upI_k (by decide), upI_k (by decide), upI_s, hsc.1]
        · rw [ldS, upI_k (by decide), upI_s, hsc.2.1]
        · rw [ldS, upI_s, hsc.2.2]
      · rw [ldS, upI_a' (by omega), upI_a' (by omega), upI_a' (by omega)]
        exact hb a k (by omega) h1 (by omega)
theorem cmB_mo {hi : Nat → Nat → Int32} {N F : Nat} (hj : MO7 hi N F) (lim : Int32) : MO7 (cmB hi lim) N F := by
  refine hj.of ?_ ?_
  · rw [cmB, upI_k (by decide), svF_off (by omega), svS, upI_k (by decide), upI_k (by decide), upI_k (by decide)]
  · rw [cmB, upI_k (by decide), svF_off (by omega), svS, upI_k (by decide), upI_k (by decide), upI_k (by decide)]
theorem cmB_lim (hi : Nat → Nat → Int32) (lim : Int32) : cmB hi lim 53 12 = lim := upI_s
theorem cmB_vm {hi : Nat → Nat → Int32} {N F : Nat} (lim : Int32) : vm (cmB hi lim) N F = vm hi N F := by
  refine m_congr (fun k _ a h1 h2 => ?_)
  rw [cmB, upI_a (by omega), svF_off (by omega), svS, upI_a (by omega), upI_a (by omega), upI_a (by omega)]

set_option maxRecDepth 100000 in
set_option maxHeartbeats 4000000 in
theorem lp_cPeople {N F D dd : Nat} {lim o : Int32} {base : Nat → Nat → Int32} {Q : Option Value → XH → Prop} : ∀ (n i : Nat) (g : Nat → Nat → Int32), i + n = N → MO7 g N F → g 53 12 = lim → MR base g → (∀ hf l5, xcat2 l5 = false → MR base hf → MO7 hf N F → hf 53 12 = lim → vm hf N F = mppV (decide (o = 1)) lim N n i (vm g N F) → G E l 8 mX10_comesNow 120 [some (.ref 53), some (.int (nI D)), some (.int lim), some (.int o), some (.int (nI dd)), l5] [] 83 (hf, hl, RT) 0 0 (Q)) → G E l 8 mX10_comesNow 89 [some (.ref 53), some (.int (nI D)), some (.int lim), some (.int o), some (.int (nI dd)), some (.int (nI i))] [] 83 (g, hl, RT) 0 0 (Q) := by
  intro n
  induction n with
  | zero =>
    intro i g hin hj hlim hmr hk
    have hN8 := hj.1
    have hN := hj.2.2.1
    have hiN : i = N := by omega
    refine g_iload dX10_comesNow_89 rfl ?_
    refine g_aload_n dX10_comesNow_91 rfl ?_
    refine g_geti dX10_comesNow_92 k_X10_140 rfl (by decide) rfl ?_
    refine g_icmpge 120 dX10_comesNow_95 (by decide) (fun c95 => ?_) (fun c95 => ?_)
    · skip
      exact hk g _ rfl hmr hj hlim rfl
    · skip
      exact absurd (by show g 53 2 ≤ nI i; rw [hN, hiN]; exact nI_le (Nat.le_refl _) (by omega)) c95
  | succ n ih =>
    intro i g hin hj hlim hmr hk
    have hN8 := hj.1
    have hN := hj.2.2.1
    have hlt : i < N := by omega
    refine g_iload dX10_comesNow_89 rfl ?_
    refine g_aload_n dX10_comesNow_91 rfl ?_
    refine g_geti dX10_comesNow_92 k_X10_140 rfl (by decide) rfl ?_
    refine g_icmpge 120 dX10_comesNow_95 (by decide) (fun c95 => ?_) (fun c95 => ?_)
    · skip
      exact absurd (ge_out hN c95 (by omega) (by omega)) (by omega)
    · skip
      refine g_aload_n dX10_comesNow_98 rfl ?_
      refine g_iload dX10_comesNow_99 rfl ?_
      refine g_callV1 (M' := mX10_isFree) (mc' := 0) (ms' := 0) dX10_comesNow_101 l_X10_214 s_mX10_isFree (by decide) rfl rfl f_mX10_isFree (Nat.le_of_ble_eq_true rfl) (by decide) (ct_mFree hj hlt) ?_
      rintro _ _ ⟨rfl, rfl⟩
      refine g_ifeq 114 dX10_comesNow_104 (by decide) (fun c104 => ?_) (fun c104 => ?_)
      · skip
        refine g_iinc dX10_comesNow_114 rfl (nI_inc i) (by decide) rfl rfl ?_
        refine g_goto 89 dX10_comesNow_117 (by decide) ?_
        refine ih (i + 1) g (by omega) hj hlim hmr (fun hf l5 hx q1 q2 q3 q4 => hk hf l5 hx q1 q2 q3 ?_)
        rw [q4, mppV, if_neg (by rw [bI_0.mp c104]; decide)]
      · skip
        refine g_aload_n dX10_comesNow_107 rfl ?_
        refine g_iload dX10_comesNow_108 rfl ?_
        refine g_iload_n dX10_comesNow_110 rfl ?_
        refine g_callV2 (M' := mX10_showThree) (mc' := 0) (ms' := 0) dX10_comesNow_111 l_X10_285 s_mX10_showThree (by decide) rfl rfl f_mX10_showThree (Nat.le_of_ble_eq_true rfl) (by decide) (ct_showThree hj hlt o) ?_
        rintro _ _ ⟨rfl, hg, rfl, q2, q3⟩
        refine g_iinc dX10_comesNow_114 rfl (nI_inc i) (by decide) rfl rfl ?_
        refine g_goto 89 dX10_comesNow_117 (by decide) ?_
        refine ih (i + 1) hg (by omega) (q2.mo hj) (q2.lim.trans hlim) (hmr.trans q2) (fun hf l5 hx w1 w2 w3 w4 => hk hf l5 hx w1 w2 w3 ?_)
        rw [w4, q3, hlim, mppV, if_pos (bI_n.mp c104)]

set_option maxRecDepth 100000 in
set_option maxHeartbeats 4000000 in
theorem lp_cToday {N F D dd : Nat} {lim o : Int32} {g : Nat → Nat → Int32} (hj : MO7 g N F) {Q : Option Value → XH → Prop} (hk : ∀ l5, xcat2 l5 = false → G E l 8 mX10_comesNow 86 [some (.ref 53), some (.int (nI D)), some (.int lim), some (.int o), some (.int (nI dd)), l5] [] 83 (mdF g N, hl, RT) 0 0 (Q)) : ∀ (n i : Nat), i + n = N → G E l 8 mX10_comesNow 63 [some (.ref 53), some (.int (nI D)), some (.int lim), some (.int o), some (.int (nI dd)), some (.int (nI i))] [] 83 (mdF g i, hl, RT) 0 0 (Q) := by
  have hN8 := hj.1
  intro n
  induction n with
  | zero =>
    intro i hin
    have hiN : i = N := by omega
    have hN : mdF g i 53 2 = nI N := (md_off (by decide) 2).trans hj.2.2.1
    refine g_iload dX10_comesNow_63 rfl ?_
    refine g_aload_n dX10_comesNow_65 rfl ?_
    refine g_geti dX10_comesNow_66 k_X10_140 rfl (by decide) rfl ?_
    refine g_icmpge 86 dX10_comesNow_69 (by decide) (fun c69 => ?_) (fun c69 => ?_)
    · skip
      rw [hiN]
      exact hk _ rfl
    · skip
      exact absurd (by show mdF g i 53 2 ≤ nI i; rw [hN, hiN]; exact nI_le (Nat.le_refl _) (by omega)) c69
  | succ n ih =>
    intro i hin
    have hlt : i < N := by omega
    have hN : mdF g i 53 2 = nI N := (md_off (by decide) 2).trans hj.2.2.1
    have eci : (nI i).toNatClampNeg = i := nI_clamp (by omega)
    refine g_iload dX10_comesNow_63 rfl ?_
    refine g_aload_n dX10_comesNow_65 rfl ?_
    refine g_geti dX10_comesNow_66 k_X10_140 rfl (by decide) rfl ?_
    refine g_icmpge 86 dX10_comesNow_69 (by decide) (fun c69 => ?_) (fun c69 => ?_)
    · skip
      exact absurd (ge_out hN c69 (by omega) (by omega)) (by omega)
    · skip
      refine g_aload_n dX10_comesNow_72 rfl ?_
      refine g_getr dX10_comesNow_73 k_X10_31 rfl (by decide) rfl rfl ?_
      refine g_iload dX10_comesNow_76 rfl ?_
      refine g_iconst (v := 0) dX10_comesNow_78 (by decide) ?_
      refine g_iast dX10_comesNow_79 (by decide) rfl (vp_in_nI (by omega) (by decide)) ?_
      refine g_iinc dX10_comesNow_80 rfl (nI_inc i) (by decide) rfl rfl ?_
      refine g_goto 63 dX10_comesNow_83 (by decide) ?_
      rw [eci, md_step]
      exact ih (i + 1) (by omega)

set_option maxRecDepth 100000 in
set_option maxHeartbeats 4000000 in
theorem lp_cDays {N F D : Nat} {lim o : Int32} (hD : D ≤ 100) : ∀ (n dd : Nat) (g : Nat → Nat → Int32) (l5 : Option Value), dd + n = D → xcat2 l5 = false → MO7 g N F → g 53 12 = lim → MR (cmB hi lim) g → vm g N F = vm g N F → G E l 8 mX10_comesNow 54 [some (.ref 53), some (.int (nI D)), some (.int lim), some (.int o), some (.int (nI dd)), l5] [] 83 (g, hl, RT) 0 0 (fun r h' => ∃ hf, r = some (.int (sumI (fun k => szF (orB (fun q => vMatch (mdyV (decide (o = 1)) lim N n (vm g N F)) k q) bitI N)) F)) ∧ h' = (hf, hl, RT) ∧ CX hi hf) := by
  intro n
  induction n with
  | zero =>
    intro dd g l5 hdn hx hj hlim hmr hv
    have hdD : dd = D := by omega
    refine g_iload dX10_comesNow_54 rfl ?_
    refine g_iload_n dX10_comesNow_56 rfl ?_
    refine g_icmpge 126 dX10_comesNow_57 (by decide) (fun c57 => ?_) (fun c57 => ?_)
    · skip
      refine g_aload_n dX10_comesNow_126 rfl ?_
      refine g_callV0 (M' := mX10_matches) (mc' := 0) (ms' := 0) dX10_comesNow_127 l_X10_288 s_mX10_matches (by decide) rfl rfl f_mX10_matches (Nat.le_of_ble_eq_true rfl) (by decide) (ct_matches hj) ?_
      rintro _ _ ⟨rfl, rfl⟩
      refine g_istore dX10_comesNow_130 (by decide) rfl rfl ?_
      refine g_aload_n dX10_comesNow_132 rfl ?_
      refine g_callV0 (M' := mX10_load) (mc' := 0) (ms' := 0) dX10_comesNow_133 l_X10_291 s_mX10_load (by decide) rfl rfl f_mX10_load (Nat.le_of_ble_eq_true rfl) (by decide) (ct_load) ?_
      rintro _ _ ⟨rfl, rfl⟩
      refine g_iload dX10_comesNow_136 rfl ?_
      exact g_ireturn dX10_comesNow_138 rfl rfl ⟨_, rfl, rfl, cx_load hmr⟩
    · skip
      exact absurd (nI_le (by omega) (by omega)) c57
  | succ n ih =>
    intro dd g l5 hdn hx hj hlim hmr hv
    have hN8 := hj.1
    have hdD : dd < D := by omega
    refine g_iload dX10_comesNow_54 rfl ?_
    refine g_iload_n dX10_comesNow_56 rfl ?_
    refine g_icmpge 126 dX10_comesNow_57 (by decide) (fun c57 => ?_) (fun c57 => ?_)
    · skip
      exact absurd ((nI_leI (by omega) (by omega)).mp c57) (by omega)
    · skip
      refine g_iconst (v := 0) dX10_comesNow_60 (by decide) ?_
      refine g_istore dX10_comesNow_61 (by decide) rfl rfl ?_
      have hm := MR.md (f := g) hN8
      have hh := lp_cToday (E := E) (l := l) (hl := hl) (D := D) (dd := dd) (lim := lim) (o := o) hj (Q := fun r h' => ∃ hf, r = some (.int (sumI (fun k => szF (orB (fun q => vMatch (mdyV (decide (o = 1)) lim N (n + 1) (vm g N F)) k q) bitI N)) F)) ∧ h' = (hf, hl, RT) ∧ CX hi hf) (fun l5 hx5 => ?_) N 0 (by omega)
      · rw [md_0] at hh
        exact hh
      · skip
        refine g_iconst (v := 0) dX10_comesNow_86 (by decide) ?_
        refine g_istore dX10_comesNow_87 (by decide) rfl rfl ?_
        refine lp_cPeople N 0 (mdF g N) (by omega) (hm.mo hj) (hm.lim.trans hlim) (hmr.trans hm) (fun hf l5 hx w1 w2 w3 w4 => ?_)
        refine g_iinc dX10_comesNow_120 rfl (nI_inc dd) (by decide) rfl rfl ?_
        refine g_goto 54 dX10_comesNow_123 (by decide) ?_
        have e : mdyV (decide (o = 1)) lim N (n + 1) (vm g N F) = mdyV (decide (o = 1)) lim N n (vm hf N F) := by rw [mdyV, w4, m_md]
        rw [e]
        exact ih (dd + 1) hf _ (by omega) hx w2 w3 w1 rfl

set_option maxRecDepth 100000 in
set_option maxHeartbeats 4000000 in
theorem lp_cClear {N F D : Nat} {lim o : Int32} {g : Nat → Nat → Int32} (hj : MO7 g N F) {Q : Option Value → XH → Prop} (hk : ∀ l4, xcat2 l4 = false → G E l 8 mX10_comesNow 51 [some (.ref 53), some (.int (nI D)), some (.int lim), some (.int o), l4, none] [] 83 (c3F g N, hl, RT) 0 0 (Q)) : ∀ (n i : Nat), i + n = N → G E l 8 mX10_comesNow 12 [some (.ref 53), some (.int (nI D)), some (.int lim), some (.int o), some (.int (nI i)), none] [] 83 (c3F g i, hl, RT) 0 0 (Q) := by
  have hN8 := hj.1
  intro n
  induction n with
  | zero =>
    intro i hin
    have hiN : i = N := by omega
    have hN : c3F g i 53 2 = nI N := (c3_off (by omega) 2).trans hj.2.2.1
    refine g_iload dX10_comesNow_12 rfl ?_
    refine g_aload_n dX10_comesNow_14 rfl ?_
    refine g_geti dX10_comesNow_15 k_X10_140 rfl (by decide) rfl ?_
    refine g_icmpge 51 dX10_comesNow_18 (by decide) (fun c18 => ?_) (fun c18 => ?_)
    · skip
      rw [hiN]
      exact hk _ rfl
    · skip
      exact absurd (by show c3F g i 53 2 ≤ nI i; rw [hN, hiN]; exact nI_le (Nat.le_refl _) (by omega)) c18
  | succ n ih =>
    intro i hin
    have hlt : i < N := by omega
    have hN : c3F g i 53 2 = nI N := (c3_off (by omega) 2).trans hj.2.2.1
    have eci : (nI i).toNatClampNeg = i := nI_clamp (by omega)
    refine g_iload dX10_comesNow_12 rfl ?_
    refine g_aload_n dX10_comesNow_14 rfl ?_
    refine g_geti dX10_comesNow_15 k_X10_140 rfl (by decide) rfl ?_
    refine g_icmpge 51 dX10_comesNow_18 (by decide) (fun c18 => ?_) (fun c18 => ?_)
    · skip
      exact absurd (ge_out hN c18 (by omega) (by omega)) (by omega)
    · skip
      refine g_aload_n dX10_comesNow_21 rfl ?_
      refine g_getr dX10_comesNow_22 k_X10_22 rfl (by decide) rfl rfl ?_
      refine g_iload dX10_comesNow_25 rfl ?_
      refine g_iconst (v := 0) dX10_comesNow_27 (by decide) ?_
      refine g_iast dX10_comesNow_28 (by decide) rfl (vp_in_nI (by omega) (by decide)) ?_
      refine g_aload_n dX10_comesNow_29 rfl ?_
      refine g_getr dX10_comesNow_30 k_X10_25 rfl (by decide) rfl rfl ?_
      refine g_iload dX10_comesNow_33 rfl ?_
      refine g_iconst (v := 0) dX10_comesNow_35 (by decide) ?_
      refine g_iast dX10_comesNow_36 (by decide) rfl (vp_in_nI (by omega) (by decide)) ?_
      refine g_aload_n dX10_comesNow_37 rfl ?_
      refine g_getr dX10_comesNow_38 k_X10_28 rfl (by decide) rfl rfl ?_
      refine g_iload dX10_comesNow_41 rfl ?_
      refine g_iconst (v := 0) dX10_comesNow_43 (by decide) ?_
      refine g_iast dX10_comesNow_44 (by decide) rfl (vp_in_nI (by omega) (by decide)) ?_
      refine g_iinc dX10_comesNow_45 rfl (nI_inc i) (by decide) rfl rfl ?_
      refine g_goto 12 dX10_comesNow_48 (by decide) ?_
      rw [eci, c3_step]
      exact ih (i + 1) (by omega)

set_option maxRecDepth 100000 in
set_option maxHeartbeats 4000000 in
theorem ct_comesNow {N F : Nat} (hj : MO7 hi N F) {D : Nat} (hD : D ≤ 100) (lim o : Int32) : MC E l 8 mX10_comesNow [.ref 53, .int (nI D), .int lim, .int o] 83 (hi, hl, RT) 0 0 (fun r h' => ∃ hf, r = some (.int (mcV (vm hi N F) N F D lim (decide (o = 1)))) ∧ h' = (hf, hl, RT) ∧ CX hi hf) := by
  refine MC.of [some (.ref 53), some (.int (nI D)), some (.int lim), some (.int o), none, none] (by decide) rfl (Nat.le_of_ble_eq_true rfl) ?_
  refine g_aload_n dX10_comesNow_0 rfl ?_
  refine g_callV0 (M' := mX10_save) (mc' := 0) (ms' := 0) dX10_comesNow_1 l_X10_282 s_mX10_save (by decide) rfl rfl f_mX10_save (Nat.le_of_ble_eq_true rfl) (by decide) (ct_save) ?_
  rintro _ _ ⟨rfl, rfl⟩
  refine g_aload_n dX10_comesNow_4 rfl ?_
  refine g_iload_n dX10_comesNow_5 rfl ?_
  refine g_puti dX10_comesNow_6 k_X10_143 rfl (by decide) rfl rfl rfl ?_
  refine g_iconst (v := 0) dX10_comesNow_9 (by decide) ?_
  refine g_istore dX10_comesNow_10 (by decide) rfl rfl ?_
  have hjb := cmB_mo hj lim
  have hh := lp_cClear (E := E) (l := l) (hl := hl) (D := D) (lim := lim) (o := o) hjb (Q := fun r h' => ∃ hf, r = some (.int (mcV (vm hi N F) N F D lim (decide (o = 1)))) ∧ h' = (hf, hl, RT) ∧ CX hi hf) (fun l4 hx4 => ?_) N 0 (by omega)
  · rw [c3_0] at hh
    exact hh
  · skip
    refine g_iconst (v := 0) dX10_comesNow_51 (by decide) ?_
    refine g_istore dX10_comesNow_52 (by decide) rfl rfl ?_
    have hc := MR.c3 (f := cmB hi lim) hj.1
    have e : mcV (vm hi N F) N F D lim (decide (o = 1)) = sumI (fun k => szF (orB (fun q => vMatch (mdyV (decide (o = 1)) lim N D (vm (c3F (cmB hi lim) N) N F)) k q) bitI N)) F := by rw [mcV, m_c3, cmB_vm]
    rw [e]
    exact lp_cDays hD D 0 (c3F (cmB hi lim) N) none (by omega) rfl (hc.mo hjb) (hc.lim.trans (cmB_lim hi lim)) hc rfl

set_option maxRecDepth 100000 in
set_option maxHeartbeats 4000000 in
theorem ct_mcomesX1 (x y z : Int32) (hx : (!decide (x < 1) && !decide (8 < x)) = false) : MC E l 9 mX10_comes [.ref 53, .int x, .int y, .int z] 83 (hi, hl, RT) 0 0 (fun r h' => r = some (.int (-102)) ∧ h' = (hi, hl, RT)) := by
  refine MC.of [some (.ref 53), some (.int x), some (.int y), some (.int z)] (by decide) rfl (Nat.le_of_ble_eq_true rfl) ?_
  refine g_iload_n dX10_comes_0 rfl ?_
  refine g_iconst (v := 1) dX10_comes_1 (by decide) ?_
  refine g_bipush (v := 8) dX10_comes_2 (by decide) ?_
  refine g_callS3 (M' := mX10_within) (mc' := 0) (ms' := 0) dX10_comes_4 l_X10_98 s_mX10_within f_mX10_within (Nat.le_of_ble_eq_true rfl) (by decide) ((ct_within _ _ _).weaken (fun r h' q => (⟨by rw [q.1, hx]; rfl, q.2⟩ : r = some (.int 0) ∧ h' = (hi, hl, RT)))) ?_
  rintro _ _ ⟨rfl, rfl⟩
  refine g_ifeq 29 dX10_comes_7 (by decide) (fun _ => ?_) (fun c => absurd c (by decide))
  refine g_bipush (v := -102) dX10_comes_29 (by decide) ?_
  exact g_ireturn dX10_comes_31 rfl rfl ⟨rfl, rfl⟩

set_option maxRecDepth 100000 in
set_option maxHeartbeats 4000000 in
theorem ct_mcomesX2 (x y z : Int32) (hx : (!decide (x < 1) && !decide (8 < x)) = true) (hy : (!decide (y < 1) && !decide (9 < y)) = false) : MC E l 9 mX10_comes [.ref 53, .int x, .int y, .int z] 83 (hi, hl, RT) 0 0 (fun r h' => r = some (.int (-102)) ∧ h' = (hi, hl, RT)) := by
  refine MC.of [some (.ref 53), some (.int x), some (.int y), some (.int z)] (by decide) rfl (Nat.le_of_ble_eq_true rfl) ?_
  refine g_iload_n dX10_comes_0 rfl ?_
  refine g_iconst (v := 1) dX10_comes_1 (by decide) ?_
  refine g_bipush (v := 8) dX10_comes_2 (by decide) ?_
  refine g_callS3 (M' := mX10_within) (mc' := 0) (ms' := 0) dX10_comes_4 l_X10_98 s_mX10_within f_mX10_within (Nat.le_of_ble_eq_true rfl) (by decide) ((ct_within _ _ _).weaken (fun r h' q => (⟨by rw [q.1, hx]; rfl, q.2⟩ : r = some (.int 1) ∧ h' = (hi, hl, RT)))) ?_
  rintro _ _ ⟨rfl, rfl⟩
  refine g_ifeq 29 dX10_comes_7 (by decide) (fun c => absurd c (by decide)) (fun _ => ?_)
  refine g_iload_n dX10_comes_10 rfl ?_
  refine g_iconst (v := 1) dX10_comes_11 (by decide) ?_
  refine g_bipush (v := 9) dX10_comes_12 (by decide) ?_
  refine g_callS3 (M' := mX10_within) (mc' := 0) (ms' := 0) dX10_comes_14 l_X10_98 s_mX10_within f_mX10_within (Nat.le_of_ble_eq_true rfl) (by decide) ((ct_within _ _ _).weaken (fun r h' q => (⟨by rw [q.1, hy]; rfl, q.2⟩ : r = some (.int 0) ∧ h' = (hi, hl, RT)))) ?_
  rintro _ _ ⟨rfl, rfl⟩
  refine g_ifeq 29 dX10_comes_17 (by decide) (fun _ => ?_) (fun c => absurd c (by decide))
  refine g_bipush (v := -102) dX10_comes_29 (by decide) ?_
  exact g_ireturn dX10_comes_31 rfl rfl ⟨rfl, rfl⟩

set_option maxRecDepth 100000 in
set_option maxHeartbeats 4000000 in
theorem ct_mcomesX3 (x y z : Int32) (hx : (!decide (x < 1) && !decide (8 < x)) = true) (hy : (!decide (y < 1) && !decide (9 < y)) = true) (hz : (!decide (z < 0) && !decide (1 < z)) = false) : MC E l 9 mX10_comes [.ref 53, .int x, .int y, .int z] 83 (hi, hl, RT) 0 0 (fun r h' => r = some (.int (-102)) ∧ h' = (hi, hl, RT)) := by
  refine MC.of [some (.ref 53), some (.int x), some (.int y), some (.int z)] (by decide) rfl (Nat.le_of_ble_eq_true rfl) ?_
  refine g_iload_n dX10_comes_0 rfl ?_
  refine g_iconst (v := 1) dX10_comes_1 (by decide) ?_
  refine g_bipush (v := 8) dX10_comes_2 (by decide) ?_
  refine g_callS3 (M' := mX10_within) (mc' := 0) (ms' := 0) dX10_comes_4 l_X10_98 s_mX10_within f_mX10_within (Nat.le_of_ble_eq_true rfl) (by decide) ((ct_within _ _ _).weaken (fun r h' q => (⟨by rw [q.1, hx]; rfl, q.2⟩ : r = some (.int 1) ∧ h' = (hi, hl, RT)))) ?_
  rintro _ _ ⟨rfl, rfl⟩
  refine g_ifeq 29 dX10_comes_7 (by decide) (fun c => absurd c (by decide)) (fun _ => ?_)
  refine g_iload_n dX10_comes_10 rfl ?_
  refine g_iconst (v := 1) dX10_comes_11 (by decide) ?_
  refine g_bipush (v := 9) dX10_comes_12 (by decide) ?_
  refine g_callS3 (M' := mX10_within) (mc' := 0) (ms' := 0) dX10_comes_14 l_X10_98 s_mX10_within f_mX10_within (Nat.le_of_ble_eq_true rfl) (by decide) ((ct_within _ _ _).weaken (fun r h' q => (⟨by rw [q.1, hy]; rfl, q.2⟩ : r = some (.int 1) ∧ h' = (hi, hl, RT)))) ?_
  rintro _ _ ⟨rfl, rfl⟩
  refine g_ifeq 29 dX10_comes_17 (by decide) (fun c => absurd c (by decide)) (fun _ => ?_)
  refine g_iload_n dX10_comes_20 rfl ?_
  refine g_iconst (v := 0) dX10_comes_21 (by decide) ?_
  refine g_iconst (v := 1) dX10_comes_22 (by decide) ?_
  refine g_callS3 (M' := mX10_within) (mc' := 0) (ms' := 0) dX10_comes_23 l_X10_98 s_mX10_within f_mX10_within (Nat.le_of_ble_eq_true rfl) (by decide) ((ct_within _ _ _).weaken (fun r h' q => (⟨by rw [q.1, hz]; rfl, q.2⟩ : r = some (.int 0) ∧ h' = (hi, hl, RT)))) ?_
  rintro _ _ ⟨rfl, rfl⟩
  refine g_ifne 32 dX10_comes_26 (by decide) (fun c => absurd c (by decide)) (fun _ => ?_)
  refine g_bipush (v := -102) dX10_comes_29 (by decide) ?_
  exact g_ireturn dX10_comes_31 rfl rfl ⟨rfl, rfl⟩

set_option maxRecDepth 100000 in
set_option maxHeartbeats 4000000 in
theorem ct_mcomesE (x y z : Int32) (hx : (!decide (x < 1) && !decide (8 < x)) = true) (hy : (!decide (y < 1) && !decide (9 < y)) = true) (hz : (!decide (z < 0) && !decide (1 < z)) = true) (hE : hi 53 2 = 0) : MC E l 9 mX10_comes [.ref 53, .int x, .int y, .int z] 83 (hi, hl, RT) 0 0 (fun r h' => r = some (.int (-103)) ∧ h' = (hi, hl, RT)) := by
  refine MC.of [some (.ref 53), some (.int x), some (.int y), some (.int z)] (by decide) rfl (Nat.le_of_ble_eq_true rfl) ?_
  refine g_iload_n dX10_comes_0 rfl ?_
  refine g_iconst (v := 1) dX10_comes_1 (by decide) ?_
  refine g_bipush (v := 8) dX10_comes_2 (by decide) ?_
  refine g_callS3 (M' := mX10_within) (mc' := 0) (ms' := 0) dX10_comes_4 l_X10_98 s_mX10_within f_mX10_within (Nat.le_of_ble_eq_true rfl) (by decide) ((ct_within _ _ _).weaken (fun r h' q => (⟨by rw [q.1, hx]; rfl, q.2⟩ : r = some (.int 1) ∧ h' = (hi, hl, RT)))) ?_
  rintro _ _ ⟨rfl, rfl⟩
  refine g_ifeq 29 dX10_comes_7 (by decide) (fun c => absurd c (by decide)) (fun _ => ?_)
  refine g_iload_n dX10_comes_10 rfl ?_
  refine g_iconst (v := 1) dX10_comes_11 (by decide) ?_
  refine g_bipush (v := 9) dX10_comes_12 (by decide) ?_
  refine g_callS3 (M' := mX10_within) (mc' := 0) (ms' := 0) dX10_comes_14 l_X10_98 s_mX10_within f_mX10_within (Nat.le_of_ble_eq_true rfl) (by decide) ((ct_within _ _ _).weaken (fun r h' q => (⟨by rw [q.1, hy]; rfl, q.2⟩ : r = some (.int 1) ∧ h' = (hi, hl, RT)))) ?_
  rintro _ _ ⟨rfl, rfl⟩
  refine g_ifeq 29 dX10_comes_17 (by decide) (fun c => absurd c (by decide)) (fun _ => ?_)
  refine g_iload_n dX10_comes_20 rfl ?_
  refine g_iconst (v := 0) dX10_comes_21 (by decide) ?_
  refine g_iconst (v := 1) dX10_comes_22 (by decide) ?_
  refine g_callS3 (M' := mX10_within) (mc' := 0) (ms' := 0) dX10_comes_23 l_X10_98 s_mX10_within f_mX10_within (Nat.le_of_ble_eq_true rfl) (by decide) ((ct_within _ _ _).weaken (fun r h' q => (⟨by rw [q.1, hz]; rfl, q.2⟩ : r = some (.int 1) ∧ h' = (hi, hl, RT)))) ?_
  rintro _ _ ⟨rfl, rfl⟩
  refine g_ifne 32 dX10_comes_26 (by decide) (fun _ => ?_) (fun c => absurd c (by decide))
  refine g_aload_n dX10_comes_32 rfl ?_
  refine g_geti dX10_comes_33 k_X10_140 rfl (by decide) rfl ?_
  refine g_ifne 44 dX10_comes_36 (by decide) (fun c36 => ?_) (fun c36 => ?_)
  · skip
    exact absurd hE c36
  · skip
    refine g_bipush (v := -103) dX10_comes_39 (by decide) ?_
    refine g_goto 51 dX10_comes_41 (by decide) ?_
    exact g_ireturn dX10_comes_51 rfl rfl ⟨rfl, rfl⟩

set_option maxRecDepth 100000 in
set_option maxHeartbeats 4000000 in
theorem ct_mcomes {N F : Nat} (hj : MO7 hi N F) {D : Nat} (hD : D ≤ 100) (y z : Int32) (hx : (!decide (nI D < 1) && !decide (8 < nI D)) = true) (hy : (!decide (y < 1) && !decide (9 < y)) = true) (hz : (!decide (z < 0) && !decide (1 < z)) = true) (hE : 0 < N) : MC E l 9 mX10_comes [.ref 53, .int (nI D), .int y, .int z] 83 (hi, hl, RT) 0 0 (fun r h' => ∃ hf, r = some (.int (mcV (vm hi N F) N F D y (decide (z = 1)))) ∧ h' = (hf, hl, RT) ∧ CX hi hf) := by
  refine MC.of [some (.ref 53), some (.int (nI D)), some (.int y), some (.int z)] (by decide) rfl (Nat.le_of_ble_eq_true rfl) ?_
  refine g_iload_n dX10_comes_0 rfl ?_
  refine g_iconst (v := 1) dX10_comes_1 (by decide) ?_
  refine g_bipush (v := 8) dX10_comes_2 (by decide) ?_
  refine g_callS3 (M' := mX10_within) (mc' := 0) (ms' := 0) dX10_comes_4 l_X10_98 s_mX10_within f_mX10_within (Nat.le_of_ble_eq_true rfl) (by decide) ((ct_within _ _ _).weaken (fun r h' q => (⟨by rw [q.1, hx]; rfl, q.2⟩ : r = some (.int 1) ∧ h' = (hi, hl, RT)))) ?_
  rintro _ _ ⟨rfl, rfl⟩
  refine g_ifeq 29 dX10_comes_7 (by decide) (fun c => absurd c (by decide)) (fun _ => ?_)
  refine g_iload_n dX10_comes_10 rfl ?_
  refine g_iconst (v := 1) dX10_comes_11 (by decide) ?_
  refine g_bipush (v := 9) dX10_comes_12 (by decide) ?_
  refine g_callS3 (M' := mX10_within) (mc' := 0) (ms' := 0) dX10_comes_14 l_X10_98 s_mX10_within f_mX10_within (Nat.le_of_ble_eq_true rfl) (by decide) ((ct_within _ _ _).weaken (fun r h' q => (⟨by rw [q.1, hy]; rfl, q.2⟩ : r = some (.int 1) ∧ h' = (hi, hl, RT)))) ?_
  rintro _ _ ⟨rfl, rfl⟩
  refine g_ifeq 29 dX10_comes_17 (by decide) (fun c => absurd c (by decide)) (fun _ => ?_)
  refine g_iload_n dX10_comes_20 rfl ?_
  refine g_iconst (v := 0) dX10_comes_21 (by decide) ?_
  refine g_iconst (v := 1) dX10_comes_22 (by decide) ?_
  refine g_callS3 (M' := mX10_within) (mc' := 0) (ms' := 0) dX10_comes_23 l_X10_98 s_mX10_within f_mX10_within (Nat.le_of_ble_eq_true rfl) (by decide) ((ct_within _ _ _).weaken (fun r h' q => (⟨by rw [q.1, hz]; rfl, q.2⟩ : r = some (.int 1) ∧ h' = (hi, hl, RT)))) ?_
  rintro _ _ ⟨rfl, rfl⟩
  refine g_ifne 32 dX10_comes_26 (by decide) (fun _ => ?_) (fun c => absurd c (by decide))
  refine g_aload_n dX10_comes_32 rfl ?_
  refine g_geti dX10_comes_33 k_X10_140 rfl (by decide) rfl ?_
  refine g_ifne 44 dX10_comes_36 (by decide) (fun c36 => ?_) (fun c36 => ?_)
  · skip
    refine g_aload_n dX10_comes_44 rfl ?_
    refine g_iload_n dX10_comes_45 rfl ?_
    refine g_iload_n dX10_comes_46 rfl ?_
    refine g_iload_n dX10_comes_47 rfl ?_
    refine g_callV3 (M' := mX10_comesNow) (mc' := 0) (ms' := 0) dX10_comes_48 l_X10_294 s_mX10_comesNow (by decide) rfl rfl f_mX10_comesNow (Nat.le_of_ble_eq_true rfl) (by decide) (ct_comesNow hj hD y z) ?_
    rintro _ _ ⟨hf, rfl, rfl, hcx⟩
    exact g_ireturn dX10_comes_51 rfl rfl ⟨hf, rfl, rfl, hcx⟩
  · skip
    exact absurd (hj.2.2.1.symm.trans c36) (nI_ne0 hE (by have := hj.1; omega))

set_option maxRecDepth 100000 in
set_option maxHeartbeats 4000000 in
theorem lp_bestNow {N F : Nat} (hj : MO7 hi N F) {D : Nat} (hD : D ≤ 100) (o : Int32) : ∀ (n j : Nat) (g : Nat → Nat → Int32) (u w : Int32) (l6 : Option Value), j + n = 9 → CX hi g → u = (bnV (fun j => mcV (vm hi N F) N F D (nI (j + 1)) (decide (o = 1))) j).1 → w = (bnV (fun j => mcV (vm hi N F) N F D (nI (j + 1)) (decide (o = 1))) j).2 → G E l 9 mX10_bestNow 8 [some (.ref 53), some (.int (nI D)), some (.int o), some (.int u), some (.int w), some (.int (nI (j + 1))), l6] [] 83 (g, hl, RT) 0 0 (fun r h' => ∃ hf, r = some (.int (bnV (fun j => mcV (vm hi N F) N F D (nI (j + 1)) (decide (o = 1))) 9).1) ∧ h' = (hf, hl, RT) ∧ CX hi hf) := by
  intro n
  induction n with
  | zero =>
    intro j g u w l6 hjn hcx hu hw
    have hj9 : j = 9 := by omega
    subst hj9
    refine g_iload dX10_bestNow_8 rfl ?_
    refine g_bipush (v := 9) dX10_bestNow_10 (by decide) ?_
    refine g_icmpgt 61 dX10_bestNow_12 (by decide) (fun c12 => ?_) (fun c12 => ?_)
    · skip
      refine g_iload_n dX10_bestNow_61 rfl ?_
      exact g_ireturn dX10_bestNow_62 rfl rfl ⟨g, by rw [hu], rfl, hcx⟩
    · skip
      exact absurd (by decide) c12
  | succ n ih =>
    intro j g u w l6 hjn hcx hu hw
    refine g_iload dX10_bestNow_8 rfl ?_
    refine g_bipush (v := 9) dX10_bestNow_10 (by decide) ?_
    refine g_icmpgt 61 dX10_bestNow_12 (by decide) (fun c12 => ?_) (fun c12 => ?_)
    · skip
      exact absurd ((nI_ltI (a := 9) (by decide) (by omega)).mp c12) (by omega)
    · skip
      refine g_aload_n dX10_bestNow_15 rfl ?_
      refine g_iload_n dX10_bestNow_16 rfl ?_
      refine g_iload dX10_bestNow_17 rfl ?_
      refine g_iload_n dX10_bestNow_19 rfl ?_
      refine g_callV3 (M' := mX10_comesNow) (mc' := 0) (ms' := 0) dX10_bestNow_20 l_X10_294 s_mX10_comesNow (by decide) rfl rfl f_mX10_comesNow (Nat.le_of_ble_eq_true rfl) (by decide) ((ct_comesNow (hcx.mo hj) hD (nI (j + 1)) o).weaken (fun r h' q => (by obtain ⟨hf, q1, q2, q3⟩ := q; exact ⟨hf, by rw [q1, hcx.vm], q2, q3⟩ : ∃ hf, r = some (.int (mcV (vm hi N F) N F D (nI (j + 1)) (decide (o = 1)))) ∧ h' = (hf, hl, RT) ∧ CX g hf))) ?_
      rintro _ _ ⟨hf, rfl, rfl, hc2⟩
      refine g_istore dX10_bestNow_23 (by decide) rfl rfl ?_
      refine g_iload dX10_bestNow_25 rfl ?_
      refine g_iload dX10_bestNow_27 rfl ?_
      refine g_icmple 37 dX10_bestNow_29 (by decide) (fun c29 => ?_) (fun c29 => ?_)
      · skip
        refine g_iload_n dX10_bestNow_37 rfl ?_
        refine g_istore_n dX10_bestNow_38 (by decide) rfl rfl ?_
        refine g_iload dX10_bestNow_39 rfl ?_
        refine g_iload dX10_bestNow_41 rfl ?_
        refine g_icmple 51 dX10_bestNow_43 (by decide) (fun c43 => ?_) (fun c43 => ?_)
        · skip
          refine g_iload dX10_bestNow_51 rfl ?_
          refine g_istore dX10_bestNow_53 (by decide) rfl rfl ?_
          refine g_iinc dX10_bestNow_55 rfl (nI_inc (j + 1)) (by decide) rfl rfl ?_
          refine g_goto 8 dX10_bestNow_58 (by decide) ?_
          exact ih (j + 1) hf _ _ _ (by omega) (hcx.trans hc2) (by rw [bnV, if_neg (by rw [← hw]; exact Int32.not_lt.mpr c29)]; exact hu) (by rw [bnV, if_neg (by rw [← hw]; exact Int32.not_lt.mpr c29)]; exact hw)
        · skip
          refine g_iload dX10_bestNow_46 rfl ?_
          refine g_goto 53 dX10_bestNow_48 (by decide) ?_
          refine g_istore dX10_bestNow_53 (by decide) rfl rfl ?_
          refine g_iinc dX10_bestNow_55 rfl (nI_inc (j + 1)) (by decide) rfl rfl ?_
          refine g_goto 8 dX10_bestNow_58 (by decide) ?_
          exact absurd c29 c43
      · skip
        refine g_iload dX10_bestNow_32 rfl ?_
        refine g_goto 38 dX10_bestNow_34 (by decide) ?_
        refine g_istore_n dX10_bestNow_38 (by decide) rfl rfl ?_
        refine g_iload dX10_bestNow_39 rfl ?_
        refine g_iload dX10_bestNow_41 rfl ?_
        refine g_icmple 51 dX10_bestNow_43 (by decide) (fun c43 => ?_) (fun c43 => ?_)
        · skip
          refine g_iload dX10_bestNow_51 rfl ?_
          refine g_istore dX10_bestNow_53 (by decide) rfl rfl ?_
          refine g_iinc dX10_bestNow_55 rfl (nI_inc (j + 1)) (by decide) rfl rfl ?_
          refine g_goto 8 dX10_bestNow_58 (by decide) ?_
          exact absurd c43 c29
        · skip
          refine g_iload dX10_bestNow_46 rfl ?_
          refine g_goto 53 dX10_bestNow_48 (by decide) ?_
          refine g_istore dX10_bestNow_53 (by decide) rfl rfl ?_
          refine g_iinc dX10_bestNow_55 rfl (nI_inc (j + 1)) (by decide) rfl rfl ?_
          refine g_goto 8 dX10_bestNow_58 (by decide) ?_
          exact ih (j + 1) hf _ _ _ (by omega) (hcx.trans hc2) (by rw [bnV, if_pos (by rw [← hw]; exact Int32.not_le.mp c29)]) (by rw [bnV, if_pos (by rw [← hw]; exact Int32.not_le.mp c29)])

set_option maxRecDepth 100000 in
set_option maxHeartbeats 4000000 in
theorem ct_bestNow {N F : Nat} (hj : MO7 hi N F) {D : Nat} (hD : D ≤ 100) (o : Int32) : MC E l 9 mX10_bestNow [.ref 53, .int (nI D), .int o] 83 (hi, hl, RT) 0 0 (fun r h' => ∃ hf, r = some (.int (bnV (fun j => mcV (vm hi N F) N F D (nI (j + 1)) (decide (o = 1))) 9).1) ∧ h' = (hf, hl, RT) ∧ CX hi hf) := by
  refine MC.of [some (.ref 53), some (.int (nI D)), some (.int o), none, none, none, none] (by decide) rfl (Nat.le_of_ble_eq_true rfl) ?_
  refine g_iconst (v := 1) dX10_bestNow_0 (by decide) ?_
  refine g_istore_n dX10_bestNow_1 (by decide) rfl rfl ?_
  refine g_iconst (v := -1) dX10_bestNow_2 (by decide) ?_
  refine g_istore dX10_bestNow_3 (by decide) rfl rfl ?_
  refine g_iconst (v := 1) dX10_bestNow_5 (by decide) ?_
  refine g_istore dX10_bestNow_6 (by decide) rfl rfl ?_
  exact lp_bestNow hj hD o 9 0 hi _ _ none (by omega) CX.rf rfl rfl

set_option maxRecDepth 100000 in
set_option maxHeartbeats 4000000 in
theorem ct_mbestX1 (x z : Int32) (hx : (!decide (x < 1) && !decide (8 < x)) = false) : MC E l 10 mX10_best [.ref 53, .int x, .int z] 83 (hi, hl, RT) 0 0 (fun r h' => r = some (.int (-102)) ∧ h' = (hi, hl, RT)) := by
  refine MC.of [some (.ref 53), some (.int x), some (.int z)] (by decide) rfl (Nat.le_of_ble_eq_true rfl) ?_
  refine g_iload_n dX10_best_0 rfl ?_
  refine g_iconst (v := 1) dX10_best_1 (by decide) ?_
  refine g_bipush (v := 8) dX10_best_2 (by decide) ?_
  refine g_callS3 (M' := mX10_within) (mc' := 0) (ms' := 0) dX10_best_4 l_X10_98 s_mX10_within f_mX10_within (Nat.le_of_ble_eq_true rfl) (by decide) ((ct_within _ _ _).weaken (fun r h' q => (⟨by rw [q.1, hx]; rfl, q.2⟩ : r = some (.int 0) ∧ h' = (hi, hl, RT)))) ?_
  rintro _ _ ⟨rfl, rfl⟩
  refine g_ifeq 19 dX10_best_7 (by decide) (fun _ => ?_) (fun c => absurd c (by decide))
  refine g_bipush (v := -102) dX10_best_19 (by decide) ?_
  exact g_ireturn dX10_best_21 rfl rfl ⟨rfl, rfl⟩

set_option maxRecDepth 100000 in
set_option maxHeartbeats 4000000 in
theorem ct_mbestX3 (x z : Int32) (hx : (!decide (x < 1) && !decide (8 < x)) = true) (hz : (!decide (z < 0) && !decide (1 < z)) = false) : MC E l 10 mX10_best [.ref 53, .int x, .int z] 83 (hi, hl, RT) 0 0 (fun r h' => r = some (.int (-102)) ∧ h' = (hi, hl, RT)) := by
  refine MC.of [some (.ref 53), some (.int x), some (.int z)] (by decide) rfl (Nat.le_of_ble_eq_true rfl) ?_
  refine g_iload_n dX10_best_0 rfl ?_
  refine g_iconst (v := 1) dX10_best_1 (by decide) ?_
  refine g_bipush (v := 8) dX10_best_2 (by decide) ?_
  refine g_callS3 (M' := mX10_within) (mc' := 0) (ms' := 0) dX10_best_4 l_X10_98 s_mX10_within f_mX10_within (Nat.le_of_ble_eq_true rfl) (by decide) ((ct_within _ _ _).weaken (fun r h' q => (⟨by rw [q.1, hx]; rfl, q.2⟩ : r = some (.int 1) ∧ h' = (hi, hl, RT)))) ?_
  rintro _ _ ⟨rfl, rfl⟩
  refine g_ifeq 19 dX10_best_7 (by decide) (fun c => absurd c (by decide)) (fun _ => ?_)
  refine g_iload_n dX10_best_10 rfl ?_
  refine g_iconst (v := 0) dX10_best_11 (by decide) ?_
  refine g_iconst (v := 1) dX10_best_12 (by decide) ?_
  refine g_callS3 (M' := mX10_within) (mc' := 0) (ms' := 0) dX10_best_13 l_X10_98 s_mX10_within f_mX10_within (Nat.le_of_ble_eq_true rfl) (by decide) ((ct_within _ _ _).weaken (fun r h' q => (⟨by rw [q.1, hz]; rfl, q.2⟩ : r = some (.int 0) ∧ h' = (hi, hl, RT)))) ?_
  rintro _ _ ⟨rfl, rfl⟩
  refine g_ifne 22 dX10_best_16 (by decide) (fun c => absurd c (by decide)) (fun _ => ?_)
  refine g_bipush (v := -102) dX10_best_19 (by decide) ?_
  exact g_ireturn dX10_best_21 rfl rfl ⟨rfl, rfl⟩

set_option maxRecDepth 100000 in
set_option maxHeartbeats 4000000 in
theorem ct_mbestE (x z : Int32) (hx : (!decide (x < 1) && !decide (8 < x)) = true) (hz : (!decide (z < 0) && !decide (1 < z)) = true) (hE : hi 53 2 = 0) : MC E l 10 mX10_best [.ref 53, .int x, .int z] 83 (hi, hl, RT) 0 0 (fun r h' => r = some (.int (-103)) ∧ h' = (hi, hl, RT)) := by
  refine MC.of [some (.ref 53), some (.int x), some (.int z)] (by decide) rfl (Nat.le_of_ble_eq_true rfl) ?_
  refine g_iload_n dX10_best_0 rfl ?_
  refine g_iconst (v := 1) dX10_best_1 (by decide) ?_
  refine g_bipush (v := 8) dX10_best_2 (by decide) ?_
  refine g_callS3 (M' := mX10_within) (mc' := 0) (ms' := 0) dX10_best_4 l_X10_98 s_mX10_within f_mX10_within (Nat.le_of_ble_eq_true rfl) (by decide) ((ct_within _ _ _).weaken (fun r h' q => (⟨by rw [q.1, hx]; rfl, q.2⟩ : r = some (.int 1) ∧ h' = (hi, hl, RT)))) ?_
  rintro _ _ ⟨rfl, rfl⟩
  refine g_ifeq 19 dX10_best_7 (by decide) (fun c => absurd c (by decide)) (fun _ => ?_)
  refine g_iload_n dX10_best_10 rfl ?_
  refine g_iconst (v := 0) dX10_best_11 (by decide) ?_
  refine g_iconst (v := 1) dX10_best_12 (by decide) ?_
  refine g_callS3 (M' := mX10_within) (mc' := 0) (ms' := 0) dX10_best_13 l_X10_98 s_mX10_within f_mX10_within (Nat.le_of_ble_eq_true rfl) (by decide) ((ct_within _ _ _).weaken (fun r h' q => (⟨by rw [q.1, hz]; rfl, q.2⟩ : r = some (.int 1) ∧ h' = (hi, hl, RT)))) ?_
  rintro _ _ ⟨rfl, rfl⟩
  refine g_ifne 22 dX10_best_16 (by decide) (fun _ => ?_) (fun c => absurd c (by decide))
  refine g_aload_n dX10_best_22 rfl ?_
  refine g_geti dX10_best_23 k_X10_140 rfl (by decide) rfl ?_
  refine g_ifne 34 dX10_best_26 (by decide) (fun c26 => ?_) (fun c26 => ?_)
  · skip
    exact absurd hE c26
  · skip
    refine g_bipush (v := -103) dX10_best_29 (by decide) ?_
    refine g_goto 40 dX10_best_31 (by decide) ?_
    exact g_ireturn dX10_best_40 rfl rfl ⟨rfl, rfl⟩

set_option maxRecDepth 100000 in
set_option maxHeartbeats 4000000 in
theorem ct_mbest {N F : Nat} (hj : MO7 hi N F) {D : Nat} (hD : D ≤ 100) (z : Int32) (hx : (!decide (nI D < 1) && !decide (8 < nI D)) = true) (hz : (!decide (z < 0) && !decide (1 < z)) = true) (hE : 0 < N) : MC E l 10 mX10_best [.ref 53, .int (nI D), .int z] 83 (hi, hl, RT) 0 0 (fun r h' => ∃ hf, r = some (.int (bnV (fun j => mcV (vm hi N F) N F D (nI (j + 1)) (decide (z = 1))) 9).1) ∧ h' = (hf, hl, RT) ∧ CX hi hf) := by
  refine MC.of [some (.ref 53), some (.int (nI D)), some (.int z)] (by decide) rfl (Nat.le_of_ble_eq_true rfl) ?_
  refine g_iload_n dX10_best_0 rfl ?_
  refine g_iconst (v := 1) dX10_best_1 (by decide) ?_
  refine g_bipush (v := 8) dX10_best_2 (by decide) ?_
  refine g_callS3 (M' := mX10_within) (mc' := 0) (ms' := 0) dX10_best_4 l_X10_98 s_mX10_within f_mX10_within (Nat.le_of_ble_eq_true rfl) (by decide) ((ct_within _ _ _).weaken (fun r h' q => (⟨by rw [q.1, hx]; rfl, q.2⟩ : r = some (.int 1) ∧ h' = (hi, hl, RT)))) ?_
  rintro _ _ ⟨rfl, rfl⟩
  refine g_ifeq 19 dX10_best_7 (by decide) (fun c => absurd c (by decide)) (fun _ => ?_)
  refine g_iload_n dX10_best_10 rfl ?_
  refine g_iconst (v := 0) dX10_best_11 (by decide) ?_
  refine g_iconst (v := 1) dX10_best_12 (by decide) ?_
  refine g_callS3 (M' := mX10_within) (mc' := 0) (ms' := 0) dX10_best_13 l_X10_98 s_mX10_within f_mX10_within (Nat.le_of_ble_eq_true rfl) (by decide) ((ct_within _ _ _).weaken (fun r h' q => (⟨by rw [q.1, hz]; rfl, q.2⟩ : r = some (.int 1) ∧ h' = (hi, hl, RT)))) ?_
  rintro _ _ ⟨rfl, rfl⟩
  refine g_ifne 22 dX10_best_16 (by decide) (fun _ => ?_) (fun c => absurd c (by decide))
  refine g_aload_n dX10_best_22 rfl ?_
  refine g_geti dX10_best_23 k_X10_140 rfl (by decide) rfl ?_
  refine g_ifne 34 dX10_best_26 (by decide) (fun c26 => ?_) (fun c26 => ?_)
  · skip
    refine g_aload_n dX10_best_34 rfl ?_
    refine g_iload_n dX10_best_35 rfl ?_
    refine g_iload_n dX10_best_36 rfl ?_
    refine g_callV2 (M' := mX10_bestNow) (mc' := 0) (ms' := 0) dX10_best_37 l_X10_298 s_mX10_bestNow (by decide) rfl rfl f_mX10_bestNow (Nat.le_of_ble_eq_true rfl) (by decide) (ct_bestNow hj hD z) ?_
    rintro _ _ ⟨hf, rfl, rfl, hcx⟩
    exact g_ireturn dX10_best_40 rfl rfl ⟨hf, rfl, rfl, hcx⟩
  · skip
    exact absurd (hj.2.2.1.symm.trans c26) (nI_ne0 hE (by have := hj.1; omega))

end
