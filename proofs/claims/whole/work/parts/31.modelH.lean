section
variable {E : XE} {l : Launch} {hi : Nat → Nat → Int32} {hl : Nat → Nat → Int64}

def z8 (hi : Nat → Nat → Int32) : Nat → Nat → Int32 := upI (upI (upI (upI (upI (upI (upI (upI (upI hi 53 29 0) 67 0 0) 68 0 0) 67 1 0) 68 1 0) 67 2 0) 68 2 0) 67 3 0) 68 3 0
theorem z8_lm (hi : Nat → Nat → Int32) : LM hi (z8 hi) := by
  intro a k h1 h2 h3
  rw [z8, upI_a h2, upI_a h1, upI_a h2, upI_a h1, upI_a h2, upI_a h1, upI_a h2, upI_a h1, upI_a' h3]
theorem z8_7 (hi : Nat → Nat → Int32) {p : Nat} (h : p < 4) : z8 hi 67 p = nI 0 := by
  have : p = 0 ∨ p = 1 ∨ p = 2 ∨ p = 3 := by omega
  rcases this with rfl | rfl | rfl | rfl <;> rfl
theorem z8_8 (hi : Nat → Nat → Int32) {p : Nat} (h : p < 4) : z8 hi 68 p = nI 0 := by
  have : p = 0 ∨ p = 1 ∨ p = 2 ∨ p = 3 := by omega
  rcases this with rfl | rfl | rfl | rfl <;> rfl

set_option maxRecDepth 100000 in
set_option maxHeartbeats 4000000 in
theorem ct_layLasting {N F : Nat} (hj : MO7 hi N F) (hF4 : F ≤ 4) (hFN1 : F < N) {n : Nat} {s' : SN} (hrun : runF (vm hi N F) F N n (fun _ => 0) (fun _ => 0, 0) = some s') : MC E l 8 mX10_layLasting [.ref 53] 83 (hi, hl, RT) 0 0 (fun r h' => r = none ∧ ∃ hf, h' = (hf, hl, RT) ∧ LM hi hf ∧ LSm hf F N s') := by
  refine MC.of [some (.ref 53), none, none] (by decide) rfl (Nat.le_of_ble_eq_true rfl) ?_
  refine g_aload_n dX10_layLasting_0 rfl ?_
  refine g_iconst (v := 0) dX10_layLasting_1 (by decide) ?_
  refine g_puti dX10_layLasting_2 k_X10_246 rfl (by decide) rfl rfl rfl ?_
  refine g_iconst (v := 0) dX10_layLasting_5 (by decide) ?_
  refine g_istore_n dX10_layLasting_6 (by decide) rfl rfl ?_
  refine g_iload_n dX10_layLasting_7 rfl ?_
  refine g_iconst (v := 4) dX10_layLasting_8 (by decide) ?_
  refine g_icmpge 32 dX10_layLasting_9 (by decide) (fun c => absurd c (by decide)) (fun _ => ?_)
  refine g_aload_n dX10_layLasting_12 rfl ?_
  refine g_getr dX10_layLasting_13 k_X10_50 rfl (by decide) rfl rfl ?_
  refine g_iload_n dX10_layLasting_16 rfl ?_
  refine g_iconst (v := 0) dX10_layLasting_17 (by decide) ?_
  refine g_iast dX10_layLasting_18 (by decide) rfl (by unfold vp_in; decide) ?_
  refine g_aload_n dX10_layLasting_19 rfl ?_
  refine g_getr dX10_layLasting_20 k_X10_53 rfl (by decide) rfl rfl ?_
  refine g_iload_n dX10_layLasting_23 rfl ?_
  refine g_iconst (v := 0) dX10_layLasting_24 (by decide) ?_
  refine g_iast dX10_layLasting_25 (by decide) rfl (by unfold vp_in; decide) ?_
  refine g_iinc (v := 1) dX10_layLasting_26 rfl (by decide) (by decide) rfl rfl ?_
  refine g_goto 7 dX10_layLasting_29 (by decide) ?_
  refine g_iload_n dX10_layLasting_7 rfl ?_
  refine g_iconst (v := 4) dX10_layLasting_8 (by decide) ?_
  refine g_icmpge 32 dX10_layLasting_9 (by decide) (fun c => absurd c (by decide)) (fun _ => ?_)
  refine g_aload_n dX10_layLasting_12 rfl ?_
  refine g_getr dX10_layLasting_13 k_X10_50 rfl (by decide) rfl rfl ?_
  refine g_iload_n dX10_layLasting_16 rfl ?_
  refine g_iconst (v := 0) dX10_layLasting_17 (by decide) ?_
  refine g_iast dX10_layLasting_18 (by decide) rfl (by unfold vp_in; decide) ?_
  refine g_aload_n dX10_layLasting_19 rfl ?_
  refine g_getr dX10_layLasting_20 k_X10_53 rfl (by decide) rfl rfl ?_
  refine g_iload_n dX10_layLasting_23 rfl ?_
  refine g_iconst (v := 0) dX10_layLasting_24 (by decide) ?_
  refine g_iast dX10_layLasting_25 (by decide) rfl (by unfold vp_in; decide) ?_
  refine g_iinc (v := 2) dX10_layLasting_26 rfl (by decide) (by decide) rfl rfl ?_
  refine g_goto 7 dX10_layLasting_29 (by decide) ?_
  refine g_iload_n dX10_layLasting_7 rfl ?_
  refine g_iconst (v := 4) dX10_layLasting_8 (by decide) ?_
  refine g_icmpge 32 dX10_layLasting_9 (by decide) (fun c => absurd c (by decide)) (fun _ => ?_)
  refine g_aload_n dX10_layLasting_12 rfl ?_
  refine g_getr dX10_layLasting_13 k_X10_50 rfl (by decide) rfl rfl ?_
  refine g_iload_n dX10_layLasting_16 rfl ?_
  refine g_iconst (v := 0) dX10_layLasting_17 (by decide) ?_
  refine g_iast dX10_layLasting_18 (by decide) rfl (by unfold vp_in; decide) ?_
  refine g_aload_n dX10_layLasting_19 rfl ?_
  refine g_getr dX10_layLasting_20 k_X10_53 rfl (by decide) rfl rfl ?_
  refine g_iload_n dX10_layLasting_23 rfl ?_
  refine g_iconst (v := 0) dX10_layLasting_24 (by decide) ?_
  refine g_iast dX10_layLasting_25 (by decide) rfl (by unfold vp_in; decide) ?_
  refine g_iinc (v := 3) dX10_layLasting_26 rfl (by decide) (by decide) rfl rfl ?_
  refine g_goto 7 dX10_layLasting_29 (by decide) ?_
  refine g_iload_n dX10_layLasting_7 rfl ?_
  refine g_iconst (v := 4) dX10_layLasting_8 (by decide) ?_
  refine g_icmpge 32 dX10_layLasting_9 (by decide) (fun c => absurd c (by decide)) (fun _ => ?_)
  refine g_aload_n dX10_layLasting_12 rfl ?_
  refine g_getr dX10_layLasting_13 k_X10_50 rfl (by decide) rfl rfl ?_
  refine g_iload_n dX10_layLasting_16 rfl ?_
  refine g_iconst (v := 0) dX10_layLasting_17 (by decide) ?_
  refine g_iast dX10_layLasting_18 (by decide) rfl (by unfold vp_in; decide) ?_
  refine g_aload_n dX10_layLasting_19 rfl ?_
  refine g_getr dX10_layLasting_20 k_X10_53 rfl (by decide) rfl rfl ?_
  refine g_iload_n dX10_layLasting_23 rfl ?_
  refine g_iconst (v := 0) dX10_layLasting_24 (by decide) ?_
  refine g_iast dX10_layLasting_25 (by decide) rfl (by unfold vp_in; decide) ?_
  refine g_iinc (v := 4) dX10_layLasting_26 rfl (by decide) (by decide) rfl rfl ?_
  refine g_goto 7 dX10_layLasting_29 (by decide) ?_
  refine g_iload_n dX10_layLasting_7 rfl ?_
  refine g_iconst (v := 4) dX10_layLasting_8 (by decide) ?_
  refine g_icmpge 32 dX10_layLasting_9 (by decide) (fun _ => ?_) (fun c => absurd c (by decide))
  refine g_iconst (v := 1) dX10_layLasting_32 (by decide) ?_
  refine g_istore_n dX10_layLasting_33 (by decide) rfl rfl ?_
  refine g_hi (f := z8 hi) rfl ?_
  exact lp_lay hF4 hFN1 n (fun _ => 0) (fun _ => 0, 0) (z8 hi) none rfl (z8_lm hi) ((z8_lm hi).mo hj) (fun p hp => z8_7 hi (by omega)) (fun _ _ => Or.inl rfl) ⟨fun k hk => z8_8 hi hk, fun _ _ => Or.inl rfl, rfl⟩ hrun

def lnV (F : Nat) (s : SN) (k : Nat) : Int32 := if k = 0 then s.2 else if k = 1 then cntB (fun p => !decide (s.1 p = 0)) F else nI (s.1 (k - 10)) - 1

set_option maxRecDepth 100000 in
set_option maxHeartbeats 4000000 in
theorem lp_lastingNow {N F : Nat} (hF4 : F ≤ 4) {s' : SN} {k : Nat} (hk : k < 2 ∨ (10 ≤ k ∧ k < 14)) {g : Nat → Nat → Int32} (hlm : LM hi g) (hj : MO7 g N F) (hls : LSm g F N s') : ∀ (n i : Nat) (b : Int32), i + n = F → b = cntB (fun p => !decide (s'.1 p = 0)) i → G E l 9 mX10_lastingNow 8 [some (.ref 53), some (.int (nI k)), some (.int b), some (.int (nI i))] [] 83 (g, hl, RT) 0 0 (fun r h' => ∃ hf, r = some (.int (lnV F s' k)) ∧ h' = (hf, hl, RT) ∧ LM hi hf) := by
  have hN8 := hj.1
  have hFN := hj.2.1
  have hF := hj.2.2.2
  intro n
  induction n with
  | zero =>
    intro i b hin hb
    have hiF : i = F := by omega
    refine g_iload_n dX10_lastingNow_8 rfl ?_
    refine g_aload_n dX10_lastingNow_9 rfl ?_
    refine g_geti dX10_lastingNow_10 k_X10_137 rfl (by decide) rfl ?_
    refine g_icmpge 39 dX10_lastingNow_13 (by decide) (fun c13 => ?_) (fun c13 => ?_)
    · skip
      refine g_iload_n dX10_lastingNow_39 rfl ?_
      refine g_ifne 50 dX10_lastingNow_40 (by decide) (fun c40 => ?_) (fun c40 => ?_)
      · skip
        refine g_iload_n dX10_lastingNow_50 rfl ?_
        refine g_iconst (v := 1) dX10_lastingNow_51 (by decide) ?_
        refine g_icmpne 59 dX10_lastingNow_52 (by decide) (fun c52 => ?_) (fun c52 => ?_)
        · skip
          have k10 : 10 ≤ k := by
            rcases hk with h | h
            · have : k = 0 ∨ k = 1 := by omega
              rcases this with h | h
              · exact absurd (by rw [h]; rfl) c40
              · exact absurd (by rw [h]; rfl) c52
            · exact h.1
          have e10 : nI k - 10 = nI (k - 10) := pk_sub (b := 10) k10
          have ec10 : (nI (k - 10)).toNatClampNeg = k - 10 := nI_clamp (by omega)
          refine g_aload_n dX10_lastingNow_59 rfl ?_
          refine g_getr dX10_lastingNow_60 k_X10_53 rfl (by decide) rfl rfl ?_
          refine g_iload_n dX10_lastingNow_63 rfl ?_
          refine g_bipush (v := 10) dX10_lastingNow_64 (by decide) ?_
          refine g_isub dX10_lastingNow_66 ?_
          rw [e10]
          refine g_iald dX10_lastingNow_67 (by decide) rfl (vp_in_nI (by omega) (by decide)) ?_
          refine g_iconst (v := 1) dX10_lastingNow_68 (by decide) ?_
          refine g_isub dX10_lastingNow_69 ?_
          exact g_ireturn dX10_lastingNow_70 rfl rfl ⟨g, by rw [lnV, if_neg (by omega), if_neg (by omega), ec10, show (g, hl, RT).1 68 (k - 10) = nI (s'.1 (k - 10)) from hls.1 _ (by omega)], rfl, hlm⟩
        · skip
          refine g_iload_n dX10_lastingNow_55 rfl ?_
          refine g_goto 70 dX10_lastingNow_56 (by decide) ?_
          exact g_ireturn dX10_lastingNow_70 rfl rfl ⟨g, by rw [lnV, if_neg (fun z => c40 (by rw [z]; rfl)), if_pos ((nI_eq (b := 1) (by omega) (by decide)).mp c52), hb, hiF], rfl, hlm⟩
      · skip
        refine g_aload_n dX10_lastingNow_43 rfl ?_
        refine g_geti dX10_lastingNow_44 k_X10_246 rfl (by decide) rfl ?_
        refine g_goto 70 dX10_lastingNow_47 (by decide) ?_
        exact g_ireturn dX10_lastingNow_70 rfl rfl ⟨g, by rw [lnV, if_pos ((nI_eq (b := 0) (by omega) (by decide)).mp c40)]; exact congrArg (fun x => some (Value.int x)) hls.2.2, rfl, hlm⟩
    · skip
      exact absurd (by show g 53 1 ≤ nI i; rw [hF]; exact nI_le (by omega) (by omega)) c13
  | succ n ih =>
    intro i b hin hb
    have hlt : i < F := by omega
    have eci : (nI i).toNatClampNeg = i := nI_clamp (by omega)
    have h8 : g 68 (nI i).toNatClampNeg = nI (s'.1 i) := by rw [eci]; exact hls.1 i (by omega)
    have hb8 : s'.1 i ≤ 8 := by rcases hls.2.1 i hlt with h | h <;> omega
    refine g_iload_n dX10_lastingNow_8 rfl ?_
    refine g_aload_n dX10_lastingNow_9 rfl ?_
    refine g_geti dX10_lastingNow_10 k_X10_137 rfl (by decide) rfl ?_
    refine g_icmpge 39 dX10_lastingNow_13 (by decide) (fun c13 => ?_) (fun c13 => ?_)
    · skip
      exact absurd (ge_out hF c13 (by omega) (by omega)) (by omega)
    · skip
      refine g_iload_n dX10_lastingNow_16 rfl ?_
      refine g_aload_n dX10_lastingNow_17 rfl ?_
      refine g_getr dX10_lastingNow_18 k_X10_53 rfl (by decide) rfl rfl ?_
      refine g_iload_n dX10_lastingNow_21 rfl ?_
      refine g_iald dX10_lastingNow_22 (by decide) rfl (vp_in_nI (by omega) (by decide)) ?_
      refine g_ifle 30 dX10_lastingNow_23 (by decide) (fun c23 => ?_) (fun c23 => ?_)
      · skip
        refine g_iconst (v := 0) dX10_lastingNow_30 (by decide) ?_
        refine g_iadd dX10_lastingNow_31 ?_
        refine g_istore_n dX10_lastingNow_32 (by decide) rfl rfl ?_
        refine g_iinc dX10_lastingNow_33 rfl (nI_inc i) (by decide) rfl rfl ?_
        refine g_goto 8 dX10_lastingNow_36 (by decide) ?_
        exact ih (i + 1) _ (by omega) (by
          rw [hb, cntB]
          have c24 : (nI (s'.1 i) ≤ 0) := by rw [← h8]; exact c23
          have z : s'.1 i = 0 := Nat.le_zero.mp ((nI_leI (b := 0) (by omega) (by decide)).mp c24)
          simp [z, bI])
      · skip
        refine g_iconst (v := 1) dX10_lastingNow_26 (by decide) ?_
        refine g_goto 31 dX10_lastingNow_27 (by decide) ?_
        refine g_iadd dX10_lastingNow_31 ?_
        refine g_istore_n dX10_lastingNow_32 (by decide) rfl rfl ?_
        refine g_iinc dX10_lastingNow_33 rfl (nI_inc i) (by decide) rfl rfl ?_
        refine g_goto 8 dX10_lastingNow_36 (by decide) ?_
        exact ih (i + 1) _ (by omega) (by
          rw [hb, cntB]
          have c24 : ¬ (nI (s'.1 i) ≤ 0) := by rw [← h8]; exact c23
          have z : ¬ s'.1 i = 0 := fun z => c24 (by rw [z]; decide)
          simp [z, bI])

set_option maxRecDepth 100000 in
set_option maxHeartbeats 4000000 in
theorem ct_lastingNow {N F : Nat} (hj : MO7 hi N F) (hF4 : F ≤ 4) (hFN1 : F < N) {n : Nat} {s' : SN} (hrun : runF (vm hi N F) F N n (fun _ => 0) (fun _ => 0, 0) = some s') {k : Nat} (hk : k < 2 ∨ (10 ≤ k ∧ k < 14)) : MC E l 9 mX10_lastingNow [.ref 53, .int (nI k)] 83 (hi, hl, RT) 0 0 (fun r h' => ∃ hf, r = some (.int (lnV F s' k)) ∧ h' = (hf, hl, RT) ∧ LM hi hf) := by
  refine MC.of [some (.ref 53), some (.int (nI k)), none, none] (by decide) rfl (Nat.le_of_ble_eq_true rfl) ?_
  refine g_aload_n dX10_lastingNow_0 rfl ?_
  refine g_callV0 (M' := mX10_layLasting) (mc' := 0) (ms' := 0) dX10_lastingNow_1 l_X10_258 s_mX10_layLasting (by decide) rfl rfl f_mX10_layLasting (Nat.le_of_ble_eq_true rfl) (by decide) (ct_layLasting hj hF4 hFN1 hrun) ?_
  rintro _ _ ⟨rfl, hg, rfl, hlm, hls⟩
  refine g_iconst (v := 0) dX10_lastingNow_4 (by decide) ?_
  refine g_istore_n dX10_lastingNow_5 (by decide) rfl rfl ?_
  refine g_iconst (v := 0) dX10_lastingNow_6 (by decide) ?_
  refine g_istore_n dX10_lastingNow_7 (by decide) rfl rfl ?_
  exact lp_lastingNow hF4 hk hlm (hlm.mo hj) hls F 0 0 (by omega) rfl

set_option maxRecDepth 100000 in
set_option maxHeartbeats 4000000 in
theorem ct_mlastingX (x : Int32) (hx : (!decide (x < 0) && !decide (1 < x)) = false) (hy : (!decide (x < 10) && !decide (13 < x)) = false) : MC E l 10 mX10_lasting [.ref 53, .int x] 83 (hi, hl, RT) 0 0 (fun r h' => r = some (.int (-102)) ∧ h' = (hi, hl, RT)) := by
  refine MC.of [some (.ref 53), some (.int x)] (by decide) rfl (Nat.le_of_ble_eq_true rfl) ?_
  refine g_iload_n dX10_lasting_0 rfl ?_
  refine g_iconst (v := 0) dX10_lasting_1 (by decide) ?_
  refine g_iconst (v := 1) dX10_lasting_2 (by decide) ?_
  refine g_callS3 (M' := mX10_within) (mc' := 0) (ms' := 0) dX10_lasting_3 l_X10_98 s_mX10_within f_mX10_within (Nat.le_of_ble_eq_true rfl) (by decide) ((ct_within _ _ _).weaken (fun r h' q => (⟨by rw [q.1, hx]; rfl, q.2⟩ : r = some (.int 0) ∧ h' = (hi, hl, RT)))) ?_
  rintro _ _ ⟨rfl, rfl⟩
  refine g_ifne 23 dX10_lasting_6 (by decide) (fun c => absurd c (by decide)) (fun _ => ?_)
  refine g_iload_n dX10_lasting_9 rfl ?_
  refine g_bipush (v := 10) dX10_lasting_10 (by decide) ?_
  refine g_bipush (v := 13) dX10_lasting_12 (by decide) ?_
  refine g_callS3 (M' := mX10_within) (mc' := 0) (ms' := 0) dX10_lasting_14 l_X10_98 s_mX10_within f_mX10_within (Nat.le_of_ble_eq_true rfl) (by decide) ((ct_within _ _ _).weaken (fun r h' q => (⟨by rw [q.1, hy]; rfl, q.2⟩ : r = some (.int 0) ∧ h' = (hi, hl, RT)))) ?_
  rintro _ _ ⟨rfl, rfl⟩
  refine g_ifne 23 dX10_lasting_17 (by decide) (fun c => absurd c (by decide)) (fun _ => ?_)
  refine g_bipush (v := -102) dX10_lasting_20 (by decide) ?_
  exact g_ireturn dX10_lasting_22 rfl rfl ⟨rfl, rfl⟩

set_option maxRecDepth 100000 in
set_option maxHeartbeats 4000000 in
theorem ct_mlastingE (x : Int32) (hx : (!decide (x < 0) && !decide (1 < x)) = true ∨ (!decide (x < 10) && !decide (13 < x)) = true) (hE : hi 53 2 = 0) : MC E l 10 mX10_lasting [.ref 53, .int x] 83 (hi, hl, RT) 0 0 (fun r h' => r = some (.int (-103)) ∧ h' = (hi, hl, RT)) := by
  refine MC.of [some (.ref 53), some (.int x)] (by decide) rfl (Nat.le_of_ble_eq_true rfl) ?_
  refine g_iload_n dX10_lasting_0 rfl ?_
  refine g_iconst (v := 0) dX10_lasting_1 (by decide) ?_
  refine g_iconst (v := 1) dX10_lasting_2 (by decide) ?_
  refine g_callS3 (M' := mX10_within) (mc' := 0) (ms' := 0) dX10_lasting_3 l_X10_98 s_mX10_within f_mX10_within (Nat.le_of_ble_eq_true rfl) (by decide) (ct_within _ _ _) ?_
  rintro _ _ ⟨rfl, rfl⟩
  refine g_ifne 23 dX10_lasting_6 (by decide) (fun c6 => ?_) (fun c6 => ?_)
  · skip
    refine g_aload_n dX10_lasting_23 rfl ?_
    refine g_geti dX10_lasting_24 k_X10_140 rfl (by decide) rfl ?_
    refine g_ifne 35 dX10_lasting_27 (by decide) (fun c27 => ?_) (fun c27 => ?_)
    · skip
      exact absurd hE c27
    · skip
      refine g_bipush (v := -103) dX10_lasting_30 (by decide) ?_
      refine g_goto 40 dX10_lasting_32 (by decide) ?_
      exact g_ireturn dX10_lasting_40 rfl rfl ⟨rfl, rfl⟩
  · skip
    refine g_iload_n dX10_lasting_9 rfl ?_
    refine g_bipush (v := 10) dX10_lasting_10 (by decide) ?_
    refine g_bipush (v := 13) dX10_lasting_12 (by decide) ?_
    refine g_callS3 (M' := mX10_within) (mc' := 0) (ms' := 0) dX10_lasting_14 l_X10_98 s_mX10_within f_mX10_within (Nat.le_of_ble_eq_true rfl) (by decide) (ct_within _ _ _) ?_
    rintro _ _ ⟨rfl, rfl⟩
    refine g_ifne 23 dX10_lasting_17 (by decide) (fun c17 => ?_) (fun c17 => ?_)
    · skip
      refine g_aload_n dX10_lasting_23 rfl ?_
      refine g_geti dX10_lasting_24 k_X10_140 rfl (by decide) rfl ?_
      refine g_ifne 35 dX10_lasting_27 (by decide) (fun c27 => ?_) (fun c27 => ?_)
      · skip
        exact absurd hE c27
      · skip
        refine g_bipush (v := -103) dX10_lasting_30 (by decide) ?_
        refine g_goto 40 dX10_lasting_32 (by decide) ?_
        exact g_ireturn dX10_lasting_40 rfl rfl ⟨rfl, rfl⟩
    · skip
      exact absurd (bI_0.mp c17) (by rw [hx.resolve_left (by rw [bI_0.mp c6]; decide)]; decide)

theorem wk_in {k : Nat} (hk : k < 2 ∨ (10 ≤ k ∧ k < 14)) : (!decide (nI k < 0) && !decide ((1 : Int32) < nI k)) = true ∨ (!decide (nI k < 10) && !decide ((13 : Int32) < nI k)) = true := by
  have : k = 0 ∨ k = 1 ∨ k = 10 ∨ k = 11 ∨ k = 12 ∨ k = 13 := by omega
  rcases this with rfl | rfl | rfl | rfl | rfl | rfl <;> decide

set_option maxRecDepth 100000 in
set_option maxHeartbeats 4000000 in
theorem ct_mlasting {N F : Nat} (hj : MO7 hi N F) (hF4 : F ≤ 4) (hFN1 : F < N) {n : Nat} {s' : SN} (hrun : runF (vm hi N F) F N n (fun _ => 0) (fun _ => 0, 0) = some s') {k : Nat} (hk : k < 2 ∨ (10 ≤ k ∧ k < 14)) : MC E l 10 mX10_lasting [.ref 53, .int (nI k)] 83 (hi, hl, RT) 0 0 (fun r h' => ∃ hf, r = some (.int (lnV F s' k)) ∧ h' = (hf, hl, RT) ∧ LM hi hf) := by
  refine MC.of [some (.ref 53), some (.int (nI k))] (by decide) rfl (Nat.le_of_ble_eq_true rfl) ?_
  have hx := wk_in hk
  have hE : 0 < N := by omega
  refine g_iload_n dX10_lasting_0 rfl ?_
  refine g_iconst (v := 0) dX10_lasting_1 (by decide) ?_
  refine g_iconst (v := 1) dX10_lasting_2 (by decide) ?_
  refine g_callS3 (M' := mX10_within) (mc' := 0) (ms' := 0) dX10_lasting_3 l_X10_98 s_mX10_within f_mX10_within (Nat.le_of_ble_eq_true rfl) (by decide) (ct_within _ _ _) ?_
  rintro _ _ ⟨rfl, rfl⟩
  refine g_ifne 23 dX10_lasting_6 (by decide) (fun c6 => ?_) (fun c6 => ?_)
  · skip
    refine g_aload_n dX10_lasting_23 rfl ?_
    refine g_geti dX10_lasting_24 k_X10_140 rfl (by decide) rfl ?_
    refine g_ifne 35 dX10_lasting_27 (by decide) (fun c27 => ?_) (fun c27 => ?_)
    · skip
      refine g_aload_n dX10_lasting_35 rfl ?_
      refine g_iload_n dX10_lasting_36 rfl ?_
      refine g_callV1 (M' := mX10_lastingNow) (mc' := 0) (ms' := 0) dX10_lasting_37 l_X10_261 s_mX10_lastingNow (by decide) rfl rfl f_mX10_lastingNow (Nat.le_of_ble_eq_true rfl) (by decide) (ct_lastingNow hj hF4 hFN1 hrun hk) ?_
      rintro _ _ ⟨hf, rfl, rfl, hlm⟩
      exact g_ireturn dX10_lasting_40 rfl rfl ⟨hf, rfl, rfl, hlm⟩
    · skip
      exact absurd (hj.2.2.1.symm.trans c27) (nI_ne0 hE (by have := hj.1; omega))
  · skip
    refine g_iload_n dX10_lasting_9 rfl ?_
    refine g_bipush (v := 10) dX10_lasting_10 (by decide) ?_
    refine g_bipush (v := 13) dX10_lasting_12 (by decide) ?_
    refine g_callS3 (M' := mX10_within) (mc' := 0) (ms' := 0) dX10_lasting_14 l_X10_98 s_mX10_within f_mX10_within (Nat.le_of_ble_eq_true rfl) (by decide) (ct_within _ _ _) ?_
    rintro _ _ ⟨rfl, rfl⟩
    refine g_ifne 23 dX10_lasting_17 (by decide) (fun c17 => ?_) (fun c17 => ?_)
    · skip
      refine g_aload_n dX10_lasting_23 rfl ?_
      refine g_geti dX10_lasting_24 k_X10_140 rfl (by decide) rfl ?_
      refine g_ifne 35 dX10_lasting_27 (by decide) (fun c27 => ?_) (fun c27 => ?_)
      · skip
        refine g_aload_n dX10_lasting_35 rfl ?_
        refine g_iload_n dX10_lasting_36 rfl ?_
        refine g_callV1 (M' := mX10_lastingNow) (mc' := 0) (ms' := 0) dX10_lasting_37 l_X10_261 s_mX10_lastingNow (by decide) rfl rfl f_mX10_lastingNow (Nat.le_of_ble_eq_true rfl) (by decide) (ct_lastingNow hj hF4 hFN1 hrun hk) ?_
        rintro _ _ ⟨hf, rfl, rfl, hlm⟩
        exact g_ireturn dX10_lasting_40 rfl rfl ⟨hf, rfl, rfl, hlm⟩
      · skip
        exact absurd (hj.2.2.1.symm.trans c27) (nI_ne0 hE (by have := hj.1; omega))
    · skip
      exact absurd (bI_0.mp c17) (by rw [hx.resolve_left (by rw [bI_0.mp c6]; decide)]; decide)

def mlS (b : Nat) : Nat → Int32
  | 0 => 0
  | m + 1 => mlS b m + 420 / nI (b + m)
def mlF (O b : Nat) : Int32 := if b = 0 then 420 else nI b * mlS b (O - b)
def gdM : Nat → Int32 → Int32 → Option Int32
  | 0, _, _ => none
  | n + 1, a, b => if b = 0 then some a else gdM n b (a - a / b * b)
def hwM (O : Nat) : Nat → Nat
  | 0 => 0
  | b + 1 => if mlF O (hwM O b) < mlF O (b + 1) then b + 1 else hwM O b
theorem hwM_le (O : Nat) : ∀ n, hwM O n ≤ n
  | 0 => Nat.le_refl 0
  | n + 1 => by
    rw [hwM]
    split
    · exact Nat.le_refl _
    · exact Nat.le_succ_of_le (hwM_le O n)

set_option maxRecDepth 100000 in
set_option maxHeartbeats 4000000 in
theorem lp_likely {O b : Nat} (hO : O ≤ 8) (hb : 0 < b) (hbO : b ≤ O) : ∀ (n m : Nat) (u : Int32), m + n = O - b → u = mlS b m → G E l 1 mX10_likely 14 [some (.int (nI O)), some (.int (nI b)), some (.int u), some (.int (nI (b + 1 + m)))] [] 83 (hi, hl, RT) 0 0 (fun r h' => r = some (.int (mlF O b)) ∧ h' = (hi, hl, RT)) := by
  intro n
  induction n with
  | zero =>
    intro m u hmn hu
    have hm : m = O - b := by omega
    refine g_iload_n dX10_likely_14 rfl ?_
    refine g_iload_n dX10_likely_15 rfl ?_
    refine g_icmpgt 35 dX10_likely_16 (by decide) (fun c16 => ?_) (fun c16 => ?_)
    · skip
      refine g_iload_n dX10_likely_35 rfl ?_
      refine g_iload_n dX10_likely_36 rfl ?_
      refine g_imul dX10_likely_37 ?_
      exact g_ireturn dX10_likely_38 rfl rfl ⟨by rw [mlF, if_neg (by omega), hu, hm], rfl⟩
    · skip
      exact absurd (nI_lt (by omega) (by omega)) c16
  | succ n ih =>
    intro m u hmn hu
    have e1 : nI (b + 1 + m) - 1 = nI (b + m) := (pk_sub (a := b + 1 + m) (b := 1) (by omega)).trans (by rw [show b + 1 + m - 1 = b + m from by omega])
    refine g_iload_n dX10_likely_14 rfl ?_
    refine g_iload_n dX10_likely_15 rfl ?_
    refine g_icmpgt 35 dX10_likely_16 (by decide) (fun c16 => ?_) (fun c16 => ?_)
    · skip
      exact absurd ((nI_ltI (by omega) (by omega)).mp c16) (by omega)
    · skip
      refine g_iload_n dX10_likely_19 rfl ?_
      refine g_sipush (v := 420) dX10_likely_20 (by decide) ?_
      refine g_iload_n dX10_likely_23 rfl ?_
      refine g_iconst (v := 1) dX10_likely_24 (by decide) ?_
      refine g_isub dX10_likely_25 ?_
      rw [e1]
      refine g_idiv dX10_likely_26 (nI_ne0 (by omega) (by omega)) ?_
      refine g_iadd dX10_likely_27 ?_
      refine g_istore_n dX10_likely_28 (by decide) rfl rfl ?_
      refine g_iinc dX10_likely_29 rfl (nI_inc (b + 1 + m)) (by decide) rfl rfl ?_
      refine g_goto 14 dX10_likely_32 (by decide) ?_
      exact ih (m + 1) _ (by omega) (by rw [hu, mlS])

set_option maxRecDepth 100000 in
set_option maxHeartbeats 4000000 in
theorem ct_likely {O b : Nat} (hO : O ≤ 8) (hbO : b ≤ O) : MC E l 1 mX10_likely [.int (nI O), .int (nI b)] 83 (hi, hl, RT) 0 0 (fun r h' => r = some (.int (mlF O b)) ∧ h' = (hi, hl, RT)) := by
  refine MC.of [some (.int (nI O)), some (.int (nI b)), none, none] (by decide) rfl (Nat.le_of_ble_eq_true rfl) ?_
  refine g_iload_n dX10_likely_0 rfl ?_
  refine g_ifne 8 dX10_likely_1 (by decide) (fun c1 => ?_) (fun c1 => ?_)
  · skip
    have hb : 0 < b := Nat.pos_of_ne_zero (fun z => c1 (by rw [z]; rfl))
    refine g_iconst (v := 0) dX10_likely_8 (by decide) ?_
    refine g_istore_n dX10_likely_9 (by decide) rfl rfl ?_
    refine g_iload_n dX10_likely_10 rfl ?_
    refine g_iconst (v := 1) dX10_likely_11 (by decide) ?_
    refine g_iadd dX10_likely_12 ?_
    rw [nI_inc1]
    refine g_istore_n dX10_likely_13 (by decide) rfl rfl ?_
    exact lp_likely hO hb hbO (O - b) 0 0 (by omega) rfl
  · skip
    refine g_sipush (v := 420) dX10_likely_4 (by decide) ?_
    exact g_ireturn dX10_likely_7 rfl rfl ⟨by rw [mlF, if_pos ((nI_eq (b := 0) (by omega) (by decide)).mp c1)], rfl⟩

set_option maxRecDepth 100000 in
set_option maxHeartbeats 4000000 in
theorem lp_divisor {x y r0 : Int32} : ∀ (n : Nat) (a b : Int32) (l4 : Option Value), gdM n a b = some r0 → G E l 1 mX10_divisor 4 [some (.int x), some (.int y), some (.int a), some (.int b), l4] [] 83 (hi, hl, RT) 0 0 (fun r h' => r = some (.int (r0)) ∧ h' = (hi, hl, RT)) := by
  intro n
  induction n with
  | zero =>
    intro a b l4 h
    rw [gdM] at h
    cases h
  | succ n ih =>
    intro a b l4 h
    refine g_iload_n dX10_divisor_4 rfl ?_
    refine g_ifeq 21 dX10_divisor_5 (by decide) (fun c5 => ?_) (fun c5 => ?_)
    · skip
      refine g_iload_n dX10_divisor_21 rfl ?_
      exact g_ireturn dX10_divisor_22 rfl rfl ⟨by rw [gdM, if_pos c5] at h; cases h; rfl, rfl⟩
    · skip
      refine g_iload_n dX10_divisor_8 rfl ?_
      refine g_iload_n dX10_divisor_9 rfl ?_
      refine g_irem dX10_divisor_10 c5 ?_
      refine g_istore dX10_divisor_11 (by decide) rfl rfl ?_
      refine g_iload_n dX10_divisor_13 rfl ?_
      refine g_istore_n dX10_divisor_14 (by decide) rfl rfl ?_
      refine g_iload dX10_divisor_15 rfl ?_
      refine g_istore_n dX10_divisor_17 (by decide) rfl rfl ?_
      refine g_goto 4 dX10_divisor_18 (by decide) ?_
      rw [gdM, if_neg c5] at h
      exact ih _ _ _ h

set_option maxRecDepth 100000 in
set_option maxHeartbeats 4000000 in
theorem ct_divisor {x y r0 : Int32} {n : Nat} (h : gdM n x y = some r0) : MC E l 1 mX10_divisor [.int x, .int y] 83 (hi, hl, RT) 0 0 (fun r h' => r = some (.int (r0)) ∧ h' = (hi, hl, RT)) := by
  refine MC.of [some (.int x), some (.int y), none, none, none] (by decide) rfl (Nat.le_of_ble_eq_true rfl) ?_
  refine g_iload_n dX10_divisor_0 rfl ?_
  refine g_istore_n dX10_divisor_1 (by decide) rfl rfl ?_
  refine g_iload_n dX10_divisor_2 rfl ?_
  refine g_istore_n dX10_divisor_3 (by decide) rfl rfl ?_
  exact lp_divisor n x y none h

set_option maxRecDepth 100000 in
set_option maxHeartbeats 4000000 in
theorem ct_mwaitingX1 (x y z : Int32) (hx : (!decide (x < 2) && !decide (8 < x)) = false) : MC E l 2 mX10_waiting [.ref 53, .int x, .int y, .int z] 83 (hi, hl, RT) 0 0 (fun r h' => r = some (.int (-102)) ∧ h' = (hi, hl, RT)) := by
  refine MC.of [some (.ref 53), some (.int x), some (.int y), some (.int z), none, none, none] (by decide) rfl (Nat.le_of_ble_eq_true rfl) ?_
  refine g_iload_n dX10_waiting_0 rfl ?_
  refine g_iconst (v := 2) dX10_waiting_1 (by decide) ?_
  refine g_bipush (v := 8) dX10_waiting_2 (by decide) ?_
  refine g_callS3 (M' := mX10_within) (mc' := 0) (ms' := 0) dX10_waiting_4 l_X10_98 s_mX10_within f_mX10_within (Nat.le_of_ble_eq_true rfl) (by decide) ((ct_within _ _ _).weaken (fun r h' q => (⟨by rw [q.1, hx]; rfl, q.2⟩ : r = some (.int 0) ∧ h' = (hi, hl, RT)))) ?_
  rintro _ _ ⟨rfl, rfl⟩
  refine g_ifeq 30 dX10_waiting_7 (by decide) (fun _ => ?_) (fun c => absurd c (by decide))
  refine g_bipush (v := -102) dX10_waiting_30 (by decide) ?_
  exact g_ireturn dX10_waiting_32 rfl rfl ⟨rfl, rfl⟩

set_option maxRecDepth 100000 in
set_option maxHeartbeats 4000000 in
theorem ct_mwaitingX2 (x y z : Int32) (hx : (!decide (x < 2) && !decide (8 < x)) = true) (hy : (!decide (y < 0) && !decide (x - 1 < y)) = false) : MC E l 2 mX10_waiting [.ref 53, .int x, .int y, .int z] 83 (hi, hl, RT) 0 0 (fun r h' => r = some (.int (-102)) ∧ h' = (hi, hl, RT)) := by
  refine MC.of [some (.ref 53), some (.int x), some (.int y), some (.int z), none, none, none] (by decide) rfl (Nat.le_of_ble_eq_true rfl) ?_
  refine g_iload_n dX10_waiting_0 rfl ?_
  refine g_iconst (v := 2) dX10_waiting_1 (by decide) ?_
  refine g_bipush (v := 8) dX10_waiting_2 (by decide) ?_
  refine g_callS3 (M' := mX10_within) (mc' := 0) (ms' := 0) dX10_waiting_4 l_X10_98 s_mX10_within f_mX10_within (Nat.le_of_ble_eq_true rfl) (by decide) ((ct_within _ _ _).weaken (fun r h' q => (⟨by rw [q.1, hx]; rfl, q.2⟩ : r = some (.int 1) ∧ h' = (hi, hl, RT)))) ?_
  rintro _ _ ⟨rfl, rfl⟩
  refine g_ifeq 30 dX10_waiting_7 (by decide) (fun c => absurd c (by decide)) (fun _ => ?_)
  refine g_iload_n dX10_waiting_10 rfl ?_
  refine g_iconst (v := 0) dX10_waiting_11 (by decide) ?_
  refine g_iload_n dX10_waiting_12 rfl ?_
  refine g_iconst (v := 1) dX10_waiting_13 (by decide) ?_
  refine g_isub dX10_waiting_14 ?_
  refine g_callS3 (M' := mX10_within) (mc' := 0) (ms' := 0) dX10_waiting_15 l_X10_98 s_mX10_within f_mX10_within (Nat.le_of_ble_eq_true rfl) (by decide) ((ct_within _ _ _).weaken (fun r h' q => (⟨by rw [q.1, hy]; rfl, q.2⟩ : r = some (.int 0) ∧ h' = (hi, hl, RT)))) ?_
  rintro _ _ ⟨rfl, rfl⟩
  refine g_ifeq 30 dX10_waiting_18 (by decide) (fun _ => ?_) (fun c => absurd c (by decide))
  refine g_bipush (v := -102) dX10_waiting_30 (by decide) ?_
  exact g_ireturn dX10_waiting_32 rfl rfl ⟨rfl, rfl⟩

set_option maxRecDepth 100000 in
set_option maxHeartbeats 4000000 in
theorem ct_mwaitingX3 (x y z : Int32) (hx : (!decide (x < 2) && !decide (8 < x)) = true) (hy : (!decide (y < 0) && !decide (x - 1 < y)) = true) (hz : (!decide (z < 0) && !decide (1 < z)) = false) : MC E l 2 mX10_waiting [.ref 53, .int x, .int y, .int z] 83 (hi, hl, RT) 0 0 (fun r h' => r = some (.int (-102)) ∧ h' = (hi, hl, RT)) := by
  refine MC.of [some (.ref 53), some (.int x), some (.int y), some (.int z), none, none, none] (by decide) rfl (Nat.le_of_ble_eq_true rfl) ?_
  refine g_iload_n dX10_waiting_0 rfl ?_
  refine g_iconst (v := 2) dX10_waiting_1 (by decide) ?_
  refine g_bipush (v := 8) dX10_waiting_2 (by decide) ?_
  refine g_callS3 (M' := mX10_within) (mc' := 0) (ms' := 0) dX10_waiting_4 l_X10_98 s_mX10_within f_mX10_within (Nat.le_of_ble_eq_true rfl) (by decide) ((ct_within _ _ _).weaken (fun r h' q => (⟨by rw [q.1, hx]; rfl, q.2⟩ : r = some (.int 1) ∧ h' = (hi, hl, RT)))) ?_
  rintro _ _ ⟨rfl, rfl⟩
  refine g_ifeq 30 dX10_waiting_7 (by decide) (fun c => absurd c (by decide)) (fun _ => ?_)
  refine g_iload_n dX10_waiting_10 rfl ?_
  refine g_iconst (v := 0) dX10_waiting_11 (by decide) ?_
  refine g_iload_n dX10_waiting_12 rfl ?_
  refine g_iconst (v := 1) dX10_waiting_13 (by decide) ?_
  refine g_isub dX10_waiting_14 ?_
  refine g_callS3 (M' := mX10_within) (mc' := 0) (ms' := 0) dX10_waiting_15 l_X10_98 s_mX10_within f_mX10_within (Nat.le_of_ble_eq_true rfl) (by decide) ((ct_within _ _ _).weaken (fun r h' q => (⟨by rw [q.1, hy]; rfl, q.2⟩ : r = some (.int 1) ∧ h' = (hi, hl, RT)))) ?_
  rintro _ _ ⟨rfl, rfl⟩
  refine g_ifeq 30 dX10_waiting_18 (by decide) (fun c => absurd c (by decide)) (fun _ => ?_)
  refine g_iload_n dX10_waiting_21 rfl ?_
  refine g_iconst (v := 0) dX10_waiting_22 (by decide) ?_
  refine g_iconst (v := 1) dX10_waiting_23 (by decide) ?_
  refine g_callS3 (M' := mX10_within) (mc' := 0) (ms' := 0) dX10_waiting_24 l_X10_98 s_mX10_within f_mX10_within (Nat.le_of_ble_eq_true rfl) (by decide) ((ct_within _ _ _).weaken (fun r h' q => (⟨by rw [q.1, hz]; rfl, q.2⟩ : r = some (.int 0) ∧ h' = (hi, hl, RT)))) ?_
  rintro _ _ ⟨rfl, rfl⟩
  refine g_ifne 33 dX10_waiting_27 (by decide) (fun c => absurd c (by decide)) (fun _ => ?_)
  refine g_bipush (v := -102) dX10_waiting_30 (by decide) ?_
  exact g_ireturn dX10_waiting_32 rfl rfl ⟨rfl, rfl⟩

set_option maxRecDepth 100000 in
set_option maxHeartbeats 4000000 in
theorem ct_mwaiting {O b : Nat} (hO : O ≤ 8) (hbO : b ≤ O) (z : Int32) (hx : (!decide (nI O < 2) && !decide (8 < nI O)) = true) (hy : (!decide (nI b < 0) && !decide (nI O - 1 < nI b)) = true) (hz : (!decide (z < 0) && !decide (1 < z)) = true) {d0 : Int32} {n : Nat} (hd : gdM n (mlF O b) (420 * nI O) = some d0) (hd0 : ¬ d0 = 0) : MC E l 2 mX10_waiting [.ref 53, .int (nI O), .int (nI b), .int z] 83 (hi, hl, RT) 0 0 (fun r h' => r = some (.int (if z = 0 then mlF O b / d0 else 420 * nI O / d0)) ∧ h' = (hi, hl, RT)) := by
  refine MC.of [some (.ref 53), some (.int (nI O)), some (.int (nI b)), some (.int z), none, none, none] (by decide) rfl (Nat.le_of_ble_eq_true rfl) ?_
  refine g_iload_n dX10_waiting_0 rfl ?_
  refine g_iconst (v := 2) dX10_waiting_1 (by decide) ?_
  refine g_bipush (v := 8) dX10_waiting_2 (by decide) ?_
  refine g_callS3 (M' := mX10_within) (mc' := 0) (ms' := 0) dX10_waiting_4 l_X10_98 s_mX10_within f_mX10_within (Nat.le_of_ble_eq_true rfl) (by decide) ((ct_within _ _ _).weaken (fun r h' q => (⟨by rw [q.1, hx]; rfl, q.2⟩ : r = some (.int 1) ∧ h' = (hi, hl, RT)))) ?_
  rintro _ _ ⟨rfl, rfl⟩
  refine g_ifeq 30 dX10_waiting_7 (by decide) (fun c => absurd c (by decide)) (fun _ => ?_)
  refine g_iload_n dX10_waiting_10 rfl ?_
  refine g_iconst (v := 0) dX10_waiting_11 (by decide) ?_
  refine g_iload_n dX10_waiting_12 rfl ?_
  refine g_iconst (v := 1) dX10_waiting_13 (by decide) ?_
  refine g_isub dX10_waiting_14 ?_
  refine g_callS3 (M' := mX10_within) (mc' := 0) (ms' := 0) dX10_waiting_15 l_X10_98 s_mX10_within f_mX10_within (Nat.le_of_ble_eq_true rfl) (by decide) ((ct_within _ _ _).weaken (fun r h' q => (⟨by rw [q.1, hy]; rfl, q.2⟩ : r = some (.int 1) ∧ h' = (hi, hl, RT)))) ?_
  rintro _ _ ⟨rfl, rfl⟩
  refine g_ifeq 30 dX10_waiting_18 (by decide) (fun c => absurd c (by decide)) (fun _ => ?_)
  refine g_iload_n dX10_waiting_21 rfl ?_
  refine g_iconst (v := 0) dX10_waiting_22 (by decide) ?_
  refine g_iconst (v := 1) dX10_waiting_23 (by decide) ?_
  refine g_callS3 (M' := mX10_within) (mc' := 0) (ms' := 0) dX10_waiting_24 l_X10_98 s_mX10_within f_mX10_within (Nat.le_of_ble_eq_true rfl) (by decide) ((ct_within _ _ _).weaken (fun r h' q => (⟨by rw [q.1, hz]; rfl, q.2⟩ : r = some (.int 1) ∧ h' = (hi, hl, RT)))) ?_
  rintro _ _ ⟨rfl, rfl⟩
  refine g_ifne 33 dX10_waiting_27 (by decide) (fun _ => ?_) (fun c => absurd c (by decide))
  refine g_iload_n dX10_waiting_33 rfl ?_
  refine g_iload_n dX10_waiting_34 rfl ?_
  refine g_callS2 (M' := mX10_likely) (mc' := 0) (ms' := 0) dX10_waiting_35 l_X10_301 s_mX10_likely f_mX10_likely (Nat.le_of_ble_eq_true rfl) (by decide) (ct_likely hO hbO) ?_
  rintro _ _ ⟨rfl, rfl⟩
  refine g_istore dX10_waiting_38 (by decide) rfl rfl ?_
  refine g_sipush (v := 420) dX10_waiting_40 (by decide) ?_
  refine g_iload_n dX10_waiting_43 rfl ?_
  refine g_imul dX10_waiting_44 ?_
  refine g_istore dX10_waiting_45 (by decide) rfl rfl ?_
  refine g_iload dX10_waiting_47 rfl ?_
  refine g_iload dX10_waiting_49 rfl ?_
  refine g_callS2 (M' := mX10_divisor) (mc' := 0) (ms' := 0) dX10_waiting_51 l_X10_304 s_mX10_divisor f_mX10_divisor (Nat.le_of_ble_eq_true rfl) (by decide) (ct_divisor hd) ?_
  rintro _ _ ⟨rfl, rfl⟩
  refine g_istore dX10_waiting_54 (by decide) rfl rfl ?_
  refine g_iload_n dX10_waiting_56 rfl ?_
  refine g_ifne 68 dX10_waiting_57 (by decide) (fun c57 => ?_) (fun c57 => ?_)
  · skip
    refine g_iload dX10_waiting_68 rfl ?_
    refine g_iload dX10_waiting_70 rfl ?_
    refine g_idiv dX10_waiting_72 hd0 ?_
    exact g_ireturn dX10_waiting_73 rfl rfl ⟨by rw [if_neg c57], rfl⟩
  · skip
    refine g_iload dX10_waiting_60 rfl ?_
    refine g_iload dX10_waiting_62 rfl ?_
    refine g_idiv dX10_waiting_64 hd0 ?_
    refine g_goto 73 dX10_waiting_65 (by decide) ?_
    exact g_ireturn dX10_waiting_73 rfl rfl ⟨by rw [if_pos c57], rfl⟩

set_option maxRecDepth 100000 in
set_option maxHeartbeats 4000000 in
theorem ct_mhowManyX (x : Int32) (hx : (!decide (x < 2) && !decide (8 < x)) = false) : MC E l 2 mX10_howMany [.ref 53, .int x] 83 (hi, hl, RT) 0 0 (fun r h' => r = some (.int (-102)) ∧ h' = (hi, hl, RT)) := by
  refine MC.of [some (.ref 53), some (.int x), none, none] (by decide) rfl (Nat.le_of_ble_eq_true rfl) ?_
  refine g_iload_n dX10_howMany_0 rfl ?_
  refine g_iconst (v := 2) dX10_howMany_1 (by decide) ?_
  refine g_bipush (v := 8) dX10_howMany_2 (by decide) ?_
  refine g_callS3 (M' := mX10_within) (mc' := 0) (ms' := 0) dX10_howMany_4 l_X10_98 s_mX10_within f_mX10_within (Nat.le_of_ble_eq_true rfl) (by decide) ((ct_within _ _ _).weaken (fun r h' q => (⟨by rw [q.1, hx]; rfl, q.2⟩ : r = some (.int 0) ∧ h' = (hi, hl, RT)))) ?_
  rintro _ _ ⟨rfl, rfl⟩
  refine g_ifne 13 dX10_howMany_7 (by decide) (fun c => absurd c (by decide)) (fun _ => ?_)
  refine g_bipush (v := -102) dX10_howMany_10 (by decide) ?_
  exact g_ireturn dX10_howMany_12 rfl rfl ⟨rfl, rfl⟩

set_option maxRecDepth 100000 in
set_option maxHeartbeats 4000000 in
theorem lp_mhowMany {O : Nat} (hO : O ≤ 8) (hO1 : 1 ≤ O) : ∀ (n i : Nat), i ≤ O - 1 → O - 1 + 1 ≤ i + n → ∀ (q : Nat), q = hwM O i → G E l 2 mX10_howMany 17 [some (.ref 53), some (.int (nI O)), some (.int (nI q)), some (.int (nI (i + 1)))] [] 83 (hi, hl, RT) 0 0 (fun r h' => r = some (.int (nI (hwM O (O - 1)))) ∧ h' = (hi, hl, RT)) := by
  intro n
  induction n with
  | zero =>
    intro i h1 h2
    exact absurd h2 (by omega)
  | succ n ih =>
    intro i hi1 hi2 q hq
    have hqi : q ≤ i := by rw [hq]; exact hwM_le O i
    refine g_iload_n dX10_howMany_17 rfl ?_
    refine g_iload_n dX10_howMany_18 rfl ?_
    refine g_icmpge 47 dX10_howMany_19 (by decide) (fun c19 => ?_) (fun c19 => ?_)
    · skip
      have hiN : i = O - 1 := by
        have := ge_out (x := nI O) rfl c19 (by omega) (by omega)
        omega
      refine g_iload_n dX10_howMany_47 rfl ?_
      exact g_ireturn dX10_howMany_48 rfl rfl ⟨by rw [hq, hiN], rfl⟩
    · skip
      have hlt : i + 1 < O := lt_in (x := nI O) rfl c19 (by omega) (by omega)
      refine g_iload_n dX10_howMany_22 rfl ?_
      refine g_iload_n dX10_howMany_23 rfl ?_
      refine g_callS2 (M' := mX10_likely) (mc' := 0) (ms' := 0) dX10_howMany_24 l_X10_301 s_mX10_likely f_mX10_likely (Nat.le_of_ble_eq_true rfl) (by decide) (ct_likely hO (by omega)) ?_
      rintro _ _ ⟨rfl, rfl⟩
      refine g_iload_n dX10_howMany_27 rfl ?_
      refine g_iload_n dX10_howMany_28 rfl ?_
      refine g_callS2 (M' := mX10_likely) (mc' := 0) (ms' := 0) dX10_howMany_29 l_X10_301 s_mX10_likely f_mX10_likely (Nat.le_of_ble_eq_true rfl) (by decide) (ct_likely hO (by omega)) ?_
      rintro _ _ ⟨rfl, rfl⟩
      refine g_icmple 39 dX10_howMany_32 (by decide) (fun c32 => ?_) (fun c32 => ?_)
      · skip
        refine g_iload_n dX10_howMany_39 rfl ?_
        refine g_istore_n dX10_howMany_40 (by decide) rfl rfl ?_
        refine g_iinc dX10_howMany_41 rfl (nI_inc (i + 1)) (by decide) rfl rfl ?_
        refine g_goto 17 dX10_howMany_44 (by decide) ?_
        exact ih (i + 1) (by omega) (by omega) q (by rw [hwM, ← hq, if_neg (Int32.not_lt.mpr c32)])
      · skip
        refine g_iload_n dX10_howMany_35 rfl ?_
        refine g_goto 40 dX10_howMany_36 (by decide) ?_
        refine g_istore_n dX10_howMany_40 (by decide) rfl rfl ?_
        refine g_iinc dX10_howMany_41 rfl (nI_inc (i + 1)) (by decide) rfl rfl ?_
        refine g_goto 17 dX10_howMany_44 (by decide) ?_
        exact ih (i + 1) (by omega) (by omega) (i + 1) (by rw [hwM, ← hq, if_pos (Int32.not_le.mp c32)])

set_option maxRecDepth 100000 in
set_option maxHeartbeats 4000000 in
theorem ct_mhowMany {O : Nat} (hO : O ≤ 8) (hO1 : 1 ≤ O) (hx : (!decide (nI O < 2) && !decide (8 < nI O)) = true) : MC E l 2 mX10_howMany [.ref 53, .int (nI O)] 83 (hi, hl, RT) 0 0 (fun r h' => r = some (.int (nI (hwM O (O - 1)))) ∧ h' = (hi, hl, RT)) := by
  refine MC.of [some (.ref 53), some (.int (nI O)), none, none] (by decide) rfl (Nat.le_of_ble_eq_true rfl) ?_
  refine g_iload_n dX10_howMany_0 rfl ?_
  refine g_iconst (v := 2) dX10_howMany_1 (by decide) ?_
  refine g_bipush (v := 8) dX10_howMany_2 (by decide) ?_
  refine g_callS3 (M' := mX10_within) (mc' := 0) (ms' := 0) dX10_howMany_4 l_X10_98 s_mX10_within f_mX10_within (Nat.le_of_ble_eq_true rfl) (by decide) ((ct_within _ _ _).weaken (fun r h' q => (⟨by rw [q.1, hx]; rfl, q.2⟩ : r = some (.int 1) ∧ h' = (hi, hl, RT)))) ?_
  rintro _ _ ⟨rfl, rfl⟩
  refine g_ifne 13 dX10_howMany_7 (by decide) (fun _ => ?_) (fun c => absurd c (by decide))
  refine g_iconst (v := 0) dX10_howMany_13 (by decide) ?_
  refine g_istore_n dX10_howMany_14 (by decide) rfl rfl ?_
  refine g_iconst (v := 1) dX10_howMany_15 (by decide) ?_
  refine g_istore_n dX10_howMany_16 (by decide) rfl rfl ?_
  exact lp_mhowMany hO hO1 (O + 1) 0 (by omega) (by omega) 0 rfl

theorem dNext_nat (s : Int64) : ∃ m : Nat, m < 2 ^ 31 ∧ dNext s = lN m := by
  refine ⟨(dNext s).toBitVec.toNat, ?_, ?_⟩
  · unfold dNext
    rw [Int64.toBitVec_and, BitVec.toNat_and]
    have h : (2147483647 : Int64).toBitVec.toNat = 2147483647 := by decide
    rw [h]
    exact Nat.lt_of_le_of_lt Nat.and_le_right (by decide)
  · apply Int64.toBitVec_inj.mp
    show (dNext s).toBitVec = BitVec.ofNat 64 (dNext s).toBitVec.toNat
    simp
theorem dPick_nat {m A : Nat} (hm : m < 2 ^ 31) (hA : 0 < A) (hA8 : A ≤ 8) : dPick (lN m) (nI A) = nI (m / 65536 % A) := by
  have h0 : ¬ nI A ≤ 0 := nI_ge (a := 0) hA (by omega)
  rw [dPick, if_neg h0, nI_l (by omega), show (65536 : Int64) = lN 65536 from rfl, pk_lDiv (by omega) (by decide) (by decide), pk_lRem (by have := Nat.div_le_self m 65536; omega) hA (by omega), lN_i]
theorem dPick_ok (s : Int64) {A : Nat} (hA : 0 < A) (hA8 : A ≤ 8) : ∃ k : Nat, k < A ∧ dPick (dNext s) (nI A) = nI k := by
  obtain ⟨m, hm, e⟩ := dNext_nat s
  exact ⟨m / 65536 % A, Nat.mod_lt _ hA, by rw [e, dPick_nat hm hA hA8]⟩
def snS (v : VV) (N F : Nat) : Nat → Int64 → Int64 × Int32 × Int32
  | 0, s => (s, 0, 0)
  | n + 1, s => (dNext (dNext (snS v N F n s).1),
    if (vLikes v (dPick (dNext (snS v N F n s).1) (nI F)).toNatClampNeg (F + (dPick (dNext (dNext (snS v N F n s).1)) (nI (N - F))).toNatClampNeg) && vLikes v (F + (dPick (dNext (dNext (snS v N F n s).1)) (nI (N - F))).toNatClampNeg) (dPick (dNext (snS v N F n s).1) (nI F)).toNatClampNeg) = true then
      ((snS v N F n s).2.1 + 1, (snS v N F n s).2.2 + (if v 4 (dPick (dNext (snS v N F n s).1) (nI F)).toNatClampNeg ≤ v 4 (F + (dPick (dNext (dNext (snS v N F n s).1)) (nI (N - F))).toNatClampNeg) then v 4 (F + (dPick (dNext (dNext (snS v N F n s).1)) (nI (N - F))).toNatClampNeg) - v 4 (dPick (dNext (snS v N F n s).1) (nI F)).toNatClampNeg else v 4 (dPick (dNext (snS v N F n s).1) (nI F)).toNatClampNeg - v 4 (F + (dPick (dNext (dNext (snS v N F n s).1)) (nI (N - F))).toNatClampNeg)))
    else ((snS v N F n s).2.1, (snS v N F n s).2.2))
theorem snS_s {v : VV} {N F n p e : Nat} {s : Int64} (hp : dPick (dNext (snS v N F n s).1) (nI F) = nI p) (he : dPick (dNext (dNext (snS v N F n s).1)) (nI (N - F)) = nI e) (hp8 : p < 8) (he8 : e < 8) : snS v N F (n + 1) s = (dNext (dNext (snS v N F n s).1), if (vLikes v p (F + e) && vLikes v (F + e) p) = true then ((snS v N F n s).2.1 + 1, (snS v N F n s).2.2 + (if v 4 p ≤ v 4 (F + e) then v 4 (F + e) - v 4 p else v 4 p - v 4 (F + e))) else ((snS v N F n s).2.1, (snS v N F n s).2.2)) := by
  rw [snS, hp, he, nI_clamp (n := p) (by omega), nI_clamp (n := e) (by omega)]

set_option maxRecDepth 100000 in
set_option maxHeartbeats 4000000 in
theorem ct_draw {A : Nat} (hA : 0 < A) (hA8 : A ≤ 8) : MC E l 1 mX10_draw [.ref 53, .int (nI A)] 83 (hi, hl, RT) 0 0 (fun r h' => r = some (.int (dPick (dNext (hl 53 37)) (nI A))) ∧ h' = (hi, upL hl 53 37 (dNext (hl 53 37)), RT)) := by
  refine MC.of [some (.ref 53), some (.int (nI A))] (by decide) rfl (Nat.le_of_ble_eq_true rfl) ?_
  refine g_aload_n dX10_draw_0 rfl ?_
  refine g_ldc2 dX10_draw_1 c_X10_311 ?_
  refine g_aload_n dX10_draw_4 rfl ?_
  refine g_getl dX10_draw_5 k_X10_313 rfl (by decide) rfl ?_
  refine g_lmul dX10_draw_8 ?_
  refine g_ldc2 dX10_draw_9 c_X10_317 ?_
  refine g_ladd dX10_draw_12 ?_
  refine g_ldc2 dX10_draw_13 c_X10_319 ?_
  refine g_land dX10_draw_16 ?_
  refine g_putl dX10_draw_17 k_X10_313 rfl (by decide) rfl rfl ?_
  refine g_aload_n dX10_draw_20 rfl ?_
  refine g_getl dX10_draw_21 k_X10_313 rfl (by decide) rfl ?_
  refine g_ldc2 dX10_draw_24 c_X10_321 ?_
  refine g_ldiv dX10_draw_27 (by decide) ?_
  refine g_iload_n dX10_draw_28 rfl ?_
  refine g_i2l dX10_draw_29 ?_
  refine g_lrem dX10_draw_30 (by rw [nI_l (by omega)]; intro z; exact absurd ((pk_lEQ (b := 0) (by omega) (by decide)).mp z) (by omega)) ?_
  refine g_l2i dX10_draw_31 ?_
  exact g_ireturn dX10_draw_32 rfl rfl ⟨by have h0 : ¬ nI A ≤ 0 := nI_ge (a := 0) hA (by omega); rw [dPick, if_neg h0]; rfl, rfl⟩

theorem pk_add (a b : Nat) : nI a + nI b = nI (a + b) := (Int32.ofNat_add a b).symm

set_option maxRecDepth 100000 in
set_option maxHeartbeats 4000000 in
theorem lp_seasons {N F : Nat} (hj : MO7 hi N F) (hF0 : 0 < F) (hFN1 : F < N) {T : Nat} (hT : T ≤ 100) {sd w : Int32} {s0 : Int64} : ∀ (n k : Nat) (hlg : Nat → Nat → Int64) (o a : Int32) (l7 l8 l9 : Option Value), k + n = T → hlg 53 37 = (snS (vm hi N F) N F k s0).1 → o = (snS (vm hi N F) N F k s0).2.1 → a = (snS (vm hi N F) N F k s0).2.2 → G E l 5 mX10_seasonsNow 15 [some (.ref 53), some (.int (nI T)), some (.int sd), some (.int w), some (.int o), some (.int a), some (.int (nI k)), l7, l8, l9] [] 83 (hi, hlg, RT) 0 0 (fun r h' => ∃ hlf, r = some (.int (if w = 0 then (snS (vm hi N F) N F T s0).2.1 else if w = 1 then (snS (vm hi N F) N F T s0).2.2 else (snS (vm hi N F) N F T s0).1.toInt32)) ∧ h' = (hi, hlf, RT)) := by
  have hj0 := hj
  obtain ⟨hN8, hFN, hN, hF⟩ := hj
  intro n
  induction n with
  | zero =>
    intro k hlg o a l7 l8 l9 hkn hs ho ha
    have hkT : k = T := by omega
    refine g_iload dX10_seasonsNow_15 rfl ?_
    refine g_iload_n dX10_seasonsNow_17 rfl ?_
    refine g_icmpge 152 dX10_seasonsNow_18 (by decide) (fun c18 => ?_) (fun c18 => ?_)
    · skip
      refine g_iload_n dX10_seasonsNow_152 rfl ?_
      refine g_ifne 161 dX10_seasonsNow_153 (by decide) (fun c153 => ?_) (fun c153 => ?_)
      · skip
        refine g_iload_n dX10_seasonsNow_161 rfl ?_
        refine g_iconst (v := 1) dX10_seasonsNow_162 (by decide) ?_
        refine g_icmpne 171 dX10_seasonsNow_163 (by decide) (fun c163 => ?_) (fun c163 => ?_)
        · skip
          refine g_aload_n dX10_seasonsNow_171 rfl ?_
          refine g_getl dX10_seasonsNow_172 k_X10_313 rfl (by decide) rfl ?_
          refine g_l2i dX10_seasonsNow_175 ?_
          exact g_ireturn dX10_seasonsNow_176 rfl rfl ⟨hlg, by rw [if_neg c153, if_neg c163, ← hkT, ← hs], rfl⟩
        · skip
          refine g_iload dX10_seasonsNow_166 rfl ?_
          refine g_goto 176 dX10_seasonsNow_168 (by decide) ?_
          exact g_ireturn dX10_seasonsNow_176 rfl rfl ⟨hlg, by rw [if_neg c153, if_pos c163, ha, hkT], rfl⟩
      · skip
        refine g_iload dX10_seasonsNow_156 rfl ?_
        refine g_goto 176 dX10_seasonsNow_158 (by decide) ?_
        exact g_ireturn dX10_seasonsNow_176 rfl rfl ⟨hlg, by rw [if_pos c153, ho, hkT], rfl⟩
    · skip
      exact absurd (nI_le (by omega) (by omega)) c18
  | succ n ih =>
    intro k hlg o a l7 l8 l9 hkn hs ho ha
    obtain ⟨p, hpF, hp⟩ := dPick_ok (hlg 53 37) hF0 (by omega)
    obtain ⟨e, heN, he⟩ := dPick_ok (dNext (hlg 53 37)) (A := N - F) (by omega) (by omega)
    have hst := snS_s (v := vm hi N F) (N := N) (F := F) (n := k) (s := s0) (p := p) (e := e) (by rw [← hs]; exact hp) (by rw [← hs]; exact he) (by omega) (by omega)
    have hpN : p < N := by omega
    have heN2 : F + e < N := by omega
    have ecp : (nI p).toNatClampNeg = p := nI_clamp (by omega)
    have ece : (nI (F + e)).toNatClampNeg = F + e := nI_clamp (by omega)
    have m4p := m_4 (hi := hi) (F := F) hpN
    have m4e := m_4 (hi := hi) (F := F) heN2
    have esub : nI N - nI F = nI (N - F) := pk_sub (by omega)
    have eadd : nI F + nI e = nI (F + e) := pk_add F e
    refine g_iload dX10_seasonsNow_15 rfl ?_
    refine g_iload_n dX10_seasonsNow_17 rfl ?_
    refine g_icmpge 152 dX10_seasonsNow_18 (by decide) (fun c18 => ?_) (fun c18 => ?_)
    · skip
      exact absurd ((nI_leI (by omega) (by omega)).mp c18) (by omega)
    · skip
      refine g_aload_n dX10_seasonsNow_21 rfl ?_
      refine g_aload_n dX10_seasonsNow_22 rfl ?_
      refine g_geti dX10_seasonsNow_23 k_X10_137 rfl (by decide) rfl ?_
      rw [show (hi, hlg, RT).1 53 1 = nI F from hF]
      refine g_callV1 (M' := mX10_draw) (mc' := 0) (ms' := 0) dX10_seasonsNow_26 l_X10_323 s_mX10_draw (by decide) rfl rfl f_mX10_draw (Nat.le_of_ble_eq_true rfl) (by decide) ((ct_draw (hl := hlg) hF0 (by omega)).weaken (fun r h' z => (⟨by rw [z.1, hp], z.2⟩ : r = some (.int (nI p)) ∧ h' = (hi, upL hlg 53 37 (dNext (hlg 53 37)), RT)))) ?_
      rintro _ _ ⟨rfl, rfl⟩
      refine g_istore dX10_seasonsNow_29 (by decide) rfl rfl ?_
      refine g_aload_n dX10_seasonsNow_31 rfl ?_
      refine g_geti dX10_seasonsNow_32 k_X10_137 rfl (by decide) rfl ?_
      refine g_aload_n dX10_seasonsNow_35 rfl ?_
      refine g_aload_n dX10_seasonsNow_36 rfl ?_
      refine g_geti dX10_seasonsNow_37 k_X10_140 rfl (by decide) rfl ?_
      refine g_aload_n dX10_seasonsNow_40 rfl ?_
      refine g_geti dX10_seasonsNow_41 k_X10_137 rfl (by decide) rfl ?_
      refine g_isub dX10_seasonsNow_44 ?_
      dsimp only
      rw [show hi 53 1 = nI F from hF, show hi 53 2 = nI N from hN, esub]
      refine g_callV1 (M' := mX10_draw) (mc' := 0) (ms' := 0) dX10_seasonsNow_45 l_X10_323 s_mX10_draw (by decide) rfl rfl f_mX10_draw (Nat.le_of_ble_eq_true rfl) (by decide) ((ct_draw (hl := upL hlg 53 37 (dNext (hlg 53 37))) (A := N - F) (by omega) (by omega)).weaken (fun r h' z => (⟨by rw [z.1]; exact congrArg (fun x => some (Value.int x)) he, z.2⟩ : r = some (.int (nI e)) ∧ h' = (hi, upL (upL hlg 53 37 (dNext (hlg 53 37))) 53 37 (dNext (dNext (hlg 53 37))), RT)))) ?_
      rintro _ _ ⟨rfl, rfl⟩
      refine g_iadd dX10_seasonsNow_48 ?_
      rw [eadd]
      refine g_istore dX10_seasonsNow_49 (by decide) rfl rfl ?_
      refine g_aload_n dX10_seasonsNow_51 rfl ?_
      refine g_getr dX10_seasonsNow_52 k_X10_13 rfl (by decide) rfl rfl ?_
      refine g_iload dX10_seasonsNow_55 rfl ?_
      refine g_iald dX10_seasonsNow_57 (by decide) rfl (vp_in_nI (by omega) (by decide)) ?_
      refine g_aload_n dX10_seasonsNow_58 rfl ?_
      refine g_getr dX10_seasonsNow_59 k_X10_13 rfl (by decide) rfl rfl ?_
      refine g_iload dX10_seasonsNow_62 rfl ?_
      refine g_iald dX10_seasonsNow_64 (by decide) rfl (vp_in_nI (by omega) (by decide)) ?_
      refine g_icmple 86 dX10_seasonsNow_65 (by decide) (fun c65 => ?_) (fun c65 => ?_)
      · skip
        refine g_aload_n dX10_seasonsNow_86 rfl ?_
        refine g_getr dX10_seasonsNow_87 k_X10_13 rfl (by decide) rfl rfl ?_
        refine g_iload dX10_seasonsNow_90 rfl ?_
        refine g_iald dX10_seasonsNow_92 (by decide) rfl (vp_in_nI (by omega) (by decide)) ?_
        refine g_aload_n dX10_seasonsNow_93 rfl ?_
        refine g_getr dX10_seasonsNow_94 k_X10_13 rfl (by decide) rfl rfl ?_
        refine g_iload dX10_seasonsNow_97 rfl ?_
        refine g_iald dX10_seasonsNow_99 (by decide) rfl (vp_in_nI (by omega) (by decide)) ?_
        refine g_isub dX10_seasonsNow_100 ?_
        refine g_istore dX10_seasonsNow_101 (by decide) rfl rfl ?_
        refine g_iload dX10_seasonsNow_103 rfl ?_
        refine g_aload_n dX10_seasonsNow_105 rfl ?_
        refine g_iload dX10_seasonsNow_106 rfl ?_
        refine g_iload dX10_seasonsNow_108 rfl ?_
        refine g_callV2 (M' := mX10_likeEachOther) (mc' := 0) (ms' := 0) dX10_seasonsNow_110 l_X10_227 s_mX10_likeEachOther (by decide) rfl rfl f_mX10_likeEachOther (Nat.le_of_ble_eq_true rfl) (by decide) (ct_likeEachOther hj0 hpN heN2) ?_
        rintro _ _ ⟨rfl, rfl⟩
        refine g_ifeq 120 dX10_seasonsNow_113 (by decide) (fun c113 => ?_) (fun c113 => ?_)
        · skip
          refine g_iconst (v := 0) dX10_seasonsNow_120 (by decide) ?_
          refine g_iadd dX10_seasonsNow_121 ?_
          refine g_istore dX10_seasonsNow_122 (by decide) rfl rfl ?_
          refine g_iload dX10_seasonsNow_124 rfl ?_
          refine g_aload_n dX10_seasonsNow_126 rfl ?_
          refine g_iload dX10_seasonsNow_127 rfl ?_
          refine g_iload dX10_seasonsNow_129 rfl ?_
          refine g_callV2 (M' := mX10_likeEachOther) (mc' := 0) (ms' := 0) dX10_seasonsNow_131 l_X10_227 s_mX10_likeEachOther (by decide) rfl rfl f_mX10_likeEachOther (Nat.le_of_ble_eq_true rfl) (by decide) (ct_likeEachOther hj0 hpN heN2) ?_
          rintro _ _ ⟨rfl, rfl⟩
          refine g_ifeq 142 dX10_seasonsNow_134 (by decide) (fun c134 => ?_) (fun c134 => ?_)
          · skip
            refine g_iconst (v := 0) dX10_seasonsNow_142 (by decide) ?_
            refine g_iadd dX10_seasonsNow_143 ?_
            refine g_istore dX10_seasonsNow_144 (by decide) rfl rfl ?_
            refine g_iinc dX10_seasonsNow_146 rfl (nI_inc k) (by decide) rfl rfl ?_
            refine g_goto 15 dX10_seasonsNow_149 (by decide) ?_
            have z4 : (vm hi N F 4 p ≤ vm hi N F 4 (F + e)) := by rw [m4p, m4e, ← ecp, ← ece]; exact c65
            have z5 : snS (vm hi N F) N F (k + 1) s0 = (dNext (dNext (snS (vm hi N F) N F k s0).1), (snS (vm hi N F) N F k s0).2.1, (snS (vm hi N F) N F k s0).2.2) := by rw [hst, if_neg (by rw [bI_0.mp c113]; decide)]
            exact ih (k + 1) _ _ _ _ _ _ (by omega) (by rw [z5, ← hs]; rfl) (by rw [z5, ho]; exact Int32.add_zero _) (by rw [z5, ha]; exact Int32.add_zero _)
          · skip
            refine g_iload dX10_seasonsNow_137 rfl ?_
            refine g_goto 143 dX10_seasonsNow_139 (by decide) ?_
            refine g_iadd dX10_seasonsNow_143 ?_
            refine g_istore dX10_seasonsNow_144 (by decide) rfl rfl ?_
            refine g_iinc dX10_seasonsNow_146 rfl (nI_inc k) (by decide) rfl rfl ?_
            refine g_goto 15 dX10_seasonsNow_149 (by decide) ?_
            exact absurd c113 c134
        · skip
          refine g_iconst (v := 1) dX10_seasonsNow_116 (by decide) ?_
          refine g_goto 121 dX10_seasonsNow_117 (by decide) ?_
          refine g_iadd dX10_seasonsNow_121 ?_
          refine g_istore dX10_seasonsNow_122 (by decide) rfl rfl ?_
          refine g_iload dX10_seasonsNow_124 rfl ?_
          refine g_aload_n dX10_seasonsNow_126 rfl ?_
          refine g_iload dX10_seasonsNow_127 rfl ?_
          refine g_iload dX10_seasonsNow_129 rfl ?_
          refine g_callV2 (M' := mX10_likeEachOther) (mc' := 0) (ms' := 0) dX10_seasonsNow_131 l_X10_227 s_mX10_likeEachOther (by decide) rfl rfl f_mX10_likeEachOther (Nat.le_of_ble_eq_true rfl) (by decide) (ct_likeEachOther hj0 hpN heN2) ?_
          rintro _ _ ⟨rfl, rfl⟩
          refine g_ifeq 142 dX10_seasonsNow_134 (by decide) (fun c134 => ?_) (fun c134 => ?_)
          · skip
            refine g_iconst (v := 0) dX10_seasonsNow_142 (by decide) ?_
            refine g_iadd dX10_seasonsNow_143 ?_
            refine g_istore dX10_seasonsNow_144 (by decide) rfl rfl ?_
            refine g_iinc dX10_seasonsNow_146 rfl (nI_inc k) (by decide) rfl rfl ?_
            refine g_goto 15 dX10_seasonsNow_149 (by decide) ?_
            exact absurd c134 c113
          · skip
            refine g_iload dX10_seasonsNow_137 rfl ?_
            refine g_goto 143 dX10_seasonsNow_139 (by decide) ?_
            refine g_iadd dX10_seasonsNow_143 ?_
            refine g_istore dX10_seasonsNow_144 (by decide) rfl rfl ?_
            refine g_iinc dX10_seasonsNow_146 rfl (nI_inc k) (by decide) rfl rfl ?_
            refine g_goto 15 dX10_seasonsNow_149 (by decide) ?_
            have z4 : (vm hi N F 4 p ≤ vm hi N F 4 (F + e)) := by rw [m4p, m4e, ← ecp, ← ece]; exact c65
            have z5 : snS (vm hi N F) N F (k + 1) s0 = (dNext (dNext (snS (vm hi N F) N F k s0).1), (snS (vm hi N F) N F k s0).2.1 + 1, (snS (vm hi N F) N F k s0).2.2 + (vm hi N F 4 (F + e) - vm hi N F 4 p)) := by rw [hst, if_pos (bI_n.mp c113), if_pos z4]
            exact ih (k + 1) _ _ _ _ _ _ (by omega) (by rw [z5, ← hs]; rfl) (by rw [z5, ho]) (by rw [z5, ha, m4p, m4e]; simp only [ecp, ece])
      · skip
        refine g_aload_n dX10_seasonsNow_68 rfl ?_
        refine g_getr dX10_seasonsNow_69 k_X10_13 rfl (by decide) rfl rfl ?_
        refine g_iload dX10_seasonsNow_72 rfl ?_
        refine g_iald dX10_seasonsNow_74 (by decide) rfl (vp_in_nI (by omega) (by decide)) ?_
        refine g_aload_n dX10_seasonsNow_75 rfl ?_
        refine g_getr dX10_seasonsNow_76 k_X10_13 rfl (by decide) rfl rfl ?_
        refine g_iload dX10_seasonsNow_79 rfl ?_
        refine g_iald dX10_seasonsNow_81 (by decide) rfl (vp_in_nI (by omega) (by decide)) ?_
        refine g_isub dX10_seasonsNow_82 ?_
        refine g_goto 101 dX10_seasonsNow_83 (by decide) ?_
        refine g_istore dX10_seasonsNow_101 (by decide) rfl rfl ?_
        refine g_iload dX10_seasonsNow_103 rfl ?_
        refine g_aload_n dX10_seasonsNow_105 rfl ?_
        refine g_iload dX10_seasonsNow_106 rfl ?_
        refine g_iload dX10_seasonsNow_108 rfl ?_
        refine g_callV2 (M' := mX10_likeEachOther) (mc' := 0) (ms' := 0) dX10_seasonsNow_110 l_X10_227 s_mX10_likeEachOther (by decide) rfl rfl f_mX10_likeEachOther (Nat.le_of_ble_eq_true rfl) (by decide) (ct_likeEachOther hj0 hpN heN2) ?_
        rintro _ _ ⟨rfl, rfl⟩
        refine g_ifeq 120 dX10_seasonsNow_113 (by decide) (fun c113 => ?_) (fun c113 => ?_)
        · skip
          refine g_iconst (v := 0) dX10_seasonsNow_120 (by decide) ?_
          refine g_iadd dX10_seasonsNow_121 ?_
          refine g_istore dX10_seasonsNow_122 (by decide) rfl rfl ?_
          refine g_iload dX10_seasonsNow_124 rfl ?_
          refine g_aload_n dX10_seasonsNow_126 rfl ?_
          refine g_iload dX10_seasonsNow_127 rfl ?_
          refine g_iload dX10_seasonsNow_129 rfl ?_
          refine g_callV2 (M' := mX10_likeEachOther) (mc' := 0) (ms' := 0) dX10_seasonsNow_131 l_X10_227 s_mX10_likeEachOther (by decide) rfl rfl f_mX10_likeEachOther (Nat.le_of_ble_eq_true rfl) (by decide) (ct_likeEachOther hj0 hpN heN2) ?_
          rintro _ _ ⟨rfl, rfl⟩
          refine g_ifeq 142 dX10_seasonsNow_134 (by decide) (fun c134 => ?_) (fun c134 => ?_)
          · skip
            refine g_iconst (v := 0) dX10_seasonsNow_142 (by decide) ?_
            refine g_iadd dX10_seasonsNow_143 ?_
            refine g_istore dX10_seasonsNow_144 (by decide) rfl rfl ?_
            refine g_iinc dX10_seasonsNow_146 rfl (nI_inc k) (by decide) rfl rfl ?_
            refine g_goto 15 dX10_seasonsNow_149 (by decide) ?_
            have z4 : ¬ (vm hi N F 4 p ≤ vm hi N F 4 (F + e)) := by rw [m4p, m4e, ← ecp, ← ece]; exact c65
            have z5 : snS (vm hi N F) N F (k + 1) s0 = (dNext (dNext (snS (vm hi N F) N F k s0).1), (snS (vm hi N F) N F k s0).2.1, (snS (vm hi N F) N F k s0).2.2) := by rw [hst, if_neg (by rw [bI_0.mp c113]; decide)]
            exact ih (k + 1) _ _ _ _ _ _ (by omega) (by rw [z5, ← hs]; rfl) (by rw [z5, ho]; exact Int32.add_zero _) (by rw [z5, ha]; exact Int32.add_zero _)
          · skip
            refine g_iload dX10_seasonsNow_137 rfl ?_
            refine g_goto 143 dX10_seasonsNow_139 (by decide) ?_
            refine g_iadd dX10_seasonsNow_143 ?_
            refine g_istore dX10_seasonsNow_144 (by decide) rfl rfl ?_
            refine g_iinc dX10_seasonsNow_146 rfl (nI_inc k) (by decide) rfl rfl ?_
            refine g_goto 15 dX10_seasonsNow_149 (by decide) ?_
            exact absurd c113 c134
        · skip
          refine g_iconst (v := 1) dX10_seasonsNow_116 (by decide) ?_
          refine g_goto 121 dX10_seasonsNow_117 (by decide) ?_
          refine g_iadd dX10_seasonsNow_121 ?_
          refine g_istore dX10_seasonsNow_122 (by decide) rfl rfl ?_
          refine g_iload dX10_seasonsNow_124 rfl ?_
          refine g_aload_n dX10_seasonsNow_126 rfl ?_
          refine g_iload dX10_seasonsNow_127 rfl ?_
          refine g_iload dX10_seasonsNow_129 rfl ?_
          refine g_callV2 (M' := mX10_likeEachOther) (mc' := 0) (ms' := 0) dX10_seasonsNow_131 l_X10_227 s_mX10_likeEachOther (by decide) rfl rfl f_mX10_likeEachOther (Nat.le_of_ble_eq_true rfl) (by decide) (ct_likeEachOther hj0 hpN heN2) ?_
          rintro _ _ ⟨rfl, rfl⟩
          refine g_ifeq 142 dX10_seasonsNow_134 (by decide) (fun c134 => ?_) (fun c134 => ?_)
          · skip
            refine g_iconst (v := 0) dX10_seasonsNow_142 (by decide) ?_
            refine g_iadd dX10_seasonsNow_143 ?_
            refine g_istore dX10_seasonsNow_144 (by decide) rfl rfl ?_
            refine g_iinc dX10_seasonsNow_146 rfl (nI_inc k) (by decide) rfl rfl ?_
            refine g_goto 15 dX10_seasonsNow_149 (by decide) ?_
            exact absurd c134 c113
          · skip
            refine g_iload dX10_seasonsNow_137 rfl ?_
            refine g_goto 143 dX10_seasonsNow_139 (by decide) ?_
            refine g_iadd dX10_seasonsNow_143 ?_
            refine g_istore dX10_seasonsNow_144 (by decide) rfl rfl ?_
            refine g_iinc dX10_seasonsNow_146 rfl (nI_inc k) (by decide) rfl rfl ?_
            refine g_goto 15 dX10_seasonsNow_149 (by decide) ?_
            have z4 : ¬ (vm hi N F 4 p ≤ vm hi N F 4 (F + e)) := by rw [m4p, m4e, ← ecp, ← ece]; exact c65
            have z5 : snS (vm hi N F) N F (k + 1) s0 = (dNext (dNext (snS (vm hi N F) N F k s0).1), (snS (vm hi N F) N F k s0).2.1 + 1, (snS (vm hi N F) N F k s0).2.2 + (vm hi N F 4 p - vm hi N F 4 (F + e))) := by rw [hst, if_pos (bI_n.mp c113), if_neg z4]
            exact ih (k + 1) _ _ _ _ _ _ (by omega) (by rw [z5, ← hs]; rfl) (by rw [z5, ho]) (by rw [z5, ha, m4p, m4e]; simp only [ecp, ece])

set_option maxRecDepth 100000 in
set_option maxHeartbeats 4000000 in
theorem ct_seasonsNow {N F : Nat} (hj : MO7 hi N F) (hF0 : 0 < F) (hFN1 : F < N) {T : Nat} (hT : T ≤ 100) (sd w : Int32) : MC E l 5 mX10_seasonsNow [.ref 53, .int (nI T), .int sd, .int w] 83 (hi, hl, RT) 0 0 (fun r h' => ∃ hlf, r = some (.int (if w = 0 then (snS (vm hi N F) N F T sd.toInt64).2.1 else if w = 1 then (snS (vm hi N F) N F T sd.toInt64).2.2 else (snS (vm hi N F) N F T sd.toInt64).1.toInt32)) ∧ h' = (hi, hlf, RT)) := by
  refine MC.of [some (.ref 53), some (.int (nI T)), some (.int sd), some (.int w), none, none, none, none, none, none] (by decide) rfl (Nat.le_of_ble_eq_true rfl) ?_
  refine g_aload_n dX10_seasonsNow_0 rfl ?_
  refine g_iload_n dX10_seasonsNow_1 rfl ?_
  refine g_i2l dX10_seasonsNow_2 ?_
  refine g_putl dX10_seasonsNow_3 k_X10_313 rfl (by decide) rfl rfl ?_
  refine g_iconst (v := 0) dX10_seasonsNow_6 (by decide) ?_
  refine g_istore dX10_seasonsNow_7 (by decide) rfl rfl ?_
  refine g_iconst (v := 0) dX10_seasonsNow_9 (by decide) ?_
  refine g_istore dX10_seasonsNow_10 (by decide) rfl rfl ?_
  refine g_iconst (v := 0) dX10_seasonsNow_12 (by decide) ?_
  refine g_istore dX10_seasonsNow_13 (by decide) rfl rfl ?_
  exact lp_seasons hj hF0 hFN1 hT T 0 _ 0 0 none none none (by omega) rfl rfl rfl

set_option maxRecDepth 100000 in
set_option maxHeartbeats 4000000 in
theorem ct_mseasonsX1 (x y z : Int32) (hx : (!decide (x < 1) && !decide (60 < x)) = false) : MC E l 6 mX10_seasons [.ref 53, .int x, .int y, .int z] 83 (hi, hl, RT) 0 0 (fun r h' => r = some (.int (-102)) ∧ h' = (hi, hl, RT)) := by
  refine MC.of [some (.ref 53), some (.int x), some (.int y), some (.int z)] (by decide) rfl (Nat.le_of_ble_eq_true rfl) ?_
  refine g_iload_n dX10_seasons_0 rfl ?_
  refine g_iconst (v := 1) dX10_seasons_1 (by decide) ?_
  refine g_bipush (v := 60) dX10_seasons_2 (by decide) ?_
  refine g_callS3 (M' := mX10_within) (mc' := 0) (ms' := 0) dX10_seasons_4 l_X10_98 s_mX10_within f_mX10_within (Nat.le_of_ble_eq_true rfl) (by decide) ((ct_within _ _ _).weaken (fun r h' q => (⟨by rw [q.1, hx]; rfl, q.2⟩ : r = some (.int 0) ∧ h' = (hi, hl, RT)))) ?_
  rintro _ _ ⟨rfl, rfl⟩
  refine g_ifeq 23 dX10_seasons_7 (by decide) (fun _ => ?_) (fun c => absurd c (by decide))
  refine g_bipush (v := -102) dX10_seasons_23 (by decide) ?_
  exact g_ireturn dX10_seasons_25 rfl rfl ⟨rfl, rfl⟩

set_option maxRecDepth 100000 in
set_option maxHeartbeats 4000000 in
theorem ct_mseasonsX2 (x y z : Int32) (hx : (!decide (x < 1) && !decide (60 < x)) = true) (hy : y < 0) : MC E l 6 mX10_seasons [.ref 53, .int x, .int y, .int z] 83 (hi, hl, RT) 0 0 (fun r h' => r = some (.int (-102)) ∧ h' = (hi, hl, RT)) := by
  refine MC.of [some (.ref 53), some (.int x), some (.int y), some (.int z)] (by decide) rfl (Nat.le_of_ble_eq_true rfl) ?_
  refine g_iload_n dX10_seasons_0 rfl ?_
  refine g_iconst (v := 1) dX10_seasons_1 (by decide) ?_
  refine g_bipush (v := 60) dX10_seasons_2 (by decide) ?_
  refine g_callS3 (M' := mX10_within) (mc' := 0) (ms' := 0) dX10_seasons_4 l_X10_98 s_mX10_within f_mX10_within (Nat.le_of_ble_eq_true rfl) (by decide) ((ct_within _ _ _).weaken (fun r h' q => (⟨by rw [q.1, hx]; rfl, q.2⟩ : r = some (.int 1) ∧ h' = (hi, hl, RT)))) ?_
  rintro _ _ ⟨rfl, rfl⟩
  refine g_ifeq 23 dX10_seasons_7 (by decide) (fun c => absurd c (by decide)) (fun _ => ?_)
  refine g_iload_n dX10_seasons_10 rfl ?_
  refine g_iflt 23 dX10_seasons_11 (by decide) (fun c11 => ?_) (fun c11 => ?_)
  · skip
    refine g_bipush (v := -102) dX10_seasons_23 (by decide) ?_
    exact g_ireturn dX10_seasons_25 rfl rfl ⟨rfl, rfl⟩
  · skip
    exact absurd hy c11

set_option maxRecDepth 100000 in
set_option maxHeartbeats 4000000 in
theorem ct_mseasonsX3 (x y z : Int32) (hx : (!decide (x < 1) && !decide (60 < x)) = true) (hy : ¬ y < 0) (hz : (!decide (z < 0) && !decide (2 < z)) = false) : MC E l 6 mX10_seasons [.ref 53, .int x, .int y, .int z] 83 (hi, hl, RT) 0 0 (fun r h' => r = some (.int (-102)) ∧ h' = (hi, hl, RT)) := by
  refine MC.of [some (.ref 53), some (.int x), some (.int y), some (.int z)] (by decide) rfl (Nat.le_of_ble_eq_true rfl) ?_
  refine g_iload_n dX10_seasons_0 rfl ?_
  refine g_iconst (v := 1) dX10_seasons_1 (by decide) ?_
  refine g_bipush (v := 60) dX10_seasons_2 (by decide) ?_
  refine g_callS3 (M' := mX10_within) (mc' := 0) (ms' := 0) dX10_seasons_4 l_X10_98 s_mX10_within f_mX10_within (Nat.le_of_ble_eq_true rfl) (by decide) ((ct_within _ _ _).weaken (fun r h' q => (⟨by rw [q.1, hx]; rfl, q.2⟩ : r = some (.int 1) ∧ h' = (hi, hl, RT)))) ?_
  rintro _ _ ⟨rfl, rfl⟩
  refine g_ifeq 23 dX10_seasons_7 (by decide) (fun c => absurd c (by decide)) (fun _ => ?_)
  refine g_iload_n dX10_seasons_10 rfl ?_
  refine g_iflt 23 dX10_seasons_11 (by decide) (fun c11 => ?_) (fun c11 => ?_)
  · skip
    exact absurd c11 hy
  · skip
    refine g_iload_n dX10_seasons_14 rfl ?_
    refine g_iconst (v := 0) dX10_seasons_15 (by decide) ?_
    refine g_iconst (v := 2) dX10_seasons_16 (by decide) ?_
    refine g_callS3 (M' := mX10_within) (mc' := 0) (ms' := 0) dX10_seasons_17 l_X10_98 s_mX10_within f_mX10_within (Nat.le_of_ble_eq_true rfl) (by decide) ((ct_within _ _ _).weaken (fun r h' q => (⟨by rw [q.1, hz]; rfl, q.2⟩ : r = some (.int 0) ∧ h' = (hi, hl, RT)))) ?_
    rintro _ _ ⟨rfl, rfl⟩
    refine g_ifne 26 dX10_seasons_20 (by decide) (fun c => absurd c (by decide)) (fun _ => ?_)
    refine g_bipush (v := -102) dX10_seasons_23 (by decide) ?_
    exact g_ireturn dX10_seasons_25 rfl rfl ⟨rfl, rfl⟩

set_option maxRecDepth 100000 in
set_option maxHeartbeats 4000000 in
theorem ct_mseasonsE (x y z : Int32) (hx : (!decide (x < 1) && !decide (60 < x)) = true) (hy : ¬ y < 0) (hz : (!decide (z < 0) && !decide (2 < z)) = true) (hE : hi 53 2 = 0) : MC E l 6 mX10_seasons [.ref 53, .int x, .int y, .int z] 83 (hi, hl, RT) 0 0 (fun r h' => r = some (.int (-103)) ∧ h' = (hi, hl, RT)) := by
  refine MC.of [some (.ref 53), some (.int x), some (.int y), some (.int z)] (by decide) rfl (Nat.le_of_ble_eq_true rfl) ?_
  refine g_iload_n dX10_seasons_0 rfl ?_
  refine g_iconst (v := 1) dX10_seasons_1 (by decide) ?_
  refine g_bipush (v := 60) dX10_seasons_2 (by decide) ?_
  refine g_callS3 (M' := mX10_within) (mc' := 0) (ms' := 0) dX10_seasons_4 l_X10_98 s_mX10_within f_mX10_within (Nat.le_of_ble_eq_true rfl) (by decide) ((ct_within _ _ _).weaken (fun r h' q => (⟨by rw [q.1, hx]; rfl, q.2⟩ : r = some (.int 1) ∧ h' = (hi, hl, RT)))) ?_
  rintro _ _ ⟨rfl, rfl⟩
  refine g_ifeq 23 dX10_seasons_7 (by decide) (fun c => absurd c (by decide)) (fun _ => ?_)
  refine g_iload_n dX10_seasons_10 rfl ?_
  refine g_iflt 23 dX10_seasons_11 (by decide) (fun c11 => ?_) (fun c11 => ?_)
  · skip
    exact absurd c11 hy
  · skip
    refine g_iload_n dX10_seasons_14 rfl ?_
    refine g_iconst (v := 0) dX10_seasons_15 (by decide) ?_
    refine g_iconst (v := 2) dX10_seasons_16 (by decide) ?_
    refine g_callS3 (M' := mX10_within) (mc' := 0) (ms' := 0) dX10_seasons_17 l_X10_98 s_mX10_within f_mX10_within (Nat.le_of_ble_eq_true rfl) (by decide) ((ct_within _ _ _).weaken (fun r h' q => (⟨by rw [q.1, hz]; rfl, q.2⟩ : r = some (.int 1) ∧ h' = (hi, hl, RT)))) ?_
    rintro _ _ ⟨rfl, rfl⟩
    refine g_ifne 26 dX10_seasons_20 (by decide) (fun _ => ?_) (fun c => absurd c (by decide))
    refine g_aload_n dX10_seasons_26 rfl ?_
    refine g_geti dX10_seasons_27 k_X10_140 rfl (by decide) rfl ?_
    refine g_ifne 38 dX10_seasons_30 (by decide) (fun c30 => ?_) (fun c30 => ?_)
    · skip
      exact absurd hE c30
    · skip
      refine g_bipush (v := -103) dX10_seasons_33 (by decide) ?_
      refine g_goto 45 dX10_seasons_35 (by decide) ?_
      exact g_ireturn dX10_seasons_45 rfl rfl ⟨rfl, rfl⟩

set_option maxRecDepth 100000 in
set_option maxHeartbeats 4000000 in
theorem ct_mseasons {N F : Nat} (hj : MO7 hi N F) (hF0 : 0 < F) (hFN1 : F < N) {T : Nat} (hT : T ≤ 100) (y z : Int32) (hx : (!decide (nI T < 1) && !decide (60 < nI T)) = true) (hy : ¬ y < 0) (hz : (!decide (z < 0) && !decide (2 < z)) = true) : MC E l 6 mX10_seasons [.ref 53, .int (nI T), .int y, .int z] 83 (hi, hl, RT) 0 0 (fun r h' => ∃ hlf, r = some (.int (if z = 0 then (snS (vm hi N F) N F T y.toInt64).2.1 else if z = 1 then (snS (vm hi N F) N F T y.toInt64).2.2 else (snS (vm hi N F) N F T y.toInt64).1.toInt32)) ∧ h' = (hi, hlf, RT)) := by
  refine MC.of [some (.ref 53), some (.int (nI T)), some (.int y), some (.int z)] (by decide) rfl (Nat.le_of_ble_eq_true rfl) ?_
  have hE : 0 < N := by omega
  refine g_iload_n dX10_seasons_0 rfl ?_
  refine g_iconst (v := 1) dX10_seasons_1 (by decide) ?_
  refine g_bipush (v := 60) dX10_seasons_2 (by decide) ?_
  refine g_callS3 (M' := mX10_within) (mc' := 0) (ms' := 0) dX10_seasons_4 l_X10_98 s_mX10_within f_mX10_within (Nat.le_of_ble_eq_true rfl) (by decide) ((ct_within _ _ _).weaken (fun r h' q => (⟨by rw [q.1, hx]; rfl, q.2⟩ : r = some (.int 1) ∧ h' = (hi, hl, RT)))) ?_
  rintro _ _ ⟨rfl, rfl⟩
  refine g_ifeq 23 dX10_seasons_7 (by decide) (fun c => absurd c (by decide)) (fun _ => ?_)
  refine g_iload_n dX10_seasons_10 rfl ?_
  refine g_iflt 23 dX10_seasons_11 (by decide) (fun c11 => ?_) (fun c11 => ?_)
  · skip
    exact absurd c11 hy
  · skip
    refine g_iload_n dX10_seasons_14 rfl ?_
    refine g_iconst (v := 0) dX10_seasons_15 (by decide) ?_
    refine g_iconst (v := 2) dX10_seasons_16 (by decide) ?_
    refine g_callS3 (M' := mX10_within) (mc' := 0) (ms' := 0) dX10_seasons_17 l_X10_98 s_mX10_within f_mX10_within (Nat.le_of_ble_eq_true rfl) (by decide) ((ct_within _ _ _).weaken (fun r h' q => (⟨by rw [q.1, hz]; rfl, q.2⟩ : r = some (.int 1) ∧ h' = (hi, hl, RT)))) ?_
    rintro _ _ ⟨rfl, rfl⟩
    refine g_ifne 26 dX10_seasons_20 (by decide) (fun _ => ?_) (fun c => absurd c (by decide))
    refine g_aload_n dX10_seasons_26 rfl ?_
    refine g_geti dX10_seasons_27 k_X10_140 rfl (by decide) rfl ?_
    refine g_ifne 38 dX10_seasons_30 (by decide) (fun c30 => ?_) (fun c30 => ?_)
    · skip
      refine g_aload_n dX10_seasons_38 rfl ?_
      refine g_iload_n dX10_seasons_39 rfl ?_
      refine g_iload_n dX10_seasons_40 rfl ?_
      refine g_iload_n dX10_seasons_41 rfl ?_
      refine g_callV3 (M' := mX10_seasonsNow) (mc' := 0) (ms' := 0) dX10_seasons_42 l_X10_326 s_mX10_seasonsNow (by decide) rfl rfl f_mX10_seasonsNow (Nat.le_of_ble_eq_true rfl) (by decide) (ct_seasonsNow hj hF0 hFN1 hT y z) ?_
      rintro _ _ ⟨hlf, rfl, rfl⟩
      exact g_ireturn dX10_seasons_45 rfl rfl ⟨hlf, rfl, rfl⟩
    · skip
      exact absurd (hj.2.2.1.symm.trans c30) (nI_ne0 hE (by have := hj.1; omega))

end
