section
variable {E : XE} {l : Launch} {hi : Nat → Nat → Int32} {hl : Nat → Nat → Int64}

theorem hasY {x : Int32} {i N : Nat} (h : x = nI N) (hi : i < N) (hN : N ≤ 8) : (!decide (nI i < 0) && !decide (x ≤ nI i)) = true := by
  have h1 : ¬ nI i < 0 := nI_pos (by omega)
  have h2 : ¬ x ≤ nI i := by rw [h]; exact nI_ge hi (by omega)
  simp [h1, h2]
theorem ct_hasY {c : Nat} (hc : isC c) {N i : Nat} (hN8 : N ≤ 8) (hN : hi c 3 = nI N) (h : i < N) : MC E l 1 mX0_has [.ref c, .int (nI i)] 83 (hi, hl, RT) 0 0 (fun r h' => r = some (.int 1) ∧ h' = (hi, hl, RT)) :=
  (ct_has hc (nI i)).weaken (fun r h' q => ⟨by rw [q.1, hasY hN h hN8]; rfl, q.2⟩)
/-- no such person -/
def noP (x : Int32) (N : Nat) : Prop := (!decide (x < 0) && !decide (nI N ≤ x)) = false
theorem ct_hasN {c : Nat} (hc : isC c) {N : Nat} (hN : hi c 3 = nI N) {x : Int32} (h : noP x N) : MC E l 1 mX0_has [.ref c, .int x] 83 (hi, hl, RT) 0 0 (fun r h' => r = some (.int 0) ∧ h' = (hi, hl, RT)) :=
  (ct_has hc x).weaken (fun r h' q => ⟨by rw [q.1, hN, show (!decide (x < 0) && !decide (nI N ≤ x)) = false from h]; rfl, q.2⟩)
theorem ix_cases (x : Int32) {N : Nat} (hN : N ≤ 8) : (∃ i : Nat, i < N ∧ x = nI i) ∨ noP x N := by
  by_cases h : x < 0
  · exact Or.inr (by simp [noP, h])
  · obtain ⟨k, hk, rfl⟩ := nI_of h
    by_cases h2 : k < N
    · exact Or.inl ⟨k, h2, rfl⟩
    · exact Or.inr (by simp [noP, nI_le (Nat.le_of_not_lt h2) hk])
theorem ct_emptyY {c : Nat} (hc : isC c) (h : hi c 3 = 0) : MC E l 1 mX0_isEmpty [.ref c] 83 (hi, hl, RT) 0 0 (fun r h' => r = some (.int 1) ∧ h' = (hi, hl, RT)) :=
  (ct_isEmpty hc).weaken (fun r h' q => ⟨by rw [q.1, decide_eq_true h]; rfl, q.2⟩)
theorem ct_emptyN {c : Nat} (hc : isC c) {N : Nat} (hN8 : N ≤ 8) (hN : hi c 3 = nI N) (h : 0 < N) : MC E l 1 mX0_isEmpty [.ref c] 83 (hi, hl, RT) 0 0 (fun r h' => r = some (.int 0) ∧ h' = (hi, hl, RT)) :=
  (ct_isEmpty hc).weaken (fun r h' q => ⟨by rw [q.1, decide_eq_false (by rw [hN]; exact nI_ne0 h (by omega))]; rfl, q.2⟩)
theorem ct_withinB {x a b : Int32} {t : Bool} (h : (!decide (x < a) && !decide (b < x)) = t) : MC E l 1 mX9_isWithin [.int x, .int a, .int b] 83 (hi, hl, RT) 0 0 (fun r h' => r = some (.int (bI t)) ∧ h' = (hi, hl, RT)) :=
  (ct_isWithin x a b).weaken (fun r h' q => ⟨by rw [q.1, h], q.2⟩)

/-! how likely -/
def pbS (O b : Nat) : Nat → Int32
  | 0 => 0
  | a + 1 => pbS O b a + (if a + 1 < b then 0 else nI b * 420 / nI (a + 1))
def pbF (O b : Nat) : Int32 := if b = 0 then 420 else pbS O b (O - 1)
def gdF : Nat → Int32 → Int32 → Int32
  | 0, g, _ => g
  | n + 1, g, s => if s = 0 then g else gdF n s (g - g / s * s)
def gdR (a b : Int32) : Int32 := if gdF 32 b a = 0 then 1 else gdF 32 b a

set_option maxRecDepth 100000 in
set_option maxHeartbeats 4000000 in
theorem lp_partsOfBest {O b : Nat} (hO : O ≤ 8) (hO1 : 1 ≤ O) (hb0 : 0 < b) (hb8 : b ≤ 8) : ∀ (n i : Nat), i ≤ O - 1 → O - 1 + 1 ≤ i + n → ∀ (s : Int32), s = pbS O b i → G E l 1 mX8_partsOfBest 12 [some (.int (nI O)), some (.int (nI b)), some (.int s), some (.int (nI (i + 1)))] [] 83 (hi, hl, RT) 0 0 (fun r h' => r = some (.int (pbF O b)) ∧ h' = (hi, hl, RT)) := by
  intro n
  induction n with
  | zero =>
    intro i h1 h2
    exact absurd h2 (by omega)
  | succ n ih =>
    intro i hi1 hi2 s hs
    refine g_iload_n dX8_partsOfBest_12 rfl ?_
    refine g_iload_n dX8_partsOfBest_13 rfl ?_
    refine g_icmpge 42 dX8_partsOfBest_14 (by decide) (fun c14 => ?_) (fun c14 => ?_)
    · skip
      have hiN : i = O - 1 := by
        have := ge_out (x := nI O) rfl c14 (by omega) (by omega)
        omega
      refine g_iload_n dX8_partsOfBest_42 rfl ?_
      exact g_ireturn dX8_partsOfBest_43 rfl rfl ⟨by rw [hs, pbF, if_neg (by omega), hiN], rfl⟩
    · skip
      have hlt : i + 1 < O := lt_in (x := nI O) rfl c14 (by omega) (by omega)
      refine g_iload_n dX8_partsOfBest_17 rfl ?_
      refine g_iload_n dX8_partsOfBest_18 rfl ?_
      refine g_iload_n dX8_partsOfBest_19 rfl ?_
      refine g_icmplt 33 dX8_partsOfBest_20 (by decide) (fun c20 => ?_) (fun c20 => ?_)
      · skip
        refine g_iconst (v := 0) dX8_partsOfBest_33 (by decide) ?_
        refine g_iadd dX8_partsOfBest_34 ?_
        refine g_istore_n dX8_partsOfBest_35 (by decide) rfl rfl ?_
        refine g_iinc dX8_partsOfBest_36 rfl (nI_inc (i + 1)) (by decide) rfl rfl ?_
        refine g_goto 12 dX8_partsOfBest_39 (by decide) ?_
        exact ih (i + 1) (by omega) (by omega) _ (by rw [hs, pbS, if_pos ((nI_ltI (by omega) (by omega)).mp c20)])
      · skip
        refine g_iload_n dX8_partsOfBest_23 rfl ?_
        refine g_sipush (v := 420) dX8_partsOfBest_24 (by decide) ?_
        refine g_imul dX8_partsOfBest_27 ?_
        refine g_iload_n dX8_partsOfBest_28 rfl ?_
        refine g_idiv dX8_partsOfBest_29 (nI_ne0 (by omega) (by omega)) ?_
        refine g_goto 34 dX8_partsOfBest_30 (by decide) ?_
        refine g_iadd dX8_partsOfBest_34 ?_
        refine g_istore_n dX8_partsOfBest_35 (by decide) rfl rfl ?_
        refine g_iinc dX8_partsOfBest_36 rfl (nI_inc (i + 1)) (by decide) rfl rfl ?_
        refine g_goto 12 dX8_partsOfBest_39 (by decide) ?_
        exact ih (i + 1) (by omega) (by omega) _ (by rw [hs, pbS, if_neg (fun q => c20 (nI_lt q (by omega)))])

set_option maxRecDepth 100000 in
set_option maxHeartbeats 4000000 in
theorem ct_partsOfBest {O b : Nat} (hO : O ≤ 8) (hO1 : 1 ≤ O) (hb8 : b ≤ 8) : MC E l 1 mX8_partsOfBest [.int (nI O), .int (nI b)] 83 (hi, hl, RT) 0 0 (fun r h' => r = some (.int (pbF O b)) ∧ h' = (hi, hl, RT)) := by
  refine MC.of [some (.int (nI O)), some (.int (nI b)), none, none] (by decide) rfl (Nat.le_of_ble_eq_true rfl) ?_
  refine g_iload_n dX8_partsOfBest_0 rfl ?_
  refine g_ifne 8 dX8_partsOfBest_1 (by decide) (fun c1 => ?_) (fun c1 => ?_)
  · skip
    have hb0 : 0 < b := Nat.pos_of_ne_zero (fun q => c1 (by rw [q]; rfl))
    refine g_iconst (v := 0) dX8_partsOfBest_8 (by decide) ?_
    refine g_istore_n dX8_partsOfBest_9 (by decide) rfl rfl ?_
    refine g_iconst (v := 1) dX8_partsOfBest_10 (by decide) ?_
    refine g_istore_n dX8_partsOfBest_11 (by decide) rfl rfl ?_
    exact lp_partsOfBest hO hO1 hb0 hb8 (O + 1) 0 (by omega) (by omega) 0 rfl
  · skip
    refine g_sipush (v := 420) dX8_partsOfBest_4 (by decide) ?_
    exact g_ireturn dX8_partsOfBest_7 rfl rfl ⟨by rw [pbF, if_pos ((nI_eq (b := 0) (by omega) (by decide)).mp c1)], rfl⟩

set_option maxRecDepth 100000 in
set_option maxHeartbeats 4000000 in
theorem lp_gd {a0 b0 : Int32} : ∀ (n i : Nat) (g s : Int32) (l5 : Option Value), i + n = 32 → xcat2 l5 = false → G E l 1 mX8_greatestDivisor 7 [some (.int a0), some (.int b0), some (.int g), some (.int s), some (.int (nI i)), l5] [] 83 (hi, hl, RT) 0 0 (fun r h' => r = some (.int (if gdF n g s = 0 then 1 else gdF n g s)) ∧ h' = (hi, hl, RT)) := by
  intro n
  induction n with
  | zero =>
    intro i g s l5 hin hx
    have hi32 : i = 32 := by omega
    subst hi32
    refine g_iload dX8_greatestDivisor_7 rfl ?_
    refine g_bipush (v := 32) dX8_greatestDivisor_9 (by decide) ?_
    refine g_icmpge 34 dX8_greatestDivisor_11 (by decide) (fun c11 => ?_) (fun c11 => ?_)
    · skip
      refine g_iload_n dX8_greatestDivisor_34 rfl ?_
      refine g_ifne 42 dX8_greatestDivisor_35 (by decide) (fun c35 => ?_) (fun c35 => ?_)
      · skip
        refine g_iload_n dX8_greatestDivisor_42 rfl ?_
        exact g_ireturn dX8_greatestDivisor_43 rfl rfl ⟨by rw [gdF, if_neg c35], rfl⟩
      · skip
        refine g_iconst (v := 1) dX8_greatestDivisor_38 (by decide) ?_
        refine g_goto 43 dX8_greatestDivisor_39 (by decide) ?_
        exact g_ireturn dX8_greatestDivisor_43 rfl rfl ⟨by rw [gdF, if_pos c35], rfl⟩
    · skip
      exact absurd (Int32.le_refl _) c11
  | succ n ih =>
    intro i g s l5 hin hx
    refine g_iload dX8_greatestDivisor_7 rfl ?_
    refine g_bipush (v := 32) dX8_greatestDivisor_9 (by decide) ?_
    refine g_icmpge 34 dX8_greatestDivisor_11 (by decide) (fun c11 => ?_) (fun c11 => ?_)
    · skip
      exact absurd ((nI_leI (a := 32) (by decide) (by omega)).mp c11) (by omega)
    · skip
      refine g_iload_n dX8_greatestDivisor_14 rfl ?_
      refine g_ifeq 34 dX8_greatestDivisor_15 (by decide) (fun c15 => ?_) (fun c15 => ?_)
      · skip
        refine g_iload_n dX8_greatestDivisor_34 rfl ?_
        refine g_ifne 42 dX8_greatestDivisor_35 (by decide) (fun c35 => ?_) (fun c35 => ?_)
        · skip
          refine g_iload_n dX8_greatestDivisor_42 rfl ?_
          exact g_ireturn dX8_greatestDivisor_43 rfl rfl ⟨by rw [gdF, if_pos c15, if_neg c35], rfl⟩
        · skip
          refine g_iconst (v := 1) dX8_greatestDivisor_38 (by decide) ?_
          refine g_goto 43 dX8_greatestDivisor_39 (by decide) ?_
          exact g_ireturn dX8_greatestDivisor_43 rfl rfl ⟨by rw [gdF, if_pos c15, if_pos c35], rfl⟩
      · skip
        refine g_iload_n dX8_greatestDivisor_18 rfl ?_
        refine g_iload_n dX8_greatestDivisor_19 rfl ?_
        refine g_irem dX8_greatestDivisor_20 c15 ?_
        refine g_istore dX8_greatestDivisor_21 (by decide) rfl rfl ?_
        refine g_iload_n dX8_greatestDivisor_23 rfl ?_
        refine g_istore_n dX8_greatestDivisor_24 (by decide) rfl rfl ?_
        refine g_iload dX8_greatestDivisor_25 rfl ?_
        refine g_istore_n dX8_greatestDivisor_27 (by decide) rfl rfl ?_
        refine g_iinc dX8_greatestDivisor_28 rfl (nI_inc i) (by decide) rfl rfl ?_
        refine g_goto 7 dX8_greatestDivisor_31 (by decide) ?_
        have e : gdF (n + 1) g s = gdF n s (g - g / s * s) := by rw [gdF, if_neg c15]
        rw [e]
        exact ih (i + 1) s _ _ (by omega) rfl

set_option maxRecDepth 100000 in
set_option maxHeartbeats 4000000 in
theorem ct_greatestDivisor (a b : Int32) : MC E l 1 mX8_greatestDivisor [.int a, .int b] 83 (hi, hl, RT) 0 0 (fun r h' => r = some (.int (gdR a b)) ∧ h' = (hi, hl, RT)) := by
  refine MC.of [some (.int a), some (.int b), none, none, none, none] (by decide) rfl (Nat.le_of_ble_eq_true rfl) ?_
  refine g_iload_n dX8_greatestDivisor_0 rfl ?_
  refine g_istore_n dX8_greatestDivisor_1 (by decide) rfl rfl ?_
  refine g_iload_n dX8_greatestDivisor_2 rfl ?_
  refine g_istore_n dX8_greatestDivisor_3 (by decide) rfl rfl ?_
  refine g_iconst (v := 0) dX8_greatestDivisor_4 (by decide) ?_
  refine g_istore dX8_greatestDivisor_5 (by decide) rfl rfl ?_
  exact lp_gd 32 0 b a none (by omega) rfl

def lkF (O : Nat) : Nat → Nat
  | 0 => 0
  | b + 1 => if pbF O (b + 1) ≤ pbF O (lkF O b) then lkF O b else b + 1
theorem lkF_le (O : Nat) : ∀ n, lkF O n ≤ n
  | 0 => Nat.le_refl 0
  | n + 1 => by
    rw [lkF]
    split
    · exact Nat.le_succ_of_le (lkF_le O n)
    · exact Nat.le_refl _

set_option maxRecDepth 100000 in
set_option maxHeartbeats 4000000 in
theorem lp_likeliest {O : Nat} (hO : O ≤ 8) (hO1 : 1 ≤ O) : ∀ (n i : Nat), i ≤ O - 1 → O - 1 + 1 ≤ i + n → ∀ (q : Nat), q = lkF O i → G E l 2 mX8_likeliest 4 [some (.int (nI O)), some (.int (nI q)), some (.int (nI (i + 1)))] [] 83 (hi, hl, RT) 0 0 (fun r h' => r = some (.int (nI (lkF O (O - 1)))) ∧ h' = (hi, hl, RT)) := by
  intro n
  induction n with
  | zero =>
    intro i h1 h2
    exact absurd h2 (by omega)
  | succ n ih =>
    intro i hi1 hi2 q hq
    have hqi : q ≤ i := by rw [hq]; exact lkF_le O i
    refine g_iload_n dX8_likeliest_4 rfl ?_
    refine g_iload_n dX8_likeliest_5 rfl ?_
    refine g_icmpge 30 dX8_likeliest_6 (by decide) (fun c6 => ?_) (fun c6 => ?_)
    · skip
      have hiN : i = O - 1 := by
        have := ge_out (x := nI O) rfl c6 (by omega) (by omega)
        omega
      refine g_iload_n dX8_likeliest_30 rfl ?_
      exact g_ireturn dX8_likeliest_31 rfl rfl ⟨by rw [hq, hiN], rfl⟩
    · skip
      have hlt : i + 1 < O := lt_in (x := nI O) rfl c6 (by omega) (by omega)
      refine g_iload_n dX8_likeliest_9 rfl ?_
      refine g_iload_n dX8_likeliest_10 rfl ?_
      refine g_callS2 (M' := mX8_partsOfBest) (mc' := 0) (ms' := 0) dX8_likeliest_11 l_X8_15 s_mX8_partsOfBest f_mX8_partsOfBest (Nat.le_of_ble_eq_true rfl) (by decide) (ct_partsOfBest hO hO1 (by omega)) ?_
      rintro _ _ ⟨rfl, rfl⟩
      refine g_iload_n dX8_likeliest_14 rfl ?_
      refine g_iload_n dX8_likeliest_15 rfl ?_
      refine g_callS2 (M' := mX8_partsOfBest) (mc' := 0) (ms' := 0) dX8_likeliest_16 l_X8_15 s_mX8_partsOfBest f_mX8_partsOfBest (Nat.le_of_ble_eq_true rfl) (by decide) (ct_partsOfBest hO hO1 (by omega)) ?_
      rintro _ _ ⟨rfl, rfl⟩
      refine g_icmple 24 dX8_likeliest_19 (by decide) (fun c19 => ?_) (fun c19 => ?_)
      · skip
        refine g_iinc dX8_likeliest_24 rfl (nI_inc (i + 1)) (by decide) rfl rfl ?_
        refine g_goto 4 dX8_likeliest_27 (by decide) ?_
        exact ih (i + 1) (by omega) (by omega) q (by rw [lkF, if_pos (hq ▸ c19)]; exact hq)
      · skip
        refine g_iload_n dX8_likeliest_22 rfl ?_
        refine g_istore_n dX8_likeliest_23 (by decide) rfl rfl ?_
        refine g_iinc dX8_likeliest_24 rfl (nI_inc (i + 1)) (by decide) rfl rfl ?_
        refine g_goto 4 dX8_likeliest_27 (by decide) ?_
        exact ih (i + 1) (by omega) (by omega) (i + 1) (by rw [lkF, if_neg (hq ▸ c19)])

set_option maxRecDepth 100000 in
set_option maxHeartbeats 4000000 in
theorem ct_likeliest {O : Nat} (hO : O ≤ 8) (hO1 : 1 ≤ O) : MC E l 2 mX8_likeliest [.int (nI O)] 83 (hi, hl, RT) 0 0 (fun r h' => r = some (.int (nI (lkF O (O - 1)))) ∧ h' = (hi, hl, RT)) := by
  refine MC.of [some (.int (nI O)), none, none] (by decide) rfl (Nat.le_of_ble_eq_true rfl) ?_
  refine g_iconst (v := 0) dX8_likeliest_0 (by decide) ?_
  refine g_istore_n dX8_likeliest_1 (by decide) rfl rfl ?_
  refine g_iconst (v := 1) dX8_likeliest_2 (by decide) ?_
  refine g_istore_n dX8_likeliest_3 (by decide) rfl rfl ?_
  exact lp_likeliest hO hO1 (O + 1) 0 (by omega) (by omega) 0 rfl

set_option maxRecDepth 100000 in
set_option maxHeartbeats 4000000 in
theorem ct_letterX (x : Int32) (hw : (!decide (x < 32) && !decide (126 < x)) = false) : MC E l 2 mX9_letter [.ref 0, .int (x)] 83 (hi, hl, RT) 0 0 (fun r h' => r = some (.int (-102)) ∧ h' = (hi, hl, RT)) := by
  refine MC.of [some (.ref 0), some (.int (x))] (by decide) rfl (Nat.le_of_ble_eq_true rfl) ?_
  refine g_iload_n dX9_letter_0 rfl ?_
  refine g_bipush (v := 32) dX9_letter_1 (by decide) ?_
  refine g_bipush (v := 126) dX9_letter_3 (by decide) ?_
  refine g_callS3 (M' := mX9_isWithin) (mc' := 0) (ms' := 0) dX9_letter_5 l_X9_40 s_mX9_isWithin f_mX9_isWithin (Nat.le_of_ble_eq_true rfl) (by decide) (ct_withinB (t := false) hw) ?_
  rintro _ _ ⟨rfl, rfl⟩
  refine g_ifne 14 dX9_letter_8 (by decide) (fun c => absurd c (by decide)) (fun _ => ?_)
  refine g_bipush (v := -102) dX9_letter_11 (by decide) ?_
  exact g_ireturn dX9_letter_13 rfl rfl ⟨rfl, rfl⟩

set_option maxRecDepth 100000 in
set_option maxHeartbeats 4000000 in
theorem ct_letter (x : Int32) (hw : (!decide (x < 32) && !decide (126 < x)) = true) {L : Nat} (hL1 : L ≤ 41) (hL2 : hi 1 1 = nI L) : MC E l 2 mX9_letter [.ref 0, .int (x)] 83 (hi, hl, RT) 0 0 (fun r h' => (L = 41 ∧ r = some (.int (-104)) ∧ h' = (hi, hl, RT)) ∨ (L < 41 ∧ r = some (.int (nI (L + 1))) ∧ h' = (upI (upI hi 2 L x) 1 1 (nI (L + 1)), hl, RT))) := by
  refine MC.of [some (.ref 0), some (.int (x))] (by decide) rfl (Nat.le_of_ble_eq_true rfl) ?_
  refine g_iload_n dX9_letter_0 rfl ?_
  refine g_bipush (v := 32) dX9_letter_1 (by decide) ?_
  refine g_bipush (v := 126) dX9_letter_3 (by decide) ?_
  refine g_callS3 (M' := mX9_isWithin) (mc' := 0) (ms' := 0) dX9_letter_5 l_X9_40 s_mX9_isWithin f_mX9_isWithin (Nat.le_of_ble_eq_true rfl) (by decide) (ct_withinB (t := true) hw) ?_
  rintro _ _ ⟨rfl, rfl⟩
  refine g_ifne 14 dX9_letter_8 (by decide) (fun _ => ?_) (fun c => absurd c (by decide))
  refine g_aload_n dX9_letter_14 rfl ?_
  refine g_getr dX9_letter_15 k_X9_12 rfl (by decide) rfl rfl ?_
  refine g_iload_n dX9_letter_18 rfl ?_
  refine g_callV1 (M' := mX4_add) (mc' := 0) (ms' := 0) dX9_letter_19 l_X9_44 s_mX4_add (by decide) rfl rfl f_mX4_add (Nat.le_of_ble_eq_true rfl) (by decide) (ct_padd x hL1 hL2) ?_
  rintro _ _ (⟨hc1, rfl, rfl⟩ | ⟨hc1, rfl, rfl⟩)
  
  · refine g_ifeq 35 dX9_letter_22 (by decide) (fun _ => ?_) (fun c => absurd rfl c)
    refine g_bipush (v := -104) dX9_letter_35 (by decide) ?_
    exact g_ireturn dX9_letter_37 rfl rfl (Or.inl ⟨hc1, rfl, rfl⟩)
  · refine g_ifeq 35 dX9_letter_22 (by decide) (fun c => absurd c (by decide)) (fun _ => ?_)
    refine g_aload_n dX9_letter_25 rfl ?_
    refine g_getr dX9_letter_26 k_X9_12 rfl (by decide) rfl rfl ?_
    refine g_geti dX9_letter_29 k_X9_48 rfl (by decide) rfl ?_
    refine g_goto 37 dX9_letter_32 (by decide) ?_
    exact g_ireturn dX9_letter_37 rfl rfl (Or.inr ⟨hc1, by show some (Value.int (upI (upI hi 2 L x) 1 1 (nI (L + 1)) 1 1)) = _; rw [upI_s], rfl⟩)

set_option maxRecDepth 100000 in
set_option maxHeartbeats 4000000 in
theorem ct_blank  : MC E l 2 mX9_blank [.ref 0] 83 (hi, hl, RT) 0 0 (fun r h' => r = some (.int (hi 1 1)) ∧ h' = (upI hi 1 1 0, hl, RT)) := by
  refine MC.of [some (.ref 0), none] (by decide) rfl (Nat.le_of_ble_eq_true rfl) ?_
  refine g_aload_n dX9_blank_0 rfl ?_
  refine g_getr dX9_blank_1 k_X9_12 rfl (by decide) rfl rfl ?_
  refine g_geti dX9_blank_4 k_X9_48 rfl (by decide) rfl ?_
  refine g_istore_n dX9_blank_7 (by decide) rfl rfl ?_
  refine g_aload_n dX9_blank_8 rfl ?_
  refine g_getr dX9_blank_9 k_X9_12 rfl (by decide) rfl rfl ?_
  refine g_callV0 (M' := mX4_clear) (mc' := 0) (ms' := 0) dX9_blank_12 l_X9_52 s_mX4_clear (by decide) rfl rfl f_mX4_clear (Nat.le_of_ble_eq_true rfl) (by decide) (ct_pclear) ?_
  rintro _ _ ⟨rfl, rfl⟩
  refine g_iload_n dX9_blank_15 rfl ?_
  exact g_ireturn dX9_blank_16 rfl rfl ⟨rfl, rfl⟩

set_option maxRecDepth 100000 in
set_option maxHeartbeats 4000000 in
theorem ct_fault {L : Nat} (hL1 : L ≤ 41) (hL2 : hi 1 1 = nI L) : MC E l 5 mX9_fault [.ref 0] 83 (hi, hl, RT) 0 0 (fun r h' => r = some (.int (ffS hi L L 0 false 0)) ∧ h' = (hi, hl, RT)) := by
  refine MC.of [some (.ref 0)] (by decide) rfl (Nat.le_of_ble_eq_true rfl) ?_
  refine g_aload_n dX9_fault_0 rfl ?_
  refine g_getr dX9_fault_1 k_X9_12 rfl (by decide) rfl rfl ?_
  refine g_callV0 (M' := mX4_firstFault) (mc' := 0) (ms' := 0) dX9_fault_4 l_X9_55 s_mX4_firstFault (by decide) rfl rfl f_mX4_firstFault (Nat.le_of_ble_eq_true rfl) (by decide) (ct_firstFault hL1 hL2) ?_
  rintro _ _ ⟨rfl, rfl⟩
  exact g_ireturn dX9_fault_7 rfl rfl ⟨rfl, rfl⟩

set_option maxRecDepth 100000 in
set_option maxHeartbeats 4000000 in
theorem ct_seaX {L : Nat} (hL1 : L ≤ 41) (hL2 : hi 1 1 = nI L) (hs : seaB hi L = false) : MC E l 6 mX9_sea [.ref 0] 83 (hi, hl, RT) 0 0 (fun r h' => r = some (.int (-103)) ∧ h' = (hi, hl, RT)) := by
  refine MC.of [some (.ref 0)] (by decide) rfl (Nat.le_of_ble_eq_true rfl) ?_
  refine g_aload_n dX9_sea_0 rfl ?_
  refine g_getr dX9_sea_1 k_X9_12 rfl (by decide) rfl rfl ?_
  refine g_callV0 (M' := mX4_isSea) (mc' := 0) (ms' := 0) dX9_sea_4 l_X9_59 s_mX4_isSea (by decide) rfl rfl f_mX4_isSea (Nat.le_of_ble_eq_true rfl) (by decide) ((ct_isSea hL1 hL2).weaken (fun r h' q => (⟨by rw [q.1, hs]; rfl, q.2⟩ : r = some (.int 0) ∧ h' = (hi, hl, RT)))) ?_
  rintro _ _ ⟨rfl, rfl⟩
  refine g_ifne 13 dX9_sea_7 (by decide) (fun c => absurd c (by decide)) (fun _ => ?_)
  refine g_bipush (v := -103) dX9_sea_10 (by decide) ?_
  exact g_ireturn dX9_sea_12 rfl rfl ⟨rfl, rfl⟩

set_option maxRecDepth 100000 in
set_option maxHeartbeats 4000000 in
theorem ct_sea {L N : Nat} (hN8 : N ≤ 8) (hLN : L + 1 = 5 * N) (hL2 : hi 1 1 = nI L) (hs : seaB hi L = true) : MC E l 6 mX9_sea [.ref 0] 83 (hi, hl, RT) 0 0 (fun r h' => r = some (.int (nI N)) ∧ h' = (upI (upI (upI (upI (upI (upI (upI (upI (upI (upI (rdF hi 3 N) 3 4 9) 3 5 0) 3 6 0) 3 7 0) 3 8 0) 3 9 0) (3 + 2) 3 0) 1 1 0) 0 5 0) 0 6 (hi 0 6 + 1), hl, RT)) := by
  refine MC.of [some (.ref 0)] (by decide) rfl (Nat.le_of_ble_eq_true rfl) ?_
  refine g_aload_n dX9_sea_0 rfl ?_
  refine g_getr dX9_sea_1 k_X9_12 rfl (by decide) rfl rfl ?_
  refine g_callV0 (M' := mX4_isSea) (mc' := 0) (ms' := 0) dX9_sea_4 l_X9_59 s_mX4_isSea (by decide) rfl rfl f_mX4_isSea (Nat.le_of_ble_eq_true rfl) (by decide) ((ct_isSea (by omega) hL2).weaken (fun r h' q => (⟨by rw [q.1, hs]; rfl, q.2⟩ : r = some (.int 1) ∧ h' = (hi, hl, RT)))) ?_
  rintro _ _ ⟨rfl, rfl⟩
  refine g_ifne 13 dX9_sea_7 (by decide) (fun _ => ?_) (fun c => absurd c (by decide))
  refine g_aload_n dX9_sea_13 rfl ?_
  refine g_getr dX9_sea_14 k_X9_19 rfl (by decide) rfl rfl ?_
  refine g_aload_n dX9_sea_17 rfl ?_
  refine g_getr dX9_sea_18 k_X9_12 rfl (by decide) rfl rfl ?_
  refine g_callV1 (M' := mX0_readFrom) (mc' := 0) (ms' := 0) dX9_sea_21 l_X9_63 s_mX0_readFrom (by decide) rfl rfl f_mX0_readFrom (Nat.le_of_ble_eq_true rfl) (by decide) (ct_readFrom isC3 hN8 hLN hL2) ?_
  rintro _ _ ⟨rfl, rfl⟩
  refine g_aload_n dX9_sea_24 rfl ?_
  refine g_getr dX9_sea_25 k_X9_12 rfl (by decide) rfl rfl ?_
  refine g_callV0 (M' := mX4_clear) (mc' := 0) (ms' := 0) dX9_sea_28 l_X9_52 s_mX4_clear (by decide) rfl rfl f_mX4_clear (Nat.le_of_ble_eq_true rfl) (by decide) (ct_pclear) ?_
  rintro _ _ ⟨rfl, rfl⟩
  refine g_aload_n dX9_sea_31 rfl ?_
  refine g_iconst (v := 0) dX9_sea_32 (by decide) ?_
  refine g_puti dX9_sea_33 k_X9_67 rfl (by decide) rfl rfl rfl ?_
  refine g_aload_n dX9_sea_36 rfl ?_
  refine g_dup dX9_sea_37 rfl ?_
  refine g_geti dX9_sea_38 k_X9_71 rfl (by decide) rfl ?_
  refine g_iconst (v := 1) dX9_sea_41 (by decide) ?_
  refine g_iadd dX9_sea_42 ?_
  refine g_puti dX9_sea_43 k_X9_71 rfl (by decide) rfl rfl rfl ?_
  refine g_aload_n dX9_sea_46 rfl ?_
  refine g_getr dX9_sea_47 k_X9_19 rfl (by decide) rfl rfl ?_
  refine g_geti dX9_sea_50 k_X9_74 rfl (by decide) rfl ?_
  exact g_ireturn dX9_sea_53 rfl rfl ⟨by
      show some (Value.int (upI (upI (upI (upI (upI (upI (upI (upI (upI (upI (rdF hi 3 N) 3 4 9) 3 5 0) 3 6 0) 3 7 0) 3 8 0) 3 9 0) (3 + 2) 3 0) 1 1 0) 0 5 0) 0 6 (upI (upI (upI (upI (upI (upI (upI (upI (upI (rdF hi 3 N) 3 4 9) 3 5 0) 3 6 0) 3 7 0) 3 8 0) 3 9 0) (3 + 2) 3 0) 1 1 0) 0 5 0 0 6 + 1) 3 3)) = _
      rw [upI_a (by decide), upI_a (by decide), upI_a (by decide), upI_a (by decide), upI_k (by decide), upI_k (by decide), upI_k (by decide), upI_k (by decide), upI_k (by decide), upI_k (by decide), rd_size], by
      refine congrArg (fun f => ((f, hl, RT) : XH)) ?_
      refine congrArg (upI _ 0 6) ?_
      show upI (upI (upI (upI (upI (upI (upI (upI (upI (rdF hi 3 N) 3 4 9) 3 5 0) 3 6 0) 3 7 0) 3 8 0) 3 9 0) (3 + 2) 3 0) 1 1 0) 0 5 0 0 6 + 1 = _
      rw [upI_k (by decide), upI_a (by decide), upI_a (by decide), upI_a (by decide), upI_a (by decide), upI_a (by decide), upI_a (by decide), upI_a (by decide), upI_a (by decide), rd_off (by decide) (by omega)]⟩

set_option maxRecDepth 100000 in
set_option maxHeartbeats 4000000 in
theorem ct_personX {N : Nat} (hN8 : N ≤ 8) (hN : hi 3 3 = nI N) (x w : Int32) (hx : noP x N) : MC E l 2 mX9_person [.ref 0, .int (x), .int (w)] 83 (hi, hl, RT) 0 0 (fun r h' => r = some (.int (-101)) ∧ h' = (hi, hl, RT)) := by
  refine MC.of [some (.ref 0), some (.int (x)), some (.int (w))] (by decide) rfl (Nat.le_of_ble_eq_true rfl) ?_
  refine g_aload_n dX9_person_0 rfl ?_
  refine g_getr dX9_person_1 k_X9_19 rfl (by decide) rfl rfl ?_
  refine g_iload_n dX9_person_4 rfl ?_
  refine g_callV1 (M' := mX0_has) (mc' := 0) (ms' := 0) dX9_person_5 l_X9_77 s_mX0_has (by decide) rfl rfl f_mX0_has (Nat.le_of_ble_eq_true rfl) (by decide) (ct_hasN isC3 hN hx) ?_
  rintro _ _ ⟨rfl, rfl⟩
  refine g_ifne 14 dX9_person_8 (by decide) (fun c => absurd c (by decide)) (fun _ => ?_)
  refine g_bipush (v := -101) dX9_person_11 (by decide) ?_
  exact g_ireturn dX9_person_13 rfl rfl ⟨rfl, rfl⟩

set_option maxRecDepth 100000 in
set_option maxHeartbeats 4000000 in
theorem ct_person (hkv : KV hi) {N : Nat} (hN8 : N ≤ 8) (hN : hi 3 3 = nI N) {S : Nat} (hS8 : S ≤ 8) (hS : hi (3 + 2) 3 = nI S) {i : Nat} (hi1 : i < N) (k : Nat) (hk : k < 15) : MC E l 7 mX9_person [.ref 0, .int (nI i), .int (nI k)] 83 (hi, hl, RT) 0 0 (fun r h' => r = some (.int (tofN hi 3 N S (3 + 6 + i) k)) ∧ h' = (hi, hl, RT)) := by
  refine MC.of [some (.ref 0), some (.int (nI i)), some (.int (nI k))] (by decide) rfl (Nat.le_of_ble_eq_true rfl) ?_
  have hi8 : i < 8 := by omega
  refine g_aload_n dX9_person_0 rfl ?_
  refine g_getr dX9_person_1 k_X9_19 rfl (by decide) rfl rfl ?_
  refine g_iload_n dX9_person_4 rfl ?_
  refine g_callV1 (M' := mX0_has) (mc' := 0) (ms' := 0) dX9_person_5 l_X9_77 s_mX0_has (by decide) rfl rfl f_mX0_has (Nat.le_of_ble_eq_true rfl) (by decide) (ct_hasY isC3 hN8 hN hi1) ?_
  rintro _ _ ⟨rfl, rfl⟩
  refine g_ifne 14 dX9_person_8 (by decide) (fun _ => ?_) (fun c => absurd c (by decide))
  refine g_aload_n dX9_person_14 rfl ?_
  refine g_getr dX9_person_15 k_X9_19 rfl (by decide) rfl rfl ?_
  refine g_aload_n dX9_person_18 rfl ?_
  refine g_getr dX9_person_19 k_X9_19 rfl (by decide) rfl rfl ?_
  refine g_getr dX9_person_22 k_X9_80 rfl (by decide) rfl isC3.people ?_
  refine g_iload_n dX9_person_25 rfl ?_
  refine g_aald dX9_person_26 isC3.a1.1 isC3.a1.2 rfl hi8 (by decide) (isC3.rp hi8) ?_
  refine g_iload_n dX9_person_27 rfl ?_
  refine g_callV2 (M' := mX0_tellOf) (mc' := 0) (ms' := 0) dX9_person_28 l_X9_84 s_mX0_tellOf (by decide) rfl rfl f_mX0_tellOf (Nat.le_of_ble_eq_true rfl) (by decide) (ct_tellOf hkv isC3 hN8 hN hS8 hS (isC3.p hi8) k hk) ?_
  rintro _ _ ⟨rfl, rfl⟩
  exact g_ireturn dX9_person_31 rfl rfl ⟨rfl, rfl⟩

set_option maxRecDepth 100000 in
set_option maxHeartbeats 4000000 in
theorem ct_personW {N : Nat} (hN8 : N ≤ 8) (hN : hi 3 3 = nI N) {i : Nat} (hi1 : i < N) (w : Int32) (hw : w.toInt < 0 ∨ 14 < w.toInt) : MC E l 2 mX9_person [.ref 0, .int (nI i), .int (w)] 83 (hi, hl, RT) 0 0 (fun r h' => r = some (.int (-102)) ∧ h' = (hi, hl, RT)) := by
  refine MC.of [some (.ref 0), some (.int (nI i)), some (.int (w))] (by decide) rfl (Nat.le_of_ble_eq_true rfl) ?_
  have hi8 : i < 8 := by omega
  refine g_aload_n dX9_person_0 rfl ?_
  refine g_getr dX9_person_1 k_X9_19 rfl (by decide) rfl rfl ?_
  refine g_iload_n dX9_person_4 rfl ?_
  refine g_callV1 (M' := mX0_has) (mc' := 0) (ms' := 0) dX9_person_5 l_X9_77 s_mX0_has (by decide) rfl rfl f_mX0_has (Nat.le_of_ble_eq_true rfl) (by decide) (ct_hasY isC3 hN8 hN hi1) ?_
  rintro _ _ ⟨rfl, rfl⟩
  refine g_ifne 14 dX9_person_8 (by decide) (fun _ => ?_) (fun c => absurd c (by decide))
  refine g_aload_n dX9_person_14 rfl ?_
  refine g_getr dX9_person_15 k_X9_19 rfl (by decide) rfl rfl ?_
  refine g_aload_n dX9_person_18 rfl ?_
  refine g_getr dX9_person_19 k_X9_19 rfl (by decide) rfl rfl ?_
  refine g_getr dX9_person_22 k_X9_80 rfl (by decide) rfl isC3.people ?_
  refine g_iload_n dX9_person_25 rfl ?_
  refine g_aald dX9_person_26 isC3.a1.1 isC3.a1.2 rfl hi8 (by decide) (isC3.rp hi8) ?_
  refine g_iload_n dX9_person_27 rfl ?_
  refine g_callV2 (M' := mX0_tellOf) (mc' := 0) (ms' := 0) dX9_person_28 l_X9_84 s_mX0_tellOf (by decide) rfl rfl f_mX0_tellOf (Nat.le_of_ble_eq_true rfl) (by decide) (ct_tellOfX isC3 (isC3.p hi8) w hw) ?_
  rintro _ _ ⟨rfl, rfl⟩
  exact g_ireturn dX9_person_31 rfl rfl ⟨rfl, rfl⟩

set_option maxRecDepth 100000 in
set_option maxHeartbeats 4000000 in
theorem ct_asX {N : Nat} (hN8 : N ≤ 8) (hN : hi 3 3 = nI N) (x w : Int32) (hx : noP x N) : MC E l 2 mX9_as [.ref 0, .int (x), .int (w)] 83 (hi, hl, RT) 0 0 (fun r h' => r = some (.int (-101)) ∧ h' = (hi, hl, RT)) := by
  refine MC.of [some (.ref 0), some (.int (x)), some (.int (w))] (by decide) rfl (Nat.le_of_ble_eq_true rfl) ?_
  refine g_aload_n dX9_as_0 rfl ?_
  refine g_getr dX9_as_1 k_X9_19 rfl (by decide) rfl rfl ?_
  refine g_iload_n dX9_as_4 rfl ?_
  refine g_callV1 (M' := mX0_has) (mc' := 0) (ms' := 0) dX9_as_5 l_X9_77 s_mX0_has (by decide) rfl rfl f_mX0_has (Nat.le_of_ble_eq_true rfl) (by decide) (ct_hasN isC3 hN hx) ?_
  rintro _ _ ⟨rfl, rfl⟩
  refine g_ifne 14 dX9_as_8 (by decide) (fun c => absurd c (by decide)) (fun _ => ?_)
  refine g_bipush (v := -101) dX9_as_11 (by decide) ?_
  exact g_ireturn dX9_as_13 rfl rfl ⟨rfl, rfl⟩

set_option maxRecDepth 100000 in
set_option maxHeartbeats 4000000 in
theorem ct_asW {N : Nat} (hN8 : N ≤ 8) (hN : hi 3 3 = nI N) {i : Nat} (hi1 : i < N) (w : Int32) (hw : (!decide (w < 0) && !decide (5 ≤ w)) = false) : MC E l 2 mX9_as [.ref 0, .int (nI i), .int (w)] 83 (hi, hl, RT) 0 0 (fun r h' => r = some (.int (-102)) ∧ h' = (hi, hl, RT)) := by
  refine MC.of [some (.ref 0), some (.int (nI i)), some (.int (w))] (by decide) rfl (Nat.le_of_ble_eq_true rfl) ?_
  have hi8 : i < 8 := by omega
  refine g_aload_n dX9_as_0 rfl ?_
  refine g_getr dX9_as_1 k_X9_19 rfl (by decide) rfl rfl ?_
  refine g_iload_n dX9_as_4 rfl ?_
  refine g_callV1 (M' := mX0_has) (mc' := 0) (ms' := 0) dX9_as_5 l_X9_77 s_mX0_has (by decide) rfl rfl f_mX0_has (Nat.le_of_ble_eq_true rfl) (by decide) (ct_hasY isC3 hN8 hN hi1) ?_
  rintro _ _ ⟨rfl, rfl⟩
  refine g_ifne 14 dX9_as_8 (by decide) (fun _ => ?_) (fun c => absurd c (by decide))
  refine g_iload_n dX9_as_14 rfl ?_
  refine g_callS1 (M' := mX2_isNumber) (mc' := 0) (ms' := 0) dX9_as_15 l_X9_88 s_mX2_isNumber f_mX2_isNumber (Nat.le_of_ble_eq_true rfl) (by decide) ((ct_isNumber w).weaken (fun r h' q => (⟨by rw [q.1, hw]; rfl, q.2⟩ : r = some (.int 0) ∧ h' = (hi, hl, RT)))) ?_
  rintro _ _ ⟨rfl, rfl⟩
  refine g_ifne 24 dX9_as_18 (by decide) (fun c => absurd c (by decide)) (fun _ => ?_)
  refine g_bipush (v := -102) dX9_as_21 (by decide) ?_
  exact g_ireturn dX9_as_23 rfl rfl ⟨rfl, rfl⟩

set_option maxRecDepth 100000 in
set_option maxHeartbeats 4000000 in
theorem ct_as (hkv : KV hi) {N : Nat} (hN8 : N ≤ 8) (hN : hi 3 3 = nI N) {i : Nat} (hi1 : i < N) (w : Int32) (hw : (!decide (w < 0) && !decide (5 ≤ w)) = true) : MC E l 2 mX9_as [.ref 0, .int (nI i), .int (w)] 83 (hi, hl, RT) 0 0 (fun r h' => r = some (.int (if kIsA (hi (3 + 6 + i) 2) w = true then nI i else -1)) ∧ h' = (hi, hl, RT)) := by
  refine MC.of [some (.ref 0), some (.int (nI i)), some (.int (w))] (by decide) rfl (Nat.le_of_ble_eq_true rfl) ?_
  have hi8 : i < 8 := by omega
  obtain ⟨jkp, h5p, hjp⟩ := hkv _ (isC3.p hi8)
  refine g_aload_n dX9_as_0 rfl ?_
  refine g_getr dX9_as_1 k_X9_19 rfl (by decide) rfl rfl ?_
  refine g_iload_n dX9_as_4 rfl ?_
  refine g_callV1 (M' := mX0_has) (mc' := 0) (ms' := 0) dX9_as_5 l_X9_77 s_mX0_has (by decide) rfl rfl f_mX0_has (Nat.le_of_ble_eq_true rfl) (by decide) (ct_hasY isC3 hN8 hN hi1) ?_
  rintro _ _ ⟨rfl, rfl⟩
  refine g_ifne 14 dX9_as_8 (by decide) (fun _ => ?_) (fun c => absurd c (by decide))
  refine g_iload_n dX9_as_14 rfl ?_
  refine g_callS1 (M' := mX2_isNumber) (mc' := 0) (ms' := 0) dX9_as_15 l_X9_88 s_mX2_isNumber f_mX2_isNumber (Nat.le_of_ble_eq_true rfl) (by decide) ((ct_isNumber w).weaken (fun r h' q => (⟨by rw [q.1, hw]; rfl, q.2⟩ : r = some (.int 1) ∧ h' = (hi, hl, RT)))) ?_
  rintro _ _ ⟨rfl, rfl⟩
  refine g_ifne 24 dX9_as_18 (by decide) (fun _ => ?_) (fun c => absurd c (by decide))
  refine g_aload_n dX9_as_24 rfl ?_
  refine g_getr dX9_as_25 k_X9_19 rfl (by decide) rfl rfl ?_
  refine g_getr dX9_as_28 k_X9_80 rfl (by decide) rfl isC3.people ?_
  refine g_iload_n dX9_as_31 rfl ?_
  refine g_aald dX9_as_32 isC3.a1.1 isC3.a1.2 rfl hi8 (by decide) (isC3.rp hi8) ?_
  refine g_getk dX9_as_33 k_X9_93 rfl (isC3.p hi8).1 (isC3.p hi8).2 hjp h5p ?_
  refine g_iload_n dX9_as_36 rfl ?_
  refine g_callK1 (M' := mX2_isA) (mc' := 0) (ms' := 0) dX9_as_37 l_X9_99 s_mX2_isA h5p rfl f_mX2_isA (Nat.le_of_ble_eq_true rfl) (by decide) (ct_isA h5p _) ?_
  rintro _ _ ⟨rfl, rfl⟩
  refine g_ifeq 47 dX9_as_40 (by decide) (fun c40 => ?_) (fun c40 => ?_)
  · skip
    refine g_iconst (v := -1) dX9_as_47 (by decide) ?_
    exact g_ireturn dX9_as_48 rfl rfl ⟨by rw [hjp, if_neg (by rw [bI_0.mp c40]; decide)], rfl⟩
  · skip
    refine g_iload_n dX9_as_43 rfl ?_
    refine g_goto 48 dX9_as_44 (by decide) ?_
    exact g_ireturn dX9_as_48 rfl rfl ⟨by rw [hjp, if_pos (bI_n.mp c40)], rfl⟩

set_option maxRecDepth 100000 in
set_option maxHeartbeats 4000000 in
theorem ct_chooseX {N : Nat} (hN8 : N ≤ 8) (hN : hi 3 3 = nI N) (x w : Int32) (hx : noP x N) : MC E l 2 mX9_choose [.ref 0, .int (x), .int (w)] 83 (hi, hl, RT) 0 0 (fun r h' => r = some (.int (-101)) ∧ h' = (hi, hl, RT)) := by
  refine MC.of [some (.ref 0), some (.int (x)), some (.int (w)), none] (by decide) rfl (Nat.le_of_ble_eq_true rfl) ?_
  refine g_aload_n dX9_choose_0 rfl ?_
  refine g_getr dX9_choose_1 k_X9_19 rfl (by decide) rfl rfl ?_
  refine g_iload_n dX9_choose_4 rfl ?_
  refine g_callV1 (M' := mX0_has) (mc' := 0) (ms' := 0) dX9_choose_5 l_X9_77 s_mX0_has (by decide) rfl rfl f_mX0_has (Nat.le_of_ble_eq_true rfl) (by decide) (ct_hasN isC3 hN hx) ?_
  rintro _ _ ⟨rfl, rfl⟩
  refine g_ifne 14 dX9_choose_8 (by decide) (fun c => absurd c (by decide)) (fun _ => ?_)
  refine g_bipush (v := -101) dX9_choose_11 (by decide) ?_
  exact g_ireturn dX9_choose_13 rfl rfl ⟨rfl, rfl⟩

set_option maxRecDepth 100000 in
set_option maxHeartbeats 4000000 in
theorem ct_chooseW {N : Nat} (hN8 : N ≤ 8) (hN : hi 3 3 = nI N) {i : Nat} (hi1 : i < N) (w : Int32) (hw : (!decide (w < 0) && !decide (9 < w)) = false) : MC E l 2 mX9_choose [.ref 0, .int (nI i), .int (w)] 83 (hi, hl, RT) 0 0 (fun r h' => r = some (.int (-102)) ∧ h' = (hi, hl, RT)) := by
  refine MC.of [some (.ref 0), some (.int (nI i)), some (.int (w)), none] (by decide) rfl (Nat.le_of_ble_eq_true rfl) ?_
  have hi8 : i < 8 := by omega
  refine g_aload_n dX9_choose_0 rfl ?_
  refine g_getr dX9_choose_1 k_X9_19 rfl (by decide) rfl rfl ?_
  refine g_iload_n dX9_choose_4 rfl ?_
  refine g_callV1 (M' := mX0_has) (mc' := 0) (ms' := 0) dX9_choose_5 l_X9_77 s_mX0_has (by decide) rfl rfl f_mX0_has (Nat.le_of_ble_eq_true rfl) (by decide) (ct_hasY isC3 hN8 hN hi1) ?_
  rintro _ _ ⟨rfl, rfl⟩
  refine g_ifne 14 dX9_choose_8 (by decide) (fun _ => ?_) (fun c => absurd c (by decide))
  refine g_iload_n dX9_choose_14 rfl ?_
  refine g_iconst (v := 0) dX9_choose_15 (by decide) ?_
  refine g_bipush (v := 9) dX9_choose_16 (by decide) ?_
  refine g_callS3 (M' := mX9_isWithin) (mc' := 0) (ms' := 0) dX9_choose_18 l_X9_40 s_mX9_isWithin f_mX9_isWithin (Nat.le_of_ble_eq_true rfl) (by decide) (ct_withinB (t := false) hw) ?_
  rintro _ _ ⟨rfl, rfl⟩
  refine g_ifne 27 dX9_choose_21 (by decide) (fun c => absurd c (by decide)) (fun _ => ?_)
  refine g_bipush (v := -102) dX9_choose_24 (by decide) ?_
  exact g_ireturn dX9_choose_26 rfl rfl ⟨rfl, rfl⟩

set_option maxRecDepth 100000 in
set_option maxHeartbeats 4000000 in
theorem ct_choose {N : Nat} (hN8 : N ≤ 8) (hN : hi 3 3 = nI N) {i : Nat} (hi1 : i < N) (w : Int32) (hw : (!decide (w < 0) && !decide (9 < w)) = true) : MC E l 2 mX9_choose [.ref 0, .int (nI i), .int (w)] 83 (hi, hl, RT) 0 0 (fun r h' => r = some (.int (hi (3 + 6 + i) 6)) ∧ h' = (upI hi (3 + 6 + i) 6 w, hl, RT)) := by
  refine MC.of [some (.ref 0), some (.int (nI i)), some (.int (w)), none] (by decide) rfl (Nat.le_of_ble_eq_true rfl) ?_
  have hi8 : i < 8 := by omega
  refine g_aload_n dX9_choose_0 rfl ?_
  refine g_getr dX9_choose_1 k_X9_19 rfl (by decide) rfl rfl ?_
  refine g_iload_n dX9_choose_4 rfl ?_
  refine g_callV1 (M' := mX0_has) (mc' := 0) (ms' := 0) dX9_choose_5 l_X9_77 s_mX0_has (by decide) rfl rfl f_mX0_has (Nat.le_of_ble_eq_true rfl) (by decide) (ct_hasY isC3 hN8 hN hi1) ?_
  rintro _ _ ⟨rfl, rfl⟩
  refine g_ifne 14 dX9_choose_8 (by decide) (fun _ => ?_) (fun c => absurd c (by decide))
  refine g_iload_n dX9_choose_14 rfl ?_
  refine g_iconst (v := 0) dX9_choose_15 (by decide) ?_
  refine g_bipush (v := 9) dX9_choose_16 (by decide) ?_
  refine g_callS3 (M' := mX9_isWithin) (mc' := 0) (ms' := 0) dX9_choose_18 l_X9_40 s_mX9_isWithin f_mX9_isWithin (Nat.le_of_ble_eq_true rfl) (by decide) (ct_withinB (t := true) hw) ?_
  rintro _ _ ⟨rfl, rfl⟩
  refine g_ifne 27 dX9_choose_21 (by decide) (fun _ => ?_) (fun c => absurd c (by decide))
  refine g_aload_n dX9_choose_27 rfl ?_
  refine g_getr dX9_choose_28 k_X9_19 rfl (by decide) rfl rfl ?_
  refine g_getr dX9_choose_31 k_X9_80 rfl (by decide) rfl isC3.people ?_
  refine g_iload_n dX9_choose_34 rfl ?_
  refine g_aald dX9_choose_35 isC3.a1.1 isC3.a1.2 rfl hi8 (by decide) (isC3.rp hi8) ?_
  refine g_geti dX9_choose_36 k_X9_102 rfl (isC3.p hi8).1 (isC3.p hi8).2 ?_
  refine g_istore_n dX9_choose_39 (by decide) rfl rfl ?_
  refine g_aload_n dX9_choose_40 rfl ?_
  refine g_getr dX9_choose_41 k_X9_19 rfl (by decide) rfl rfl ?_
  refine g_getr dX9_choose_44 k_X9_80 rfl (by decide) rfl isC3.people ?_
  refine g_iload_n dX9_choose_47 rfl ?_
  refine g_aald dX9_choose_48 isC3.a1.1 isC3.a1.2 rfl hi8 (by decide) (isC3.rp hi8) ?_
  refine g_iload_n dX9_choose_49 rfl ?_
  refine g_puti dX9_choose_50 k_X9_102 rfl (isC3.p hi8).1 (isC3.p hi8).2 rfl rfl ?_
  refine g_iload_n dX9_choose_53 rfl ?_
  exact g_ireturn dX9_choose_54 rfl rfl ⟨rfl, rfl⟩

set_option maxRecDepth 100000 in
set_option maxHeartbeats 4000000 in
theorem ct_paintX {N : Nat} (hN8 : N ≤ 8) (hN : hi 3 3 = nI N) (x w : Int32) (hx : noP x N) : MC E l 2 mX9_paint [.ref 0, .int (x), .int (w)] 83 (hi, hl, RT) 0 0 (fun r h' => r = some (.int (-101)) ∧ h' = (hi, hl, RT)) := by
  refine MC.of [some (.ref 0), some (.int (x)), some (.int (w)), none] (by decide) rfl (Nat.le_of_ble_eq_true rfl) ?_
  refine g_aload_n dX9_paint_0 rfl ?_
  refine g_getr dX9_paint_1 k_X9_19 rfl (by decide) rfl rfl ?_
  refine g_iload_n dX9_paint_4 rfl ?_
  refine g_callV1 (M' := mX0_has) (mc' := 0) (ms' := 0) dX9_paint_5 l_X9_77 s_mX0_has (by decide) rfl rfl f_mX0_has (Nat.le_of_ble_eq_true rfl) (by decide) (ct_hasN isC3 hN hx) ?_
  rintro _ _ ⟨rfl, rfl⟩
  refine g_ifne 14 dX9_paint_8 (by decide) (fun c => absurd c (by decide)) (fun _ => ?_)
  refine g_bipush (v := -101) dX9_paint_11 (by decide) ?_
  exact g_ireturn dX9_paint_13 rfl rfl ⟨rfl, rfl⟩

set_option maxRecDepth 100000 in
set_option maxHeartbeats 4000000 in
theorem ct_paintW {N : Nat} (hN8 : N ≤ 8) (hN : hi 3 3 = nI N) {i : Nat} (hi1 : i < N) (w : Int32) (hw : (!decide (w < 0) && !decide (3 < w)) = false) : MC E l 2 mX9_paint [.ref 0, .int (nI i), .int (w)] 83 (hi, hl, RT) 0 0 (fun r h' => r = some (.int (-102)) ∧ h' = (hi, hl, RT)) := by
  refine MC.of [some (.ref 0), some (.int (nI i)), some (.int (w)), none] (by decide) rfl (Nat.le_of_ble_eq_true rfl) ?_
  have hi8 : i < 8 := by omega
  refine g_aload_n dX9_paint_0 rfl ?_
  refine g_getr dX9_paint_1 k_X9_19 rfl (by decide) rfl rfl ?_
  refine g_iload_n dX9_paint_4 rfl ?_
  refine g_callV1 (M' := mX0_has) (mc' := 0) (ms' := 0) dX9_paint_5 l_X9_77 s_mX0_has (by decide) rfl rfl f_mX0_has (Nat.le_of_ble_eq_true rfl) (by decide) (ct_hasY isC3 hN8 hN hi1) ?_
  rintro _ _ ⟨rfl, rfl⟩
  refine g_ifne 14 dX9_paint_8 (by decide) (fun _ => ?_) (fun c => absurd c (by decide))
  refine g_iload_n dX9_paint_14 rfl ?_
  refine g_iconst (v := 0) dX9_paint_15 (by decide) ?_
  refine g_iconst (v := 3) dX9_paint_16 (by decide) ?_
  refine g_callS3 (M' := mX9_isWithin) (mc' := 0) (ms' := 0) dX9_paint_17 l_X9_40 s_mX9_isWithin f_mX9_isWithin (Nat.le_of_ble_eq_true rfl) (by decide) (ct_withinB (t := false) hw) ?_
  rintro _ _ ⟨rfl, rfl⟩
  refine g_ifne 26 dX9_paint_20 (by decide) (fun c => absurd c (by decide)) (fun _ => ?_)
  refine g_bipush (v := -102) dX9_paint_23 (by decide) ?_
  exact g_ireturn dX9_paint_25 rfl rfl ⟨rfl, rfl⟩

set_option maxRecDepth 100000 in
set_option maxHeartbeats 4000000 in
theorem ct_paint {N : Nat} (hN8 : N ≤ 8) (hN : hi 3 3 = nI N) {i : Nat} (hi1 : i < N) (w : Int32) (hw : (!decide (w < 0) && !decide (3 < w)) = true) : MC E l 2 mX9_paint [.ref 0, .int (nI i), .int (w)] 83 (hi, hl, RT) 0 0 (fun r h' => r = some (.int (hi (3 + 6 + i) 5)) ∧ h' = (upI hi (3 + 6 + i) 5 w, hl, RT)) := by
  refine MC.of [some (.ref 0), some (.int (nI i)), some (.int (w)), none] (by decide) rfl (Nat.le_of_ble_eq_true rfl) ?_
  have hi8 : i < 8 := by omega
  refine g_aload_n dX9_paint_0 rfl ?_
  refine g_getr dX9_paint_1 k_X9_19 rfl (by decide) rfl rfl ?_
  refine g_iload_n dX9_paint_4 rfl ?_
  refine g_callV1 (M' := mX0_has) (mc' := 0) (ms' := 0) dX9_paint_5 l_X9_77 s_mX0_has (by decide) rfl rfl f_mX0_has (Nat.le_of_ble_eq_true rfl) (by decide) (ct_hasY isC3 hN8 hN hi1) ?_
  rintro _ _ ⟨rfl, rfl⟩
  refine g_ifne 14 dX9_paint_8 (by decide) (fun _ => ?_) (fun c => absurd c (by decide))
  refine g_iload_n dX9_paint_14 rfl ?_
  refine g_iconst (v := 0) dX9_paint_15 (by decide) ?_
  refine g_iconst (v := 3) dX9_paint_16 (by decide) ?_
  refine g_callS3 (M' := mX9_isWithin) (mc' := 0) (ms' := 0) dX9_paint_17 l_X9_40 s_mX9_isWithin f_mX9_isWithin (Nat.le_of_ble_eq_true rfl) (by decide) (ct_withinB (t := true) hw) ?_
  rintro _ _ ⟨rfl, rfl⟩
  refine g_ifne 26 dX9_paint_20 (by decide) (fun _ => ?_) (fun c => absurd c (by decide))
  refine g_aload_n dX9_paint_26 rfl ?_
  refine g_getr dX9_paint_27 k_X9_19 rfl (by decide) rfl rfl ?_
  refine g_getr dX9_paint_30 k_X9_80 rfl (by decide) rfl isC3.people ?_
  refine g_iload_n dX9_paint_33 rfl ?_
  refine g_aald dX9_paint_34 isC3.a1.1 isC3.a1.2 rfl hi8 (by decide) (isC3.rp hi8) ?_
  refine g_geti dX9_paint_35 k_X9_105 rfl (isC3.p hi8).1 (isC3.p hi8).2 ?_
  refine g_istore_n dX9_paint_38 (by decide) rfl rfl ?_
  refine g_aload_n dX9_paint_39 rfl ?_
  refine g_getr dX9_paint_40 k_X9_19 rfl (by decide) rfl rfl ?_
  refine g_getr dX9_paint_43 k_X9_80 rfl (by decide) rfl isC3.people ?_
  refine g_iload_n dX9_paint_46 rfl ?_
  refine g_aald dX9_paint_47 isC3.a1.1 isC3.a1.2 rfl hi8 (by decide) (isC3.rp hi8) ?_
  refine g_iload_n dX9_paint_48 rfl ?_
  refine g_puti dX9_paint_49 k_X9_105 rfl (isC3.p hi8).1 (isC3.p hi8).2 rfl rfl ?_
  refine g_iload_n dX9_paint_52 rfl ?_
  exact g_ireturn dX9_paint_53 rfl rfl ⟨rfl, rfl⟩

set_option maxRecDepth 100000 in
set_option maxHeartbeats 4000000 in
theorem ct_limitW (w : Int32) (hw : (!decide (w < 1) && !decide (9 < w)) = false) : MC E l 3 mX9_limit [.ref 0, .int (w)] 83 (hi, hl, RT) 0 0 (fun r h' => r = some (.int (-102)) ∧ h' = (hi, hl, RT)) := by
  refine MC.of [some (.ref 0), some (.int (w)), none] (by decide) rfl (Nat.le_of_ble_eq_true rfl) ?_
  refine g_iload_n dX9_limit_0 rfl ?_
  refine g_callS1 (M' := mX9_isLimit) (mc' := 0) (ms' := 0) dX9_limit_1 l_X9_108 s_mX9_isLimit f_mX9_isLimit (Nat.le_of_ble_eq_true rfl) (by decide) ((ct_isLimit w).weaken (fun r h' q => (⟨by rw [q.1, hw]; rfl, q.2⟩ : r = some (.int 0) ∧ h' = (hi, hl, RT)))) ?_
  rintro _ _ ⟨rfl, rfl⟩
  refine g_ifne 10 dX9_limit_4 (by decide) (fun c => absurd c (by decide)) (fun _ => ?_)
  refine g_bipush (v := -102) dX9_limit_7 (by decide) ?_
  exact g_ireturn dX9_limit_9 rfl rfl ⟨rfl, rfl⟩

set_option maxRecDepth 100000 in
set_option maxHeartbeats 4000000 in
theorem ct_limitE (w : Int32) (hw : (!decide (w < 1) && !decide (9 < w)) = true) (hE : hi 3 3 = 0) : MC E l 3 mX9_limit [.ref 0, .int (w)] 83 (hi, hl, RT) 0 0 (fun r h' => r = some (.int (-103)) ∧ h' = (hi, hl, RT)) := by
  refine MC.of [some (.ref 0), some (.int (w)), none] (by decide) rfl (Nat.le_of_ble_eq_true rfl) ?_
  refine g_iload_n dX9_limit_0 rfl ?_
  refine g_callS1 (M' := mX9_isLimit) (mc' := 0) (ms' := 0) dX9_limit_1 l_X9_108 s_mX9_isLimit f_mX9_isLimit (Nat.le_of_ble_eq_true rfl) (by decide) ((ct_isLimit w).weaken (fun r h' q => (⟨by rw [q.1, hw]; rfl, q.2⟩ : r = some (.int 1) ∧ h' = (hi, hl, RT)))) ?_
  rintro _ _ ⟨rfl, rfl⟩
  refine g_ifne 10 dX9_limit_4 (by decide) (fun _ => ?_) (fun c => absurd c (by decide))
  refine g_aload_n dX9_limit_10 rfl ?_
  refine g_getr dX9_limit_11 k_X9_19 rfl (by decide) rfl rfl ?_
  refine g_callV0 (M' := mX0_isEmpty) (mc' := 0) (ms' := 0) dX9_limit_14 l_X9_111 s_mX0_isEmpty (by decide) rfl rfl f_mX0_isEmpty (Nat.le_of_ble_eq_true rfl) (by decide) (ct_emptyY isC3 hE) ?_
  rintro _ _ ⟨rfl, rfl⟩
  refine g_ifeq 23 dX9_limit_17 (by decide) (fun c => absurd c (by decide)) (fun _ => ?_)
  refine g_bipush (v := -103) dX9_limit_20 (by decide) ?_
  exact g_ireturn dX9_limit_22 rfl rfl ⟨rfl, rfl⟩

set_option maxRecDepth 100000 in
set_option maxHeartbeats 4000000 in
theorem ct_limit (w : Int32) (hw : (!decide (w < 1) && !decide (9 < w)) = true) {N : Nat} (hN8 : N ≤ 8) (hN : hi 3 3 = nI N) (hE : 0 < N) : MC E l 3 mX9_limit [.ref 0, .int (w)] 83 (hi, hl, RT) 0 0 (fun r h' => r = some (.int (hi 3 4)) ∧ h' = (upI hi 3 4 w, hl, RT)) := by
  refine MC.of [some (.ref 0), some (.int (w)), none] (by decide) rfl (Nat.le_of_ble_eq_true rfl) ?_
  refine g_iload_n dX9_limit_0 rfl ?_
  refine g_callS1 (M' := mX9_isLimit) (mc' := 0) (ms' := 0) dX9_limit_1 l_X9_108 s_mX9_isLimit f_mX9_isLimit (Nat.le_of_ble_eq_true rfl) (by decide) ((ct_isLimit w).weaken (fun r h' q => (⟨by rw [q.1, hw]; rfl, q.2⟩ : r = some (.int 1) ∧ h' = (hi, hl, RT)))) ?_
  rintro _ _ ⟨rfl, rfl⟩
  refine g_ifne 10 dX9_limit_4 (by decide) (fun _ => ?_) (fun c => absurd c (by decide))
  refine g_aload_n dX9_limit_10 rfl ?_
  refine g_getr dX9_limit_11 k_X9_19 rfl (by decide) rfl rfl ?_
  refine g_callV0 (M' := mX0_isEmpty) (mc' := 0) (ms' := 0) dX9_limit_14 l_X9_111 s_mX0_isEmpty (by decide) rfl rfl f_mX0_isEmpty (Nat.le_of_ble_eq_true rfl) (by decide) (ct_emptyN isC3 hN8 hN hE) ?_
  rintro _ _ ⟨rfl, rfl⟩
  refine g_ifeq 23 dX9_limit_17 (by decide) (fun _ => ?_) (fun c => absurd c (by decide))
  refine g_aload_n dX9_limit_23 rfl ?_
  refine g_getr dX9_limit_24 k_X9_19 rfl (by decide) rfl rfl ?_
  refine g_geti dX9_limit_27 k_X9_114 rfl (by decide) rfl ?_
  refine g_istore_n dX9_limit_30 (by decide) rfl rfl ?_
  refine g_aload_n dX9_limit_31 rfl ?_
  refine g_getr dX9_limit_32 k_X9_19 rfl (by decide) rfl rfl ?_
  refine g_iload_n dX9_limit_35 rfl ?_
  refine g_puti dX9_limit_36 k_X9_114 rfl (by decide) rfl rfl rfl ?_
  refine g_iload_n dX9_limit_39 rfl ?_
  exact g_ireturn dX9_limit_40 rfl rfl ⟨rfl, rfl⟩

end
