section
variable {E : XE} {l : Launch} {hi : Nat → Nat → Int32} {hl : Nat → Nat → Int64}

/-! the reference: what it is -/
def MO7 (hi : Nat → Nat → Int32) (N F : Nat) : Prop := N ≤ 8 ∧ F ≤ N ∧ hi 53 2 = nI N ∧ hi 53 1 = nI F
def vm (hi : Nat → Nat → Int32) (N F : Nat) : VV := fun s i => if i < N ∧ 2 ≤ s ∧ s ≤ 11 then (if s = 3 then bI (decide (F ≤ i)) else hi (if s = 2 then 54 else 51 + s) i) else 0
section MV
variable {N F i : Nat}
theorem m_2 (h : i < N) : vm hi N F 2 i = hi 54 i := if_pos ⟨h, by decide, by decide⟩
theorem m_3 (h : i < N) : vm hi N F 3 i = bI (decide (F ≤ i)) := if_pos ⟨h, by decide, by decide⟩
theorem m_4 (h : i < N) : vm hi N F 4 i = hi 55 i := if_pos ⟨h, by decide, by decide⟩
theorem m_5 (h : i < N) : vm hi N F 5 i = hi 56 i := if_pos ⟨h, by decide, by decide⟩
theorem m_6 (h : i < N) : vm hi N F 6 i = hi 57 i := if_pos ⟨h, by decide, by decide⟩
theorem m_7 (h : i < N) : vm hi N F 7 i = hi 58 i := if_pos ⟨h, by decide, by decide⟩
theorem m_8 (h : i < N) : vm hi N F 8 i = hi 59 i := if_pos ⟨h, by decide, by decide⟩
theorem m_9 (h : i < N) : vm hi N F 9 i = hi 60 i := if_pos ⟨h, by decide, by decide⟩
theorem m_10 (h : i < N) : vm hi N F 10 i = hi 61 i := if_pos ⟨h, by decide, by decide⟩
theorem m_11 (h : i < N) : vm hi N F 11 i = hi 62 i := if_pos ⟨h, by decide, by decide⟩
/-- a row's store -/
theorem m_up (h : i < N) {s a : Nat} (h2 : 2 ≤ s) (h3 : s ≤ 11) (hs : ¬ s = 3) (ha : a = if s = 2 then 54 else 51 + s) (x : Int32) : vm (upI hi a i x) N F = vup (vm hi N F) s i x := by
  funext t k
  unfold vm vup upI
  dsimp only
  by_cases q : k < N ∧ 2 ≤ t ∧ t ≤ 11
  · rw [if_pos q, if_pos q]
    by_cases t3 : t = 3
    · rw [if_pos t3, if_pos t3, if_neg (by omega)]
    · rw [if_neg t3, if_neg t3]
      by_cases z : t = s ∧ k = i
      · rw [if_pos z, if_pos ⟨by rw [ha, z.1], z.2⟩]
      · rw [if_neg z, if_neg ?_]
        intro w
        apply z
        refine ⟨?_, w.2⟩
        have w1 := w.1
        rw [ha] at w1
        by_cases e1 : t = 2 <;> by_cases e2 : s = 2 <;> simp [e1, e2] at w1 <;> omega
  · rw [if_neg q, if_neg q, if_neg (by omega)]
theorem m_off {a s : Nat} (h : a < 54 ∨ 62 < a) (x : Int32) : vm (upI hi a s x) N F = vm hi N F := by
  funext t k
  unfold vm
  by_cases q : k < N ∧ 2 ≤ t ∧ t ≤ 11
  · rw [if_pos q, if_pos q]
    by_cases t3 : t = 3
    · rw [if_pos t3, if_pos t3]
    · rw [if_neg t3, if_neg t3, upI_a ?_]
      by_cases e : t = 2
      · rw [if_pos e]; omega
      · rw [if_neg e]; omega
  · rw [if_neg q, if_neg q]
theorem m_congr {f g : Nat → Nat → Int32} (h : ∀ k, k < N → ∀ a, 54 ≤ a → a ≤ 62 → f a k = g a k) : vm f N F = vm g N F := by
  funext t k
  unfold vm
  by_cases q : k < N ∧ 2 ≤ t ∧ t ≤ 11
  · rw [if_pos q, if_pos q]
    by_cases t3 : t = 3
    · rw [if_pos t3, if_pos t3]
    · rw [if_neg t3, if_neg t3]
      by_cases e : t = 2
      · rw [if_pos e]; exact h k q.1 54 (by decide) (by decide)
      · rw [if_neg e]; exact h k q.1 (51 + t) (by omega) (by omega)
  · rw [if_neg q, if_neg q]
end MV
theorem side_ne {F i j : Nat} : (bI (decide (F ≤ i)) = bI (decide (F ≤ j))) ↔ (F ≤ i ↔ F ≤ j) := by
  by_cases a : F ≤ i <;> by_cases b : F ≤ j <;> simp [a, b, bI]

set_option maxRecDepth 100000 in
set_option maxHeartbeats 4000000 in
theorem ct_within (x a b : Int32) : MC E l 1 mX10_within [.int x, .int a, .int b] 83 (hi, hl, RT) 0 0 (fun r h' => r = some (.int (bI (!decide (x < a) && !decide (b < x)))) ∧ h' = (hi, hl, RT)) := by
  refine MC.of [some (.int x), some (.int a), some (.int b)] (by decide) rfl (Nat.le_of_ble_eq_true rfl) ?_
  refine g_iload_n dX10_within_0 rfl ?_
  refine g_iload_n dX10_within_1 rfl ?_
  refine g_icmplt 14 dX10_within_2 (by decide) (fun c2 => ?_) (fun c2 => ?_)
  · skip
    refine g_iconst (v := 0) dX10_within_14 (by decide) ?_
    exact g_ireturn dX10_within_15 rfl rfl ⟨by simp_all [bI], rfl⟩
  · skip
    refine g_iload_n dX10_within_5 rfl ?_
    refine g_iload_n dX10_within_6 rfl ?_
    refine g_icmpgt 14 dX10_within_7 (by decide) (fun c7 => ?_) (fun c7 => ?_)
    · skip
      refine g_iconst (v := 0) dX10_within_14 (by decide) ?_
      exact g_ireturn dX10_within_15 rfl rfl ⟨by simp_all [bI], rfl⟩
    · skip
      refine g_iconst (v := 1) dX10_within_10 (by decide) ?_
      refine g_goto 15 dX10_within_11 (by decide) ?_
      exact g_ireturn dX10_within_15 rfl rfl ⟨by simp_all [bI], rfl⟩

set_option maxRecDepth 100000 in
set_option maxHeartbeats 4000000 in
theorem ct_isIn (x : Int32) {k : Nat} (hk : k < 10) : MC E l 1 mX10_isIn [.int x, .int (nI k)] 83 (hi, hl, RT) 0 0 (fun r h' => r = some (.int (bI (!decide (x &&& bitI k = 0)))) ∧ h' = (hi, hl, RT)) := by
  refine MC.of [some (.int x), some (.int (nI k))] (by decide) rfl (Nat.le_of_ble_eq_true rfl) ?_
  have e := inI x hk
  refine g_iload_n dX10_isIn_0 rfl ?_
  refine g_iload_n dX10_isIn_1 rfl ?_
  refine g_ishr dX10_isIn_2 ?_
  refine g_iconst (v := 1) dX10_isIn_3 (by decide) ?_
  refine g_iand dX10_isIn_4 ?_
  refine g_iconst (v := 1) dX10_isIn_5 (by decide) ?_
  refine g_icmpne 13 dX10_isIn_6 (by decide) (fun c6 => ?_) (fun c6 => ?_)
  · skip
    refine g_iconst (v := 0) dX10_isIn_13 (by decide) ?_
    exact g_ireturn dX10_isIn_14 rfl rfl ⟨by
      have c7 := c6
      rw [e] at c7
      by_cases z : x &&& bitI k = 0
      · simp [z, bI] at c7 ⊢
      · simp [z, bI] at c7 ⊢, rfl⟩
  · skip
    refine g_iconst (v := 1) dX10_isIn_9 (by decide) ?_
    refine g_goto 14 dX10_isIn_10 (by decide) ?_
    exact g_ireturn dX10_isIn_14 rfl rfl ⟨by
      have c7 := c6
      rw [e] at c7
      by_cases z : x &&& bitI k = 0
      · simp [z, bI] at c7 ⊢
      · simp [z, bI] at c7 ⊢, rfl⟩

set_option maxRecDepth 100000 in
set_option maxHeartbeats 4000000 in
theorem lp_size (x : Int32) : ∀ (n i : Nat), i ≤ 10 → 10 + 1 ≤ i + n → ∀ (b : Int32), b = sumI (fun k => (x >>> (nI k &&& 31)) &&& 1) i → G E l 1 mX10_size 4 [some (.int x), some (.int b), some (.int (nI i))] [] 83 (hi, hl, RT) 0 0 (fun r h' => r = some (.int (szF x)) ∧ h' = (hi, hl, RT)) := by
  intro n
  induction n with
  | zero =>
    intro i h1 h2
    exact absurd h2 (by omega)
  | succ n ih =>
    intro i hi1 hi2 b hb
    refine g_iload_n dX10_size_4 rfl ?_
    refine g_bipush (v := 10) dX10_size_5 (by decide) ?_
    refine g_icmpge 24 dX10_size_7 (by decide) (fun c7 => ?_) (fun c7 => ?_)
    · skip
      have hiN : i = 10 := Nat.le_antisymm hi1 ((nI_leI (a := 10) (by decide) (by omega)).mp c7)
      subst hiN
      refine g_iload_n dX10_size_24 rfl ?_
      exact g_ireturn dX10_size_25 rfl rfl ⟨by rw [hb]; rfl, rfl⟩
    · skip
      have hi10 : i < 10 := Nat.lt_of_not_le (fun q => c7 (nI_le (a := 10) q (by omega)))
      refine g_iload_n dX10_size_10 rfl ?_
      refine g_iload_n dX10_size_11 rfl ?_
      refine g_iload_n dX10_size_12 rfl ?_
      refine g_ishr dX10_size_13 ?_
      refine g_iconst (v := 1) dX10_size_14 (by decide) ?_
      refine g_iand dX10_size_15 ?_
      refine g_iadd dX10_size_16 ?_
      refine g_istore_n dX10_size_17 (by decide) rfl rfl ?_
      refine g_iinc dX10_size_18 rfl (nI_inc i) (by decide) rfl rfl ?_
      refine g_goto 4 dX10_size_21 (by decide) ?_
      exact ih (i + 1) (by omega) (by omega) _ (by rw [hb, sumI])

set_option maxRecDepth 100000 in
set_option maxHeartbeats 4000000 in
theorem ct_size (x : Int32) : MC E l 1 mX10_size [.int x] 83 (hi, hl, RT) 0 0 (fun r h' => r = some (.int (szF x)) ∧ h' = (hi, hl, RT)) := by
  refine MC.of [some (.int x), none, none] (by decide) rfl (Nat.le_of_ble_eq_true rfl) ?_
  refine g_iconst (v := 0) dX10_size_0 (by decide) ?_
  refine g_istore_n dX10_size_1 (by decide) rfl rfl ?_
  refine g_iconst (v := 0) dX10_size_2 (by decide) ?_
  refine g_istore_n dX10_size_3 (by decide) rfl rfl ?_
  exact lp_size x 11 0 (by omega) (by omega) 0 rfl

theorem wi_y {i N : Nat} (h : i < N) (hN : N ≤ 8) : (!decide (nI i < 0) && !decide (nI N - 1 < nI i)) = true := by
  have e : nI N - 1 = nI (N - 1) := pk_sub (b := 1) (by omega)
  have h1 : ¬ nI i < 0 := nI_pos (by omega)
  have h2 : ¬ nI (N - 1) < nI i := nI_nlt (by omega) (by omega)
  simp [e, h1, h2]
theorem wi_n {x : Int32} {N : Nat} (hN : N ≤ 8) (h : noP x N) : (!decide (x < 0) && !decide (nI N - 1 < x)) = false := by
  by_cases h0 : x < 0
  · simp [h0]
  · obtain ⟨k, hk, rfl⟩ := nI_of h0
    have hk2 : N ≤ k := by
      refine Nat.le_of_not_lt (fun q => ?_)
      have h1 : ¬ nI N ≤ nI k := nI_ge q (by omega)
      simp [noP, h0, h1] at h
    by_cases z : N = 0
    · subst z
      have : (nI 0 - 1 : Int32) < nI k := by
        rw [Int32.lt_iff_toInt_lt, nI_toInt hk]
        have : (nI 0 - 1 : Int32).toInt = -1 := by decide
        omega
      simp [this]
    · have e : nI N - 1 = nI (N - 1) := pk_sub (b := 1) (by omega)
      have : nI (N - 1) < nI k := nI_lt (by omega) hk
      simp [e, this]

set_option maxRecDepth 100000 in
set_option maxHeartbeats 4000000 in
theorem ct_isPersonY {N F : Nat} (hj : MO7 hi N F) {i : Nat} (hi1 : i < N) : MC E l 2 mX10_isPerson [.ref 53, .int (nI i)] 83 (hi, hl, RT) 0 0 (fun r h' => r = some (.int (1)) ∧ h' = (hi, hl, RT)) := by
  refine MC.of [some (.ref 53), some (.int (nI i))] (by decide) rfl (Nat.le_of_ble_eq_true rfl) ?_
  obtain ⟨hN8, hFN, hN, hF⟩ := hj
  refine g_iload_n dX10_isPerson_0 rfl ?_
  refine g_iconst (v := 0) dX10_isPerson_1 (by decide) ?_
  refine g_aload_n dX10_isPerson_2 rfl ?_
  refine g_geti dX10_isPerson_3 k_X10_140 rfl (by decide) rfl ?_
  rw [show (hi, hl, RT).1 53 2 = nI N from hN]
  refine g_iconst (v := 1) dX10_isPerson_6 (by decide) ?_
  refine g_isub dX10_isPerson_7 ?_
  refine g_callS3 (M' := mX10_within) (mc' := 0) (ms' := 0) dX10_isPerson_8 l_X10_98 s_mX10_within f_mX10_within (Nat.le_of_ble_eq_true rfl) (by decide) ((ct_within _ _ _).weaken (fun r h' q => (⟨by rw [q.1, wi_y hi1 hN8]; rfl, q.2⟩ : r = some (.int 1) ∧ h' = (hi, hl, RT)))) ?_
  rintro _ _ ⟨rfl, rfl⟩
  exact g_ireturn dX10_isPerson_11 rfl rfl ⟨rfl, rfl⟩

set_option maxRecDepth 100000 in
set_option maxHeartbeats 4000000 in
theorem ct_isPersonN {N F : Nat} (hj : MO7 hi N F) {x : Int32} (hx : noP x N) : MC E l 2 mX10_isPerson [.ref 53, .int x] 83 (hi, hl, RT) 0 0 (fun r h' => r = some (.int (0)) ∧ h' = (hi, hl, RT)) := by
  refine MC.of [some (.ref 53), some (.int x)] (by decide) rfl (Nat.le_of_ble_eq_true rfl) ?_
  obtain ⟨hN8, hFN, hN, hF⟩ := hj
  refine g_iload_n dX10_isPerson_0 rfl ?_
  refine g_iconst (v := 0) dX10_isPerson_1 (by decide) ?_
  refine g_aload_n dX10_isPerson_2 rfl ?_
  refine g_geti dX10_isPerson_3 k_X10_140 rfl (by decide) rfl ?_
  rw [show (hi, hl, RT).1 53 2 = nI N from hN]
  refine g_iconst (v := 1) dX10_isPerson_6 (by decide) ?_
  refine g_isub dX10_isPerson_7 ?_
  refine g_callS3 (M' := mX10_within) (mc' := 0) (ms' := 0) dX10_isPerson_8 l_X10_98 s_mX10_within f_mX10_within (Nat.le_of_ble_eq_true rfl) (by decide) ((ct_within _ _ _).weaken (fun r h' q => (⟨by rw [q.1, wi_n hN8 hx]; rfl, q.2⟩ : r = some (.int 0) ∧ h' = (hi, hl, RT)))) ?_
  rintro _ _ ⟨rfl, rfl⟩
  exact g_ireturn dX10_isPerson_11 rfl rfl ⟨rfl, rfl⟩

set_option maxRecDepth 100000 in
set_option maxHeartbeats 4000000 in
theorem ct_areTwoY {N F : Nat} (hj : MO7 hi N F) {i j : Nat} (hi1 : i < N) (hj1 : j < N) : MC E l 3 mX10_areTwo [.ref 53, .int (nI i), .int (nI j)] 83 (hi, hl, RT) 0 0 (fun r h' => r = some (.int (1)) ∧ h' = (hi, hl, RT)) := by
  refine MC.of [some (.ref 53), some (.int (nI i)), some (.int (nI j))] (by decide) rfl (Nat.le_of_ble_eq_true rfl) ?_
  refine g_aload_n dX10_areTwo_0 rfl ?_
  refine g_iload_n dX10_areTwo_1 rfl ?_
  refine g_callV1 (M' := mX10_isPerson) (mc' := 0) (ms' := 0) dX10_areTwo_2 l_X10_167 s_mX10_isPerson (by decide) rfl rfl f_mX10_isPerson (Nat.le_of_ble_eq_true rfl) (by decide) (ct_isPersonY hj hi1) ?_
  rintro _ _ ⟨rfl, rfl⟩
  refine g_ifeq 20 dX10_areTwo_5 (by decide) (fun c => absurd c (by decide)) (fun _ => ?_)
  refine g_aload_n dX10_areTwo_8 rfl ?_
  refine g_iload_n dX10_areTwo_9 rfl ?_
  refine g_callV1 (M' := mX10_isPerson) (mc' := 0) (ms' := 0) dX10_areTwo_10 l_X10_167 s_mX10_isPerson (by decide) rfl rfl f_mX10_isPerson (Nat.le_of_ble_eq_true rfl) (by decide) (ct_isPersonY hj hj1) ?_
  rintro _ _ ⟨rfl, rfl⟩
  refine g_ifeq 20 dX10_areTwo_13 (by decide) (fun c => absurd c (by decide)) (fun _ => ?_)
  refine g_iconst (v := 1) dX10_areTwo_16 (by decide) ?_
  refine g_goto 21 dX10_areTwo_17 (by decide) ?_
  exact g_ireturn dX10_areTwo_21 rfl rfl ⟨rfl, rfl⟩

set_option maxRecDepth 100000 in
set_option maxHeartbeats 4000000 in
theorem ct_areTwoN1 {N F : Nat} (hj : MO7 hi N F) {x : Int32} (hx : noP x N) (y : Int32) : MC E l 3 mX10_areTwo [.ref 53, .int x, .int y] 83 (hi, hl, RT) 0 0 (fun r h' => r = some (.int (0)) ∧ h' = (hi, hl, RT)) := by
  refine MC.of [some (.ref 53), some (.int x), some (.int y)] (by decide) rfl (Nat.le_of_ble_eq_true rfl) ?_
  refine g_aload_n dX10_areTwo_0 rfl ?_
  refine g_iload_n dX10_areTwo_1 rfl ?_
  refine g_callV1 (M' := mX10_isPerson) (mc' := 0) (ms' := 0) dX10_areTwo_2 l_X10_167 s_mX10_isPerson (by decide) rfl rfl f_mX10_isPerson (Nat.le_of_ble_eq_true rfl) (by decide) (ct_isPersonN hj hx) ?_
  rintro _ _ ⟨rfl, rfl⟩
  refine g_ifeq 20 dX10_areTwo_5 (by decide) (fun _ => ?_) (fun c => absurd c (by decide))
  refine g_iconst (v := 0) dX10_areTwo_20 (by decide) ?_
  exact g_ireturn dX10_areTwo_21 rfl rfl ⟨rfl, rfl⟩

set_option maxRecDepth 100000 in
set_option maxHeartbeats 4000000 in
theorem ct_areTwoN2 {N F : Nat} (hj : MO7 hi N F) {i : Nat} (hi1 : i < N) {x : Int32} (hx : noP x N) : MC E l 3 mX10_areTwo [.ref 53, .int (nI i), .int x] 83 (hi, hl, RT) 0 0 (fun r h' => r = some (.int (0)) ∧ h' = (hi, hl, RT)) := by
  refine MC.of [some (.ref 53), some (.int (nI i)), some (.int x)] (by decide) rfl (Nat.le_of_ble_eq_true rfl) ?_
  refine g_aload_n dX10_areTwo_0 rfl ?_
  refine g_iload_n dX10_areTwo_1 rfl ?_
  refine g_callV1 (M' := mX10_isPerson) (mc' := 0) (ms' := 0) dX10_areTwo_2 l_X10_167 s_mX10_isPerson (by decide) rfl rfl f_mX10_isPerson (Nat.le_of_ble_eq_true rfl) (by decide) (ct_isPersonY hj hi1) ?_
  rintro _ _ ⟨rfl, rfl⟩
  refine g_ifeq 20 dX10_areTwo_5 (by decide) (fun c => absurd c (by decide)) (fun _ => ?_)
  refine g_aload_n dX10_areTwo_8 rfl ?_
  refine g_iload_n dX10_areTwo_9 rfl ?_
  refine g_callV1 (M' := mX10_isPerson) (mc' := 0) (ms' := 0) dX10_areTwo_10 l_X10_167 s_mX10_isPerson (by decide) rfl rfl f_mX10_isPerson (Nat.le_of_ble_eq_true rfl) (by decide) (ct_isPersonN hj hx) ?_
  rintro _ _ ⟨rfl, rfl⟩
  refine g_ifeq 20 dX10_areTwo_13 (by decide) (fun _ => ?_) (fun c => absurd c (by decide))
  refine g_iconst (v := 0) dX10_areTwo_20 (by decide) ?_
  exact g_ireturn dX10_areTwo_21 rfl rfl ⟨rfl, rfl⟩

set_option maxRecDepth 100000 in
set_option maxHeartbeats 4000000 in
theorem ct_sideOf {N F : Nat} (hj : MO7 hi N F) {i : Nat} (hi1 : i < N) : MC E l 1 mX10_sideOf [.ref 53, .int (nI i)] 83 (hi, hl, RT) 0 0 (fun r h' => r = some (.int (vm hi N F 3 i)) ∧ h' = (hi, hl, RT)) := by
  refine MC.of [some (.ref 53), some (.int (nI i))] (by decide) rfl (Nat.le_of_ble_eq_true rfl) ?_
  obtain ⟨hN8, hFN, hN, hF⟩ := hj
  have m3i := m_3 (hi := hi) (F := F) hi1
  refine g_iload_n dX10_sideOf_0 rfl ?_
  refine g_aload_n dX10_sideOf_1 rfl ?_
  refine g_geti dX10_sideOf_2 k_X10_137 rfl (by decide) rfl ?_
  refine g_icmpge 12 dX10_sideOf_5 (by decide) (fun c5 => ?_) (fun c5 => ?_)
  · skip
    refine g_iconst (v := 1) dX10_sideOf_12 (by decide) ?_
    exact g_ireturn dX10_sideOf_13 rfl rfl ⟨by rw [m3i, decide_eq_true (ge_out hF c5 (by omega) (by omega))]; rfl, rfl⟩
  · skip
    refine g_iconst (v := 0) dX10_sideOf_8 (by decide) ?_
    refine g_goto 13 dX10_sideOf_9 (by decide) ?_
    exact g_ireturn dX10_sideOf_13 rfl rfl ⟨by rw [m3i, decide_eq_false (fun q => c5 (by show hi 53 1 ≤ nI i; rw [hF]; exact nI_le q (by omega)))]; rfl, rfl⟩

set_option maxRecDepth 100000 in
set_option maxHeartbeats 4000000 in
theorem ct_areOther {N F : Nat} (hj : MO7 hi N F) {i j : Nat} (hi1 : i < N) (hj1 : j < N) : MC E l 2 mX10_areOther [.ref 53, .int (nI i), .int (nI j)] 83 (hi, hl, RT) 0 0 (fun r h' => r = some (.int (bI (!decide (vm hi N F 3 i = vm hi N F 3 j)))) ∧ h' = (hi, hl, RT)) := by
  refine MC.of [some (.ref 53), some (.int (nI i)), some (.int (nI j))] (by decide) rfl (Nat.le_of_ble_eq_true rfl) ?_
  refine g_aload_n dX10_areOther_0 rfl ?_
  refine g_iload_n dX10_areOther_1 rfl ?_
  refine g_callV1 (M' := mX10_sideOf) (mc' := 0) (ms' := 0) dX10_areOther_2 l_X10_171 s_mX10_sideOf (by decide) rfl rfl f_mX10_sideOf (Nat.le_of_ble_eq_true rfl) (by decide) (ct_sideOf hj hi1) ?_
  rintro _ _ ⟨rfl, rfl⟩
  refine g_aload_n dX10_areOther_5 rfl ?_
  refine g_iload_n dX10_areOther_6 rfl ?_
  refine g_callV1 (M' := mX10_sideOf) (mc' := 0) (ms' := 0) dX10_areOther_7 l_X10_171 s_mX10_sideOf (by decide) rfl rfl f_mX10_sideOf (Nat.le_of_ble_eq_true rfl) (by decide) (ct_sideOf hj hj1) ?_
  rintro _ _ ⟨rfl, rfl⟩
  refine g_icmpeq 17 dX10_areOther_10 (by decide) (fun c10 => ?_) (fun c10 => ?_)
  · skip
    refine g_iconst (v := 0) dX10_areOther_17 (by decide) ?_
    exact g_ireturn dX10_areOther_18 rfl rfl ⟨by simp_all [bI], rfl⟩
  · skip
    refine g_iconst (v := 1) dX10_areOther_13 (by decide) ?_
    refine g_goto 18 dX10_areOther_14 (by decide) ?_
    exact g_ireturn dX10_areOther_18 rfl rfl ⟨by simp_all [bI], rfl⟩

set_option maxRecDepth 100000 in
set_option maxHeartbeats 4000000 in
theorem ct_mFree {N F : Nat} (hj : MO7 hi N F) {i : Nat} (hi1 : i < N) : MC E l 1 mX10_isFree [.ref 53, .int (nI i)] 83 (hi, hl, RT) 0 0 (fun r h' => r = some (.int (bI (vFree (vm hi N F) i))) ∧ h' = (hi, hl, RT)) := by
  refine MC.of [some (.ref 53), some (.int (nI i))] (by decide) rfl (Nat.le_of_ble_eq_true rfl) ?_
  obtain ⟨hN8, hFN, hN, hF⟩ := hj
  have eci : (nI i).toNatClampNeg = i := nI_clamp (by omega)
  have m2i := m_2 (hi := hi) (F := F) hi1
  have m11i := m_11 (hi := hi) (F := F) hi1
  refine g_aload_n dX10_isFree_0 rfl ?_
  refine g_getr dX10_isFree_1 k_X10_7 rfl (by decide) rfl rfl ?_
  refine g_iload_n dX10_isFree_4 rfl ?_
  refine g_iald dX10_isFree_5 (by decide) rfl (vp_in_nI (by omega) (by decide)) ?_
  refine g_iconst (v := 4) dX10_isFree_6 (by decide) ?_
  refine g_icmpeq 24 dX10_isFree_7 (by decide) (fun c7 => ?_) (fun c7 => ?_)
  · skip
    refine g_iconst (v := 0) dX10_isFree_24 (by decide) ?_
    exact g_ireturn dX10_isFree_25 rfl rfl ⟨by simp_all [bI, vFree, vTaken, vGone], rfl⟩
  · skip
    refine g_aload_n dX10_isFree_10 rfl ?_
    refine g_getr dX10_isFree_11 k_X10_34 rfl (by decide) rfl rfl ?_
    refine g_iload_n dX10_isFree_14 rfl ?_
    refine g_iald dX10_isFree_15 (by decide) rfl (vp_in_nI (by omega) (by decide)) ?_
    refine g_iconst (v := -1) dX10_isFree_16 (by decide) ?_
    refine g_icmpne 24 dX10_isFree_17 (by decide) (fun c17 => ?_) (fun c17 => ?_)
    · skip
      refine g_iconst (v := 0) dX10_isFree_24 (by decide) ?_
      exact g_ireturn dX10_isFree_25 rfl rfl ⟨by simp_all [bI, vFree, vTaken, vGone], rfl⟩
    · skip
      refine g_iconst (v := 1) dX10_isFree_20 (by decide) ?_
      refine g_goto 25 dX10_isFree_21 (by decide) ?_
      exact g_ireturn dX10_isFree_25 rfl rfl ⟨by simp_all [bI, vFree, vTaken, vGone], rfl⟩

set_option maxRecDepth 100000 in
set_option maxHeartbeats 4000000 in
theorem ct_mPic {N F : Nat} (hj : MO7 hi N F) {i : Nat} (hi1 : i < N) : MC E l 1 mX10_picture [.ref 53, .int (nI i)] 83 (hi, hl, RT) 0 0 (fun r h' => r = some (.int (vPic (vm hi N F) i)) ∧ h' = (hi, hl, RT)) := by
  refine MC.of [some (.ref 53), some (.int (nI i))] (by decide) rfl (Nat.le_of_ble_eq_true rfl) ?_
  obtain ⟨hN8, hFN, hN, hF⟩ := hj
  have eci : (nI i).toNatClampNeg = i := nI_clamp (by omega)
  have m4i := m_4 (hi := hi) (F := F) hi1
  have m5i := m_5 (hi := hi) (F := F) hi1
  refine g_aload_n dX10_picture_0 rfl ?_
  refine g_getr dX10_picture_1 k_X10_13 rfl (by decide) rfl rfl ?_
  refine g_iload_n dX10_picture_4 rfl ?_
  refine g_iald dX10_picture_5 (by decide) rfl (vp_in_nI (by omega) (by decide)) ?_
  refine g_aload_n dX10_picture_6 rfl ?_
  refine g_getr dX10_picture_7 k_X10_16 rfl (by decide) rfl rfl ?_
  refine g_iload_n dX10_picture_10 rfl ?_
  refine g_iald dX10_picture_11 (by decide) rfl (vp_in_nI (by omega) (by decide)) ?_
  refine g_iadd dX10_picture_12 ?_
  exact g_ireturn dX10_picture_13 rfl rfl ⟨by rw [vPic, m4i, m5i, eci], rfl⟩

set_option maxRecDepth 100000 in
set_option maxHeartbeats 4000000 in
theorem ct_mLikes {N F : Nat} (hj : MO7 hi N F) {i j : Nat} (hi1 : i < N) (hj1 : j < N) : MC E l 3 mX10_likes [.ref 53, .int (nI i), .int (nI j)] 83 (hi, hl, RT) 0 0 (fun r h' => r = some (.int (bI (vLikes (vm hi N F) i j))) ∧ h' = (hi, hl, RT)) := by
  refine MC.of [some (.ref 53), some (.int (nI i)), some (.int (nI j))] (by decide) rfl (Nat.le_of_ble_eq_true rfl) ?_
  have hj0 := hj
  obtain ⟨hN8, hFN, hN, hF⟩ := hj
  have eci : (nI i).toNatClampNeg = i := nI_clamp (by omega)
  have m2i := m_2 (hi := hi) (F := F) hi1
  have m6i := m_6 (hi := hi) (F := F) hi1
  refine g_aload_n dX10_likes_0 rfl ?_
  refine g_iload_n dX10_likes_1 rfl ?_
  refine g_iload_n dX10_likes_2 rfl ?_
  refine g_callV2 (M' := mX10_areOther) (mc' := 0) (ms' := 0) dX10_likes_3 l_X10_174 s_mX10_areOther (by decide) rfl rfl f_mX10_areOther (Nat.le_of_ble_eq_true rfl) (by decide) (ct_areOther hj0 hi1 hj1) ?_
  rintro _ _ ⟨rfl, rfl⟩
  refine g_ifeq 37 dX10_likes_6 (by decide) (fun c6 => ?_) (fun c6 => ?_)
  · skip
    refine g_iconst (v := 0) dX10_likes_37 (by decide) ?_
    exact g_ireturn dX10_likes_38 rfl rfl ⟨by simp_all [bI, vLikes, vCont], rfl⟩
  · skip
    refine g_aload_n dX10_likes_9 rfl ?_
    refine g_getr dX10_likes_10 k_X10_7 rfl (by decide) rfl rfl ?_
    refine g_iload_n dX10_likes_13 rfl ?_
    refine g_iald dX10_likes_14 (by decide) rfl (vp_in_nI (by omega) (by decide)) ?_
    refine g_iconst (v := 1) dX10_likes_15 (by decide) ?_
    refine g_icmpeq 33 dX10_likes_16 (by decide) (fun c16 => ?_) (fun c16 => ?_)
    · skip
      refine g_iconst (v := 1) dX10_likes_33 (by decide) ?_
      refine g_goto 38 dX10_likes_34 (by decide) ?_
      exact g_ireturn dX10_likes_38 rfl rfl ⟨by simp_all [bI, vLikes, vCont], rfl⟩
    · skip
      refine g_aload_n dX10_likes_19 rfl ?_
      refine g_iload_n dX10_likes_20 rfl ?_
      refine g_callV1 (M' := mX10_picture) (mc' := 0) (ms' := 0) dX10_likes_21 l_X10_177 s_mX10_picture (by decide) rfl rfl f_mX10_picture (Nat.le_of_ble_eq_true rfl) (by decide) (ct_mPic hj0 hj1) ?_
      rintro _ _ ⟨rfl, rfl⟩
      refine g_aload_n dX10_likes_24 rfl ?_
      refine g_getr dX10_likes_25 k_X10_19 rfl (by decide) rfl rfl ?_
      refine g_iload_n dX10_likes_28 rfl ?_
      refine g_iald dX10_likes_29 (by decide) rfl (vp_in_nI (by omega) (by decide)) ?_
      refine g_icmplt 37 dX10_likes_30 (by decide) (fun c30 => ?_) (fun c30 => ?_)
      · skip
        refine g_iconst (v := 0) dX10_likes_37 (by decide) ?_
        exact g_ireturn dX10_likes_38 rfl rfl ⟨by simp_all [bI, vLikes, vCont], rfl⟩
      · skip
        refine g_iconst (v := 1) dX10_likes_33 (by decide) ?_
        refine g_goto 38 dX10_likes_34 (by decide) ?_
        exact g_ireturn dX10_likes_38 rfl rfl ⟨by simp_all [bI, vLikes, vCont], rfl⟩

set_option maxRecDepth 100000 in
set_option maxHeartbeats 4000000 in
theorem ct_likeEachOther {N F : Nat} (hj : MO7 hi N F) {i j : Nat} (hi1 : i < N) (hj1 : j < N) : MC E l 4 mX10_likeEachOther [.ref 53, .int (nI i), .int (nI j)] 83 (hi, hl, RT) 0 0 (fun r h' => r = some (.int (bI (vLikes (vm hi N F) i j && vLikes (vm hi N F) j i))) ∧ h' = (hi, hl, RT)) := by
  refine MC.of [some (.ref 53), some (.int (nI i)), some (.int (nI j))] (by decide) rfl (Nat.le_of_ble_eq_true rfl) ?_
  refine g_aload_n dX10_likeEachOther_0 rfl ?_
  refine g_iload_n dX10_likeEachOther_1 rfl ?_
  refine g_iload_n dX10_likeEachOther_2 rfl ?_
  refine g_callV2 (M' := mX10_likes) (mc' := 0) (ms' := 0) dX10_likeEachOther_3 l_X10_180 s_mX10_likes (by decide) rfl rfl f_mX10_likes (Nat.le_of_ble_eq_true rfl) (by decide) (ct_mLikes hj hi1 hj1) ?_
  rintro _ _ ⟨rfl, rfl⟩
  refine g_ifeq 22 dX10_likeEachOther_6 (by decide) (fun c6 => ?_) (fun c6 => ?_)
  · skip
    refine g_iconst (v := 0) dX10_likeEachOther_22 (by decide) ?_
    exact g_ireturn dX10_likeEachOther_23 rfl rfl ⟨by simp_all [bI], rfl⟩
  · skip
    refine g_aload_n dX10_likeEachOther_9 rfl ?_
    refine g_iload_n dX10_likeEachOther_10 rfl ?_
    refine g_iload_n dX10_likeEachOther_11 rfl ?_
    refine g_callV2 (M' := mX10_likes) (mc' := 0) (ms' := 0) dX10_likeEachOther_12 l_X10_180 s_mX10_likes (by decide) rfl rfl f_mX10_likes (Nat.le_of_ble_eq_true rfl) (by decide) (ct_mLikes hj hj1 hi1) ?_
    rintro _ _ ⟨rfl, rfl⟩
    refine g_ifeq 22 dX10_likeEachOther_15 (by decide) (fun c15 => ?_) (fun c15 => ?_)
    · skip
      refine g_iconst (v := 0) dX10_likeEachOther_22 (by decide) ?_
      exact g_ireturn dX10_likeEachOther_23 rfl rfl ⟨by simp_all [bI], rfl⟩
    · skip
      refine g_iconst (v := 1) dX10_likeEachOther_18 (by decide) ?_
      refine g_goto 23 dX10_likeEachOther_19 (by decide) ?_
      exact g_ireturn dX10_likeEachOther_23 rfl rfl ⟨by simp_all [bI], rfl⟩

set_option maxRecDepth 100000 in
set_option maxHeartbeats 4000000 in
theorem ct_mMatch {N F : Nat} (hj : MO7 hi N F) {i j : Nat} (hi1 : i < N) (hj1 : j < N) : MC E l 2 mX10_isMatch [.ref 53, .int (nI i), .int (nI j)] 83 (hi, hl, RT) 0 0 (fun r h' => r = some (.int (bI (vMatch (vm hi N F) i j))) ∧ h' = (hi, hl, RT)) := by
  refine MC.of [some (.ref 53), some (.int (nI i)), some (.int (nI j))] (by decide) rfl (Nat.le_of_ble_eq_true rfl) ?_
  obtain ⟨hN8, hFN, hN, hF⟩ := hj
  have eci : (nI i).toNatClampNeg = i := nI_clamp (by omega)
  have ecj : (nI j).toNatClampNeg = j := nI_clamp (by omega)
  have m7i := m_7 (hi := hi) (F := F) hi1
  have m7j := m_7 (hi := hi) (F := F) hj1
  refine g_aload_n dX10_isMatch_0 rfl ?_
  refine g_getr dX10_isMatch_1 k_X10_22 rfl (by decide) rfl rfl ?_
  refine g_iload_n dX10_isMatch_4 rfl ?_
  refine g_iald dX10_isMatch_5 (by decide) rfl (vp_in_nI (by omega) (by decide)) ?_
  refine g_iload_n dX10_isMatch_6 rfl ?_
  refine g_callS2 (M' := mX10_isIn) (mc' := 0) (ms' := 0) dX10_isMatch_7 l_X10_183 s_mX10_isIn f_mX10_isIn (Nat.le_of_ble_eq_true rfl) (by decide) (ct_isIn _ (by omega)) ?_
  rintro _ _ ⟨rfl, rfl⟩
  refine g_ifeq 30 dX10_isMatch_10 (by decide) (fun c10 => ?_) (fun c10 => ?_)
  · skip
    refine g_iconst (v := 0) dX10_isMatch_30 (by decide) ?_
    exact g_ireturn dX10_isMatch_31 rfl rfl ⟨by simp_all [bI, vMatch, vWent], rfl⟩
  · skip
    refine g_aload_n dX10_isMatch_13 rfl ?_
    refine g_getr dX10_isMatch_14 k_X10_22 rfl (by decide) rfl rfl ?_
    refine g_iload_n dX10_isMatch_17 rfl ?_
    refine g_iald dX10_isMatch_18 (by decide) rfl (vp_in_nI (by omega) (by decide)) ?_
    refine g_iload_n dX10_isMatch_19 rfl ?_
    refine g_callS2 (M' := mX10_isIn) (mc' := 0) (ms' := 0) dX10_isMatch_20 l_X10_183 s_mX10_isIn f_mX10_isIn (Nat.le_of_ble_eq_true rfl) (by decide) (ct_isIn _ (by omega)) ?_
    rintro _ _ ⟨rfl, rfl⟩
    refine g_ifeq 30 dX10_isMatch_23 (by decide) (fun c23 => ?_) (fun c23 => ?_)
    · skip
      refine g_iconst (v := 0) dX10_isMatch_30 (by decide) ?_
      exact g_ireturn dX10_isMatch_31 rfl rfl ⟨by simp_all [bI, vMatch, vWent], rfl⟩
    · skip
      refine g_iconst (v := 1) dX10_isMatch_26 (by decide) ?_
      refine g_goto 31 dX10_isMatch_27 (by decide) ?_
      exact g_ireturn dX10_isMatch_31 rfl rfl ⟨by simp_all [bI, vMatch, vWent], rfl⟩

set_option maxRecDepth 100000 in
set_option maxHeartbeats 4000000 in
theorem ct_mWasShown {N F : Nat} (hj : MO7 hi N F) {i j : Nat} (hi1 : i < N) (hj1 : j < N) : MC E l 2 mX10_wasShown [.ref 53, .int (nI i), .int (nI j)] 83 (hi, hl, RT) 0 0 (fun r h' => r = some (.int (bI (vShown (vm hi N F) i j))) ∧ h' = (hi, hl, RT)) := by
  refine MC.of [some (.ref 53), some (.int (nI i)), some (.int (nI j))] (by decide) rfl (Nat.le_of_ble_eq_true rfl) ?_
  obtain ⟨hN8, hFN, hN, hF⟩ := hj
  have eci : (nI i).toNatClampNeg = i := nI_clamp (by omega)
  have m7i := m_7 (hi := hi) (F := F) hi1
  have m8i := m_8 (hi := hi) (F := F) hi1
  refine g_aload_n dX10_wasShown_0 rfl ?_
  refine g_getr dX10_wasShown_1 k_X10_22 rfl (by decide) rfl rfl ?_
  refine g_iload_n dX10_wasShown_4 rfl ?_
  refine g_iald dX10_wasShown_5 (by decide) rfl (vp_in_nI (by omega) (by decide)) ?_
  refine g_aload_n dX10_wasShown_6 rfl ?_
  refine g_getr dX10_wasShown_7 k_X10_25 rfl (by decide) rfl rfl ?_
  refine g_iload_n dX10_wasShown_10 rfl ?_
  refine g_iald dX10_wasShown_11 (by decide) rfl (vp_in_nI (by omega) (by decide)) ?_
  refine g_ior dX10_wasShown_12 ?_
  refine g_iload_n dX10_wasShown_13 rfl ?_
  refine g_callS2 (M' := mX10_isIn) (mc' := 0) (ms' := 0) dX10_wasShown_14 l_X10_183 s_mX10_isIn f_mX10_isIn (Nat.le_of_ble_eq_true rfl) (by decide) (ct_isIn _ (by omega)) ?_
  rintro _ _ ⟨rfl, rfl⟩
  exact g_ireturn dX10_wasShown_17 rfl (bI_nar _) ⟨by rw [vShown, m7i, m8i, eci], rfl⟩

set_option maxRecDepth 100000 in
set_option maxHeartbeats 4000000 in
theorem lp_mLikedBy {N F : Nat} (hj : MO7 hi N F) {i : Nat} (hi1 : i < N) : ∀ (n i9 : Nat), i9 ≤ N → N + 1 ≤ i9 + n → ∀ (b : Int32), b = orB (fun k => vLikes (vm hi N F) i k) bitI i9 → G E l 5 mX10_likedBy 4 [some (.ref 53), some (.int (nI i)), some (.int b), some (.int (nI i9))] [] 83 (hi, hl, RT) 0 0 (fun r h' => r = some (.int (orB (fun k => vLikes (vm hi N F) i k) bitI N)) ∧ h' = (hi, hl, RT)) := by
  intro n
  induction n with
  | zero =>
    intro i9 h1 h2
    exact absurd h2 (by omega)
  | succ n ih =>
    intro i9 hi91 hi92 b hb
    refine g_iload_n dX10_likedBy_4 rfl ?_
    refine g_aload_n dX10_likedBy_5 rfl ?_
    refine g_geti dX10_likedBy_6 k_X10_140 rfl (by decide) rfl ?_
    refine g_icmpge 37 dX10_likedBy_9 (by decide) (fun c9 => ?_) (fun c9 => ?_)
    · skip
      have hiN : i9 = N := Nat.le_antisymm hi91 (ge_out hj.2.2.1 c9 (by have := hj.1; omega) (by have := hj.1; omega))
      subst hiN
      refine g_iload_n dX10_likedBy_37 rfl ?_
      exact g_ireturn dX10_likedBy_38 rfl rfl ⟨by rw [hb], rfl⟩
    · skip
      have hlt : i9 < N := lt_in hj.2.2.1 c9 (by have := hj.1; omega) (by have := hj.1; omega)
      refine g_iload_n dX10_likedBy_12 rfl ?_
      refine g_aload_n dX10_likedBy_13 rfl ?_
      refine g_iload_n dX10_likedBy_14 rfl ?_
      refine g_iload_n dX10_likedBy_15 rfl ?_
      refine g_callV2 (M' := mX10_likes) (mc' := 0) (ms' := 0) dX10_likedBy_16 l_X10_180 s_mX10_likes (by decide) rfl rfl f_mX10_likes (Nat.le_of_ble_eq_true rfl) (by decide) (ct_mLikes hj hi1 hlt) ?_
      rintro _ _ ⟨rfl, rfl⟩
      refine g_ifeq 28 dX10_likedBy_19 (by decide) (fun c19 => ?_) (fun c19 => ?_)
      · skip
        refine g_iconst (v := 0) dX10_likedBy_28 (by decide) ?_
        refine g_ior dX10_likedBy_29 ?_
        refine g_istore_n dX10_likedBy_30 (by decide) rfl rfl ?_
        refine g_iinc dX10_likedBy_31 rfl (nI_inc i9) (by decide) rfl rfl ?_
        refine g_goto 4 dX10_likedBy_34 (by decide) ?_
        exact ih (i9 + 1) (by omega) (by omega) _ (by rw [hb]; rw [orB_n (P := fun k => vLikes (vm hi N F) i k) (bI_0.mp c19), or0])
      · skip
        refine g_iconst (v := 1) dX10_likedBy_22 (by decide) ?_
        refine g_iload_n dX10_likedBy_23 rfl ?_
        refine g_ishl dX10_likedBy_24 ?_
        refine g_goto 29 dX10_likedBy_25 (by decide) ?_
        refine g_ior dX10_likedBy_29 ?_
        refine g_istore_n dX10_likedBy_30 (by decide) rfl rfl ?_
        refine g_iinc dX10_likedBy_31 rfl (nI_inc i9) (by decide) rfl rfl ?_
        refine g_goto 4 dX10_likedBy_34 (by decide) ?_
        exact ih (i9 + 1) (by omega) (by omega) _ (by rw [hb]; exact (orB_y (P := fun k => vLikes (vm hi N F) i k) (w := bitI) (bI_n.mp c19)).symm)

set_option maxRecDepth 100000 in
set_option maxHeartbeats 4000000 in
theorem ct_mLikedBy {N F : Nat} (hj : MO7 hi N F) {i : Nat} (hi1 : i < N) : MC E l 5 mX10_likedBy [.ref 53, .int (nI i)] 83 (hi, hl, RT) 0 0 (fun r h' => r = some (.int (orB (fun k => vLikes (vm hi N F) i k) bitI N)) ∧ h' = (hi, hl, RT)) := by
  refine MC.of [some (.ref 53), some (.int (nI i)), none, none] (by decide) rfl (Nat.le_of_ble_eq_true rfl) ?_
  refine g_iconst (v := 0) dX10_likedBy_0 (by decide) ?_
  refine g_istore_n dX10_likedBy_1 (by decide) rfl rfl ?_
  refine g_iconst (v := 0) dX10_likedBy_2 (by decide) ?_
  refine g_istore_n dX10_likedBy_3 (by decide) rfl rfl ?_
  exact lp_mLikedBy hj hi1 (N + 1) 0 (by omega) (by omega) 0 rfl

set_option maxRecDepth 100000 in
set_option maxHeartbeats 4000000 in
theorem lp_mMatchedWith {N F : Nat} (hj : MO7 hi N F) {i : Nat} (hi1 : i < N) : ∀ (n i9 : Nat), i9 ≤ N → N + 1 ≤ i9 + n → ∀ (b : Int32), b = orB (fun k => vMatch (vm hi N F) i k) bitI i9 → G E l 5 mX10_matchedWith 4 [some (.ref 53), some (.int (nI i)), some (.int b), some (.int (nI i9))] [] 83 (hi, hl, RT) 0 0 (fun r h' => r = some (.int (orB (fun k => vMatch (vm hi N F) i k) bitI N)) ∧ h' = (hi, hl, RT)) := by
  intro n
  induction n with
  | zero =>
    intro i9 h1 h2
    exact absurd h2 (by omega)
  | succ n ih =>
    intro i9 hi91 hi92 b hb
    refine g_iload_n dX10_matchedWith_4 rfl ?_
    refine g_aload_n dX10_matchedWith_5 rfl ?_
    refine g_geti dX10_matchedWith_6 k_X10_140 rfl (by decide) rfl ?_
    refine g_icmpge 37 dX10_matchedWith_9 (by decide) (fun c9 => ?_) (fun c9 => ?_)
    · skip
      have hiN : i9 = N := Nat.le_antisymm hi91 (ge_out hj.2.2.1 c9 (by have := hj.1; omega) (by have := hj.1; omega))
      subst hiN
      refine g_iload_n dX10_matchedWith_37 rfl ?_
      exact g_ireturn dX10_matchedWith_38 rfl rfl ⟨by rw [hb], rfl⟩
    · skip
      have hlt : i9 < N := lt_in hj.2.2.1 c9 (by have := hj.1; omega) (by have := hj.1; omega)
      refine g_iload_n dX10_matchedWith_12 rfl ?_
      refine g_aload_n dX10_matchedWith_13 rfl ?_
      refine g_iload_n dX10_matchedWith_14 rfl ?_
      refine g_iload_n dX10_matchedWith_15 rfl ?_
      refine g_callV2 (M' := mX10_isMatch) (mc' := 0) (ms' := 0) dX10_matchedWith_16 l_X10_186 s_mX10_isMatch (by decide) rfl rfl f_mX10_isMatch (Nat.le_of_ble_eq_true rfl) (by decide) (ct_mMatch hj hi1 hlt) ?_
      rintro _ _ ⟨rfl, rfl⟩
      refine g_ifeq 28 dX10_matchedWith_19 (by decide) (fun c19 => ?_) (fun c19 => ?_)
      · skip
        refine g_iconst (v := 0) dX10_matchedWith_28 (by decide) ?_
        refine g_ior dX10_matchedWith_29 ?_
        refine g_istore_n dX10_matchedWith_30 (by decide) rfl rfl ?_
        refine g_iinc dX10_matchedWith_31 rfl (nI_inc i9) (by decide) rfl rfl ?_
        refine g_goto 4 dX10_matchedWith_34 (by decide) ?_
        exact ih (i9 + 1) (by omega) (by omega) _ (by rw [hb]; rw [orB_n (P := fun k => vMatch (vm hi N F) i k) (bI_0.mp c19), or0])
      · skip
        refine g_iconst (v := 1) dX10_matchedWith_22 (by decide) ?_
        refine g_iload_n dX10_matchedWith_23 rfl ?_
        refine g_ishl dX10_matchedWith_24 ?_
        refine g_goto 29 dX10_matchedWith_25 (by decide) ?_
        refine g_ior dX10_matchedWith_29 ?_
        refine g_istore_n dX10_matchedWith_30 (by decide) rfl rfl ?_
        refine g_iinc dX10_matchedWith_31 rfl (nI_inc i9) (by decide) rfl rfl ?_
        refine g_goto 4 dX10_matchedWith_34 (by decide) ?_
        exact ih (i9 + 1) (by omega) (by omega) _ (by rw [hb]; exact (orB_y (P := fun k => vMatch (vm hi N F) i k) (w := bitI) (bI_n.mp c19)).symm)

set_option maxRecDepth 100000 in
set_option maxHeartbeats 4000000 in
theorem ct_mMatchedWith {N F : Nat} (hj : MO7 hi N F) {i : Nat} (hi1 : i < N) : MC E l 5 mX10_matchedWith [.ref 53, .int (nI i)] 83 (hi, hl, RT) 0 0 (fun r h' => r = some (.int (orB (fun k => vMatch (vm hi N F) i k) bitI N)) ∧ h' = (hi, hl, RT)) := by
  refine MC.of [some (.ref 53), some (.int (nI i)), none, none] (by decide) rfl (Nat.le_of_ble_eq_true rfl) ?_
  refine g_iconst (v := 0) dX10_matchedWith_0 (by decide) ?_
  refine g_istore_n dX10_matchedWith_1 (by decide) rfl rfl ?_
  refine g_iconst (v := 0) dX10_matchedWith_2 (by decide) ?_
  refine g_istore_n dX10_matchedWith_3 (by decide) rfl rfl ?_
  exact lp_mMatchedWith hj hi1 (N + 1) 0 (by omega) (by omega) 0 rfl

set_option maxRecDepth 100000 in
set_option maxHeartbeats 4000000 in
theorem ct_goesRight {N F : Nat} (hj : MO7 hi N F) {i j : Nat} (hi1 : i < N) (hj1 : j < N) : MC E l 4 mX10_goesRight [.ref 53, .int (nI i), .int (nI j)] 83 (hi, hl, RT) 0 0 (fun r h' => r = some (.int (bI (vRight (vm hi N F) i j (hi 53 12)))) ∧ h' = (hi, hl, RT)) := by
  refine MC.of [some (.ref 53), some (.int (nI i)), some (.int (nI j)), none] (by decide) rfl (Nat.le_of_ble_eq_true rfl) ?_
  have hj0 := hj
  obtain ⟨hN8, hFN, hN, hF⟩ := hj
  have eci : (nI i).toNatClampNeg = i := nI_clamp (by omega)
  have ecj : (nI j).toNatClampNeg = j := nI_clamp (by omega)
  have m2i := m_2 (hi := hi) (F := F) hi1
  have m9i := m_9 (hi := hi) (F := F) hi1
  have m10i := m_10 (hi := hi) (F := F) hi1
  have m7j := m_7 (hi := hi) (F := F) hj1
  refine g_aload_n dX10_goesRight_0 rfl ?_
  refine g_iload_n dX10_goesRight_1 rfl ?_
  refine g_iload_n dX10_goesRight_2 rfl ?_
  refine g_callV2 (M' := mX10_likes) (mc' := 0) (ms' := 0) dX10_goesRight_3 l_X10_180 s_mX10_likes (by decide) rfl rfl f_mX10_likes (Nat.le_of_ble_eq_true rfl) (by decide) (ct_mLikes hj0 hi1 hj1) ?_
  rintro _ _ ⟨rfl, rfl⟩
  refine g_ifeq 26 dX10_goesRight_6 (by decide) (fun c6 => ?_) (fun c6 => ?_)
  · skip
    refine g_iconst (v := 0) dX10_goesRight_26 (by decide) ?_
    refine g_istore_n dX10_goesRight_27 (by decide) rfl rfl ?_
    refine g_iload_n dX10_goesRight_28 rfl ?_
    refine g_ifeq 58 dX10_goesRight_29 (by decide) (fun _ => ?_) (fun c => absurd c (by decide))
    refine g_iconst (v := 0) dX10_goesRight_58 (by decide) ?_
    refine g_istore_n dX10_goesRight_59 (by decide) rfl rfl ?_
    refine g_iload_n dX10_goesRight_60 rfl ?_
    refine g_ifeq 101 dX10_goesRight_61 (by decide) (fun _ => ?_) (fun c => absurd c (by decide))
    refine g_iconst (v := 0) dX10_goesRight_101 (by decide) ?_
    exact g_ireturn dX10_goesRight_102 rfl rfl ⟨by simp_all [bI, vRight, vHasten, kIsA, vWent, eq_comm (a := (3 : Int32))], rfl⟩
  · skip
    refine g_aload_n dX10_goesRight_9 rfl ?_
    refine g_getr dX10_goesRight_10 k_X10_31 rfl (by decide) rfl rfl ?_
    refine g_iload_n dX10_goesRight_13 rfl ?_
    refine g_iald dX10_goesRight_14 (by decide) rfl (vp_in_nI (by omega) (by decide)) ?_
    refine g_aload_n dX10_goesRight_15 rfl ?_
    refine g_geti dX10_goesRight_16 k_X10_143 rfl (by decide) rfl ?_
    refine g_icmpge 26 dX10_goesRight_19 (by decide) (fun c19 => ?_) (fun c19 => ?_)
    · skip
      refine g_iconst (v := 0) dX10_goesRight_26 (by decide) ?_
      refine g_istore_n dX10_goesRight_27 (by decide) rfl rfl ?_
      refine g_iload_n dX10_goesRight_28 rfl ?_
      refine g_ifeq 58 dX10_goesRight_29 (by decide) (fun _ => ?_) (fun c => absurd c (by decide))
      refine g_iconst (v := 0) dX10_goesRight_58 (by decide) ?_
      refine g_istore_n dX10_goesRight_59 (by decide) rfl rfl ?_
      refine g_iload_n dX10_goesRight_60 rfl ?_
      refine g_ifeq 101 dX10_goesRight_61 (by decide) (fun _ => ?_) (fun c => absurd c (by decide))
      refine g_iconst (v := 0) dX10_goesRight_101 (by decide) ?_
      exact g_ireturn dX10_goesRight_102 rfl rfl ⟨by simp_all [bI, vRight, vHasten, kIsA, vWent, eq_comm (a := (3 : Int32))], rfl⟩
    · skip
      refine g_iconst (v := 1) dX10_goesRight_22 (by decide) ?_
      refine g_goto 27 dX10_goesRight_23 (by decide) ?_
      refine g_istore_n dX10_goesRight_27 (by decide) rfl rfl ?_
      refine g_iload_n dX10_goesRight_28 rfl ?_
      refine g_ifeq 58 dX10_goesRight_29 (by decide) (fun c => absurd c (by decide)) (fun _ => ?_)
      refine g_aload_n dX10_goesRight_32 rfl ?_
      refine g_getr dX10_goesRight_33 k_X10_7 rfl (by decide) rfl rfl ?_
      refine g_iload_n dX10_goesRight_36 rfl ?_
      refine g_iald dX10_goesRight_37 (by decide) rfl (vp_in_nI (by omega) (by decide)) ?_
      refine g_iconst (v := 2) dX10_goesRight_38 (by decide) ?_
      refine g_icmpne 54 dX10_goesRight_39 (by decide) (fun c39 => ?_) (fun c39 => ?_)
      · skip
        refine g_iconst (v := 1) dX10_goesRight_54 (by decide) ?_
        refine g_goto 59 dX10_goesRight_55 (by decide) ?_
        refine g_istore_n dX10_goesRight_59 (by decide) rfl rfl ?_
        refine g_iload_n dX10_goesRight_60 rfl ?_
        refine g_ifeq 101 dX10_goesRight_61 (by decide) (fun c => absurd c (by decide)) (fun _ => ?_)
        refine g_aload_n dX10_goesRight_64 rfl ?_
        refine g_getr dX10_goesRight_65 k_X10_7 rfl (by decide) rfl rfl ?_
        refine g_iload_n dX10_goesRight_68 rfl ?_
        refine g_iald dX10_goesRight_69 (by decide) rfl (vp_in_nI (by omega) (by decide)) ?_
        refine g_iconst (v := 3) dX10_goesRight_70 (by decide) ?_
        refine g_icmpeq 84 dX10_goesRight_71 (by decide) (fun c71 => ?_) (fun c71 => ?_)
        · skip
          refine g_aload_n dX10_goesRight_84 rfl ?_
          refine g_getr dX10_goesRight_85 k_X10_22 rfl (by decide) rfl rfl ?_
          refine g_iload_n dX10_goesRight_88 rfl ?_
          refine g_iald dX10_goesRight_89 (by decide) rfl (vp_in_nI (by omega) (by decide)) ?_
          refine g_iload_n dX10_goesRight_90 rfl ?_
          refine g_callS2 (M' := mX10_isIn) (mc' := 0) (ms' := 0) dX10_goesRight_91 l_X10_183 s_mX10_isIn f_mX10_isIn (Nat.le_of_ble_eq_true rfl) (by decide) (ct_isIn _ (by omega)) ?_
          rintro _ _ ⟨rfl, rfl⟩
          refine g_ifeq 101 dX10_goesRight_94 (by decide) (fun c94 => ?_) (fun c94 => ?_)
          · skip
            refine g_iconst (v := 0) dX10_goesRight_101 (by decide) ?_
            exact g_ireturn dX10_goesRight_102 rfl rfl ⟨by simp_all [bI, vRight, vHasten, kIsA, vWent, eq_comm (a := (3 : Int32))], rfl⟩
          · skip
            refine g_iconst (v := 1) dX10_goesRight_97 (by decide) ?_
            refine g_goto 102 dX10_goesRight_98 (by decide) ?_
            exact g_ireturn dX10_goesRight_102 rfl rfl ⟨by simp_all [bI, vRight, vHasten, kIsA, vWent, eq_comm (a := (3 : Int32))], rfl⟩
        · skip
          refine g_aload_n dX10_goesRight_74 rfl ?_
          refine g_getr dX10_goesRight_75 k_X10_7 rfl (by decide) rfl rfl ?_
          refine g_iload_n dX10_goesRight_78 rfl ?_
          refine g_iald dX10_goesRight_79 (by decide) rfl (vp_in_nI (by omega) (by decide)) ?_
          refine g_iconst (v := 4) dX10_goesRight_80 (by decide) ?_
          refine g_icmpne 97 dX10_goesRight_81 (by decide) (fun c81 => ?_) (fun c81 => ?_)
          · skip
            refine g_iconst (v := 1) dX10_goesRight_97 (by decide) ?_
            refine g_goto 102 dX10_goesRight_98 (by decide) ?_
            exact g_ireturn dX10_goesRight_102 rfl rfl ⟨by simp_all [bI, vRight, vHasten, kIsA, vWent, eq_comm (a := (3 : Int32))], rfl⟩
          · skip
            refine g_aload_n dX10_goesRight_84 rfl ?_
            refine g_getr dX10_goesRight_85 k_X10_22 rfl (by decide) rfl rfl ?_
            refine g_iload_n dX10_goesRight_88 rfl ?_
            refine g_iald dX10_goesRight_89 (by decide) rfl (vp_in_nI (by omega) (by decide)) ?_
            refine g_iload_n dX10_goesRight_90 rfl ?_
            refine g_callS2 (M' := mX10_isIn) (mc' := 0) (ms' := 0) dX10_goesRight_91 l_X10_183 s_mX10_isIn f_mX10_isIn (Nat.le_of_ble_eq_true rfl) (by decide) (ct_isIn _ (by omega)) ?_
            rintro _ _ ⟨rfl, rfl⟩
            refine g_ifeq 101 dX10_goesRight_94 (by decide) (fun c94 => ?_) (fun c94 => ?_)
            · skip
              refine g_iconst (v := 0) dX10_goesRight_101 (by decide) ?_
              exact g_ireturn dX10_goesRight_102 rfl rfl ⟨by simp_all [bI, vRight, vHasten, kIsA, vWent, eq_comm (a := (3 : Int32))], rfl⟩
            · skip
              refine g_iconst (v := 1) dX10_goesRight_97 (by decide) ?_
              refine g_goto 102 dX10_goesRight_98 (by decide) ?_
              exact g_ireturn dX10_goesRight_102 rfl rfl ⟨by simp_all [bI, vRight, vHasten, kIsA, vWent, eq_comm (a := (3 : Int32))], rfl⟩
      · skip
        refine g_aload_n dX10_goesRight_42 rfl ?_
        refine g_getr dX10_goesRight_43 k_X10_28 rfl (by decide) rfl rfl ?_
        refine g_iload_n dX10_goesRight_46 rfl ?_
        refine g_iald dX10_goesRight_47 (by decide) rfl (vp_in_nI (by omega) (by decide)) ?_
        refine g_iconst (v := 3) dX10_goesRight_48 (by decide) ?_
        refine g_irem dX10_goesRight_49 (by decide) ?_
        refine g_iconst (v := 2) dX10_goesRight_50 (by decide) ?_
        refine g_icmpeq 58 dX10_goesRight_51 (by decide) (fun c51 => ?_) (fun c51 => ?_)
        · skip
          refine g_iconst (v := 0) dX10_goesRight_58 (by decide) ?_
          refine g_istore_n dX10_goesRight_59 (by decide) rfl rfl ?_
          refine g_iload_n dX10_goesRight_60 rfl ?_
          refine g_ifeq 101 dX10_goesRight_61 (by decide) (fun _ => ?_) (fun c => absurd c (by decide))
          refine g_iconst (v := 0) dX10_goesRight_101 (by decide) ?_
          exact g_ireturn dX10_goesRight_102 rfl rfl ⟨by simp_all [bI, vRight, vHasten, kIsA, vWent, eq_comm (a := (3 : Int32))], rfl⟩
        · skip
          refine g_iconst (v := 1) dX10_goesRight_54 (by decide) ?_
          refine g_goto 59 dX10_goesRight_55 (by decide) ?_
          refine g_istore_n dX10_goesRight_59 (by decide) rfl rfl ?_
          refine g_iload_n dX10_goesRight_60 rfl ?_
          refine g_ifeq 101 dX10_goesRight_61 (by decide) (fun c => absurd c (by decide)) (fun _ => ?_)
          refine g_aload_n dX10_goesRight_64 rfl ?_
          refine g_getr dX10_goesRight_65 k_X10_7 rfl (by decide) rfl rfl ?_
          refine g_iload_n dX10_goesRight_68 rfl ?_
          refine g_iald dX10_goesRight_69 (by decide) rfl (vp_in_nI (by omega) (by decide)) ?_
          refine g_iconst (v := 3) dX10_goesRight_70 (by decide) ?_
          refine g_icmpeq 84 dX10_goesRight_71 (by decide) (fun c71 => ?_) (fun c71 => ?_)
          · skip
            refine g_aload_n dX10_goesRight_84 rfl ?_
            refine g_getr dX10_goesRight_85 k_X10_22 rfl (by decide) rfl rfl ?_
            refine g_iload_n dX10_goesRight_88 rfl ?_
            refine g_iald dX10_goesRight_89 (by decide) rfl (vp_in_nI (by omega) (by decide)) ?_
            refine g_iload_n dX10_goesRight_90 rfl ?_
            refine g_callS2 (M' := mX10_isIn) (mc' := 0) (ms' := 0) dX10_goesRight_91 l_X10_183 s_mX10_isIn f_mX10_isIn (Nat.le_of_ble_eq_true rfl) (by decide) (ct_isIn _ (by omega)) ?_
            rintro _ _ ⟨rfl, rfl⟩
            refine g_ifeq 101 dX10_goesRight_94 (by decide) (fun c94 => ?_) (fun c94 => ?_)
            · skip
              refine g_iconst (v := 0) dX10_goesRight_101 (by decide) ?_
              exact g_ireturn dX10_goesRight_102 rfl rfl ⟨by simp_all [bI, vRight, vHasten, kIsA, vWent, eq_comm (a := (3 : Int32))], rfl⟩
            · skip
              refine g_iconst (v := 1) dX10_goesRight_97 (by decide) ?_
              refine g_goto 102 dX10_goesRight_98 (by decide) ?_
              exact g_ireturn dX10_goesRight_102 rfl rfl ⟨by simp_all [bI, vRight, vHasten, kIsA, vWent, eq_comm (a := (3 : Int32))], rfl⟩
          · skip
            refine g_aload_n dX10_goesRight_74 rfl ?_
            refine g_getr dX10_goesRight_75 k_X10_7 rfl (by decide) rfl rfl ?_
            refine g_iload_n dX10_goesRight_78 rfl ?_
            refine g_iald dX10_goesRight_79 (by decide) rfl (vp_in_nI (by omega) (by decide)) ?_
            refine g_iconst (v := 4) dX10_goesRight_80 (by decide) ?_
            refine g_icmpne 97 dX10_goesRight_81 (by decide) (fun c81 => ?_) (fun c81 => ?_)
            · skip
              refine g_iconst (v := 1) dX10_goesRight_97 (by decide) ?_
              refine g_goto 102 dX10_goesRight_98 (by decide) ?_
              exact g_ireturn dX10_goesRight_102 rfl rfl ⟨by simp_all [bI, vRight, vHasten, kIsA, vWent, eq_comm (a := (3 : Int32))], rfl⟩
            · skip
              refine g_aload_n dX10_goesRight_84 rfl ?_
              refine g_getr dX10_goesRight_85 k_X10_22 rfl (by decide) rfl rfl ?_
              refine g_iload_n dX10_goesRight_88 rfl ?_
              refine g_iald dX10_goesRight_89 (by decide) rfl (vp_in_nI (by omega) (by decide)) ?_
              refine g_iload_n dX10_goesRight_90 rfl ?_
              refine g_callS2 (M' := mX10_isIn) (mc' := 0) (ms' := 0) dX10_goesRight_91 l_X10_183 s_mX10_isIn f_mX10_isIn (Nat.le_of_ble_eq_true rfl) (by decide) (ct_isIn _ (by omega)) ?_
              rintro _ _ ⟨rfl, rfl⟩
              refine g_ifeq 101 dX10_goesRight_94 (by decide) (fun c94 => ?_) (fun c94 => ?_)
              · skip
                refine g_iconst (v := 0) dX10_goesRight_101 (by decide) ?_
                exact g_ireturn dX10_goesRight_102 rfl rfl ⟨by simp_all [bI, vRight, vHasten, kIsA, vWent, eq_comm (a := (3 : Int32))], rfl⟩
              · skip
                refine g_iconst (v := 1) dX10_goesRight_97 (by decide) ?_
                refine g_goto 102 dX10_goesRight_98 (by decide) ?_
                exact g_ireturn dX10_goesRight_102 rfl rfl ⟨by simp_all [bI, vRight, vHasten, kIsA, vWent, eq_comm (a := (3 : Int32))], rfl⟩

def mShF (hi : Nat → Nat → Int32) (N F i j : Nat) : Nat → Nat → Int32 := if vRight (vm hi N F) i j (hi 53 12) = true then upI (upI (upI (upI hi 58 i (hi 58 i ||| bitI j)) 60 i 0) 61 i (hi 61 i + 1)) 53 14 (hi 53 14 + 1) else upI (upI (upI hi 59 i (hi 59 i ||| bitI j)) 60 i (hi 60 i + 1)) 53 15 (hi 53 15 + 1)
set_option maxRecDepth 100000 in
set_option maxHeartbeats 4000000 in
theorem ct_mShown {N F : Nat} (hj : MO7 hi N F) {i j : Nat} (hi1 : i < N) (hj1 : j < N) : MC E l 5 mX10_shown [.ref 53, .int (nI i), .int (nI j)] 83 (hi, hl, RT) 0 0 (fun r h' => r = some (.int (bI (vRight (vm hi N F) i j (hi 53 12)))) ∧ h' = (mShF hi N F i j, hl, RT)) := by
  refine MC.of [some (.ref 53), some (.int (nI i)), some (.int (nI j))] (by decide) rfl (Nat.le_of_ble_eq_true rfl) ?_
  have hj0 := hj
  obtain ⟨hN8, hFN, hN, hF⟩ := hj
  have eci : (nI i).toNatClampNeg = i := nI_clamp (by omega)
  refine g_aload_n dX10_shown_0 rfl ?_
  refine g_iload_n dX10_shown_1 rfl ?_
  refine g_iload_n dX10_shown_2 rfl ?_
  refine g_callV2 (M' := mX10_goesRight) (mc' := 0) (ms' := 0) dX10_shown_3 l_X10_205 s_mX10_goesRight (by decide) rfl rfl f_mX10_goesRight (Nat.le_of_ble_eq_true rfl) (by decide) (ct_goesRight hj0 hi1 hj1) ?_
  rintro _ _ ⟨rfl, rfl⟩
  refine g_ifeq 50 dX10_shown_6 (by decide) (fun c6 => ?_) (fun c6 => ?_)
  · skip
    refine g_aload_n dX10_shown_50 rfl ?_
    refine g_getr dX10_shown_51 k_X10_25 rfl (by decide) rfl rfl ?_
    refine g_iload_n dX10_shown_54 rfl ?_
    refine g_dup2 dX10_shown_55 rfl rfl ?_
    refine g_iald dX10_shown_56 (by decide) rfl (vp_in_nI (by omega) (by decide)) ?_
    refine g_iconst (v := 1) dX10_shown_57 (by decide) ?_
    refine g_iload_n dX10_shown_58 rfl ?_
    refine g_ishl dX10_shown_59 ?_
    refine g_ior dX10_shown_60 ?_
    refine g_iast dX10_shown_61 (by decide) rfl (vp_in_nI (by omega) (by decide)) ?_
    refine g_aload_n dX10_shown_62 rfl ?_
    refine g_getr dX10_shown_63 k_X10_28 rfl (by decide) rfl rfl ?_
    refine g_iload_n dX10_shown_66 rfl ?_
    refine g_dup2 dX10_shown_67 rfl rfl ?_
    refine g_iald dX10_shown_68 (by decide) rfl (vp_in_nI (by omega) (by decide)) ?_
    refine g_iconst (v := 1) dX10_shown_69 (by decide) ?_
    refine g_iadd dX10_shown_70 ?_
    refine g_iast dX10_shown_71 (by decide) rfl (vp_in_nI (by omega) (by decide)) ?_
    refine g_aload_n dX10_shown_72 rfl ?_
    refine g_dup dX10_shown_73 rfl ?_
    refine g_geti dX10_shown_74 k_X10_152 rfl (by decide) rfl ?_
    refine g_iconst (v := 1) dX10_shown_77 (by decide) ?_
    refine g_iadd dX10_shown_78 ?_
    refine g_puti dX10_shown_79 k_X10_152 rfl (by decide) rfl rfl rfl ?_
    refine g_iconst (v := 0) dX10_shown_82 (by decide) ?_
    exact g_ireturn dX10_shown_83 rfl rfl ⟨by rw [bI_0.mp c6]; rfl, by rw [mShF, if_neg (by rw [bI_0.mp c6]; decide), eci]; rfl⟩
  · skip
    refine g_aload_n dX10_shown_9 rfl ?_
    refine g_getr dX10_shown_10 k_X10_22 rfl (by decide) rfl rfl ?_
    refine g_iload_n dX10_shown_13 rfl ?_
    refine g_dup2 dX10_shown_14 rfl rfl ?_
    refine g_iald dX10_shown_15 (by decide) rfl (vp_in_nI (by omega) (by decide)) ?_
    refine g_iconst (v := 1) dX10_shown_16 (by decide) ?_
    refine g_iload_n dX10_shown_17 rfl ?_
    refine g_ishl dX10_shown_18 ?_
    refine g_ior dX10_shown_19 ?_
    refine g_iast dX10_shown_20 (by decide) rfl (vp_in_nI (by omega) (by decide)) ?_
    refine g_aload_n dX10_shown_21 rfl ?_
    refine g_getr dX10_shown_22 k_X10_28 rfl (by decide) rfl rfl ?_
    refine g_iload_n dX10_shown_25 rfl ?_
    refine g_iconst (v := 0) dX10_shown_26 (by decide) ?_
    refine g_iast dX10_shown_27 (by decide) rfl (vp_in_nI (by omega) (by decide)) ?_
    refine g_aload_n dX10_shown_28 rfl ?_
    refine g_getr dX10_shown_29 k_X10_31 rfl (by decide) rfl rfl ?_
    refine g_iload_n dX10_shown_32 rfl ?_
    refine g_dup2 dX10_shown_33 rfl rfl ?_
    refine g_iald dX10_shown_34 (by decide) rfl (vp_in_nI (by omega) (by decide)) ?_
    refine g_iconst (v := 1) dX10_shown_35 (by decide) ?_
    refine g_iadd dX10_shown_36 ?_
    refine g_iast dX10_shown_37 (by decide) rfl (vp_in_nI (by omega) (by decide)) ?_
    refine g_aload_n dX10_shown_38 rfl ?_
    refine g_dup dX10_shown_39 rfl ?_
    refine g_geti dX10_shown_40 k_X10_149 rfl (by decide) rfl ?_
    refine g_iconst (v := 1) dX10_shown_43 (by decide) ?_
    refine g_iadd dX10_shown_44 ?_
    refine g_puti dX10_shown_45 k_X10_149 rfl (by decide) rfl rfl rfl ?_
    refine g_iconst (v := 1) dX10_shown_48 (by decide) ?_
    exact g_ireturn dX10_shown_49 rfl rfl ⟨by rw [bI_n.mp c6]; rfl, by rw [mShF, if_pos (bI_n.mp c6), eci]; rfl⟩

set_option maxRecDepth 100000 in
set_option maxHeartbeats 4000000 in
theorem ct_mContent {N F : Nat} (hj : MO7 hi N F) {i j : Nat} (hi1 : i < N) (hj1 : j < N) : MC E l 1 mX10_isContent [.ref 53, .int (nI i), .int (nI j)] 83 (hi, hl, RT) 0 0 (fun r h' => r = some (.int (bI (vCont (vm hi N F) i (vm hi N F 6 i) (vm hi N F 4 j)))) ∧ h' = (hi, hl, RT)) := by
  refine MC.of [some (.ref 53), some (.int (nI i)), some (.int (nI j))] (by decide) rfl (Nat.le_of_ble_eq_true rfl) ?_
  obtain ⟨hN8, hFN, hN, hF⟩ := hj
  have eci : (nI i).toNatClampNeg = i := nI_clamp (by omega)
  have ecj : (nI j).toNatClampNeg = j := nI_clamp (by omega)
  have m2i := m_2 (hi := hi) (F := F) hi1
  have m6i := m_6 (hi := hi) (F := F) hi1
  have m4j := m_4 (hi := hi) (F := F) hj1
  refine g_aload_n dX10_isContent_0 rfl ?_
  refine g_getr dX10_isContent_1 k_X10_7 rfl (by decide) rfl rfl ?_
  refine g_iload_n dX10_isContent_4 rfl ?_
  refine g_iald dX10_isContent_5 (by decide) rfl (vp_in_nI (by omega) (by decide)) ?_
  refine g_iconst (v := 1) dX10_isContent_6 (by decide) ?_
  refine g_icmpeq 25 dX10_isContent_7 (by decide) (fun c7 => ?_) (fun c7 => ?_)
  · skip
    refine g_iconst (v := 1) dX10_isContent_25 (by decide) ?_
    refine g_goto 30 dX10_isContent_26 (by decide) ?_
    exact g_ireturn dX10_isContent_30 rfl rfl ⟨by simp_all [bI, vCont], rfl⟩
  · skip
    refine g_aload_n dX10_isContent_10 rfl ?_
    refine g_getr dX10_isContent_11 k_X10_13 rfl (by decide) rfl rfl ?_
    refine g_iload_n dX10_isContent_14 rfl ?_
    refine g_iald dX10_isContent_15 (by decide) rfl (vp_in_nI (by omega) (by decide)) ?_
    refine g_aload_n dX10_isContent_16 rfl ?_
    refine g_getr dX10_isContent_17 k_X10_19 rfl (by decide) rfl rfl ?_
    refine g_iload_n dX10_isContent_20 rfl ?_
    refine g_iald dX10_isContent_21 (by decide) rfl (vp_in_nI (by omega) (by decide)) ?_
    refine g_icmplt 29 dX10_isContent_22 (by decide) (fun c22 => ?_) (fun c22 => ?_)
    · skip
      refine g_iconst (v := 0) dX10_isContent_29 (by decide) ?_
      exact g_ireturn dX10_isContent_30 rfl rfl ⟨by simp_all [bI, vCont], rfl⟩
    · skip
      refine g_iconst (v := 1) dX10_isContent_25 (by decide) ?_
      refine g_goto 30 dX10_isContent_26 (by decide) ?_
      exact g_ireturn dX10_isContent_30 rfl rfl ⟨by simp_all [bI, vCont], rfl⟩

def mLvF (hi : Nat → Nat → Int32) (i j : Nat) : Nat → Nat → Int32 := upI (upI hi 58 i (hi 58 i &&& (bitI j ^^^ -1))) 59 i (hi 59 i ||| bitI j)
set_option maxRecDepth 100000 in
set_option maxHeartbeats 4000000 in
theorem ct_leaves {N : Nat} (hN8 : N ≤ 8) {i j : Nat} (hi1 : i < N) (hj1 : j < N) : MC E l 1 mX10_leaves [.ref 53, .int (nI i), .int (nI j)] 83 (hi, hl, RT) 0 0 (fun r h' => r = none ∧ h' = (mLvF hi i j, hl, RT)) := by
  refine MC.of [some (.ref 53), some (.int (nI i)), some (.int (nI j))] (by decide) rfl (Nat.le_of_ble_eq_true rfl) ?_
  have eci : (nI i).toNatClampNeg = i := nI_clamp (by omega)
  refine g_aload_n dX10_leaves_0 rfl ?_
  refine g_getr dX10_leaves_1 k_X10_22 rfl (by decide) rfl rfl ?_
  refine g_iload_n dX10_leaves_4 rfl ?_
  refine g_dup2 dX10_leaves_5 rfl rfl ?_
  refine g_iald dX10_leaves_6 (by decide) rfl (vp_in_nI (by omega) (by decide)) ?_
  refine g_iconst (v := 1) dX10_leaves_7 (by decide) ?_
  refine g_iload_n dX10_leaves_8 rfl ?_
  refine g_ishl dX10_leaves_9 ?_
  refine g_iconst (v := -1) dX10_leaves_10 (by decide) ?_
  refine g_ixor dX10_leaves_11 ?_
  refine g_iand dX10_leaves_12 ?_
  refine g_iast dX10_leaves_13 (by decide) rfl (vp_in_nI (by omega) (by decide)) ?_
  refine g_aload_n dX10_leaves_14 rfl ?_
  refine g_getr dX10_leaves_15 k_X10_25 rfl (by decide) rfl rfl ?_
  refine g_iload_n dX10_leaves_18 rfl ?_
  refine g_dup2 dX10_leaves_19 rfl rfl ?_
  refine g_iald dX10_leaves_20 (by decide) rfl (vp_in_nI (by omega) (by decide)) ?_
  refine g_iconst (v := 1) dX10_leaves_21 (by decide) ?_
  refine g_iload_n dX10_leaves_22 rfl ?_
  refine g_ishl dX10_leaves_23 ?_
  refine g_ior dX10_leaves_24 ?_
  refine g_iast dX10_leaves_25 (by decide) rfl (vp_in_nI (by omega) (by decide)) ?_
  exact g_return dX10_leaves_26 rfl ⟨rfl, by rw [mLvF, eci]; rfl⟩

/-- the one is preferred to the other -/
def vPref (v : VV) (i j : Nat) : Bool := decide (vPic v j < vPic v i) || (decide (vPic v i = vPic v j) && decide (i < j))
set_option maxRecDepth 100000 in
set_option maxHeartbeats 4000000 in
theorem ct_prefers {N F : Nat} (hj : MO7 hi N F) {i j : Nat} (hi1 : i < N) (hj1 : j < N) : MC E l 2 mX10_prefers [.ref 53, .int (nI i), .int (nI j)] 83 (hi, hl, RT) 0 0 (fun r h' => r = some (.int (bI (vPref (vm hi N F) i j))) ∧ h' = (hi, hl, RT)) := by
  refine MC.of [some (.ref 53), some (.int (nI i)), some (.int (nI j))] (by decide) rfl (Nat.le_of_ble_eq_true rfl) ?_
  have hj0 := hj
  obtain ⟨hN8, hFN, hN, hF⟩ := hj
  have hij : nI j ≤ nI i ↔ j ≤ i := nI_leI (by omega) (by omega)
  refine g_aload_n dX10_prefers_0 rfl ?_
  refine g_iload_n dX10_prefers_1 rfl ?_
  refine g_callV1 (M' := mX10_picture) (mc' := 0) (ms' := 0) dX10_prefers_2 l_X10_177 s_mX10_picture (by decide) rfl rfl f_mX10_picture (Nat.le_of_ble_eq_true rfl) (by decide) (ct_mPic hj0 hi1) ?_
  rintro _ _ ⟨rfl, rfl⟩
  refine g_aload_n dX10_prefers_5 rfl ?_
  refine g_iload_n dX10_prefers_6 rfl ?_
  refine g_callV1 (M' := mX10_picture) (mc' := 0) (ms' := 0) dX10_prefers_7 l_X10_177 s_mX10_picture (by decide) rfl rfl f_mX10_picture (Nat.le_of_ble_eq_true rfl) (by decide) (ct_mPic hj0 hj1) ?_
  rintro _ _ ⟨rfl, rfl⟩
  refine g_icmpgt 31 dX10_prefers_10 (by decide) (fun c10 => ?_) (fun c10 => ?_)
  · skip
    refine g_iconst (v := 1) dX10_prefers_31 (by decide) ?_
    refine g_goto 36 dX10_prefers_32 (by decide) ?_
    exact g_ireturn dX10_prefers_36 rfl rfl ⟨by
      simp [vPref, c10, bI], rfl⟩
  · skip
    refine g_aload_n dX10_prefers_13 rfl ?_
    refine g_iload_n dX10_prefers_14 rfl ?_
    refine g_callV1 (M' := mX10_picture) (mc' := 0) (ms' := 0) dX10_prefers_15 l_X10_177 s_mX10_picture (by decide) rfl rfl f_mX10_picture (Nat.le_of_ble_eq_true rfl) (by decide) (ct_mPic hj0 hi1) ?_
    rintro _ _ ⟨rfl, rfl⟩
    refine g_aload_n dX10_prefers_18 rfl ?_
    refine g_iload_n dX10_prefers_19 rfl ?_
    refine g_callV1 (M' := mX10_picture) (mc' := 0) (ms' := 0) dX10_prefers_20 l_X10_177 s_mX10_picture (by decide) rfl rfl f_mX10_picture (Nat.le_of_ble_eq_true rfl) (by decide) (ct_mPic hj0 hj1) ?_
    rintro _ _ ⟨rfl, rfl⟩
    refine g_icmpne 35 dX10_prefers_23 (by decide) (fun c23 => ?_) (fun c23 => ?_)
    · skip
      refine g_iconst (v := 0) dX10_prefers_35 (by decide) ?_
      exact g_ireturn dX10_prefers_36 rfl rfl ⟨by
      simp [vPref, c10, c23, bI], rfl⟩
    · skip
      refine g_iload_n dX10_prefers_26 rfl ?_
      refine g_iload_n dX10_prefers_27 rfl ?_
      refine g_icmpge 35 dX10_prefers_28 (by decide) (fun c28 => ?_) (fun c28 => ?_)
      · skip
        refine g_iconst (v := 0) dX10_prefers_35 (by decide) ?_
        exact g_ireturn dX10_prefers_36 rfl rfl ⟨by
      have z : ¬ i < j := Nat.not_lt.mpr (hij.mp c28)
      simp [vPref, c10, z, bI], rfl⟩
      · skip
        refine g_iconst (v := 1) dX10_prefers_31 (by decide) ?_
        refine g_goto 36 dX10_prefers_32 (by decide) ?_
        exact g_ireturn dX10_prefers_36 rfl rfl ⟨by
      have z : i < j := Nat.lt_of_not_le (fun q => c28 (hij.mpr q))
      simp [vPref, c23, z, bI], rfl⟩

def vMay (v : VV) (i j : Nat) : Bool := vFree v i && (vFree v j && (vLikes v i j && vLikes v j i))
set_option maxRecDepth 100000 in
set_option maxHeartbeats 4000000 in
theorem ct_mayBe {N F : Nat} (hj : MO7 hi N F) {i j : Nat} (hi1 : i < N) (hj1 : j < N) : MC E l 5 mX10_mayBe [.ref 53, .int (nI i), .int (nI j)] 83 (hi, hl, RT) 0 0 (fun r h' => r = some (.int (bI (vMay (vm hi N F) i j))) ∧ h' = (hi, hl, RT)) := by
  refine MC.of [some (.ref 53), some (.int (nI i)), some (.int (nI j))] (by decide) rfl (Nat.le_of_ble_eq_true rfl) ?_
  refine g_aload_n dX10_mayBe_0 rfl ?_
  refine g_iload_n dX10_mayBe_1 rfl ?_
  refine g_callV1 (M' := mX10_isFree) (mc' := 0) (ms' := 0) dX10_mayBe_2 l_X10_214 s_mX10_isFree (by decide) rfl rfl f_mX10_isFree (Nat.le_of_ble_eq_true rfl) (by decide) (ct_mFree hj hi1) ?_
  rintro _ _ ⟨rfl, rfl⟩
  refine g_ifeq 29 dX10_mayBe_5 (by decide) (fun c5 => ?_) (fun c5 => ?_)
  · skip
    refine g_iconst (v := 0) dX10_mayBe_29 (by decide) ?_
    exact g_ireturn dX10_mayBe_30 rfl rfl ⟨by simp_all [bI, vMay], rfl⟩
  · skip
    refine g_aload_n dX10_mayBe_8 rfl ?_
    refine g_iload_n dX10_mayBe_9 rfl ?_
    refine g_callV1 (M' := mX10_isFree) (mc' := 0) (ms' := 0) dX10_mayBe_10 l_X10_214 s_mX10_isFree (by decide) rfl rfl f_mX10_isFree (Nat.le_of_ble_eq_true rfl) (by decide) (ct_mFree hj hj1) ?_
    rintro _ _ ⟨rfl, rfl⟩
    refine g_ifeq 29 dX10_mayBe_13 (by decide) (fun c13 => ?_) (fun c13 => ?_)
    · skip
      refine g_iconst (v := 0) dX10_mayBe_29 (by decide) ?_
      exact g_ireturn dX10_mayBe_30 rfl rfl ⟨by simp_all [bI, vMay], rfl⟩
    · skip
      refine g_aload_n dX10_mayBe_16 rfl ?_
      refine g_iload_n dX10_mayBe_17 rfl ?_
      refine g_iload_n dX10_mayBe_18 rfl ?_
      refine g_callV2 (M' := mX10_likeEachOther) (mc' := 0) (ms' := 0) dX10_mayBe_19 l_X10_227 s_mX10_likeEachOther (by decide) rfl rfl f_mX10_likeEachOther (Nat.le_of_ble_eq_true rfl) (by decide) (ct_likeEachOther hj hi1 hj1) ?_
      rintro _ _ ⟨rfl, rfl⟩
      refine g_ifeq 29 dX10_mayBe_22 (by decide) (fun c22 => ?_) (fun c22 => ?_)
      · skip
        refine g_iconst (v := 0) dX10_mayBe_29 (by decide) ?_
        exact g_ireturn dX10_mayBe_30 rfl rfl ⟨by simp_all [bI, vMay], rfl⟩
      · skip
        refine g_iconst (v := 1) dX10_mayBe_25 (by decide) ?_
        refine g_goto 30 dX10_mayBe_26 (by decide) ?_
        exact g_ireturn dX10_mayBe_30 rfl rfl ⟨by simp_all [bI, vMay], rfl⟩

end
