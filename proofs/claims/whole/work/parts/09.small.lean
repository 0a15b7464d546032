section
variable {E : XE} {l : Launch} {hi : Nat → Nat → Int32} {hl : Nat → Nat → Int64}

/-! small numbers, and what loops gather -/
theorem nI_inc (i : Nat) : nI i + Int32.ofInt 1 = nI (i + 1) := by
  rw [show Int32.ofInt 1 = 1 from by decide]
  exact nI_1 i
theorem ge_out {x : Int32} {i N : Nat} (hx : x = nI N) (c : x ≤ nI i) (h1 : N < 2 ^ 31) (h2 : i < 2 ^ 31) : N ≤ i := (nI_leI h1 h2).mp (hx ▸ c)
theorem lt_in {x : Int32} {i N : Nat} (hx : x = nI N) (c : ¬ x ≤ nI i) (h1 : N < 2 ^ 31) (h2 : i < 2 ^ 31) : i < N := Nat.not_le.mp (fun q => c (by rw [hx]; exact nI_le q h2))
def allB (P : Nat → Bool) : Nat → Bool
  | 0 => true
  | n + 1 => allB P n && P n
theorem allB_no {P : Nat → Bool} {i : Nat} (h : P i = false) : ∀ {n : Nat}, i < n → allB P n = false
  | 0, q => absurd q (Nat.not_lt_zero i)
  | n + 1, q => by
    rcases Nat.lt_or_ge i n with z | z
    · rw [allB, allB_no h z]; rfl
    · have : i = n := by omega
      subst this
      rw [allB, h, Bool.and_false]
def orB (P : Nat → Bool) (w : Nat → Int32) : Nat → Int32
  | 0 => 0
  | n + 1 => orB P w n ||| (if P n = true then w n else 0)
theorem or0 (x : Int32) : x ||| 0 = x := by
  cases x
  simp
theorem orB_y {P : Nat → Bool} {w : Nat → Int32} {i : Nat} (h : P i = true) : orB P w (i + 1) = orB P w i ||| w i := by rw [orB, if_pos h]
theorem orB_n {P : Nat → Bool} {w : Nat → Int32} {i : Nat} (h : P i = false) : orB P w (i + 1) = orB P w i := by rw [orB, if_neg (by rw [h]; decide), or0]
def cntB (P : Nat → Bool) : Nat → Int32
  | 0 => 0
  | n + 1 => cntB P n + bI (P n)
def sumI (f : Nat → Int32) : Nat → Int32
  | 0 => 0
  | n + 1 => sumI f n + f n
/-! draws -/
def dNext (s : Int64) : Int64 := (1103515245 * s + 12345) &&& 2147483647
def dPick (s : Int64) (a : Int32) : Int32 := if a ≤ 0 then 0 else (s / 65536 - s / 65536 / a.toInt64 * a.toInt64).toInt32
set_option maxRecDepth 100000 in
set_option maxHeartbeats 4000000 in
theorem ct_next (s : Int64) : MC E l 1 mX1_next [.long s] 83 (hi, hl, RT) 0 0 (fun r h' => r = some (.long (dNext s)) ∧ h' = (hi, hl, RT)) := by
  refine MC.of [some (.long s), none] (by decide) rfl (Nat.le_of_ble_eq_true rfl) ?_
  refine g_ldc2 dX1_next_0 c_X1_7 ?_
  refine g_lload_n dX1_next_3 rfl ?_
  refine g_lmul dX1_next_4 ?_
  refine g_ldc2 dX1_next_5 c_X1_9 ?_
  refine g_ladd dX1_next_8 ?_
  refine g_ldc2 dX1_next_9 c_X1_11 ?_
  refine g_land dX1_next_12 ?_
  exact g_lreturn dX1_next_13 rfl ⟨rfl, rfl⟩

theorem le0_of {a : Int32} (h : a.toInt64 = 0) : a ≤ 0 := by
  have h1 : a.toInt64.toInt = (0 : Int64).toInt := congrArg Int64.toInt h
  rw [Int32.toInt_toInt64] at h1
  exact Int32.le_iff_toInt_le.mpr (by rw [h1]; decide)
set_option maxRecDepth 100000 in
set_option maxHeartbeats 4000000 in
theorem ct_pick (s : Int64) (a : Int32) : MC E l 1 mX1_pick [.long s, .int a] 83 (hi, hl, RT) 0 0 (fun r h' => r = some (.int (dPick s a)) ∧ h' = (hi, hl, RT)) := by
  refine MC.of [some (.long s), none, some (.int a)] (by decide) rfl (Nat.le_of_ble_eq_true rfl) ?_
  refine g_iload_n dX1_pick_0 rfl ?_
  refine g_ifle 16 dX1_pick_1 (by decide) (fun c1 => ?_) (fun c1 => ?_)
  · skip
    refine g_iconst (v := 0) dX1_pick_16 (by decide) ?_
    exact g_ireturn dX1_pick_17 rfl rfl ⟨by rw [dPick, if_pos c1], rfl⟩
  · skip
    refine g_lload_n dX1_pick_4 rfl ?_
    refine g_ldc2 dX1_pick_5 c_X1_13 ?_
    refine g_ldiv dX1_pick_8 (by decide) ?_
    refine g_iload_n dX1_pick_9 rfl ?_
    refine g_i2l dX1_pick_10 ?_
    refine g_lrem dX1_pick_11 (fun q => c1 (le0_of q)) ?_
    refine g_l2i dX1_pick_12 ?_
    refine g_goto 17 dX1_pick_13 (by decide) ?_
    exact g_ireturn dX1_pick_17 rfl rfl ⟨by rw [dPick, if_neg c1], rfl⟩

set_option maxRecDepth 100000 in
set_option maxHeartbeats 4000000 in
theorem ct_isWithin (x a b : Int32) : MC E l 1 mX9_isWithin [.int x, .int a, .int b] 83 (hi, hl, RT) 0 0 (fun r h' => r = some (.int (bI (!decide (x < a) && !decide (b < x)))) ∧ h' = (hi, hl, RT)) := by
  refine MC.of [some (.int x), some (.int a), some (.int b)] (by decide) rfl (Nat.le_of_ble_eq_true rfl) ?_
  refine g_iload_n dX9_isWithin_0 rfl ?_
  refine g_iload_n dX9_isWithin_1 rfl ?_
  refine g_icmplt 14 dX9_isWithin_2 (by decide) (fun c2 => ?_) (fun c2 => ?_)
  · skip
    refine g_iconst (v := 0) dX9_isWithin_14 (by decide) ?_
    exact g_ireturn dX9_isWithin_15 rfl rfl ⟨by simp_all [bI], rfl⟩
  · skip
    refine g_iload_n dX9_isWithin_5 rfl ?_
    refine g_iload_n dX9_isWithin_6 rfl ?_
    refine g_icmpgt 14 dX9_isWithin_7 (by decide) (fun c7 => ?_) (fun c7 => ?_)
    · skip
      refine g_iconst (v := 0) dX9_isWithin_14 (by decide) ?_
      exact g_ireturn dX9_isWithin_15 rfl rfl ⟨by simp_all [bI], rfl⟩
    · skip
      refine g_iconst (v := 1) dX9_isWithin_10 (by decide) ?_
      refine g_goto 15 dX9_isWithin_11 (by decide) ?_
      exact g_ireturn dX9_isWithin_15 rfl rfl ⟨by simp_all [bI], rfl⟩

set_option maxRecDepth 100000 in
set_option maxHeartbeats 4000000 in
theorem ct_isLimit (x : Int32) : MC E l 2 mX9_isLimit [.int x] 83 (hi, hl, RT) 0 0 (fun r h' => r = some (.int (bI (!decide (x < 1) && !decide (9 < x)))) ∧ h' = (hi, hl, RT)) := by
  refine MC.of [some (.int x)] (by decide) rfl (Nat.le_of_ble_eq_true rfl) ?_
  refine g_iload_n dX9_isLimit_0 rfl ?_
  refine g_iconst (v := 1) dX9_isLimit_1 (by decide) ?_
  refine g_bipush (v := 9) dX9_isLimit_2 (by decide) ?_
  refine g_callS3 (M' := mX9_isWithin) (mc' := 0) (ms' := 0) dX9_isLimit_4 l_X9_40 s_mX9_isWithin f_mX9_isWithin (Nat.le_of_ble_eq_true rfl) (by decide) (ct_isWithin _ _ _) ?_
  rintro _ _ ⟨rfl, rfl⟩
  exact g_ireturn dX9_isLimit_7 rfl (bI_nar _) ⟨rfl, rfl⟩

set_option maxRecDepth 100000 in
set_option maxHeartbeats 4000000 in
theorem ct_isOthers (x : Int32) : MC E l 2 mX8_isOthers [.int x] 83 (hi, hl, RT) 0 0 (fun r h' => r = some (.int (bI (!decide (x < 2) && !decide (8 < x)))) ∧ h' = (hi, hl, RT)) := by
  refine MC.of [some (.int x)] (by decide) rfl (Nat.le_of_ble_eq_true rfl) ?_
  refine g_iload_n dX8_isOthers_0 rfl ?_
  refine g_iconst (v := 2) dX8_isOthers_1 (by decide) ?_
  refine g_bipush (v := 8) dX8_isOthers_2 (by decide) ?_
  refine g_callSN3 (M' := mX9_isWithin) (mc' := 0) (ms' := 0) dX8_isOthers_4 l_X8_9 s_mX9_isWithin f_mX9_isWithin (Nat.le_of_ble_eq_true rfl) (by decide) (ct_isWithin _ _ _) ?_
  rintro _ _ ⟨rfl, rfl⟩
  exact g_ireturn dX8_isOthers_7 rfl (bI_nar _) ⟨rfl, rfl⟩

set_option maxRecDepth 100000 in
set_option maxHeartbeats 4000000 in
theorem ct_partsOfAll (x : Int32) : MC E l 1 mX8_partsOfAll [.int x] 83 (hi, hl, RT) 0 0 (fun r h' => r = some (.int (x * 420)) ∧ h' = (hi, hl, RT)) := by
  refine MC.of [some (.int x)] (by decide) rfl (Nat.le_of_ble_eq_true rfl) ?_
  refine g_iload_n dX8_partsOfAll_0 rfl ?_
  refine g_sipush (v := 420) dX8_partsOfAll_1 (by decide) ?_
  refine g_imul dX8_partsOfAll_4 ?_
  exact g_ireturn dX8_partsOfAll_5 rfl rfl ⟨rfl, rfl⟩

set_option maxRecDepth 100000 in
set_option maxHeartbeats 4000000 in
theorem ct_isNumber (x : Int32) : MC E l 1 mX2_isNumber [.int x] 83 (hi, hl, RT) 0 0 (fun r h' => r = some (.int (bI (!decide (x < 0) && !decide (5 ≤ x)))) ∧ h' = (hi, hl, RT)) := by
  refine MC.of [some (.int x)] (by decide) rfl (Nat.le_of_ble_eq_true rfl) ?_
  refine g_iload_n dX2_isNumber_0 rfl ?_
  refine g_iflt 16 dX2_isNumber_1 (by decide) (fun c1 => ?_) (fun c1 => ?_)
  · skip
    refine g_iconst (v := 0) dX2_isNumber_16 (by decide) ?_
    exact g_ireturn dX2_isNumber_17 rfl rfl ⟨by simp_all [bI], rfl⟩
  · skip
    refine g_iload_n dX2_isNumber_4 rfl ?_
    refine g_getsA dX2_isNumber_5 k_X2_45 ?_
    refine g_alenA dX2_isNumber_8 ?_
    refine g_icmpge 16 dX2_isNumber_9 (by decide) (fun c9 => ?_) (fun c9 => ?_)
    · skip
      refine g_iconst (v := 0) dX2_isNumber_16 (by decide) ?_
      exact g_ireturn dX2_isNumber_17 rfl rfl ⟨by simp_all [bI], rfl⟩
    · skip
      refine g_iconst (v := 1) dX2_isNumber_12 (by decide) ?_
      refine g_goto 17 dX2_isNumber_13 (by decide) ?_
      exact g_ireturn dX2_isNumber_17 rfl rfl ⟨by simp_all [bI], rfl⟩

def kLet (x : Int32) : Bool := decide (111 = x) || (decide (101 = x) || (decide (104 = x) || (decide (115 = x) || decide (103 = x))))
def kOf (x : Int32) : Nat := if 111 = x then 0 else if 101 = x then 1 else if 104 = x then 2 else if 115 = x then 3 else if 103 = x then 4 else 0
set_option maxRecDepth 100000 in
set_option maxHeartbeats 4000000 in
theorem ct_isLetter (x : Int32) : MC E l 1 mX2_isLetter [.int x] 83 (hi, hl, RT) 0 0 (fun r h' => r = some (.int (bI (kLet x))) ∧ h' = (hi, hl, RT)) := by
  refine MC.of [some (.int x), none] (by decide) rfl (Nat.le_of_ble_eq_true rfl) ?_
  refine g_iconst (v := 0) dX2_isLetter_0 (by decide) ?_
  refine g_istore_n dX2_isLetter_1 (by decide) rfl rfl ?_
  refine g_iload_n dX2_isLetter_2 rfl ?_
  refine g_getsA dX2_isLetter_3 k_X2_45 ?_
  refine g_alenA dX2_isLetter_6 ?_
  refine g_icmpge 30 dX2_isLetter_7 (by decide) (fun c => absurd c (by decide)) (fun _ => ?_)
  refine g_getsA dX2_isLetter_10 k_X2_45 ?_
  refine g_iload_n dX2_isLetter_13 rfl ?_
  refine g_aldA (i := 0) dX2_isLetter_14 (by decide) rfl ?_
  refine g_getn (f := 1) dX2_isLetter_15 (by decide) rfl k_X2_42 ?_
  refine g_iload_n dX2_isLetter_18 rfl ?_
  refine g_icmpne 24 dX2_isLetter_19 (by decide) (fun c19 => ?_) (fun c19 => ?_)
  · skip
    refine g_iinc (v := 1) dX2_isLetter_24 rfl (by decide) (by decide) rfl rfl ?_
    refine g_goto 2 dX2_isLetter_27 (by decide) ?_
    refine g_iload_n dX2_isLetter_2 rfl ?_
    refine g_getsA dX2_isLetter_3 k_X2_45 ?_
    refine g_alenA dX2_isLetter_6 ?_
    refine g_icmpge 30 dX2_isLetter_7 (by decide) (fun c => absurd c (by decide)) (fun _ => ?_)
    refine g_getsA dX2_isLetter_10 k_X2_45 ?_
    refine g_iload_n dX2_isLetter_13 rfl ?_
    refine g_aldA (i := 1) dX2_isLetter_14 (by decide) rfl ?_
    refine g_getn (f := 1) dX2_isLetter_15 (by decide) rfl k_X2_42 ?_
    refine g_iload_n dX2_isLetter_18 rfl ?_
    refine g_icmpne 24 dX2_isLetter_19 (by decide) (fun c19 => ?_) (fun c19 => ?_)
    · skip
      refine g_iinc (v := 2) dX2_isLetter_24 rfl (by decide) (by decide) rfl rfl ?_
      refine g_goto 2 dX2_isLetter_27 (by decide) ?_
      refine g_iload_n dX2_isLetter_2 rfl ?_
      refine g_getsA dX2_isLetter_3 k_X2_45 ?_
      refine g_alenA dX2_isLetter_6 ?_
      refine g_icmpge 30 dX2_isLetter_7 (by decide) (fun c => absurd c (by decide)) (fun _ => ?_)
      refine g_getsA dX2_isLetter_10 k_X2_45 ?_
      refine g_iload_n dX2_isLetter_13 rfl ?_
      refine g_aldA (i := 2) dX2_isLetter_14 (by decide) rfl ?_
      refine g_getn (f := 1) dX2_isLetter_15 (by decide) rfl k_X2_42 ?_
      refine g_iload_n dX2_isLetter_18 rfl ?_
      refine g_icmpne 24 dX2_isLetter_19 (by decide) (fun c19 => ?_) (fun c19 => ?_)
      · skip
        refine g_iinc (v := 3) dX2_isLetter_24 rfl (by decide) (by decide) rfl rfl ?_
        refine g_goto 2 dX2_isLetter_27 (by decide) ?_
        refine g_iload_n dX2_isLetter_2 rfl ?_
        refine g_getsA dX2_isLetter_3 k_X2_45 ?_
        refine g_alenA dX2_isLetter_6 ?_
        refine g_icmpge 30 dX2_isLetter_7 (by decide) (fun c => absurd c (by decide)) (fun _ => ?_)
        refine g_getsA dX2_isLetter_10 k_X2_45 ?_
        refine g_iload_n dX2_isLetter_13 rfl ?_
        refine g_aldA (i := 3) dX2_isLetter_14 (by decide) rfl ?_
        refine g_getn (f := 1) dX2_isLetter_15 (by decide) rfl k_X2_42 ?_
        refine g_iload_n dX2_isLetter_18 rfl ?_
        refine g_icmpne 24 dX2_isLetter_19 (by decide) (fun c19 => ?_) (fun c19 => ?_)
        · skip
          refine g_iinc (v := 4) dX2_isLetter_24 rfl (by decide) (by decide) rfl rfl ?_
          refine g_goto 2 dX2_isLetter_27 (by decide) ?_
          refine g_iload_n dX2_isLetter_2 rfl ?_
          refine g_getsA dX2_isLetter_3 k_X2_45 ?_
          refine g_alenA dX2_isLetter_6 ?_
          refine g_icmpge 30 dX2_isLetter_7 (by decide) (fun c => absurd c (by decide)) (fun _ => ?_)
          refine g_getsA dX2_isLetter_10 k_X2_45 ?_
          refine g_iload_n dX2_isLetter_13 rfl ?_
          refine g_aldA (i := 4) dX2_isLetter_14 (by decide) rfl ?_
          refine g_getn (f := 1) dX2_isLetter_15 (by decide) rfl k_X2_42 ?_
          refine g_iload_n dX2_isLetter_18 rfl ?_
          refine g_icmpne 24 dX2_isLetter_19 (by decide) (fun c19 => ?_) (fun c19 => ?_)
          · skip
            refine g_iinc (v := 5) dX2_isLetter_24 rfl (by decide) (by decide) rfl rfl ?_
            refine g_goto 2 dX2_isLetter_27 (by decide) ?_
            refine g_iload_n dX2_isLetter_2 rfl ?_
            refine g_getsA dX2_isLetter_3 k_X2_45 ?_
            refine g_alenA dX2_isLetter_6 ?_
            refine g_icmpge 30 dX2_isLetter_7 (by decide) (fun _ => ?_) (fun c => absurd c (by decide))
            refine g_iconst (v := 0) dX2_isLetter_30 (by decide) ?_
            exact g_ireturn dX2_isLetter_31 rfl rfl ⟨by simp_all [bI, kLet], rfl⟩
          · skip
            refine g_iconst (v := 1) dX2_isLetter_22 (by decide) ?_
            exact g_ireturn dX2_isLetter_23 rfl rfl ⟨by simp_all [bI, kLet], rfl⟩
        · skip
          refine g_iconst (v := 1) dX2_isLetter_22 (by decide) ?_
          exact g_ireturn dX2_isLetter_23 rfl rfl ⟨by simp_all [bI, kLet], rfl⟩
      · skip
        refine g_iconst (v := 1) dX2_isLetter_22 (by decide) ?_
        exact g_ireturn dX2_isLetter_23 rfl rfl ⟨by simp_all [bI, kLet], rfl⟩
    · skip
      refine g_iconst (v := 1) dX2_isLetter_22 (by decide) ?_
      exact g_ireturn dX2_isLetter_23 rfl rfl ⟨by simp_all [bI, kLet], rfl⟩
  · skip
    refine g_iconst (v := 1) dX2_isLetter_22 (by decide) ?_
    exact g_ireturn dX2_isLetter_23 rfl rfl ⟨by simp_all [bI, kLet], rfl⟩

set_option maxRecDepth 100000 in
set_option maxHeartbeats 4000000 in
theorem ct_ofLetter (x : Int32) : MC E l 1 mX2_ofLetter [.int x] 83 (hi, hl, RT) 0 0 (fun r h' => r = some (.ref (1000 + kOf x)) ∧ h' = (hi, hl, RT)) := by
  refine MC.of [some (.int x), none] (by decide) rfl (Nat.le_of_ble_eq_true rfl) ?_
  refine g_iconst (v := 0) dX2_ofLetter_0 (by decide) ?_
  refine g_istore_n dX2_ofLetter_1 (by decide) rfl rfl ?_
  refine g_iload_n dX2_ofLetter_2 rfl ?_
  refine g_getsA dX2_ofLetter_3 k_X2_45 ?_
  refine g_alenA dX2_ofLetter_6 ?_
  refine g_icmpge 34 dX2_ofLetter_7 (by decide) (fun c => absurd c (by decide)) (fun _ => ?_)
  refine g_getsA dX2_ofLetter_10 k_X2_45 ?_
  refine g_iload_n dX2_ofLetter_13 rfl ?_
  refine g_aldA (i := 0) dX2_ofLetter_14 (by decide) rfl ?_
  refine g_getn (f := 1) dX2_ofLetter_15 (by decide) rfl k_X2_42 ?_
  refine g_iload_n dX2_ofLetter_18 rfl ?_
  refine g_icmpne 28 dX2_ofLetter_19 (by decide) (fun c19 => ?_) (fun c19 => ?_)
  · skip
    refine g_iinc (v := 1) dX2_ofLetter_28 rfl (by decide) (by decide) rfl rfl ?_
    refine g_goto 2 dX2_ofLetter_31 (by decide) ?_
    refine g_iload_n dX2_ofLetter_2 rfl ?_
    refine g_getsA dX2_ofLetter_3 k_X2_45 ?_
    refine g_alenA dX2_ofLetter_6 ?_
    refine g_icmpge 34 dX2_ofLetter_7 (by decide) (fun c => absurd c (by decide)) (fun _ => ?_)
    refine g_getsA dX2_ofLetter_10 k_X2_45 ?_
    refine g_iload_n dX2_ofLetter_13 rfl ?_
    refine g_aldA (i := 1) dX2_ofLetter_14 (by decide) rfl ?_
    refine g_getn (f := 1) dX2_ofLetter_15 (by decide) rfl k_X2_42 ?_
    refine g_iload_n dX2_ofLetter_18 rfl ?_
    refine g_icmpne 28 dX2_ofLetter_19 (by decide) (fun c19 => ?_) (fun c19 => ?_)
    · skip
      refine g_iinc (v := 2) dX2_ofLetter_28 rfl (by decide) (by decide) rfl rfl ?_
      refine g_goto 2 dX2_ofLetter_31 (by decide) ?_
      refine g_iload_n dX2_ofLetter_2 rfl ?_
      refine g_getsA dX2_ofLetter_3 k_X2_45 ?_
      refine g_alenA dX2_ofLetter_6 ?_
      refine g_icmpge 34 dX2_ofLetter_7 (by decide) (fun c => absurd c (by decide)) (fun _ => ?_)
      refine g_getsA dX2_ofLetter_10 k_X2_45 ?_
      refine g_iload_n dX2_ofLetter_13 rfl ?_
      refine g_aldA (i := 2) dX2_ofLetter_14 (by decide) rfl ?_
      refine g_getn (f := 1) dX2_ofLetter_15 (by decide) rfl k_X2_42 ?_
      refine g_iload_n dX2_ofLetter_18 rfl ?_
      refine g_icmpne 28 dX2_ofLetter_19 (by decide) (fun c19 => ?_) (fun c19 => ?_)
      · skip
        refine g_iinc (v := 3) dX2_ofLetter_28 rfl (by decide) (by decide) rfl rfl ?_
        refine g_goto 2 dX2_ofLetter_31 (by decide) ?_
        refine g_iload_n dX2_ofLetter_2 rfl ?_
        refine g_getsA dX2_ofLetter_3 k_X2_45 ?_
        refine g_alenA dX2_ofLetter_6 ?_
        refine g_icmpge 34 dX2_ofLetter_7 (by decide) (fun c => absurd c (by decide)) (fun _ => ?_)
        refine g_getsA dX2_ofLetter_10 k_X2_45 ?_
        refine g_iload_n dX2_ofLetter_13 rfl ?_
        refine g_aldA (i := 3) dX2_ofLetter_14 (by decide) rfl ?_
        refine g_getn (f := 1) dX2_ofLetter_15 (by decide) rfl k_X2_42 ?_
        refine g_iload_n dX2_ofLetter_18 rfl ?_
        refine g_icmpne 28 dX2_ofLetter_19 (by decide) (fun c19 => ?_) (fun c19 => ?_)
        · skip
          refine g_iinc (v := 4) dX2_ofLetter_28 rfl (by decide) (by decide) rfl rfl ?_
          refine g_goto 2 dX2_ofLetter_31 (by decide) ?_
          refine g_iload_n dX2_ofLetter_2 rfl ?_
          refine g_getsA dX2_ofLetter_3 k_X2_45 ?_
          refine g_alenA dX2_ofLetter_6 ?_
          refine g_icmpge 34 dX2_ofLetter_7 (by decide) (fun c => absurd c (by decide)) (fun _ => ?_)
          refine g_getsA dX2_ofLetter_10 k_X2_45 ?_
          refine g_iload_n dX2_ofLetter_13 rfl ?_
          refine g_aldA (i := 4) dX2_ofLetter_14 (by decide) rfl ?_
          refine g_getn (f := 1) dX2_ofLetter_15 (by decide) rfl k_X2_42 ?_
          refine g_iload_n dX2_ofLetter_18 rfl ?_
          refine g_icmpne 28 dX2_ofLetter_19 (by decide) (fun c19 => ?_) (fun c19 => ?_)
          · skip
            refine g_iinc (v := 5) dX2_ofLetter_28 rfl (by decide) (by decide) rfl rfl ?_
            refine g_goto 2 dX2_ofLetter_31 (by decide) ?_
            refine g_iload_n dX2_ofLetter_2 rfl ?_
            refine g_getsA dX2_ofLetter_3 k_X2_45 ?_
            refine g_alenA dX2_ofLetter_6 ?_
            refine g_icmpge 34 dX2_ofLetter_7 (by decide) (fun _ => ?_) (fun c => absurd c (by decide))
            refine g_getsK (i := 0) dX2_ofLetter_34 (by decide) rfl k_X2_3 ?_
            exact g_areturn dX2_ofLetter_37 rfl ⟨by simp_all [kOf], rfl⟩
          · skip
            refine g_getsA dX2_ofLetter_22 k_X2_45 ?_
            refine g_iload_n dX2_ofLetter_25 rfl ?_
            refine g_aldA (i := 4) dX2_ofLetter_26 (by decide) rfl ?_
            exact g_areturn dX2_ofLetter_27 rfl ⟨by simp_all [kOf], rfl⟩
        · skip
          refine g_getsA dX2_ofLetter_22 k_X2_45 ?_
          refine g_iload_n dX2_ofLetter_25 rfl ?_
          refine g_aldA (i := 3) dX2_ofLetter_26 (by decide) rfl ?_
          exact g_areturn dX2_ofLetter_27 rfl ⟨by simp_all [kOf], rfl⟩
      · skip
        refine g_getsA dX2_ofLetter_22 k_X2_45 ?_
        refine g_iload_n dX2_ofLetter_25 rfl ?_
        refine g_aldA (i := 2) dX2_ofLetter_26 (by decide) rfl ?_
        exact g_areturn dX2_ofLetter_27 rfl ⟨by simp_all [kOf], rfl⟩
    · skip
      refine g_getsA dX2_ofLetter_22 k_X2_45 ?_
      refine g_iload_n dX2_ofLetter_25 rfl ?_
      refine g_aldA (i := 1) dX2_ofLetter_26 (by decide) rfl ?_
      exact g_areturn dX2_ofLetter_27 rfl ⟨by simp_all [kOf], rfl⟩
  · skip
    refine g_getsA dX2_ofLetter_22 k_X2_45 ?_
    refine g_iload_n dX2_ofLetter_25 rfl ?_
    refine g_aldA (i := 0) dX2_ofLetter_26 (by decide) rfl ?_
    exact g_areturn dX2_ofLetter_27 rfl ⟨by simp_all [kOf], rfl⟩

/-! the page -/
def PL (hi : Nat → Nat → Int32) : Prop := ∃ L : Nat, L ≤ 41 ∧ hi 1 1 = nI L
def lAt (hi : Nat → Nat → Int32) (x : Int32) : Int32 := if x < 0 then -1 else if hi 1 1 ≤ x then -1 else hi 2 x.toNatClampNeg
theorem vin_of {x y : Int32} {L n : Nat} (hy : y = nI L) (hL : L ≤ n) (hn : n < 2 ^ 31) (h0 : ¬ x < 0) (h1 : ¬ y ≤ x) : vp_in x n := by
  obtain ⟨j, hj, rfl⟩ := nI_of h0
  have := lt_in hy h1 (by omega) hj
  exact vp_in_nI (by omega) hn
set_option maxRecDepth 100000 in
set_option maxHeartbeats 4000000 in
theorem ct_letterAt (x : Int32) (hL : PL hi) : MC E l 1 mX4_letterAt [.ref 1, .int x] 83 (hi, hl, RT) 0 0 (fun r h' => r = some (.int (lAt hi x)) ∧ h' = (hi, hl, RT)) := by
  refine MC.of [some (.ref 1), some (.int x)] (by decide) rfl (Nat.le_of_ble_eq_true rfl) ?_
  obtain ⟨L, hL1, hL2⟩ := hL
  refine g_iload_n dX4_letterAt_0 rfl ?_
  refine g_iflt 21 dX4_letterAt_1 (by decide) (fun c1 => ?_) (fun c1 => ?_)
  · skip
    refine g_iconst (v := -1) dX4_letterAt_21 (by decide) ?_
    exact g_ireturn dX4_letterAt_22 rfl rfl ⟨by rw [lAt, if_pos c1], rfl⟩
  · skip
    refine g_iload_n dX4_letterAt_4 rfl ?_
    refine g_aload_n dX4_letterAt_5 rfl ?_
    refine g_geti dX4_letterAt_6 k_X4_15 rfl (by decide) rfl ?_
    refine g_icmpge 21 dX4_letterAt_9 (by decide) (fun c9 => ?_) (fun c9 => ?_)
    · skip
      refine g_iconst (v := -1) dX4_letterAt_21 (by decide) ?_
      exact g_ireturn dX4_letterAt_22 rfl rfl ⟨by rw [lAt, if_neg c1, if_pos c9], rfl⟩
    · skip
      refine g_aload_n dX4_letterAt_12 rfl ?_
      refine g_getr dX4_letterAt_13 k_X4_9 rfl (by decide) rfl rfl ?_
      refine g_iload_n dX4_letterAt_16 rfl ?_
      refine g_iald dX4_letterAt_17 (by decide) rfl (vin_of hL2 hL1 (by decide) c1 c9) ?_
      refine g_goto 22 dX4_letterAt_18 (by decide) ?_
      exact g_ireturn dX4_letterAt_22 rfl rfl ⟨by rw [lAt, if_neg c1, if_neg c9], rfl⟩

set_option maxRecDepth 100000 in
set_option maxHeartbeats 4000000 in
theorem ct_digitAt (x : Int32) (hL : PL hi) : MC E l 2 mX4_digitAt [.ref 1, .int x] 83 (hi, hl, RT) 0 0 (fun r h' => r = some (.int (lAt hi x - 48)) ∧ h' = (hi, hl, RT)) := by
  refine MC.of [some (.ref 1), some (.int x)] (by decide) rfl (Nat.le_of_ble_eq_true rfl) ?_
  refine g_aload_n dX4_digitAt_0 rfl ?_
  refine g_iload_n dX4_digitAt_1 rfl ?_
  refine g_callV1 (M' := mX4_letterAt) (mc' := 0) (ms' := 0) dX4_digitAt_2 l_X4_19 s_mX4_letterAt (by decide) rfl rfl f_mX4_letterAt (Nat.le_of_ble_eq_true rfl) (by decide) (ct_letterAt _ hL) ?_
  rintro _ _ ⟨rfl, rfl⟩
  refine g_bipush (v := 48) dX4_digitAt_5 (by decide) ?_
  refine g_isub dX4_digitAt_7 ?_
  exact g_ireturn dX4_digitAt_8 rfl rfl ⟨rfl, rfl⟩

set_option maxRecDepth 100000 in
set_option maxHeartbeats 4000000 in
theorem ct_endsSideAt (x : Int32) (hL : PL hi) : MC E l 2 mX4_endsSideAt [.ref 1, .int x] 83 (hi, hl, RT) 0 0 (fun r h' => r = some (.int (bI (decide (lAt hi x = 59)))) ∧ h' = (hi, hl, RT)) := by
  refine MC.of [some (.ref 1), some (.int x)] (by decide) rfl (Nat.le_of_ble_eq_true rfl) ?_
  refine g_aload_n dX4_endsSideAt_0 rfl ?_
  refine g_iload_n dX4_endsSideAt_1 rfl ?_
  refine g_callV1 (M' := mX4_letterAt) (mc' := 0) (ms' := 0) dX4_endsSideAt_2 l_X4_19 s_mX4_letterAt (by decide) rfl rfl f_mX4_letterAt (Nat.le_of_ble_eq_true rfl) (by decide) (ct_letterAt _ hL) ?_
  rintro _ _ ⟨rfl, rfl⟩
  refine g_bipush (v := 59) dX4_endsSideAt_5 (by decide) ?_
  refine g_icmpne 14 dX4_endsSideAt_7 (by decide) (fun c7 => ?_) (fun c7 => ?_)
  · skip
    refine g_iconst (v := 0) dX4_endsSideAt_14 (by decide) ?_
    exact g_ireturn dX4_endsSideAt_15 rfl rfl ⟨by simp_all [bI], rfl⟩
  · skip
    refine g_iconst (v := 1) dX4_endsSideAt_10 (by decide) ?_
    refine g_goto 15 dX4_endsSideAt_11 (by decide) ?_
    exact g_ireturn dX4_endsSideAt_15 rfl rfl ⟨by simp_all [bI], rfl⟩

set_option maxRecDepth 100000 in
set_option maxHeartbeats 4000000 in
theorem ct_pclear  : MC E l 1 mX4_clear [.ref 1] 83 (hi, hl, RT) 0 0 (fun r h' => r = none ∧ h' = (upI hi 1 1 0, hl, RT)) := by
  refine MC.of [some (.ref 1)] (by decide) rfl (Nat.le_of_ble_eq_true rfl) ?_
  refine g_aload_n dX4_clear_0 rfl ?_
  refine g_iconst (v := 0) dX4_clear_1 (by decide) ?_
  refine g_puti dX4_clear_2 k_X4_15 rfl (by decide) rfl rfl rfl ?_
  exact g_return dX4_clear_5 rfl ⟨rfl, rfl⟩

set_option maxRecDepth 100000 in
set_option maxHeartbeats 4000000 in
theorem ct_padd (x : Int32) {L : Nat} (hL1 : L ≤ 41) (hL2 : hi 1 1 = nI L) : MC E l 1 mX4_add [.ref 1, .int x] 83 (hi, hl, RT) 0 0 (fun r h' => (L = 41 ∧ r = some (.int 0) ∧ h' = (hi, hl, RT)) ∨ (L < 41 ∧ r = some (.int 1) ∧ h' = (upI (upI hi 2 L x) 1 1 (nI (L + 1)), hl, RT))) := by
  refine MC.of [some (.ref 1), some (.int x)] (by decide) rfl (Nat.le_of_ble_eq_true rfl) ?_
  refine g_aload_n dX4_add_0 rfl ?_
  refine g_geti dX4_add_1 k_X4_15 rfl (by decide) rfl ?_
  refine g_aload_n dX4_add_4 rfl ?_
  refine g_getr dX4_add_5 k_X4_9 rfl (by decide) rfl rfl ?_
  refine g_alen dX4_add_8 (by decide) rfl (Or.inl rfl) ?_
  refine g_icmplt 14 dX4_add_9 (by decide) (fun c9 => ?_) (fun c9 => ?_)
  · skip
    have hlt : L < 41 := (nI_ltI (by omega) (by decide)).mp (hL2 ▸ c9)
    refine g_aload_n dX4_add_14 rfl ?_
    refine g_getr dX4_add_15 k_X4_9 rfl (by decide) rfl rfl ?_
    refine g_aload_n dX4_add_18 rfl ?_
    refine g_geti dX4_add_19 k_X4_15 rfl (by decide) rfl ?_
    refine g_iload_n dX4_add_22 rfl ?_
    refine g_iast dX4_add_23 (by decide) rfl (by show vp_in (hi 1 1) 41; rw [hL2]; exact vp_in_nI (by assumption) (by decide)) ?_
    refine g_aload_n dX4_add_24 rfl ?_
    refine g_dup dX4_add_25 rfl ?_
    refine g_geti dX4_add_26 k_X4_15 rfl (by decide) rfl ?_
    refine g_iconst (v := 1) dX4_add_29 (by decide) ?_
    refine g_iadd dX4_add_30 ?_
    refine g_puti dX4_add_31 k_X4_15 rfl (by decide) rfl rfl rfl ?_
    refine g_iconst (v := 1) dX4_add_34 (by decide) ?_
    exact g_ireturn dX4_add_35 rfl rfl (Or.inr ⟨hlt, rfl, by
      have e1 : (hi 1 1).toNatClampNeg = L := by rw [hL2]; exact nI_clamp (by omega)
      have e2 : upI hi 2 L x 1 1 = nI L := (upI_a (by decide)).trans hL2
      show ((upI (upI hi 2 (hi 1 1).toNatClampNeg x) 1 1 (upI hi 2 (hi 1 1).toNatClampNeg x 1 1 + 1), hl, RT) : XH) = _
      rw [e1, e2, nI_1]⟩)
  · skip
    have hge : ¬ L < 41 := fun q => c9 (by show hi 1 1 < nI 41; rw [hL2]; exact nI_lt q (by decide))
    refine g_iconst (v := 0) dX4_add_12 (by decide) ?_
    exact g_ireturn dX4_add_13 rfl rfl (Or.inl ⟨by omega, rfl, rfl⟩)

def pFit (w x : Int32) : Bool := if w = 0 then kLet x else !decide (x - 48 < 0) && !decide ((if w = 2 then 3 else 9) < x - 48)
set_option maxRecDepth 100000 in
set_option maxHeartbeats 4000000 in
theorem ct_fitsPerson (w x : Int32) : MC E l 2 mX4_fitsPerson [.int w, .int x] 83 (hi, hl, RT) 0 0 (fun r h' => r = some (.int (bI (pFit w x))) ∧ h' = (hi, hl, RT)) := by
  refine MC.of [some (.int w), some (.int x), none] (by decide) rfl (Nat.le_of_ble_eq_true rfl) ?_
  refine g_iload_n dX4_fitsPerson_0 rfl ?_
  refine g_ifne 9 dX4_fitsPerson_1 (by decide) (fun c1 => ?_) (fun c1 => ?_)
  · skip
    refine g_iload_n dX4_fitsPerson_9 rfl ?_
    refine g_iconst (v := 2) dX4_fitsPerson_10 (by decide) ?_
    refine g_icmpne 18 dX4_fitsPerson_11 (by decide) (fun c11 => ?_) (fun c11 => ?_)
    · skip
      refine g_bipush (v := 9) dX4_fitsPerson_18 (by decide) ?_
      refine g_istore_n dX4_fitsPerson_20 (by decide) rfl rfl ?_
      refine g_iload_n dX4_fitsPerson_21 rfl ?_
      refine g_bipush (v := 48) dX4_fitsPerson_22 (by decide) ?_
      refine g_isub dX4_fitsPerson_24 ?_
      refine g_iconst (v := 0) dX4_fitsPerson_25 (by decide) ?_
      refine g_iload_n dX4_fitsPerson_26 rfl ?_
      refine g_callSN3 (M' := mX9_isWithin) (mc' := 0) (ms' := 0) dX4_fitsPerson_27 l_X4_44 s_mX9_isWithin f_mX9_isWithin (Nat.le_of_ble_eq_true rfl) (by decide) (ct_isWithin _ _ _) ?_
      rintro _ _ ⟨rfl, rfl⟩
      exact g_ireturn dX4_fitsPerson_30 rfl (bI_nar _) ⟨by simp_all [pFit], rfl⟩
    · skip
      refine g_iconst (v := 3) dX4_fitsPerson_14 (by decide) ?_
      refine g_goto 20 dX4_fitsPerson_15 (by decide) ?_
      refine g_istore_n dX4_fitsPerson_20 (by decide) rfl rfl ?_
      refine g_iload_n dX4_fitsPerson_21 rfl ?_
      refine g_bipush (v := 48) dX4_fitsPerson_22 (by decide) ?_
      refine g_isub dX4_fitsPerson_24 ?_
      refine g_iconst (v := 0) dX4_fitsPerson_25 (by decide) ?_
      refine g_iload_n dX4_fitsPerson_26 rfl ?_
      refine g_callSN3 (M' := mX9_isWithin) (mc' := 0) (ms' := 0) dX4_fitsPerson_27 l_X4_44 s_mX9_isWithin f_mX9_isWithin (Nat.le_of_ble_eq_true rfl) (by decide) (ct_isWithin _ _ _) ?_
      rintro _ _ ⟨rfl, rfl⟩
      exact g_ireturn dX4_fitsPerson_30 rfl (bI_nar _) ⟨by simp_all [pFit], rfl⟩
  · skip
    refine g_iload_n dX4_fitsPerson_4 rfl ?_
    refine g_callS1 (M' := mX2_isLetter) (mc' := 0) (ms' := 0) dX4_fitsPerson_5 l_X4_39 s_mX2_isLetter f_mX2_isLetter (Nat.le_of_ble_eq_true rfl) (by decide) (ct_isLetter _) ?_
    rintro _ _ ⟨rfl, rfl⟩
    exact g_ireturn dX4_fitsPerson_8 rfl (bI_nar _) ⟨by simp_all [pFit], rfl⟩

end
