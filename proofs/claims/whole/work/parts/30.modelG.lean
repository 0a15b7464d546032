section
variable {E : XE} {l : Launch} {hi : Nat → Nat → Int32} {hl : Nat → Nat → Int64}

/-! lasting rows, as the reference does it: a row is, for each of the first, nobody (0) or one more than whom he has -/
def RVq (q : Nat → Nat) (F N : Nat) : Prop := ∀ p, p < F → q p = 0 ∨ (F < q p ∧ q p ≤ N)
def uN (q : Nat → Nat) (p d : Nat) : Nat → Nat := fun k => if k = p then d else q k
def whN (q : Nat → Nat) (e : Nat) : Nat → Option Nat
  | 0 => none
  | p + 1 => if q p = e + 1 then some p else whN q e p
theorem whN_lt {q : Nat → Nat} {e : Nat} : ∀ {n f : Nat}, whN q e n = some f → f < n
  | 0, f, h => by rw [whN] at h; cases h
  | n + 1, f, h => by
    rw [whN] at h
    split at h
    · cases h
      exact Nat.lt_succ_self n
    · exact Nat.lt_succ_of_lt (whN_lt h)
def usI (q : Nat → Nat) : Nat → Int32
  | 0 => 0
  | p + 1 => if q p = 0 then usI q p else usI q p ||| bitI (q p - 1)
def rowP (v : VV) (q : Nat → Nat) (p : Nat) : Bool := decide (q p = 0) || (vMay v p (q p - 1) && decide (usI q p &&& bitI (q p - 1) = 0))
def wlB (v : VV) (q : Nat → Nat) (F p e : Nat) : Bool := vMay v p e && (!decide (q p = e + 1) && ((decide (q p = 0) || vPref v e (q p - 1)) && (match whN q e F with | none => true | some y => vPref v p y)))
def laB (v : VV) (q : Nat → Nat) (F N : Nat) : Bool := allB (rowP v q) F && allB (fun p => allB (fun e => !wlB v q F p (F + e)) (N - F)) F
def nxF (F N : Nat) : Nat → (Nat → Nat) → Option (Nat → Nat)
  | 0, _ => none
  | p + 1, q => if q p = N then nxF F N p (uN q p 0) else some (uN q p (if q p = 0 then F + 1 else q p + 1))
abbrev SN : Type := (Nat → Nat) × Int32
def bsB (v : VV) (q t : Nat → Nat) (p : Nat) : Bool := !decide (q p = 0) && (decide (t p = 0) || vPref v (q p - 1) (t p - 1))
def lfF (v : VV) (F N : Nat) (q : Nat → Nat) (s : SN) : SN := if laB v q F N = true then (fun p => if p < F ∧ bsB v q s.1 p = true then q p else s.1 p, s.2 + 1) else s
def runF (v : VV) (F N : Nat) : Nat → (Nat → Nat) → SN → Option SN
  | 0, _, _ => none
  | n + 1, q, s => match nxF F N F q with
    | none => some (lfF v F N q s)
    | some q' => runF v F N n q' (lfF v F N q s)
theorem allB_up {P : Nat → Bool} : ∀ {n m : Nat}, allB P n = false → n ≤ m → allB P m = false
  | n, 0, h, hm => by have : n = 0 := by omega
                      rw [this] at h; exact h
  | n, m + 1, h, hm => by
    by_cases e : n = m + 1
    · rw [← e]; exact h
    · rw [allB, allB_up h (by omega)]; rfl


set_option maxRecDepth 100000 in
set_option maxHeartbeats 4000000 in
theorem lp_whoHas {N F : Nat} (hj : MO7 hi N F) (hF4 : F ≤ 4) {q : Nat → Nat} (hq : ∀ p, p < F → hi 67 p = nI (q p)) (hv : RVq q F N) {e : Nat} (he : e < N) : ∀ (n i : Nat), i ≤ F → F + 1 ≤ i + n → ∀ (u : Int32), u = oI (whN q e i) → G E l 1 mX10_whoHas 4 [some (.ref 53), some (.int (nI e)), some (.int u), some (.int (nI i))] [] 83 (hi, hl, RT) 0 0 (fun r h' => r = some (.int (oI (whN q e F))) ∧ h' = (hi, hl, RT)) := by
  intro n
  induction n with
  | zero =>
    intro i h1 h2
    exact absurd h2 (by omega)
  | succ n ih =>
    intro i hi1 hi2 u hu
    have hN8 := hj.1
    have hFN := hj.2.1
    have hF := hj.2.2.2
    have eci : (nI i).toNatClampNeg = i := nI_clamp (by omega)
    refine g_iload_n dX10_whoHas_4 rfl ?_
    refine g_aload_n dX10_whoHas_5 rfl ?_
    refine g_geti dX10_whoHas_6 k_X10_137 rfl (by decide) rfl ?_
    refine g_icmpge 36 dX10_whoHas_9 (by decide) (fun c9 => ?_) (fun c9 => ?_)
    · skip
      have hiN : i = F := Nat.le_antisymm hi1 (ge_out hF c9 (by omega) (by omega))
      refine g_iload_n dX10_whoHas_36 rfl ?_
      exact g_ireturn dX10_whoHas_37 rfl rfl ⟨by rw [hu, hiN], rfl⟩
    · skip
      have hlt : i < F := lt_in hF c9 (by omega) (by omega)
      have hqb : q i ≤ 8 := by rcases hv i hlt with h | h <;> omega
      refine g_aload_n dX10_whoHas_12 rfl ?_
      refine g_getr dX10_whoHas_13 k_X10_50 rfl (by decide) rfl rfl ?_
      refine g_iload_n dX10_whoHas_16 rfl ?_
      refine g_iald dX10_whoHas_17 (by decide) rfl (vp_in_nI (by omega) (by decide)) ?_
      refine g_iload_n dX10_whoHas_18 rfl ?_
      refine g_iconst (v := 1) dX10_whoHas_19 (by decide) ?_
      refine g_iadd dX10_whoHas_20 ?_
      refine g_icmpne 28 dX10_whoHas_21 (by decide) (fun c21 => ?_) (fun c21 => ?_)
      · skip
        have c22 : ¬ q i = e + 1 := by
          intro z
          exact c21 (by show hi 67 (nI i).toNatClampNeg = nI e + 1; rw [eci, hq i hlt, nI_inc1, z])
        refine g_iload_n dX10_whoHas_28 rfl ?_
        refine g_istore_n dX10_whoHas_29 (by decide) rfl rfl ?_
        refine g_iinc dX10_whoHas_30 rfl (nI_inc i) (by decide) rfl rfl ?_
        refine g_goto 4 dX10_whoHas_33 (by decide) ?_
        exact ih (i + 1) (by omega) (by omega) _ (by rw [whN, if_neg c22]; exact hu)
      · skip
        have c22 : q i = e + 1 := by
          have c23 : hi 67 (nI i).toNatClampNeg = nI e + 1 := c21
          rw [eci, hq i hlt, nI_inc1] at c23
          exact (nI_eq (by omega) (by omega)).mp c23
        refine g_iload_n dX10_whoHas_24 rfl ?_
        refine g_goto 29 dX10_whoHas_25 (by decide) ?_
        refine g_istore_n dX10_whoHas_29 (by decide) rfl rfl ?_
        refine g_iinc dX10_whoHas_30 rfl (nI_inc i) (by decide) rfl rfl ?_
        refine g_goto 4 dX10_whoHas_33 (by decide) ?_
        exact ih (i + 1) (by omega) (by omega) _ (by rw [whN, if_pos c22]; rfl)

set_option maxRecDepth 100000 in
set_option maxHeartbeats 4000000 in
theorem ct_whoHas {N F : Nat} (hj : MO7 hi N F) (hF4 : F ≤ 4) {q : Nat → Nat} (hq : ∀ p, p < F → hi 67 p = nI (q p)) (hv : RVq q F N) {e : Nat} (he : e < N) : MC E l 1 mX10_whoHas [.ref 53, .int (nI e)] 83 (hi, hl, RT) 0 0 (fun r h' => r = some (.int (oI (whN q e F))) ∧ h' = (hi, hl, RT)) := by
  refine MC.of [some (.ref 53), some (.int (nI e)), none, none] (by decide) rfl (Nat.le_of_ble_eq_true rfl) ?_
  refine g_iconst (v := -1) dX10_whoHas_0 (by decide) ?_
  refine g_istore_n dX10_whoHas_1 (by decide) rfl rfl ?_
  refine g_iconst (v := 0) dX10_whoHas_2 (by decide) ?_
  refine g_istore_n dX10_whoHas_3 (by decide) rfl rfl ?_
  exact lp_whoHas hj hF4 hq hv he (F + 1) 0 (by omega) (by omega) _ rfl

set_option maxRecDepth 100000 in
set_option maxHeartbeats 4000000 in
theorem lp_isRow {N F : Nat} (hj : MO7 hi N F) (hF4 : F ≤ 4) {q : Nat → Nat} (hq : ∀ p, p < F → hi 67 p = nI (q p)) (hv : RVq q F N) : ∀ (n i : Nat) (l3 : Option Value), i + n = F → allB (rowP (vm hi N F) q) i = true → G E l 6 mX10_isRow 4 [some (.ref 53), some (.int (usI q i)), some (.int (nI i)), l3] [] 83 (hi, hl, RT) 0 0 (fun r h' => r = some (.int (bI (allB (rowP (vm hi N F) q) F))) ∧ h' = (hi, hl, RT)) := by
  have hj0 := hj
  obtain ⟨hN8, hFN, hN, hF⟩ := hj
  intro n
  induction n with
  | zero =>
    intro i l3 hin hal
    have hiF : i = F := by omega
    refine g_iload_n dX10_isRow_4 rfl ?_
    refine g_aload_n dX10_isRow_5 rfl ?_
    refine g_geti dX10_isRow_6 k_X10_137 rfl (by decide) rfl ?_
    refine g_icmpge 56 dX10_isRow_9 (by decide) (fun c9 => ?_) (fun c9 => ?_)
    · skip
      refine g_iconst (v := 1) dX10_isRow_56 (by decide) ?_
      exact g_ireturn dX10_isRow_57 rfl rfl ⟨by rw [hiF] at hal; rw [hal]; rfl, rfl⟩
    · skip
      exact absurd (by show hi 53 1 ≤ nI i; rw [hF]; exact nI_le (by omega) (by omega)) c9
  | succ n ih =>
    intro i l3 hin hal
    have hlt : i < F := by omega
    have eci : (nI i).toNatClampNeg = i := nI_clamp (by omega)
    rcases hv i hlt with h0 | ⟨h1, h2⟩
    · skip
      refine g_iload_n dX10_isRow_4 rfl ?_
      refine g_aload_n dX10_isRow_5 rfl ?_
      refine g_geti dX10_isRow_6 k_X10_137 rfl (by decide) rfl ?_
      refine g_icmpge 56 dX10_isRow_9 (by decide) (fun c9 => ?_) (fun c9 => ?_)
      · skip
        exact absurd (ge_out hF c9 (by omega) (by omega)) (by omega)
      · skip
        refine g_aload_n dX10_isRow_12 rfl ?_
        refine g_getr dX10_isRow_13 k_X10_50 rfl (by decide) rfl rfl ?_
        refine g_iload_n dX10_isRow_16 rfl ?_
        refine g_iald dX10_isRow_17 (by decide) rfl (vp_in_nI (by omega) (by decide)) ?_
        refine g_iconst (v := 1) dX10_isRow_18 (by decide) ?_
        refine g_isub dX10_isRow_19 ?_
        rw [eci, show (hi, hl, RT).1 67 i = nI 0 from (hq i hlt).trans (by rw [h0]), show nI 0 - 1 = (-1 : Int32) from by decide]
        refine g_istore_n dX10_isRow_20 (by decide) rfl rfl ?_
        refine g_iload_n dX10_isRow_21 rfl ?_
        refine g_iflt 50 dX10_isRow_22 (by decide) (fun c22 => ?_) (fun c22 => ?_)
        · skip
          refine g_iinc dX10_isRow_50 rfl (nI_inc i) (by decide) rfl rfl ?_
          refine g_goto 4 dX10_isRow_53 (by decide) ?_
          have e : usI q (i + 1) = usI q i := by rw [usI, if_pos h0]
          rw [← e]
          exact ih (i + 1) _ (by omega) (by rw [allB, hal]; simp [rowP, h0])
        · skip
          exact absurd (by decide) c22
    · have hn0 : ¬ q i = 0 := by omega
      have hq8 : q i - 1 < N := by omega
      refine g_iload_n dX10_isRow_4 rfl ?_
      refine g_aload_n dX10_isRow_5 rfl ?_
      refine g_geti dX10_isRow_6 k_X10_137 rfl (by decide) rfl ?_
      refine g_icmpge 56 dX10_isRow_9 (by decide) (fun c9 => ?_) (fun c9 => ?_)
      · skip
        exact absurd (ge_out hF c9 (by omega) (by omega)) (by omega)
      · skip
        refine g_aload_n dX10_isRow_12 rfl ?_
        refine g_getr dX10_isRow_13 k_X10_50 rfl (by decide) rfl rfl ?_
        refine g_iload_n dX10_isRow_16 rfl ?_
        refine g_iald dX10_isRow_17 (by decide) rfl (vp_in_nI (by omega) (by decide)) ?_
        refine g_iconst (v := 1) dX10_isRow_18 (by decide) ?_
        refine g_isub dX10_isRow_19 ?_
        rw [eci, show (hi, hl, RT).1 67 i = nI (q i) from hq i hlt, show nI (q i) - 1 = nI (q i - 1) from pk_sub (b := 1) (by omega)]
        refine g_istore_n dX10_isRow_20 (by decide) rfl rfl ?_
        refine g_iload_n dX10_isRow_21 rfl ?_
        refine g_iflt 50 dX10_isRow_22 (by decide) (fun c22 => ?_) (fun c22 => ?_)
        · skip
          exact absurd c22 (nI_pos (by omega))
        · skip
          refine g_aload_n dX10_isRow_25 rfl ?_
          refine g_iload_n dX10_isRow_26 rfl ?_
          refine g_iload_n dX10_isRow_27 rfl ?_
          refine g_callV2 (M' := mX10_mayBe) (mc' := 0) (ms' := 0) dX10_isRow_28 l_X10_230 s_mX10_mayBe (by decide) rfl rfl f_mX10_mayBe (Nat.le_of_ble_eq_true rfl) (by decide) (ct_mayBe hj0 (by omega) hq8) ?_
          rintro _ _ ⟨rfl, rfl⟩
          refine g_ifeq 42 dX10_isRow_31 (by decide) (fun c31 => ?_) (fun c31 => ?_)
          · skip
            refine g_iconst (v := 0) dX10_isRow_42 (by decide) ?_
            exact g_ireturn dX10_isRow_43 rfl rfl ⟨by rw [allB_no (P := rowP (vm hi N F) q) (i := i) (by simp [rowP, hn0, bI_0.mp c31]) hlt]; rfl, rfl⟩
          · skip
            refine g_iload_n dX10_isRow_34 rfl ?_
            refine g_iload_n dX10_isRow_35 rfl ?_
            refine g_callS2 (M' := mX10_isIn) (mc' := 0) (ms' := 0) dX10_isRow_36 l_X10_183 s_mX10_isIn f_mX10_isIn (Nat.le_of_ble_eq_true rfl) (by decide) (ct_isIn _ (by omega)) ?_
            rintro _ _ ⟨rfl, rfl⟩
            refine g_ifeq 44 dX10_isRow_39 (by decide) (fun c39 => ?_) (fun c39 => ?_)
            · skip
              refine g_iload_n dX10_isRow_44 rfl ?_
              refine g_iconst (v := 1) dX10_isRow_45 (by decide) ?_
              refine g_iload_n dX10_isRow_46 rfl ?_
              refine g_ishl dX10_isRow_47 ?_
              refine g_ior dX10_isRow_48 ?_
              refine g_istore_n dX10_isRow_49 (by decide) rfl rfl ?_
              refine g_iinc dX10_isRow_50 rfl (nI_inc i) (by decide) rfl rfl ?_
              refine g_goto 4 dX10_isRow_53 (by decide) ?_
              have e : usI q i ||| bitI (q i - 1) = usI q (i + 1) := by rw [usI, if_neg hn0]
              rw [show usI q i ||| 1 <<< (nI (q i - 1) &&& 31) = usI q (i + 1) from e]
              exact ih (i + 1) _ (by omega) (by rw [allB, hal]; simp [rowP, bI_n.mp c31, by simpa using bI_0.mp c39])
            · skip
              refine g_iconst (v := 0) dX10_isRow_42 (by decide) ?_
              exact g_ireturn dX10_isRow_43 rfl rfl ⟨by rw [allB_no (P := rowP (vm hi N F) q) (i := i) (by simp [rowP, hn0, bI_n.mp c31, by simpa using bI_n.mp c39]) hlt]; rfl, rfl⟩

set_option maxRecDepth 100000 in
set_option maxHeartbeats 4000000 in
theorem ct_isRow {N F : Nat} (hj : MO7 hi N F) (hF4 : F ≤ 4) {q : Nat → Nat} (hq : ∀ p, p < F → hi 67 p = nI (q p)) (hv : RVq q F N) : MC E l 6 mX10_isRow [.ref 53] 83 (hi, hl, RT) 0 0 (fun r h' => r = some (.int (bI (allB (rowP (vm hi N F) q) F))) ∧ h' = (hi, hl, RT)) := by
  refine MC.of [some (.ref 53), none, none, none] (by decide) rfl (Nat.le_of_ble_eq_true rfl) ?_
  refine g_iconst (v := 0) dX10_isRow_0 (by decide) ?_
  refine g_istore_n dX10_isRow_1 (by decide) rfl rfl ?_
  refine g_iconst (v := 0) dX10_isRow_2 (by decide) ?_
  refine g_istore_n dX10_isRow_3 (by decide) rfl rfl ?_
  exact lp_isRow hj hF4 hq hv F 0 none (by omega) rfl

set_option maxRecDepth 100000 in
set_option maxHeartbeats 4000000 in
theorem ct_wouldLeave {N F : Nat} (hj : MO7 hi N F) (hF4 : F ≤ 4) {q : Nat → Nat} (hq : ∀ p, p < F → hi 67 p = nI (q p)) (hv : RVq q F N) {p e : Nat} (hp : p < F) (he : e < N) : MC E l 6 mX10_wouldLeave [.ref 53, .int (nI p), .int (nI e)] 83 (hi, hl, RT) 0 0 (fun r h' => r = some (.int (bI (wlB (vm hi N F) q F p e))) ∧ h' = (hi, hl, RT)) := by
  refine MC.of [some (.ref 53), some (.int (nI p)), some (.int (nI e)), none, none] (by decide) rfl (Nat.le_of_ble_eq_true rfl) ?_
  have hj0 := hj
  obtain ⟨hN8, hFN, hN, hF⟩ := hj
  have ecp : (nI p).toNatClampNeg = p := nI_clamp (by omega)
  cases hw : whN q e F with
  | none =>
    rcases hv p hp with h0 | ⟨h1, h2⟩
    · skip
      refine g_aload_n dX10_wouldLeave_0 rfl ?_
      refine g_getr dX10_wouldLeave_1 k_X10_50 rfl (by decide) rfl rfl ?_
      refine g_iload_n dX10_wouldLeave_4 rfl ?_
      refine g_iald dX10_wouldLeave_5 (by decide) rfl (vp_in_nI (by omega) (by decide)) ?_
      refine g_iconst (v := 1) dX10_wouldLeave_6 (by decide) ?_
      refine g_isub dX10_wouldLeave_7 ?_
      rw [ecp, show (hi, hl, RT).1 67 p = nI 0 from (hq p hp).trans (by rw [h0]), show nI 0 - 1 = (-1 : Int32) from by decide]
      refine g_istore_n dX10_wouldLeave_8 (by decide) rfl rfl ?_
      refine g_aload_n dX10_wouldLeave_9 rfl ?_
      refine g_iload_n dX10_wouldLeave_10 rfl ?_
      refine g_callV1 (M' := mX10_whoHas) (mc' := 0) (ms' := 0) dX10_wouldLeave_11 l_X10_233 s_mX10_whoHas (by decide) rfl rfl f_mX10_whoHas (Nat.le_of_ble_eq_true rfl) (by decide) ((ct_whoHas hj0 hF4 hq hv he).weaken (fun r h' z => (⟨by rw [z.1, hw]; rfl, z.2⟩ : r = some (.int (-1)) ∧ h' = (hi, hl, RT)))) ?_
      rintro _ _ ⟨rfl, rfl⟩
      refine g_istore dX10_wouldLeave_14 (by decide) rfl rfl ?_
      refine g_aload_n dX10_wouldLeave_16 rfl ?_
      refine g_iload_n dX10_wouldLeave_17 rfl ?_
      refine g_iload_n dX10_wouldLeave_18 rfl ?_
      refine g_callV2 (M' := mX10_mayBe) (mc' := 0) (ms' := 0) dX10_wouldLeave_19 l_X10_230 s_mX10_mayBe (by decide) rfl rfl f_mX10_mayBe (Nat.le_of_ble_eq_true rfl) (by decide) (ct_mayBe hj0 (by omega) he) ?_
      rintro _ _ ⟨rfl, rfl⟩
      refine g_ifeq 63 dX10_wouldLeave_22 (by decide) (fun c22 => ?_) (fun c22 => ?_)
      · skip
        refine g_iconst (v := 0) dX10_wouldLeave_63 (by decide) ?_
        exact g_ireturn dX10_wouldLeave_64 rfl rfl ⟨by simp [wlB, bI_0.mp c22, bI], rfl⟩
      · skip
        refine g_iload_n dX10_wouldLeave_25 rfl ?_
        refine g_iload_n dX10_wouldLeave_26 rfl ?_
        refine g_icmpeq 63 dX10_wouldLeave_27 (by decide) (fun c27 => ?_) (fun c27 => ?_)
        · skip
          exact absurd c27.symm (fun z => nI_pos (n := e) (by omega) (by rw [z]; decide))
        · skip
          refine g_iload_n dX10_wouldLeave_30 rfl ?_
          refine g_iflt 43 dX10_wouldLeave_31 (by decide) (fun c31 => ?_) (fun c31 => ?_)
          · skip
            refine g_iload dX10_wouldLeave_43 rfl ?_
            refine g_iconst (v := -1) dX10_wouldLeave_45 (by decide) ?_
            refine g_icmpeq 59 dX10_wouldLeave_46 (by decide) (fun _ => ?_) (fun c => absurd c (by decide))
            refine g_iconst (v := 1) dX10_wouldLeave_59 (by decide) ?_
            refine g_goto 64 dX10_wouldLeave_60 (by decide) ?_
            exact g_ireturn dX10_wouldLeave_64 rfl rfl ⟨by
          have z : ¬ q p = e + 1 := by omega
          simp [wlB, bI_n.mp c22, z, h0, hw, bI], rfl⟩
          · skip
            exact absurd (by decide) c31
    · have hn0 : ¬ q p = 0 := by omega
      have hq8 : q p - 1 < N := by omega
      refine g_aload_n dX10_wouldLeave_0 rfl ?_
      refine g_getr dX10_wouldLeave_1 k_X10_50 rfl (by decide) rfl rfl ?_
      refine g_iload_n dX10_wouldLeave_4 rfl ?_
      refine g_iald dX10_wouldLeave_5 (by decide) rfl (vp_in_nI (by omega) (by decide)) ?_
      refine g_iconst (v := 1) dX10_wouldLeave_6 (by decide) ?_
      refine g_isub dX10_wouldLeave_7 ?_
      rw [ecp, show (hi, hl, RT).1 67 p = nI (q p) from hq p hp, show nI (q p) - 1 = nI (q p - 1) from pk_sub (b := 1) (by omega)]
      refine g_istore_n dX10_wouldLeave_8 (by decide) rfl rfl ?_
      refine g_aload_n dX10_wouldLeave_9 rfl ?_
      refine g_iload_n dX10_wouldLeave_10 rfl ?_
      refine g_callV1 (M' := mX10_whoHas) (mc' := 0) (ms' := 0) dX10_wouldLeave_11 l_X10_233 s_mX10_whoHas (by decide) rfl rfl f_mX10_whoHas (Nat.le_of_ble_eq_true rfl) (by decide) ((ct_whoHas hj0 hF4 hq hv he).weaken (fun r h' z => (⟨by rw [z.1, hw]; rfl, z.2⟩ : r = some (.int (-1)) ∧ h' = (hi, hl, RT)))) ?_
      rintro _ _ ⟨rfl, rfl⟩
      refine g_istore dX10_wouldLeave_14 (by decide) rfl rfl ?_
      refine g_aload_n dX10_wouldLeave_16 rfl ?_
      refine g_iload_n dX10_wouldLeave_17 rfl ?_
      refine g_iload_n dX10_wouldLeave_18 rfl ?_
      refine g_callV2 (M' := mX10_mayBe) (mc' := 0) (ms' := 0) dX10_wouldLeave_19 l_X10_230 s_mX10_mayBe (by decide) rfl rfl f_mX10_mayBe (Nat.le_of_ble_eq_true rfl) (by decide) (ct_mayBe hj0 (by omega) he) ?_
      rintro _ _ ⟨rfl, rfl⟩
      refine g_ifeq 63 dX10_wouldLeave_22 (by decide) (fun c22 => ?_) (fun c22 => ?_)
      · skip
        refine g_iconst (v := 0) dX10_wouldLeave_63 (by decide) ?_
        exact g_ireturn dX10_wouldLeave_64 rfl rfl ⟨by simp [wlB, bI_0.mp c22, bI], rfl⟩
      · skip
        refine g_iload_n dX10_wouldLeave_25 rfl ?_
        refine g_iload_n dX10_wouldLeave_26 rfl ?_
        refine g_icmpeq 63 dX10_wouldLeave_27 (by decide) (fun c27 => ?_) (fun c27 => ?_)
        · skip
          refine g_iconst (v := 0) dX10_wouldLeave_63 (by decide) ?_
          exact g_ireturn dX10_wouldLeave_64 rfl rfl ⟨by
          have z : q p = e + 1 := by have := (nI_eq (by omega) (by omega)).mp c27; omega
          simp [wlB, z, bI], rfl⟩
        · skip
          refine g_iload_n dX10_wouldLeave_30 rfl ?_
          refine g_iflt 43 dX10_wouldLeave_31 (by decide) (fun c31 => ?_) (fun c31 => ?_)
          · skip
            exact absurd c31 (nI_pos (by omega))
          · skip
            refine g_aload_n dX10_wouldLeave_34 rfl ?_
            refine g_iload_n dX10_wouldLeave_35 rfl ?_
            refine g_iload_n dX10_wouldLeave_36 rfl ?_
            refine g_callV2 (M' := mX10_prefers) (mc' := 0) (ms' := 0) dX10_wouldLeave_37 l_X10_236 s_mX10_prefers (by decide) rfl rfl f_mX10_prefers (Nat.le_of_ble_eq_true rfl) (by decide) (ct_prefers hj0 he hq8) ?_
            rintro _ _ ⟨rfl, rfl⟩
            refine g_ifeq 63 dX10_wouldLeave_40 (by decide) (fun c40 => ?_) (fun c40 => ?_)
            · skip
              refine g_iconst (v := 0) dX10_wouldLeave_63 (by decide) ?_
              exact g_ireturn dX10_wouldLeave_64 rfl rfl ⟨by
          simp [wlB, hn0, bI_0.mp c40, bI], rfl⟩
            · skip
              refine g_iload dX10_wouldLeave_43 rfl ?_
              refine g_iconst (v := -1) dX10_wouldLeave_45 (by decide) ?_
              refine g_icmpeq 59 dX10_wouldLeave_46 (by decide) (fun _ => ?_) (fun c => absurd c (by decide))
              refine g_iconst (v := 1) dX10_wouldLeave_59 (by decide) ?_
              refine g_goto 64 dX10_wouldLeave_60 (by decide) ?_
              exact g_ireturn dX10_wouldLeave_64 rfl rfl ⟨by
          have z : ¬ q p = e + 1 := fun z => c27 (by rw [z]; rfl)
          simp [wlB, bI_n.mp c22, z, hn0, bI_n.mp c40, hw, bI], rfl⟩
  | some y =>
    have hyF : y < F := whN_lt hw
    rcases hv p hp with h0 | ⟨h1, h2⟩
    · skip
      refine g_aload_n dX10_wouldLeave_0 rfl ?_
      refine g_getr dX10_wouldLeave_1 k_X10_50 rfl (by decide) rfl rfl ?_
      refine g_iload_n dX10_wouldLeave_4 rfl ?_
      refine g_iald dX10_wouldLeave_5 (by decide) rfl (vp_in_nI (by omega) (by decide)) ?_
      refine g_iconst (v := 1) dX10_wouldLeave_6 (by decide) ?_
      refine g_isub dX10_wouldLeave_7 ?_
      rw [ecp, show (hi, hl, RT).1 67 p = nI 0 from (hq p hp).trans (by rw [h0]), show nI 0 - 1 = (-1 : Int32) from by decide]
      refine g_istore_n dX10_wouldLeave_8 (by decide) rfl rfl ?_
      refine g_aload_n dX10_wouldLeave_9 rfl ?_
      refine g_iload_n dX10_wouldLeave_10 rfl ?_
      refine g_callV1 (M' := mX10_whoHas) (mc' := 0) (ms' := 0) dX10_wouldLeave_11 l_X10_233 s_mX10_whoHas (by decide) rfl rfl f_mX10_whoHas (Nat.le_of_ble_eq_true rfl) (by decide) ((ct_whoHas hj0 hF4 hq hv he).weaken (fun r h' z => (⟨by rw [z.1, hw]; rfl, z.2⟩ : r = some (.int (nI y)) ∧ h' = (hi, hl, RT)))) ?_
      rintro _ _ ⟨rfl, rfl⟩
      refine g_istore dX10_wouldLeave_14 (by decide) rfl rfl ?_
      refine g_aload_n dX10_wouldLeave_16 rfl ?_
      refine g_iload_n dX10_wouldLeave_17 rfl ?_
      refine g_iload_n dX10_wouldLeave_18 rfl ?_
      refine g_callV2 (M' := mX10_mayBe) (mc' := 0) (ms' := 0) dX10_wouldLeave_19 l_X10_230 s_mX10_mayBe (by decide) rfl rfl f_mX10_mayBe (Nat.le_of_ble_eq_true rfl) (by decide) (ct_mayBe hj0 (by omega) he) ?_
      rintro _ _ ⟨rfl, rfl⟩
      refine g_ifeq 63 dX10_wouldLeave_22 (by decide) (fun c22 => ?_) (fun c22 => ?_)
      · skip
        refine g_iconst (v := 0) dX10_wouldLeave_63 (by decide) ?_
        exact g_ireturn dX10_wouldLeave_64 rfl rfl ⟨by simp [wlB, bI_0.mp c22, bI], rfl⟩
      · skip
        refine g_iload_n dX10_wouldLeave_25 rfl ?_
        refine g_iload_n dX10_wouldLeave_26 rfl ?_
        refine g_icmpeq 63 dX10_wouldLeave_27 (by decide) (fun c27 => ?_) (fun c27 => ?_)
        · skip
          exact absurd c27.symm (fun z => nI_pos (n := e) (by omega) (by rw [z]; decide))
        · skip
          refine g_iload_n dX10_wouldLeave_30 rfl ?_
          refine g_iflt 43 dX10_wouldLeave_31 (by decide) (fun c31 => ?_) (fun c31 => ?_)
          · skip
            refine g_iload dX10_wouldLeave_43 rfl ?_
            refine g_iconst (v := -1) dX10_wouldLeave_45 (by decide) ?_
            refine g_icmpeq 59 dX10_wouldLeave_46 (by decide) (fun c46 => ?_) (fun c46 => ?_)
            · skip
              exact absurd c46 (fun z => nI_pos (n := y) (by omega) (by rw [z]; decide))
            · skip
              refine g_aload_n dX10_wouldLeave_49 rfl ?_
              refine g_iload_n dX10_wouldLeave_50 rfl ?_
              refine g_iload dX10_wouldLeave_51 rfl ?_
              refine g_callV2 (M' := mX10_prefers) (mc' := 0) (ms' := 0) dX10_wouldLeave_53 l_X10_236 s_mX10_prefers (by decide) rfl rfl f_mX10_prefers (Nat.le_of_ble_eq_true rfl) (by decide) (ct_prefers hj0 (by omega) (by omega)) ?_
              rintro _ _ ⟨rfl, rfl⟩
              refine g_ifeq 63 dX10_wouldLeave_56 (by decide) (fun c56 => ?_) (fun c56 => ?_)
              · skip
                refine g_iconst (v := 0) dX10_wouldLeave_63 (by decide) ?_
                exact g_ireturn dX10_wouldLeave_64 rfl rfl ⟨by
          simp [wlB, hw, bI_0.mp c56, bI], rfl⟩
              · skip
                refine g_iconst (v := 1) dX10_wouldLeave_59 (by decide) ?_
                refine g_goto 64 dX10_wouldLeave_60 (by decide) ?_
                exact g_ireturn dX10_wouldLeave_64 rfl rfl ⟨by
          have z : ¬ q p = e + 1 := by omega
          simp [wlB, bI_n.mp c22, z, h0, hw, bI_n.mp c56, bI], rfl⟩
          · skip
            exact absurd (by decide) c31
    · have hn0 : ¬ q p = 0 := by omega
      have hq8 : q p - 1 < N := by omega
      refine g_aload_n dX10_wouldLeave_0 rfl ?_
      refine g_getr dX10_wouldLeave_1 k_X10_50 rfl (by decide) rfl rfl ?_
      refine g_iload_n dX10_wouldLeave_4 rfl ?_
      refine g_iald dX10_wouldLeave_5 (by decide) rfl (vp_in_nI (by omega) (by decide)) ?_
      refine g_iconst (v := 1) dX10_wouldLeave_6 (by decide) ?_
      refine g_isub dX10_wouldLeave_7 ?_
      rw [ecp, show (hi, hl, RT).1 67 p = nI (q p) from hq p hp, show nI (q p) - 1 = nI (q p - 1) from pk_sub (b := 1) (by omega)]
      refine g_istore_n dX10_wouldLeave_8 (by decide) rfl rfl ?_
      refine g_aload_n dX10_wouldLeave_9 rfl ?_
      refine g_iload_n dX10_wouldLeave_10 rfl ?_
      refine g_callV1 (M' := mX10_whoHas) (mc' := 0) (ms' := 0) dX10_wouldLeave_11 l_X10_233 s_mX10_whoHas (by decide) rfl rfl f_mX10_whoHas (Nat.le_of_ble_eq_true rfl) (by decide) ((ct_whoHas hj0 hF4 hq hv he).weaken (fun r h' z => (⟨by rw [z.1, hw]; rfl, z.2⟩ : r = some (.int (nI y)) ∧ h' = (hi, hl, RT)))) ?_
      rintro _ _ ⟨rfl, rfl⟩
      refine g_istore dX10_wouldLeave_14 (by decide) rfl rfl ?_
      refine g_aload_n dX10_wouldLeave_16 rfl ?_
      refine g_iload_n dX10_wouldLeave_17 rfl ?_
      refine g_iload_n dX10_wouldLeave_18 rfl ?_
      refine g_callV2 (M' := mX10_mayBe) (mc' := 0) (ms' := 0) dX10_wouldLeave_19 l_X10_230 s_mX10_mayBe (by decide) rfl rfl f_mX10_mayBe (Nat.le_of_ble_eq_true rfl) (by decide) (ct_mayBe hj0 (by omega) he) ?_
      rintro _ _ ⟨rfl, rfl⟩
      refine g_ifeq 63 dX10_wouldLeave_22 (by decide) (fun c22 => ?_) (fun c22 => ?_)
      · skip
        refine g_iconst (v := 0) dX10_wouldLeave_63 (by decide) ?_
        exact g_ireturn dX10_wouldLeave_64 rfl rfl ⟨by simp [wlB, bI_0.mp c22, bI], rfl⟩
      · skip
        refine g_iload_n dX10_wouldLeave_25 rfl ?_
        refine g_iload_n dX10_wouldLeave_26 rfl ?_
        refine g_icmpeq 63 dX10_wouldLeave_27 (by decide) (fun c27 => ?_) (fun c27 => ?_)
        · skip
          refine g_iconst (v := 0) dX10_wouldLeave_63 (by decide) ?_
          exact g_ireturn dX10_wouldLeave_64 rfl rfl ⟨by
          have z : q p = e + 1 := by have := (nI_eq (by omega) (by omega)).mp c27; omega
          simp [wlB, z, bI], rfl⟩
        · skip
          refine g_iload_n dX10_wouldLeave_30 rfl ?_
          refine g_iflt 43 dX10_wouldLeave_31 (by decide) (fun c31 => ?_) (fun c31 => ?_)
          · skip
            exact absurd c31 (nI_pos (by omega))
          · skip
            refine g_aload_n dX10_wouldLeave_34 rfl ?_
            refine g_iload_n dX10_wouldLeave_35 rfl ?_
            refine g_iload_n dX10_wouldLeave_36 rfl ?_
            refine g_callV2 (M' := mX10_prefers) (mc' := 0) (ms' := 0) dX10_wouldLeave_37 l_X10_236 s_mX10_prefers (by decide) rfl rfl f_mX10_prefers (Nat.le_of_ble_eq_true rfl) (by decide) (ct_prefers hj0 he hq8) ?_
            rintro _ _ ⟨rfl, rfl⟩
            refine g_ifeq 63 dX10_wouldLeave_40 (by decide) (fun c40 => ?_) (fun c40 => ?_)
            · skip
              refine g_iconst (v := 0) dX10_wouldLeave_63 (by decide) ?_
              exact g_ireturn dX10_wouldLeave_64 rfl rfl ⟨by
          simp [wlB, hn0, bI_0.mp c40, bI], rfl⟩
            · skip
              refine g_iload dX10_wouldLeave_43 rfl ?_
              refine g_iconst (v := -1) dX10_wouldLeave_45 (by decide) ?_
              refine g_icmpeq 59 dX10_wouldLeave_46 (by decide) (fun c46 => ?_) (fun c46 => ?_)
              · skip
                exact absurd c46 (fun z => nI_pos (n := y) (by omega) (by rw [z]; decide))
              · skip
                refine g_aload_n dX10_wouldLeave_49 rfl ?_
                refine g_iload_n dX10_wouldLeave_50 rfl ?_
                refine g_iload dX10_wouldLeave_51 rfl ?_
                refine g_callV2 (M' := mX10_prefers) (mc' := 0) (ms' := 0) dX10_wouldLeave_53 l_X10_236 s_mX10_prefers (by decide) rfl rfl f_mX10_prefers (Nat.le_of_ble_eq_true rfl) (by decide) (ct_prefers hj0 (by omega) (by omega)) ?_
                rintro _ _ ⟨rfl, rfl⟩
                refine g_ifeq 63 dX10_wouldLeave_56 (by decide) (fun c56 => ?_) (fun c56 => ?_)
                · skip
                  refine g_iconst (v := 0) dX10_wouldLeave_63 (by decide) ?_
                  exact g_ireturn dX10_wouldLeave_64 rfl rfl ⟨by
          simp [wlB, hw, bI_0.mp c56, bI], rfl⟩
                · skip
                  refine g_iconst (v := 1) dX10_wouldLeave_59 (by decide) ?_
                  refine g_goto 64 dX10_wouldLeave_60 (by decide) ?_
                  exact g_ireturn dX10_wouldLeave_64 rfl rfl ⟨by
          have z : ¬ q p = e + 1 := fun z => c27 (by rw [z]; rfl)
          simp [wlB, bI_n.mp c22, z, hn0, bI_n.mp c40, hw, bI_n.mp c56, bI], rfl⟩

set_option maxRecDepth 100000 in
set_option maxHeartbeats 4000000 in
theorem lp_lasIn {N F : Nat} (hj : MO7 hi N F) (hF4 : F ≤ 4) {q : Nat → Nat} (hq : ∀ p, p < F → hi 67 p = nI (q p)) (hv : RVq q F N) {p : Nat} (hp : p < F) {b0 : Bool} (hk : ∀ l3, xcat2 l3 = false → G E l 7 mX10_isLasting 57 [some (.ref 53), some (.int (bI (b0 && allB (fun e => !wlB (vm hi N F) q F p (F + e)) (N - F)))), some (.int (nI p)), l3] [] 83 (hi, hl, RT) 0 0 (fun r h' => r = some (.int (bI (laB (vm hi N F) q F N))) ∧ h' = (hi, hl, RT))) : ∀ (n k : Nat) (b : Bool), k + n = N - F → b = (b0 && allB (fun e => !wlB (vm hi N F) q F p (F + e)) k) → G E l 7 mX10_isLasting 24 [some (.ref 53), some (.int (bI b)), some (.int (nI p)), some (.int (nI (F + k)))] [] 83 (hi, hl, RT) 0 0 (fun r h' => r = some (.int (bI (laB (vm hi N F) q F N))) ∧ h' = (hi, hl, RT)) := by
  have hj0 := hj
  obtain ⟨hN8, hFN, hN, hF⟩ := hj
  intro n
  induction n with
  | zero =>
    intro k b hkn hb
    have hkN : k = N - F := by omega
    refine g_iload_n dX10_isLasting_24 rfl ?_
    refine g_aload_n dX10_isLasting_25 rfl ?_
    refine g_geti dX10_isLasting_26 k_X10_140 rfl (by decide) rfl ?_
    refine g_icmpge 57 dX10_isLasting_29 (by decide) (fun c29 => ?_) (fun c29 => ?_)
    · skip
      rw [hb, hkN]
      exact hk _ rfl
    · skip
      exact absurd (by show hi 53 2 ≤ nI (F + k); rw [hN]; exact nI_le (by omega) (by omega)) c29
  | succ n ih =>
    intro k b hkn hb
    have hkN : F + k < N := by omega
    refine g_iload_n dX10_isLasting_24 rfl ?_
    refine g_aload_n dX10_isLasting_25 rfl ?_
    refine g_geti dX10_isLasting_26 k_X10_140 rfl (by decide) rfl ?_
    refine g_icmpge 57 dX10_isLasting_29 (by decide) (fun c29 => ?_) (fun c29 => ?_)
    · skip
      exact absurd (ge_out hN c29 (by omega) (by omega)) (by omega)
    · skip
      refine g_iload_n dX10_isLasting_32 rfl ?_
      refine g_ifeq 49 dX10_isLasting_33 (by decide) (fun c33 => ?_) (fun c33 => ?_)
      · skip
        refine g_iconst (v := 0) dX10_isLasting_49 (by decide) ?_
        refine g_istore_n dX10_isLasting_50 (by decide) rfl rfl ?_
        refine g_iinc dX10_isLasting_51 rfl (nI_inc (F + k)) (by decide) rfl rfl ?_
        refine g_goto 24 dX10_isLasting_54 (by decide) ?_
        exact ih (k + 1) false (by omega) (by rw [allB, ← Bool.and_assoc, ← hb, bI_0.mp c33]; rfl)
      · skip
        refine g_aload_n dX10_isLasting_36 rfl ?_
        refine g_iload_n dX10_isLasting_37 rfl ?_
        refine g_iload_n dX10_isLasting_38 rfl ?_
        refine g_callV2 (M' := mX10_wouldLeave) (mc' := 0) (ms' := 0) dX10_isLasting_39 l_X10_243 s_mX10_wouldLeave (by decide) rfl rfl f_mX10_wouldLeave (Nat.le_of_ble_eq_true rfl) (by decide) (ct_wouldLeave hj0 hF4 hq hv hp hkN) ?_
        rintro _ _ ⟨rfl, rfl⟩
        refine g_ifne 49 dX10_isLasting_42 (by decide) (fun c42 => ?_) (fun c42 => ?_)
        · skip
          refine g_iconst (v := 0) dX10_isLasting_49 (by decide) ?_
          refine g_istore_n dX10_isLasting_50 (by decide) rfl rfl ?_
          refine g_iinc dX10_isLasting_51 rfl (nI_inc (F + k)) (by decide) rfl rfl ?_
          refine g_goto 24 dX10_isLasting_54 (by decide) ?_
          exact ih (k + 1) false (by omega) (by rw [allB, ← Bool.and_assoc, ← hb, bI_n.mp c42]; simp)
        · skip
          refine g_iconst (v := 1) dX10_isLasting_45 (by decide) ?_
          refine g_goto 50 dX10_isLasting_46 (by decide) ?_
          refine g_istore_n dX10_isLasting_50 (by decide) rfl rfl ?_
          refine g_iinc dX10_isLasting_51 rfl (nI_inc (F + k)) (by decide) rfl rfl ?_
          refine g_goto 24 dX10_isLasting_54 (by decide) ?_
          exact ih (k + 1) true (by omega) (by rw [allB, ← Bool.and_assoc, ← hb, bI_n.mp c33, bI_0.mp c42]; rfl)

set_option maxRecDepth 100000 in
set_option maxHeartbeats 4000000 in
theorem lp_las {N F : Nat} (hj : MO7 hi N F) (hF4 : F ≤ 4) {q : Nat → Nat} (hq : ∀ p, p < F → hi 67 p = nI (q p)) (hv : RVq q F N) : ∀ (n p : Nat) (b : Bool) (l3 : Option Value), p + n = F → xcat2 l3 = false → b = (allB (rowP (vm hi N F) q) F && allB (fun p => allB (fun e => !wlB (vm hi N F) q F p (F + e)) (N - F)) p) → G E l 7 mX10_isLasting 7 [some (.ref 53), some (.int (bI b)), some (.int (nI p)), l3] [] 83 (hi, hl, RT) 0 0 (fun r h' => r = some (.int (bI (laB (vm hi N F) q F N))) ∧ h' = (hi, hl, RT)) := by
  have hj0 := hj
  obtain ⟨hN8, hFN, hN, hF⟩ := hj
  intro n
  induction n with
  | zero =>
    intro p b l3 hpn hx hb
    have hpF : p = F := by omega
    refine g_iload_n dX10_isLasting_7 rfl ?_
    refine g_aload_n dX10_isLasting_8 rfl ?_
    refine g_geti dX10_isLasting_9 k_X10_137 rfl (by decide) rfl ?_
    refine g_icmpge 63 dX10_isLasting_12 (by decide) (fun c12 => ?_) (fun c12 => ?_)
    · skip
      refine g_iload_n dX10_isLasting_63 rfl ?_
      exact g_ireturn dX10_isLasting_64 rfl (bI_nar _) ⟨by rw [hb, hpF]; rfl, rfl⟩
    · skip
      exact absurd (by show hi 53 1 ≤ nI p; rw [hF]; exact nI_le (by omega) (by omega)) c12
  | succ n ih =>
    intro p b l3 hpn hx hb
    have hpF : p < F := by omega
    refine g_iload_n dX10_isLasting_7 rfl ?_
    refine g_aload_n dX10_isLasting_8 rfl ?_
    refine g_geti dX10_isLasting_9 k_X10_137 rfl (by decide) rfl ?_
    refine g_icmpge 63 dX10_isLasting_12 (by decide) (fun c12 => ?_) (fun c12 => ?_)
    · skip
      exact absurd (ge_out hF c12 (by omega) (by omega)) (by omega)
    · skip
      refine g_iload_n dX10_isLasting_15 rfl ?_
      refine g_ifeq 63 dX10_isLasting_16 (by decide) (fun c16 => ?_) (fun c16 => ?_)
      · skip
        refine g_iload_n dX10_isLasting_63 rfl ?_
        exact g_ireturn dX10_isLasting_64 rfl (bI_nar _) ⟨by
          have z : laB (vm hi N F) q F N = false := by
            have hb2 := hb
            rw [bI_0.mp c16] at hb2
            unfold laB
            cases hr : allB (rowP (vm hi N F) q) F with
            | false => rfl
            | true =>
              rw [hr, Bool.true_and] at hb2
              rw [allB_up (n := p) hb2.symm (by omega)]
              rfl
          rw [z, bI_0.mp c16], rfl⟩
      · skip
        refine g_aload_n dX10_isLasting_19 rfl ?_
        refine g_geti dX10_isLasting_20 k_X10_137 rfl (by decide) rfl ?_
        rw [show (hi, hl, RT).1 53 1 = nI F from hF]
        refine g_istore_n dX10_isLasting_23 (by decide) rfl rfl ?_
        refine lp_lasIn hj0 hF4 hq hv hpF (b0 := b) (fun l2 hx2 => ?_) (N - F) 0 b (by omega) (by rw [allB, Bool.and_true])
        refine g_iinc dX10_isLasting_57 rfl (nI_inc p) (by decide) rfl rfl ?_
        refine g_goto 7 dX10_isLasting_60 (by decide) ?_
        exact ih (p + 1) _ _ (by omega) hx2 (by rw [allB, ← Bool.and_assoc, ← hb])

set_option maxRecDepth 100000 in
set_option maxHeartbeats 4000000 in
theorem ct_isLasting {N F : Nat} (hj : MO7 hi N F) (hF4 : F ≤ 4) {q : Nat → Nat} (hq : ∀ p, p < F → hi 67 p = nI (q p)) (hv : RVq q F N) : MC E l 7 mX10_isLasting [.ref 53] 83 (hi, hl, RT) 0 0 (fun r h' => r = some (.int (bI (laB (vm hi N F) q F N))) ∧ h' = (hi, hl, RT)) := by
  refine MC.of [some (.ref 53), none, none, none] (by decide) rfl (Nat.le_of_ble_eq_true rfl) ?_
  refine g_aload_n dX10_isLasting_0 rfl ?_
  refine g_callV0 (M' := mX10_isRow) (mc' := 0) (ms' := 0) dX10_isLasting_1 l_X10_239 s_mX10_isRow (by decide) rfl rfl f_mX10_isRow (Nat.le_of_ble_eq_true rfl) (by decide) (ct_isRow hj hF4 hq hv) ?_
  rintro _ _ ⟨rfl, rfl⟩
  refine g_istore_n dX10_isLasting_4 (by decide) rfl rfl ?_
  refine g_iconst (v := 0) dX10_isLasting_5 (by decide) ?_
  refine g_istore_n dX10_isLasting_6 (by decide) rfl rfl ?_
  exact lp_las hj hF4 hq hv F 0 _ none (by omega) rfl (by rw [allB, Bool.and_true])

def P7 (f g : Nat → Nat → Int32) : Prop := ∀ a k, ¬ a = 67 → g a k = f a k
theorem P7.rf {f : Nat → Nat → Int32} : P7 f f := fun _ _ _ => rfl
theorem P7.trans {f g h : Nat → Nat → Int32} (h1 : P7 f g) (h2 : P7 g h) : P7 f h := fun a k q => (h2 a k q).trans (h1 a k q)
theorem P7.up {f : Nat → Nat → Int32} {k : Nat} {x : Int32} : P7 f (upI f 67 k x) := fun a j h => upI_a h
theorem P7.mo {f g : Nat → Nat → Int32} {N F : Nat} (h : P7 f g) (hj : MO7 f N F) : MO7 g N F := hj.of (h 53 1 (by decide)) (h 53 2 (by decide))
theorem P7.vm {f g : Nat → Nat → Int32} {N F : Nat} (h : P7 f g) : vm g N F = vm f N F := m_congr (fun k _ a h1 h2 => h a k (by omega))
theorem q_up {g : Nat → Nat → Int32} {q : Nat → Nat} {F p d : Nat} (hq : ∀ k, k < F → g 67 k = nI (q k)) : ∀ k, k < F → upI g 67 p (nI d) 67 k = nI (uN q p d k) := by
  intro k hk
  unfold uN
  by_cases e : k = p
  · rw [if_pos e, e, upI_s]
  · rw [if_neg e, upI_k e, hq k hk]
theorem rv_up {q : Nat → Nat} {F N p d : Nat} (hv : RVq q F N) (hd : d = 0 ∨ (F < d ∧ d ≤ N)) : RVq (uN q p d) F N := by
  intro k hk
  unfold uN
  by_cases e : k = p
  · rw [if_pos e]; exact hd
  · rw [if_neg e]; exact hv k hk
def NXQ (hl : Nat → Nat → Int64) (g : Nat → Nat → Int32) (F N : Nat) (o : Option (Nat → Nat)) (r : Option Value) (h' : XH) : Prop := ∃ hf, h' = (hf, hl, RT) ∧ P7 g hf ∧ (match o with | none => r = some (.int 0) | some q' => r = some (.int 1) ∧ (∀ k, k < F → hf 67 k = nI (q' k)) ∧ RVq q' F N)
def dnI : Nat → Int32
  | 0 => -1
  | n + 1 => nI n
theorem dn_eq (n : Nat) : nI n - 1 = dnI n := by
  cases n with
  | zero => decide
  | succ m => exact pk_sub (a := m + 1) (b := 1) (by omega)

theorem nI_dec1 (n : Nat) : nI n + Int32.ofInt (-1) = dnI n := by
  cases n with
  | zero => decide
  | succ m => exact nI_dec m

set_option maxRecDepth 100000 in
set_option maxHeartbeats 4000000 in
theorem lp_nextRow {N F : Nat} (hF4 : F ≤ 4) (hFN1 : F < N) : ∀ (n : Nat) (q : Nat → Nat) (g : Nat → Nat → Int32), n ≤ F → MO7 g N F → (∀ p, p < F → g 67 p = nI (q p)) → RVq q F N → G E l 1 mX10_nextRow 7 [some (.ref 53), some (.int (dnI n))] [] 83 (g, hl, RT) 0 0 (NXQ hl g F N (nxF F N n q)) := by
  intro n
  induction n with
  | zero =>
    intro q g hnF hj hq hv
    refine g_iload_n dX10_nextRow_7 rfl ?_
    refine g_iflt 37 dX10_nextRow_8 (by decide) (fun c8 => ?_) (fun c8 => ?_)
    · skip
      refine g_iload_n dX10_nextRow_37 rfl ?_
      refine g_ifge 43 dX10_nextRow_38 (by decide) (fun c38 => ?_) (fun c38 => ?_)
      · skip
        exact absurd c38 (by decide)
      · skip
        refine g_iconst (v := 0) dX10_nextRow_41 (by decide) ?_
        exact g_ireturn dX10_nextRow_42 rfl rfl ⟨g, rfl, P7.rf, rfl⟩
    · skip
      exact absurd (by decide) c8
  | succ n ih =>
    intro q g hnF hj hq hv
    have hN8 := hj.1
    have hN := hj.2.2.1
    have hF := hj.2.2.2
    have ecn : (nI n).toNatClampNeg = n := nI_clamp (by omega)
    have hqn : g 67 n = nI (q n) := hq n (by omega)
    have hqb : q n ≤ 8 := by rcases hv n (by omega) with h | h <;> omega
    have hd : dnI (n + 1) = nI n := rfl
    rw [hd]
    refine g_iload_n dX10_nextRow_7 rfl ?_
    refine g_iflt 37 dX10_nextRow_8 (by decide) (fun c8 => ?_) (fun c8 => ?_)
    · skip
      exact absurd c8 (nI_pos (by omega))
    · skip
      refine g_aload_n dX10_nextRow_11 rfl ?_
      refine g_getr dX10_nextRow_12 k_X10_50 rfl (by decide) rfl rfl ?_
      refine g_iload_n dX10_nextRow_15 rfl ?_
      refine g_iald dX10_nextRow_16 (by decide) rfl (vp_in_nI (by omega) (by decide)) ?_
      refine g_aload_n dX10_nextRow_17 rfl ?_
      refine g_geti dX10_nextRow_18 k_X10_140 rfl (by decide) rfl ?_
      refine g_icmpne 37 dX10_nextRow_21 (by decide) (fun c21 => ?_) (fun c21 => ?_)
      · skip
        have c22 : ¬ q n = N := by
          intro z
          exact c21 (by show g 67 (nI n).toNatClampNeg = g 53 2; rw [ecn, hqn, hN, z])
        refine g_iload_n dX10_nextRow_37 rfl ?_
        refine g_ifge 43 dX10_nextRow_38 (by decide) (fun c38 => ?_) (fun c38 => ?_)
        · skip
          refine g_aload_n dX10_nextRow_43 rfl ?_
          refine g_getr dX10_nextRow_44 k_X10_50 rfl (by decide) rfl rfl ?_
          refine g_iload_n dX10_nextRow_47 rfl ?_
          refine g_aload_n dX10_nextRow_48 rfl ?_
          refine g_getr dX10_nextRow_49 k_X10_50 rfl (by decide) rfl rfl ?_
          refine g_iload_n dX10_nextRow_52 rfl ?_
          refine g_iald dX10_nextRow_53 (by decide) rfl (vp_in_nI (by omega) (by decide)) ?_
          refine g_ifne 66 dX10_nextRow_54 (by decide) (fun c54 => ?_) (fun c54 => ?_)
          · skip
            refine g_aload_n dX10_nextRow_66 rfl ?_
            refine g_getr dX10_nextRow_67 k_X10_50 rfl (by decide) rfl rfl ?_
            refine g_iload_n dX10_nextRow_70 rfl ?_
            refine g_iald dX10_nextRow_71 (by decide) rfl (vp_in_nI (by omega) (by decide)) ?_
            refine g_iconst (v := 1) dX10_nextRow_72 (by decide) ?_
            refine g_iadd dX10_nextRow_73 ?_
            refine g_iast dX10_nextRow_74 (by decide) rfl (vp_in_nI (by omega) (by decide)) ?_
            refine g_iconst (v := 1) dX10_nextRow_75 (by decide) ?_
            exact g_ireturn dX10_nextRow_76 rfl rfl (by
          have c55 : ¬ q n = 0 := by
            intro z
            exact c54 (by show g 67 (nI n).toNatClampNeg = 0; rw [ecn, hqn, z]; rfl)
          rw [nxF, if_neg c22, if_neg c55]
          have hvn := hv n (by omega)
          refine ⟨_, rfl, ?_, rfl, ?_, rv_up hv (Or.inr ⟨by omega, by omega⟩)⟩
          · rw [ecn]; exact P7.up
          · show ∀ k, k < F → upI g 67 (nI n).toNatClampNeg (g 67 (nI n).toNatClampNeg + 1) 67 k = nI (uN q n (q n + 1) k)
            rw [ecn, hqn, nI_inc1]
            exact q_up hq)
          · skip
            refine g_aload_n dX10_nextRow_57 rfl ?_
            refine g_geti dX10_nextRow_58 k_X10_137 rfl (by decide) rfl ?_
            refine g_iconst (v := 1) dX10_nextRow_61 (by decide) ?_
            refine g_iadd dX10_nextRow_62 ?_
            refine g_goto 74 dX10_nextRow_63 (by decide) ?_
            refine g_iast dX10_nextRow_74 (by decide) rfl (vp_in_nI (by omega) (by decide)) ?_
            refine g_iconst (v := 1) dX10_nextRow_75 (by decide) ?_
            exact g_ireturn dX10_nextRow_76 rfl rfl (by
          have c55 : q n = 0 := by
            have c56 : g 67 (nI n).toNatClampNeg = 0 := c54
            rw [ecn, hqn] at c56
            exact (nI_eq (b := 0) (by omega) (by decide)).mp c56
          rw [nxF, if_neg c22, if_pos c55]
          refine ⟨_, rfl, ?_, rfl, ?_, rv_up hv (Or.inr ⟨by omega, by omega⟩)⟩
          · rw [ecn]; exact P7.up
          · show ∀ k, k < F → upI g 67 (nI n).toNatClampNeg (g 53 1 + 1) 67 k = nI (uN q n (F + 1) k)
            rw [ecn, hF, nI_inc1]
            exact q_up hq)
        · skip
          exact absurd (nI_pos' (by omega)) c38
      · skip
        have c22 : q n = N := by
          have c23 : g 67 (nI n).toNatClampNeg = g 53 2 := c21
          rw [ecn, hqn, hN] at c23
          exact (nI_eq (by omega) (by omega)).mp c23
        refine g_aload_n dX10_nextRow_24 rfl ?_
        refine g_getr dX10_nextRow_25 k_X10_50 rfl (by decide) rfl rfl ?_
        refine g_iload_n dX10_nextRow_28 rfl ?_
        refine g_iconst (v := 0) dX10_nextRow_29 (by decide) ?_
        refine g_iast dX10_nextRow_30 (by decide) rfl (vp_in_nI (by omega) (by decide)) ?_
        refine g_iinc dX10_nextRow_31 rfl (nI_dec1 n) (by decide) rfl rfl ?_
        refine g_goto 7 dX10_nextRow_34 (by decide) ?_
        rw [ecn, nxF, if_pos c22]
        have hh := ih (uN q n 0) (upI g 67 n 0) (by omega) (P7.up.mo hj) (q_up (d := 0) hq) (rv_up hv (Or.inl rfl))
        refine g_mono (fun r h2 z => ?_) hh
        obtain ⟨hf, z1, z2, z3⟩ := z
        exact ⟨hf, z1, P7.up.trans z2, z3⟩

set_option maxRecDepth 100000 in
set_option maxHeartbeats 4000000 in
theorem ct_nextRow {N F : Nat} (hj : MO7 hi N F) (hF4 : F ≤ 4) {q : Nat → Nat} (hq : ∀ p, p < F → hi 67 p = nI (q p)) (hv : RVq q F N) (hFN1 : F < N) : MC E l 1 mX10_nextRow [.ref 53] 83 (hi, hl, RT) 0 0 (fun r h' => NXQ hl hi F N (nxF F N F q) r h') := by
  refine MC.of [some (.ref 53), none] (by decide) rfl (Nat.le_of_ble_eq_true rfl) ?_
  refine g_aload_n dX10_nextRow_0 rfl ?_
  refine g_geti dX10_nextRow_1 k_X10_137 rfl (by decide) rfl ?_
  refine g_iconst (v := 1) dX10_nextRow_4 (by decide) ?_
  refine g_isub dX10_nextRow_5 ?_
  rw [show (hi, hl, RT).1 53 1 = nI F from hj.2.2.2, dn_eq]
  refine g_istore_n dX10_nextRow_6 (by decide) rfl rfl ?_
  exact lp_nextRow hF4 hFN1 F q hi (Nat.le_refl _) hj hq hv

set_option maxRecDepth 100000 in
set_option maxHeartbeats 4000000 in
theorem ct_isBest {N F : Nat} (hj : MO7 hi N F) (hF4 : F ≤ 4) {q : Nat → Nat} (hq : ∀ p, p < F → hi 67 p = nI (q p)) (hv : RVq q F N) {t : Nat → Nat} (ht : ∀ p, p < F → hi 68 p = nI (t p)) (htv : RVq t F N) {p : Nat} (hp : p < F) : MC E l 3 mX10_isBest [.ref 53, .int (nI p)] 83 (hi, hl, RT) 0 0 (fun r h' => r = some (.int (bI (bsB (vm hi N F) q t p))) ∧ h' = (hi, hl, RT)) := by
  refine MC.of [some (.ref 53), some (.int (nI p))] (by decide) rfl (Nat.le_of_ble_eq_true rfl) ?_
  have hj0 := hj
  obtain ⟨hN8, hFN, hN, hF⟩ := hj
  have ecp : (nI p).toNatClampNeg = p := nI_clamp (by omega)
  have q1 : hi 67 (nI p).toNatClampNeg = nI (q p) := by rw [ecp]; exact hq p hp
  have t1 : hi 68 (nI p).toNatClampNeg = nI (t p) := by rw [ecp]; exact ht p hp
  have hqv := hv p hp
  have htw := htv p hp
  refine g_aload_n dX10_isBest_0 rfl ?_
  refine g_getr dX10_isBest_1 k_X10_50 rfl (by decide) rfl rfl ?_
  refine g_iload_n dX10_isBest_4 rfl ?_
  refine g_iald dX10_isBest_5 (by decide) rfl (vp_in_nI (by omega) (by decide)) ?_
  refine g_ifle 45 dX10_isBest_6 (by decide) (fun c6 => ?_) (fun c6 => ?_)
  · skip
    refine g_iconst (v := 0) dX10_isBest_45 (by decide) ?_
    exact g_ireturn dX10_isBest_46 rfl rfl ⟨by
      have z : q p = 0 := by
        have c7 : hi 67 (nI p).toNatClampNeg ≤ 0 := c6
        rw [q1] at c7
        exact Nat.le_zero.mp ((nI_leI (b := 0) (by omega) (by decide)).mp c7)
      simp [bsB, z, bI], rfl⟩
  · skip
    have n0 : ¬ q p = 0 := fun z => c6 (by show hi 67 (nI p).toNatClampNeg ≤ 0; rw [q1, z]; decide)
    refine g_aload_n dX10_isBest_9 rfl ?_
    refine g_getr dX10_isBest_10 k_X10_53 rfl (by decide) rfl rfl ?_
    refine g_iload_n dX10_isBest_13 rfl ?_
    refine g_iald dX10_isBest_14 (by decide) rfl (vp_in_nI (by omega) (by decide)) ?_
    refine g_ifeq 41 dX10_isBest_15 (by decide) (fun c15 => ?_) (fun c15 => ?_)
    · skip
      refine g_iconst (v := 1) dX10_isBest_41 (by decide) ?_
      refine g_goto 46 dX10_isBest_42 (by decide) ?_
      exact g_ireturn dX10_isBest_46 rfl rfl ⟨by
      have z : t p = 0 := by
        have c16 : hi 68 (nI p).toNatClampNeg = 0 := c15
        rw [t1] at c16
        exact (nI_eq (b := 0) (by omega) (by decide)).mp c16
      simp [bsB, n0, z, bI], rfl⟩
    · skip
      have n1 : ¬ t p = 0 := fun z => c15 (by show hi 68 (nI p).toNatClampNeg = 0; rw [t1, z]; rfl)
      refine g_aload_n dX10_isBest_18 rfl ?_
      refine g_aload_n dX10_isBest_19 rfl ?_
      refine g_getr dX10_isBest_20 k_X10_50 rfl (by decide) rfl rfl ?_
      refine g_iload_n dX10_isBest_23 rfl ?_
      refine g_iald dX10_isBest_24 (by decide) rfl (vp_in_nI (by omega) (by decide)) ?_
      refine g_iconst (v := 1) dX10_isBest_25 (by decide) ?_
      refine g_isub dX10_isBest_26 ?_
      refine g_aload_n dX10_isBest_27 rfl ?_
      refine g_getr dX10_isBest_28 k_X10_53 rfl (by decide) rfl rfl ?_
      refine g_iload_n dX10_isBest_31 rfl ?_
      refine g_iald dX10_isBest_32 (by decide) rfl (vp_in_nI (by omega) (by decide)) ?_
      refine g_iconst (v := 1) dX10_isBest_33 (by decide) ?_
      refine g_isub dX10_isBest_34 ?_
      rw [show (hi, hl, RT).1 67 (nI p).toNatClampNeg = nI (q p) from q1, show (hi, hl, RT).1 68 (nI p).toNatClampNeg = nI (t p) from t1, show nI (q p) - 1 = nI (q p - 1) from pk_sub (b := 1) (by omega), show nI (t p) - 1 = nI (t p - 1) from pk_sub (b := 1) (by omega)]
      refine g_callV2 (M' := mX10_prefers) (mc' := 0) (ms' := 0) dX10_isBest_35 l_X10_236 s_mX10_prefers (by decide) rfl rfl f_mX10_prefers (Nat.le_of_ble_eq_true rfl) (by decide) (ct_prefers hj0 (by omega) (by omega)) ?_
      rintro _ _ ⟨rfl, rfl⟩
      refine g_ifeq 45 dX10_isBest_38 (by decide) (fun c38 => ?_) (fun c38 => ?_)
      · skip
        refine g_iconst (v := 0) dX10_isBest_45 (by decide) ?_
        exact g_ireturn dX10_isBest_46 rfl rfl ⟨by simp [bsB, n0, n1, bI_0.mp c38, bI], rfl⟩
      · skip
        refine g_iconst (v := 1) dX10_isBest_41 (by decide) ?_
        refine g_goto 46 dX10_isBest_42 (by decide) ?_
        exact g_ireturn dX10_isBest_46 rfl rfl ⟨by simp [bsB, n0, n1, bI_n.mp c38, bI], rfl⟩

theorem bs_congr {v : VV} {q t t' : Nat → Nat} {i : Nat} (h : t i = t' i) : bsB v q t i = bsB v q t' i := by
  unfold bsB
  rw [h]
def LM (f g : Nat → Nat → Int32) : Prop := ∀ a k, ¬ a = 67 → ¬ a = 68 → ¬ (a = 53 ∧ k = 29) → g a k = f a k
theorem LM.rf {f : Nat → Nat → Int32} : LM f f := fun _ _ _ _ _ => rfl
theorem LM.trans {f g h : Nat → Nat → Int32} (h1 : LM f g) (h2 : LM g h) : LM f h := fun a k q z w => (h2 a k q z w).trans (h1 a k q z w)
theorem LM.mo {f g : Nat → Nat → Int32} {N F : Nat} (h : LM f g) (hj : MO7 f N F) : MO7 g N F := hj.of (h 53 1 (by decide) (by decide) (by omega)) (h 53 2 (by decide) (by decide) (by omega))
theorem LM.vm {f g : Nat → Nat → Int32} {N F : Nat} (h : LM f g) : vm g N F = vm f N F := m_congr (fun k _ a h1 h2 => h a k (by omega) (by omega) (by omega))
theorem LM.p7 {f g : Nat → Nat → Int32} (h : P7 f g) : LM f g := fun a k q _ _ => h a k q
/-- the rows so far -/
def LSm (g : Nat → Nat → Int32) (F N : Nat) (s : SN) : Prop := (∀ k, k < 4 → g 68 k = nI (s.1 k)) ∧ RVq s.1 F N ∧ g 53 29 = s.2

set_option maxRecDepth 100000 in
set_option maxHeartbeats 4000000 in
theorem lp_layIn {N F : Nat} (hF4 : F ≤ 4) {q : Nat → Nat} (hv : RVq q F N) {s : SN} {Q : Option Value → XH → Prop} {l1 : Int32} : ∀ (n i : Nat) (g : Nat → Nat → Int32), i + n = F → LM hi g → MO7 g N F → (∀ p, p < F → g 67 p = nI (q p)) → LSm g F N ((fun k => if k < i ∧ bsB (vm hi N F) q s.1 k = true then q k else s.1 k), s.2) → (∀ hf l2, xcat2 l2 = false → LM hi hf → (∀ p, p < F → hf 67 p = nI (q p)) → LSm hf F N ((fun k => if k < F ∧ bsB (vm hi N F) q s.1 k = true then q k else s.1 k), s.2) → G E l 8 mX10_layLasting 90 [some (.ref 53), some (.int l1), l2] [] 83 (hf, hl, RT) 0 0 Q) → G E l 8 mX10_layLasting 47 [some (.ref 53), some (.int l1), some (.int (nI i))] [] 83 (g, hl, RT) 0 0 Q := by
  intro n
  induction n with
  | zero =>
    intro i g hin hlm hj hq hls hk
    have hN8 := hj.1
    have hFN := hj.2.1
    have hF := hj.2.2.2
    have hiF : i = F := by omega
    refine g_iload_n dX10_layLasting_47 rfl ?_
    refine g_aload_n dX10_layLasting_48 rfl ?_
    refine g_geti dX10_layLasting_49 k_X10_137 rfl (by decide) rfl ?_
    refine g_icmpge 90 dX10_layLasting_52 (by decide) (fun c52 => ?_) (fun c52 => ?_)
    · skip
      rw [hiF] at hls
      exact hk g _ rfl hlm hq hls
    · skip
      exact absurd (by show g 53 1 ≤ nI i; rw [hF]; exact nI_le (by omega) (by omega)) c52
  | succ n ih =>
    intro i g hin hlm hj hq hls hk
    have hN8 := hj.1
    have hFN := hj.2.1
    have hF := hj.2.2.2
    have hlt : i < F := by omega
    have eci : (nI i).toNatClampNeg = i := nI_clamp (by omega)
    have h8 := hls.1
    have hti : s.1 i = (fun k => if k < i ∧ bsB (vm hi N F) q s.1 k = true then q k else s.1 k) i := by show _ = if i < i ∧ _ then _ else _; rw [if_neg (by omega)]
    have hbt : bsB (vm hi N F) q (fun k => if k < i ∧ bsB (vm hi N F) q s.1 k = true then q k else s.1 k) i = bsB (vm hi N F) q s.1 i := bs_congr hti.symm
    refine g_iload_n dX10_layLasting_47 rfl ?_
    refine g_aload_n dX10_layLasting_48 rfl ?_
    refine g_geti dX10_layLasting_49 k_X10_137 rfl (by decide) rfl ?_
    refine g_icmpge 90 dX10_layLasting_52 (by decide) (fun c52 => ?_) (fun c52 => ?_)
    · skip
      exact absurd (ge_out hF c52 (by omega) (by omega)) (by omega)
    · skip
      refine g_aload_n dX10_layLasting_55 rfl ?_
      refine g_getr dX10_layLasting_56 k_X10_53 rfl (by decide) rfl rfl ?_
      refine g_iload_n dX10_layLasting_59 rfl ?_
      refine g_aload_n dX10_layLasting_60 rfl ?_
      refine g_iload_n dX10_layLasting_61 rfl ?_
      refine g_callV1 (M' := mX10_isBest) (mc' := 0) (ms' := 0) dX10_layLasting_62 l_X10_252 s_mX10_isBest (by decide) rfl rfl f_mX10_isBest (Nat.le_of_ble_eq_true rfl) (by decide) (ct_isBest (hi := g) hj hF4 hq hv (fun p hp => h8 p (by omega)) hls.2.1 hlt) ?_
      rintro _ _ ⟨rfl, rfl⟩
      refine g_ifeq 77 dX10_layLasting_65 (by decide) (fun c65 => ?_) (fun c65 => ?_)
      · skip
        refine g_aload_n dX10_layLasting_77 rfl ?_
        refine g_getr dX10_layLasting_78 k_X10_53 rfl (by decide) rfl rfl ?_
        refine g_iload_n dX10_layLasting_81 rfl ?_
        refine g_iald dX10_layLasting_82 (by decide) rfl (vp_in_nI (by omega) (by decide)) ?_
        refine g_iast dX10_layLasting_83 (by decide) rfl (vp_in_nI (by omega) (by decide)) ?_
        refine g_iinc dX10_layLasting_84 rfl (nI_inc i) (by decide) rfl rfl ?_
        refine g_goto 47 dX10_layLasting_87 (by decide) ?_
        have hb : bsB (vm hi N F) q s.1 i = false := hbt.symm.trans (by have z := bI_0.mp c65; rw [hlm.vm] at z; exact z)
        dsimp only
        rw [eci, show g 68 i = nI (s.1 i) from (h8 i (by omega)).trans (congrArg nI hti.symm)]
        refine ih (i + 1) (upI g 68 i (nI (s.1 i))) (by omega) (hlm.trans (fun a k _ z _ => upI_a z)) ((LM.mo (fun a k _ z _ => upI_a z)) hj) (fun p hp => (upI_a (by decide)).trans (hq p hp)) ⟨fun k hk4 => ?_, fun k hkF => ?_, (upI_a (by decide)).trans hls.2.2⟩ hk
        · show upI g 68 i (nI (s.1 i)) 68 k = nI (if k < i + 1 ∧ bsB (vm hi N F) q s.1 k = true then q k else s.1 k)
          by_cases e : k = i
          · rw [e, upI_s, if_neg (fun z => absurd (hb.symm.trans z.2) (by decide))]
          · rw [upI_k e, h8 k hk4]
            show nI (if k < i ∧ bsB (vm hi N F) q s.1 k = true then q k else s.1 k) = _
            by_cases e2 : k < i ∧ bsB (vm hi N F) q s.1 k = true
            · rw [if_pos e2, if_pos ⟨by omega, e2.2⟩]
            · rw [if_neg e2, if_neg (fun z => e2 ⟨by omega, z.2⟩)]
        · show (if k < i + 1 ∧ bsB (vm hi N F) q s.1 k = true then q k else s.1 k) = 0 ∨ (F < (if k < i + 1 ∧ bsB (vm hi N F) q s.1 k = true then q k else s.1 k) ∧ (if k < i + 1 ∧ bsB (vm hi N F) q s.1 k = true then q k else s.1 k) ≤ N)
          by_cases e2 : k < i + 1 ∧ bsB (vm hi N F) q s.1 k = true
          · rw [if_pos e2]
            exact hv k hkF
          · rw [if_neg e2]
            have z : (if k < i ∧ bsB (vm hi N F) q s.1 k = true then q k else s.1 k) = 0 ∨ (F < (if k < i ∧ bsB (vm hi N F) q s.1 k = true then q k else s.1 k) ∧ (if k < i ∧ bsB (vm hi N F) q s.1 k = true then q k else s.1 k) ≤ N) := hls.2.1 k hkF
            rw [if_neg (c := k < i ∧ bsB (vm hi N F) q s.1 k = true) (fun w => e2 ⟨by omega, w.2⟩)] at z
            exact z
      · skip
        refine g_aload_n dX10_layLasting_68 rfl ?_
        refine g_getr dX10_layLasting_69 k_X10_50 rfl (by decide) rfl rfl ?_
        refine g_iload_n dX10_layLasting_72 rfl ?_
        refine g_iald dX10_layLasting_73 (by decide) rfl (vp_in_nI (by omega) (by decide)) ?_
        refine g_goto 83 dX10_layLasting_74 (by decide) ?_
        refine g_iast dX10_layLasting_83 (by decide) rfl (vp_in_nI (by omega) (by decide)) ?_
        refine g_iinc dX10_layLasting_84 rfl (nI_inc i) (by decide) rfl rfl ?_
        refine g_goto 47 dX10_layLasting_87 (by decide) ?_
        have hb : bsB (vm hi N F) q s.1 i = true := hbt.symm.trans (by have z := bI_n.mp c65; rw [hlm.vm] at z; exact z)
        dsimp only
        rw [eci, show g 67 i = nI (q i) from hq i hlt]
        refine ih (i + 1) (upI g 68 i (nI (q i))) (by omega) (hlm.trans (fun a k _ z _ => upI_a z)) ((LM.mo (fun a k _ z _ => upI_a z)) hj) (fun p hp => (upI_a (by decide)).trans (hq p hp)) ⟨fun k hk4 => ?_, fun k hkF => ?_, (upI_a (by decide)).trans hls.2.2⟩ hk
        · show upI g 68 i (nI (q i)) 68 k = nI (if k < i + 1 ∧ bsB (vm hi N F) q s.1 k = true then q k else s.1 k)
          by_cases e : k = i
          · rw [e, upI_s, if_pos ⟨by omega, hb⟩]
          · rw [upI_k e, h8 k hk4]
            show nI (if k < i ∧ bsB (vm hi N F) q s.1 k = true then q k else s.1 k) = _
            by_cases e2 : k < i ∧ bsB (vm hi N F) q s.1 k = true
            · rw [if_pos e2, if_pos ⟨by omega, e2.2⟩]
            · rw [if_neg e2, if_neg (fun z => e2 ⟨by omega, z.2⟩)]
        · show (if k < i + 1 ∧ bsB (vm hi N F) q s.1 k = true then q k else s.1 k) = 0 ∨ (F < (if k < i + 1 ∧ bsB (vm hi N F) q s.1 k = true then q k else s.1 k) ∧ (if k < i + 1 ∧ bsB (vm hi N F) q s.1 k = true then q k else s.1 k) ≤ N)
          by_cases e2 : k < i + 1 ∧ bsB (vm hi N F) q s.1 k = true
          · rw [if_pos e2]
            exact hv k hkF
          · rw [if_neg e2]
            have z : (if k < i ∧ bsB (vm hi N F) q s.1 k = true then q k else s.1 k) = 0 ∨ (F < (if k < i ∧ bsB (vm hi N F) q s.1 k = true then q k else s.1 k) ∧ (if k < i ∧ bsB (vm hi N F) q s.1 k = true then q k else s.1 k) ≤ N) := hls.2.1 k hkF
            rw [if_neg (c := k < i ∧ bsB (vm hi N F) q s.1 k = true) (fun w => e2 ⟨by omega, w.2⟩)] at z
            exact z

set_option maxRecDepth 100000 in
set_option maxHeartbeats 4000000 in
theorem lp_lay {N F : Nat} (hF4 : F ≤ 4) (hFN1 : F < N) {s' : SN} : ∀ (n : Nat) (q : Nat → Nat) (s : SN) (g : Nat → Nat → Int32) (l2 : Option Value), xcat2 l2 = false → LM hi g → MO7 g N F → (∀ p, p < F → g 67 p = nI (q p)) → RVq q F N → LSm g F N s → runF (vm hi N F) F N n q s = some s' → G E l 8 mX10_layLasting 34 [some (.ref 53), some (.int 1), l2] [] 83 (g, hl, RT) 0 0 (fun r h' => r = none ∧ ∃ hf, h' = (hf, hl, RT) ∧ LM hi hf ∧ LSm hf F N s') := by
  intro n
  induction n with
  | zero =>
    intro q s g l2 hx hlm hj hq hv hls hr
    exact absurd hr (by rw [runF]; intro z; cases z)
  | succ n ih =>
    intro q s g l2 hx hlm hj hq hv hls hr
    have hend : ∀ (hf : Nat → Nat → Int32) (l3 : Option Value), xcat2 l3 = false → LM hi hf → MO7 hf N F → (∀ p, p < F → hf 67 p = nI (q p)) → LSm hf F N (lfF (vm hi N F) F N q s) → G E l 8 mX10_layLasting 100 [some (.ref 53), some (.int 1), l3] [] 83 (hf, hl, RT) 0 0 (fun r h' => r = none ∧ ∃ hf, h' = (hf, hl, RT) ∧ LM hi hf ∧ LSm hf F N s') := by
      intro hf l3 hx3 hlm hj hq hls
      refine g_aload_n dX10_layLasting_100 rfl ?_
      refine g_callV0 (M' := mX10_nextRow) (mc' := 0) (ms' := 0) dX10_layLasting_101 l_X10_255 s_mX10_nextRow (by decide) rfl rfl f_mX10_nextRow (Nat.le_of_ble_eq_true rfl) (by decide) (ct_nextRow hj hF4 hq hv hFN1) ?_
      rintro r h2 ⟨hg, rfl, hp7, hm⟩
      rw [runF] at hr
      cases hx5 : nxF F N F q with
      | none =>
        rw [hx5] at hr hm
        subst hm
        refine g_istore_n dX10_layLasting_104 (by decide) rfl rfl ?_
        refine g_goto 34 dX10_layLasting_105 (by decide) ?_
        refine g_iload_n dX10_layLasting_34 rfl ?_
        refine g_ifeq 108 dX10_layLasting_35 (by decide) (fun _ => ?_) (fun c => absurd c (by decide))
        exact g_return dX10_layLasting_108 rfl ⟨rfl, hg, rfl, hlm.trans (LM.p7 hp7), by
          cases hr
          exact ⟨fun k hk => (hp7 68 k (by decide)).trans (hls.1 k hk), hls.2.1, (hp7 53 29 (by decide)).trans hls.2.2⟩⟩
      | some q2 =>
        rw [hx5] at hr hm
        obtain ⟨rfl, hq2, hv2⟩ := hm
        refine g_istore_n dX10_layLasting_104 (by decide) rfl rfl ?_
        refine g_goto 34 dX10_layLasting_105 (by decide) ?_
        exact ih q2 _ hg _ hx3 (hlm.trans (LM.p7 hp7)) (hp7.mo hj) hq2 hv2 ⟨fun k hk => (hp7 68 k (by decide)).trans (hls.1 k hk), hls.2.1, (hp7 53 29 (by decide)).trans hls.2.2⟩ hr
    cases hla : laB (vm hi N F) q F N with
    | false =>
      have e : lfF (vm hi N F) F N q s = s := by rw [lfF, hla]; rfl
      rw [e] at hend
      refine g_iload_n dX10_layLasting_34 rfl ?_
      refine g_ifeq 108 dX10_layLasting_35 (by decide) (fun c => absurd c (by decide)) (fun _ => ?_)
      refine g_aload_n dX10_layLasting_38 rfl ?_
      refine g_callV0 (M' := mX10_isLasting) (mc' := 0) (ms' := 0) dX10_layLasting_39 l_X10_249 s_mX10_isLasting (by decide) rfl rfl f_mX10_isLasting (Nat.le_of_ble_eq_true rfl) (by decide) ((ct_isLasting hj hF4 hq hv).weaken (fun r h' z => (⟨by rw [z.1, hlm.vm, hla]; rfl, z.2⟩ : r = some (.int 0) ∧ h' = (g, hl, RT)))) ?_
      rintro _ _ ⟨rfl, rfl⟩
      refine g_ifeq 100 dX10_layLasting_42 (by decide) (fun _ => ?_) (fun c => absurd c (by decide))
      exact hend g _ hx hlm hj hq hls
    | true =>
      have e : lfF (vm hi N F) F N q s = (fun p => if p < F ∧ bsB (vm hi N F) q s.1 p = true then q p else s.1 p, s.2 + 1) := by rw [lfF, hla]; rfl
      rw [e] at hend
      refine g_iload_n dX10_layLasting_34 rfl ?_
      refine g_ifeq 108 dX10_layLasting_35 (by decide) (fun c => absurd c (by decide)) (fun _ => ?_)
      refine g_aload_n dX10_layLasting_38 rfl ?_
      refine g_callV0 (M' := mX10_isLasting) (mc' := 0) (ms' := 0) dX10_layLasting_39 l_X10_249 s_mX10_isLasting (by decide) rfl rfl f_mX10_isLasting (Nat.le_of_ble_eq_true rfl) (by decide) ((ct_isLasting hj hF4 hq hv).weaken (fun r h' z => (⟨by rw [z.1, hlm.vm, hla]; rfl, z.2⟩ : r = some (.int 1) ∧ h' = (g, hl, RT)))) ?_
      rintro _ _ ⟨rfl, rfl⟩
      refine g_ifeq 100 dX10_layLasting_42 (by decide) (fun c => absurd c (by decide)) (fun _ => ?_)
      refine g_iconst (v := 0) dX10_layLasting_45 (by decide) ?_
      refine g_istore_n dX10_layLasting_46 (by decide) rfl rfl ?_
      have h00 : (fun k => if k < 0 ∧ bsB (vm hi N F) q s.1 k = true then q k else s.1 k) = s.1 := by funext k; exact if_neg (by omega)
      refine lp_layIn hF4 hv (s := s) F 0 g (by omega) hlm hj hq (by rw [h00]; exact hls) (fun hf l3 hx3 w1 w2 w3 => ?_)
      refine g_aload_n dX10_layLasting_90 rfl ?_
      refine g_dup dX10_layLasting_91 rfl ?_
      refine g_geti dX10_layLasting_92 k_X10_246 rfl (by decide) rfl ?_
      refine g_iconst (v := 1) dX10_layLasting_95 (by decide) ?_
      refine g_iadd dX10_layLasting_96 ?_
      refine g_puti dX10_layLasting_97 k_X10_246 rfl (by decide) rfl rfl rfl ?_
      dsimp only
      rw [show hf 53 29 = s.2 from w3.2.2]
      exact hend _ _ hx3 (w1.trans (fun a k _ _ z => upI_a' z)) ((LM.mo (fun a k _ _ z => upI_a' z)) (w1.mo (LM.mo (f := g) (fun a k h1 h2 h3 => (hlm a k h1 h2 h3).symm) hj))) (fun p hp => (upI_a (by decide)).trans (w2 p hp)) ⟨fun k hk => (upI_a (by decide)).trans (w3.1 k hk), w3.2.1, upI_s⟩

end
