section
variable {E : XE} {l : Launch} {hi : Nat → Nat → Int32} {hl : Nat → Nat → Int64}

/-! lasting rows -/
abbrev ST : Type := (Nat → Int32) × Int32
def mutB (U : Nat → Int32) (i j : Nat) : Bool := !decide (U i &&& bitI j = 0)
def wantB (K m : Nat → Int32) (i j : Nat) : Bool := decide (m i = -1) || decide (K j < K (m i).toNatClampNeg)
def blkB (U K m : Nat → Int32) (i j : Nat) : Bool := mutB U i j && (wantB K m i j && wantB K m j i)
def lasB (U K m : Nat → Int32) (F N : Nat) : Bool := allB (fun i => allB (fun j => !blkB U K m i (F + j)) (N - F)) F
def keepF (F : Nat) (m : Nat → Int32) (s : ST) : ST := if s.2 = 0 then (fun k => if k < F then m k else s.1 k, s.2 + 1) else (s.1, s.2 + 1)
def plF (step : Nat → ST → ST) : Nat → Nat → ST → ST
  | 0, _, s => s
  | n + 1, q, s => plF step n (q + 1) (step q s)
def tfF (O : Nat → Nat) (U K : Nat → Int32) (F N : Nat) : Nat → Nat → (Nat → Int32) → ST → ST
  | 0, _, m, s => if lasB U K m F N = true then keepF F m s else s
  | n + 1, i, m, s => tfF O U K F N n (i + 1) m (plF (fun q s => if mutB U i (O q) = true ∧ m (O q) = -1 then tfF O U K F N n (i + 1) (upd (upd m i (nI (O q))) (O q) (nI i)) s else s) N 0 s)
/-- the rows stand so -/
def LJ (g : Nat → Nat → Int32) (N : Nat) (O : Nat → Nat) (K U m t : Nat → Int32) (r : Int32) : Prop := (∀ k, k < N → g 48 k = nI (O k)) ∧ (∀ k, k < N → g 49 k = K k) ∧ (∀ k, k < N → g 50 k = U k) ∧ (∀ k, k < N → g 51 k = m k) ∧ (∀ k, k < 4 → g 52 k = t k) ∧ g 47 5 = r
def LR (g hf : Nat → Nat → Int32) : Prop := ∀ a k, ¬ a = 51 → ¬ a = 52 → ¬ (a = 47 ∧ k = 5) → hf a k = g a k
theorem LR.rf {f : Nat → Nat → Int32} : LR f f := fun _ _ _ _ _ => rfl
theorem LR.trans {f g h : Nat → Nat → Int32} (h1 : LR f g) (h2 : LR g h) : LR f h := fun a k q z w => (h2 a k q z w).trans (h1 a k q z w)
/-- mates are people, or nobody -/
def MO (m : Nat → Int32) (N : Nat) : Prop := ∀ k, k < N → m k = -1 ∨ ∃ j : Nat, j < N ∧ m k = nI j

set_option maxRecDepth 100000 in
set_option maxHeartbeats 4000000 in
theorem ct_isMutual {N : Nat} (hN8 : N ≤ 8) {O : Nat → Nat} {K U m t : Nat → Int32} {rr : Int32} {g : Nat → Nat → Int32} (hj : LJ g N O K U m t rr) {i j : Nat} (hi : i < N) (hj8 : j < 8) : MC E l 1 mX3_isMutual [.ref 47, .int (nI i), .int (nI j)] 83 (g, hl, RT) 0 0 (fun r h' => r = some (.int (bI (mutB U i j))) ∧ h' = (g, hl, RT)) := by
  refine MC.of [some (.ref 47), some (.int (nI i)), some (.int (nI j))] (by decide) rfl (Nat.le_of_ble_eq_true rfl) ?_
  have ecl : (nI i).toNatClampNeg = i := nI_clamp (by omega)
  refine g_aload_n dX3_isMutual_0 rfl ?_
  refine g_getr dX3_isMutual_1 k_X3_18 rfl (by decide) rfl rfl ?_
  refine g_iload_n dX3_isMutual_4 rfl ?_
  refine g_iald dX3_isMutual_5 (by decide) rfl (vp_in_nI (by omega) (by decide)) ?_
  rw [ecl, show (g, hl, RT).1 50 i = U i from hj.2.2.1 i hi]
  refine g_iconst (v := 1) dX3_isMutual_6 (by decide) ?_
  refine g_iload_n dX3_isMutual_7 rfl ?_
  refine g_ishl dX3_isMutual_8 ?_
  refine g_iand dX3_isMutual_9 ?_
  refine g_ifeq 17 dX3_isMutual_10 (by decide) (fun c10 => ?_) (fun c10 => ?_)
  · skip
    refine g_iconst (v := 0) dX3_isMutual_17 (by decide) ?_
    exact g_ireturn dX3_isMutual_18 rfl rfl ⟨by have := c10; simp_all [bI, mutB, bitI], rfl⟩
  · skip
    refine g_iconst (v := 1) dX3_isMutual_13 (by decide) ?_
    refine g_goto 18 dX3_isMutual_14 (by decide) ?_
    exact g_ireturn dX3_isMutual_18 rfl rfl ⟨by have := c10; simp_all [bI, mutB, bitI], rfl⟩

set_option maxRecDepth 100000 in
set_option maxHeartbeats 4000000 in
theorem ct_wants {N : Nat} (hN8 : N ≤ 8) {O : Nat → Nat} {K U m t : Nat → Int32} {rr : Int32} {g : Nat → Nat → Int32} (hj : LJ g N O K U m t rr) (hmo : MO m N) {i j : Nat} (hi : i < N) (hjN : j < N) : MC E l 1 mX3_wants [.ref 47, .int (nI i), .int (nI j)] 83 (g, hl, RT) 0 0 (fun r h' => r = some (.int (bI (wantB K m i j))) ∧ h' = (g, hl, RT)) := by
  refine MC.of [some (.ref 47), some (.int (nI i)), some (.int (nI j))] (by decide) rfl (Nat.le_of_ble_eq_true rfl) ?_
  have ecl : (nI i).toNatClampNeg = i := nI_clamp (by omega)
  have ecj : (nI j).toNatClampNeg = j := nI_clamp (by omega)
  have em : g 51 i = m i := hj.2.2.2.1 i hi
  refine g_aload_n dX3_wants_0 rfl ?_
  refine g_getr dX3_wants_1 k_X3_21 rfl (by decide) rfl rfl ?_
  refine g_iload_n dX3_wants_4 rfl ?_
  refine g_iald dX3_wants_5 (by decide) rfl (vp_in_nI (by omega) (by decide)) ?_
  refine g_iconst (v := -1) dX3_wants_6 (by decide) ?_
  refine g_icmpeq 30 dX3_wants_7 (by decide) (fun c7 => ?_) (fun c7 => ?_)
  · skip
    refine g_iconst (v := 1) dX3_wants_30 (by decide) ?_
    refine g_goto 35 dX3_wants_31 (by decide) ?_
    exact g_ireturn dX3_wants_35 rfl rfl ⟨by
      have c8 : m i = -1 := by rw [← em, ← ecl]; exact c7
      simp [bI, wantB, c8], rfl⟩
  · skip
    obtain ⟨z, hzN, hz⟩ : ∃ z : Nat, z < N ∧ m i = nI z := (hmo i hi).resolve_left (fun q => c7 (by show g 51 (nI i).toNatClampNeg = -1; rw [ecl, em, q]))
    have ecz : (nI z).toNatClampNeg = z := nI_clamp (by omega)
    refine g_aload_n dX3_wants_10 rfl ?_
    refine g_getr dX3_wants_11 k_X3_15 rfl (by decide) rfl rfl ?_
    refine g_iload_n dX3_wants_14 rfl ?_
    refine g_iald dX3_wants_15 (by decide) rfl (vp_in_nI (by omega) (by decide)) ?_
    refine g_aload_n dX3_wants_16 rfl ?_
    refine g_getr dX3_wants_17 k_X3_15 rfl (by decide) rfl rfl ?_
    refine g_aload_n dX3_wants_20 rfl ?_
    refine g_getr dX3_wants_21 k_X3_21 rfl (by decide) rfl rfl ?_
    refine g_iload_n dX3_wants_24 rfl ?_
    refine g_iald dX3_wants_25 (by decide) rfl (vp_in_nI (by omega) (by decide)) ?_
    refine g_iald dX3_wants_26 (by decide) rfl (by show vp_in (g 51 (nI i).toNatClampNeg) 8; rw [ecl, em, hz]; exact vp_in_nI (by omega) (by decide)) ?_
    refine g_icmpge 34 dX3_wants_27 (by decide) (fun c27 => ?_) (fun c27 => ?_)
    · skip
      refine g_iconst (v := 0) dX3_wants_34 (by decide) ?_
      exact g_ireturn dX3_wants_35 rfl rfl ⟨by
      have c8 : ¬ m i = -1 := by rw [← em, ← ecl]; exact c7
      have c28 : g 49 (g 51 (nI i).toNatClampNeg).toNatClampNeg ≤ g 49 (nI j).toNatClampNeg := c27
      rw [ecl, em, hz, ecz, ecj, hj.2.1 z hzN, hj.2.1 j hjN] at c28
      have c29 : ¬ K j < K z := Int32.not_lt.mpr c28
      have e9 : K (m i).toNatClampNeg = K z := by rw [hz, ecz]
      simp [bI, wantB, c8, e9, c29], rfl⟩
    · skip
      refine g_iconst (v := 1) dX3_wants_30 (by decide) ?_
      refine g_goto 35 dX3_wants_31 (by decide) ?_
      exact g_ireturn dX3_wants_35 rfl rfl ⟨by
      have c8 : ¬ m i = -1 := by rw [← em, ← ecl]; exact c7
      have c28 : ¬ g 49 (g 51 (nI i).toNatClampNeg).toNatClampNeg ≤ g 49 (nI j).toNatClampNeg := c27
      rw [ecl, em, hz, ecz, ecj, hj.2.1 z hzN, hj.2.1 j hjN] at c28
      have c29 : K j < K z := Int32.not_le.mp c28
      have e9 : K (m i).toNatClampNeg = K z := by rw [hz, ecz]
      simp [bI, wantB, e9, c29], rfl⟩

set_option maxRecDepth 100000 in
set_option maxHeartbeats 4000000 in
theorem lp_lastsIn {N F : Nat} (hN8 : N ≤ 8) (hFN : F ≤ N) {O : Nat → Nat} {K U m t : Nat → Int32} {rr : Int32} {g : Nat → Nat → Int32} (hj : LJ g N O K U m t rr) (hmo : MO m N) {i : Nat} (hiF : i < F) (hk : allB (fun j => !blkB U K m i (F + j)) (N - F) = true → ∀ l4, xcat2 l4 = false → G E l 2 mX3_lasts 54 [some (.ref 47), some (.int (nI F)), some (.int (nI N)), some (.int (nI i)), l4] [] 83 (g, hl, RT) 0 0 (fun r h' => r = some (.int (bI (lasB U K m F N))) ∧ h' = (g, hl, RT))) : ∀ (n j : Nat), j + n = N - F → allB (fun j => !blkB U K m i (F + j)) j = true → G E l 2 mX3_lasts 10 [some (.ref 47), some (.int (nI F)), some (.int (nI N)), some (.int (nI i)), some (.int (nI (F + j)))] [] 83 (g, hl, RT) 0 0 (fun r h' => r = some (.int (bI (lasB U K m F N))) ∧ h' = (g, hl, RT)) := by
  intro n
  induction n with
  | zero =>
    intro j hjn hal
    have hjN : j = N - F := by omega
    refine g_iload dX3_lasts_10 rfl ?_
    refine g_iload_n dX3_lasts_12 rfl ?_
    refine g_icmpge 54 dX3_lasts_13 (by decide) (fun c13 => ?_) (fun c13 => ?_)
    · skip
      rw [hjN] at hal
      exact hk hal _ rfl
    · skip
      exact absurd (nI_le (by omega) (by omega)) c13
  | succ n ih =>
    intro j hjn hal
    have hjN : F + j < N := by omega
    refine g_iload dX3_lasts_10 rfl ?_
    refine g_iload_n dX3_lasts_12 rfl ?_
    refine g_icmpge 54 dX3_lasts_13 (by decide) (fun c13 => ?_) (fun c13 => ?_)
    · skip
      exact absurd (ge_out (x := nI N) rfl c13 (by omega) (by omega)) (by omega)
    · skip
      refine g_aload_n dX3_lasts_16 rfl ?_
      refine g_iload_n dX3_lasts_17 rfl ?_
      refine g_iload dX3_lasts_18 rfl ?_
      refine g_callV2 (M' := mX3_isMutual) (mc' := 0) (ms' := 0) dX3_lasts_20 l_X3_71 s_mX3_isMutual (by decide) rfl rfl f_mX3_isMutual (Nat.le_of_ble_eq_true rfl) (by decide) (ct_isMutual hN8 hj (by omega) (by omega)) ?_
      rintro _ _ ⟨rfl, rfl⟩
      refine g_ifeq 48 dX3_lasts_23 (by decide) (fun c23 => ?_) (fun c23 => ?_)
      · skip
        refine g_iinc dX3_lasts_48 rfl (nI_inc (F + j)) (by decide) rfl rfl ?_
        refine g_goto 10 dX3_lasts_51 (by decide) ?_
        exact ih (j + 1) (by omega) (by rw [allB, hal]; simp [blkB, bI_0.mp c23])
      · skip
        refine g_aload_n dX3_lasts_26 rfl ?_
        refine g_iload_n dX3_lasts_27 rfl ?_
        refine g_iload dX3_lasts_28 rfl ?_
        refine g_callV2 (M' := mX3_wants) (mc' := 0) (ms' := 0) dX3_lasts_30 l_X3_74 s_mX3_wants (by decide) rfl rfl f_mX3_wants (Nat.le_of_ble_eq_true rfl) (by decide) (ct_wants hN8 hj hmo (by omega) hjN) ?_
        rintro _ _ ⟨rfl, rfl⟩
        refine g_ifeq 48 dX3_lasts_33 (by decide) (fun c33 => ?_) (fun c33 => ?_)
        · skip
          refine g_iinc dX3_lasts_48 rfl (nI_inc (F + j)) (by decide) rfl rfl ?_
          refine g_goto 10 dX3_lasts_51 (by decide) ?_
          exact ih (j + 1) (by omega) (by rw [allB, hal]; simp [blkB, bI_0.mp c33])
        · skip
          refine g_aload_n dX3_lasts_36 rfl ?_
          refine g_iload dX3_lasts_37 rfl ?_
          refine g_iload_n dX3_lasts_39 rfl ?_
          refine g_callV2 (M' := mX3_wants) (mc' := 0) (ms' := 0) dX3_lasts_40 l_X3_74 s_mX3_wants (by decide) rfl rfl f_mX3_wants (Nat.le_of_ble_eq_true rfl) (by decide) (ct_wants hN8 hj hmo hjN (by omega)) ?_
          rintro _ _ ⟨rfl, rfl⟩
          refine g_ifeq 48 dX3_lasts_43 (by decide) (fun c43 => ?_) (fun c43 => ?_)
          · skip
            refine g_iinc dX3_lasts_48 rfl (nI_inc (F + j)) (by decide) rfl rfl ?_
            refine g_goto 10 dX3_lasts_51 (by decide) ?_
            exact ih (j + 1) (by omega) (by rw [allB, hal]; simp [blkB, bI_0.mp c43])
          · skip
            refine g_iconst (v := 0) dX3_lasts_46 (by decide) ?_
            exact g_ireturn dX3_lasts_47 rfl rfl ⟨by
            have hb : (fun j => !blkB U K m i (F + j)) j = false := by simp [blkB, bI_n.mp c23, bI_n.mp c33, bI_n.mp c43]
            have hb2 : (fun i => allB (fun j => !blkB U K m i (F + j)) (N - F)) i = false := allB_no hb (by omega)
            unfold lasB
            rw [allB_no (P := fun i => allB (fun j => !blkB U K m i (F + j)) (N - F)) hb2 hiF]
            rfl, rfl⟩

set_option maxRecDepth 100000 in
set_option maxHeartbeats 4000000 in
theorem lp_lasts {N F : Nat} (hN8 : N ≤ 8) (hFN : F ≤ N) {O : Nat → Nat} {K U m t : Nat → Int32} {rr : Int32} {g : Nat → Nat → Int32} (hj : LJ g N O K U m t rr) (hmo : MO m N) : ∀ (n i : Nat) (l4 : Option Value), i + n = F → xcat2 l4 = false → allB (fun i => allB (fun j => !blkB U K m i (F + j)) (N - F)) i = true → G E l 2 mX3_lasts 2 [some (.ref 47), some (.int (nI F)), some (.int (nI N)), some (.int (nI i)), l4] [] 83 (g, hl, RT) 0 0 (fun r h' => r = some (.int (bI (lasB U K m F N))) ∧ h' = (g, hl, RT)) := by
  intro n
  induction n with
  | zero =>
    intro i l4 hin hx hal
    have hiF : i = F := by omega
    subst hiF
    refine g_iload_n dX3_lasts_2 rfl ?_
    refine g_iload_n dX3_lasts_3 rfl ?_
    refine g_icmpge 60 dX3_lasts_4 (by decide) (fun c4 => ?_) (fun c4 => ?_)
    · skip
      refine g_iconst (v := 1) dX3_lasts_60 (by decide) ?_
      exact g_ireturn dX3_lasts_61 rfl rfl ⟨by unfold lasB; rw [hal]; rfl, rfl⟩
    · skip
      exact absurd (nI_le (Nat.le_refl _) (by omega)) c4
  | succ n ih =>
    intro i l4 hin hx hal
    have hiF : i < F := by omega
    refine g_iload_n dX3_lasts_2 rfl ?_
    refine g_iload_n dX3_lasts_3 rfl ?_
    refine g_icmpge 60 dX3_lasts_4 (by decide) (fun c4 => ?_) (fun c4 => ?_)
    · skip
      exact absurd (ge_out (x := nI F) rfl c4 (by omega) (by omega)) (by omega)
    · skip
      refine g_iload_n dX3_lasts_7 rfl ?_
      refine g_istore dX3_lasts_8 (by decide) rfl rfl ?_
      refine lp_lastsIn hN8 hFN hj hmo hiF (fun hal2 l2 hx2 => ?_) (N - F) 0 (by omega) rfl
      refine g_iinc dX3_lasts_54 rfl (nI_inc i) (by decide) rfl rfl ?_
      refine g_goto 2 dX3_lasts_57 (by decide) ?_
      exact ih (i + 1) _ (by omega) hx2 (by rw [allB, hal, hal2]; rfl)

set_option maxRecDepth 100000 in
set_option maxHeartbeats 4000000 in
theorem ct_lasts {N F : Nat} (hN8 : N ≤ 8) (hFN : F ≤ N) {O : Nat → Nat} {K U m t : Nat → Int32} {rr : Int32} {g : Nat → Nat → Int32} (hj : LJ g N O K U m t rr) (hmo : MO m N) : MC E l 2 mX3_lasts [.ref 47, .int (nI F), .int (nI N)] 83 (g, hl, RT) 0 0 (fun r h' => r = some (.int (bI (lasB U K m F N))) ∧ h' = (g, hl, RT)) := by
  refine MC.of [some (.ref 47), some (.int (nI F)), some (.int (nI N)), none, none] (by decide) rfl (Nat.le_of_ble_eq_true rfl) ?_
  refine g_iconst (v := 0) dX3_lasts_0 (by decide) ?_
  refine g_istore_n dX3_lasts_1 (by decide) rfl rfl ?_
  exact lp_lasts hN8 hFN hj hmo F 0 none (by omega) rfl rfl

theorem upI_a' {f : Nat → Nat → Int32} {a b k j : Nat} {v : Int32} (h : ¬ (b = a ∧ j = k)) : upI f a k v b j = f b j := if_neg h
set_option maxRecDepth 100000 in
set_option maxHeartbeats 4000000 in
theorem lp_keepRow {N F : Nat} (hN8 : N ≤ 8) (hFN : F ≤ N) (hF4 : F ≤ 4) {O : Nat → Nat} {K U m t : Nat → Int32} {rr : Int32} {g : Nat → Nat → Int32} (hj : LJ g N O K U m t rr) : ∀ (n i : Nat) (hc : Nat → Nat → Int32), i + n = F → LR g hc → LJ hc N O K U m (if rr = 0 then (fun k => if k < i then m k else t k) else t) rr → G E l 1 mX3_keepRow 2 [some (.ref 47), some (.int (nI F)), some (.int (nI i))] [] 83 (hc, hl, RT) 0 0 (fun r h' => r = none ∧ ∃ hf, h' = (hf, hl, RT) ∧ LR g hf ∧ LJ hf N O K U m (keepF F m (t, rr)).1 (keepF F m (t, rr)).2) := by
  intro n
  induction n with
  | zero =>
    intro i hc hin hlr hjc
    have hiF : i = F := by omega
    subst hiF
    refine g_iload_n dX3_keepRow_2 rfl ?_
    refine g_iload_n dX3_keepRow_3 rfl ?_
    refine g_icmpge 41 dX3_keepRow_4 (by decide) (fun c4 => ?_) (fun c4 => ?_)
    · skip
      refine g_aload_n dX3_keepRow_41 rfl ?_
      refine g_dup dX3_keepRow_42 rfl ?_
      refine g_geti dX3_keepRow_43 k_X3_31 rfl (by decide) rfl ?_
      refine g_iconst (v := 1) dX3_keepRow_46 (by decide) ?_
      refine g_iadd dX3_keepRow_47 ?_
      refine g_puti dX3_keepRow_48 k_X3_31 rfl (by decide) rfl rfl rfl ?_
      exact g_return dX3_keepRow_51 rfl ⟨rfl, _, rfl, hlr.trans (fun a k h1 h2 h3 => upI_a' (by omega)), by
          obtain ⟨q1, q2, q3, q4, q5, q6⟩ := hjc
          refine ⟨fun k hk => (upI_a (by decide)).trans (q1 k hk), fun k hk => (upI_a (by decide)).trans (q2 k hk), fun k hk => (upI_a (by decide)).trans (q3 k hk), fun k hk => (upI_a (by decide)).trans (q4 k hk), fun k hk => ?_, ?_⟩
          · rw [upI_a (by decide)]
            show hc 52 k = _
            rw [q5 k hk]
            unfold keepF
            dsimp only
            split <;> rfl
          · show upI hc 47 5 (hc 47 5 + 1) 47 5 = _
            rw [upI_s, q6]
            unfold keepF
            dsimp only
            split <;> rfl⟩
    · skip
      exact absurd (nI_le (Nat.le_refl _) (by omega)) c4
  | succ n ih =>
    intro i hc hin hlr hjc
    have ecl : (nI i).toNatClampNeg = i := nI_clamp (by omega)
    refine g_iload_n dX3_keepRow_2 rfl ?_
    refine g_iload_n dX3_keepRow_3 rfl ?_
    refine g_icmpge 41 dX3_keepRow_4 (by decide) (fun c4 => ?_) (fun c4 => ?_)
    · skip
      exact absurd (ge_out (x := nI F) rfl c4 (by omega) (by omega)) (by omega)
    · skip
      refine g_iload_n dX3_keepRow_7 rfl ?_
      refine g_aload_n dX3_keepRow_8 rfl ?_
      refine g_getr dX3_keepRow_9 k_X3_24 rfl (by decide) rfl rfl ?_
      refine g_alen dX3_keepRow_12 (by decide) rfl (Or.inl rfl) ?_
      refine g_icmpge 41 dX3_keepRow_13 (by decide) (fun c13 => ?_) (fun c13 => ?_)
      · skip
        exact absurd (ge_out (x := nI 4) rfl c13 (by decide) (by omega)) (by omega)
      · skip
        refine g_aload_n dX3_keepRow_16 rfl ?_
        refine g_geti dX3_keepRow_17 k_X3_31 rfl (by decide) rfl ?_
        refine g_ifne 41 dX3_keepRow_20 (by decide) (fun c20 => ?_) (fun c20 => ?_)
        · skip
          refine g_aload_n dX3_keepRow_41 rfl ?_
          refine g_dup dX3_keepRow_42 rfl ?_
          refine g_geti dX3_keepRow_43 k_X3_31 rfl (by decide) rfl ?_
          refine g_iconst (v := 1) dX3_keepRow_46 (by decide) ?_
          refine g_iadd dX3_keepRow_47 ?_
          refine g_puti dX3_keepRow_48 k_X3_31 rfl (by decide) rfl rfl rfl ?_
          exact g_return dX3_keepRow_51 rfl ⟨rfl, _, rfl, hlr.trans (fun a k h1 h2 h3 => upI_a' (by omega)), by
          obtain ⟨q1, q2, q3, q4, q5, q6⟩ := hjc
          refine ⟨fun k hk => (upI_a (by decide)).trans (q1 k hk), fun k hk => (upI_a (by decide)).trans (q2 k hk), fun k hk => (upI_a (by decide)).trans (q3 k hk), fun k hk => (upI_a (by decide)).trans (q4 k hk), fun k hk => ?_, ?_⟩
          · rw [upI_a (by decide)]
            show hc 52 k = _
            rw [q5 k hk]
            unfold keepF
            dsimp only
            rw [if_neg (by rw [← q6]; exact c20), if_neg (by rw [← q6]; exact c20)]
          · show upI hc 47 5 (hc 47 5 + 1) 47 5 = _
            rw [upI_s, q6]
            unfold keepF
            dsimp only
            split <;> rfl⟩
        · skip
          refine g_aload_n dX3_keepRow_23 rfl ?_
          refine g_getr dX3_keepRow_24 k_X3_24 rfl (by decide) rfl rfl ?_
          refine g_iload_n dX3_keepRow_27 rfl ?_
          refine g_aload_n dX3_keepRow_28 rfl ?_
          refine g_getr dX3_keepRow_29 k_X3_21 rfl (by decide) rfl rfl ?_
          refine g_iload_n dX3_keepRow_32 rfl ?_
          refine g_iald dX3_keepRow_33 (by decide) rfl (vp_in_nI (by omega) (by decide)) ?_
          refine g_iast dX3_keepRow_34 (by decide) rfl (vp_in_nI (by omega) (by decide)) ?_
          refine g_iinc dX3_keepRow_35 rfl (nI_inc i) (by decide) rfl rfl ?_
          refine g_goto 2 dX3_keepRow_38 (by decide) ?_
          have hr0 : rr = 0 := by rw [← hjc.2.2.2.2.2]; exact c20
          obtain ⟨q1, q2, q3, q4, q5, q6⟩ := hjc
          rw [ecl]
          refine ih (i + 1) _ (by omega) (hlr.trans (fun a k h1 h2 h3 => upI_a h2)) ⟨fun k hk => (upI_a (by decide)).trans (q1 k hk), fun k hk => (upI_a (by decide)).trans (q2 k hk), fun k hk => (upI_a (by decide)).trans (q3 k hk), fun k hk => (upI_a (by decide)).trans (q4 k hk), fun k hk => ?_, (upI_a (by decide)).trans q6⟩
          rw [if_pos hr0]
          rw [if_pos hr0] at q5
          by_cases e : k = i
          · subst e
            show upI hc 52 k (hc 51 k) 52 k = _
            rw [upI_s, if_pos (by omega), q4 k (by omega)]
          · show upI hc 52 i (hc 51 i) 52 k = _
            rw [upI_k e, q5 k hk]
            by_cases e2 : k < i
            · rw [if_pos e2, if_pos (by omega)]
            · rw [if_neg e2, if_neg (by omega)]

set_option maxRecDepth 100000 in
set_option maxHeartbeats 4000000 in
theorem ct_keepRow {N F : Nat} (hN8 : N ≤ 8) (hFN : F ≤ N) (hF4 : F ≤ 4) {O : Nat → Nat} {K U m t : Nat → Int32} {rr : Int32} {g : Nat → Nat → Int32} (hj : LJ g N O K U m t rr) : MC E l 1 mX3_keepRow [.ref 47, .int (nI F)] 83 (g, hl, RT) 0 0 (fun r h' => r = none ∧ ∃ hf, h' = (hf, hl, RT) ∧ LR g hf ∧ LJ hf N O K U m (keepF F m (t, rr)).1 (keepF F m (t, rr)).2) := by
  refine MC.of [some (.ref 47), some (.int (nI F)), none] (by decide) rfl (Nat.le_of_ble_eq_true rfl) ?_
  refine g_iconst (v := 0) dX3_keepRow_0 (by decide) ?_
  refine g_istore_n dX3_keepRow_1 (by decide) rfl rfl ?_
  refine lp_keepRow hN8 hFN hF4 hj F 0 g (by omega) LR.rf ?_
  have e0 : (fun k => if k < 0 then m k else t k) = t := by funext k; exact if_neg (by omega)
  rw [e0]
  split <;> exact hj

theorem LJ.eq {g : Nat → Nat → Int32} {N : Nat} {O : Nat → Nat} {K U m m' t t' : Nat → Int32} {r r' : Int32} (h : LJ g N O K U m t r) (h1 : ∀ k, k < N → m k = m' k) (h2 : t = t') (h3 : r = r') : LJ g N O K U m' t' r' := ⟨h.1, h.2.1, h.2.2.1, fun k hk => (h.2.2.2.1 k hk).trans (h1 k hk), fun k hk => by rw [← h2]; exact h.2.2.2.2.1 k hk, by rw [← h3]; exact h.2.2.2.2.2⟩
theorem LJ.mate {g : Nat → Nat → Int32} {N : Nat} {O : Nat → Nat} {K U m t : Nat → Int32} {r : Int32} (h : LJ g N O K U m t r) (i : Nat) (v : Int32) : LJ (upI g 51 i v) N O K U (upd m i v) t r := by
  obtain ⟨q1, q2, q3, q4, q5, q6⟩ := h
  refine ⟨fun k hk => (upI_a (by decide)).trans (q1 k hk), fun k hk => (upI_a (by decide)).trans (q2 k hk), fun k hk => (upI_a (by decide)).trans (q3 k hk), fun k hk => ?_, fun k hk => (upI_a (by decide)).trans (q5 k hk), (upI_a (by decide)).trans q6⟩
  unfold upd
  by_cases e : k = i
  · rw [if_pos e, e, upI_s]
  · rw [if_neg e, upI_k e, q4 k hk]
theorem LR.mate {g hf : Nat → Nat → Int32} (h : LR g hf) (i : Nat) (v : Int32) : LR g (upI hf 51 i v) := h.trans (fun a k h1 _ _ => upI_a h1)
theorem MO.up {m : Nat → Int32} {N i j : Nat} (h : MO m N) (hj : j < N) : MO (upd m i (nI j)) N := by
  intro k hk
  unfold upd
  by_cases e : k = i
  · rw [if_pos e]
    exact Or.inr ⟨j, hj, rfl⟩
  · rw [if_neg e]
    exact h k hk

set_option maxRecDepth 100000 in
set_option maxHeartbeats 4000000 in
theorem lp_tryFrom {N F : Nat} (hN8 : N ≤ 8) (hFN : F ≤ N) (hF4 : F ≤ 4) {O : Nat → Nat} (hO : ∀ k, k < N → O k < N) (hOF : True) {K U : Nat → Int32} {n : Nat} (IH : ∀ (i : Nat) (m t : Nat → Int32) (rr : Int32) (g : Nat → Nat → Int32), i + n = F → MO m N → (∀ k, k < F → i ≤ k → m k = -1) → LJ g N O K U m t rr → MC E l (3 + n) mX3_tryFrom [.ref 47, .int (nI i), .int (nI F), .int (nI N)] 83 (g, hl, RT) 0 0 (fun r h' => r = none ∧ ∃ hf, h' = (hf, hl, RT) ∧ LR g hf ∧ LJ hf N O K U m (tfF O U K F N n i m (t, rr)).1 (tfF O U K F N n i m (t, rr)).2)) {i : Nat} (hin : i + (n + 1) = F) {m : Nat → Int32} (hmo : MO m N) (hfr : ∀ k, k < F → i ≤ k → m k = -1) (hms : ∀ k j, k < N → j < N → m k = nI j → True) (hmF : ∀ i j, i < N → j < N → mutB U i j = true → (i < F ↔ F ≤ j)) {g : Nat → Nat → Int32} {s1 : ST} {Qf : Option Value → XH → Prop} : ∀ (z q : Nat) (hc : Nat → Nat → Int32) (s : ST) (l5 : Option Value), q + z = N → xcat2 l5 = false → LR g hc → LJ hc N O K U m s.1 s.2 → (∀ hf l5, xcat2 l5 = false → LR g hf → LJ hf N O K U m (plF (fun q s => if mutB U i (O q) = true ∧ m (O q) = -1 then tfF O U K F N n (i + 1) (upd (upd m i (nI (O q))) (O q) (nI i)) s else s) z q s).1 (plF (fun q s => if mutB U i (O q) = true ∧ m (O q) = -1 then tfF O U K F N n (i + 1) (upd (upd m i (nI (O q))) (O q) (nI i)) s else s) z q s).2 → G E l (3 + (n + 1)) mX3_tryFrom 110 [some (.ref 47), some (.int (nI i)), some (.int (nI F)), some (.int (nI N)), some (.int (nI N)), l5] [] 83 (hf, hl, RT) 0 0 (Qf)) → G E l (3 + (n + 1)) mX3_tryFrom 28 [some (.ref 47), some (.int (nI i)), some (.int (nI F)), some (.int (nI N)), some (.int (nI q)), l5] [] 83 (hc, hl, RT) 0 0 (Qf) := by
  intro z
  induction z with
  | zero =>
    intro q hc s l5 hqz hx hlr hjc hk
    have hqN : q = N := by omega
    subst hqN
    refine g_iload dX3_tryFrom_28 rfl ?_
    refine g_iload_n dX3_tryFrom_30 rfl ?_
    refine g_icmpge 110 dX3_tryFrom_31 (by decide) (fun c31 => ?_) (fun c31 => ?_)
    · skip
      exact hk hc l5 hx hlr hjc
    · skip
      exact absurd (nI_le (Nat.le_refl _) (by omega)) c31
  | succ z ih =>
    intro q hc s l5 hqz hx hlr hjc hk
    have hoN : O q < N := hO q (by omega)
    have ecq : (nI q).toNatClampNeg = q := nI_clamp (by omega)
    have eco : (nI (O q)).toNatClampNeg = O q := nI_clamp (by omega)
    have eci : (nI i).toNatClampNeg = i := nI_clamp (by omega)
    have hrow : hc 48 (nI q).toNatClampNeg = nI (O q) := by rw [ecq]; exact hjc.1 q (by omega)
    refine g_iload dX3_tryFrom_28 rfl ?_
    refine g_iload_n dX3_tryFrom_30 rfl ?_
    refine g_icmpge 110 dX3_tryFrom_31 (by decide) (fun c31 => ?_) (fun c31 => ?_)
    · skip
      exact absurd (ge_out (x := nI N) rfl c31 (by omega) (by omega)) (by omega)
    · skip
      refine g_aload_n dX3_tryFrom_34 rfl ?_
      refine g_getr dX3_tryFrom_35 k_X3_9 rfl (by decide) rfl rfl ?_
      refine g_iload dX3_tryFrom_38 rfl ?_
      refine g_iald dX3_tryFrom_40 (by decide) rfl (vp_in_nI (by omega) (by decide)) ?_
      rw [show (hc, hl, RT).1 48 (nI q).toNatClampNeg = nI (O q) from hrow]
      refine g_istore dX3_tryFrom_41 (by decide) rfl rfl ?_
      refine g_aload_n dX3_tryFrom_43 rfl ?_
      refine g_iload_n dX3_tryFrom_44 rfl ?_
      refine g_iload dX3_tryFrom_45 rfl ?_
      refine g_callV2 (M' := mX3_isMutual) (mc' := 0) (ms' := 0) dX3_tryFrom_47 l_X3_71 s_mX3_isMutual (by decide) rfl rfl f_mX3_isMutual (Nat.le_of_ble_eq_true rfl) (by omega) (ct_isMutual hN8 hjc (by omega) (by omega)) ?_
      rintro _ _ ⟨rfl, rfl⟩
      refine g_ifeq 104 dX3_tryFrom_50 (by decide) (fun c50 => ?_) (fun c50 => ?_)
      · skip
        skip
        refine g_iinc dX3_tryFrom_104 rfl (nI_inc q) (by decide) rfl rfl ?_
        refine g_goto 28 dX3_tryFrom_107 (by decide) ?_
        refine ih (q + 1) hc s _ (by omega) rfl hlr hjc (fun hf l2 hx2 h1 h2 => hk hf l2 hx2 h1 ?_)
        rw [plF, if_neg ?_]
        · exact h2
        · intro z2
          rw [bI_0.mp c50] at z2
          exact absurd z2.1 (by decide)
      · skip
        refine g_aload_n dX3_tryFrom_53 rfl ?_
        refine g_getr dX3_tryFrom_54 k_X3_21 rfl (by decide) rfl rfl ?_
        refine g_iload dX3_tryFrom_57 rfl ?_
        refine g_iald dX3_tryFrom_59 (by decide) rfl (vp_in_nI (by omega) (by decide)) ?_
        refine g_iconst (v := -1) dX3_tryFrom_60 (by decide) ?_
        refine g_icmpne 104 dX3_tryFrom_61 (by decide) (fun c61 => ?_) (fun c61 => ?_)
        · skip
          skip
          refine g_iinc dX3_tryFrom_104 rfl (nI_inc q) (by decide) rfl rfl ?_
          refine g_goto 28 dX3_tryFrom_107 (by decide) ?_
          refine ih (q + 1) hc s _ (by omega) rfl hlr hjc (fun hf l2 hx2 h1 h2 => hk hf l2 hx2 h1 ?_)
          rw [plF, if_neg ?_]
          · exact h2
          · intro z2
            exact c61 (by show hc 51 (nI (O q)).toNatClampNeg = -1; rw [eco, hjc.2.2.2.1 _ hoN]; exact z2.2)
        · skip
          have hmo1 : m (O q) = -1 := by rw [← hjc.2.2.2.1 _ hoN, ← eco]; exact c61
          have hlt : F ≤ O q := (hmF i (O q) (by omega) hoN (bI_n.mp c50)).mp (by omega)
          refine g_aload_n dX3_tryFrom_64 rfl ?_
          refine g_getr dX3_tryFrom_65 k_X3_21 rfl (by decide) rfl rfl ?_
          refine g_iload_n dX3_tryFrom_68 rfl ?_
          refine g_iload dX3_tryFrom_69 rfl ?_
          refine g_iast dX3_tryFrom_71 (by decide) rfl (vp_in_nI (by omega) (by decide)) ?_
          refine g_aload_n dX3_tryFrom_72 rfl ?_
          refine g_getr dX3_tryFrom_73 k_X3_21 rfl (by decide) rfl rfl ?_
          refine g_iload dX3_tryFrom_76 rfl ?_
          refine g_iload_n dX3_tryFrom_78 rfl ?_
          refine g_iast dX3_tryFrom_79 (by decide) rfl (vp_in_nI (by omega) (by decide)) ?_
          refine g_aload_n dX3_tryFrom_80 rfl ?_
          refine g_iload_n dX3_tryFrom_81 rfl ?_
          refine g_iconst (v := 1) dX3_tryFrom_82 (by decide) ?_
          refine g_iadd dX3_tryFrom_83 ?_
          rw [eci, eco, nI_1]
          refine g_iload_n dX3_tryFrom_84 rfl ?_
          refine g_iload_n dX3_tryFrom_85 rfl ?_
          refine g_callV3 (M' := mX3_tryFrom) (mc' := 0) (ms' := 0) dX3_tryFrom_86 l_X3_59 s_mX3_tryFrom (by decide) rfl rfl f_mX3_tryFrom (Nat.le_of_ble_eq_true rfl) (by omega) (IH (i + 1) _ _ _ _ (by omega) ((hmo.up hoN).up (by omega)) (fun k hk1 hk2 => by unfold upd; rw [if_neg (by omega), if_neg (by omega)]; exact hfr k hk1 (by omega)) ((hjc.mate i (nI (O q))).mate (O q) (nI i))) ?_
          rintro _ _ ⟨rfl, h2, rfl, hlr2', hj2⟩
          have hlr2 : LR g h2 := ((hlr.mate _ _).mate _ _).trans hlr2'
          refine g_aload_n dX3_tryFrom_89 rfl ?_
          refine g_getr dX3_tryFrom_90 k_X3_21 rfl (by decide) rfl rfl ?_
          refine g_iload_n dX3_tryFrom_93 rfl ?_
          refine g_iconst (v := -1) dX3_tryFrom_94 (by decide) ?_
          refine g_iast dX3_tryFrom_95 (by decide) rfl (vp_in_nI (by omega) (by decide)) ?_
          refine g_aload_n dX3_tryFrom_96 rfl ?_
          refine g_getr dX3_tryFrom_97 k_X3_21 rfl (by decide) rfl rfl ?_
          refine g_iload dX3_tryFrom_100 rfl ?_
          refine g_iconst (v := -1) dX3_tryFrom_102 (by decide) ?_
          refine g_iast dX3_tryFrom_103 (by decide) rfl (vp_in_nI (by omega) (by decide)) ?_
          rw [eci, eco]
          refine g_iinc dX3_tryFrom_104 rfl (nI_inc q) (by decide) rfl rfl ?_
          refine g_goto 28 dX3_tryFrom_107 (by decide) ?_
          refine ih (q + 1) _ (tfF O U K F N n (i + 1) (upd (upd m i (nI (O q))) (O q) (nI i)) s) _ (by omega) rfl (((hlr2.mate _ _).mate _ _)) ?_ (fun hf l2 hx2 h1 h2 => hk hf l2 hx2 h1 ?_)
          · refine (((hj2.mate _ _).mate _ _)).eq (fun k hk2 => ?_) rfl rfl
            unfold upd
            by_cases e1 : k = O q
            · rw [if_pos e1, e1, hmo1]
            · rw [if_neg e1]
              by_cases e2 : k = i
              · rw [if_pos e2, e2, hfr i (by omega) (Nat.le_refl i)]
              · rw [if_neg e2, if_neg e1, if_neg e2]
          · rw [plF, if_pos ⟨bI_n.mp c50, hmo1⟩]
            exact h2

set_option maxRecDepth 100000 in
set_option maxHeartbeats 4000000 in
theorem ct_tryFrom {N F : Nat} (hN8 : N ≤ 8) (hFN : F ≤ N) (hF4 : F ≤ 4) {O : Nat → Nat} (hO : ∀ k, k < N → O k < N) (hOF : True) {K U : Nat → Int32} (hmF : ∀ i j, i < N → j < N → mutB U i j = true → (i < F ↔ F ≤ j)) : ∀ (n i : Nat) (m t : Nat → Int32) (rr : Int32) (g : Nat → Nat → Int32), i + n = F → MO m N → (∀ k, k < F → i ≤ k → m k = -1) → LJ g N O K U m t rr → MC E l (3 + n) mX3_tryFrom [.ref 47, .int (nI i), .int (nI F), .int (nI N)] 83 (g, hl, RT) 0 0 (fun r h' => r = none ∧ ∃ hf, h' = (hf, hl, RT) ∧ LR g hf ∧ LJ hf N O K U m (tfF O U K F N n i m (t, rr)).1 (tfF O U K F N n i m (t, rr)).2) := by
  intro n
  induction n with
  | zero =>
    intro i m t rr g hin hmo hfr hj
    have hiF : i = F := by omega
    subst hiF
    refine MC.of [some (.ref 47), some (.int (nI i)), some (.int (nI i)), some (.int (nI N)), none, none] (by decide) rfl (Nat.le_of_ble_eq_true rfl) ?_
    refine g_iload_n dX3_tryFrom_0 rfl ?_
    refine g_iload_n dX3_tryFrom_1 rfl ?_
    refine g_icmpge 10 dX3_tryFrom_2 (by decide) (fun c2 => ?_) (fun c2 => ?_)
    · skip
      refine g_aload_n dX3_tryFrom_10 rfl ?_
      refine g_iload_n dX3_tryFrom_11 rfl ?_
      refine g_iload_n dX3_tryFrom_12 rfl ?_
      refine g_callV2 (M' := mX3_lasts) (mc' := 0) (ms' := 0) dX3_tryFrom_13 l_X3_63 s_mX3_lasts (by decide) rfl rfl f_mX3_lasts (Nat.le_of_ble_eq_true rfl) (by omega) (ct_lasts hN8 hFN hj hmo) ?_
      rintro _ _ ⟨rfl, rfl⟩
      refine g_ifeq 24 dX3_tryFrom_16 (by decide) (fun c16 => ?_) (fun c16 => ?_)
      · skip
        exact g_return dX3_tryFrom_24 rfl ⟨rfl, g, rfl, LR.rf, by rw [tfF, if_neg (by rw [bI_0.mp c16]; decide)]; exact hj⟩
      · skip
        refine g_aload_n dX3_tryFrom_19 rfl ?_
        refine g_iload_n dX3_tryFrom_20 rfl ?_
        refine g_callV1 (M' := mX3_keepRow) (mc' := 0) (ms' := 0) dX3_tryFrom_21 l_X3_67 s_mX3_keepRow (by decide) rfl rfl f_mX3_keepRow (Nat.le_of_ble_eq_true rfl) (by omega) (ct_keepRow hN8 hFN hF4 hj) ?_
        rintro _ _ ⟨rfl, hf, rfl, h1, h2⟩
        exact g_return dX3_tryFrom_24 rfl ⟨rfl, hf, rfl, h1, by rw [tfF, if_pos (bI_n.mp c16)]; exact h2⟩
    · skip
      exact absurd (nI_le (Nat.le_refl _) (by omega)) c2
  | succ n IH =>
    intro i m t rr g hin hmo hfr hj
    refine MC.of [some (.ref 47), some (.int (nI i)), some (.int (nI F)), some (.int (nI N)), none, none] (by decide) rfl (Nat.le_of_ble_eq_true rfl) ?_
    refine g_iload_n dX3_tryFrom_0 rfl ?_
    refine g_iload_n dX3_tryFrom_1 rfl ?_
    refine g_icmpge 10 dX3_tryFrom_2 (by decide) (fun c2 => ?_) (fun c2 => ?_)
    · skip
      exact absurd (ge_out (x := nI F) rfl c2 (by omega) (by omega)) (by omega)
    · skip
      refine g_iload_n dX3_tryFrom_5 rfl ?_
      refine g_iconst (v := 4) dX3_tryFrom_6 (by decide) ?_
      refine g_icmplt 25 dX3_tryFrom_7 (by decide) (fun c7 => ?_) (fun c7 => ?_)
      · skip
        refine g_iconst (v := 0) dX3_tryFrom_25 (by decide) ?_
        refine g_istore dX3_tryFrom_26 (by decide) rfl rfl ?_
        refine lp_tryFrom hN8 hFN hF4 hO hOF IH hin hmo hfr (fun _ _ _ _ _ => trivial) hmF (g := g) (s1 := (t, rr)) N 0 g (t, rr) none (by omega) rfl LR.rf hj (fun hf l5 hx5 h1 h2 => ?_)
        refine g_aload_n dX3_tryFrom_110 rfl ?_
        refine g_iload_n dX3_tryFrom_111 rfl ?_
        refine g_iconst (v := 1) dX3_tryFrom_112 (by decide) ?_
        refine g_iadd dX3_tryFrom_113 ?_
        refine g_iload_n dX3_tryFrom_114 rfl ?_
        refine g_iload_n dX3_tryFrom_115 rfl ?_
        rw [nI_1]
        refine g_callV3 dX3_tryFrom_116 l_X3_59 s_mX3_tryFrom (by decide) rfl rfl f_mX3_tryFrom (Nat.le_of_ble_eq_true rfl) (by omega) (IH (i + 1) m _ _ hf (by omega) hmo (fun k hk1 hk2 => hfr k hk1 (by omega)) h2) ?_
        rintro _ _ ⟨rfl, hf2, rfl, h3, h4⟩
        exact g_return dX3_tryFrom_119 rfl ⟨rfl, hf2, rfl, h1.trans h3, h4⟩
      · skip
        exact absurd (nI_lt (b := 4) (by omega) (by decide)) c7

end
