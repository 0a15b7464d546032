section
variable {E : XE} {l : Launch} {hi : Nat → Nat → Int32} {hl : Nat → Nat → Int64}

set_option maxRecDepth 100000 in
set_option maxHeartbeats 4000000 in
theorem ct_canTell (x : Int32) : MC E l 2 mX3_canTell [.int x] 83 (hi, hl, RT) 0 0 (fun r h' => r = some (.int (bI (decide (x = 0) || (decide (x = 1) || (!decide (x < 10) && !decide (13 < x)))))) ∧ h' = (hi, hl, RT)) := by
  refine MC.of [some (.int x)] (by decide) rfl (Nat.le_of_ble_eq_true rfl) ?_
  refine g_iload_n dX3_canTell_0 rfl ?_
  refine g_ifeq 20 dX3_canTell_1 (by decide) (fun c1 => ?_) (fun c1 => ?_)
  · skip
    refine g_iconst (v := 1) dX3_canTell_20 (by decide) ?_
    refine g_goto 25 dX3_canTell_21 (by decide) ?_
    exact g_ireturn dX3_canTell_25 rfl rfl ⟨by simp_all [bI], rfl⟩
  · skip
    refine g_iload_n dX3_canTell_4 rfl ?_
    refine g_iconst (v := 1) dX3_canTell_5 (by decide) ?_
    refine g_icmpeq 20 dX3_canTell_6 (by decide) (fun c6 => ?_) (fun c6 => ?_)
    · skip
      refine g_iconst (v := 1) dX3_canTell_20 (by decide) ?_
      refine g_goto 25 dX3_canTell_21 (by decide) ?_
      exact g_ireturn dX3_canTell_25 rfl rfl ⟨by simp_all [bI], rfl⟩
    · skip
      refine g_iload_n dX3_canTell_9 rfl ?_
      refine g_bipush (v := 10) dX3_canTell_10 (by decide) ?_
      refine g_bipush (v := 13) dX3_canTell_12 (by decide) ?_
      refine g_callSN3 (M' := mX9_isWithin) (mc' := 0) (ms' := 0) dX3_canTell_14 l_X3_27 s_mX9_isWithin f_mX9_isWithin (Nat.le_of_ble_eq_true rfl) (by decide) (ct_isWithin _ _ _) ?_
      rintro _ _ ⟨rfl, rfl⟩
      refine g_ifeq 24 dX3_canTell_17 (by decide) (fun c17 => ?_) (fun c17 => ?_)
      · skip
        refine g_iconst (v := 0) dX3_canTell_24 (by decide) ?_
        exact g_ireturn dX3_canTell_25 rfl rfl ⟨by simp_all [bI], rfl⟩
      · skip
        refine g_iconst (v := 1) dX3_canTell_20 (by decide) ?_
        refine g_goto 25 dX3_canTell_21 (by decide) ?_
        exact g_ireturn dX3_canTell_25 rfl rfl ⟨by simp_all [bI], rfl⟩

set_option maxRecDepth 100000 in
set_option maxHeartbeats 4000000 in
theorem lp_toldCouples  : ∀ (n i : Nat), i ≤ 4 → 4 + 1 ≤ i + n → ∀ (b : Int32), b = cntB (fun k => !decide (hi 52 k = -1)) i → G E l 1 mX3_toldCouples 4 [some (.ref 47), some (.int b), some (.int (nI i))] [] 83 (hi, hl, RT) 0 0 (fun r h' => r = some (.int (cntB (fun k => !decide (hi 52 k = -1)) 4)) ∧ h' = (hi, hl, RT)) := by
  intro n
  induction n with
  | zero =>
    intro i h1 h2
    exact absurd h2 (by omega)
  | succ n ih =>
    intro i hi1 hi2 b hb
    refine g_iload_n dX3_toldCouples_4 rfl ?_
    refine g_aload_n dX3_toldCouples_5 rfl ?_
    refine g_getr dX3_toldCouples_6 k_X3_24 rfl (by decide) rfl rfl ?_
    refine g_alen dX3_toldCouples_9 (by decide) rfl (Or.inl rfl) ?_
    refine g_icmpge 37 dX3_toldCouples_10 (by decide) (fun c10 => ?_) (fun c10 => ?_)
    · skip
      have hiN : i = 4 := Nat.le_antisymm hi1 ((nI_leI (a := 4) (by decide) (by omega)).mp c10)
      subst hiN
      refine g_iload_n dX3_toldCouples_37 rfl ?_
      exact g_ireturn dX3_toldCouples_38 rfl rfl ⟨by rw [hb], rfl⟩
    · skip
      have hi4 : i < 4 := Nat.lt_of_not_le (fun q => c10 (nI_le (a := 4) q (by omega)))
      have ecl : (nI i).toNatClampNeg = i := nI_clamp (by omega)
      refine g_iload_n dX3_toldCouples_13 rfl ?_
      refine g_aload_n dX3_toldCouples_14 rfl ?_
      refine g_getr dX3_toldCouples_15 k_X3_24 rfl (by decide) rfl rfl ?_
      refine g_iload_n dX3_toldCouples_18 rfl ?_
      refine g_iald dX3_toldCouples_19 (by decide) rfl (vp_in_nI hi4 (by decide)) ?_
      refine g_iconst (v := -1) dX3_toldCouples_20 (by decide) ?_
      refine g_icmpeq 28 dX3_toldCouples_21 (by decide) (fun c21 => ?_) (fun c21 => ?_)
      · skip
        refine g_iconst (v := 0) dX3_toldCouples_28 (by decide) ?_
        refine g_iadd dX3_toldCouples_29 ?_
        refine g_istore_n dX3_toldCouples_30 (by decide) rfl rfl ?_
        refine g_iinc dX3_toldCouples_31 rfl (nI_inc i) (by decide) rfl rfl ?_
        refine g_goto 4 dX3_toldCouples_34 (by decide) ?_
        exact ih (i + 1) (by omega) (by omega) _ (by rw [hb, cntB]; have c22 := c21; rw [ecl] at c22; rw [show (!decide (hi 52 i = -1)) = false from by simp [show hi 52 i = -1 from c22]]; rfl)
      · skip
        refine g_iconst (v := 1) dX3_toldCouples_24 (by decide) ?_
        refine g_goto 29 dX3_toldCouples_25 (by decide) ?_
        refine g_iadd dX3_toldCouples_29 ?_
        refine g_istore_n dX3_toldCouples_30 (by decide) rfl rfl ?_
        refine g_iinc dX3_toldCouples_31 rfl (nI_inc i) (by decide) rfl rfl ?_
        refine g_goto 4 dX3_toldCouples_34 (by decide) ?_
        exact ih (i + 1) (by omega) (by omega) _ (by rw [hb, cntB]; have c22 := c21; rw [ecl] at c22; rw [show (!decide (hi 52 i = -1)) = true from by simp [show ¬ hi 52 i = -1 from c22]]; rfl)

set_option maxRecDepth 100000 in
set_option maxHeartbeats 4000000 in
theorem ct_toldCouples  : MC E l 1 mX3_toldCouples [.ref 47] 83 (hi, hl, RT) 0 0 (fun r h' => r = some (.int (cntB (fun k => !decide (hi 52 k = -1)) 4)) ∧ h' = (hi, hl, RT)) := by
  refine MC.of [some (.ref 47), none, none] (by decide) rfl (Nat.le_of_ble_eq_true rfl) ?_
  refine g_iconst (v := 0) dX3_toldCouples_0 (by decide) ?_
  refine g_istore_n dX3_toldCouples_1 (by decide) rfl rfl ?_
  refine g_iconst (v := 0) dX3_toldCouples_2 (by decide) ?_
  refine g_istore_n dX3_toldCouples_3 (by decide) rfl rfl ?_
  exact lp_toldCouples 5 0 (by omega) (by omega) 0 rfl

set_option maxRecDepth 100000 in
set_option maxHeartbeats 4000000 in
theorem ct_ltell0  : MC E l 2 mX3_tell [.ref 47, .int 0] 83 (hi, hl, RT) 0 0 (fun r h' => r = some (.int (hi 47 5)) ∧ h' = (hi, hl, RT)) := by
  refine MC.of [some (.ref 47), some (.int 0), none] (by decide) rfl (Nat.le_of_ble_eq_true rfl) ?_
  refine g_iload_n dX3_tell_0 rfl ?_
  refine g_ifne 9 dX3_tell_1 (by decide) (fun c1 => ?_) (fun c1 => ?_)
  · skip
    exact absurd rfl c1
  · skip
    refine g_aload_n dX3_tell_4 rfl ?_
    refine g_geti dX3_tell_5 k_X3_31 rfl (by decide) rfl ?_
    exact g_ireturn dX3_tell_8 rfl rfl ⟨rfl, rfl⟩

set_option maxRecDepth 100000 in
set_option maxHeartbeats 4000000 in
theorem ct_ltell1  : MC E l 2 mX3_tell [.ref 47, .int 1] 83 (hi, hl, RT) 0 0 (fun r h' => r = some (.int (cntB (fun k => !decide (hi 52 k = -1)) 4)) ∧ h' = (hi, hl, RT)) := by
  refine MC.of [some (.ref 47), some (.int 1), none] (by decide) rfl (Nat.le_of_ble_eq_true rfl) ?_
  refine g_iload_n dX3_tell_0 rfl ?_
  refine g_ifne 9 dX3_tell_1 (by decide) (fun c1 => ?_) (fun c1 => ?_)
  · skip
    refine g_iload_n dX3_tell_9 rfl ?_
    refine g_iconst (v := 1) dX3_tell_10 (by decide) ?_
    refine g_icmpne 19 dX3_tell_11 (by decide) (fun c11 => ?_) (fun c11 => ?_)
    · skip
      exact absurd rfl c11
    · skip
      refine g_aload_n dX3_tell_14 rfl ?_
      refine g_callV0 (M' := mX3_toldCouples) (mc' := 0) (ms' := 0) dX3_tell_15 l_X3_35 s_mX3_toldCouples (by decide) rfl rfl f_mX3_toldCouples (Nat.le_of_ble_eq_true rfl) (by decide) (ct_toldCouples) ?_
      rintro _ _ ⟨rfl, rfl⟩
      exact g_ireturn dX3_tell_18 rfl rfl ⟨rfl, rfl⟩
  · skip
    exact absurd c1 (by decide)

set_option maxRecDepth 100000 in
set_option maxHeartbeats 4000000 in
theorem ct_ltellK {k : Nat} (hk : k < 4) : MC E l 2 mX3_tell [.ref 47, .int (nI (10 + k))] 83 (hi, hl, RT) 0 0 (fun r h' => r = some (.int (hi 52 k)) ∧ h' = (hi, hl, RT)) := by
  refine MC.of [some (.ref 47), some (.int (nI (10 + k))), none] (by decide) rfl (Nat.le_of_ble_eq_true rfl) ?_
  have e10 : nI (10 + k) - 10 = nI k := (pk_sub (a := 10 + k) (b := 10) (by omega)).trans (by rw [Nat.add_sub_cancel_left])
  have ecl : (nI k).toNatClampNeg = k := nI_clamp (by omega)
  refine g_iload_n dX3_tell_0 rfl ?_
  refine g_ifne 9 dX3_tell_1 (by decide) (fun c1 => ?_) (fun c1 => ?_)
  · skip
    refine g_iload_n dX3_tell_9 rfl ?_
    refine g_iconst (v := 1) dX3_tell_10 (by decide) ?_
    refine g_icmpne 19 dX3_tell_11 (by decide) (fun c11 => ?_) (fun c11 => ?_)
    · skip
      refine g_iload_n dX3_tell_19 rfl ?_
      refine g_bipush (v := 10) dX3_tell_20 (by decide) ?_
      refine g_isub dX3_tell_22 ?_
      rw [e10]
      refine g_istore_n dX3_tell_23 (by decide) rfl rfl ?_
      refine g_iload_n dX3_tell_24 rfl ?_
      refine g_iflt 46 dX3_tell_25 (by decide) (fun c25 => ?_) (fun c25 => ?_)
      · skip
        exact absurd c25 (nI_pos (by omega))
      · skip
        refine g_iload_n dX3_tell_28 rfl ?_
        refine g_aload_n dX3_tell_29 rfl ?_
        refine g_getr dX3_tell_30 k_X3_24 rfl (by decide) rfl rfl ?_
        refine g_alen dX3_tell_33 (by decide) rfl (Or.inl rfl) ?_
        refine g_icmpge 46 dX3_tell_34 (by decide) (fun c34 => ?_) (fun c34 => ?_)
        · skip
          exact absurd ((nI_leI (a := 4) (by decide) (by omega)).mp c34) (by omega)
        · skip
          refine g_aload_n dX3_tell_37 rfl ?_
          refine g_getr dX3_tell_38 k_X3_24 rfl (by decide) rfl rfl ?_
          refine g_iload_n dX3_tell_41 rfl ?_
          refine g_iald dX3_tell_42 (by decide) rfl (vp_in_nI hk (by decide)) ?_
          rw [ecl]
          refine g_goto 48 dX3_tell_43 (by decide) ?_
          exact g_ireturn dX3_tell_48 rfl rfl ⟨rfl, rfl⟩
    · skip
      exact absurd ((nI_eq (b := 1) (by omega) (by decide)).mp c11) (by omega)
  · skip
    exact absurd c1 (nI_ne0 (by omega) (by omega))

theorem srt_inj (P : Nat → Int32) (b : Bool) : ∀ N i j, i < j → j < N → srt P b N i ≠ srt P b N j
  | 0, i, j, _, h => absurd h (Nat.not_lt_zero j)
  | N + 1, i, j, hij, hj => by
    have hq := srtQ_le P b N
    have lt := fun k (hk : k < N) => srt_lt P b N k hk
    have ih := fun i j h1 h2 => srt_inj P b N i j h1 h2
    rw [srt_s, srt_s]
    generalize srtQ P b N = Q at hq ⊢
    by_cases h1 : j < Q
    · rw [if_pos h1, if_pos (by omega)]
      exact ih i j hij (by omega)
    · rw [if_neg h1]
      by_cases h2 : j = Q
      · rw [if_pos h2, if_pos (by omega)]
        have := lt i (by omega)
        omega
      · rw [if_neg h2]
        by_cases h3 : i < Q
        · rw [if_pos h3]
          exact ih i (j - 1) (by omega) (by omega)
        · rw [if_neg h3]
          by_cases h4 : i = Q
          · rw [if_pos h4]
            have := lt (j - 1) (by omega)
            omega
          · rw [if_neg h4]
            exact ih (i - 1) (j - 1) (by omega) (by omega)
/-- outside the rows nothing has changed -/
def LX (hi hf : Nat → Nat → Int32) : Prop := ∀ a k, a < 48 ∨ 52 < a → ¬ (a = 47 ∧ k = 5) → hf a k = hi a k
theorem LX.rf {f : Nat → Nat → Int32} : LX f f := fun _ _ _ _ => rfl
theorem LX.trans {f g h : Nat → Nat → Int32} (h1 : LX f g) (h2 : LX g h) : LX f h := fun a k q z => (h2 a k q z).trans (h1 a k q z)
theorem LX.vw {f g : Nat → Nat → Int32} (h : LX f g) {N : Nat} (hN : N ≤ 8) : vw g 3 N = vw f 3 N := w_congr (fun k hk t _ _ => h _ _ (by omega) (by omega))
theorem LX.kv {f g : Nat → Nat → Int32} (h : LX f g) (hk : KV f) : KV g := by
  intro p hp
  have n0 : ¬ p = 47 := xo_sh hp (a := 47) rfl (by decide)
  have n1 : ¬ p = 48 := xo_sh hp (a := 48) rfl (by decide)
  have n2 : ¬ p = 49 := xo_sh hp (a := 49) rfl (by decide)
  have n3 : ¬ p = 50 := xo_sh hp (a := 50) rfl (by decide)
  have n4 : ¬ p = 51 := xo_sh hp (a := 51) rfl (by decide)
  have n5 : ¬ p = 52 := xo_sh hp (a := 52) rfl (by decide)
  rw [h p 2 (by omega) (by omega)]
  exact hk p hp
theorem LX.pb {f g : Nat → Nat → Int32} (h : LX f g) {c : Nat} (hc : isC c) (hk : PB f c) : PB g c := by
  intro j hj
  have : c ≤ 32 := by rcases hc with rfl | rfl | rfl <;> decide
  rw [h _ 0 (by omega) (by omega), h _ 1 (by omega) (by omega)]
  exact hk j hj
theorem LX.lr {f g : Nat → Nat → Int32} (h : LR f g) : LX f g := fun a k q z => h a k (by omega) (by omega) z
/-- whom a lasting row gives: the orders, the ranks, the mutual ones are the sea's -/
def lsF (v : VV) (N F : Nat) (K : Nat → Int32) : ST := tfF (srt (fun j => vPic v j) true N) (fun k => vMut v N k) K F N F 0 (fun _ => -1) (fun _ => -1, 0)
def RK (v : VV) (N : Nat) (K : Nat → Int32) : Prop := ∀ q, q < N → K (srt (fun j => vPic v j) true N q) = nI q

theorem z_and (x : Int32) : 0 &&& x = 0 := by
  cases x
  simp
theorem bit_and : ∀ i, i < 8 → ∀ j, j < 8 → bitI i &&& bitI j = if i = j then bitI i else 0 := by decide
theorem or_and (x y z : Int32) : (x ||| y) &&& z = (x &&& z) ||| (y &&& z) := by
  apply Int32.toBitVec_inj.mp
  simp only [Int32.toBitVec_or, Int32.toBitVec_and]
  ext i h
  simp only [BitVec.getElem_or, BitVec.getElem_and]
  exact Bool.and_or_distrib_right _ _ _
/-- a bit that was not put isn't there -/
theorem orB_bit {P : Nat → Bool} {N j n : Nat} (hN8 : N ≤ 8) (hn : n ≤ N) (hj : j < N) (h : P j = false) : orB P bitI n &&& bitI j = 0 := by
  induction n with
  | zero => exact z_and _
  | succ n ih =>
    rw [orB, or_and, ih (by omega)]
    by_cases e : n = j
    · subst e
      rw [if_neg (by rw [h]; decide), z_and]
      decide
    · split
      · rw [bit_and n (by omega) j (by omega), if_neg e]
        decide
      · rw [z_and]
        decide
theorem mut_side {hi : Nat → Nat → Int32} (hb : PB hi 3) {N F : Nat} (hN8 : N ≤ 8) (hsd : ∀ k, k < N → hi (3 + 6 + k) 3 = bI (decide (F ≤ k))) : ∀ i j, i < N → j < N → mutB (fun k => vMut (vw hi 3 N) N k) i j = true → (i < F ↔ F ≤ j) := by
  intro i j hi1 hj1 h
  by_cases hl : vLikes (vw hi 3 N) i j = true
  · unfold vLikes at hl
    rw [vw_at hi1 (by decide) (by decide), vw_at hj1 (by decide) (by decide), hsd i hi1, hsd j hj1] at hl
    have h2 := (Bool.and_eq_true_iff.mp hl).1
    by_cases a1 : F ≤ i <;> by_cases a2 : F ≤ j <;> simp [a1, a2, bI] at h2 <;> omega
  · exfalso
    have h3 : vMut (vw hi 3 N) N i &&& bitI j = 0 := by
      unfold vMut
      split
      · exact orB_bit (by omega) (by omega) hj1 (by simp [Bool.eq_false_iff.mpr hl])
      · exact z_and _
    have h4 : mutB (fun k => vMut (vw hi 3 N) N k) i j = false := by
      unfold mutB
      simp [h3]
    rw [h4] at h
    cases h

set_option maxRecDepth 100000 in
set_option maxHeartbeats 4000000 in
theorem lp_workOut2 (hkv : KV hi) (hb3 : PB hi 3) {N F : Nat} (hN8 : N ≤ 8) (hFN : F ≤ N) (hF4 : F ≤ 4) (hN : hi 3 3 = nI N) (hF : hi 3 2 = nI F) (hsd : ∀ k, k < N → hi (3 + 6 + k) 3 = bI (decide (F ≤ k))) : ∀ (n i : Nat) (g : Nat → Nat → Int32), i + n = N → LX hi g → (∀ k, k < N → g 48 k = nI ((srt (fun j => vPic (vw hi 3 N) j) true N) k)) → (∀ q, q < i → g 49 ((srt (fun j => vPic (vw hi 3 N) j) true N) q) = nI q) → (∀ k, k < i → g 50 k = vMut (vw hi 3 N) N k) → (∀ k, k < i → g 51 k = -1) → (∀ k, k < 4 → g 52 k = -1) → g 47 5 = 0 → G E l 9 mX3_workOut 40 [some (.ref 47), some (.ref 3), some (.int (nI i))] [] 83 (g, hl, RT) 0 0 (fun r h' => ∃ hf K, r = none ∧ h' = (hf, hl, RT) ∧ LX hi hf ∧ RK (vw hi 3 N) N K ∧ (∀ k, k < 4 → hf 52 k = (lsF (vw hi 3 N) N F K).1 k) ∧ hf 47 5 = (lsF (vw hi 3 N) N F K).2) := by
  intro n
  induction n with
  | zero =>
    intro i g hin hx h48 h49 h50 h51 h52 h47
    have hiN : i = N := by omega
    subst hiN
    have gN : g 3 3 = nI i := (hx 3 3 (by omega) (by omega)).trans hN
    have gF : g 3 2 = nI F := (hx 3 2 (by omega) (by omega)).trans hF
    refine g_iload_n dX3_workOut_40 rfl ?_
    refine g_aload_n dX3_workOut_41 rfl ?_
    refine g_geti dX3_workOut_42 k_X3_45 rfl (by decide) rfl ?_
    refine g_icmpge 89 dX3_workOut_45 (by decide) (fun c45 => ?_) (fun c45 => ?_)
    · skip
      refine g_aload_n dX3_workOut_89 rfl ?_
      refine g_iconst (v := 0) dX3_workOut_90 (by decide) ?_
      refine g_aload_n dX3_workOut_91 rfl ?_
      refine g_geti dX3_workOut_92 k_X3_56 rfl (by decide) rfl ?_
      refine g_aload_n dX3_workOut_95 rfl ?_
      refine g_geti dX3_workOut_96 k_X3_45 rfl (by decide) rfl ?_
      rw [show (g, hl, RT).1 3 3 = nI i from gN, show (g, hl, RT).1 3 2 = nI F from gF]
      refine g_callV3 (M' := mX3_tryFrom) (mc' := 0) (ms' := 0) dX3_workOut_99 l_X3_59 s_mX3_tryFrom (by decide) rfl rfl f_mX3_tryFrom (Nat.le_of_ble_eq_true rfl) (by omega) (ct_tryFrom hN8 hFN hF4 (O := srt (fun j => vPic (vw hi 3 i) j) true i) (K := g 49) (U := fun k => vMut (vw hi 3 i) i k) (fun k hk => srt_lt _ _ i k hk) trivial (mut_side hb3 hN8 hsd) F 0 (fun _ => -1) (fun _ => -1) 0 g (by omega) (fun k _ => Or.inl rfl) (fun k _ _ => rfl) ⟨h48, fun _ _ => rfl, h50, h51, h52, h47⟩) ?_
      rintro _ _ ⟨rfl, hf, rfl, h1, h2⟩
      exact g_return dX3_workOut_102 rfl ⟨hf, g 49, rfl, rfl, hx.trans (LX.lr h1), h49, h2.2.2.2.2.1, h2.2.2.2.2.2⟩
    · skip
      exact absurd (by show g 3 3 ≤ nI i; rw [gN]; exact nI_le (Nat.le_refl _) (by omega)) c45
  | succ n ih =>
    intro i g hin hx h48 h49 h50 h51 h52 h47
    have hi8 : i < 8 := by omega
    have gN : g 3 3 = nI N := (hx 3 3 (by omega) (by omega)).trans hN
    have hoN : (srt (fun j => vPic (vw hi 3 N) j) true N) i < N := srt_lt _ _ N i (by omega)
    have ecl : (nI i).toNatClampNeg = i := nI_clamp (by omega)
    have eco : (nI ((srt (fun j => vPic (vw hi 3 N) j) true N) i)).toNatClampNeg = (srt (fun j => vPic (vw hi 3 N) j) true N) i := nI_clamp (by omega)
    have hrow : g 48 (nI i).toNatClampNeg = nI ((srt (fun j => vPic (vw hi 3 N) j) true N) i) := by rw [ecl]; exact h48 i (by omega)
    refine g_iload_n dX3_workOut_40 rfl ?_
    refine g_aload_n dX3_workOut_41 rfl ?_
    refine g_geti dX3_workOut_42 k_X3_45 rfl (by decide) rfl ?_
    refine g_icmpge 89 dX3_workOut_45 (by decide) (fun c45 => ?_) (fun c45 => ?_)
    · skip
      exact absurd (ge_out gN c45 (by omega) (by omega)) (by omega)
    · skip
      refine g_aload_n dX3_workOut_48 rfl ?_
      refine g_getr dX3_workOut_49 k_X3_15 rfl (by decide) rfl rfl ?_
      refine g_aload_n dX3_workOut_52 rfl ?_
      refine g_getr dX3_workOut_53 k_X3_9 rfl (by decide) rfl rfl ?_
      refine g_iload_n dX3_workOut_56 rfl ?_
      refine g_iald dX3_workOut_57 (by decide) rfl (vp_in_nI hi8 (by decide)) ?_
      rw [show (g, hl, RT).1 48 (nI i).toNatClampNeg = nI ((srt (fun j => vPic (vw hi 3 N) j) true N) i) from hrow]
      refine g_iload_n dX3_workOut_58 rfl ?_
      refine g_iast dX3_workOut_59 (by decide) rfl (vp_in_nI (by omega) (by decide)) ?_
      rw [eco]
      have hxa : LX hi (upI g 49 ((srt (fun j => vPic (vw hi 3 N) j) true N) i) (nI i)) := hx.trans (fun a k q z => upI_a (by omega))
      refine g_aload_n dX3_workOut_60 rfl ?_
      refine g_getr dX3_workOut_61 k_X3_18 rfl (by decide) rfl rfl ?_
      refine g_iload_n dX3_workOut_64 rfl ?_
      refine g_aload_n dX3_workOut_65 rfl ?_
      refine g_aload_n dX3_workOut_66 rfl ?_
      refine g_getr dX3_workOut_67 k_X3_48 rfl (by decide) rfl isC3.people ?_
      refine g_iload_n dX3_workOut_70 rfl ?_
      refine g_aald dX3_workOut_71 isC3.a1.1 isC3.a1.2 rfl hi8 (by decide) (isC3.rp hi8) ?_
      refine g_callV1 (M' := mX0_mutualOf) (mc' := 0) (ms' := 0) dX3_workOut_72 l_X3_52 s_mX0_mutualOf (by decide) rfl rfl f_mX0_mutualOf (Nat.le_of_ble_eq_true rfl) (by decide) (ct_mutualOf (hxa.kv hkv) isC3 hN8 ((hxa 3 3 (by omega) (by omega)).trans hN) (isC3.p hi8)) ?_
      rintro _ _ ⟨rfl, rfl⟩
      rw [show mutF (upI g 49 ((srt (fun j => vPic (vw hi 3 N) j) true N) i) (nI i)) 3 N (3 + 6 + i) = vMut (vw hi 3 N) N i from by rw [← w_mut (hxa.pb isC3 hb3) hN8 (by omega), hxa.vw hN8]]
      refine g_iast dX3_workOut_75 (by decide) rfl (by first | exact vp_in_nI hi8 (by decide)) ?_
      rw [ecl]
      refine g_aload_n dX3_workOut_76 rfl ?_
      refine g_getr dX3_workOut_77 k_X3_21 rfl (by decide) rfl rfl ?_
      refine g_iload_n dX3_workOut_80 rfl ?_
      refine g_iconst (v := -1) dX3_workOut_81 (by decide) ?_
      refine g_iast dX3_workOut_82 (by decide) rfl (vp_in_nI hi8 (by decide)) ?_
      rw [ecl]
      refine g_iinc dX3_workOut_83 rfl (nI_inc i) (by decide) rfl rfl ?_
      refine g_goto 40 dX3_workOut_86 (by decide) ?_
      refine ih (i + 1) (upI (upI (upI g 49 ((srt (fun j => vPic (vw hi 3 N) j) true N) i) (nI i)) 50 i (vMut (vw hi 3 N) N i)) 51 i (-1)) (by omega) (hxa.trans (fun a k q z => (upI_a (by omega)).trans (upI_a (by omega)))) ?_ ?_ ?_ ?_ ?_ ?_
      · intro k hk
        rw [upI_a (by decide), upI_a (by decide), upI_a (by decide)]
        exact h48 k hk
      · intro q hq
        rw [upI_a (by decide), upI_a (by decide)]
        by_cases e : q = i
        · rw [e, upI_s]
        · rw [upI_k (srt_inj _ _ N q i (by omega) (by omega))]
          exact h49 q (by omega)
      · intro k hk
        rw [upI_a (by decide)]
        by_cases e : k = i
        · rw [e, upI_s]
        · rw [upI_k e, upI_a (by decide)]
          exact h50 k (by omega)
      · intro k hk
        by_cases e : k = i
        · rw [e, upI_s]
        · rw [upI_k e, upI_a (by decide), upI_a (by decide)]
          exact h51 k (by omega)
      · intro k hk
        rw [upI_a (by decide), upI_a (by decide), upI_a (by decide)]
        exact h52 k hk
      · rw [upI_a (by decide), upI_a (by decide), upI_a (by decide)]
        exact h47

set_option maxRecDepth 100000 in
set_option maxHeartbeats 4000000 in
theorem lp_workOut1 (hkv : KV hi) (hb3 : PB hi 3) {N F : Nat} (hN8 : N ≤ 8) (hFN : F ≤ N) (hF4 : F ≤ 4) (hN : hi 3 3 = nI N) (hF : hi 3 2 = nI F) (hsd : ∀ k, k < N → hi (3 + 6 + k) 3 = bI (decide (F ≤ k))) : ∀ (n i : Nat) (g : Nat → Nat → Int32), i + n = 4 → LX hi g → (∀ k, k < i → g 52 k = -1) → g 47 5 = 0 → G E l 9 mX3_workOut 7 [some (.ref 47), some (.ref 3), some (.int (nI i))] [] 83 (g, hl, RT) 0 0 (fun r h' => ∃ hf K, r = none ∧ h' = (hf, hl, RT) ∧ LX hi hf ∧ RK (vw hi 3 N) N K ∧ (∀ k, k < 4 → hf 52 k = (lsF (vw hi 3 N) N F K).1 k) ∧ hf 47 5 = (lsF (vw hi 3 N) N F K).2) := by
  intro n
  induction n with
  | zero =>
    intro i g hin hx h52 h47
    have hi4 : i = 4 := by omega
    subst hi4
    refine g_iload_n dX3_workOut_7 rfl ?_
    refine g_aload_n dX3_workOut_8 rfl ?_
    refine g_getr dX3_workOut_9 k_X3_24 rfl (by decide) rfl rfl ?_
    refine g_alen dX3_workOut_12 (by decide) rfl (Or.inl rfl) ?_
    refine g_icmpge 29 dX3_workOut_13 (by decide) (fun c13 => ?_) (fun c13 => ?_)
    · skip
      refine g_aload_n dX3_workOut_29 rfl ?_
      refine g_aload_n dX3_workOut_30 rfl ?_
      refine g_getr dX3_workOut_31 k_X3_9 rfl (by decide) rfl rfl ?_
      refine g_iconst (v := 1) dX3_workOut_34 (by decide) ?_
      refine g_callV2 (M' := mX0_putInOrder) (mc' := 0) (ms' := 0) dX3_workOut_35 l_X3_39 s_mX0_putInOrder (by decide) rfl rfl f_mX0_putInOrder (Nat.le_of_ble_eq_true rfl) (by decide) (ct_putInOrder isC3 hN8 ((hx 3 3 (by omega) (by omega)).trans hN) (ra := 48) ⟨by decide, rfl⟩ true) ?_
      rintro _ _ ⟨rfl, gr, hgr, rfl⟩
      refine g_iconst (v := 0) dX3_workOut_38 (by decide) ?_
      refine g_istore_n dX3_workOut_39 (by decide) rfl rfl ?_
      have hpp : ∀ j, j < N → (fun j => pPic g (3 + 6 + j)) j = (fun j => vPic (vw hi 3 N) j) j := by
        intro j hj
        show pPic g (3 + 6 + j) = vPic (vw hi 3 N) j
        rw [← w_pic hj, hx.vw hN8]
      refine lp_workOut2 hkv hb3 hN8 hFN hF4 hN hF hsd N 0 _ (by omega) (hx.trans (fun a k q z => rw_off (by omega) k)) ?_ (fun q hq => absurd hq (by omega)) (fun q hq => absurd hq (by omega)) (fun q hq => absurd hq (by omega)) ?_ ?_
      · intro k hk
        rw [rw_on, hgr k hk, srt_congr hpp N (Nat.le_refl N)]
      · intro k hk
        rw [rw_off (by decide)]
        exact h52 k hk
      · rw [rw_off (by decide)]
        exact h47
    · skip
      exact absurd (Int32.le_refl _) c13
  | succ n ih =>
    intro i g hin hx h52 h47
    have ecl : (nI i).toNatClampNeg = i := nI_clamp (by omega)
    refine g_iload_n dX3_workOut_7 rfl ?_
    refine g_aload_n dX3_workOut_8 rfl ?_
    refine g_getr dX3_workOut_9 k_X3_24 rfl (by decide) rfl rfl ?_
    refine g_alen dX3_workOut_12 (by decide) rfl (Or.inl rfl) ?_
    refine g_icmpge 29 dX3_workOut_13 (by decide) (fun c13 => ?_) (fun c13 => ?_)
    · skip
      exact absurd ((nI_leI (a := 4) (by decide) (by omega)).mp c13) (by omega)
    · skip
      refine g_aload_n dX3_workOut_16 rfl ?_
      refine g_getr dX3_workOut_17 k_X3_24 rfl (by decide) rfl rfl ?_
      refine g_iload_n dX3_workOut_20 rfl ?_
      refine g_iconst (v := -1) dX3_workOut_21 (by decide) ?_
      refine g_iast dX3_workOut_22 (by decide) rfl (vp_in_nI (by omega) (by decide)) ?_
      rw [ecl]
      refine g_iinc dX3_workOut_23 rfl (nI_inc i) (by decide) rfl rfl ?_
      refine g_goto 7 dX3_workOut_26 (by decide) ?_
      refine ih (i + 1) (upI g 52 i (-1)) (by omega) (hx.trans (fun a k q z => upI_a (by omega))) ?_ ?_
      · intro k hk
        by_cases e : k = i
        · rw [e, upI_s]
        · rw [upI_k e]
          exact h52 k (by omega)
      · rw [upI_a (by decide)]
        exact h47

set_option maxRecDepth 100000 in
set_option maxHeartbeats 4000000 in
theorem ct_workOut (hkv : KV hi) (hb3 : PB hi 3) {N F : Nat} (hN8 : N ≤ 8) (hFN : F ≤ N) (hF4 : F ≤ 4) (hN : hi 3 3 = nI N) (hF : hi 3 2 = nI F) (hsd : ∀ k, k < N → hi (3 + 6 + k) 3 = bI (decide (F ≤ k))) : MC E l 9 mX3_workOut [.ref 47, .ref 3] 83 (hi, hl, RT) 0 0 (fun r h' => ∃ hf K, r = none ∧ h' = (hf, hl, RT) ∧ LX hi hf ∧ RK (vw hi 3 N) N K ∧ (∀ k, k < 4 → hf 52 k = (lsF (vw hi 3 N) N F K).1 k) ∧ hf 47 5 = (lsF (vw hi 3 N) N F K).2) := by
  refine MC.of [some (.ref 47), some (.ref 3), none] (by decide) rfl (Nat.le_of_ble_eq_true rfl) ?_
  refine g_aload_n dX3_workOut_0 rfl ?_
  refine g_iconst (v := 0) dX3_workOut_1 (by decide) ?_
  refine g_puti dX3_workOut_2 k_X3_31 rfl (by decide) rfl rfl rfl ?_
  refine g_iconst (v := 0) dX3_workOut_5 (by decide) ?_
  refine g_istore_n dX3_workOut_6 (by decide) rfl rfl ?_
  refine lp_workOut1 hkv hb3 hN8 hFN hF4 hN hF hsd 4 0 _ (by omega) (fun a k q z => upI_a' (by omega)) (fun k hk => absurd hk (by omega)) upI_s

end
