section
variable {E : XE} {l : Launch} {hi : Nat → Nat → Int32} {hl : Nat → Nat → Int64}

/-- insertion: where i goes among the first q of f; the order of the first i -/
def insQ (P : Nat → Int32) (f : Nat → Nat) (i : Nat) : Nat → Nat
  | 0 => 0
  | q + 1 => if P (f q) < P i then insQ P f i q else q + 1
def srt (P : Nat → Int32) (b : Bool) : Nat → Nat → Nat
  | 0 => fun k => k
  | i + 1 => fun k => if k < (if b = true then insQ P (srt P b i) i i else i) then srt P b i k else if k = (if b = true then insQ P (srt P b i) i i else i) then i else srt P b i (k - 1)
theorem insQ_le (P : Nat → Int32) (f : Nat → Nat) (i : Nat) : ∀ q, insQ P f i q ≤ q
  | 0 => Nat.le_refl 0
  | q + 1 => by
    rw [insQ]
    split
    · exact Nat.le_succ_of_le (insQ_le P f i q)
    · exact Nat.le_refl _
def srtQ (P : Nat → Int32) (b : Bool) (i : Nat) : Nat := if b = true then insQ P (srt P b i) i i else i
theorem srt_s (P : Nat → Int32) (b : Bool) (i k : Nat) : srt P b (i + 1) k = if k < srtQ P b i then srt P b i k else if k = srtQ P b i then i else srt P b i (k - 1) := rfl
theorem srtQ_le (P : Nat → Int32) (b : Bool) (i : Nat) : srtQ P b i ≤ i := by
  unfold srtQ
  split
  · exact insQ_le P _ i i
  · exact Nat.le_refl i
theorem srt_lt (P : Nat → Int32) (b : Bool) : ∀ i k, k < i → srt P b i k < i
  | 0, k, h => absurd h (Nat.not_lt_zero k)
  | i + 1, k, h => by
    have hq := srtQ_le P b i
    rw [srt_s]
    by_cases h1 : k < srtQ P b i
    · rw [if_pos h1]
      have := srt_lt P b i k (by omega)
      omega
    · rw [if_neg h1]
      by_cases h2 : k = srtQ P b i
      · rw [if_pos h2]
        omega
      · rw [if_neg h2]
        have := srt_lt P b i (k - 1) (by omega)
        omega
/-- the row at ra is g -/
def rwF (hi : Nat → Nat → Int32) (ra : Nat) (g : Nat → Int32) : Nat → Nat → Int32 := fun a k => if a = ra then g k else hi a k
theorem rw_self (hi : Nat → Nat → Int32) (ra : Nat) : rwF hi ra (hi ra) = hi := by
  funext a k
  unfold rwF
  by_cases h : a = ra
  · rw [if_pos h, h]
  · rw [if_neg h]
theorem rw_up (hi : Nat → Nat → Int32) (ra : Nat) (g : Nat → Int32) (k : Nat) (v : Int32) : upI (rwF hi ra g) ra k v = rwF hi ra (upd g k v) := by
  funext a j
  unfold upI rwF upd
  by_cases h : a = ra
  · by_cases h2 : j = k
    · rw [if_pos ⟨h, h2⟩, if_pos h, if_pos h2]
    · rw [if_neg (fun q => h2 q.2), if_pos h, if_pos h, if_neg h2]
  · rw [if_neg (fun q => h q.1), if_neg h, if_neg h]
theorem rw_on (hi : Nat → Nat → Int32) (ra : Nat) (g : Nat → Int32) (k : Nat) : rwF hi ra g ra k = g k := if_pos rfl
theorem rw_off {hi : Nat → Nat → Int32} {ra : Nat} {g : Nat → Int32} {a : Nat} (h : ¬ a = ra) (k : Nat) : rwF hi ra g a k = hi a k := if_neg h
theorem pic_rw {hi : Nat → Nat → Int32} {ra : Nat} {g : Nat → Int32} {p : Nat} (h : ¬ p = ra) : pPic (rwF hi ra g) p = pPic hi p := by
  unfold pPic
  rw [rw_off h, rw_off h]
def XAr (n a : Nat) : Prop := a < 83 ∧ xsh.getD a (9, 0) = (1, n)
theorem xa_ne {a b i n : Nat} (ha : XO i a) (hb : XAr n b) : ¬ a = b := by
  intro q
  subst q
  have := ha.2.symm.trans hb.2
  cases this
theorem nI_dec (q : Nat) : nI (q + 1) + Int32.ofInt (-1) = nI q := by
  rw [show Int32.ofInt (-1) = -1 from by decide]
  exact pk_m1 q

set_option maxRecDepth 100000 in
set_option maxHeartbeats 4000000 in
theorem lp_pioIn {c : Nat} (hc : isC c) {N : Nat} (hN8 : N ≤ 8) (hN : hi c 3 = nI N) {ra : Nat} (hra : XAr 8 ra) (b : Bool) {i : Nat} (hiN : i < N) (hout : ∀ (g : Nat → Int32) (l4 : Option Value), xcat2 l4 = false → (∀ k, k < i + 1 → g k = nI (srt (fun j => pPic hi (c + 6 + j)) b (i + 1) k)) → G E l 2 mX0_putInOrder 2 [some (.ref c), some (.ref ra), some (.int (bI b)), some (.int (nI (i + 1))), l4] [] 83 (rwF hi ra g, hl, RT) 0 0 (fun r h' => r = none ∧ ∃ g : Nat → Int32, (∀ k, k < N → g k = nI (srt (fun j => pPic hi (c + 6 + j)) b N k)) ∧ h' = (rwF hi ra g, hl, RT))) : ∀ (q : Nat) (g : Nat → Int32), q ≤ i → (∀ k, k < q → g k = nI (srt (fun j => pPic hi (c + 6 + j)) b i k)) → (∀ k, q < k → k ≤ i → g k = nI (srt (fun j => pPic hi (c + 6 + j)) b i (k - 1))) → (b = true → insQ (fun j => pPic hi (c + 6 + j)) (srt (fun j => pPic hi (c + 6 + j)) b i) i i = insQ (fun j => pPic hi (c + 6 + j)) (srt (fun j => pPic hi (c + 6 + j)) b i) i q) → (b = false → q = i) → G E l 2 mX0_putInOrder 19 [some (.ref c), some (.ref ra), some (.int (bI b)), some (.int (nI i)), some (.int (nI q))] [] 83 (rwF hi ra g, hl, RT) 0 0 (fun r h' => r = none ∧ ∃ g : Nat → Int32, (∀ k, k < N → g k = nI (srt (fun j => pPic hi (c + 6 + j)) b N k)) ∧ h' = (rwF hi ra g, hl, RT)) := by
  have hi8 : i < 8 := by omega
  have ecl : ∀ q : Nat, q ≤ i → (nI q).toNatClampNeg = q := fun q h => nI_clamp (by omega)
  have fin : ∀ (q : Nat) (g : Nat → Int32), q ≤ i → (∀ k, k < q → g k = nI (srt (fun j => pPic hi (c + 6 + j)) b i k)) → (∀ k, q < k → k ≤ i → g k = nI (srt (fun j => pPic hi (c + 6 + j)) b i (k - 1))) → srtQ (fun j => pPic hi (c + 6 + j)) b i = q → ∀ k, k < i + 1 → upd g q (nI i) k = nI (srt (fun j => pPic hi (c + 6 + j)) b (i + 1) k) := by
    intro q g hq h1 h2 he k hk
    rw [srt_s, he]
    unfold upd
    by_cases e1 : k = q
    · rw [if_pos e1, if_neg (by omega), if_pos e1]
    · rw [if_neg e1]
      by_cases e2 : k < q
      · rw [if_pos e2, h1 k e2]
      · rw [if_neg e2, if_neg e1, h2 k (by omega) (by omega)]
  intro q
  induction q with
  | zero =>
    intro g hq h1 h2 h3 h4
    refine g_iload_n dX0_putInOrder_19 rfl ?_
    refine g_ifeq 70 dX0_putInOrder_20 (by decide) (fun c20 => ?_) (fun c20 => ?_)
    · skip
      refine g_aload_n dX0_putInOrder_70 rfl ?_
      refine g_iload dX0_putInOrder_71 rfl ?_
      refine g_iload_n dX0_putInOrder_73 rfl ?_
      refine g_iast dX0_putInOrder_74 hra.1 hra.2 (vp_in_nI (by omega) (by decide)) ?_
      refine g_iinc dX0_putInOrder_75 rfl (nI_inc i) (by decide) rfl rfl ?_
      refine g_goto 2 dX0_putInOrder_78 (by decide) ?_
      rw [ecl _ hq]
      refine g_hi (rw_up hi ra g _ _) (hout _ _ rfl (fin _ g hq h1 h2 ?_))
      unfold srtQ
      rw [if_neg (by rw [bI_0.mp c20]; decide)]
      exact (h4 (bI_0.mp c20)).symm
    · skip
      refine g_iload dX0_putInOrder_23 rfl ?_
      refine g_ifle 70 dX0_putInOrder_25 (by decide) (fun c25 => ?_) (fun c25 => ?_)
      · skip
        refine g_aload_n dX0_putInOrder_70 rfl ?_
        refine g_iload dX0_putInOrder_71 rfl ?_
        refine g_iload_n dX0_putInOrder_73 rfl ?_
        refine g_iast dX0_putInOrder_74 hra.1 hra.2 (vp_in_nI (by omega) (by decide)) ?_
        refine g_iinc dX0_putInOrder_75 rfl (nI_inc i) (by decide) rfl rfl ?_
        refine g_goto 2 dX0_putInOrder_78 (by decide) ?_
        rw [ecl _ hq]
        refine g_hi (rw_up hi ra g _ _) (hout _ _ rfl (fin _ g hq h1 h2 ?_))
        unfold srtQ
        rw [if_pos (bI_n.mp c20), h3 (bI_n.mp c20)]
        rfl
      · skip
        exact absurd (by decide) c25
  | succ q ih =>
    intro g hq h1 h2 h3 h4
    refine g_iload_n dX0_putInOrder_19 rfl ?_
    refine g_ifeq 70 dX0_putInOrder_20 (by decide) (fun c20 => ?_) (fun c20 => ?_)
    · skip
      refine g_aload_n dX0_putInOrder_70 rfl ?_
      refine g_iload dX0_putInOrder_71 rfl ?_
      refine g_iload_n dX0_putInOrder_73 rfl ?_
      refine g_iast dX0_putInOrder_74 hra.1 hra.2 (vp_in_nI (by omega) (by decide)) ?_
      refine g_iinc dX0_putInOrder_75 rfl (nI_inc i) (by decide) rfl rfl ?_
      refine g_goto 2 dX0_putInOrder_78 (by decide) ?_
      rw [ecl _ hq]
      refine g_hi (rw_up hi ra g _ _) (hout _ _ rfl (fin _ g hq h1 h2 ?_))
      unfold srtQ
      rw [if_neg (by rw [bI_0.mp c20]; decide)]
      exact (h4 (bI_0.mp c20)).symm
    · skip
      refine g_iload dX0_putInOrder_23 rfl ?_
      refine g_ifle 70 dX0_putInOrder_25 (by decide) (fun c25 => ?_) (fun c25 => ?_)
      · skip
        exact absurd c25 (nI_nle (by omega) (by omega))
      · skip
        have hf8 : srt (fun j => pPic hi (c + 6 + j)) b i q < 8 := by
          have := srt_lt (fun j => pPic hi (c + 6 + j)) b i q (by omega)
          omega
        have hrow : rwF hi ra g ra (nI q).toNatClampNeg = nI (srt (fun j => pPic hi (c + 6 + j)) b i q) := by rw [ecl q (by omega), rw_on, h1 q (by omega)]
        refine g_aload_n dX0_putInOrder_28 rfl ?_
        refine g_getr dX0_putInOrder_29 k_X0_11 rfl hc.o.1 hc.o.2 hc.people ?_
        refine g_iload_n dX0_putInOrder_32 rfl ?_
        refine g_aald dX0_putInOrder_33 hc.a1.1 hc.a1.2 rfl hi8 (by decide) (hc.rp hi8) ?_
        refine g_callV0 (M' := mX5_picture) (mc' := 0) (ms' := 0) dX0_putInOrder_34 l_X0_122 s_mX5_picture (hc.p hi8).1 (hc.p hi8).2 rfl f_mX5_picture (Nat.le_of_ble_eq_true rfl) (by decide) (ct_picture (hc.p hi8)) ?_
        rintro _ _ ⟨rfl, rfl⟩
        refine g_aload_n dX0_putInOrder_37 rfl ?_
        refine g_getr dX0_putInOrder_38 k_X0_11 rfl hc.o.1 hc.o.2 hc.people ?_
        refine g_aload_n dX0_putInOrder_41 rfl ?_
        refine g_iload dX0_putInOrder_42 rfl ?_
        refine g_iconst (v := 1) dX0_putInOrder_44 (by decide) ?_
        refine g_isub dX0_putInOrder_45 ?_
        rw [nI_pred]
        refine g_iald dX0_putInOrder_46 hra.1 hra.2 (vp_in_nI (by omega) (by decide)) ?_
        refine g_aald dX0_putInOrder_47 hc.a1.1 hc.a1.2 hrow hf8 (by decide) (hc.rp hf8) ?_
        refine g_callV0 (M' := mX5_picture) (mc' := 0) (ms' := 0) dX0_putInOrder_48 l_X0_122 s_mX5_picture (hc.p hf8).1 (hc.p hf8).2 rfl f_mX5_picture (Nat.le_of_ble_eq_true rfl) (by decide) (ct_picture (hc.p hf8)) ?_
        rintro _ _ ⟨rfl, rfl⟩
        refine g_icmple 70 dX0_putInOrder_51 (by decide) (fun c51 => ?_) (fun c51 => ?_)
        · skip
          refine g_aload_n dX0_putInOrder_70 rfl ?_
          refine g_iload dX0_putInOrder_71 rfl ?_
          refine g_iload_n dX0_putInOrder_73 rfl ?_
          refine g_iast dX0_putInOrder_74 hra.1 hra.2 (vp_in_nI (by omega) (by decide)) ?_
          refine g_iinc dX0_putInOrder_75 rfl (nI_inc i) (by decide) rfl rfl ?_
          refine g_goto 2 dX0_putInOrder_78 (by decide) ?_
          rw [ecl _ hq]
          refine g_hi (rw_up hi ra g _ _) (hout _ _ rfl (fin _ g hq h1 h2 ?_))
          unfold srtQ
          rw [if_pos (bI_n.mp c20), h3 (bI_n.mp c20), insQ, if_neg ?_]
          intro z
          have c52 : pPic (rwF hi ra g) (c + 6 + i) ≤ pPic (rwF hi ra g) (c + 6 + srt (fun j => pPic hi (c + 6 + j)) b i q) := c51
          rw [pic_rw (xa_ne (hc.p hi8) hra), pic_rw (xa_ne (hc.p hf8) hra)] at c52
          exact Int32.not_lt.mpr c52 z
        · skip
          refine g_aload_n dX0_putInOrder_54 rfl ?_
          refine g_iload dX0_putInOrder_55 rfl ?_
          refine g_aload_n dX0_putInOrder_57 rfl ?_
          refine g_iload dX0_putInOrder_58 rfl ?_
          refine g_iconst (v := 1) dX0_putInOrder_60 (by decide) ?_
          refine g_isub dX0_putInOrder_61 ?_
          rw [nI_pred]
          refine g_iald dX0_putInOrder_62 hra.1 hra.2 (vp_in_nI (by omega) (by decide)) ?_
          refine g_iast dX0_putInOrder_63 hra.1 hra.2 (vp_in_nI (by omega) (by decide)) ?_
          refine g_iinc dX0_putInOrder_64 rfl (nI_dec q) (by decide) rfl rfl ?_
          refine g_goto 19 dX0_putInOrder_67 (by decide) ?_
          rw [ecl _ hq, ecl q (by omega)]
          refine g_hi (rw_up hi ra g _ _) (ih _ (by omega) ?_ ?_ ?_ ?_)
          · intro k hk
            unfold upd
            rw [if_neg (by omega), h1 k (by omega)]
          · intro k hk1 hk2
            unfold upd
            by_cases e : k = q + 1
            · rw [if_pos e]
              show rwF hi ra g ra q = _
              rw [rw_on, h1 q (by omega), e]
              rfl
            · rw [if_neg e, h2 k (by omega) hk2]
          · intro hb
            rw [h3 hb, insQ, if_pos ?_]
            have c52 : ¬ pPic (rwF hi ra g) (c + 6 + i) ≤ pPic (rwF hi ra g) (c + 6 + srt (fun j => pPic hi (c + 6 + j)) b i q) := c51
            rw [pic_rw (xa_ne (hc.p hi8) hra), pic_rw (xa_ne (hc.p hf8) hra)] at c52
            exact Int32.not_le.mp c52
          · intro hb
            exact absurd (bI_n.mp c20) (by rw [hb]; decide)


set_option maxRecDepth 100000 in
set_option maxHeartbeats 4000000 in
theorem lp_putInOrder {c : Nat} (hc : isC c) {N : Nat} (hN8 : N ≤ 8) (hN : hi c 3 = nI N) {ra : Nat} (hra : XAr 8 ra) (b : Bool) : ∀ (n i : Nat), i ≤ N → N + 1 ≤ i + n → ∀ (g : Nat → Int32) (l4 : Option Value), xcat2 l4 = false → (∀ k, k < i → g k = nI (srt (fun j => pPic hi (c + 6 + j)) b i k)) → G E l 2 mX0_putInOrder 2 [some (.ref c), some (.ref ra), some (.int (bI b)), some (.int (nI i)), l4] [] 83 (rwF hi ra g, hl, RT) 0 0 (fun r h' => r = none ∧ ∃ g : Nat → Int32, (∀ k, k < N → g k = nI (srt (fun j => pPic hi (c + 6 + j)) b N k)) ∧ h' = (rwF hi ra g, hl, RT)) := by
  intro n
  induction n with
  | zero =>
    intro i h1 h2
    exact absurd h2 (by omega)
  | succ n ih =>
    intro i hi1 hi2 g l4 hx4 hg
    have hN2 : rwF hi ra g c 3 = nI N := (rw_off (xa_ne hc.o hra) 3).trans hN
    refine g_iload_n dX0_putInOrder_2 rfl ?_
    refine g_aload_n dX0_putInOrder_3 rfl ?_
    refine g_geti dX0_putInOrder_4 k_X0_27 rfl hc.o.1 hc.o.2 ?_
    refine g_icmpge 81 dX0_putInOrder_7 (by decide) (fun c7 => ?_) (fun c7 => ?_)
    · skip
      have hiN : i = N := Nat.le_antisymm hi1 (ge_out hN2 c7 (by omega) (by omega))
      subst hiN
      exact g_return dX0_putInOrder_81 rfl ⟨rfl, g, hg, rfl⟩
    · skip
      have hlt : i < N := lt_in hN2 c7 (by omega) (by omega)
      have hi8 : i < 8 := by omega
      refine g_iload_n dX0_putInOrder_10 rfl ?_
      refine g_aload_n dX0_putInOrder_11 rfl ?_
      refine g_alen dX0_putInOrder_12 hra.1 hra.2 (Or.inl rfl) ?_
      refine g_icmpge 81 dX0_putInOrder_13 (by decide) (fun c13 => ?_) (fun c13 => ?_)
      · skip
        exact absurd (ge_out (x := nI 8) (N := 8) rfl c13 (by decide) (by omega)) (by omega)
      · skip
        refine g_iload_n dX0_putInOrder_16 rfl ?_
        refine g_istore dX0_putInOrder_17 (by decide) rfl rfl ?_
        refine lp_pioIn hc hN8 hN hra b hlt (fun g2 l2 hx2 hg2 => ih (i + 1) (by omega) (by omega) g2 l2 hx2 hg2) i g (Nat.le_refl i) (fun k hk => hg k hk) (fun k h1 h2 => absurd h1 (by omega)) (fun _ => rfl) (fun _ => rfl)

set_option maxRecDepth 100000 in
set_option maxHeartbeats 4000000 in
theorem ct_putInOrder {c : Nat} (hc : isC c) {N : Nat} (hN8 : N ≤ 8) (hN : hi c 3 = nI N) {ra : Nat} (hra : XAr 8 ra) (b : Bool) : MC E l 2 mX0_putInOrder [.ref c, .ref ra, .int (bI b)] 83 (hi, hl, RT) 0 0 (fun r h' => r = none ∧ ∃ g : Nat → Int32, (∀ k, k < N → g k = nI (srt (fun j => pPic hi (c + 6 + j)) b N k)) ∧ h' = (rwF hi ra g, hl, RT)) := by
  refine MC.of [some (.ref c), some (.ref ra), some (.int (bI b)), none, none] (by decide) rfl (Nat.le_of_ble_eq_true rfl) ?_
  refine g_iconst (v := 0) dX0_putInOrder_0 (by decide) ?_
  refine g_istore_n dX0_putInOrder_1 (by decide) rfl rfl ?_
  exact g_hi (rw_self hi ra).symm (lp_putInOrder hc hN8 hN hra b (N + 1) 0 (by omega) (by omega) (hi ra) none rfl (fun k hk => absurd hk (by omega)))

end
