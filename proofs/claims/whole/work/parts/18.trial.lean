section
variable {E : XE} {l : Launch} {hi : Nat → Nat → Int32} {hl : Nat → Nat → Int64}

theorem isC3 : isC 3 := Or.inl rfl
theorem isC17 : isC 17 := Or.inr (Or.inl rfl)
theorem isC32 : isC 32 := Or.inr (Or.inr rfl)
theorem g_mono {d : Nat} {M : XM} {pc : Nat} {ls : XL} {st : List Value} {cnt : Nat} {h : XH} {mr sr : Nat} {Q Q' : Option Value → XH → Prop} (hq : ∀ r h', Q r h' → Q' r h') (k : G E l d M pc ls st cnt h mr sr Q) : G E l d M pc ls st cnt h mr sr Q' := by
  intro p e s m args below meth c R Fin cF ms X H locs cells slots lsA r
  exact k p e s m args below meth c R Fin cF ms ⟨X.1, X.2.1, X.2.2.1, X.2.2.2.1, X.2.2.2.2.1, X.2.2.2.2.2.1, X.2.2.2.2.2.2.1, X.2.2.2.2.2.2.2.1, X.2.2.2.2.2.2.2.2.1, fun r2 h2 H2 locs2 cells2 slots2 lsA2 ls2 sr2 pc2 hr hQ hret => X.2.2.2.2.2.2.2.2.2 r2 h2 H2 locs2 cells2 slots2 lsA2 ls2 sr2 pc2 hr (hq r2 h2 hQ) hret⟩ H locs cells slots lsA r
theorem insQ_congr {P P' : Nat → Int32} {f : Nat → Nat} {N i : Nat} (h : ∀ j, j < N → P j = P' j) (hi : i < N) : ∀ q, (∀ k, k < q → f k < N) → insQ P f i q = insQ P' f i q
  | 0, _ => rfl
  | q + 1, hf => by rw [insQ, insQ, h _ (hf q (by omega)), h i hi, insQ_congr h hi q (fun k hk => hf k (by omega))]
theorem srt_congr {P P' : Nat → Int32} {b : Bool} {N : Nat} (h : ∀ j, j < N → P j = P' j) : ∀ i, i ≤ N → srt P b i = srt P' b i
  | 0, _ => rfl
  | i + 1, hi => by
    have ih := srt_congr (b := b) h i (by omega)
    have hq : srtQ P b i = srtQ P' b i := by
      unfold srtQ
      rw [ih, insQ_congr h (by omega) i (fun k hk => by have := srt_lt P' b i k hk; omega)]
    funext k
    rw [srt_s, srt_s, ih, hq]
/-- what a trial's crowd is between its days -/
def TJ (g : Nat → Nat → Int32) (N : Nat) (f : Nat → Nat) (lim : Int32) : Prop := KV g ∧ PB g 32 ∧ g 32 3 = nI N ∧ g 32 4 = lim ∧ (∀ k, k < N → g 46 k = nI (f k)) ∧ ∀ k, k < N → f k < N
theorem TJ.tr {g h : Nat → Nat → Int32} {N : Nat} {f : Nat → Nat} {lim : Int32} (j : TJ g N f lim) (t : TR g h) : TJ h N f lim :=
  ⟨t.kv j.1, t.pb j.2.1, (t 32 3 (by omega) (by omega)).trans j.2.2.1, (t 32 4 (by omega) (by omega)).trans j.2.2.2.1, fun k hk => (t 46 k (by omega) (by omega)).trans (j.2.2.2.2.1 k hk), j.2.2.2.2.2⟩

set_option maxRecDepth 100000 in
set_option maxHeartbeats 4000000 in
theorem lp_showNextTo {N : Nat} (hN8 : N ≤ 8) {f : Nat → Nat} {lim : Int32} {i : Nat} (hiN : i < N) : ∀ (n q s : Nat) (g : Nat → Nat → Int32) (l4 : Option Value), q + n = N → s ≤ 3 → xcat2 l4 = false → TJ g N f lim → G E l 5 mX7_showNextTo 4 [some (.ref 31), some (.ref (32 + 6 + i)), some (.int (nI s)), some (.int (nI q)), l4] [] 83 (g, hl, RT) 0 0 (fun r h' => r = none ∧ ∃ hf, h' = (hf, hl, RT) ∧ TR g hf ∧ vw hf 32 N = snV f lim i n q s (vw g 32 N)) := by
  have hi8 : i < 8 := by omega
  intro n
  induction n with
  | zero =>
    intro q s g l4 hq hs hx hj
    refine g_iload_n dX7_showNextTo_4 rfl ?_
    refine g_aload_n dX7_showNextTo_5 rfl ?_
    refine g_getr dX7_showNextTo_6 k_X7_12 rfl (by decide) rfl rfl ?_
    refine g_geti dX7_showNextTo_9 k_X7_48 rfl (by decide) rfl ?_
    refine g_icmpge 65 dX7_showNextTo_12 (by decide) (fun c12 => ?_) (fun c12 => ?_)
    · skip
      exact g_return dX7_showNextTo_65 rfl ⟨rfl, g, rfl, TR.rf, rfl⟩
    · skip
      exact absurd (by show g 32 3 ≤ nI q; rw [hj.2.2.1]; exact nI_le (by omega) (by omega)) c12
  | succ n ih =>
    intro q s g l4 hq hs hx hj
    have hkv := hj.1
    have hf8 : f q < 8 := by
      have := hj.2.2.2.2.2 q (by omega)
      omega
    have hfN : f q < N := hj.2.2.2.2.2 q (by omega)
    have ecl : (nI q).toNatClampNeg = q := nI_clamp (by omega)
    have hrow : g 46 (nI q).toNatClampNeg = nI (f q) := by rw [ecl]; exact hj.2.2.2.2.1 q (by omega)
    refine g_iload_n dX7_showNextTo_4 rfl ?_
    refine g_aload_n dX7_showNextTo_5 rfl ?_
    refine g_getr dX7_showNextTo_6 k_X7_12 rfl (by decide) rfl rfl ?_
    refine g_geti dX7_showNextTo_9 k_X7_48 rfl (by decide) rfl ?_
    refine g_icmpge 65 dX7_showNextTo_12 (by decide) (fun c12 => ?_) (fun c12 => ?_)
    · skip
      exact absurd (ge_out hj.2.2.1 c12 (by omega) (by omega)) (by omega)
    · skip
      refine g_iload_n dX7_showNextTo_15 rfl ?_
      refine g_iconst (v := 3) dX7_showNextTo_16 (by decide) ?_
      refine g_icmpge 65 dX7_showNextTo_17 (by decide) (fun c17 => ?_) (fun c17 => ?_)
      · skip
        exact g_return dX7_showNextTo_65 rfl ⟨rfl, g, rfl, TR.rf, by rw [snV, if_pos (ge_out (x := 3) (N := 3) rfl c17 (by decide) (by omega))]⟩
      · skip
        refine g_aload_n dX7_showNextTo_20 rfl ?_
        refine g_getr dX7_showNextTo_21 k_X7_12 rfl (by decide) rfl rfl ?_
        refine g_getr dX7_showNextTo_24 k_X7_51 rfl (by decide) rfl isC32.people ?_
        refine g_aload_n dX7_showNextTo_27 rfl ?_
        refine g_getr dX7_showNextTo_28 k_X7_18 rfl (by decide) rfl rfl ?_
        refine g_iload_n dX7_showNextTo_31 rfl ?_
        refine g_iald dX7_showNextTo_32 (by decide) rfl (vp_in_nI (by omega) (by decide)) ?_
        refine g_aald dX7_showNextTo_33 isC32.a1.1 isC32.a1.2 hrow hf8 (by decide) (isC32.rp hf8) ?_
        refine g_astore dX7_showNextTo_34 (by decide) rfl rfl ?_
        refine g_aload_n dX7_showNextTo_36 rfl ?_
        refine g_aload dX7_showNextTo_37 rfl ?_
        refine g_callV1 (M' := mX5_canBeShown) (mc' := 0) (ms' := 0) dX7_showNextTo_39 l_X7_63 s_mX5_canBeShown (isC32.p hi8).1 (isC32.p hi8).2 rfl f_mX5_canBeShown (Nat.le_of_ble_eq_true rfl) (by decide) (ct_canBeShown hkv (isC32.p hi8) (isC32.p hf8)) ?_
        rintro _ _ ⟨rfl, rfl⟩
        refine g_ifeq 59 dX7_showNextTo_42 (by decide) (fun c42 => ?_) (fun c42 => ?_)
        · skip
          refine g_iinc dX7_showNextTo_59 rfl (nI_inc q) (by decide) rfl rfl ?_
          refine g_goto 4 dX7_showNextTo_62 (by decide) ?_
          refine g_mono ?_ (ih (q + 1) s g _ (by omega) hs rfl hj)
          rintro r h' ⟨h1, hf, h2, h3, h4⟩
          refine ⟨h1, hf, h2, h3, ?_⟩
          rw [snV, if_neg (fun z => c17 (nI_le (a := 3) z (by omega))), w_can hj.2.1 hN8 hiN hfN, if_neg (by rw [bI_0.mp c42]; decide)]
          exact h4
        · skip
          refine g_aload_n dX7_showNextTo_45 rfl ?_
          refine g_getr dX7_showNextTo_46 k_X7_12 rfl (by decide) rfl rfl ?_
          refine g_aload_n dX7_showNextTo_49 rfl ?_
          refine g_aload dX7_showNextTo_50 rfl ?_
          refine g_callV2 (M' := mX0_present) (mc' := 0) (ms' := 0) dX7_showNextTo_52 l_X7_69 s_mX0_present (by decide) rfl rfl f_mX0_present (Nat.le_of_ble_eq_true rfl) (by decide) (ct_present hkv isC32 (isC32.p hi8) (isC32.p hf8)) ?_
          rintro _ _ ⟨rfl, rfl⟩
          refine g_pop dX7_showNextTo_55 rfl ?_
          refine g_iinc dX7_showNextTo_56 rfl (nI_inc s) (by decide) rfl rfl ?_
          refine g_iinc dX7_showNextTo_59 rfl (nI_inc q) (by decide) rfl rfl ?_
          refine g_goto 4 dX7_showNextTo_62 (by decide) ?_
          refine g_mono ?_ (ih (q + 1) (s + 1) (prF g 32 (32 + 6 + i) (32 + 6 + f q)) _ (by omega) (by have := lt_in (x := 3) (N := 3) rfl c17 (by decide) (by omega); omega) rfl (hj.tr (TR.pr hi8)))
          rintro r h' ⟨h1, hf, h2, h3, h4⟩
          refine ⟨h1, hf, h2, (TR.pr hi8).trans h3, ?_⟩
          rw [snV, if_neg (fun z => c17 (nI_le (a := 3) z (by omega))), w_can hj.2.1 hN8 hiN hfN, if_pos (bI_n.mp c42), ← hj.2.2.2.1, ← w_show hj.2.1 hN8 hiN hfN, hj.2.2.2.1]
          exact h4

set_option maxRecDepth 100000 in
set_option maxHeartbeats 4000000 in
theorem ct_showNextTo {N : Nat} (hN8 : N ≤ 8) {f : Nat → Nat} {lim : Int32} {i : Nat} (hiN : i < N) {g : Nat → Nat → Int32} (hj : TJ g N f lim) : MC E l 5 mX7_showNextTo [.ref 31, .ref (32 + 6 + i)] 83 (g, hl, RT) 0 0 (fun r h' => r = none ∧ ∃ hf, h' = (hf, hl, RT) ∧ TR g hf ∧ vw hf 32 N = snV f lim i N 0 0 (vw g 32 N)) := by
  refine MC.of [some (.ref 31), some (.ref (32 + 6 + i)), none, none, none] (by decide) rfl (Nat.le_of_ble_eq_true rfl) ?_
  refine g_iconst (v := 0) dX7_showNextTo_0 (by decide) ?_
  refine g_istore_n dX7_showNextTo_1 (by decide) rfl rfl ?_
  refine g_iconst (v := 0) dX7_showNextTo_2 (by decide) ?_
  refine g_istore_n dX7_showNextTo_3 (by decide) rfl rfl ?_
  exact lp_showNextTo hN8 hiN N 0 0 g none (by omega) (by omega) rfl hj
set_option maxRecDepth 100000 in
set_option maxHeartbeats 4000000 in
theorem ct_isDays (x : Int32) : MC E l 2 mX7_isDays [.int x] 83 (hi, hl, RT) 0 0 (fun r h' => r = some (.int (bI (!decide (x < 1) && !decide (8 < x)))) ∧ h' = (hi, hl, RT)) := by
  refine MC.of [some (.int x)] (by decide) rfl (Nat.le_of_ble_eq_true rfl) ?_
  refine g_iload_n dX7_isDays_0 rfl ?_
  refine g_iconst (v := 1) dX7_isDays_1 (by decide) ?_
  refine g_bipush (v := 8) dX7_isDays_2 (by decide) ?_
  refine g_callSN3 (M' := mX9_isWithin) (mc' := 0) (ms' := 0) dX7_isDays_4 l_X7_22 s_mX9_isWithin f_mX9_isWithin (Nat.le_of_ble_eq_true rfl) (by decide) (ct_isWithin _ _ _) ?_
  rintro _ _ ⟨rfl, rfl⟩
  exact g_ireturn dX7_isDays_7 rfl (bI_nar _) ⟨rfl, rfl⟩

set_option maxRecDepth 100000 in
set_option maxHeartbeats 4000000 in
theorem ct_isOrder (x : Int32) : MC E l 2 mX7_isOrder [.int x] 83 (hi, hl, RT) 0 0 (fun r h' => r = some (.int (bI (!decide (x < 0) && !decide (1 < x)))) ∧ h' = (hi, hl, RT)) := by
  refine MC.of [some (.int x)] (by decide) rfl (Nat.le_of_ble_eq_true rfl) ?_
  refine g_iload_n dX7_isOrder_0 rfl ?_
  refine g_iconst (v := 0) dX7_isOrder_1 (by decide) ?_
  refine g_iconst (v := 1) dX7_isOrder_2 (by decide) ?_
  refine g_callSN3 (M' := mX9_isWithin) (mc' := 0) (ms' := 0) dX7_isOrder_3 l_X7_22 s_mX9_isWithin f_mX9_isWithin (Nat.le_of_ble_eq_true rfl) (by decide) (ct_isWithin _ _ _) ?_
  rintro _ _ ⟨rfl, rfl⟩
  exact g_ireturn dX7_isOrder_6 rfl (bI_nar _) ⟨rfl, rfl⟩

set_option maxRecDepth 100000 in
set_option maxHeartbeats 4000000 in
theorem lp_dayIn {N D dd : Nat} (hN8 : N ≤ 8) {f : Nat → Nat} {lim o : Int32} {Q : Option Value → XH → Prop} : ∀ (n i : Nat) (g : Nat → Nat → Int32), i + n = N → TJ g N f lim → (∀ hf, TR g hf → vw hf 32 N = ppV f lim N n i (vw g 32 N) → G E l 7 mX7_matchesAfter 96 [some (.ref 31), some (.ref 3), some (.int (nI D)), some (.int lim), some (.int o), some (.int (nI dd)), some (.int (nI N))] [] 83 (hf, hl, RT) 0 0 (Q)) → G E l 7 mX7_matchesAfter 64 [some (.ref 31), some (.ref 3), some (.int (nI D)), some (.int lim), some (.int o), some (.int (nI dd)), some (.int (nI i))] [] 83 (g, hl, RT) 0 0 (Q) := by
  intro n
  induction n with
  | zero =>
    intro i g hin hj hk
    have hiN : i = N := by omega
    subst hiN
    refine g_iload dX7_matchesAfter_64 rfl ?_
    refine g_aload_n dX7_matchesAfter_66 rfl ?_
    refine g_getr dX7_matchesAfter_67 k_X7_12 rfl (by decide) rfl rfl ?_
    refine g_geti dX7_matchesAfter_70 k_X7_48 rfl (by decide) rfl ?_
    refine g_icmpge 96 dX7_matchesAfter_73 (by decide) (fun c73 => ?_) (fun c73 => ?_)
    · skip
      exact hk g TR.rf rfl
    · skip
      exact absurd (by show g 32 3 ≤ nI i; rw [hj.2.2.1]; exact nI_le (Nat.le_refl _) (by omega)) c73
  | succ n ih =>
    intro i g hin hj hk
    have hi8 : i < 8 := by omega
    have hiN : i < N := by omega
    refine g_iload dX7_matchesAfter_64 rfl ?_
    refine g_aload_n dX7_matchesAfter_66 rfl ?_
    refine g_getr dX7_matchesAfter_67 k_X7_12 rfl (by decide) rfl rfl ?_
    refine g_geti dX7_matchesAfter_70 k_X7_48 rfl (by decide) rfl ?_
    refine g_icmpge 96 dX7_matchesAfter_73 (by decide) (fun c73 => ?_) (fun c73 => ?_)
    · skip
      exact absurd (ge_out hj.2.2.1 c73 (by omega) (by omega)) (by omega)
    · skip
      refine g_aload_n dX7_matchesAfter_76 rfl ?_
      refine g_aload_n dX7_matchesAfter_77 rfl ?_
      refine g_getr dX7_matchesAfter_78 k_X7_12 rfl (by decide) rfl rfl ?_
      refine g_getr dX7_matchesAfter_81 k_X7_51 rfl (by decide) rfl isC32.people ?_
      refine g_iload dX7_matchesAfter_84 rfl ?_
      refine g_aald dX7_matchesAfter_86 isC32.a1.1 isC32.a1.2 rfl hi8 (by decide) (isC32.rp hi8) ?_
      refine g_callV1 (M' := mX7_showNextTo) (mc' := 0) (ms' := 0) dX7_matchesAfter_87 l_X7_55 s_mX7_showNextTo (by decide) rfl rfl f_mX7_showNextTo (Nat.le_of_ble_eq_true rfl) (by decide) (ct_showNextTo hN8 hiN hj) ?_
      rintro _ _ ⟨rfl, g2, rfl, ht2, hv2⟩
      refine g_iinc dX7_matchesAfter_90 rfl (nI_inc i) (by decide) rfl rfl ?_
      refine g_goto 64 dX7_matchesAfter_93 (by decide) ?_
      exact ih (i + 1) g2 (by omega) (hj.tr ht2) (fun hf h1 h2 => hk hf (ht2.trans h1) (by rw [h2, hv2]; rfl))

set_option maxRecDepth 100000 in
set_option maxHeartbeats 4000000 in
theorem lp_days {N F D : Nat} (hN8 : N ≤ 8) (hF : F ≤ N) (hD : D ≤ 100) {f : Nat → Nat} {lim o : Int32} : ∀ (n d : Nat) (g : Nat → Nat → Int32) (l6 : Option Value), d + n = D → xcat2 l6 = false → TJ g N f lim → g 32 2 = nI F → G E l 7 mX7_matchesAfter 48 [some (.ref 31), some (.ref 3), some (.int (nI D)), some (.int lim), some (.int o), some (.int (nI d)), l6] [] 83 (g, hl, RT) 0 0 (fun r h' => ∃ hf, r = some (.int (vOpen (dyV f lim N n (vw g 32 N)) N F)) ∧ h' = (hf, hl, RT) ∧ TR g hf) := by
  intro n
  induction n with
  | zero =>
    intro d g l6 hd hx hj h2
    have hdD : d = D := by omega
    subst hdD
    refine g_iload dX7_matchesAfter_48 rfl ?_
    refine g_iload_n dX7_matchesAfter_50 rfl ?_
    refine g_icmpge 102 dX7_matchesAfter_51 (by decide) (fun c51 => ?_) (fun c51 => ?_)
    · skip
      refine g_aload_n dX7_matchesAfter_102 rfl ?_
      refine g_getr dX7_matchesAfter_103 k_X7_12 rfl (by decide) rfl rfl ?_
      refine g_callV0 (M' := mX0_openMatches) (mc' := 0) (ms' := 0) dX7_matchesAfter_106 l_X7_59 s_mX0_openMatches (by decide) rfl rfl f_mX0_openMatches (Nat.le_of_ble_eq_true rfl) (by decide) (ct_openMatches isC32 hN8 hj.2.2.1 (Nat.le_trans hF hN8) h2) ?_
      rintro _ _ ⟨rfl, rfl⟩
      exact g_ireturn dX7_matchesAfter_109 rfl rfl ⟨g, by rw [dyV, w_open hj.2.1 hN8 hF], rfl, TR.rf⟩
    · skip
      exact absurd (nI_le (Nat.le_refl _) (by omega)) c51
  | succ n ih =>
    intro d g l6 hd hx hj h2
    refine g_iload dX7_matchesAfter_48 rfl ?_
    refine g_iload_n dX7_matchesAfter_50 rfl ?_
    refine g_icmpge 102 dX7_matchesAfter_51 (by decide) (fun c51 => ?_) (fun c51 => ?_)
    · skip
      exact absurd (ge_out (x := nI D) rfl c51 (by omega) (by omega)) (by omega)
    · skip
      refine g_aload_n dX7_matchesAfter_54 rfl ?_
      refine g_getr dX7_matchesAfter_55 k_X7_12 rfl (by decide) rfl rfl ?_
      refine g_callV0 (M' := mX0_startDay) (mc' := 0) (ms' := 0) dX7_matchesAfter_58 l_X7_45 s_mX0_startDay (by decide) rfl rfl f_mX0_startDay (Nat.le_of_ble_eq_true rfl) (by decide) (ct_startDay isC32 hN8 hj.2.2.1) ?_
      rintro _ _ ⟨rfl, rfl⟩
      refine g_iconst (v := 0) dX7_matchesAfter_61 (by decide) ?_
      refine g_istore dX7_matchesAfter_62 (by decide) rfl rfl ?_
      refine lp_dayIn hN8 N 0 (sdF g 32 N) (by omega) (hj.tr (TR.sd hN8)) (fun hf ht hv => ?_)
      refine g_iinc dX7_matchesAfter_96 rfl (nI_inc d) (by decide) rfl rfl ?_
      refine g_goto 48 dX7_matchesAfter_99 (by decide) ?_
      have ht2 : TR g hf := (TR.sd hN8).trans ht
      refine g_mono ?_ (ih (d + 1) hf _ (by omega) rfl (hj.tr ht2) ((ht2 32 2 (by omega) (by omega)).trans h2))
      rintro r h' ⟨hf2, h3, h4, h5⟩
      refine ⟨hf2, ?_, h4, ht2.trans h5⟩
      rw [h3, hv, w_sd]
      rfl

def TX (hi hf : Nat → Nat → Int32) : Prop := (∀ a k, a < 32 ∨ 46 < a → hf a k = hi a k) ∧ KV hf ∧ PB hf 32
theorem TX.vw3 {f g : Nat → Nat → Int32} (h : TX f g) {N : Nat} (hN : N ≤ 8) : vw g 3 N = vw f 3 N := w_congr (fun k hk t _ _ => h.1 _ _ (by omega))
theorem xo_sh {i p a : Nat} {q : Nat × Nat} (hp : XO i p) (ha : xsh.getD a (9, 0) = q) (hq : ¬ q = (0, i)) : ¬ p = a := by
  intro z
  subst z
  exact hq (ha.symm.trans hp.2)
theorem KV.cw {hi : Nat → Nat → Int32} (h : KV hi) : KV (cwF hi 32 3) := by
  intro p hp
  unfold cwF
  by_cases q : (p = 32 ∧ 2 ≤ 2 ∧ 2 ≤ 9) ∨ (p = 32 + 2 ∧ 2 = 3) ∨ ((32 + 3 ≤ p ∧ p ≤ 32 + 5) ∧ 2 < 8) ∨ ((32 + 6 ≤ p ∧ p < 32 + 14) ∧ 2 ≤ 2 ∧ 2 ≤ 11)
  · rw [if_pos q]
    have n1 : p ≠ 32 := (xo_ne isC32.o hp (by decide)).symm
    have n3 : ¬ p = 32 + 3 := xo_sh hp rfl (by decide)
    have n4 : ¬ p = 32 + 4 := xo_sh hp rfl (by decide)
    have n5 : ¬ p = 32 + 5 := xo_sh hp rfl (by decide)
    have := h (3 + 6 + (p - 38)) (isC3.p (by omega))
    rw [show p + 3 - 32 = 3 + 6 + (p - 38) by omega]
    exact this
  · rw [if_neg q]
    exact h p hp

set_option maxRecDepth 100000 in
set_option maxHeartbeats 4000000 in
theorem ct_matchesAfter (hkv : KV hi) (hb3 : PB hi 3) (hb32 : PB hi 32) {N F D : Nat} (hN8 : N ≤ 8) (hFN : F ≤ N) (hN : hi 3 3 = nI N) (hF : hi 3 2 = nI F) (hB : ∀ k, k < 8 → vp_nar .boolean (hi (3 + 5) k) = hi (3 + 5) k) (hD : D ≤ 100) (lim o : Int32) : MC E l 7 mX7_matchesAfter [.ref 31, .ref 3, .int (nI D), .int lim, .int o] 83 (hi, hl, RT) 0 0 (fun r h' => ∃ hf, r = some (.int (mvV (vw hi 3 N) N F D lim (decide (o = 1)))) ∧ h' = (hf, hl, RT) ∧ TX hi hf) := by
  refine MC.of [some (.ref 31), some (.ref 3), some (.int (nI D)), some (.int lim), some (.int o), none, none] (by decide) rfl (Nat.le_of_ble_eq_true rfl) ?_
  have e3 : cwF hi 32 3 32 3 = nI N := by unfold cwF; rw [if_pos (by omega)]; exact hN
  have e2 : cwF hi 32 3 32 2 = nI F := by unfold cwF; rw [if_pos (by omega)]; exact hF
  refine g_aload_n dX7_matchesAfter_0 rfl ?_
  refine g_getr dX7_matchesAfter_1 k_X7_12 rfl (by decide) rfl rfl ?_
  refine g_aload_n dX7_matchesAfter_4 rfl ?_
  refine g_callV1 (M' := mX0_copyFrom) (mc' := 0) (ms' := 0) dX7_matchesAfter_5 l_X7_30 s_mX0_copyFrom (by decide) rfl rfl f_mX0_copyFrom (Nat.le_of_ble_eq_true rfl) (by decide) (ct_ccopy hkv isC32 isC3 (by omega) hB) ?_
  rintro _ _ ⟨rfl, rfl⟩
  refine g_aload_n dX7_matchesAfter_8 rfl ?_
  refine g_getr dX7_matchesAfter_9 k_X7_12 rfl (by decide) rfl rfl ?_
  refine g_callV0 (M' := mX0_clearShown) (mc' := 0) (ms' := 0) dX7_matchesAfter_12 l_X7_34 s_mX0_clearShown (by decide) rfl rfl f_mX0_clearShown (Nat.le_of_ble_eq_true rfl) (by decide) (ct_cclearShown isC32 hN8 e3) ?_
  rintro _ _ ⟨rfl, rfl⟩
  refine g_aload_n dX7_matchesAfter_15 rfl ?_
  refine g_getr dX7_matchesAfter_16 k_X7_12 rfl (by decide) rfl rfl ?_
  refine g_iload_n dX7_matchesAfter_19 rfl ?_
  refine g_puti dX7_matchesAfter_20 k_X7_37 rfl (by decide) rfl rfl rfl ?_
  generalize hh3 : upI (csF (cwF hi 32 3) 32 N) 32 4 lim = h3 at *
  have k3 : KV h3 := by
    intro p hp
    have n1 : p ≠ 32 := (xo_ne isC32.o hp (by decide)).symm
    rw [← hh3, upI_a n1]
    unfold csF
    rw [if_neg (by omega)]
    exact hkv.cw p hp
  have b3 : PB h3 32 := by
    intro j hj
    have c0 : ∀ k, k < 2 → h3 (32 + 6 + j) k = hi (32 + 6 + j) k := by
      intro k hk
      rw [← hh3, upI_a (by omega)]
      unfold csF
      rw [if_neg (by omega)]
      unfold cwF
      rw [if_neg (by omega)]
    rw [c0 0 (by decide), c0 1 (by decide)]
    exact hb32 j hj
  have s3 : h3 32 3 = nI N := by rw [← hh3, upI_k (by decide), cs_c _ (by omega)]; exact e3
  have s2 : h3 32 2 = nI F := by rw [← hh3, upI_k (by decide), cs_c _ (by omega)]; exact e2
  have s4 : h3 32 4 = lim := by rw [← hh3]; exact upI_s
  have hvc : vw h3 32 N = clV (vw hi 3 N) N := by
    rw [← hh3, w_off (by omega), w_cl]
    congr 1
    funext t k
    unfold vw
    by_cases q : k < N ∧ 2 ≤ t ∧ t ≤ 11
    · rw [if_pos q, if_pos q]
      unfold cwF
      rw [if_pos (by omega), show 32 + 6 + k + 3 - 32 = 3 + 6 + k by omega]
    · rw [if_neg q, if_neg q]
  have hpp : ∀ j, j < N → (fun j => pPic h3 (32 + 6 + j)) j = (fun j => vPic (vw hi 3 N) j) j := by
    intro j hj
    show pPic h3 (32 + 6 + j) = vPic (vw hi 3 N) j
    rw [← w_pic hj, hvc]
    unfold vPic clV
    rw [if_neg (by omega), if_neg (by omega)]
  have hout : ∀ a k, a < 32 ∨ 46 < a → h3 a k = hi a k := by
    intro a k q
    rw [← hh3, upI_a (by omega)]
    unfold csF
    rw [if_neg (by omega)]
    unfold cwF
    rw [if_neg (by omega)]
  refine g_aload_n dX7_matchesAfter_23 rfl ?_
  refine g_getr dX7_matchesAfter_24 k_X7_12 rfl (by decide) rfl rfl ?_
  refine g_aload_n dX7_matchesAfter_27 rfl ?_
  refine g_getr dX7_matchesAfter_28 k_X7_18 rfl (by decide) rfl rfl ?_
  refine g_iload dX7_matchesAfter_31 rfl ?_
  refine g_iconst (v := 1) dX7_matchesAfter_33 (by decide) ?_
  refine g_icmpne 41 dX7_matchesAfter_34 (by decide) (fun c34 => ?_) (fun c34 => ?_)
  · skip
    refine g_iconst (v := 0) dX7_matchesAfter_41 (by decide) ?_
    refine g_callV2 (M' := mX0_putInOrder) (mc' := 0) (ms' := 0) dX7_matchesAfter_42 l_X7_41 s_mX0_putInOrder (by decide) rfl rfl f_mX0_putInOrder (Nat.le_of_ble_eq_true rfl) (by decide) (ct_putInOrder isC32 hN8 s3 ⟨by decide, rfl⟩ false) ?_
    rintro _ _ ⟨rfl, gr, hgr, rfl⟩
    refine g_iconst (v := 0) dX7_matchesAfter_45 (by decide) ?_
    refine g_istore dX7_matchesAfter_46 (by decide) rfl rfl ?_
    refine g_mono ?_ (lp_days (f := srt (fun j => vPic (vw hi 3 N) j) false N) (lim := lim) hN8 hFN hD D 0 (rwF h3 46 gr) none (by omega) rfl ⟨?_, ?_, ?_, ?_, ?_, ?_⟩ ?_)
    · rintro r h' ⟨hf, q1, q2, q3⟩
      refine ⟨hf, ?_, q2, ?_, ?_, ?_⟩
      · rw [q1, show decide (o = 1) = false from decide_eq_false c34, show vw (rwF h3 46 gr) 32 N = vw h3 32 N from w_congr (fun k hk t _ _ => rw_off (by omega) t), hvc]
        rfl
      · intro a k q
        rw [q3 a k (by omega) (by omega), rw_off (by omega), hout a k q]
      · refine q3.kv (fun p hp => ?_)
        rw [rw_off (xa_ne hp (n := 8) ⟨by decide, rfl⟩)]
        exact k3 p hp
      · refine q3.pb (fun j hj => ?_)
        rw [rw_off (by omega), rw_off (by omega)]
        exact b3 j hj
    · intro p hp
      rw [rw_off (xa_ne hp (n := 8) ⟨by decide, rfl⟩)]
      exact k3 p hp
    · intro j hj
      rw [rw_off (by omega), rw_off (by omega)]
      exact b3 j hj
    · exact (rw_off (by decide) 3).trans s3
    · exact (rw_off (by decide) 4).trans s4
    · intro k hk
      rw [rw_on, hgr k hk, srt_congr hpp N (Nat.le_refl N)]
    · exact fun k hk => srt_lt _ _ N k hk
    · exact (rw_off (by decide) 2).trans s2
  · skip
    refine g_iconst (v := 1) dX7_matchesAfter_37 (by decide) ?_
    refine g_goto 42 dX7_matchesAfter_38 (by decide) ?_
    refine g_callV2 (M' := mX0_putInOrder) (mc' := 0) (ms' := 0) dX7_matchesAfter_42 l_X7_41 s_mX0_putInOrder (by decide) rfl rfl f_mX0_putInOrder (Nat.le_of_ble_eq_true rfl) (by decide) (ct_putInOrder isC32 hN8 s3 ⟨by decide, rfl⟩ true) ?_
    rintro _ _ ⟨rfl, gr, hgr, rfl⟩
    refine g_iconst (v := 0) dX7_matchesAfter_45 (by decide) ?_
    refine g_istore dX7_matchesAfter_46 (by decide) rfl rfl ?_
    refine g_mono ?_ (lp_days (f := srt (fun j => vPic (vw hi 3 N) j) true N) (lim := lim) hN8 hFN hD D 0 (rwF h3 46 gr) none (by omega) rfl ⟨?_, ?_, ?_, ?_, ?_, ?_⟩ ?_)
    · rintro r h' ⟨hf, q1, q2, q3⟩
      refine ⟨hf, ?_, q2, ?_, ?_, ?_⟩
      · rw [q1, show decide (o = 1) = true from decide_eq_true c34, show vw (rwF h3 46 gr) 32 N = vw h3 32 N from w_congr (fun k hk t _ _ => rw_off (by omega) t), hvc]
        rfl
      · intro a k q
        rw [q3 a k (by omega) (by omega), rw_off (by omega), hout a k q]
      · refine q3.kv (fun p hp => ?_)
        rw [rw_off (xa_ne hp (n := 8) ⟨by decide, rfl⟩)]
        exact k3 p hp
      · refine q3.pb (fun j hj => ?_)
        rw [rw_off (by omega), rw_off (by omega)]
        exact b3 j hj
    · intro p hp
      rw [rw_off (xa_ne hp (n := 8) ⟨by decide, rfl⟩)]
      exact k3 p hp
    · intro j hj
      rw [rw_off (by omega), rw_off (by omega)]
      exact b3 j hj
    · exact (rw_off (by decide) 3).trans s3
    · exact (rw_off (by decide) 4).trans s4
    · intro k hk
      rw [rw_on, hgr k hk, srt_congr hpp N (Nat.le_refl N)]
    · exact fun k hk => srt_lt _ _ N k hk
    · exact (rw_off (by decide) 2).trans s2

def blF (m : Nat → Int32) : Nat → Int32 × Int32
  | 0 => (1, m 1)
  | k + 1 => if m (k + 2) ≤ (blF m k).2 then blF m k else (nI (k + 2), m (k + 2))
theorem TX.rf {f : Nat → Nat → Int32} (h : KV f) (h2 : PB f 32) : TX f f := ⟨fun _ _ _ => rfl, h, h2⟩
theorem TX.trans {f g h : Nat → Nat → Int32} (h1 : TX f g) (h2 : TX g h) : TX f h := ⟨fun a k q => (h2.1 a k q).trans (h1.1 a k q), h2.2⟩

set_option maxRecDepth 100000 in
set_option maxHeartbeats 4000000 in
theorem lp_best (hkv : KV hi) (hb3 : PB hi 3) (hb32 : PB hi 32) {N F D : Nat} (hN8 : N ≤ 8) (hFN : F ≤ N) (hN : hi 3 3 = nI N) (hF : hi 3 2 = nI F) (hB : ∀ k, k < 8 → vp_nar .boolean (hi (3 + 5) k) = hi (3 + 5) k) (hD : D ≤ 100) (o : Int32) : ∀ (n i : Nat) (g : Nat → Nat → Int32) (b m : Int32) (l7 : Option Value), i + n = 9 → 1 ≤ n → xcat2 l7 = false → TX hi g → b = (blF (fun j => mvV (vw hi 3 N) N F D (nI j) (decide (o = 1))) i).1 → m = (blF (fun j => mvV (vw hi 3 N) N F D (nI j) (decide (o = 1))) i).2 → G E l 8 mX7_bestLimit 16 [some (.ref 31), some (.ref 3), some (.int (nI D)), some (.int o), some (.int b), some (.int m), some (.int (nI (i + 2))), l7] [] 83 (g, hl, RT) 0 0 (fun r h' => ∃ hf, r = some (.int (blF (fun j => mvV (vw hi 3 N) N F D (nI j) (decide (o = 1))) 8).1) ∧ h' = (hf, hl, RT) ∧ TX hi hf) := by
  intro n
  induction n with
  | zero =>
    intro i g b m l7 h1 h2
    exact absurd h2 (by omega)
  | succ n ih =>
    intro i g b m l7 hin _ hx7 ht hb hm
    refine g_iload dX7_bestLimit_16 rfl ?_
    refine g_bipush (v := 9) dX7_bestLimit_18 (by decide) ?_
    refine g_icmpgt 55 dX7_bestLimit_20 (by decide) (fun c20 => ?_) (fun c20 => ?_)
    · skip
      have hi8 : i = 8 := by
        have := (nI_ltI (a := 9) (by decide) (by omega)).mp c20
        omega
      subst hi8
      refine g_iload dX7_bestLimit_55 rfl ?_
      exact g_ireturn dX7_bestLimit_57 rfl rfl ⟨g, by rw [hb], rfl, ht⟩
    · skip
      have hi8 : i < 8 := by
        have : ¬ 9 < i + 2 := fun q => c20 (nI_lt (a := 9) q (by omega))
        omega
      refine g_aload_n dX7_bestLimit_23 rfl ?_
      refine g_aload_n dX7_bestLimit_24 rfl ?_
      refine g_iload_n dX7_bestLimit_25 rfl ?_
      refine g_iload dX7_bestLimit_26 rfl ?_
      refine g_iload_n dX7_bestLimit_28 rfl ?_
      refine g_callV4 (M' := mX7_matchesAfter) (mc' := 0) (ms' := 0) dX7_bestLimit_29 l_X7_26 s_mX7_matchesAfter (by decide) rfl rfl f_mX7_matchesAfter (Nat.le_of_ble_eq_true rfl) (by decide) (ct_matchesAfter ht.2.1 (fun j hj => by rw [ht.1 _ _ (by omega), ht.1 _ _ (by omega)]; exact hb3 j hj) ht.2.2 hN8 hFN ((ht.1 _ _ (by omega)).trans hN) ((ht.1 _ _ (by omega)).trans hF) (fun k hk => by rw [ht.1 _ _ (by omega)]; exact hB k hk) hD _ o) ?_
      rintro _ _ ⟨g2, rfl, rfl, ht2⟩
      rw [ht.vw3 hN8]
      refine g_istore dX7_bestLimit_32 (by decide) rfl rfl ?_
      refine g_iload dX7_bestLimit_34 rfl ?_
      refine g_iload dX7_bestLimit_36 rfl ?_
      refine g_icmple 49 dX7_bestLimit_38 (by decide) (fun c38 => ?_) (fun c38 => ?_)
      · skip
        refine g_iinc dX7_bestLimit_49 rfl (nI_inc (i + 2)) (by decide) rfl rfl ?_
        refine g_goto 16 dX7_bestLimit_52 (by decide) ?_
        exact ih (i + 1) g2 _ _ _ (by omega) (by omega) rfl (ht.trans ht2) (by rw [blF, if_pos (by rw [← hm]; exact c38)]; exact hb) (by rw [blF, if_pos (by rw [← hm]; exact c38)]; exact hm)
      · skip
        refine g_iload dX7_bestLimit_41 rfl ?_
        refine g_istore dX7_bestLimit_43 (by decide) rfl rfl ?_
        refine g_iload dX7_bestLimit_45 rfl ?_
        refine g_istore dX7_bestLimit_47 (by decide) rfl rfl ?_
        refine g_iinc dX7_bestLimit_49 rfl (nI_inc (i + 2)) (by decide) rfl rfl ?_
        refine g_goto 16 dX7_bestLimit_52 (by decide) ?_
        exact ih (i + 1) g2 _ _ _ (by omega) (by omega) rfl (ht.trans ht2) (by rw [blF, if_neg (by rw [← hm]; exact c38)]) (by rw [blF, if_neg (by rw [← hm]; exact c38)])

set_option maxRecDepth 100000 in
set_option maxHeartbeats 4000000 in
theorem ct_bestLimit (hkv : KV hi) (hb3 : PB hi 3) (hb32 : PB hi 32) {N F D : Nat} (hN8 : N ≤ 8) (hFN : F ≤ N) (hN : hi 3 3 = nI N) (hF : hi 3 2 = nI F) (hB : ∀ k, k < 8 → vp_nar .boolean (hi (3 + 5) k) = hi (3 + 5) k) (hD : D ≤ 100) (o : Int32) : MC E l 8 mX7_bestLimit [.ref 31, .ref 3, .int (nI D), .int o] 83 (hi, hl, RT) 0 0 (fun r h' => ∃ hf, r = some (.int (blF (fun j => mvV (vw hi 3 N) N F D (nI j) (decide (o = 1))) 8).1) ∧ h' = (hf, hl, RT) ∧ TX hi hf) := by
  refine MC.of [some (.ref 31), some (.ref 3), some (.int (nI D)), some (.int o), none, none, none, none] (by decide) rfl (Nat.le_of_ble_eq_true rfl) ?_
  have ht : TX hi hi := TX.rf hkv hb32
  refine g_iconst (v := 1) dX7_bestLimit_0 (by decide) ?_
  refine g_istore dX7_bestLimit_1 (by decide) rfl rfl ?_
  refine g_aload_n dX7_bestLimit_3 rfl ?_
  refine g_aload_n dX7_bestLimit_4 rfl ?_
  refine g_iload_n dX7_bestLimit_5 rfl ?_
  refine g_iconst (v := 1) dX7_bestLimit_6 (by decide) ?_
  refine g_iload_n dX7_bestLimit_7 rfl ?_
  refine g_callV4 (M' := mX7_matchesAfter) (mc' := 0) (ms' := 0) dX7_bestLimit_8 l_X7_26 s_mX7_matchesAfter (by decide) rfl rfl f_mX7_matchesAfter (Nat.le_of_ble_eq_true rfl) (by decide) (ct_matchesAfter ht.2.1 (fun j hj => by rw [ht.1 _ _ (by omega), ht.1 _ _ (by omega)]; exact hb3 j hj) ht.2.2 hN8 hFN ((ht.1 _ _ (by omega)).trans hN) ((ht.1 _ _ (by omega)).trans hF) (fun k hk => by rw [ht.1 _ _ (by omega)]; exact hB k hk) hD _ o) ?_
  rintro _ _ ⟨g2, rfl, rfl, ht2⟩
  refine g_istore dX7_bestLimit_11 (by decide) rfl rfl ?_
  refine g_iconst (v := 2) dX7_bestLimit_13 (by decide) ?_
  refine g_istore dX7_bestLimit_14 (by decide) rfl rfl ?_
  exact lp_best hkv hb3 hb32 hN8 hFN hN hF hB hD o 9 0 g2 _ _ none (by omega) (by omega) rfl ht2 rfl rfl

end
