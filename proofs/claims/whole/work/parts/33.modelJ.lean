section
variable {E : XE} {l : Launch} {hi : Nat → Nat → Int32} {hl : Nat → Nat → Int64}

/-! the digest -/
def mxF (f : Nat → Int32) : Nat → Int64 → Int64
  | 0, h => h
  | n + 1, h => 31 * mxF f n h + (f n).toInt64
def mxP (f : Nat → Nat → Int32) : Nat → Int64 → Int64
  | 0, h => h
  | p + 1, h => mxF (f p) 15 (mxP f p h)
def midV (lv : Nat → Int32) (mu b0 b1 : Int32) : Nat → Int32
  | 0 => lv 0 | 1 => lv 1 | 2 => lv 10 | 3 => lv 11 | 4 => lv 12 | 5 => lv 13 | 6 => mu | 7 => b0 | _ => b1
def dgV (pf : Nat → Nat → Int32) (N : Nat) (mid : Nat → Int32) (pg : Nat → Int32) (L : Nat) (ct : Nat → Int32) : Int64 := mxF ct 15 (mxF pg L (if N = 0 then mxP pf N 1123 else mxF mid 9 (mxP pf N 1123)))
theorem mxF_congr {f g : Nat → Int32} : ∀ {n : Nat} {h : Int64}, (∀ k, k < n → f k = g k) → mxF f n h = mxF g n h
  | 0, _, _ => rfl
  | n + 1, h, q => by rw [mxF, mxF, mxF_congr (fun k hk => q k (by omega)), q n (by omega)]
theorem mxP_congr {f g : Nat → Nat → Int32} : ∀ {n : Nat} {h : Int64}, (∀ p, p < n → ∀ k, k < 15 → f p k = g p k) → mxP f n h = mxP g n h
  | 0, _, _ => rfl
  | n + 1, h, q => by rw [mxP, mxP, mxP_congr (fun p hp => q p (by omega)), mxF_congr (fun k hk => q n (by omega) k hk)]
def DM (f g : Nat → Nat → Int32) : Prop := ∀ a k, ¬ (67 ≤ a ∧ a ≤ 72) → ¬ (a = 53 ∧ (k = 29 ∨ (34 ≤ k ∧ k ≤ 36))) → g a k = f a k
theorem DM.rf {f : Nat → Nat → Int32} : DM f f := fun _ _ _ _ => rfl
theorem DM.trans {f g h : Nat → Nat → Int32} (h1 : DM f g) (h2 : DM g h) : DM f h := fun a k q z => (h2 a k q z).trans (h1 a k q z)
theorem DM.lm {f g : Nat → Nat → Int32} (h : LM f g) : DM f g := fun a k q z => h a k (by omega) (by omega) (by omega)
theorem DM.cx {f g : Nat → Nat → Int32} (h : CX f g) : DM f g := fun a k q z => h a k (by omega) (by omega)
theorem DM.mo {f g : Nat → Nat → Int32} {N F : Nat} (h : DM f g) (hj : MO7 f N F) : MO7 g N F := hj.of (h 53 1 (by omega) (by omega)) (h 53 2 (by omega) (by omega))
theorem DM.vm {f g : Nat → Nat → Int32} {N F : Nat} (h : DM f g) : vm g N F = vm f N F := m_congr (fun k _ a h1 h2 => h a k (by omega) (by omega))
theorem DM.hm {f g : Nat → Nat → Int32} {N F : Nat} (h : DM f g) {k : Nat} (hk : k < 15) : hmN g N F k = hmN f N F k := by
  have hv := h.vm (N := N) (F := F)
  have e : ∀ j, j < 23 → g 53 j = f 53 j := fun j hj => h 53 j (by omega) (by omega)
  match k, hk with
  | 0, _ => exact e 1 (by omega)
  | 1, _ => show g 53 2 - g 53 1 = _; rw [e 1 (by omega), e 2 (by omega)]; rfl
  | 2, _ => unfold hmN; rw [hv]; rfl
  | 3, _ => unfold hmN; rw [hv]; rfl
  | 4, _ => unfold hmN; rw [hv]; rfl
  | 5, _ => unfold hmN; rw [hv]; rfl
  | 6, _ => exact e 14 (by omega)
  | 7, _ => exact e 15 (by omega)
  | 8, _ => exact e 12 (by omega)
  | 9, _ => exact e 13 (by omega)
  | 10, _ => exact e 16 (by omega)
  | 11, _ => exact e 17 (by omega)
  | 12, _ => exact e 18 (by omega)
  | 13, _ => exact e 22 (by omega)
  | 14, _ => exact e 0 (by omega)
theorem upL_s {f : Nat → Nat → Int64} {a k : Nat} {v : Int64} : upL f a k v a k = v := if_pos ⟨rfl, rfl⟩

set_option maxRecDepth 100000 in
set_option maxHeartbeats 4000000 in
theorem ct_mix (x : Int64) : MC E l 1 mX10_mix [.ref 53, .long x] 83 (hi, hl, RT) 0 0 (fun r h' => r = none ∧ h' = (hi, upL hl 53 57 (31 * hl 53 57 + x), RT)) := by
  refine MC.of [some (.ref 53), some (.long x), none] (by decide) rfl (Nat.le_of_ble_eq_true rfl) ?_
  refine g_aload_n dX10_mix_0 rfl ?_
  refine g_ldc2 dX10_mix_1 c_X10_362 ?_
  refine g_aload_n dX10_mix_4 rfl ?_
  refine g_getl dX10_mix_5 k_X10_364 rfl (by decide) rfl ?_
  refine g_lmul dX10_mix_8 ?_
  refine g_lload_n dX10_mix_9 rfl ?_
  refine g_ladd dX10_mix_10 ?_
  refine g_putl dX10_mix_11 k_X10_364 rfl (by decide) rfl rfl ?_
  exact g_return dX10_mix_14 rfl ⟨rfl, rfl⟩

set_option maxRecDepth 100000 in
set_option maxHeartbeats 4000000 in
theorem lp_dgIn {N F : Nat} (hj : MO7 hi N F) {S : Nat} (hse : SE (hi 64) (hi 65) S N) (hS : hi 53 18 = nI S) {i : Nat} (hi1 : i < N) {h0 : Int64} {Q : Option Value → XH → Prop} (hk : ∀ hlf l2, xcat2 l2 = false → hlf 53 57 = mxF ((fun p k => pnV (vm hi N F) (hi 63) (hi 64) (hi 65) N S p k) i) 15 h0 → G E l 12 mX10_digest 42 [some (.ref 53), some (.int (nI i)), l2] [] 83 (hi, hlf, RT) 0 0 Q) : ∀ (n k : Nat) (hlg : Nat → Nat → Int64), k + n = 15 → hlg 53 57 = mxF ((fun p k => pnV (vm hi N F) (hi 63) (hi 64) (hi 65) N S p k) i) k h0 → G E l 12 mX10_digest 19 [some (.ref 53), some (.int (nI i)), some (.int (nI k))] [] 83 (hi, hlg, RT) 0 0 Q := by
  intro n
  induction n with
  | zero =>
    intro k hlg hkn hh
    have hk15 : k = 15 := by omega
    subst hk15
    refine g_iload_n dX10_digest_19 rfl ?_
    refine g_bipush (v := 15) dX10_digest_20 (by decide) ?_
    refine g_icmpge 42 dX10_digest_22 (by decide) (fun c22 => ?_) (fun c22 => ?_)
    · skip
      exact hk hlg _ rfl hh
    · skip
      exact absurd (by decide) c22
  | succ n ih =>
    intro k hlg hkn hh
    refine g_iload_n dX10_digest_19 rfl ?_
    refine g_bipush (v := 15) dX10_digest_20 (by decide) ?_
    refine g_icmpge 42 dX10_digest_22 (by decide) (fun c22 => ?_) (fun c22 => ?_)
    · skip
      exact absurd ((nI_leI (a := 15) (by decide) (by omega)).mp c22) (by omega)
    · skip
      refine g_aload_n dX10_digest_25 rfl ?_
      refine g_aload_n dX10_digest_26 rfl ?_
      refine g_iload_n dX10_digest_27 rfl ?_
      refine g_iload_n dX10_digest_28 rfl ?_
      refine g_callV2 (M' := mX10_personNow) (mc' := 0) (ms' := 0) dX10_digest_29 l_X10_201 s_mX10_personNow (by decide) rfl rfl f_mX10_personNow (Nat.le_of_ble_eq_true rfl) (by decide) (ct_personNow hj hse hS hi1 k (by omega)) ?_
      rintro _ _ ⟨rfl, rfl⟩
      refine g_i2l dX10_digest_32 ?_
      refine g_callV1 (M' := mX10_mix) (mc' := 0) (ms' := 0) dX10_digest_33 l_X10_369 s_mX10_mix (by decide) rfl rfl f_mX10_mix (Nat.le_of_ble_eq_true rfl) (by decide) (ct_mix _) ?_
      rintro _ _ ⟨rfl, rfl⟩
      refine g_iinc dX10_digest_36 rfl (nI_inc k) (by decide) rfl rfl ?_
      refine g_goto 19 dX10_digest_39 (by decide) ?_
      exact ih (k + 1) _ (by omega) (by rw [upL_s, hh]; rfl)

set_option maxRecDepth 100000 in
set_option maxHeartbeats 4000000 in
theorem lp_dgP {N F : Nat} (hj : MO7 hi N F) {S : Nat} (hse : SE (hi 64) (hi 65) S N) (hS : hi 53 18 = nI S) {h0 : Int64} {Q : Option Value → XH → Prop} (hk : ∀ hlf l1 l2, xcat2 l1 = false → xcat2 l2 = false → hlf 53 57 = mxP (fun p k => pnV (vm hi N F) (hi 63) (hi 64) (hi 65) N S p k) N h0 → G E l 12 mX10_digest 48 [some (.ref 53), l1, l2] [] 83 (hi, hlf, RT) 0 0 Q) : ∀ (n i : Nat) (hlg : Nat → Nat → Int64) (l2 : Option Value), i + n = N → xcat2 l2 = false → hlg 53 57 = mxP (fun p k => pnV (vm hi N F) (hi 63) (hi 64) (hi 65) N S p k) i h0 → G E l 12 mX10_digest 9 [some (.ref 53), some (.int (nI i)), l2] [] 83 (hi, hlg, RT) 0 0 Q := by
  have hN8 := hj.1
  have hN := hj.2.2.1
  intro n
  induction n with
  | zero =>
    intro i hlg l2 hin hx hh
    have hiN : i = N := by omega
    refine g_iload_n dX10_digest_9 rfl ?_
    refine g_aload_n dX10_digest_10 rfl ?_
    refine g_geti dX10_digest_11 k_X10_140 rfl (by decide) rfl ?_
    refine g_icmpge 48 dX10_digest_14 (by decide) (fun c14 => ?_) (fun c14 => ?_)
    · skip
      exact hk hlg _ _ rfl hx (by rw [hh, hiN])
    · skip
      exact absurd (by show hi 53 2 ≤ nI i; rw [hN, hiN]; exact nI_le (Nat.le_refl _) (by omega)) c14
  | succ n ih =>
    intro i hlg l2 hin hx hh
    have hlt : i < N := by omega
    refine g_iload_n dX10_digest_9 rfl ?_
    refine g_aload_n dX10_digest_10 rfl ?_
    refine g_geti dX10_digest_11 k_X10_140 rfl (by decide) rfl ?_
    refine g_icmpge 48 dX10_digest_14 (by decide) (fun c14 => ?_) (fun c14 => ?_)
    · skip
      exact absurd (ge_out hN c14 (by omega) (by omega)) (by omega)
    · skip
      refine g_iconst (v := 0) dX10_digest_17 (by decide) ?_
      refine g_istore_n dX10_digest_18 (by decide) rfl rfl ?_
      refine lp_dgIn hj hse hS hlt (h0 := mxP (fun p k => pnV (vm hi N F) (hi 63) (hi 64) (hi 65) N S p k) i h0) (fun hlf l3 hx3 hh3 => ?_) 15 0 hlg (by omega) hh
      refine g_iinc dX10_digest_42 rfl (nI_inc i) (by decide) rfl rfl ?_
      refine g_goto 9 dX10_digest_45 (by decide) ?_
      exact ih (i + 1) hlf _ (by omega) hx3 hh3

set_option maxRecDepth 100000 in
set_option maxHeartbeats 4000000 in
theorem lp_dgC {N F : Nat} (hj : MO7 hi N F) {S : Nat} (hse : SE (hi 64) (hi 65) S N) (hS : hi 53 18 = nI S) {g : Nat → Nat → Int32} (hdm : DM hi g) {h0 : Int64} {l2 : Option Value} (hx2 : xcat2 l2 = false) : ∀ (n k : Nat) (hlg : Nat → Nat → Int64), k + n = 15 → hlg 53 57 = mxF (hmN hi N F) k h0 → G E l 12 mX10_digest 160 [some (.ref 53), some (.int (nI k)), l2] [] 83 (g, hlg, RT) 0 0 (fun r h' => ∃ hf hlf, r = some (.long (mxF (hmN hi N F) 15 h0)) ∧ h' = (hf, hlf, RT) ∧ DM hi hf) := by
  intro n
  induction n with
  | zero =>
    intro k hlg hkn hh
    have hk15 : k = 15 := by omega
    subst hk15
    refine g_iload_n dX10_digest_160 rfl ?_
    refine g_bipush (v := 15) dX10_digest_161 (by decide) ?_
    refine g_icmpge 182 dX10_digest_163 (by decide) (fun c163 => ?_) (fun c163 => ?_)
    · skip
      refine g_aload_n dX10_digest_182 rfl ?_
      refine g_getl dX10_digest_183 k_X10_364 rfl (by decide) rfl ?_
      exact g_lreturn dX10_digest_186 rfl ⟨g, hlg, by rw [← hh], rfl, hdm⟩
    · skip
      exact absurd (by decide) c163
  | succ n ih =>
    intro k hlg hkn hh
    refine g_iload_n dX10_digest_160 rfl ?_
    refine g_bipush (v := 15) dX10_digest_161 (by decide) ?_
    refine g_icmpge 182 dX10_digest_163 (by decide) (fun c163 => ?_) (fun c163 => ?_)
    · skip
      exact absurd ((nI_leI (a := 15) (by decide) (by omega)).mp c163) (by omega)
    · skip
      refine g_aload_n dX10_digest_166 rfl ?_
      refine g_aload_n dX10_digest_167 rfl ?_
      refine g_iload_n dX10_digest_168 rfl ?_
      refine g_callV1 (M' := mX10_howManyOf) (mc' := 0) (ms' := 0) dX10_digest_169 l_X10_359 s_mX10_howManyOf (by decide) rfl rfl f_mX10_howManyOf (Nat.le_of_ble_eq_true rfl) (by decide) ((ct_howManyOf (hi := g) (hdm.mo hj) (S := S) (by rw [show g 64 = hi 64 from funext (fun j => hdm 64 j (by omega) (by omega)), show g 65 = hi 65 from funext (fun j => hdm 65 j (by omega) (by omega))]; exact hse) ((hdm 53 18 (by omega) (by omega)).trans hS) k (by omega)).weaken (fun r h' z => (⟨by rw [z.1, hdm.hm (by omega)], z.2⟩ : r = some (.int (hmN hi N F k)) ∧ h' = (g, hlg, RT)))) ?_
      rintro _ _ ⟨rfl, rfl⟩
      refine g_i2l dX10_digest_172 ?_
      refine g_callV1 (M' := mX10_mix) (mc' := 0) (ms' := 0) dX10_digest_173 l_X10_369 s_mX10_mix (by decide) rfl rfl f_mX10_mix (Nat.le_of_ble_eq_true rfl) (by decide) (ct_mix _) ?_
      rintro _ _ ⟨rfl, rfl⟩
      refine g_iinc dX10_digest_176 rfl (nI_inc k) (by decide) rfl rfl ?_
      refine g_goto 160 dX10_digest_179 (by decide) ?_
      exact ih (k + 1) _ (by omega) (by rw [upL_s, hh]; rfl)

set_option maxRecDepth 100000 in
set_option maxHeartbeats 4000000 in
theorem lp_dgG {N F : Nat} (hj : MO7 hi N F) {S : Nat} (hse : SE (hi 64) (hi 65) S N) (hS : hi 53 18 = nI S) {L : Nat} (hL1 : L ≤ 41) (hL2 : hi 53 22 = nI L) {g : Nat → Nat → Int32} (hdm : DM hi g) {h0 : Int64} {l2 : Option Value} (hx2 : xcat2 l2 = false) : ∀ (n k : Nat) (hlg : Nat → Nat → Int64), k + n = L → hlg 53 57 = mxF (hi 66) k h0 → G E l 12 mX10_digest 133 [some (.ref 53), some (.int (nI k)), l2] [] 83 (g, hlg, RT) 0 0 (fun r h' => ∃ hf hlf, r = some (.long (mxF (hmN hi N F) 15 (mxF (hi 66) L h0))) ∧ h' = (hf, hlf, RT) ∧ DM hi hf) := by
  have hLg : g 53 22 = nI L := (hdm 53 22 (by omega) (by omega)).trans hL2
  intro n
  induction n with
  | zero =>
    intro k hlg hkn hh
    have hkL : k = L := by omega
    rw [hkL] at hh
    refine g_iload_n dX10_digest_133 rfl ?_
    refine g_aload_n dX10_digest_134 rfl ?_
    refine g_geti dX10_digest_135 k_X10_102 rfl (by decide) rfl ?_
    refine g_icmpge 158 dX10_digest_138 (by decide) (fun c138 => ?_) (fun c138 => ?_)
    · skip
      refine g_iconst (v := 0) dX10_digest_158 (by decide) ?_
      refine g_istore_n dX10_digest_159 (by decide) rfl rfl ?_
      exact lp_dgC hj hse hS hdm hx2 15 0 hlg (by omega) hh
    · skip
      exact absurd (by show g 53 22 ≤ nI k; rw [hLg, hkL]; exact nI_le (Nat.le_refl _) (by omega)) c138
  | succ n ih =>
    intro k hlg hkn hh
    have eck : (nI k).toNatClampNeg = k := nI_clamp (by omega)
    refine g_iload_n dX10_digest_133 rfl ?_
    refine g_aload_n dX10_digest_134 rfl ?_
    refine g_geti dX10_digest_135 k_X10_102 rfl (by decide) rfl ?_
    refine g_icmpge 158 dX10_digest_138 (by decide) (fun c138 => ?_) (fun c138 => ?_)
    · skip
      exact absurd (ge_out hLg c138 (by omega) (by omega)) (by omega)
    · skip
      refine g_aload_n dX10_digest_141 rfl ?_
      refine g_aload_n dX10_digest_142 rfl ?_
      refine g_getr dX10_digest_143 k_X10_46 rfl (by decide) rfl rfl ?_
      refine g_iload_n dX10_digest_146 rfl ?_
      refine g_bald dX10_digest_147 (by decide) rfl (vp_in_nI (by omega) (by decide)) ?_
      dsimp only
      rw [eck, show g 66 k = hi 66 k from hdm 66 k (by omega) (by omega)]
      refine g_i2l dX10_digest_148 ?_
      refine g_callV1 (M' := mX10_mix) (mc' := 0) (ms' := 0) dX10_digest_149 l_X10_369 s_mX10_mix (by decide) rfl rfl f_mX10_mix (Nat.le_of_ble_eq_true rfl) (by decide) (ct_mix _) ?_
      rintro _ _ ⟨rfl, rfl⟩
      refine g_iinc dX10_digest_152 rfl (nI_inc k) (by decide) rfl rfl ?_
      refine g_goto 133 dX10_digest_155 (by decide) ?_
      exact ih (k + 1) _ (by omega) (by rw [upL_s, hh]; rfl)

set_option maxRecDepth 100000 in
set_option maxHeartbeats 4000000 in
theorem lp_dgL {N F : Nat} (hj : MO7 hi N F) (hF4 : F ≤ 4) (hFN1 : F < N) {n0 : Nat} {s' : SN} (hrun : runF (vm hi N F) F N n0 (fun _ => 0) (fun _ => 0, 0) = some s') {Q : Option Value → XH → Prop} {h0 : Int64} {l2 : Option Value} (hx2 : xcat2 l2 = false) (hk : ∀ hf hlf l1, xcat2 l1 = false → DM hi hf → hlf 53 57 = mxF (fun j => lnV F s' (10 + j)) 4 h0 → G E l 12 mX10_digest 100 [some (.ref 53), l1, l2] [] 83 (hf, hlf, RT) 0 0 Q) : ∀ (n k : Nat) (g : Nat → Nat → Int32) (hlg : Nat → Nat → Int64), k + n = 4 → DM hi g → hlg 53 57 = mxF (fun j => lnV F s' (10 + j)) k h0 → G E l 12 mX10_digest 78 [some (.ref 53), some (.int (nI (10 + k))), l2] [] 83 (g, hlg, RT) 0 0 Q := by
  intro n
  induction n with
  | zero =>
    intro k g hlg hkn hdm hh
    have hk4 : k = 4 := by omega
    subst hk4
    refine g_iload_n dX10_digest_78 rfl ?_
    refine g_bipush (v := 14) dX10_digest_79 (by decide) ?_
    refine g_icmpge 100 dX10_digest_81 (by decide) (fun c81 => ?_) (fun c81 => ?_)
    · skip
      exact hk g hlg _ rfl hdm hh
    · skip
      exact absurd (by decide) c81
  | succ n ih =>
    intro k g hlg hkn hdm hh
    refine g_iload_n dX10_digest_78 rfl ?_
    refine g_bipush (v := 14) dX10_digest_79 (by decide) ?_
    refine g_icmpge 100 dX10_digest_81 (by decide) (fun c81 => ?_) (fun c81 => ?_)
    · skip
      exact absurd ((nI_leI (a := 14) (by decide) (by omega)).mp c81) (by omega)
    · skip
      refine g_aload_n dX10_digest_84 rfl ?_
      refine g_aload_n dX10_digest_85 rfl ?_
      refine g_iload_n dX10_digest_86 rfl ?_
      refine g_callV1 (M' := mX10_lastingNow) (mc' := 0) (ms' := 0) dX10_digest_87 l_X10_261 s_mX10_lastingNow (by decide) rfl rfl f_mX10_lastingNow (Nat.le_of_ble_eq_true rfl) (by decide) ((ct_lastingNow (hi := g) (hl := hlg) (hdm.mo hj) hF4 hFN1 (n := n0) (s' := s') (by rw [hdm.vm]; exact hrun) (k := 10 + k) (by omega)).weaken (fun r h' z => (by obtain ⟨hf, z1, z2, z3⟩ := z; exact ⟨hf, z1, z2, hdm.trans (DM.lm z3)⟩ : ∃ hf, r = some (.int (lnV F s' (10 + k))) ∧ h' = (hf, hlg, RT) ∧ DM hi hf))) ?_
      rintro _ _ ⟨hf, rfl, rfl, hdm⟩
      refine g_i2l dX10_digest_90 ?_
      refine g_callV1 (M' := mX10_mix) (mc' := 0) (ms' := 0) dX10_digest_91 l_X10_369 s_mX10_mix (by decide) rfl rfl f_mX10_mix (Nat.le_of_ble_eq_true rfl) (by decide) (ct_mix _) ?_
      rintro _ _ ⟨rfl, rfl⟩
      refine g_iinc dX10_digest_94 rfl (nI_inc (10 + k)) (by decide) rfl rfl ?_
      refine g_goto 78 dX10_digest_97 (by decide) ?_
      exact ih (k + 1) hf _ (by omega) hdm (by rw [upL_s, hh]; rfl)

set_option maxRecDepth 100000 in
set_option maxHeartbeats 4000000 in
theorem lp_dgM {N F : Nat} (hj : MO7 hi N F) {S : Nat} (hse : SE (hi 64) (hi 65) S N) (hS : hi 53 18 = nI S) {L : Nat} (hL1 : L ≤ 41) (hL2 : hi 53 22 = nI L) (hF4 : F ≤ 4) (hFN1 : F < N) {n0 : Nat} {s' : SN} (hrun : runF (vm hi N F) F N n0 (fun _ => 0) (fun _ => 0, 0) = some s') {h0 : Int64} {l1 l2 : Option Value} (hx1 : xcat2 l1 = false) (hx2 : xcat2 l2 = false) {hlg : Nat → Nat → Int64} (hh : hlg 53 57 = h0) : G E l 12 mX10_digest 48 [some (.ref 53), l1, l2] [] 83 (hi, hlg, RT) 0 0 (fun r h' => ∃ hf hlf, r = some (.long (mxF (hmN hi N F) 15 (mxF (hi 66) L (mxF (midV (lnV F s') (sumI (fun p => cntB (fun e => vMay (vm hi N F) p (F + e)) (N - F)) F) ((bnV (fun j => mcV (vm hi N F) N F 3 (nI (j + 1)) (decide ((0 : Int32) = 1))) 9).1) ((bnV (fun j => mcV (vm hi N F) N F 3 (nI (j + 1)) (decide ((1 : Int32) = 1))) 9).1)) 9 h0)))) ∧ h' = (hf, hlf, RT) ∧ DM hi hf) := by
  have hN8 := hj.1
  have hN := hj.2.2.1
  have hdm : DM hi hi := DM.rf
  refine g_aload_n dX10_digest_48 rfl ?_
  refine g_geti dX10_digest_49 k_X10_140 rfl (by decide) rfl ?_
  refine g_ifle 131 dX10_digest_52 (by decide) (fun c52 => ?_) (fun c52 => ?_)
  · skip
    exact absurd ((nI_leI (a := N) (b := 0) (by omega) (by decide)).mp (by rw [← hN]; exact c52)) (by omega)
  · skip
    refine g_aload_n dX10_digest_55 rfl ?_
    refine g_aload_n dX10_digest_56 rfl ?_
    refine g_iconst (v := 0) dX10_digest_57 (by decide) ?_
    refine g_callV1 (M' := mX10_lastingNow) (mc' := 0) (ms' := 0) dX10_digest_58 l_X10_261 s_mX10_lastingNow (by decide) rfl rfl f_mX10_lastingNow (Nat.le_of_ble_eq_true rfl) (by decide) ((ct_lastingNow (hi := hi) (hl := hlg) (hdm.mo hj) hF4 hFN1 (n := n0) (s' := s') (by rw [hdm.vm]; exact hrun) (k := 0) (by omega)).weaken (fun r h' z => (by obtain ⟨hf, z1, z2, z3⟩ := z; exact ⟨hf, z1, z2, hdm.trans (DM.lm z3)⟩ : ∃ hf, r = some (.int (lnV F s' (0))) ∧ h' = (hf, hlg, RT) ∧ DM hi hf))) ?_
    rintro _ _ ⟨hf0, rfl, rfl, hdm⟩
    refine g_i2l dX10_digest_61 ?_
    refine g_callV1 (M' := mX10_mix) (mc' := 0) (ms' := 0) dX10_digest_62 l_X10_369 s_mX10_mix (by decide) rfl rfl f_mX10_mix (Nat.le_of_ble_eq_true rfl) (by decide) (ct_mix _) ?_
    rintro _ _ ⟨rfl, rfl⟩
    refine g_aload_n dX10_digest_65 rfl ?_
    refine g_aload_n dX10_digest_66 rfl ?_
    refine g_iconst (v := 1) dX10_digest_67 (by decide) ?_
    refine g_callV1 (M' := mX10_lastingNow) (mc' := 0) (ms' := 0) dX10_digest_68 l_X10_261 s_mX10_lastingNow (by decide) rfl rfl f_mX10_lastingNow (Nat.le_of_ble_eq_true rfl) (by decide) ((ct_lastingNow (hi := hf0) (hl := (upL hlg 53 57 (31 * hlg 53 57 + (lnV F s' 0).toInt64))) (hdm.mo hj) hF4 hFN1 (n := n0) (s' := s') (by rw [hdm.vm]; exact hrun) (k := 1) (by omega)).weaken (fun r h' z => (by obtain ⟨hf, z1, z2, z3⟩ := z; exact ⟨hf, z1, z2, hdm.trans (DM.lm z3)⟩ : ∃ hf, r = some (.int (lnV F s' (1))) ∧ h' = (hf, (upL hlg 53 57 (31 * hlg 53 57 + (lnV F s' 0).toInt64)), RT) ∧ DM hi hf))) ?_
    rintro _ _ ⟨hf1, rfl, rfl, hdm⟩
    refine g_i2l dX10_digest_71 ?_
    refine g_callV1 (M' := mX10_mix) (mc' := 0) (ms' := 0) dX10_digest_72 l_X10_369 s_mX10_mix (by decide) rfl rfl f_mX10_mix (Nat.le_of_ble_eq_true rfl) (by decide) (ct_mix _) ?_
    rintro _ _ ⟨rfl, rfl⟩
    refine g_bipush (v := 10) dX10_digest_75 (by decide) ?_
    refine g_istore_n dX10_digest_77 (by decide) rfl rfl ?_
    refine lp_dgL hj hF4 hFN1 hrun hx2 (h0 := mxF (midV (lnV F s') (sumI (fun p => cntB (fun e => vMay (vm hi N F) p (F + e)) (N - F)) F) ((bnV (fun j => mcV (vm hi N F) N F 3 (nI (j + 1)) (decide ((0 : Int32) = 1))) 9).1) ((bnV (fun j => mcV (vm hi N F) N F 3 (nI (j + 1)) (decide ((1 : Int32) = 1))) 9).1)) 2 h0) (fun hf hlf l3 hx3 hdm hh3 => ?_) 4 0 hf1 _ (by omega) hdm (by rw [upL_s, upL_s, hh]; rfl)
    refine g_aload_n dX10_digest_100 rfl ?_
    refine g_aload_n dX10_digest_101 rfl ?_
    refine g_callV0 (M' := mX10_mutualNow) (mc' := 0) (ms' := 0) dX10_digest_102 l_X10_264 s_mX10_mutualNow (by decide) rfl rfl f_mX10_mutualNow (Nat.le_of_ble_eq_true rfl) (by decide) ((ct_mutualNow (hi := hf) (hl := hlf) (hdm.mo hj)).weaken (fun r h' z => (⟨by rw [z.1, hdm.vm], z.2⟩ : r = some (.int (sumI (fun p => cntB (fun e => vMay (vm hi N F) p (F + e)) (N - F)) F)) ∧ h' = (hf, hlf, RT)))) ?_
    rintro _ _ ⟨rfl, rfl⟩
    refine g_i2l dX10_digest_105 ?_
    refine g_callV1 (M' := mX10_mix) (mc' := 0) (ms' := 0) dX10_digest_106 l_X10_369 s_mX10_mix (by decide) rfl rfl f_mX10_mix (Nat.le_of_ble_eq_true rfl) (by decide) (ct_mix _) ?_
    rintro _ _ ⟨rfl, rfl⟩
    refine g_aload_n dX10_digest_109 rfl ?_
    refine g_aload_n dX10_digest_110 rfl ?_
    refine g_iconst (v := 3) dX10_digest_111 (by decide) ?_
    refine g_iconst (v := 0) dX10_digest_112 (by decide) ?_
    refine g_callV2 (M' := mX10_bestNow) (mc' := 0) (ms' := 0) dX10_digest_113 l_X10_298 s_mX10_bestNow (by decide) rfl rfl f_mX10_bestNow (Nat.le_of_ble_eq_true rfl) (by decide) ((ct_bestNow (hi := hf) (hl := (upL hlf 53 57 (31 * hlf 53 57 + (sumI (fun p => cntB (fun e => vMay (vm hi N F) p (F + e)) (N - F)) F).toInt64))) (hdm.mo hj) (D := 3) (by omega) 0).weaken (fun r h' z => (by obtain ⟨hf, z1, z2, z3⟩ := z; exact ⟨hf, by rw [z1, hdm.vm], z2, hdm.trans (DM.cx z3)⟩ : ∃ hf, r = some (.int ((bnV (fun j => mcV (vm hi N F) N F 3 (nI (j + 1)) (decide ((0 : Int32) = 1))) 9).1)) ∧ h' = (hf, (upL hlf 53 57 (31 * hlf 53 57 + (sumI (fun p => cntB (fun e => vMay (vm hi N F) p (F + e)) (N - F)) F).toInt64)), RT) ∧ DM hi hf))) ?_
    rintro _ _ ⟨hg0, rfl, rfl, hdm⟩
    refine g_i2l dX10_digest_116 ?_
    refine g_callV1 (M' := mX10_mix) (mc' := 0) (ms' := 0) dX10_digest_117 l_X10_369 s_mX10_mix (by decide) rfl rfl f_mX10_mix (Nat.le_of_ble_eq_true rfl) (by decide) (ct_mix _) ?_
    rintro _ _ ⟨rfl, rfl⟩
    refine g_aload_n dX10_digest_120 rfl ?_
    refine g_aload_n dX10_digest_121 rfl ?_
    refine g_iconst (v := 3) dX10_digest_122 (by decide) ?_
    refine g_iconst (v := 1) dX10_digest_123 (by decide) ?_
    refine g_callV2 (M' := mX10_bestNow) (mc' := 0) (ms' := 0) dX10_digest_124 l_X10_298 s_mX10_bestNow (by decide) rfl rfl f_mX10_bestNow (Nat.le_of_ble_eq_true rfl) (by decide) ((ct_bestNow (hi := hg0) (hl := (upL (upL hlf 53 57 (31 * hlf 53 57 + (sumI (fun p => cntB (fun e => vMay (vm hi N F) p (F + e)) (N - F)) F).toInt64)) 53 57 (31 * (upL hlf 53 57 (31 * hlf 53 57 + (sumI (fun p => cntB (fun e => vMay (vm hi N F) p (F + e)) (N - F)) F).toInt64)) 53 57 + ((bnV (fun j => mcV (vm hi N F) N F 3 (nI (j + 1)) (decide ((0 : Int32) = 1))) 9).1).toInt64))) (hdm.mo hj) (D := 3) (by omega) 1).weaken (fun r h' z => (by obtain ⟨hf, z1, z2, z3⟩ := z; exact ⟨hf, by rw [z1, hdm.vm], z2, hdm.trans (DM.cx z3)⟩ : ∃ hf, r = some (.int ((bnV (fun j => mcV (vm hi N F) N F 3 (nI (j + 1)) (decide ((1 : Int32) = 1))) 9).1)) ∧ h' = (hf, (upL (upL hlf 53 57 (31 * hlf 53 57 + (sumI (fun p => cntB (fun e => vMay (vm hi N F) p (F + e)) (N - F)) F).toInt64)) 53 57 (31 * (upL hlf 53 57 (31 * hlf 53 57 + (sumI (fun p => cntB (fun e => vMay (vm hi N F) p (F + e)) (N - F)) F).toInt64)) 53 57 + ((bnV (fun j => mcV (vm hi N F) N F 3 (nI (j + 1)) (decide ((0 : Int32) = 1))) 9).1).toInt64)), RT) ∧ DM hi hf))) ?_
    rintro _ _ ⟨hg1, rfl, rfl, hdm⟩
    refine g_i2l dX10_digest_127 ?_
    refine g_callV1 (M' := mX10_mix) (mc' := 0) (ms' := 0) dX10_digest_128 l_X10_369 s_mX10_mix (by decide) rfl rfl f_mX10_mix (Nat.le_of_ble_eq_true rfl) (by decide) (ct_mix _) ?_
    rintro _ _ ⟨rfl, rfl⟩
    refine g_iconst (v := 0) dX10_digest_131 (by decide) ?_
    refine g_istore_n dX10_digest_132 (by decide) rfl rfl ?_
    exact lp_dgG hj hse hS hL1 hL2 hdm (h0 := mxF (midV (lnV F s') (sumI (fun p => cntB (fun e => vMay (vm hi N F) p (F + e)) (N - F)) F) ((bnV (fun j => mcV (vm hi N F) N F 3 (nI (j + 1)) (decide ((0 : Int32) = 1))) 9).1) ((bnV (fun j => mcV (vm hi N F) N F 3 (nI (j + 1)) (decide ((1 : Int32) = 1))) 9).1)) 9 h0) hx2 L 0 _ (by omega) (by rw [upL_s, upL_s, upL_s, hh3]; rfl)

theorem dg_pos {pf : Nat → Nat → Int32} {N : Nat} {mid pg : Nat → Int32} {L : Nat} {ct : Nat → Int32} (h : 0 < N) : dgV pf N mid pg L ct = mxF ct 15 (mxF pg L (mxF mid 9 (mxP pf N 1123))) := by rw [dgV, if_neg (by omega)]
theorem dg_0 {pf : Nat → Nat → Int32} {N : Nat} {mid pg : Nat → Int32} {L : Nat} {ct : Nat → Int32} (h : N = 0) : dgV pf N mid pg L ct = mxF ct 15 (mxF pg L 1123) := by rw [dgV, if_pos h, h]; rfl

set_option maxRecDepth 100000 in
set_option maxHeartbeats 4000000 in
theorem ct_mdigest {N F : Nat} (hj : MO7 hi N F) {S : Nat} (hse : SE (hi 64) (hi 65) S N) (hS : hi 53 18 = nI S) {L : Nat} (hL1 : L ≤ 41) (hL2 : hi 53 22 = nI L) (hF4 : F ≤ 4) (hFN1 : F < N) {n0 : Nat} {s' : SN} (hrun : runF (vm hi N F) F N n0 (fun _ => 0) (fun _ => 0, 0) = some s') : MC E l 12 mX10_digest [.ref 53] 83 (hi, hl, RT) 0 0 (fun r h' => ∃ hf hlf, r = some (.long (dgV (fun p k => pnV (vm hi N F) (hi 63) (hi 64) (hi 65) N S p k) N (midV (lnV F s') (sumI (fun p => cntB (fun e => vMay (vm hi N F) p (F + e)) (N - F)) F) ((bnV (fun j => mcV (vm hi N F) N F 3 (nI (j + 1)) (decide ((0 : Int32) = 1))) 9).1) ((bnV (fun j => mcV (vm hi N F) N F 3 (nI (j + 1)) (decide ((1 : Int32) = 1))) 9).1)) (hi 66) L (hmN hi N F))) ∧ h' = (hf, hlf, RT) ∧ DM hi hf) := by
  refine MC.of [some (.ref 53), none, none] (by decide) rfl (Nat.le_of_ble_eq_true rfl) ?_
  refine g_aload_n dX10_digest_0 rfl ?_
  refine g_ldc2 dX10_digest_1 c_X10_367 ?_
  refine g_putl dX10_digest_4 k_X10_364 rfl (by decide) rfl rfl ?_
  refine g_iconst (v := 0) dX10_digest_7 (by decide) ?_
  refine g_istore_n dX10_digest_8 (by decide) rfl rfl ?_
  rw [dg_pos (show 0 < N from by omega)]
  refine lp_dgP hj hse hS (fun hlf l1 l2 hx1 hx2 hh => ?_) N 0 _ none (by omega) rfl upL_s
  exact lp_dgM hj hse hS hL1 hL2 hF4 hFN1 hrun hx1 hx2 hh

set_option maxRecDepth 100000 in
set_option maxHeartbeats 4000000 in
theorem ct_mdigest0 {N F : Nat} (hj : MO7 hi N F) {S : Nat} (hse : SE (hi 64) (hi 65) S N) (hS : hi 53 18 = nI S) {L : Nat} (hL1 : L ≤ 41) (hL2 : hi 53 22 = nI L) (hE : N = 0) : MC E l 12 mX10_digest [.ref 53] 83 (hi, hl, RT) 0 0 (fun r h' => ∃ hf hlf, r = some (.long (mxF (hmN hi N F) 15 (mxF (hi 66) L 1123))) ∧ h' = (hf, hlf, RT) ∧ DM hi hf) := by
  refine MC.of [some (.ref 53), none, none] (by decide) rfl (Nat.le_of_ble_eq_true rfl) ?_
  refine g_aload_n dX10_digest_0 rfl ?_
  refine g_ldc2 dX10_digest_1 c_X10_367 ?_
  refine g_putl dX10_digest_4 k_X10_364 rfl (by decide) rfl rfl ?_
  refine g_iconst (v := 0) dX10_digest_7 (by decide) ?_
  refine g_istore_n dX10_digest_8 (by decide) rfl rfl ?_
  refine lp_dgP (hi := hi) (h0 := 1123) hj hse hS (fun hlf l1 l2 hx1 hx2 hh => ?_) N 0 _ none (by omega) rfl upL_s
  rw [hE] at hh
  refine g_aload_n dX10_digest_48 rfl ?_
  refine g_geti dX10_digest_49 k_X10_140 rfl (by decide) rfl ?_
  refine g_ifle 131 dX10_digest_52 (by decide) (fun c52 => ?_) (fun c52 => ?_)
  · skip
    refine g_iconst (v := 0) dX10_digest_131 (by decide) ?_
    refine g_istore_n dX10_digest_132 (by decide) rfl rfl ?_
    exact lp_dgG hj hse hS hL1 hL2 DM.rf hx2 L 0 _ (by omega) hh
  · skip
    exact absurd (by show hi 53 2 ≤ 0; rw [hj.2.2.1, hE]; decide) c52

end
