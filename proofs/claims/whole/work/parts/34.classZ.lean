section
variable {E : XE} {l : Launch} {hi : Nat → Nat → Int32} {hl : Nat → Nat → Int64}

/-! lasting, seasons, the digest: the class -/
def ltV (s : ST) (k : Nat) : Int32 := if k = 0 then s.2 else if k = 1 then cntB (fun p => !decide (s.1 p = -1)) 4 else s.1 (k - 10)
/-- what working out may change -/
def DC (hi hf : Nat → Nat → Int32) : Prop := (∀ a k, a < 32 ∨ 52 < a → hf a k = hi a k) ∧ KV hf ∧ PB hf 32
theorem DC.rf {f : Nat → Nat → Int32} (h : KV f) (h2 : PB f 32) : DC f f := ⟨fun _ _ _ => rfl, h, h2⟩
theorem DC.trans {f g h : Nat → Nat → Int32} (h1 : DC f g) (h2 : DC g h) : DC f h := ⟨fun a k q => (h2.1 a k q).trans (h1.1 a k q), h2.2⟩
theorem DC.tx {f g : Nat → Nat → Int32} (h : TX f g) : DC f g := ⟨fun a k q => h.1 a k (by omega), h.2⟩
theorem DC.lx {f g : Nat → Nat → Int32} (h : LX f g) (hk : KV f) (hp : PB f 32) : DC f g := ⟨fun a k q => h a k (by omega) (by omega), h.kv hk, h.pb isC32 hp⟩
theorem DC.vw3 {f g : Nat → Nat → Int32} (h : DC f g) {N : Nat} (hN : N ≤ 8) : vw g 3 N = vw f 3 N := w_congr (fun k hk t _ _ => h.1 _ _ (by omega))
theorem DC.pb3 {f g : Nat → Nat → Int32} (h : DC f g) (hp : PB f 3) : PB g 3 := fun j hj => by rw [h.1 _ 0 (by omega), h.1 _ 1 (by omega)]; exact hp j hj

set_option maxRecDepth 100000 in
set_option maxHeartbeats 4000000 in
theorem ct_lastingX (x : Int32) (hx : (decide (x = 0) || (decide (x = 1) || (!decide (x < 10) && !decide (13 < x)))) = false) : MC E l 3 mX9_lasting [.ref 0, .int (x)] 83 (hi, hl, RT) 0 0 (fun r h' => r = some (.int (-102)) ∧ h' = (hi, hl, RT)) := by
  refine MC.of [some (.ref 0), some (.int (x))] (by decide) rfl (Nat.le_of_ble_eq_true rfl) ?_
  refine g_iload_n dX9_lasting_0 rfl ?_
  refine g_callS1 (M' := mX3_canTell) (mc' := 0) (ms' := 0) dX9_lasting_1 l_X9_168 s_mX3_canTell f_mX3_canTell (Nat.le_of_ble_eq_true rfl) (by decide) ((ct_canTell _).weaken (fun r h' q => (⟨by rw [q.1, hx]; rfl, q.2⟩ : r = some (.int 0) ∧ h' = (hi, hl, RT)))) ?_
  rintro _ _ ⟨rfl, rfl⟩
  refine g_ifne 10 dX9_lasting_4 (by decide) (fun c => absurd c (by decide)) (fun _ => ?_)
  refine g_bipush (v := -102) dX9_lasting_7 (by decide) ?_
  exact g_ireturn dX9_lasting_9 rfl rfl ⟨rfl, rfl⟩

set_option maxRecDepth 100000 in
set_option maxHeartbeats 4000000 in
theorem ct_lastingE (x : Int32) (hx : (decide (x = 0) || (decide (x = 1) || (!decide (x < 10) && !decide (13 < x)))) = true) (hE : hi 3 3 = 0) : MC E l 3 mX9_lasting [.ref 0, .int (x)] 83 (hi, hl, RT) 0 0 (fun r h' => r = some (.int (-103)) ∧ h' = (hi, hl, RT)) := by
  refine MC.of [some (.ref 0), some (.int (x))] (by decide) rfl (Nat.le_of_ble_eq_true rfl) ?_
  refine g_iload_n dX9_lasting_0 rfl ?_
  refine g_callS1 (M' := mX3_canTell) (mc' := 0) (ms' := 0) dX9_lasting_1 l_X9_168 s_mX3_canTell f_mX3_canTell (Nat.le_of_ble_eq_true rfl) (by decide) ((ct_canTell _).weaken (fun r h' q => (⟨by rw [q.1, hx]; rfl, q.2⟩ : r = some (.int 1) ∧ h' = (hi, hl, RT)))) ?_
  rintro _ _ ⟨rfl, rfl⟩
  refine g_ifne 10 dX9_lasting_4 (by decide) (fun _ => ?_) (fun c => absurd c (by decide))
  refine g_aload_n dX9_lasting_10 rfl ?_
  refine g_getr dX9_lasting_11 k_X9_19 rfl (by decide) rfl rfl ?_
  refine g_callV0 (M' := mX0_isEmpty) (mc' := 0) (ms' := 0) dX9_lasting_14 l_X9_111 s_mX0_isEmpty (by decide) rfl rfl f_mX0_isEmpty (Nat.le_of_ble_eq_true rfl) (by decide) (ct_emptyY isC3 hE) ?_
  rintro _ _ ⟨rfl, rfl⟩
  refine g_ifeq 23 dX9_lasting_17 (by decide) (fun c => absurd c (by decide)) (fun _ => ?_)
  refine g_bipush (v := -103) dX9_lasting_20 (by decide) ?_
  exact g_ireturn dX9_lasting_22 rfl rfl ⟨rfl, rfl⟩

set_option maxRecDepth 100000 in
set_option maxHeartbeats 4000000 in
theorem ct_lasting0 (hkv : KV hi) (hb3 : PB hi 3) (hb32 : PB hi 32) {N F : Nat} (hN8 : N ≤ 8) (hFN : F ≤ N) (hF4 : F ≤ 4) (hN : hi 3 3 = nI N) (hF : hi 3 2 = nI F) (hsd : ∀ k, k < N → hi (3 + 6 + k) 3 = bI (decide (F ≤ k))) (hE : 0 < N) : MC E l 10 mX9_lasting [.ref 0, .int (0)] 83 (hi, hl, RT) 0 0 (fun r h' => ∃ hf K, r = some (.int (ltV (lsF (vw hi 3 N) N F K) 0)) ∧ h' = (hf, hl, RT) ∧ DC hi hf ∧ RK (vw hi 3 N) N K) := by
  refine MC.of [some (.ref 0), some (.int (0))] (by decide) rfl (Nat.le_of_ble_eq_true rfl) ?_
  refine g_iload_n dX9_lasting_0 rfl ?_
  refine g_callS1 (M' := mX3_canTell) (mc' := 0) (ms' := 0) dX9_lasting_1 l_X9_168 s_mX3_canTell f_mX3_canTell (Nat.le_of_ble_eq_true rfl) (by decide) ((ct_canTell _).weaken (fun r h' q => (⟨by rw [q.1]; rfl, q.2⟩ : r = some (.int 1) ∧ h' = (hi, hl, RT)))) ?_
  rintro _ _ ⟨rfl, rfl⟩
  refine g_ifne 10 dX9_lasting_4 (by decide) (fun _ => ?_) (fun c => absurd c (by decide))
  refine g_aload_n dX9_lasting_10 rfl ?_
  refine g_getr dX9_lasting_11 k_X9_19 rfl (by decide) rfl rfl ?_
  refine g_callV0 (M' := mX0_isEmpty) (mc' := 0) (ms' := 0) dX9_lasting_14 l_X9_111 s_mX0_isEmpty (by decide) rfl rfl f_mX0_isEmpty (Nat.le_of_ble_eq_true rfl) (by decide) (ct_emptyN isC3 hN8 hN hE) ?_
  rintro _ _ ⟨rfl, rfl⟩
  refine g_ifeq 23 dX9_lasting_17 (by decide) (fun _ => ?_) (fun c => absurd c (by decide))
  refine g_aload_n dX9_lasting_23 rfl ?_
  refine g_getr dX9_lasting_24 k_X9_36 rfl (by decide) rfl rfl ?_
  refine g_aload_n dX9_lasting_27 rfl ?_
  refine g_getr dX9_lasting_28 k_X9_19 rfl (by decide) rfl rfl ?_
  refine g_callV1 (M' := mX3_workOut) (mc' := 0) (ms' := 0) dX9_lasting_31 l_X9_171 s_mX3_workOut (by decide) rfl rfl f_mX3_workOut (Nat.le_of_ble_eq_true rfl) (by decide) (ct_workOut hkv hb3 hN8 hFN hF4 hN hF hsd) ?_
  rintro _ _ ⟨hf, K, rfl, rfl, hlx, hrk, h52, h47⟩
  refine g_aload_n dX9_lasting_34 rfl ?_
  refine g_getr dX9_lasting_35 k_X9_36 rfl (by decide) rfl rfl ?_
  refine g_iload_n dX9_lasting_38 rfl ?_
  refine g_callV1 (M' := mX3_tell) (mc' := 0) (ms' := 0) dX9_lasting_39 l_X9_175 s_mX3_tell (by decide) rfl rfl f_mX3_tell (Nat.le_of_ble_eq_true rfl) (by decide) ((ct_ltell0 (hi := hf)).weaken (fun r h' z => (⟨by rw [z.1, h47]; rfl, z.2⟩ : r = some (.int (ltV (lsF (vw hi 3 N) N F K) 0)) ∧ h' = (hf, hl, RT)))) ?_
  rintro _ _ ⟨rfl, rfl⟩
  exact g_ireturn dX9_lasting_42 rfl rfl ⟨hf, K, rfl, rfl, DC.lx hlx hkv hb32, hrk⟩

set_option maxRecDepth 100000 in
set_option maxHeartbeats 4000000 in
theorem ct_lasting1 (hkv : KV hi) (hb3 : PB hi 3) (hb32 : PB hi 32) {N F : Nat} (hN8 : N ≤ 8) (hFN : F ≤ N) (hF4 : F ≤ 4) (hN : hi 3 3 = nI N) (hF : hi 3 2 = nI F) (hsd : ∀ k, k < N → hi (3 + 6 + k) 3 = bI (decide (F ≤ k))) (hE : 0 < N) : MC E l 10 mX9_lasting [.ref 0, .int (1)] 83 (hi, hl, RT) 0 0 (fun r h' => ∃ hf K, r = some (.int (ltV (lsF (vw hi 3 N) N F K) 1)) ∧ h' = (hf, hl, RT) ∧ DC hi hf ∧ RK (vw hi 3 N) N K) := by
  refine MC.of [some (.ref 0), some (.int (1))] (by decide) rfl (Nat.le_of_ble_eq_true rfl) ?_
  refine g_iload_n dX9_lasting_0 rfl ?_
  refine g_callS1 (M' := mX3_canTell) (mc' := 0) (ms' := 0) dX9_lasting_1 l_X9_168 s_mX3_canTell f_mX3_canTell (Nat.le_of_ble_eq_true rfl) (by decide) ((ct_canTell _).weaken (fun r h' q => (⟨by rw [q.1]; rfl, q.2⟩ : r = some (.int 1) ∧ h' = (hi, hl, RT)))) ?_
  rintro _ _ ⟨rfl, rfl⟩
  refine g_ifne 10 dX9_lasting_4 (by decide) (fun _ => ?_) (fun c => absurd c (by decide))
  refine g_aload_n dX9_lasting_10 rfl ?_
  refine g_getr dX9_lasting_11 k_X9_19 rfl (by decide) rfl rfl ?_
  refine g_callV0 (M' := mX0_isEmpty) (mc' := 0) (ms' := 0) dX9_lasting_14 l_X9_111 s_mX0_isEmpty (by decide) rfl rfl f_mX0_isEmpty (Nat.le_of_ble_eq_true rfl) (by decide) (ct_emptyN isC3 hN8 hN hE) ?_
  rintro _ _ ⟨rfl, rfl⟩
  refine g_ifeq 23 dX9_lasting_17 (by decide) (fun _ => ?_) (fun c => absurd c (by decide))
  refine g_aload_n dX9_lasting_23 rfl ?_
  refine g_getr dX9_lasting_24 k_X9_36 rfl (by decide) rfl rfl ?_
  refine g_aload_n dX9_lasting_27 rfl ?_
  refine g_getr dX9_lasting_28 k_X9_19 rfl (by decide) rfl rfl ?_
  refine g_callV1 (M' := mX3_workOut) (mc' := 0) (ms' := 0) dX9_lasting_31 l_X9_171 s_mX3_workOut (by decide) rfl rfl f_mX3_workOut (Nat.le_of_ble_eq_true rfl) (by decide) (ct_workOut hkv hb3 hN8 hFN hF4 hN hF hsd) ?_
  rintro _ _ ⟨hf, K, rfl, rfl, hlx, hrk, h52, h47⟩
  refine g_aload_n dX9_lasting_34 rfl ?_
  refine g_getr dX9_lasting_35 k_X9_36 rfl (by decide) rfl rfl ?_
  refine g_iload_n dX9_lasting_38 rfl ?_
  refine g_callV1 (M' := mX3_tell) (mc' := 0) (ms' := 0) dX9_lasting_39 l_X9_175 s_mX3_tell (by decide) rfl rfl f_mX3_tell (Nat.le_of_ble_eq_true rfl) (by decide) ((ct_ltell1 (hi := hf)).weaken (fun r h' z => (⟨by rw [z.1]; exact congrArg (fun x => some (Value.int x)) (cntB_congr (fun i hi4 => by rw [h52 i hi4])), z.2⟩ : r = some (.int (ltV (lsF (vw hi 3 N) N F K) 1)) ∧ h' = (hf, hl, RT)))) ?_
  rintro _ _ ⟨rfl, rfl⟩
  exact g_ireturn dX9_lasting_42 rfl rfl ⟨hf, K, rfl, rfl, DC.lx hlx hkv hb32, hrk⟩

theorem ck_in {k : Nat} (hk : k < 4) : (decide (nI (10 + k) = 0) || (decide (nI (10 + k) = 1) || (!decide (nI (10 + k) < 10) && !decide ((13 : Int32) < nI (10 + k))))) = true := by
  have : k = 0 ∨ k = 1 ∨ k = 2 ∨ k = 3 := by omega
  rcases this with rfl | rfl | rfl | rfl <;> decide

set_option maxRecDepth 100000 in
set_option maxHeartbeats 4000000 in
theorem ct_lastingK (hkv : KV hi) (hb3 : PB hi 3) (hb32 : PB hi 32) {N F : Nat} (hN8 : N ≤ 8) (hFN : F ≤ N) (hF4 : F ≤ 4) (hN : hi 3 3 = nI N) (hF : hi 3 2 = nI F) (hsd : ∀ k, k < N → hi (3 + 6 + k) 3 = bI (decide (F ≤ k))) (hE : 0 < N) {k : Nat} (hk : k < 4) : MC E l 10 mX9_lasting [.ref 0, .int (nI (10 + k))] 83 (hi, hl, RT) 0 0 (fun r h' => ∃ hf K, r = some (.int (ltV (lsF (vw hi 3 N) N F K) (10 + k))) ∧ h' = (hf, hl, RT) ∧ DC hi hf ∧ RK (vw hi 3 N) N K) := by
  refine MC.of [some (.ref 0), some (.int (nI (10 + k)))] (by decide) rfl (Nat.le_of_ble_eq_true rfl) ?_
  refine g_iload_n dX9_lasting_0 rfl ?_
  refine g_callS1 (M' := mX3_canTell) (mc' := 0) (ms' := 0) dX9_lasting_1 l_X9_168 s_mX3_canTell f_mX3_canTell (Nat.le_of_ble_eq_true rfl) (by decide) ((ct_canTell _).weaken (fun r h' q => (⟨by rw [q.1, ck_in hk]; rfl, q.2⟩ : r = some (.int 1) ∧ h' = (hi, hl, RT)))) ?_
  rintro _ _ ⟨rfl, rfl⟩
  refine g_ifne 10 dX9_lasting_4 (by decide) (fun _ => ?_) (fun c => absurd c (by decide))
  refine g_aload_n dX9_lasting_10 rfl ?_
  refine g_getr dX9_lasting_11 k_X9_19 rfl (by decide) rfl rfl ?_
  refine g_callV0 (M' := mX0_isEmpty) (mc' := 0) (ms' := 0) dX9_lasting_14 l_X9_111 s_mX0_isEmpty (by decide) rfl rfl f_mX0_isEmpty (Nat.le_of_ble_eq_true rfl) (by decide) (ct_emptyN isC3 hN8 hN hE) ?_
  rintro _ _ ⟨rfl, rfl⟩
  refine g_ifeq 23 dX9_lasting_17 (by decide) (fun _ => ?_) (fun c => absurd c (by decide))
  refine g_aload_n dX9_lasting_23 rfl ?_
  refine g_getr dX9_lasting_24 k_X9_36 rfl (by decide) rfl rfl ?_
  refine g_aload_n dX9_lasting_27 rfl ?_
  refine g_getr dX9_lasting_28 k_X9_19 rfl (by decide) rfl rfl ?_
  refine g_callV1 (M' := mX3_workOut) (mc' := 0) (ms' := 0) dX9_lasting_31 l_X9_171 s_mX3_workOut (by decide) rfl rfl f_mX3_workOut (Nat.le_of_ble_eq_true rfl) (by decide) (ct_workOut hkv hb3 hN8 hFN hF4 hN hF hsd) ?_
  rintro _ _ ⟨hf, K, rfl, rfl, hlx, hrk, h52, h47⟩
  refine g_aload_n dX9_lasting_34 rfl ?_
  refine g_getr dX9_lasting_35 k_X9_36 rfl (by decide) rfl rfl ?_
  refine g_iload_n dX9_lasting_38 rfl ?_
  refine g_callV1 (M' := mX3_tell) (mc' := 0) (ms' := 0) dX9_lasting_39 l_X9_175 s_mX3_tell (by decide) rfl rfl f_mX3_tell (Nat.le_of_ble_eq_true rfl) (by decide) ((ct_ltellK (hi := hf) (k := k) (by omega)).weaken (fun r h' z => (⟨by rw [z.1, h52 _ (by omega), ltV, if_neg (by omega), if_neg (by omega), Nat.add_sub_cancel_left], z.2⟩ : r = some (.int (ltV (lsF (vw hi 3 N) N F K) (10 + k))) ∧ h' = (hf, hl, RT)))) ?_
  rintro _ _ ⟨rfl, rfl⟩
  exact g_ireturn dX9_lasting_42 rfl rfl ⟨hf, K, rfl, rfl, DC.lx hlx hkv hb32, hrk⟩

set_option maxRecDepth 100000 in
set_option maxHeartbeats 4000000 in
theorem lp_foldL {N F : Nat} {K : Nat → Int32} {hf : Nat → Nat → Int32} (h52 : ∀ k, k < 4 → hf 52 k = (lsF (vw hi 3 N) N F K).1 k) {h0 : Int64} {mu b0 b1 : Int32} : ∀ (n k : Nat) (h : Int64), k + n = 4 → h = mxF (midV (ltV (lsF (vw hi 3 N) N F K)) mu b0 b1) (2 + k) h0 → G E l 10 mX9_foldLasting 47 [some (.ref 0), some (.long h0), none, some (.long h), none, some (.int (nI (10 + k)))] [] 83 (hf, hl, RT) 0 0 (fun r h' => r = some (.long (mxF (midV (ltV (lsF (vw hi 3 N) N F K)) mu b0 b1) 6 h0)) ∧ h' = (hf, hl, RT)) := by
  intro n
  induction n with
  | zero =>
    intro k h hkn hh
    have hk4 : k = 4 := by omega
    subst hk4
    refine g_iload dX9_foldLasting_47 rfl ?_
    refine g_bipush (v := 13) dX9_foldLasting_49 (by decide) ?_
    refine g_icmpgt 77 dX9_foldLasting_51 (by decide) (fun c51 => ?_) (fun c51 => ?_)
    · skip
      refine g_lload_n dX9_foldLasting_77 rfl ?_
      exact g_lreturn dX9_foldLasting_78 rfl ⟨by rw [hh], rfl⟩
    · skip
      exact absurd (by decide) c51
  | succ n ih =>
    intro k h hkn hh
    have hk4 : k < 4 := by omega
    have em : (midV (ltV (lsF (vw hi 3 N) N F K)) mu b0 b1) (2 + k) = ltV (lsF (vw hi 3 N) N F K) (10 + k) := by
      have : k = 0 ∨ k = 1 ∨ k = 2 ∨ k = 3 := by omega
      rcases this with rfl | rfl | rfl | rfl <;> rfl
    refine g_iload dX9_foldLasting_47 rfl ?_
    refine g_bipush (v := 13) dX9_foldLasting_49 (by decide) ?_
    refine g_icmpgt 77 dX9_foldLasting_51 (by decide) (fun c51 => ?_) (fun c51 => ?_)
    · skip
      exact absurd ((nI_ltI (a := 13) (by decide) (by omega)).mp c51) (by omega)
    · skip
      refine g_ldc2 dX9_foldLasting_54 c_X9_255 ?_
      refine g_lload_n dX9_foldLasting_57 rfl ?_
      refine g_lmul dX9_foldLasting_58 ?_
      refine g_aload_n dX9_foldLasting_59 rfl ?_
      refine g_getr dX9_foldLasting_60 k_X9_36 rfl (by decide) rfl rfl ?_
      refine g_iload dX9_foldLasting_63 rfl ?_
      refine g_callV1 (M' := mX3_tell) (mc' := 0) (ms' := 0) dX9_foldLasting_65 l_X9_175 s_mX3_tell (by decide) rfl rfl f_mX3_tell (Nat.le_of_ble_eq_true rfl) (by decide) ((ct_ltellK (hi := hf) (k := k) (by omega)).weaken (fun r h' z => (⟨by rw [z.1, h52 _ (by omega), ltV, if_neg (by omega), if_neg (by omega), Nat.add_sub_cancel_left], z.2⟩ : r = some (.int (ltV (lsF (vw hi 3 N) N F K) (10 + k))) ∧ h' = (hf, hl, RT)))) ?_
      rintro _ _ ⟨rfl, rfl⟩
      refine g_i2l dX9_foldLasting_68 ?_
      refine g_ladd dX9_foldLasting_69 ?_
      refine g_lstore_n dX9_foldLasting_70 (by decide) rfl rfl ?_
      refine g_iinc dX9_foldLasting_71 rfl (nI_inc (10 + k)) (by decide) rfl rfl ?_
      refine g_goto 47 dX9_foldLasting_74 (by decide) ?_
      exact ih (k + 1) _ (by omega) (by rw [show 2 + (k + 1) = (2 + k) + 1 from rfl, mxF, em, hh])

set_option maxRecDepth 100000 in
set_option maxHeartbeats 4000000 in
theorem ct_foldLasting (hkv : KV hi) (hb3 : PB hi 3) (hb32 : PB hi 32) {N F : Nat} (hN8 : N ≤ 8) (hFN : F ≤ N) (hF4 : F ≤ 4) (hN : hi 3 3 = nI N) (hF : hi 3 2 = nI F) (hsd : ∀ k, k < N → hi (3 + 6 + k) 3 = bI (decide (F ≤ k))) (h0 : Int64) (mu b0 b1 : Int32) : MC E l 10 mX9_foldLasting [.ref 0, .long h0] 83 (hi, hl, RT) 0 0 (fun r h' => ∃ hf K, r = some (.long (mxF (midV (ltV (lsF (vw hi 3 N) N F K)) mu b0 b1) 6 h0)) ∧ h' = (hf, hl, RT) ∧ DC hi hf ∧ RK (vw hi 3 N) N K) := by
  refine MC.of [some (.ref 0), some (.long h0), none, none, none, none] (by decide) rfl (Nat.le_of_ble_eq_true rfl) ?_
  refine g_aload_n dX9_foldLasting_0 rfl ?_
  refine g_getr dX9_foldLasting_1 k_X9_36 rfl (by decide) rfl rfl ?_
  refine g_aload_n dX9_foldLasting_4 rfl ?_
  refine g_getr dX9_foldLasting_5 k_X9_19 rfl (by decide) rfl rfl ?_
  refine g_callV1 (M' := mX3_workOut) (mc' := 0) (ms' := 0) dX9_foldLasting_8 l_X9_171 s_mX3_workOut (by decide) rfl rfl f_mX3_workOut (Nat.le_of_ble_eq_true rfl) (by decide) (ct_workOut hkv hb3 hN8 hFN hF4 hN hF hsd) ?_
  rintro _ _ ⟨hf, K, rfl, rfl, hlx, hrk, h52, h47⟩
  refine g_ldc2 dX9_foldLasting_11 c_X9_255 ?_
  refine g_lload_n dX9_foldLasting_14 rfl ?_
  refine g_lmul dX9_foldLasting_15 ?_
  refine g_aload_n dX9_foldLasting_16 rfl ?_
  refine g_getr dX9_foldLasting_17 k_X9_36 rfl (by decide) rfl rfl ?_
  refine g_iconst (v := 0) dX9_foldLasting_20 (by decide) ?_
  refine g_callV1 (M' := mX3_tell) (mc' := 0) (ms' := 0) dX9_foldLasting_21 l_X9_175 s_mX3_tell (by decide) rfl rfl f_mX3_tell (Nat.le_of_ble_eq_true rfl) (by decide) ((ct_ltell0 (hi := hf)).weaken (fun r h' z => (⟨by rw [z.1, h47]; rfl, z.2⟩ : r = some (.int (ltV (lsF (vw hi 3 N) N F K) 0)) ∧ h' = (hf, hl, RT)))) ?_
  rintro _ _ ⟨rfl, rfl⟩
  refine g_i2l dX9_foldLasting_24 ?_
  refine g_ladd dX9_foldLasting_25 ?_
  refine g_lstore_n dX9_foldLasting_26 (by decide) rfl rfl ?_
  refine g_ldc2 dX9_foldLasting_27 c_X9_255 ?_
  refine g_lload_n dX9_foldLasting_30 rfl ?_
  refine g_lmul dX9_foldLasting_31 ?_
  refine g_aload_n dX9_foldLasting_32 rfl ?_
  refine g_getr dX9_foldLasting_33 k_X9_36 rfl (by decide) rfl rfl ?_
  refine g_iconst (v := 1) dX9_foldLasting_36 (by decide) ?_
  refine g_callV1 (M' := mX3_tell) (mc' := 0) (ms' := 0) dX9_foldLasting_37 l_X9_175 s_mX3_tell (by decide) rfl rfl f_mX3_tell (Nat.le_of_ble_eq_true rfl) (by decide) ((ct_ltell1 (hi := hf)).weaken (fun r h' z => (⟨by rw [z.1]; exact congrArg (fun x => some (Value.int x)) (cntB_congr (fun i hi4 => by rw [h52 i hi4])), z.2⟩ : r = some (.int (ltV (lsF (vw hi 3 N) N F K) 1)) ∧ h' = (hf, hl, RT)))) ?_
  rintro _ _ ⟨rfl, rfl⟩
  refine g_i2l dX9_foldLasting_40 ?_
  refine g_ladd dX9_foldLasting_41 ?_
  refine g_lstore_n dX9_foldLasting_42 (by decide) rfl rfl ?_
  refine g_bipush (v := 10) dX9_foldLasting_43 (by decide) ?_
  refine g_istore dX9_foldLasting_45 (by decide) rfl rfl ?_
  exact g_mono (fun r h2 z => ⟨hf, K, z.1, z.2, DC.lx hlx hkv hb32, hrk⟩) (lp_foldL (hi := hi) h52 4 0 _ (by omega) rfl)

def abI (x : Int32) : Int32 := if 0 ≤ x then x else 0 - x
def snC (v : VV) (N F : Nat) : Nat → Int64 → Int64 × Int32 × Int32
  | 0, s => (s, 0, 0)
  | n + 1, s => (dNext (dNext (snC v N F n s).1),
    if (vLikes v (dPick (dNext (snC v N F n s).1) (nI F)).toNatClampNeg (F + (dPick (dNext (dNext (snC v N F n s).1)) (nI (N - F))).toNatClampNeg) && vLikes v (F + (dPick (dNext (dNext (snC v N F n s).1)) (nI (N - F))).toNatClampNeg) (dPick (dNext (snC v N F n s).1) (nI F)).toNatClampNeg) = true then
      ((snC v N F n s).2.1 + 1, (snC v N F n s).2.2 + abI (v 4 (dPick (dNext (snC v N F n s).1) (nI F)).toNatClampNeg - v 4 (F + (dPick (dNext (dNext (snC v N F n s).1)) (nI (N - F))).toNatClampNeg)))
    else ((snC v N F n s).2.1, (snC v N F n s).2.2))
theorem snC_s {v : VV} {N F n p e : Nat} {s : Int64} (hp : dPick (dNext (snC v N F n s).1) (nI F) = nI p) (he : dPick (dNext (dNext (snC v N F n s).1)) (nI (N - F)) = nI e) (hp8 : p < 8) (he8 : e < 8) : snC v N F (n + 1) s = (dNext (dNext (snC v N F n s).1), if (vLikes v p (F + e) && vLikes v (F + e) p) = true then ((snC v N F n s).2.1 + 1, (snC v N F n s).2.2 + abI (v 4 p - v 4 (F + e))) else ((snC v N F n s).2.1, (snC v N F n s).2.2)) := by
  rw [snC, hp, he, nI_clamp (n := p) (by omega), nI_clamp (n := e) (by omega)]

set_option maxRecDepth 100000 in
set_option maxHeartbeats 4000000 in
theorem lp_cseasons (hkv : KV hi) {N F : Nat} (hN8 : N ≤ 8) (hF0 : 0 < F) (hFN1 : F < N) (hN : hi 3 3 = nI N) (hF : hi 3 2 = nI F) {T : Nat} (hT : T ≤ 100) {sd w : Int32} (hw : w = 0 ∨ w = 1 ∨ w = 2) {s0 : Int64} : ∀ (n k : Nat) (nw : Int64) (o a : Int32) (l9 l10 : Option Value), k + n = T → nw = (snC (vw hi 3 N) N F k s0).1 → o = (snC (vw hi 3 N) N F k s0).2.1 → a = (snC (vw hi 3 N) N F k s0).2.2 → G E l 4 mX9_seasons 52 [some (.ref 0), some (.int (nI T)), some (.int sd), some (.int w), some (.long nw), none, some (.int o), some (.int a), some (.int (nI k)), l9, l10] [] 83 (hi, hl, RT) 0 0 (fun r h' => r = some (.int (if w = 0 then (snC (vw hi 3 N) N F T s0).2.1 else if w = 1 then (snC (vw hi 3 N) N F T s0).2.2 else (snC (vw hi 3 N) N F T s0).1.toInt32)) ∧ h' = (hi, hl, RT)) := by
  intro n
  induction n with
  | zero =>
    intro k nw o a l9 l10 hkn hs ho ha
    have hkT : k = T := by omega
    refine g_iload dX9_seasons_52 rfl ?_
    refine g_iload_n dX9_seasons_54 rfl ?_
    refine g_icmpge 180 dX9_seasons_55 (by decide) (fun c55 => ?_) (fun c55 => ?_)
    · skip
      refine g_iload_n dX9_seasons_180 rfl ?_
      refine g_iconst (v := 2) dX9_seasons_181 (by decide) ?_
      refine g_icmpne 189 dX9_seasons_182 (by decide) (fun c182 => ?_) (fun c182 => ?_)
      · skip
        refine g_iload_n dX9_seasons_189 rfl ?_
        refine g_ifne 198 dX9_seasons_190 (by decide) (fun c190 => ?_) (fun c190 => ?_)
        · skip
          refine g_iload dX9_seasons_198 rfl ?_
          exact g_ireturn dX9_seasons_200 rfl rfl ⟨by rw [if_neg c190, if_pos ((hw.resolve_left c190).resolve_right c182), ha, hkT], rfl⟩
        · skip
          refine g_iload dX9_seasons_193 rfl ?_
          refine g_goto 200 dX9_seasons_195 (by decide) ?_
          exact g_ireturn dX9_seasons_200 rfl rfl ⟨by rw [if_pos c190, ho, hkT], rfl⟩
      · skip
        refine g_lload dX9_seasons_185 rfl ?_
        refine g_l2i dX9_seasons_187 ?_
        exact g_ireturn dX9_seasons_188 rfl rfl ⟨by rw [if_neg (by rw [c182]; decide), if_neg (by rw [c182]; decide), hs, hkT], rfl⟩
    · skip
      exact absurd (nI_le (by omega) (by omega)) c55
  | succ n ih =>
    intro k nw o a l9 l10 hkn hs ho ha
    obtain ⟨p, hpF, hp⟩ := dPick_ok nw hF0 (by omega)
    obtain ⟨e, heN, he⟩ := dPick_ok (dNext nw) (A := N - F) (by omega) (by omega)
    have hst := snC_s (v := vw hi 3 N) (N := N) (F := F) (n := k) (s := s0) (p := p) (e := e) (by rw [← hs]; exact hp) (by rw [← hs]; exact he) (by omega) (by omega)
    have hpN : p < N := by omega
    have heN2 : F + e < N := by omega
    have hp8 : p < 8 := by omega
    have he8 : F + e < 8 := by omega
    have hXp := isC3.p hp8
    have hXe := isC3.p he8
    have ecp : (nI p).toNatClampNeg = p := nI_clamp (by omega)
    have ece : (nI (F + e)).toNatClampNeg = F + e := nI_clamp (by omega)
    have w4p : vw hi 3 N 4 p = hi (3 + 6 + p) 4 := vw_at hpN (by decide) (by decide)
    have w4e : vw hi 3 N 4 (F + e) = hi (3 + 6 + (F + e)) 4 := vw_at heN2 (by decide) (by decide)
    have l1 : vLikes (vw hi 3 N) p (F + e) = pLikes hi (3 + 6 + p) (3 + 6 + (F + e)) := w_likes hpN heN2
    have l2 : vLikes (vw hi 3 N) (F + e) p = pLikes hi (3 + 6 + (F + e)) (3 + 6 + p) := w_likes heN2 hpN
    have esub : nI N - nI F = nI (N - F) := pk_sub (by omega)
    have eadd : nI F + nI e = nI (F + e) := pk_add F e
    refine g_iload dX9_seasons_52 rfl ?_
    refine g_iload_n dX9_seasons_54 rfl ?_
    refine g_icmpge 180 dX9_seasons_55 (by decide) (fun c55 => ?_) (fun c55 => ?_)
    · skip
      exact absurd ((nI_leI (by omega) (by omega)).mp c55) (by omega)
    · skip
      refine g_lload dX9_seasons_58 rfl ?_
      refine g_callS1 (M' := mX1_next) (mc' := 0) (ms' := 0) dX9_seasons_60 l_X9_228 s_mX1_next f_mX1_next (Nat.le_of_ble_eq_true rfl) (by decide) (ct_next _) ?_
      rintro _ _ ⟨rfl, rfl⟩
      refine g_lstore dX9_seasons_63 (by decide) rfl rfl ?_
      refine g_aload_n dX9_seasons_65 rfl ?_
      refine g_getr dX9_seasons_66 k_X9_19 rfl (by decide) rfl rfl ?_
      refine g_getr dX9_seasons_69 k_X9_80 rfl (by decide) rfl isC3.people ?_
      refine g_lload dX9_seasons_72 rfl ?_
      refine g_aload_n dX9_seasons_74 rfl ?_
      refine g_getr dX9_seasons_75 k_X9_19 rfl (by decide) rfl rfl ?_
      refine g_geti dX9_seasons_78 k_X9_234 rfl (by decide) rfl ?_
      rw [show (hi, hl, RT).1 3 2 = nI F from hF]
      refine g_callS2 (M' := mX1_pick) (mc' := 0) (ms' := 0) dX9_seasons_81 l_X9_237 s_mX1_pick f_mX1_pick (Nat.le_of_ble_eq_true rfl) (by decide) ((ct_pick (dNext nw) (nI F)).weaken (fun r h' z => (⟨by rw [z.1, hp], z.2⟩ : r = some (.int (nI p)) ∧ h' = (hi, hl, RT)))) ?_
      rintro _ _ ⟨rfl, rfl⟩
      refine g_aald dX9_seasons_84 isC3.a1.1 isC3.a1.2 rfl hp8 (by decide) (isC3.rp hp8) ?_
      refine g_astore dX9_seasons_85 (by decide) rfl rfl ?_
      refine g_lload dX9_seasons_87 rfl ?_
      refine g_callS1 (M' := mX1_next) (mc' := 0) (ms' := 0) dX9_seasons_89 l_X9_228 s_mX1_next f_mX1_next (Nat.le_of_ble_eq_true rfl) (by decide) (ct_next _) ?_
      rintro _ _ ⟨rfl, rfl⟩
      refine g_lstore dX9_seasons_92 (by decide) rfl rfl ?_
      refine g_aload_n dX9_seasons_94 rfl ?_
      refine g_getr dX9_seasons_95 k_X9_19 rfl (by decide) rfl rfl ?_
      refine g_getr dX9_seasons_98 k_X9_80 rfl (by decide) rfl isC3.people ?_
      refine g_aload_n dX9_seasons_101 rfl ?_
      refine g_getr dX9_seasons_102 k_X9_19 rfl (by decide) rfl rfl ?_
      refine g_geti dX9_seasons_105 k_X9_234 rfl (by decide) rfl ?_
      refine g_lload dX9_seasons_108 rfl ?_
      refine g_aload_n dX9_seasons_110 rfl ?_
      refine g_getr dX9_seasons_111 k_X9_19 rfl (by decide) rfl rfl ?_
      refine g_geti dX9_seasons_114 k_X9_74 rfl (by decide) rfl ?_
      refine g_aload_n dX9_seasons_117 rfl ?_
      refine g_getr dX9_seasons_118 k_X9_19 rfl (by decide) rfl rfl ?_
      refine g_geti dX9_seasons_121 k_X9_234 rfl (by decide) rfl ?_
      rw [show (hi, hl, RT).1 3 2 = nI F from hF, show (hi, hl, RT).1 3 3 = nI N from hN]
      refine g_isub dX9_seasons_124 ?_
      rw [esub]
      refine g_callS2 (M' := mX1_pick) (mc' := 0) (ms' := 0) dX9_seasons_125 l_X9_237 s_mX1_pick f_mX1_pick (Nat.le_of_ble_eq_true rfl) (by decide) ((ct_pick (dNext (dNext nw)) (nI (N - F))).weaken (fun r h' z => (⟨by rw [z.1, he], z.2⟩ : r = some (.int (nI e)) ∧ h' = (hi, hl, RT)))) ?_
      rintro _ _ ⟨rfl, rfl⟩
      refine g_iadd dX9_seasons_128 ?_
      rw [eadd]
      refine g_aald dX9_seasons_129 isC3.a1.1 isC3.a1.2 rfl he8 (by decide) (isC3.rp he8) ?_
      refine g_astore dX9_seasons_130 (by decide) rfl rfl ?_
      refine g_aload dX9_seasons_132 rfl ?_
      refine g_aload dX9_seasons_134 rfl ?_
      refine g_callV1 (M' := mX5_likes) (mc' := 0) (ms' := 0) dX9_seasons_136 l_X9_241 s_mX5_likes hXp.1 hXp.2 rfl f_mX5_likes (Nat.le_of_ble_eq_true rfl) (by decide) (ct_likes hkv hXp hXe) ?_
      rintro _ _ ⟨rfl, rfl⟩
      refine g_ifeq 174 dX9_seasons_139 (by decide) (fun c139 => ?_) (fun c139 => ?_)
      · skip
        refine g_iinc dX9_seasons_174 rfl (nI_inc k) (by decide) rfl rfl ?_
        refine g_goto 52 dX9_seasons_177 (by decide) ?_
        rw [if_neg (by rw [l1, bI_0.mp c139]; simp)] at hst
        exact ih (k + 1) _ _ _ _ _ (by omega) (by rw [hst, ← hs]) (by rw [hst, ho]) (by rw [hst, ha])
      · skip
        refine g_aload dX9_seasons_142 rfl ?_
        refine g_aload dX9_seasons_144 rfl ?_
        refine g_callV1 (M' := mX5_likes) (mc' := 0) (ms' := 0) dX9_seasons_146 l_X9_241 s_mX5_likes hXe.1 hXe.2 rfl f_mX5_likes (Nat.le_of_ble_eq_true rfl) (by decide) (ct_likes hkv hXe hXp) ?_
        rintro _ _ ⟨rfl, rfl⟩
        refine g_ifeq 174 dX9_seasons_149 (by decide) (fun c149 => ?_) (fun c149 => ?_)
        · skip
          refine g_iinc dX9_seasons_174 rfl (nI_inc k) (by decide) rfl rfl ?_
          refine g_goto 52 dX9_seasons_177 (by decide) ?_
          rw [if_neg (by rw [l2, bI_0.mp c149]; simp)] at hst
          exact ih (k + 1) _ _ _ _ _ (by omega) (by rw [hst, ← hs]) (by rw [hst, ho]) (by rw [hst, ha])
        · skip
          refine g_iinc dX9_seasons_152 rfl rfl (by decide) rfl rfl ?_
          refine g_iload dX9_seasons_155 rfl ?_
          refine g_aload dX9_seasons_157 rfl ?_
          refine g_geti dX9_seasons_159 k_X9_156 rfl hXp.1 hXp.2 ?_
          refine g_aload dX9_seasons_162 rfl ?_
          refine g_geti dX9_seasons_164 k_X9_156 rfl hXe.1 hXe.2 ?_
          refine g_isub dX9_seasons_167 ?_
          refine g_mabs dX9_seasons_168 l_X9_244 (by decide) (Nat.le_of_ble_eq_true rfl) ?_
          refine g_iadd dX9_seasons_171 ?_
          refine g_istore dX9_seasons_172 (by decide) rfl rfl ?_
          refine g_iinc dX9_seasons_174 rfl (nI_inc k) (by decide) rfl rfl ?_
          refine g_goto 52 dX9_seasons_177 (by decide) ?_
          rw [if_pos (by rw [l1, l2, bI_n.mp c139, bI_n.mp c149]; rfl)] at hst
          exact ih (k + 1) _ _ _ _ _ (by omega) (by rw [hst, ← hs]) (by rw [hst, ho]; rfl) (by rw [hst, ha, w4p, w4e]; rfl)

set_option maxRecDepth 100000 in
set_option maxHeartbeats 4000000 in
theorem ct_seasonsX1 (x y z : Int32) (hx : (!decide (x < 1) && !decide (60 < x)) = false) : MC E l 3 mX9_seasons [.ref 0, .int (x), .int (y), .int (z)] 83 (hi, hl, RT) 0 0 (fun r h' => r = some (.int (-102)) ∧ h' = (hi, hl, RT)) := by
  refine MC.of [some (.ref 0), some (.int (x)), some (.int (y)), some (.int (z)), none, none, none, none, none, none, none] (by decide) rfl (Nat.le_of_ble_eq_true rfl) ?_
  refine g_iload_n dX9_seasons_0 rfl ?_
  refine g_iconst (v := 1) dX9_seasons_1 (by decide) ?_
  refine g_bipush (v := 60) dX9_seasons_2 (by decide) ?_
  refine g_callS3 (M' := mX9_isWithin) (mc' := 0) (ms' := 0) dX9_seasons_4 l_X9_40 s_mX9_isWithin f_mX9_isWithin (Nat.le_of_ble_eq_true rfl) (by decide) (ct_withinB (t := false) hx) ?_
  rintro _ _ ⟨rfl, rfl⟩
  refine g_ifeq 23 dX9_seasons_7 (by decide) (fun _ => ?_) (fun c => absurd c (by decide))
  refine g_bipush (v := -102) dX9_seasons_23 (by decide) ?_
  exact g_ireturn dX9_seasons_25 rfl rfl ⟨rfl, rfl⟩

set_option maxRecDepth 100000 in
set_option maxHeartbeats 4000000 in
theorem ct_seasonsX2 (x y z : Int32) (hx : (!decide (x < 1) && !decide (60 < x)) = true) (hy : y < 0) : MC E l 3 mX9_seasons [.ref 0, .int (x), .int (y), .int (z)] 83 (hi, hl, RT) 0 0 (fun r h' => r = some (.int (-102)) ∧ h' = (hi, hl, RT)) := by
  refine MC.of [some (.ref 0), some (.int (x)), some (.int (y)), some (.int (z)), none, none, none, none, none, none, none] (by decide) rfl (Nat.le_of_ble_eq_true rfl) ?_
  refine g_iload_n dX9_seasons_0 rfl ?_
  refine g_iconst (v := 1) dX9_seasons_1 (by decide) ?_
  refine g_bipush (v := 60) dX9_seasons_2 (by decide) ?_
  refine g_callS3 (M' := mX9_isWithin) (mc' := 0) (ms' := 0) dX9_seasons_4 l_X9_40 s_mX9_isWithin f_mX9_isWithin (Nat.le_of_ble_eq_true rfl) (by decide) (ct_withinB (t := true) hx) ?_
  rintro _ _ ⟨rfl, rfl⟩
  refine g_ifeq 23 dX9_seasons_7 (by decide) (fun c => absurd c (by decide)) (fun _ => ?_)
  refine g_iload_n dX9_seasons_10 rfl ?_
  refine g_iflt 23 dX9_seasons_11 (by decide) (fun c11 => ?_) (fun c11 => ?_)
  · skip
    refine g_bipush (v := -102) dX9_seasons_23 (by decide) ?_
    exact g_ireturn dX9_seasons_25 rfl rfl ⟨rfl, rfl⟩
  · skip
    exact absurd hy c11

set_option maxRecDepth 100000 in
set_option maxHeartbeats 4000000 in
theorem ct_seasonsX3 (x y z : Int32) (hx : (!decide (x < 1) && !decide (60 < x)) = true) (hy : ¬ y < 0) (hz : (!decide (z < 0) && !decide (2 < z)) = false) : MC E l 3 mX9_seasons [.ref 0, .int (x), .int (y), .int (z)] 83 (hi, hl, RT) 0 0 (fun r h' => r = some (.int (-102)) ∧ h' = (hi, hl, RT)) := by
  refine MC.of [some (.ref 0), some (.int (x)), some (.int (y)), some (.int (z)), none, none, none, none, none, none, none] (by decide) rfl (Nat.le_of_ble_eq_true rfl) ?_
  refine g_iload_n dX9_seasons_0 rfl ?_
  refine g_iconst (v := 1) dX9_seasons_1 (by decide) ?_
  refine g_bipush (v := 60) dX9_seasons_2 (by decide) ?_
  refine g_callS3 (M' := mX9_isWithin) (mc' := 0) (ms' := 0) dX9_seasons_4 l_X9_40 s_mX9_isWithin f_mX9_isWithin (Nat.le_of_ble_eq_true rfl) (by decide) (ct_withinB (t := true) hx) ?_
  rintro _ _ ⟨rfl, rfl⟩
  refine g_ifeq 23 dX9_seasons_7 (by decide) (fun c => absurd c (by decide)) (fun _ => ?_)
  refine g_iload_n dX9_seasons_10 rfl ?_
  refine g_iflt 23 dX9_seasons_11 (by decide) (fun c11 => ?_) (fun c11 => ?_)
  · skip
    exact absurd c11 hy
  · skip
    refine g_iload_n dX9_seasons_14 rfl ?_
    refine g_iconst (v := 0) dX9_seasons_15 (by decide) ?_
    refine g_iconst (v := 2) dX9_seasons_16 (by decide) ?_
    refine g_callS3 (M' := mX9_isWithin) (mc' := 0) (ms' := 0) dX9_seasons_17 l_X9_40 s_mX9_isWithin f_mX9_isWithin (Nat.le_of_ble_eq_true rfl) (by decide) (ct_withinB (t := false) hz) ?_
    rintro _ _ ⟨rfl, rfl⟩
    refine g_ifne 26 dX9_seasons_20 (by decide) (fun c => absurd c (by decide)) (fun _ => ?_)
    refine g_bipush (v := -102) dX9_seasons_23 (by decide) ?_
    exact g_ireturn dX9_seasons_25 rfl rfl ⟨rfl, rfl⟩

set_option maxRecDepth 100000 in
set_option maxHeartbeats 4000000 in
theorem ct_seasonsE (x y z : Int32) (hx : (!decide (x < 1) && !decide (60 < x)) = true) (hy : ¬ y < 0) (hz : (!decide (z < 0) && !decide (2 < z)) = true) (hE : hi 3 3 = 0) : MC E l 3 mX9_seasons [.ref 0, .int (x), .int (y), .int (z)] 83 (hi, hl, RT) 0 0 (fun r h' => r = some (.int (-103)) ∧ h' = (hi, hl, RT)) := by
  refine MC.of [some (.ref 0), some (.int (x)), some (.int (y)), some (.int (z)), none, none, none, none, none, none, none] (by decide) rfl (Nat.le_of_ble_eq_true rfl) ?_
  refine g_iload_n dX9_seasons_0 rfl ?_
  refine g_iconst (v := 1) dX9_seasons_1 (by decide) ?_
  refine g_bipush (v := 60) dX9_seasons_2 (by decide) ?_
  refine g_callS3 (M' := mX9_isWithin) (mc' := 0) (ms' := 0) dX9_seasons_4 l_X9_40 s_mX9_isWithin f_mX9_isWithin (Nat.le_of_ble_eq_true rfl) (by decide) (ct_withinB (t := true) hx) ?_
  rintro _ _ ⟨rfl, rfl⟩
  refine g_ifeq 23 dX9_seasons_7 (by decide) (fun c => absurd c (by decide)) (fun _ => ?_)
  refine g_iload_n dX9_seasons_10 rfl ?_
  refine g_iflt 23 dX9_seasons_11 (by decide) (fun c11 => ?_) (fun c11 => ?_)
  · skip
    exact absurd c11 hy
  · skip
    refine g_iload_n dX9_seasons_14 rfl ?_
    refine g_iconst (v := 0) dX9_seasons_15 (by decide) ?_
    refine g_iconst (v := 2) dX9_seasons_16 (by decide) ?_
    refine g_callS3 (M' := mX9_isWithin) (mc' := 0) (ms' := 0) dX9_seasons_17 l_X9_40 s_mX9_isWithin f_mX9_isWithin (Nat.le_of_ble_eq_true rfl) (by decide) (ct_withinB (t := true) hz) ?_
    rintro _ _ ⟨rfl, rfl⟩
    refine g_ifne 26 dX9_seasons_20 (by decide) (fun _ => ?_) (fun c => absurd c (by decide))
    refine g_aload_n dX9_seasons_26 rfl ?_
    refine g_getr dX9_seasons_27 k_X9_19 rfl (by decide) rfl rfl ?_
    refine g_callV0 (M' := mX0_isEmpty) (mc' := 0) (ms' := 0) dX9_seasons_30 l_X9_111 s_mX0_isEmpty (by decide) rfl rfl f_mX0_isEmpty (Nat.le_of_ble_eq_true rfl) (by decide) (ct_emptyY isC3 hE) ?_
    rintro _ _ ⟨rfl, rfl⟩
    refine g_ifeq 39 dX9_seasons_33 (by decide) (fun c => absurd c (by decide)) (fun _ => ?_)
    refine g_bipush (v := -103) dX9_seasons_36 (by decide) ?_
    exact g_ireturn dX9_seasons_38 rfl rfl ⟨rfl, rfl⟩

theorem w2_of {z : Int32} (h : (!decide (z < 0) && !decide (2 < z)) = true) : z = 0 ∨ z = 1 ∨ z = 2 := by
  have h1 : ¬ z < 0 := by intro q; simp [q] at h
  have h2 : ¬ 2 < z := by intro q; simp [q] at h
  obtain ⟨k, hk, rfl⟩ := nI_of h1
  have : k ≤ 2 := Nat.le_of_not_lt (fun q => h2 (nI_lt (a := 2) q hk))
  have : k = 0 ∨ k = 1 ∨ k = 2 := by omega
  rcases this with rfl | rfl | rfl
  · exact Or.inl rfl
  · exact Or.inr (Or.inl rfl)
  · exact Or.inr (Or.inr rfl)

set_option maxRecDepth 100000 in
set_option maxHeartbeats 4000000 in
theorem ct_seasons (hkv : KV hi) {N F : Nat} (hN8 : N ≤ 8) (hF0 : 0 < F) (hFN1 : F < N) (hN : hi 3 3 = nI N) (hF : hi 3 2 = nI F) {T : Nat} (hT : T ≤ 100) (y z : Int32) (hx : (!decide (nI T < 1) && !decide (60 < nI T)) = true) (hy : ¬ y < 0) (hz : (!decide (z < 0) && !decide (2 < z)) = true) : MC E l 4 mX9_seasons [.ref 0, .int (nI T), .int (y), .int (z)] 83 (hi, hl, RT) 0 0 (fun r h' => r = some (.int (if z = 0 then (snC (vw hi 3 N) N F T y.toInt64).2.1 else if z = 1 then (snC (vw hi 3 N) N F T y.toInt64).2.2 else (snC (vw hi 3 N) N F T y.toInt64).1.toInt32)) ∧ h' = (hi, hl, RT)) := by
  refine MC.of [some (.ref 0), some (.int (nI T)), some (.int (y)), some (.int (z)), none, none, none, none, none, none, none] (by decide) rfl (Nat.le_of_ble_eq_true rfl) ?_
  have hE : 0 < N := by omega
  refine g_iload_n dX9_seasons_0 rfl ?_
  refine g_iconst (v := 1) dX9_seasons_1 (by decide) ?_
  refine g_bipush (v := 60) dX9_seasons_2 (by decide) ?_
  refine g_callS3 (M' := mX9_isWithin) (mc' := 0) (ms' := 0) dX9_seasons_4 l_X9_40 s_mX9_isWithin f_mX9_isWithin (Nat.le_of_ble_eq_true rfl) (by decide) (ct_withinB (t := true) hx) ?_
  rintro _ _ ⟨rfl, rfl⟩
  refine g_ifeq 23 dX9_seasons_7 (by decide) (fun c => absurd c (by decide)) (fun _ => ?_)
  refine g_iload_n dX9_seasons_10 rfl ?_
  refine g_iflt 23 dX9_seasons_11 (by decide) (fun c11 => ?_) (fun c11 => ?_)
  · skip
    exact absurd c11 hy
  · skip
    refine g_iload_n dX9_seasons_14 rfl ?_
    refine g_iconst (v := 0) dX9_seasons_15 (by decide) ?_
    refine g_iconst (v := 2) dX9_seasons_16 (by decide) ?_
    refine g_callS3 (M' := mX9_isWithin) (mc' := 0) (ms' := 0) dX9_seasons_17 l_X9_40 s_mX9_isWithin f_mX9_isWithin (Nat.le_of_ble_eq_true rfl) (by decide) (ct_withinB (t := true) hz) ?_
    rintro _ _ ⟨rfl, rfl⟩
    refine g_ifne 26 dX9_seasons_20 (by decide) (fun _ => ?_) (fun c => absurd c (by decide))
    refine g_aload_n dX9_seasons_26 rfl ?_
    refine g_getr dX9_seasons_27 k_X9_19 rfl (by decide) rfl rfl ?_
    refine g_callV0 (M' := mX0_isEmpty) (mc' := 0) (ms' := 0) dX9_seasons_30 l_X9_111 s_mX0_isEmpty (by decide) rfl rfl f_mX0_isEmpty (Nat.le_of_ble_eq_true rfl) (by decide) (ct_emptyN isC3 hN8 hN hE) ?_
    rintro _ _ ⟨rfl, rfl⟩
    refine g_ifeq 39 dX9_seasons_33 (by decide) (fun _ => ?_) (fun c => absurd c (by decide))
    refine g_iload_n dX9_seasons_39 rfl ?_
    refine g_i2l dX9_seasons_40 ?_
    refine g_lstore dX9_seasons_41 (by decide) rfl rfl ?_
    refine g_iconst (v := 0) dX9_seasons_43 (by decide) ?_
    refine g_istore dX9_seasons_44 (by decide) rfl rfl ?_
    refine g_iconst (v := 0) dX9_seasons_46 (by decide) ?_
    refine g_istore dX9_seasons_47 (by decide) rfl rfl ?_
    refine g_iconst (v := 0) dX9_seasons_49 (by decide) ?_
    refine g_istore dX9_seasons_50 (by decide) rfl rfl ?_
    exact lp_cseasons hkv hN8 hF0 hFN1 hN hF hT (w2_of hz) T 0 _ 0 0 none none (by omega) rfl rfl rfl

def ctC (hi : Nat → Nat → Int32) (N F S : Nat) (k : Nat) : Int32 := if k = 13 then hi 1 1 else if k = 14 then hi 0 6 else tellN hi 3 N F S k
theorem tell_congr {f g : Nat → Nat → Int32} {N F S : Nat} (hN : N ≤ 8) (hF : F ≤ 8) (h : ∀ a k, 3 ≤ a → a < 17 → g a k = f a k) {k : Nat} (hk : k < 13) : tellN g 3 N F S k = tellN f 3 N F S k := by
  have hp : ∀ j, j < 8 → ∀ t, g (3 + 6 + j) t = f (3 + 6 + j) t := fun j hj t => h _ _ (by omega) (by omega)
  have hm : ∀ i, i < 8 → ∀ j, j < 8 → pMatch g (3 + 6 + i) (3 + 6 + j) = pMatch f (3 + 6 + i) (3 + 6 + j) := fun i hi j hj => by
    unfold pMatch pWent
    rw [hp i hi, hp j hj, hp i hi, hp j hj]
  have ht : ∀ i, i < 8 → pTaken g (3 + 6 + i) = pTaken f (3 + 6 + i) := fun i hi => by
    unfold pTaken
    rw [hp i hi]
  have hg : ∀ i, i < 8 → pGone g (3 + 6 + i) = pGone f (3 + 6 + i) := fun i hi => by
    unfold pGone
    rw [hp i hi]
  match k, hk with
  | 0, _ => exact h 3 2 (by omega) (by omega)
  | 1, _ => show g 3 3 - g 3 2 = _; rw [h 3 2 (by omega) (by omega), h 3 3 (by omega) (by omega)]; rfl
  | 2, _ => exact cntB_congr (fun i hi => by unfold pFree; rw [ht i (by omega), hg i (by omega)])
  | 3, _ => exact cntB_congr (fun i hi => ht i (by omega))
  | 4, _ => exact cntB_congr (fun i hi => hg i (by omega))
  | 5, _ => exact sumI_congr (fun i hi => by rw [ht i (by omega), hp i (by omega), orB_congr (fun j hj => ⟨hm i (by omega) j (by omega), hp j (by omega) 1⟩)])
  | 6, _ => exact h 3 8 (by omega) (by omega)
  | 7, _ => exact h 3 9 (by omega) (by omega)
  | 8, _ => exact h 3 4 (by omega) (by omega)
  | 9, _ => exact h 3 5 (by omega) (by omega)
  | 10, _ => exact h 3 6 (by omega) (by omega)
  | 11, _ => exact h 3 7 (by omega) (by omega)
  | 12, _ => exact h 5 3 (by omega) (by omega)

set_option maxRecDepth 100000 in
set_option maxHeartbeats 4000000 in
theorem lp_cgIn (hkv : KV hi) {N : Nat} (hN8 : N ≤ 8) (hN : hi 3 3 = nI N) {S : Nat} (hS8 : S ≤ 8) (hS : hi (3 + 2) 3 = nI S) {i : Nat} (hi1 : i < N) {h0 : Int64} {Q : Option Value → XH → Prop} (hk : ∀ l4, xcat2 l4 = false → G E l 12 mX9_digest 48 [some (.ref 0), some (.long (mxF ((fun p k => tofN hi 3 N S (3 + 6 + p) k) i) 15 h0)), none, some (.int (nI i)), l4] [] 83 (hi, hl, RT) 0 0 Q) : ∀ (n k : Nat) (h : Int64), k + n = 15 → h = mxF ((fun p k => tofN hi 3 N S (3 + 6 + p) k) i) k h0 → G E l 12 mX9_digest 20 [some (.ref 0), some (.long h), none, some (.int (nI i)), some (.int (nI k))] [] 83 (hi, hl, RT) 0 0 Q := by
  intro n
  induction n with
  | zero =>
    intro k h hkn hh
    have hk15 : k = 15 := by omega
    subst hk15
    subst hh
    refine g_iload dX9_digest_20 rfl ?_
    refine g_bipush (v := 14) dX9_digest_22 (by decide) ?_
    refine g_icmpgt 48 dX9_digest_24 (by decide) (fun c24 => ?_) (fun c24 => ?_)
    · skip
      exact hk _ rfl
    · skip
      exact absurd (by decide) c24
  | succ n ih =>
    intro k h hkn hh
    refine g_iload dX9_digest_20 rfl ?_
    refine g_bipush (v := 14) dX9_digest_22 (by decide) ?_
    refine g_icmpgt 48 dX9_digest_24 (by decide) (fun c24 => ?_) (fun c24 => ?_)
    · skip
      exact absurd ((nI_ltI (a := 14) (by decide) (by omega)).mp c24) (by omega)
    · skip
      refine g_ldc2 dX9_digest_27 c_X9_255 ?_
      refine g_lload_n dX9_digest_30 rfl ?_
      refine g_lmul dX9_digest_31 ?_
      refine g_aload_n dX9_digest_32 rfl ?_
      refine g_iload_n dX9_digest_33 rfl ?_
      refine g_iload dX9_digest_34 rfl ?_
      refine g_callV2 (M' := mX9_person) (mc' := 0) (ms' := 0) dX9_digest_36 l_X9_257 s_mX9_person (by decide) rfl rfl f_mX9_person (Nat.le_of_ble_eq_true rfl) (by decide) (ct_person hkv hN8 hN hS8 hS hi1 k (by omega)) ?_
      rintro _ _ ⟨rfl, rfl⟩
      refine g_i2l dX9_digest_39 ?_
      refine g_ladd dX9_digest_40 ?_
      refine g_lstore_n dX9_digest_41 (by decide) rfl rfl ?_
      refine g_iinc dX9_digest_42 rfl (nI_inc k) (by decide) rfl rfl ?_
      refine g_goto 20 dX9_digest_45 (by decide) ?_
      exact ih (k + 1) _ (by omega) (by rw [hh]; rfl)

set_option maxRecDepth 100000 in
set_option maxHeartbeats 4000000 in
theorem lp_cgP (hkv : KV hi) {N : Nat} (hN8 : N ≤ 8) (hN : hi 3 3 = nI N) {S : Nat} (hS8 : S ≤ 8) (hS : hi (3 + 2) 3 = nI S) {h0 : Int64} {Q : Option Value → XH → Prop} (hk : ∀ l3 l4, xcat2 l3 = false → xcat2 l4 = false → G E l 12 mX9_digest 54 [some (.ref 0), some (.long (mxP (fun p k => tofN hi 3 N S (3 + 6 + p) k) N h0)), none, l3, l4] [] 83 (hi, hl, RT) 0 0 Q) : ∀ (n i : Nat) (h : Int64) (l4 : Option Value), i + n = N → xcat2 l4 = false → h = mxP (fun p k => tofN hi 3 N S (3 + 6 + p) k) i h0 → G E l 12 mX9_digest 6 [some (.ref 0), some (.long h), none, some (.int (nI i)), l4] [] 83 (hi, hl, RT) 0 0 Q := by
  intro n
  induction n with
  | zero =>
    intro i h l4 hin hx hh
    have hiN : i = N := by omega
    rw [hiN] at hh
    subst hh
    refine g_iload_n dX9_digest_6 rfl ?_
    refine g_aload_n dX9_digest_7 rfl ?_
    refine g_getr dX9_digest_8 k_X9_19 rfl (by decide) rfl rfl ?_
    refine g_geti dX9_digest_11 k_X9_74 rfl (by decide) rfl ?_
    refine g_icmpge 54 dX9_digest_14 (by decide) (fun c14 => ?_) (fun c14 => ?_)
    · skip
      exact hk _ _ rfl hx
    · skip
      exact absurd (by show hi 3 3 ≤ nI i; rw [hN, hiN]; exact nI_le (Nat.le_refl _) (by omega)) c14
  | succ n ih =>
    intro i h l4 hin hx hh
    have hlt : i < N := by omega
    refine g_iload_n dX9_digest_6 rfl ?_
    refine g_aload_n dX9_digest_7 rfl ?_
    refine g_getr dX9_digest_8 k_X9_19 rfl (by decide) rfl rfl ?_
    refine g_geti dX9_digest_11 k_X9_74 rfl (by decide) rfl ?_
    refine g_icmpge 54 dX9_digest_14 (by decide) (fun c14 => ?_) (fun c14 => ?_)
    · skip
      exact absurd (ge_out hN c14 (by omega) (by omega)) (by omega)
    · skip
      refine g_iconst (v := 0) dX9_digest_17 (by decide) ?_
      refine g_istore dX9_digest_18 (by decide) rfl rfl ?_
      refine lp_cgIn hkv hN8 hN hS8 hS hlt (h0 := h) (fun l5 hx5 => ?_) 15 0 h (by omega) rfl
      refine g_iinc dX9_digest_48 rfl (nI_inc i) (by decide) rfl rfl ?_
      refine g_goto 6 dX9_digest_51 (by decide) ?_
      exact ih (i + 1) _ _ (by omega) hx5 (by rw [hh]; rfl)

set_option maxRecDepth 100000 in
set_option maxHeartbeats 4000000 in
theorem lp_cgC (hkv : KV hi) {N F : Nat} (hN8 : N ≤ 8) (hF8 : F ≤ 8) (hN : hi 3 3 = nI N) (hF : hi 3 2 = nI F) (S : Nat) {g : Nat → Nat → Int32} (hdc : DC hi g) {h0 : Int64} {l4 : Option Value} : ∀ (n k : Nat) (h : Int64), k + n = 15 → h = mxF (ctC hi N F S) k h0 → G E l 12 mX9_digest 164 [some (.ref 0), some (.long h), none, some (.int (nI k)), l4] [] 83 (g, hl, RT) 0 0 (fun r h' => r = some (.long (mxF (ctC hi N F S) 15 h0)) ∧ h' = (g, hl, RT)) := by
  intro n
  induction n with
  | zero =>
    intro k h hkn hh
    have hk15 : k = 15 := by omega
    subst hk15
    refine g_iload_n dX9_digest_164 rfl ?_
    refine g_bipush (v := 14) dX9_digest_165 (by decide) ?_
    refine g_icmpgt 189 dX9_digest_167 (by decide) (fun c167 => ?_) (fun c167 => ?_)
    · skip
      refine g_lload_n dX9_digest_189 rfl ?_
      exact g_lreturn dX9_digest_190 rfl ⟨by rw [hh], rfl⟩
    · skip
      exact absurd (by decide) c167
  | succ n ih =>
    intro k h hkn hh
    have hct : MC E l 8 mX9_count [.ref 0, .int (nI k)] 83 (g, hl, RT) 0 0 (fun r h' => r = some (.int (ctC hi N F S k)) ∧ h' = (g, hl, RT)) := by
      by_cases e13 : k = 13
      · subst e13
        exact (ct_count13).weaken (fun r h' z => ⟨by rw [z.1, hdc.1 1 1 (by omega)]; rfl, z.2⟩)
      · by_cases e14 : k = 14
        · subst e14
          exact (ct_count14).weaken (fun r h' z => ⟨by rw [z.1, hdc.1 0 6 (by omega)]; rfl, z.2⟩)
        · have e : ctC hi N F S k = tellN hi 3 N F S k := by rw [ctC, if_neg e13, if_neg e14]
          rw [e]
          exact (ct_count hdc.2.1 hN8 ((hdc.1 3 3 (by omega)).trans hN) hF8 ((hdc.1 3 2 (by omega)).trans hF) S k (by omega)).weaken (fun r h' z => ⟨by rw [z.1, tell_congr hN8 hF8 (fun a j _ _ => hdc.1 a j (by omega)) (by omega)], z.2⟩)
    refine g_iload_n dX9_digest_164 rfl ?_
    refine g_bipush (v := 14) dX9_digest_165 (by decide) ?_
    refine g_icmpgt 189 dX9_digest_167 (by decide) (fun c167 => ?_) (fun c167 => ?_)
    · skip
      exact absurd ((nI_ltI (a := 14) (by decide) (by omega)).mp c167) (by omega)
    · skip
      refine g_ldc2 dX9_digest_170 c_X9_255 ?_
      refine g_lload_n dX9_digest_173 rfl ?_
      refine g_lmul dX9_digest_174 ?_
      refine g_aload_n dX9_digest_175 rfl ?_
      refine g_iload_n dX9_digest_176 rfl ?_
      refine g_callV1 (M' := mX9_count) (mc' := 0) (ms' := 0) dX9_digest_177 l_X9_266 s_mX9_count (by decide) rfl rfl f_mX9_count (Nat.le_of_ble_eq_true rfl) (by decide) hct ?_
      rintro _ _ ⟨rfl, rfl⟩
      refine g_i2l dX9_digest_180 ?_
      refine g_ladd dX9_digest_181 ?_
      refine g_lstore_n dX9_digest_182 (by decide) rfl rfl ?_
      refine g_iinc dX9_digest_183 rfl (nI_inc k) (by decide) rfl rfl ?_
      refine g_goto 164 dX9_digest_186 (by decide) ?_
      exact ih (k + 1) _ (by omega) (by rw [hh]; rfl)

set_option maxRecDepth 100000 in
set_option maxHeartbeats 4000000 in
theorem lp_cgG (hkv : KV hi) {N F : Nat} (hN8 : N ≤ 8) (hF8 : F ≤ 8) (hN : hi 3 3 = nI N) (hF : hi 3 2 = nI F) (S : Nat) {L : Nat} (hL1 : L ≤ 41) (hL2 : hi 1 1 = nI L) {g : Nat → Nat → Int32} (hdc : DC hi g) {h0 : Int64} {l4 : Option Value} : ∀ (n k : Nat) (h : Int64), k + n = L → h = mxF (fun k => lAt hi (nI k)) k h0 → G E l 12 mX9_digest 129 [some (.ref 0), some (.long h), none, some (.int (nI k)), l4] [] 83 (g, hl, RT) 0 0 (fun r h' => r = some (.long (mxF (ctC hi N F S) 15 (mxF (fun k => lAt hi (nI k)) L h0))) ∧ h' = (g, hl, RT)) := by
  have hLg : g 1 1 = nI L := (hdc.1 1 1 (by omega)).trans hL2
  intro n
  induction n with
  | zero =>
    intro k h hkn hh
    have hkL : k = L := by omega
    rw [hkL] at hh
    refine g_iload_n dX9_digest_129 rfl ?_
    refine g_aload_n dX9_digest_130 rfl ?_
    refine g_getr dX9_digest_131 k_X9_12 rfl (by decide) rfl rfl ?_
    refine g_geti dX9_digest_134 k_X9_48 rfl (by decide) rfl ?_
    refine g_icmpge 162 dX9_digest_137 (by decide) (fun c137 => ?_) (fun c137 => ?_)
    · skip
      refine g_iconst (v := 0) dX9_digest_162 (by decide) ?_
      refine g_istore_n dX9_digest_163 (by decide) rfl rfl ?_
      subst hh
      exact lp_cgC hkv hN8 hF8 hN hF S hdc 15 0 _ (by omega) rfl
    · skip
      exact absurd (by show g 1 1 ≤ nI k; rw [hLg, hkL]; exact nI_le (Nat.le_refl _) (by omega)) c137
  | succ n ih =>
    intro k h hkn hh
    refine g_iload_n dX9_digest_129 rfl ?_
    refine g_aload_n dX9_digest_130 rfl ?_
    refine g_getr dX9_digest_131 k_X9_12 rfl (by decide) rfl rfl ?_
    refine g_geti dX9_digest_134 k_X9_48 rfl (by decide) rfl ?_
    refine g_icmpge 162 dX9_digest_137 (by decide) (fun c137 => ?_) (fun c137 => ?_)
    · skip
      exact absurd (ge_out hLg c137 (by omega) (by omega)) (by omega)
    · skip
      refine g_ldc2 dX9_digest_140 c_X9_255 ?_
      refine g_lload_n dX9_digest_143 rfl ?_
      refine g_lmul dX9_digest_144 ?_
      refine g_aload_n dX9_digest_145 rfl ?_
      refine g_getr dX9_digest_146 k_X9_12 rfl (by decide) rfl rfl ?_
      refine g_iload_n dX9_digest_149 rfl ?_
      refine g_callV1 (M' := mX4_letterAt) (mc' := 0) (ms' := 0) dX9_digest_150 l_X9_263 s_mX4_letterAt (by decide) rfl rfl f_mX4_letterAt (Nat.le_of_ble_eq_true rfl) (by decide) ((ct_letterAt (hi := g) (nI k) ⟨L, hL1, hLg⟩).weaken (fun r h' z => (⟨by rw [z.1, lAt_cong (f := g) (g := hi) (hdc.1 1 1 (by omega)) (fun j => hdc.1 2 j (by omega))], z.2⟩ : r = some (.int (lAt hi (nI k))) ∧ h' = (g, hl, RT)))) ?_
      rintro _ _ ⟨rfl, rfl⟩
      refine g_i2l dX9_digest_153 ?_
      refine g_ladd dX9_digest_154 ?_
      refine g_lstore_n dX9_digest_155 (by decide) rfl rfl ?_
      refine g_iinc dX9_digest_156 rfl (nI_inc k) (by decide) rfl rfl ?_
      refine g_goto 129 dX9_digest_159 (by decide) ?_
      exact ih (k + 1) _ (by omega) (by rw [hh]; rfl)

set_option maxRecDepth 100000 in
set_option maxHeartbeats 4000000 in
theorem ct_digest (hkv : KV hi) (hb3 : PB hi 3) (hb32 : PB hi 32) {N F : Nat} (hN8 : N ≤ 8) (hFN : F ≤ N) (hF4 : F ≤ 4) (hN : hi 3 3 = nI N) (hF : hi 3 2 = nI F) (hsd : ∀ k, k < N → hi (3 + 6 + k) 3 = bI (decide (F ≤ k))) {S : Nat} (hS8 : S ≤ 8) (hS : hi (3 + 2) 3 = nI S) {L : Nat} (hL1 : L ≤ 41) (hL2 : hi 1 1 = nI L) (hB : ∀ k, k < 8 → vp_nar .boolean (hi (3 + 5) k) = hi (3 + 5) k) (hE : 0 < N) : MC E l 12 mX9_digest [.ref 0] 83 (hi, hl, RT) 0 0 (fun r h' => ∃ hf K, r = some (.long (dgV (fun p k => tofN hi 3 N S (3 + 6 + p) k) N (midV (ltV (lsF (vw hi 3 N) N F K)) (sumI (fun j => bcF (mutF hi 3 N (3 + 6 + j))) F) ((blF (fun j => mvV (vw hi 3 N) N F 3 (nI j) (decide ((0 : Int32) = 1))) 8).1) ((blF (fun j => mvV (vw hi 3 N) N F 3 (nI j) (decide ((1 : Int32) = 1))) 8).1)) (fun k => lAt hi (nI k)) L (ctC hi N F S))) ∧ h' = (hf, hl, RT) ∧ DC hi hf ∧ RK (vw hi 3 N) N K) := by
  refine MC.of [some (.ref 0), none, none, none, none] (by decide) rfl (Nat.le_of_ble_eq_true rfl) ?_
  refine g_ldc2 dX9_digest_0 c_X9_253 ?_
  refine g_lstore_n dX9_digest_3 (by decide) rfl rfl ?_
  refine g_iconst (v := 0) dX9_digest_4 (by decide) ?_
  refine g_istore_n dX9_digest_5 (by decide) rfl rfl ?_
  refine lp_cgP hkv hN8 hN hS8 hS (fun l3 l4 hx3 hx4 => ?_) N 0 _ none (by omega) rfl rfl
  refine g_aload_n dX9_digest_54 rfl ?_
  refine g_getr dX9_digest_55 k_X9_19 rfl (by decide) rfl rfl ?_
  refine g_callV0 (M' := mX0_isEmpty) (mc' := 0) (ms' := 0) dX9_digest_58 l_X9_111 s_mX0_isEmpty (by decide) rfl rfl f_mX0_isEmpty (Nat.le_of_ble_eq_true rfl) (by decide) (ct_emptyN isC3 hN8 hN hE) ?_
  rintro _ _ ⟨rfl, rfl⟩
  refine g_ifne 127 dX9_digest_61 (by decide) (fun c => absurd c (by decide)) (fun _ => ?_)
  refine g_aload_n dX9_digest_64 rfl ?_
  refine g_lload_n dX9_digest_65 rfl ?_
  refine g_callV1 (M' := mX9_foldLasting) (mc' := 0) (ms' := 0) dX9_digest_66 l_X9_260 s_mX9_foldLasting (by decide) rfl rfl f_mX9_foldLasting (Nat.le_of_ble_eq_true rfl) (by decide) (ct_foldLasting hkv hb3 hb32 hN8 hFN hF4 hN hF hsd _ (sumI (fun j => bcF (mutF hi 3 N (3 + 6 + j))) F) ((blF (fun j => mvV (vw hi 3 N) N F 3 (nI j) (decide ((0 : Int32) = 1))) 8).1) ((blF (fun j => mvV (vw hi 3 N) N F 3 (nI j) (decide ((1 : Int32) = 1))) 8).1)) ?_
  rintro _ _ ⟨hf, K, rfl, rfl, hdc, hrk⟩
  refine g_lstore_n dX9_digest_69 (by decide) rfl rfl ?_
  refine g_ldc2 dX9_digest_70 c_X9_255 ?_
  refine g_lload_n dX9_digest_73 rfl ?_
  refine g_lmul dX9_digest_74 ?_
  refine g_aload_n dX9_digest_75 rfl ?_
  refine g_getr dX9_digest_76 k_X9_19 rfl (by decide) rfl rfl ?_
  refine g_callV0 (M' := mX0_mutualTwos) (mc' := 0) (ms' := 0) dX9_digest_79 l_X9_179 s_mX0_mutualTwos (by decide) rfl rfl f_mX0_mutualTwos (Nat.le_of_ble_eq_true rfl) (by decide) ((ct_mutualTwos (hi := hf) hdc.2.1 isC3 hN8 ((hdc.1 3 3 (by omega)).trans hN) (by omega) ((hdc.1 3 2 (by omega)).trans hF)).weaken (fun r h' z => (⟨by rw [z.1]; exact congrArg (fun x => some (Value.int x)) (sumI_congr (fun i hiF => by rw [← w_mut (hdc.pb3 hb3) hN8 (by omega), hdc.vw3 hN8, w_mut hb3 hN8 (by omega)])), z.2⟩ : r = some (.int (sumI (fun j => bcF (mutF hi 3 N (3 + 6 + j))) F)) ∧ h' = (hf, hl, RT)))) ?_
  rintro _ _ ⟨rfl, rfl⟩
  refine g_i2l dX9_digest_82 ?_
  refine g_ladd dX9_digest_83 ?_
  refine g_lstore_n dX9_digest_84 (by decide) rfl rfl ?_
  refine g_ldc2 dX9_digest_85 c_X9_255 ?_
  refine g_lload_n dX9_digest_88 rfl ?_
  refine g_lmul dX9_digest_89 ?_
  refine g_aload_n dX9_digest_90 rfl ?_
  refine g_getr dX9_digest_91 k_X9_29 rfl (by decide) rfl rfl ?_
  refine g_aload_n dX9_digest_94 rfl ?_
  refine g_getr dX9_digest_95 k_X9_19 rfl (by decide) rfl rfl ?_
  refine g_iconst (v := 3) dX9_digest_98 (by decide) ?_
  refine g_iconst (v := 0) dX9_digest_99 (by decide) ?_
  refine g_callV3 (M' := mX7_bestLimit) (mc' := 0) (ms' := 0) dX9_digest_100 l_X9_192 s_mX7_bestLimit (by decide) rfl rfl f_mX7_bestLimit (Nat.le_of_ble_eq_true rfl) (by decide) ((ct_bestLimit (hi := hf) hdc.2.1 (hdc.pb3 hb3) hdc.2.2 (D := 3) hN8 hFN ((hdc.1 3 3 (by omega)).trans hN) ((hdc.1 3 2 (by omega)).trans hF) (fun k hk => by rw [hdc.1 8 k (by omega)]; exact hB k hk) (by omega) 0).weaken (fun r h' z => (by obtain ⟨hf2, z1, z2, z3⟩ := z; exact ⟨hf2, by rw [z1, hdc.vw3 hN8], z2, hdc.trans (DC.tx z3)⟩ : ∃ hf2, r = some (.int ((blF (fun j => mvV (vw hi 3 N) N F 3 (nI j) (decide ((0 : Int32) = 1))) 8).1)) ∧ h' = (hf2, hl, RT) ∧ DC hi hf2))) ?_
  rintro _ _ ⟨hg0, rfl, rfl, hdc⟩
  refine g_i2l dX9_digest_103 ?_
  refine g_ladd dX9_digest_104 ?_
  refine g_lstore_n dX9_digest_105 (by decide) rfl rfl ?_
  refine g_ldc2 dX9_digest_106 c_X9_255 ?_
  refine g_lload_n dX9_digest_109 rfl ?_
  refine g_lmul dX9_digest_110 ?_
  refine g_aload_n dX9_digest_111 rfl ?_
  refine g_getr dX9_digest_112 k_X9_29 rfl (by decide) rfl rfl ?_
  refine g_aload_n dX9_digest_115 rfl ?_
  refine g_getr dX9_digest_116 k_X9_19 rfl (by decide) rfl rfl ?_
  refine g_iconst (v := 3) dX9_digest_119 (by decide) ?_
  refine g_iconst (v := 1) dX9_digest_120 (by decide) ?_
  refine g_callV3 (M' := mX7_bestLimit) (mc' := 0) (ms' := 0) dX9_digest_121 l_X9_192 s_mX7_bestLimit (by decide) rfl rfl f_mX7_bestLimit (Nat.le_of_ble_eq_true rfl) (by decide) ((ct_bestLimit (hi := hg0) hdc.2.1 (hdc.pb3 hb3) hdc.2.2 (D := 3) hN8 hFN ((hdc.1 3 3 (by omega)).trans hN) ((hdc.1 3 2 (by omega)).trans hF) (fun k hk => by rw [hdc.1 8 k (by omega)]; exact hB k hk) (by omega) 1).weaken (fun r h' z => (by obtain ⟨hf2, z1, z2, z3⟩ := z; exact ⟨hf2, by rw [z1, hdc.vw3 hN8], z2, hdc.trans (DC.tx z3)⟩ : ∃ hf2, r = some (.int ((blF (fun j => mvV (vw hi 3 N) N F 3 (nI j) (decide ((1 : Int32) = 1))) 8).1)) ∧ h' = (hf2, hl, RT) ∧ DC hi hf2))) ?_
  rintro _ _ ⟨hg1, rfl, rfl, hdc⟩
  refine g_i2l dX9_digest_124 ?_
  refine g_ladd dX9_digest_125 ?_
  refine g_lstore_n dX9_digest_126 (by decide) rfl rfl ?_
  refine g_iconst (v := 0) dX9_digest_127 (by decide) ?_
  refine g_istore_n dX9_digest_128 (by decide) rfl rfl ?_
  have hgo := lp_cgG (E := E) (l := l) (hl := hl) hkv hN8 (F := F) (by omega) hN hF S hL1 hL2 hdc (h0 := mxF (midV (ltV (lsF (vw hi 3 N) N F K)) (sumI (fun j => bcF (mutF hi 3 N (3 + 6 + j))) F) ((blF (fun j => mvV (vw hi 3 N) N F 3 (nI j) (decide ((0 : Int32) = 1))) 8).1) ((blF (fun j => mvV (vw hi 3 N) N F 3 (nI j) (decide ((1 : Int32) = 1))) 8).1)) 9 (mxP (fun p k => tofN hi 3 N S (3 + 6 + p) k) N 1123)) (l4 := l4) L 0 _ (by omega) rfl
  exact g_mono (fun r h2 z => ⟨hg1, K, by rw [z.1, dg_pos hE], z.2, hdc, hrk⟩) hgo

set_option maxRecDepth 100000 in
set_option maxHeartbeats 4000000 in
theorem ct_digest0 (hkv : KV hi) {N F : Nat} (hN8 : N ≤ 8) (hF8 : F ≤ 8) (hN : hi 3 3 = nI N) (hF : hi 3 2 = nI F) {S : Nat} (hS8 : S ≤ 8) (hS : hi (3 + 2) 3 = nI S) {L : Nat} (hL1 : L ≤ 41) (hL2 : hi 1 1 = nI L) (hb32 : PB hi 32) (hE : N = 0) : MC E l 12 mX9_digest [.ref 0] 83 (hi, hl, RT) 0 0 (fun r h' => r = some (.long (mxF (ctC hi N F S) 15 (mxF (fun k => lAt hi (nI k)) L 1123))) ∧ h' = (hi, hl, RT)) := by
  refine MC.of [some (.ref 0), none, none, none, none] (by decide) rfl (Nat.le_of_ble_eq_true rfl) ?_
  subst hE
  have hE0 : hi 3 3 = 0 := by rw [hN]; rfl
  refine g_ldc2 dX9_digest_0 c_X9_253 ?_
  refine g_lstore_n dX9_digest_3 (by decide) rfl rfl ?_
  refine g_iconst (v := 0) dX9_digest_4 (by decide) ?_
  refine g_istore_n dX9_digest_5 (by decide) rfl rfl ?_
  refine lp_cgP hkv hN8 hN hS8 hS (fun l3 l4 hx3 hx4 => ?_) 0 0 _ none (by omega) rfl rfl
  refine g_aload_n dX9_digest_54 rfl ?_
  refine g_getr dX9_digest_55 k_X9_19 rfl (by decide) rfl rfl ?_
  refine g_callV0 (M' := mX0_isEmpty) (mc' := 0) (ms' := 0) dX9_digest_58 l_X9_111 s_mX0_isEmpty (by decide) rfl rfl f_mX0_isEmpty (Nat.le_of_ble_eq_true rfl) (by decide) (ct_emptyY isC3 hE0) ?_
  rintro _ _ ⟨rfl, rfl⟩
  refine g_ifne 127 dX9_digest_61 (by decide) (fun _ => ?_) (fun c => absurd c (by decide))
  refine g_iconst (v := 0) dX9_digest_127 (by decide) ?_
  refine g_istore_n dX9_digest_128 (by decide) rfl rfl ?_
  exact lp_cgG hkv hN8 hF8 hN hF S hL1 hL2 (DC.rf hkv hb32) (h0 := 1123) L 0 _ (by omega) rfl

end
