/-! ===== the law's body ===== -/
abbrev mL_law : XM := (yL_law, cL_law, 4, some .boolean)
section LW
variable {E : XE} {l : Launch} {d : Nat} {M : XM} {pc : Nat} {ls : XL} {st : List Value} {hi hi1 : Nat → Nat → Int32} {hl : Nat → Nat → Int64} {n : Nat} {Q : Option Value → XH → Prop}
theorem g_c90 {M' M10 : XM} {idx : Nat}  (hd : decode M.2.1 pc = .ok (.invokevirtual idx, 3)) (hk : Cond.methodLink M.1.cls idx M'.1 ∈ xtbl) (hv : Cond.instanceMethod M'.1 ∈ xtbl ∧ Cond.selects M'.1.cls M'.1 M'.1 ∈ xtbl) (hcn : (vwCl[6]?).map (fun q => q.1) = some M'.1.cls) (hm : XMf M' 0) (hst : (st.map fun v => v.category).sum ≤ 8) (hdd : 13 ≤ d) (hS : STEP E l M' M10 [] n hi hl) (kk : ∀ x hi1, DONE E l M10 [] n (.int x) hi1 hl → G E l d M (pc + 3) ls (.int x :: st) 83 (hi1, hl, RT) 0 0 Q) : G E l d M pc ls (.ref 0 :: st) 83 (hi, hl, RT) 0 0 Q := by
  obtain ⟨d9, h9, hM⟩ := hS
  refine g_callV0 (mc' := 0) (ms' := 0) hd hk hv (by decide) rfl hcn hm hst (by omega) hM ?_
  rintro _ _ ⟨x, hi1, rfl, rfl, hD⟩
  exact kk x hi1 hD
theorem g_c9L0 {M' M10 : XM} {idx : Nat}  (hd : decode M.2.1 pc = .ok (.invokevirtual idx, 3)) (hk : Cond.methodLink M.1.cls idx M'.1 ∈ xtbl) (hv : Cond.instanceMethod M'.1 ∈ xtbl ∧ Cond.selects M'.1.cls M'.1 M'.1 ∈ xtbl) (hcn : (vwCl[6]?).map (fun q => q.1) = some M'.1.cls) (hm : XMf M' 0) (hst : (st.map fun v => v.category).sum ≤ 8) (hdd : 13 ≤ d) (hS : STEPL E l M' M10 [] n hi hl) (kk : ∀ x hi1, DONE E l M10 [] n (.long x) hi1 hl → G E l d M (pc + 3) ls (.long x :: st) 83 (hi1, hl, RT) 0 0 Q) : G E l d M pc ls (.ref 0 :: st) 83 (hi, hl, RT) 0 0 Q := by
  obtain ⟨d9, h9, hM⟩ := hS
  refine g_callV0 (mc' := 0) (ms' := 0) hd hk hv (by decide) rfl hcn hm hst (by omega) hM ?_
  rintro _ _ ⟨x, hi1, rfl, rfl, hD⟩
  exact kk x hi1 hD
theorem g_c100 {M' : XM} {idx : Nat} {x : Value}  (hd : decode M.2.1 pc = .ok (.invokevirtual idx, 3)) (hk : Cond.methodLink M.1.cls idx M'.1 ∈ xtbl) (hv : Cond.instanceMethod M'.1 ∈ xtbl ∧ Cond.selects M'.1.cls M'.1 M'.1 ∈ xtbl) (hcn : (vwCl[7]?).map (fun q => q.1) = some M'.1.cls) (hm : XMf M' 0) (hst : (st.map fun v => v.category).sum ≤ 8) (hdd : 13 ≤ d) (hD : DONE E l M' [] n x hi1 hl) (kk : ∀ hi2 hl2 N F, INV (n + 1) hi2 N F → G E l d M (pc + 3) ls (x :: st) 83 (hi2, hl2, RT) 0 0 Q) : G E l d M pc ls (.ref 53 :: st) 83 (hi1, hl, RT) 0 0 Q := by
  obtain ⟨d10, h10, hM⟩ := hD
  refine g_callV0 (mc' := 0) (ms' := 0) hd hk hv (by decide) rfl hcn hm hst (by omega) hM ?_
  rintro _ _ ⟨hi2, hl2, N, F, rfl, rfl, hI⟩
  exact kk hi2 hl2 N F hI
theorem g_c91 {M' M10 : XM} {idx : Nat} {x0 : Value} (hd : decode M.2.1 pc = .ok (.invokevirtual idx, 3)) (hk : Cond.methodLink M.1.cls idx M'.1 ∈ xtbl) (hv : Cond.instanceMethod M'.1 ∈ xtbl ∧ Cond.selects M'.1.cls M'.1 M'.1 ∈ xtbl) (hcn : (vwCl[6]?).map (fun q => q.1) = some M'.1.cls) (hm : XMf M' 1) (hst : (st.map fun v => v.category).sum ≤ 8) (hdd : 13 ≤ d) (hS : STEP E l M' M10 [x0] n hi hl) (kk : ∀ x hi1, DONE E l M10 [x0] n (.int x) hi1 hl → G E l d M (pc + 3) ls (.int x :: st) 83 (hi1, hl, RT) 0 0 Q) : G E l d M pc ls (x0 :: .ref 0 :: st) 83 (hi, hl, RT) 0 0 Q := by
  obtain ⟨d9, h9, hM⟩ := hS
  refine g_callV1 (mc' := 0) (ms' := 0) hd hk hv (by decide) rfl hcn hm hst (by omega) hM ?_
  rintro _ _ ⟨x, hi1, rfl, rfl, hD⟩
  exact kk x hi1 hD
theorem g_c101 {M' : XM} {idx : Nat} {x : Value} {x0 : Value} (hd : decode M.2.1 pc = .ok (.invokevirtual idx, 3)) (hk : Cond.methodLink M.1.cls idx M'.1 ∈ xtbl) (hv : Cond.instanceMethod M'.1 ∈ xtbl ∧ Cond.selects M'.1.cls M'.1 M'.1 ∈ xtbl) (hcn : (vwCl[7]?).map (fun q => q.1) = some M'.1.cls) (hm : XMf M' 1) (hst : (st.map fun v => v.category).sum ≤ 8) (hdd : 13 ≤ d) (hD : DONE E l M' [x0] n x hi1 hl) (kk : ∀ hi2 hl2 N F, INV (n + 1) hi2 N F → G E l d M (pc + 3) ls (x :: st) 83 (hi2, hl2, RT) 0 0 Q) : G E l d M pc ls (x0 :: .ref 53 :: st) 83 (hi1, hl, RT) 0 0 Q := by
  obtain ⟨d10, h10, hM⟩ := hD
  refine g_callV1 (mc' := 0) (ms' := 0) hd hk hv (by decide) rfl hcn hm hst (by omega) hM ?_
  rintro _ _ ⟨hi2, hl2, N, F, rfl, rfl, hI⟩
  exact kk hi2 hl2 N F hI
theorem g_c92 {M' M10 : XM} {idx : Nat} {x0 : Value} {x1 : Value} (hd : decode M.2.1 pc = .ok (.invokevirtual idx, 3)) (hk : Cond.methodLink M.1.cls idx M'.1 ∈ xtbl) (hv : Cond.instanceMethod M'.1 ∈ xtbl ∧ Cond.selects M'.1.cls M'.1 M'.1 ∈ xtbl) (hcn : (vwCl[6]?).map (fun q => q.1) = some M'.1.cls) (hm : XMf M' 2) (hst : (st.map fun v => v.category).sum ≤ 8) (hdd : 13 ≤ d) (hS : STEP E l M' M10 [x0, x1] n hi hl) (kk : ∀ x hi1, DONE E l M10 [x0, x1] n (.int x) hi1 hl → G E l d M (pc + 3) ls (.int x :: st) 83 (hi1, hl, RT) 0 0 Q) : G E l d M pc ls (x1 :: x0 :: .ref 0 :: st) 83 (hi, hl, RT) 0 0 Q := by
  obtain ⟨d9, h9, hM⟩ := hS
  refine g_callV2 (mc' := 0) (ms' := 0) hd hk hv (by decide) rfl hcn hm hst (by omega) hM ?_
  rintro _ _ ⟨x, hi1, rfl, rfl, hD⟩
  exact kk x hi1 hD
theorem g_c102 {M' : XM} {idx : Nat} {x : Value} {x0 : Value} {x1 : Value} (hd : decode M.2.1 pc = .ok (.invokevirtual idx, 3)) (hk : Cond.methodLink M.1.cls idx M'.1 ∈ xtbl) (hv : Cond.instanceMethod M'.1 ∈ xtbl ∧ Cond.selects M'.1.cls M'.1 M'.1 ∈ xtbl) (hcn : (vwCl[7]?).map (fun q => q.1) = some M'.1.cls) (hm : XMf M' 2) (hst : (st.map fun v => v.category).sum ≤ 8) (hdd : 13 ≤ d) (hD : DONE E l M' [x0, x1] n x hi1 hl) (kk : ∀ hi2 hl2 N F, INV (n + 1) hi2 N F → G E l d M (pc + 3) ls (x :: st) 83 (hi2, hl2, RT) 0 0 Q) : G E l d M pc ls (x1 :: x0 :: .ref 53 :: st) 83 (hi1, hl, RT) 0 0 Q := by
  obtain ⟨d10, h10, hM⟩ := hD
  refine g_callV2 (mc' := 0) (ms' := 0) hd hk hv (by decide) rfl hcn hm hst (by omega) hM ?_
  rintro _ _ ⟨hi2, hl2, N, F, rfl, rfl, hI⟩
  exact kk hi2 hl2 N F hI
theorem g_c93 {M' M10 : XM} {idx : Nat} {x0 : Value} {x1 : Value} {x2 : Value} (hd : decode M.2.1 pc = .ok (.invokevirtual idx, 3)) (hk : Cond.methodLink M.1.cls idx M'.1 ∈ xtbl) (hv : Cond.instanceMethod M'.1 ∈ xtbl ∧ Cond.selects M'.1.cls M'.1 M'.1 ∈ xtbl) (hcn : (vwCl[6]?).map (fun q => q.1) = some M'.1.cls) (hm : XMf M' 3) (hst : (st.map fun v => v.category).sum ≤ 8) (hdd : 13 ≤ d) (hS : STEP E l M' M10 [x0, x1, x2] n hi hl) (kk : ∀ x hi1, DONE E l M10 [x0, x1, x2] n (.int x) hi1 hl → G E l d M (pc + 3) ls (.int x :: st) 83 (hi1, hl, RT) 0 0 Q) : G E l d M pc ls (x2 :: x1 :: x0 :: .ref 0 :: st) 83 (hi, hl, RT) 0 0 Q := by
  obtain ⟨d9, h9, hM⟩ := hS
  refine g_callV3 (mc' := 0) (ms' := 0) hd hk hv (by decide) rfl hcn hm hst (by omega) hM ?_
  rintro _ _ ⟨x, hi1, rfl, rfl, hD⟩
  exact kk x hi1 hD
theorem g_c103 {M' : XM} {idx : Nat} {x : Value} {x0 : Value} {x1 : Value} {x2 : Value} (hd : decode M.2.1 pc = .ok (.invokevirtual idx, 3)) (hk : Cond.methodLink M.1.cls idx M'.1 ∈ xtbl) (hv : Cond.instanceMethod M'.1 ∈ xtbl ∧ Cond.selects M'.1.cls M'.1 M'.1 ∈ xtbl) (hcn : (vwCl[7]?).map (fun q => q.1) = some M'.1.cls) (hm : XMf M' 3) (hst : (st.map fun v => v.category).sum ≤ 8) (hdd : 13 ≤ d) (hD : DONE E l M' [x0, x1, x2] n x hi1 hl) (kk : ∀ hi2 hl2 N F, INV (n + 1) hi2 N F → G E l d M (pc + 3) ls (x :: st) 83 (hi2, hl2, RT) 0 0 Q) : G E l d M pc ls (x2 :: x1 :: x0 :: .ref 53 :: st) 83 (hi1, hl, RT) 0 0 Q := by
  obtain ⟨d10, h10, hM⟩ := hD
  refine g_callV3 (mc' := 0) (ms' := 0) hd hk hv (by decide) rfl hcn hm hst (by omega) hM ?_
  rintro _ _ ⟨hi2, hl2, N, F, rfl, rfl, hI⟩
  exact kk hi2 hl2 N F hI
end LW
def LQ : Option Value → XH → Prop := fun r _ => r = some (.int 1)
def lawL (j : Nat) : XL := [some (.ref 3000), some (.ref 0), some (.ref 53), some (.int (nI (4 * j)))]
/-- the law goes on behind a call -/
def NEXT (E : XE) (l : Launch) (j : Nat) : Prop := ∀ (hi2 : Nat → Nat → Int32) (hl2 : Nat → Nat → Int64) (N F : Nat), INV (j + 1) hi2 N F → G E l 14 mL_law 864 (lawL j) [] 83 (hi2, hl2, RT) 0 0 LQ
section LC
variable {E : XE} {l : Launch} {hi : Nat → Nat → Int32} {hl : Nat → Nat → Int64} {j N F : Nat}
theorem lg_cmp_self (x : Int64) : lg_cmp x x = 0 := by
  unfold lg_cmp
  simp
set_option maxRecDepth 100000 in
set_option maxHeartbeats 4000000 in
theorem lc_letter (ha1 : vp_in (nI (4 * j) + 1) E.2.2.2.2.2.2.1) (ha2 : vp_in (nI (4 * j) + 2) E.2.2.2.2.2.2.1) (ha3 : vp_in (nI (4 * j) + 3) E.2.2.2.2.2.2.1) (hI : INV j hi N F) (hx : NEXT E l j) : G E l 14 mL_law 156 (lawL j) [] 83 (hi, hl, RT) 0 0 LQ := by
  refine g_aload_n dL_law_156 rfl ?_
  refine g_aload_n dL_law_157 rfl ?_
  refine g_iload_n dL_law_158 rfl ?_
  refine g_iconst (v := 1) dL_law_159 (by decide) ?_
  refine g_iadd dL_law_160 ?_
  refine g_sald dL_law_161 ha1 ?_
  refine g_c91 (M' := mX9_letter) dL_law_162 l_L_13 s_mX9_letter rfl f_mX9_letter (Nat.le_of_ble_eq_true rfl) (by decide) (st_letter hI _) ?_
  intro x hi1 hD
  refine g_aload_n dL_law_165 rfl ?_
  refine g_aload_n dL_law_166 rfl ?_
  refine g_iload_n dL_law_167 rfl ?_
  refine g_iconst (v := 1) dL_law_168 (by decide) ?_
  refine g_iadd dL_law_169 ?_
  refine g_sald dL_law_170 ha1 ?_
  refine g_c101 (M' := mX10_letter) dL_law_171 l_L_17 s_mX10_letter rfl f_mX10_letter (Nat.le_of_ble_eq_true rfl) (by decide) hD ?_
  intro hi2 hl2 N2 F2 hI2
  exact g_icmpeq 864 dL_law_174 (by decide) (fun _ => hx hi2 hl2 N2 F2 hI2) (fun z => absurd rfl z)
set_option maxRecDepth 100000 in
set_option maxHeartbeats 4000000 in
theorem lc_blank (ha1 : vp_in (nI (4 * j) + 1) E.2.2.2.2.2.2.1) (ha2 : vp_in (nI (4 * j) + 2) E.2.2.2.2.2.2.1) (ha3 : vp_in (nI (4 * j) + 3) E.2.2.2.2.2.2.1) (hI : INV j hi N F) (hx : NEXT E l j) : G E l 14 mL_law 179 (lawL j) [] 83 (hi, hl, RT) 0 0 LQ := by
  refine g_aload_n dL_law_179 rfl ?_
  refine g_c90 (M' := mX9_blank) dL_law_180 l_L_18 s_mX9_blank rfl f_mX9_blank (Nat.le_of_ble_eq_true rfl) (by decide) (st_blank hI) ?_
  intro x hi1 hD
  refine g_aload_n dL_law_183 rfl ?_
  refine g_c100 (M' := mX10_blank) dL_law_184 l_L_22 s_mX10_blank rfl f_mX10_blank (Nat.le_of_ble_eq_true rfl) (by decide) hD ?_
  intro hi2 hl2 N2 F2 hI2
  exact g_icmpeq 864 dL_law_187 (by decide) (fun _ => hx hi2 hl2 N2 F2 hI2) (fun z => absurd rfl z)
set_option maxRecDepth 100000 in
set_option maxHeartbeats 4000000 in
theorem lc_fault (ha1 : vp_in (nI (4 * j) + 1) E.2.2.2.2.2.2.1) (ha2 : vp_in (nI (4 * j) + 2) E.2.2.2.2.2.2.1) (ha3 : vp_in (nI (4 * j) + 3) E.2.2.2.2.2.2.1) (hI : INV j hi N F) (hx : NEXT E l j) : G E l 14 mL_law 192 (lawL j) [] 83 (hi, hl, RT) 0 0 LQ := by
  refine g_aload_n dL_law_192 rfl ?_
  refine g_c90 (M' := mX9_fault) dL_law_193 l_L_23 s_mX9_fault rfl f_mX9_fault (Nat.le_of_ble_eq_true rfl) (by decide) (st_fault hI) ?_
  intro x hi1 hD
  refine g_aload_n dL_law_196 rfl ?_
  refine g_c100 (M' := mX10_fault) dL_law_197 l_L_26 s_mX10_fault rfl f_mX10_fault (Nat.le_of_ble_eq_true rfl) (by decide) hD ?_
  intro hi2 hl2 N2 F2 hI2
  exact g_icmpeq 864 dL_law_200 (by decide) (fun _ => hx hi2 hl2 N2 F2 hI2) (fun z => absurd rfl z)
set_option maxRecDepth 100000 in
set_option maxHeartbeats 4000000 in
theorem lc_sea (hn : j ≤ 1000) (ha1 : vp_in (nI (4 * j) + 1) E.2.2.2.2.2.2.1) (ha2 : vp_in (nI (4 * j) + 2) E.2.2.2.2.2.2.1) (ha3 : vp_in (nI (4 * j) + 3) E.2.2.2.2.2.2.1) (hI : INV j hi N F) (hx : NEXT E l j) : G E l 14 mL_law 205 (lawL j) [] 83 (hi, hl, RT) 0 0 LQ := by
  refine g_aload_n dL_law_205 rfl ?_
  refine g_c90 (M' := mX9_sea) dL_law_206 l_L_27 s_mX9_sea rfl f_mX9_sea (Nat.le_of_ble_eq_true rfl) (by decide) (st_sea hI hn) ?_
  intro x hi1 hD
  refine g_aload_n dL_law_209 rfl ?_
  refine g_c100 (M' := mX10_sea) dL_law_210 l_L_30 s_mX10_sea rfl f_mX10_sea (Nat.le_of_ble_eq_true rfl) (by decide) hD ?_
  intro hi2 hl2 N2 F2 hI2
  exact g_icmpeq 864 dL_law_213 (by decide) (fun _ => hx hi2 hl2 N2 F2 hI2) (fun z => absurd rfl z)
set_option maxRecDepth 100000 in
set_option maxHeartbeats 4000000 in
theorem lc_person (ha1 : vp_in (nI (4 * j) + 1) E.2.2.2.2.2.2.1) (ha2 : vp_in (nI (4 * j) + 2) E.2.2.2.2.2.2.1) (ha3 : vp_in (nI (4 * j) + 3) E.2.2.2.2.2.2.1) (hI : INV j hi N F) (hx : NEXT E l j) : G E l 14 mL_law 218 (lawL j) [] 83 (hi, hl, RT) 0 0 LQ := by
  refine g_aload_n dL_law_218 rfl ?_
  refine g_aload_n dL_law_219 rfl ?_
  refine g_iload_n dL_law_220 rfl ?_
  refine g_iconst (v := 1) dL_law_221 (by decide) ?_
  refine g_iadd dL_law_222 ?_
  refine g_sald dL_law_223 ha1 ?_
  refine g_aload_n dL_law_224 rfl ?_
  refine g_iload_n dL_law_225 rfl ?_
  refine g_iconst (v := 2) dL_law_226 (by decide) ?_
  refine g_iadd dL_law_227 ?_
  refine g_sald dL_law_228 ha2 ?_
  refine g_c92 (M' := mX9_person) dL_law_229 l_L_31 s_mX9_person rfl f_mX9_person (Nat.le_of_ble_eq_true rfl) (by decide) (st_person hI _ _) ?_
  intro x hi1 hD
  refine g_aload_n dL_law_232 rfl ?_
  refine g_aload_n dL_law_233 rfl ?_
  refine g_iload_n dL_law_234 rfl ?_
  refine g_iconst (v := 1) dL_law_235 (by decide) ?_
  refine g_iadd dL_law_236 ?_
  refine g_sald dL_law_237 ha1 ?_
  refine g_aload_n dL_law_238 rfl ?_
  refine g_iload_n dL_law_239 rfl ?_
  refine g_iconst (v := 2) dL_law_240 (by decide) ?_
  refine g_iadd dL_law_241 ?_
  refine g_sald dL_law_242 ha2 ?_
  refine g_c102 (M' := mX10_person) dL_law_243 l_L_35 s_mX10_person rfl f_mX10_person (Nat.le_of_ble_eq_true rfl) (by decide) hD ?_
  intro hi2 hl2 N2 F2 hI2
  exact g_icmpeq 864 dL_law_246 (by decide) (fun _ => hx hi2 hl2 N2 F2 hI2) (fun z => absurd rfl z)
set_option maxRecDepth 100000 in
set_option maxHeartbeats 4000000 in
theorem lc_as (ha1 : vp_in (nI (4 * j) + 1) E.2.2.2.2.2.2.1) (ha2 : vp_in (nI (4 * j) + 2) E.2.2.2.2.2.2.1) (ha3 : vp_in (nI (4 * j) + 3) E.2.2.2.2.2.2.1) (hI : INV j hi N F) (hx : NEXT E l j) : G E l 14 mL_law 251 (lawL j) [] 83 (hi, hl, RT) 0 0 LQ := by
  refine g_aload_n dL_law_251 rfl ?_
  refine g_aload_n dL_law_252 rfl ?_
  refine g_iload_n dL_law_253 rfl ?_
  refine g_iconst (v := 1) dL_law_254 (by decide) ?_
  refine g_iadd dL_law_255 ?_
  refine g_sald dL_law_256 ha1 ?_
  refine g_aload_n dL_law_257 rfl ?_
  refine g_iload_n dL_law_258 rfl ?_
  refine g_iconst (v := 2) dL_law_259 (by decide) ?_
  refine g_iadd dL_law_260 ?_
  refine g_sald dL_law_261 ha2 ?_
  refine g_c92 (M' := mX9_as) dL_law_262 l_L_36 s_mX9_as rfl f_mX9_as (Nat.le_of_ble_eq_true rfl) (by decide) (st_as hI _ _) ?_
  intro x hi1 hD
  refine g_aload_n dL_law_265 rfl ?_
  refine g_aload_n dL_law_266 rfl ?_
  refine g_iload_n dL_law_267 rfl ?_
  refine g_iconst (v := 1) dL_law_268 (by decide) ?_
  refine g_iadd dL_law_269 ?_
  refine g_sald dL_law_270 ha1 ?_
  refine g_aload_n dL_law_271 rfl ?_
  refine g_iload_n dL_law_272 rfl ?_
  refine g_iconst (v := 2) dL_law_273 (by decide) ?_
  refine g_iadd dL_law_274 ?_
  refine g_sald dL_law_275 ha2 ?_
  refine g_c102 (M' := mX10_as) dL_law_276 l_L_39 s_mX10_as rfl f_mX10_as (Nat.le_of_ble_eq_true rfl) (by decide) hD ?_
  intro hi2 hl2 N2 F2 hI2
  exact g_icmpeq 864 dL_law_279 (by decide) (fun _ => hx hi2 hl2 N2 F2 hI2) (fun z => absurd rfl z)
set_option maxRecDepth 100000 in
set_option maxHeartbeats 4000000 in
theorem lc_choose (ha1 : vp_in (nI (4 * j) + 1) E.2.2.2.2.2.2.1) (ha2 : vp_in (nI (4 * j) + 2) E.2.2.2.2.2.2.1) (ha3 : vp_in (nI (4 * j) + 3) E.2.2.2.2.2.2.1) (hI : INV j hi N F) (hx : NEXT E l j) : G E l 14 mL_law 284 (lawL j) [] 83 (hi, hl, RT) 0 0 LQ := by
  refine g_aload_n dL_law_284 rfl ?_
  refine g_aload_n dL_law_285 rfl ?_
  refine g_iload_n dL_law_286 rfl ?_
  refine g_iconst (v := 1) dL_law_287 (by decide) ?_
  refine g_iadd dL_law_288 ?_
  refine g_sald dL_law_289 ha1 ?_
  refine g_aload_n dL_law_290 rfl ?_
  refine g_iload_n dL_law_291 rfl ?_
  refine g_iconst (v := 2) dL_law_292 (by decide) ?_
  refine g_iadd dL_law_293 ?_
  refine g_sald dL_law_294 ha2 ?_
  refine g_c92 (M' := mX9_choose) dL_law_295 l_L_40 s_mX9_choose rfl f_mX9_choose (Nat.le_of_ble_eq_true rfl) (by decide) (st_choose hI _ _) ?_
  intro x hi1 hD
  refine g_aload_n dL_law_298 rfl ?_
  refine g_aload_n dL_law_299 rfl ?_
  refine g_iload_n dL_law_300 rfl ?_
  refine g_iconst (v := 1) dL_law_301 (by decide) ?_
  refine g_iadd dL_law_302 ?_
  refine g_sald dL_law_303 ha1 ?_
  refine g_aload_n dL_law_304 rfl ?_
  refine g_iload_n dL_law_305 rfl ?_
  refine g_iconst (v := 2) dL_law_306 (by decide) ?_
  refine g_iadd dL_law_307 ?_
  refine g_sald dL_law_308 ha2 ?_
  refine g_c102 (M' := mX10_choose) dL_law_309 l_L_43 s_mX10_choose rfl f_mX10_choose (Nat.le_of_ble_eq_true rfl) (by decide) hD ?_
  intro hi2 hl2 N2 F2 hI2
  exact g_icmpeq 864 dL_law_312 (by decide) (fun _ => hx hi2 hl2 N2 F2 hI2) (fun z => absurd rfl z)
set_option maxRecDepth 100000 in
set_option maxHeartbeats 4000000 in
theorem lc_paint (ha1 : vp_in (nI (4 * j) + 1) E.2.2.2.2.2.2.1) (ha2 : vp_in (nI (4 * j) + 2) E.2.2.2.2.2.2.1) (ha3 : vp_in (nI (4 * j) + 3) E.2.2.2.2.2.2.1) (hI : INV j hi N F) (hx : NEXT E l j) : G E l 14 mL_law 317 (lawL j) [] 83 (hi, hl, RT) 0 0 LQ := by
  refine g_aload_n dL_law_317 rfl ?_
  refine g_aload_n dL_law_318 rfl ?_
  refine g_iload_n dL_law_319 rfl ?_
  refine g_iconst (v := 1) dL_law_320 (by decide) ?_
  refine g_iadd dL_law_321 ?_
  refine g_sald dL_law_322 ha1 ?_
  refine g_aload_n dL_law_323 rfl ?_
  refine g_iload_n dL_law_324 rfl ?_
  refine g_iconst (v := 2) dL_law_325 (by decide) ?_
  refine g_iadd dL_law_326 ?_
  refine g_sald dL_law_327 ha2 ?_
  refine g_c92 (M' := mX9_paint) dL_law_328 l_L_44 s_mX9_paint rfl f_mX9_paint (Nat.le_of_ble_eq_true rfl) (by decide) (st_paint hI _ _) ?_
  intro x hi1 hD
  refine g_aload_n dL_law_331 rfl ?_
  refine g_aload_n dL_law_332 rfl ?_
  refine g_iload_n dL_law_333 rfl ?_
  refine g_iconst (v := 1) dL_law_334 (by decide) ?_
  refine g_iadd dL_law_335 ?_
  refine g_sald dL_law_336 ha1 ?_
  refine g_aload_n dL_law_337 rfl ?_
  refine g_iload_n dL_law_338 rfl ?_
  refine g_iconst (v := 2) dL_law_339 (by decide) ?_
  refine g_iadd dL_law_340 ?_
  refine g_sald dL_law_341 ha2 ?_
  refine g_c102 (M' := mX10_paint) dL_law_342 l_L_47 s_mX10_paint rfl f_mX10_paint (Nat.le_of_ble_eq_true rfl) (by decide) hD ?_
  intro hi2 hl2 N2 F2 hI2
  exact g_icmpeq 864 dL_law_345 (by decide) (fun _ => hx hi2 hl2 N2 F2 hI2) (fun z => absurd rfl z)
set_option maxRecDepth 100000 in
set_option maxHeartbeats 4000000 in
theorem lc_limit (ha1 : vp_in (nI (4 * j) + 1) E.2.2.2.2.2.2.1) (ha2 : vp_in (nI (4 * j) + 2) E.2.2.2.2.2.2.1) (ha3 : vp_in (nI (4 * j) + 3) E.2.2.2.2.2.2.1) (hI : INV j hi N F) (hx : NEXT E l j) : G E l 14 mL_law 350 (lawL j) [] 83 (hi, hl, RT) 0 0 LQ := by
  refine g_aload_n dL_law_350 rfl ?_
  refine g_aload_n dL_law_351 rfl ?_
  refine g_iload_n dL_law_352 rfl ?_
  refine g_iconst (v := 1) dL_law_353 (by decide) ?_
  refine g_iadd dL_law_354 ?_
  refine g_sald dL_law_355 ha1 ?_
  refine g_c91 (M' := mX9_limit) dL_law_356 l_L_48 s_mX9_limit rfl f_mX9_limit (Nat.le_of_ble_eq_true rfl) (by decide) (st_limit hI _) ?_
  intro x hi1 hD
  refine g_aload_n dL_law_359 rfl ?_
  refine g_aload_n dL_law_360 rfl ?_
  refine g_iload_n dL_law_361 rfl ?_
  refine g_iconst (v := 1) dL_law_362 (by decide) ?_
  refine g_iadd dL_law_363 ?_
  refine g_sald dL_law_364 ha1 ?_
  refine g_c101 (M' := mX10_limit) dL_law_365 l_L_51 s_mX10_limit rfl f_mX10_limit (Nat.le_of_ble_eq_true rfl) (by decide) hD ?_
  intro hi2 hl2 N2 F2 hI2
  exact g_icmpeq 864 dL_law_368 (by decide) (fun _ => hx hi2 hl2 N2 F2 hI2) (fun z => absurd rfl z)
set_option maxRecDepth 100000 in
set_option maxHeartbeats 4000000 in
theorem lc_show (ha1 : vp_in (nI (4 * j) + 1) E.2.2.2.2.2.2.1) (ha2 : vp_in (nI (4 * j) + 2) E.2.2.2.2.2.2.1) (ha3 : vp_in (nI (4 * j) + 3) E.2.2.2.2.2.2.1) (hI : INV j hi N F) (hx : NEXT E l j) : G E l 14 mL_law 373 (lawL j) [] 83 (hi, hl, RT) 0 0 LQ := by
  refine g_aload_n dL_law_373 rfl ?_
  refine g_aload_n dL_law_374 rfl ?_
  refine g_iload_n dL_law_375 rfl ?_
  refine g_iconst (v := 1) dL_law_376 (by decide) ?_
  refine g_iadd dL_law_377 ?_
  refine g_sald dL_law_378 ha1 ?_
  refine g_aload_n dL_law_379 rfl ?_
  refine g_iload_n dL_law_380 rfl ?_
  refine g_iconst (v := 2) dL_law_381 (by decide) ?_
  refine g_iadd dL_law_382 ?_
  refine g_sald dL_law_383 ha2 ?_
  refine g_c92 (M' := mX9_show) dL_law_384 l_L_52 s_mX9_show rfl f_mX9_show (Nat.le_of_ble_eq_true rfl) (by decide) (st_show hI _ _) ?_
  intro x hi1 hD
  refine g_aload_n dL_law_387 rfl ?_
  refine g_aload_n dL_law_388 rfl ?_
  refine g_iload_n dL_law_389 rfl ?_
  refine g_iconst (v := 1) dL_law_390 (by decide) ?_
  refine g_iadd dL_law_391 ?_
  refine g_sald dL_law_392 ha1 ?_
  refine g_aload_n dL_law_393 rfl ?_
  refine g_iload_n dL_law_394 rfl ?_
  refine g_iconst (v := 2) dL_law_395 (by decide) ?_
  refine g_iadd dL_law_396 ?_
  refine g_sald dL_law_397 ha2 ?_
  refine g_c102 (M' := mX10_show) dL_law_398 l_L_55 s_mX10_show rfl f_mX10_show (Nat.le_of_ble_eq_true rfl) (by decide) hD ?_
  intro hi2 hl2 N2 F2 hI2
  exact g_icmpeq 864 dL_law_401 (by decide) (fun _ => hx hi2 hl2 N2 F2 hI2) (fun z => absurd rfl z)
set_option maxRecDepth 100000 in
set_option maxHeartbeats 4000000 in
theorem lc_back (ha1 : vp_in (nI (4 * j) + 1) E.2.2.2.2.2.2.1) (ha2 : vp_in (nI (4 * j) + 2) E.2.2.2.2.2.2.1) (ha3 : vp_in (nI (4 * j) + 3) E.2.2.2.2.2.2.1) (hI : INV j hi N F) (hx : NEXT E l j) : G E l 14 mL_law 406 (lawL j) [] 83 (hi, hl, RT) 0 0 LQ := by
  refine g_aload_n dL_law_406 rfl ?_
  refine g_aload_n dL_law_407 rfl ?_
  refine g_iload_n dL_law_408 rfl ?_
  refine g_iconst (v := 1) dL_law_409 (by decide) ?_
  refine g_iadd dL_law_410 ?_
  refine g_sald dL_law_411 ha1 ?_
  refine g_aload_n dL_law_412 rfl ?_
  refine g_iload_n dL_law_413 rfl ?_
  refine g_iconst (v := 2) dL_law_414 (by decide) ?_
  refine g_iadd dL_law_415 ?_
  refine g_sald dL_law_416 ha2 ?_
  refine g_c92 (M' := mX9_back) dL_law_417 l_L_56 s_mX9_back rfl f_mX9_back (Nat.le_of_ble_eq_true rfl) (by decide) (st_back hI _ _) ?_
  intro x hi1 hD
  refine g_aload_n dL_law_420 rfl ?_
  refine g_aload_n dL_law_421 rfl ?_
  refine g_iload_n dL_law_422 rfl ?_
  refine g_iconst (v := 1) dL_law_423 (by decide) ?_
  refine g_iadd dL_law_424 ?_
  refine g_sald dL_law_425 ha1 ?_
  refine g_aload_n dL_law_426 rfl ?_
  refine g_iload_n dL_law_427 rfl ?_
  refine g_iconst (v := 2) dL_law_428 (by decide) ?_
  refine g_iadd dL_law_429 ?_
  refine g_sald dL_law_430 ha2 ?_
  refine g_c102 (M' := mX10_back) dL_law_431 l_L_59 s_mX10_back rfl f_mX10_back (Nat.le_of_ble_eq_true rfl) (by decide) hD ?_
  intro hi2 hl2 N2 F2 hI2
  exact g_icmpeq 864 dL_law_434 (by decide) (fun _ => hx hi2 hl2 N2 F2 hI2) (fun z => absurd rfl z)
set_option maxRecDepth 100000 in
set_option maxHeartbeats 4000000 in
theorem lc_day (ha1 : vp_in (nI (4 * j) + 1) E.2.2.2.2.2.2.1) (ha2 : vp_in (nI (4 * j) + 2) E.2.2.2.2.2.2.1) (ha3 : vp_in (nI (4 * j) + 3) E.2.2.2.2.2.2.1) (hI : INV j hi N F) (hx : NEXT E l j) : G E l 14 mL_law 439 (lawL j) [] 83 (hi, hl, RT) 0 0 LQ := by
  refine g_aload_n dL_law_439 rfl ?_
  refine g_c90 (M' := mX9_day) dL_law_440 l_L_60 s_mX9_day rfl f_mX9_day (Nat.le_of_ble_eq_true rfl) (by decide) (st_day hI) ?_
  intro x hi1 hD
  refine g_aload_n dL_law_443 rfl ?_
  refine g_c100 (M' := mX10_day) dL_law_444 l_L_63 s_mX10_day rfl f_mX10_day (Nat.le_of_ble_eq_true rfl) (by decide) hD ?_
  intro hi2 hl2 N2 F2 hI2
  exact g_icmpeq 864 dL_law_447 (by decide) (fun _ => hx hi2 hl2 N2 F2 hI2) (fun z => absurd rfl z)
set_option maxRecDepth 100000 in
set_option maxHeartbeats 4000000 in
theorem lc_meet (ha1 : vp_in (nI (4 * j) + 1) E.2.2.2.2.2.2.1) (ha2 : vp_in (nI (4 * j) + 2) E.2.2.2.2.2.2.1) (ha3 : vp_in (nI (4 * j) + 3) E.2.2.2.2.2.2.1) (hI : INV j hi N F) (hx : NEXT E l j) : G E l 14 mL_law 452 (lawL j) [] 83 (hi, hl, RT) 0 0 LQ := by
  refine g_aload_n dL_law_452 rfl ?_
  refine g_aload_n dL_law_453 rfl ?_
  refine g_iload_n dL_law_454 rfl ?_
  refine g_iconst (v := 1) dL_law_455 (by decide) ?_
  refine g_iadd dL_law_456 ?_
  refine g_sald dL_law_457 ha1 ?_
  refine g_aload_n dL_law_458 rfl ?_
  refine g_iload_n dL_law_459 rfl ?_
  refine g_iconst (v := 2) dL_law_460 (by decide) ?_
  refine g_iadd dL_law_461 ?_
  refine g_sald dL_law_462 ha2 ?_
  refine g_c92 (M' := mX9_meet) dL_law_463 l_L_64 s_mX9_meet rfl f_mX9_meet (Nat.le_of_ble_eq_true rfl) (by decide) (st_meet hI _ _) ?_
  intro x hi1 hD
  refine g_aload_n dL_law_466 rfl ?_
  refine g_aload_n dL_law_467 rfl ?_
  refine g_iload_n dL_law_468 rfl ?_
  refine g_iconst (v := 1) dL_law_469 (by decide) ?_
  refine g_iadd dL_law_470 ?_
  refine g_sald dL_law_471 ha1 ?_
  refine g_aload_n dL_law_472 rfl ?_
  refine g_iload_n dL_law_473 rfl ?_
  refine g_iconst (v := 2) dL_law_474 (by decide) ?_
  refine g_iadd dL_law_475 ?_
  refine g_sald dL_law_476 ha2 ?_
  refine g_c102 (M' := mX10_meet) dL_law_477 l_L_67 s_mX10_meet rfl f_mX10_meet (Nat.le_of_ble_eq_true rfl) (by decide) hD ?_
  intro hi2 hl2 N2 F2 hI2
  exact g_icmpeq 864 dL_law_480 (by decide) (fun _ => hx hi2 hl2 N2 F2 hI2) (fun z => absurd rfl z)
set_option maxRecDepth 100000 in
set_option maxHeartbeats 4000000 in
theorem lc_part (ha1 : vp_in (nI (4 * j) + 1) E.2.2.2.2.2.2.1) (ha2 : vp_in (nI (4 * j) + 2) E.2.2.2.2.2.2.1) (ha3 : vp_in (nI (4 * j) + 3) E.2.2.2.2.2.2.1) (hI : INV j hi N F) (hx : NEXT E l j) : G E l 14 mL_law 485 (lawL j) [] 83 (hi, hl, RT) 0 0 LQ := by
  refine g_aload_n dL_law_485 rfl ?_
  refine g_aload_n dL_law_486 rfl ?_
  refine g_iload_n dL_law_487 rfl ?_
  refine g_iconst (v := 1) dL_law_488 (by decide) ?_
  refine g_iadd dL_law_489 ?_
  refine g_sald dL_law_490 ha1 ?_
  refine g_c91 (M' := mX9_part) dL_law_491 l_L_68 s_mX9_part rfl f_mX9_part (Nat.le_of_ble_eq_true rfl) (by decide) (st_part hI _) ?_
  intro x hi1 hD
  refine g_aload_n dL_law_494 rfl ?_
  refine g_aload_n dL_law_495 rfl ?_
  refine g_iload_n dL_law_496 rfl ?_
  refine g_iconst (v := 1) dL_law_497 (by decide) ?_
  refine g_iadd dL_law_498 ?_
  refine g_sald dL_law_499 ha1 ?_
  refine g_c101 (M' := mX10_part) dL_law_500 l_L_71 s_mX10_part rfl f_mX10_part (Nat.le_of_ble_eq_true rfl) (by decide) hD ?_
  intro hi2 hl2 N2 F2 hI2
  exact g_icmpeq 864 dL_law_503 (by decide) (fun _ => hx hi2 hl2 N2 F2 hI2) (fun z => absurd rfl z)
set_option maxRecDepth 100000 in
set_option maxHeartbeats 4000000 in
theorem lc_lasting (ha1 : vp_in (nI (4 * j) + 1) E.2.2.2.2.2.2.1) (ha2 : vp_in (nI (4 * j) + 2) E.2.2.2.2.2.2.1) (ha3 : vp_in (nI (4 * j) + 3) E.2.2.2.2.2.2.1) (hI : INV j hi N F) (hx : NEXT E l j) : G E l 14 mL_law 508 (lawL j) [] 83 (hi, hl, RT) 0 0 LQ := by
  refine g_aload_n dL_law_508 rfl ?_
  refine g_aload_n dL_law_509 rfl ?_
  refine g_iload_n dL_law_510 rfl ?_
  refine g_iconst (v := 1) dL_law_511 (by decide) ?_
  refine g_iadd dL_law_512 ?_
  refine g_sald dL_law_513 ha1 ?_
  refine g_c91 (M' := mX9_lasting) dL_law_514 l_L_72 s_mX9_lasting rfl f_mX9_lasting (Nat.le_of_ble_eq_true rfl) (by decide) (st_lasting hI _) ?_
  intro x hi1 hD
  refine g_aload_n dL_law_517 rfl ?_
  refine g_aload_n dL_law_518 rfl ?_
  refine g_iload_n dL_law_519 rfl ?_
  refine g_iconst (v := 1) dL_law_520 (by decide) ?_
  refine g_iadd dL_law_521 ?_
  refine g_sald dL_law_522 ha1 ?_
  refine g_c101 (M' := mX10_lasting) dL_law_523 l_L_75 s_mX10_lasting rfl f_mX10_lasting (Nat.le_of_ble_eq_true rfl) (by decide) hD ?_
  intro hi2 hl2 N2 F2 hI2
  exact g_icmpeq 864 dL_law_526 (by decide) (fun _ => hx hi2 hl2 N2 F2 hI2) (fun z => absurd rfl z)
set_option maxRecDepth 100000 in
set_option maxHeartbeats 4000000 in
theorem lc_mutual (ha1 : vp_in (nI (4 * j) + 1) E.2.2.2.2.2.2.1) (ha2 : vp_in (nI (4 * j) + 2) E.2.2.2.2.2.2.1) (ha3 : vp_in (nI (4 * j) + 3) E.2.2.2.2.2.2.1) (hI : INV j hi N F) (hx : NEXT E l j) : G E l 14 mL_law 531 (lawL j) [] 83 (hi, hl, RT) 0 0 LQ := by
  refine g_aload_n dL_law_531 rfl ?_
  refine g_c90 (M' := mX9_mutual) dL_law_532 l_L_76 s_mX9_mutual rfl f_mX9_mutual (Nat.le_of_ble_eq_true rfl) (by decide) (st_mutual hI) ?_
  intro x hi1 hD
  refine g_aload_n dL_law_535 rfl ?_
  refine g_c100 (M' := mX10_mutual) dL_law_536 l_L_79 s_mX10_mutual rfl f_mX10_mutual (Nat.le_of_ble_eq_true rfl) (by decide) hD ?_
  intro hi2 hl2 N2 F2 hI2
  exact g_icmpeq 864 dL_law_539 (by decide) (fun _ => hx hi2 hl2 N2 F2 hI2) (fun z => absurd rfl z)
set_option maxRecDepth 100000 in
set_option maxHeartbeats 4000000 in
theorem lc_comes (ha1 : vp_in (nI (4 * j) + 1) E.2.2.2.2.2.2.1) (ha2 : vp_in (nI (4 * j) + 2) E.2.2.2.2.2.2.1) (ha3 : vp_in (nI (4 * j) + 3) E.2.2.2.2.2.2.1) (hI : INV j hi N F) (hx : NEXT E l j) : G E l 14 mL_law 544 (lawL j) [] 83 (hi, hl, RT) 0 0 LQ := by
  refine g_aload_n dL_law_544 rfl ?_
  refine g_aload_n dL_law_545 rfl ?_
  refine g_iload_n dL_law_546 rfl ?_
  refine g_iconst (v := 1) dL_law_547 (by decide) ?_
  refine g_iadd dL_law_548 ?_
  refine g_sald dL_law_549 ha1 ?_
  refine g_aload_n dL_law_550 rfl ?_
  refine g_iload_n dL_law_551 rfl ?_
  refine g_iconst (v := 2) dL_law_552 (by decide) ?_
  refine g_iadd dL_law_553 ?_
  refine g_sald dL_law_554 ha2 ?_
  refine g_aload_n dL_law_555 rfl ?_
  refine g_iload_n dL_law_556 rfl ?_
  refine g_iconst (v := 3) dL_law_557 (by decide) ?_
  refine g_iadd dL_law_558 ?_
  refine g_sald dL_law_559 ha3 ?_
  refine g_c93 (M' := mX9_comes) dL_law_560 l_L_80 s_mX9_comes rfl f_mX9_comes (Nat.le_of_ble_eq_true rfl) (by decide) (st_comes hI _ _ _) ?_
  intro x hi1 hD
  refine g_aload_n dL_law_563 rfl ?_
  refine g_aload_n dL_law_564 rfl ?_
  refine g_iload_n dL_law_565 rfl ?_
  refine g_iconst (v := 1) dL_law_566 (by decide) ?_
  refine g_iadd dL_law_567 ?_
  refine g_sald dL_law_568 ha1 ?_
  refine g_aload_n dL_law_569 rfl ?_
  refine g_iload_n dL_law_570 rfl ?_
  refine g_iconst (v := 2) dL_law_571 (by decide) ?_
  refine g_iadd dL_law_572 ?_
  refine g_sald dL_law_573 ha2 ?_
  refine g_aload_n dL_law_574 rfl ?_
  refine g_iload_n dL_law_575 rfl ?_
  refine g_iconst (v := 3) dL_law_576 (by decide) ?_
  refine g_iadd dL_law_577 ?_
  refine g_sald dL_law_578 ha3 ?_
  refine g_c103 (M' := mX10_comes) dL_law_579 l_L_84 s_mX10_comes rfl f_mX10_comes (Nat.le_of_ble_eq_true rfl) (by decide) hD ?_
  intro hi2 hl2 N2 F2 hI2
  exact g_icmpeq 864 dL_law_582 (by decide) (fun _ => hx hi2 hl2 N2 F2 hI2) (fun z => absurd rfl z)
set_option maxRecDepth 100000 in
set_option maxHeartbeats 4000000 in
theorem lc_best (ha1 : vp_in (nI (4 * j) + 1) E.2.2.2.2.2.2.1) (ha2 : vp_in (nI (4 * j) + 2) E.2.2.2.2.2.2.1) (ha3 : vp_in (nI (4 * j) + 3) E.2.2.2.2.2.2.1) (hI : INV j hi N F) (hx : NEXT E l j) : G E l 14 mL_law 587 (lawL j) [] 83 (hi, hl, RT) 0 0 LQ := by
  refine g_aload_n dL_law_587 rfl ?_
  refine g_aload_n dL_law_588 rfl ?_
  refine g_iload_n dL_law_589 rfl ?_
  refine g_iconst (v := 1) dL_law_590 (by decide) ?_
  refine g_iadd dL_law_591 ?_
  refine g_sald dL_law_592 ha1 ?_
  refine g_aload_n dL_law_593 rfl ?_
  refine g_iload_n dL_law_594 rfl ?_
  refine g_iconst (v := 2) dL_law_595 (by decide) ?_
  refine g_iadd dL_law_596 ?_
  refine g_sald dL_law_597 ha2 ?_
  refine g_c92 (M' := mX9_best) dL_law_598 l_L_85 s_mX9_best rfl f_mX9_best (Nat.le_of_ble_eq_true rfl) (by decide) (st_best hI _ _) ?_
  intro x hi1 hD
  refine g_aload_n dL_law_601 rfl ?_
  refine g_aload_n dL_law_602 rfl ?_
  refine g_iload_n dL_law_603 rfl ?_
  refine g_iconst (v := 1) dL_law_604 (by decide) ?_
  refine g_iadd dL_law_605 ?_
  refine g_sald dL_law_606 ha1 ?_
  refine g_aload_n dL_law_607 rfl ?_
  refine g_iload_n dL_law_608 rfl ?_
  refine g_iconst (v := 2) dL_law_609 (by decide) ?_
  refine g_iadd dL_law_610 ?_
  refine g_sald dL_law_611 ha2 ?_
  refine g_c102 (M' := mX10_best) dL_law_612 l_L_88 s_mX10_best rfl f_mX10_best (Nat.le_of_ble_eq_true rfl) (by decide) hD ?_
  intro hi2 hl2 N2 F2 hI2
  exact g_icmpeq 864 dL_law_615 (by decide) (fun _ => hx hi2 hl2 N2 F2 hI2) (fun z => absurd rfl z)
set_option maxRecDepth 100000 in
set_option maxHeartbeats 4000000 in
theorem lc_waiting (ha1 : vp_in (nI (4 * j) + 1) E.2.2.2.2.2.2.1) (ha2 : vp_in (nI (4 * j) + 2) E.2.2.2.2.2.2.1) (ha3 : vp_in (nI (4 * j) + 3) E.2.2.2.2.2.2.1) (hI : INV j hi N F) (hx : NEXT E l j) : G E l 14 mL_law 620 (lawL j) [] 83 (hi, hl, RT) 0 0 LQ := by
  refine g_aload_n dL_law_620 rfl ?_
  refine g_aload_n dL_law_621 rfl ?_
  refine g_iload_n dL_law_622 rfl ?_
  refine g_iconst (v := 1) dL_law_623 (by decide) ?_
  refine g_iadd dL_law_624 ?_
  refine g_sald dL_law_625 ha1 ?_
  refine g_aload_n dL_law_626 rfl ?_
  refine g_iload_n dL_law_627 rfl ?_
  refine g_iconst (v := 2) dL_law_628 (by decide) ?_
  refine g_iadd dL_law_629 ?_
  refine g_sald dL_law_630 ha2 ?_
  refine g_aload_n dL_law_631 rfl ?_
  refine g_iload_n dL_law_632 rfl ?_
  refine g_iconst (v := 3) dL_law_633 (by decide) ?_
  refine g_iadd dL_law_634 ?_
  refine g_sald dL_law_635 ha3 ?_
  refine g_c93 (M' := mX9_waiting) dL_law_636 l_L_89 s_mX9_waiting rfl f_mX9_waiting (Nat.le_of_ble_eq_true rfl) (by decide) (st_waiting hI _ _ _) ?_
  intro x hi1 hD
  refine g_aload_n dL_law_639 rfl ?_
  refine g_aload_n dL_law_640 rfl ?_
  refine g_iload_n dL_law_641 rfl ?_
  refine g_iconst (v := 1) dL_law_642 (by decide) ?_
  refine g_iadd dL_law_643 ?_
  refine g_sald dL_law_644 ha1 ?_
  refine g_aload_n dL_law_645 rfl ?_
  refine g_iload_n dL_law_646 rfl ?_
  refine g_iconst (v := 2) dL_law_647 (by decide) ?_
  refine g_iadd dL_law_648 ?_
  refine g_sald dL_law_649 ha2 ?_
  refine g_aload_n dL_law_650 rfl ?_
  refine g_iload_n dL_law_651 rfl ?_
  refine g_iconst (v := 3) dL_law_652 (by decide) ?_
  refine g_iadd dL_law_653 ?_
  refine g_sald dL_law_654 ha3 ?_
  refine g_c103 (M' := mX10_waiting) dL_law_655 l_L_92 s_mX10_waiting rfl f_mX10_waiting (Nat.le_of_ble_eq_true rfl) (by decide) hD ?_
  intro hi2 hl2 N2 F2 hI2
  exact g_icmpeq 864 dL_law_658 (by decide) (fun _ => hx hi2 hl2 N2 F2 hI2) (fun z => absurd rfl z)
set_option maxRecDepth 100000 in
set_option maxHeartbeats 4000000 in
theorem lc_howMany (ha1 : vp_in (nI (4 * j) + 1) E.2.2.2.2.2.2.1) (ha2 : vp_in (nI (4 * j) + 2) E.2.2.2.2.2.2.1) (ha3 : vp_in (nI (4 * j) + 3) E.2.2.2.2.2.2.1) (hI : INV j hi N F) (hx : NEXT E l j) : G E l 14 mL_law 663 (lawL j) [] 83 (hi, hl, RT) 0 0 LQ := by
  refine g_aload_n dL_law_663 rfl ?_
  refine g_aload_n dL_law_664 rfl ?_
  refine g_iload_n dL_law_665 rfl ?_
  refine g_iconst (v := 1) dL_law_666 (by decide) ?_
  refine g_iadd dL_law_667 ?_
  refine g_sald dL_law_668 ha1 ?_
  refine g_c91 (M' := mX9_howMany) dL_law_669 l_L_93 s_mX9_howMany rfl f_mX9_howMany (Nat.le_of_ble_eq_true rfl) (by decide) (st_howMany hI _) ?_
  intro x hi1 hD
  refine g_aload_n dL_law_672 rfl ?_
  refine g_aload_n dL_law_673 rfl ?_
  refine g_iload_n dL_law_674 rfl ?_
  refine g_iconst (v := 1) dL_law_675 (by decide) ?_
  refine g_iadd dL_law_676 ?_
  refine g_sald dL_law_677 ha1 ?_
  refine g_c101 (M' := mX10_howMany) dL_law_678 l_L_96 s_mX10_howMany rfl f_mX10_howMany (Nat.le_of_ble_eq_true rfl) (by decide) hD ?_
  intro hi2 hl2 N2 F2 hI2
  exact g_icmpeq 864 dL_law_681 (by decide) (fun _ => hx hi2 hl2 N2 F2 hI2) (fun z => absurd rfl z)
set_option maxRecDepth 100000 in
set_option maxHeartbeats 4000000 in
theorem lc_see (ha1 : vp_in (nI (4 * j) + 1) E.2.2.2.2.2.2.1) (ha2 : vp_in (nI (4 * j) + 2) E.2.2.2.2.2.2.1) (ha3 : vp_in (nI (4 * j) + 3) E.2.2.2.2.2.2.1) (hI : INV j hi N F) (hx : NEXT E l j) : G E l 14 mL_law 686 (lawL j) [] 83 (hi, hl, RT) 0 0 LQ := by
  refine g_aload_n dL_law_686 rfl ?_
  refine g_aload_n dL_law_687 rfl ?_
  refine g_iload_n dL_law_688 rfl ?_
  refine g_iconst (v := 1) dL_law_689 (by decide) ?_
  refine g_iadd dL_law_690 ?_
  refine g_sald dL_law_691 ha1 ?_
  refine g_aload_n dL_law_692 rfl ?_
  refine g_iload_n dL_law_693 rfl ?_
  refine g_iconst (v := 2) dL_law_694 (by decide) ?_
  refine g_iadd dL_law_695 ?_
  refine g_sald dL_law_696 ha2 ?_
  refine g_aload_n dL_law_697 rfl ?_
  refine g_iload_n dL_law_698 rfl ?_
  refine g_iconst (v := 3) dL_law_699 (by decide) ?_
  refine g_iadd dL_law_700 ?_
  refine g_sald dL_law_701 ha3 ?_
  refine g_ifeq 709 dL_law_702 (by decide) (fun hz => ?_) (fun hz => ?_)
  · skip
    refine g_iconst (v := 0) dL_law_709 (by decide) ?_
    refine g_c93 (M' := mX9_see) dL_law_710 l_L_97 s_mX9_see rfl f_mX9_see (Nat.le_of_ble_eq_true rfl) (by decide) (st_see hI _ _ _ (Or.inl rfl)) ?_
    intro x hi1 hD
    refine g_aload_n dL_law_713 rfl ?_
    refine g_aload_n dL_law_714 rfl ?_
    refine g_iload_n dL_law_715 rfl ?_
    refine g_iconst (v := 1) dL_law_716 (by decide) ?_
    refine g_iadd dL_law_717 ?_
    refine g_sald dL_law_718 ha1 ?_
    refine g_aload_n dL_law_719 rfl ?_
    refine g_iload_n dL_law_720 rfl ?_
    refine g_iconst (v := 2) dL_law_721 (by decide) ?_
    refine g_iadd dL_law_722 ?_
    refine g_sald dL_law_723 ha2 ?_
    refine g_aload_n dL_law_724 rfl ?_
    refine g_iload_n dL_law_725 rfl ?_
    refine g_iconst (v := 3) dL_law_726 (by decide) ?_
    refine g_iadd dL_law_727 ?_
    refine g_sald dL_law_728 ha3 ?_
    refine g_ifeq 736 dL_law_729 (by decide) (fun _ => ?_) (fun hy => absurd hz hy)
    refine g_iconst (v := 0) dL_law_736 (by decide) ?_
    refine g_c103 (M' := mX10_see) dL_law_737 l_L_101 s_mX10_see rfl f_mX10_see (Nat.le_of_ble_eq_true rfl) (by decide) hD ?_
    intro hi2 hl2 N2 F2 hI2
    exact g_icmpeq 864 dL_law_740 (by decide) (fun _ => hx hi2 hl2 N2 F2 hI2) (fun z => absurd rfl z)
  · skip
    refine g_iconst (v := 1) dL_law_705 (by decide) ?_
    refine g_goto 710 dL_law_706 (by decide) ?_
    refine g_c93 (M' := mX9_see) dL_law_710 l_L_97 s_mX9_see rfl f_mX9_see (Nat.le_of_ble_eq_true rfl) (by decide) (st_see hI _ _ _ (Or.inr rfl)) ?_
    intro x hi1 hD
    refine g_aload_n dL_law_713 rfl ?_
    refine g_aload_n dL_law_714 rfl ?_
    refine g_iload_n dL_law_715 rfl ?_
    refine g_iconst (v := 1) dL_law_716 (by decide) ?_
    refine g_iadd dL_law_717 ?_
    refine g_sald dL_law_718 ha1 ?_
    refine g_aload_n dL_law_719 rfl ?_
    refine g_iload_n dL_law_720 rfl ?_
    refine g_iconst (v := 2) dL_law_721 (by decide) ?_
    refine g_iadd dL_law_722 ?_
    refine g_sald dL_law_723 ha2 ?_
    refine g_aload_n dL_law_724 rfl ?_
    refine g_iload_n dL_law_725 rfl ?_
    refine g_iconst (v := 3) dL_law_726 (by decide) ?_
    refine g_iadd dL_law_727 ?_
    refine g_sald dL_law_728 ha3 ?_
    refine g_ifeq 736 dL_law_729 (by decide) (fun hy => absurd hy hz) (fun _ => ?_)
    refine g_iconst (v := 1) dL_law_732 (by decide) ?_
    refine g_goto 737 dL_law_733 (by decide) ?_
    refine g_c103 (M' := mX10_see) dL_law_737 l_L_101 s_mX10_see rfl f_mX10_see (Nat.le_of_ble_eq_true rfl) (by decide) hD ?_
    intro hi2 hl2 N2 F2 hI2
    exact g_icmpeq 864 dL_law_740 (by decide) (fun _ => hx hi2 hl2 N2 F2 hI2) (fun z => absurd rfl z)
set_option maxRecDepth 100000 in
set_option maxHeartbeats 4000000 in
theorem lc_forget (ha1 : vp_in (nI (4 * j) + 1) E.2.2.2.2.2.2.1) (ha2 : vp_in (nI (4 * j) + 2) E.2.2.2.2.2.2.1) (ha3 : vp_in (nI (4 * j) + 3) E.2.2.2.2.2.2.1) (hI : INV j hi N F) (hx : NEXT E l j) : G E l 14 mL_law 745 (lawL j) [] 83 (hi, hl, RT) 0 0 LQ := by
  refine g_aload_n dL_law_745 rfl ?_
  refine g_c90 (M' := mX9_forget) dL_law_746 l_L_102 s_mX9_forget rfl f_mX9_forget (Nat.le_of_ble_eq_true rfl) (by decide) (st_forget hI) ?_
  intro x hi1 hD
  refine g_aload_n dL_law_749 rfl ?_
  refine g_c100 (M' := mX10_forget) dL_law_750 l_L_105 s_mX10_forget rfl f_mX10_forget (Nat.le_of_ble_eq_true rfl) (by decide) hD ?_
  intro hi2 hl2 N2 F2 hI2
  exact g_icmpeq 864 dL_law_753 (by decide) (fun _ => hx hi2 hl2 N2 F2 hI2) (fun z => absurd rfl z)
set_option maxRecDepth 100000 in
set_option maxHeartbeats 4000000 in
theorem lc_seasons (ha1 : vp_in (nI (4 * j) + 1) E.2.2.2.2.2.2.1) (ha2 : vp_in (nI (4 * j) + 2) E.2.2.2.2.2.2.1) (ha3 : vp_in (nI (4 * j) + 3) E.2.2.2.2.2.2.1) (hI : INV j hi N F) (hx : NEXT E l j) : G E l 14 mL_law 758 (lawL j) [] 83 (hi, hl, RT) 0 0 LQ := by
  refine g_aload_n dL_law_758 rfl ?_
  refine g_aload_n dL_law_759 rfl ?_
  refine g_iload_n dL_law_760 rfl ?_
  refine g_iconst (v := 1) dL_law_761 (by decide) ?_
  refine g_iadd dL_law_762 ?_
  refine g_sald dL_law_763 ha1 ?_
  refine g_aload_n dL_law_764 rfl ?_
  refine g_iload_n dL_law_765 rfl ?_
  refine g_iconst (v := 2) dL_law_766 (by decide) ?_
  refine g_iadd dL_law_767 ?_
  refine g_sald dL_law_768 ha2 ?_
  refine g_aload_n dL_law_769 rfl ?_
  refine g_iload_n dL_law_770 rfl ?_
  refine g_iconst (v := 3) dL_law_771 (by decide) ?_
  refine g_iadd dL_law_772 ?_
  refine g_sald dL_law_773 ha3 ?_
  refine g_c93 (M' := mX9_seasons) dL_law_774 l_L_106 s_mX9_seasons rfl f_mX9_seasons (Nat.le_of_ble_eq_true rfl) (by decide) (st_seasons hI _ _ _) ?_
  intro x hi1 hD
  refine g_aload_n dL_law_777 rfl ?_
  refine g_aload_n dL_law_778 rfl ?_
  refine g_iload_n dL_law_779 rfl ?_
  refine g_iconst (v := 1) dL_law_780 (by decide) ?_
  refine g_iadd dL_law_781 ?_
  refine g_sald dL_law_782 ha1 ?_
  refine g_aload_n dL_law_783 rfl ?_
  refine g_iload_n dL_law_784 rfl ?_
  refine g_iconst (v := 2) dL_law_785 (by decide) ?_
  refine g_iadd dL_law_786 ?_
  refine g_sald dL_law_787 ha2 ?_
  refine g_aload_n dL_law_788 rfl ?_
  refine g_iload_n dL_law_789 rfl ?_
  refine g_iconst (v := 3) dL_law_790 (by decide) ?_
  refine g_iadd dL_law_791 ?_
  refine g_sald dL_law_792 ha3 ?_
  refine g_c103 (M' := mX10_seasons) dL_law_793 l_L_109 s_mX10_seasons rfl f_mX10_seasons (Nat.le_of_ble_eq_true rfl) (by decide) hD ?_
  intro hi2 hl2 N2 F2 hI2
  exact g_icmpeq 864 dL_law_796 (by decide) (fun _ => hx hi2 hl2 N2 F2 hI2) (fun z => absurd rfl z)
set_option maxRecDepth 100000 in
set_option maxHeartbeats 4000000 in
theorem lc_image (ha1 : vp_in (nI (4 * j) + 1) E.2.2.2.2.2.2.1) (ha2 : vp_in (nI (4 * j) + 2) E.2.2.2.2.2.2.1) (ha3 : vp_in (nI (4 * j) + 3) E.2.2.2.2.2.2.1) (hI : INV j hi N F) (hx : NEXT E l j) : G E l 14 mL_law 801 (lawL j) [] 83 (hi, hl, RT) 0 0 LQ := by
  refine g_aload_n dL_law_801 rfl ?_
  refine g_c90 (M' := mX9_image) dL_law_802 l_L_110 s_mX9_image rfl f_mX9_image (Nat.le_of_ble_eq_true rfl) (by decide) (st_image hI) ?_
  intro x hi1 hD
  refine g_aload_n dL_law_805 rfl ?_
  refine g_c100 (M' := mX10_image) dL_law_806 l_L_113 s_mX10_image rfl f_mX10_image (Nat.le_of_ble_eq_true rfl) (by decide) hD ?_
  intro hi2 hl2 N2 F2 hI2
  exact g_icmpeq 864 dL_law_809 (by decide) (fun _ => hx hi2 hl2 N2 F2 hI2) (fun z => absurd rfl z)
set_option maxRecDepth 100000 in
set_option maxHeartbeats 4000000 in
theorem lc_restore (ha1 : vp_in (nI (4 * j) + 1) E.2.2.2.2.2.2.1) (ha2 : vp_in (nI (4 * j) + 2) E.2.2.2.2.2.2.1) (ha3 : vp_in (nI (4 * j) + 3) E.2.2.2.2.2.2.1) (hI : INV j hi N F) (hx : NEXT E l j) : G E l 14 mL_law 814 (lawL j) [] 83 (hi, hl, RT) 0 0 LQ := by
  refine g_aload_n dL_law_814 rfl ?_
  refine g_c90 (M' := mX9_restore) dL_law_815 l_L_114 s_mX9_restore rfl f_mX9_restore (Nat.le_of_ble_eq_true rfl) (by decide) (st_restore hI) ?_
  intro x hi1 hD
  refine g_aload_n dL_law_818 rfl ?_
  refine g_c100 (M' := mX10_restore) dL_law_819 l_L_117 s_mX10_restore rfl f_mX10_restore (Nat.le_of_ble_eq_true rfl) (by decide) hD ?_
  intro hi2 hl2 N2 F2 hI2
  exact g_icmpeq 864 dL_law_822 (by decide) (fun _ => hx hi2 hl2 N2 F2 hI2) (fun z => absurd rfl z)
set_option maxRecDepth 100000 in
set_option maxHeartbeats 4000000 in
theorem lc_count (ha1 : vp_in (nI (4 * j) + 1) E.2.2.2.2.2.2.1) (ha2 : vp_in (nI (4 * j) + 2) E.2.2.2.2.2.2.1) (ha3 : vp_in (nI (4 * j) + 3) E.2.2.2.2.2.2.1) (hI : INV j hi N F) (hx : NEXT E l j) : G E l 14 mL_law 827 (lawL j) [] 83 (hi, hl, RT) 0 0 LQ := by
  refine g_aload_n dL_law_827 rfl ?_
  refine g_aload_n dL_law_828 rfl ?_
  refine g_iload_n dL_law_829 rfl ?_
  refine g_iconst (v := 1) dL_law_830 (by decide) ?_
  refine g_iadd dL_law_831 ?_
  refine g_sald dL_law_832 ha1 ?_
  refine g_c91 (M' := mX9_count) dL_law_833 l_L_118 s_mX9_count rfl f_mX9_count (Nat.le_of_ble_eq_true rfl) (by decide) (st_count hI _) ?_
  intro x hi1 hD
  refine g_aload_n dL_law_836 rfl ?_
  refine g_aload_n dL_law_837 rfl ?_
  refine g_iload_n dL_law_838 rfl ?_
  refine g_iconst (v := 1) dL_law_839 (by decide) ?_
  refine g_iadd dL_law_840 ?_
  refine g_sald dL_law_841 ha1 ?_
  refine g_c101 (M' := mX10_count) dL_law_842 l_L_121 s_mX10_count rfl f_mX10_count (Nat.le_of_ble_eq_true rfl) (by decide) hD ?_
  intro hi2 hl2 N2 F2 hI2
  exact g_icmpeq 864 dL_law_845 (by decide) (fun _ => hx hi2 hl2 N2 F2 hI2) (fun z => absurd rfl z)
set_option maxRecDepth 100000 in
set_option maxHeartbeats 4000000 in
theorem lc_digest (ha1 : vp_in (nI (4 * j) + 1) E.2.2.2.2.2.2.1) (ha2 : vp_in (nI (4 * j) + 2) E.2.2.2.2.2.2.1) (ha3 : vp_in (nI (4 * j) + 3) E.2.2.2.2.2.2.1) (hI : INV j hi N F) (hx : NEXT E l j) : G E l 14 mL_law 850 (lawL j) [] 83 (hi, hl, RT) 0 0 LQ := by
  refine g_aload_n dL_law_850 rfl ?_
  refine g_c9L0 (M' := mX9_digest) dL_law_851 l_L_122 s_mX9_digest rfl f_mX9_digest (Nat.le_of_ble_eq_true rfl) (by decide) (st_digest hI) ?_
  intro x hi1 hD
  refine g_aload_n dL_law_854 rfl ?_
  refine g_c100 (M' := mX10_digest) dL_law_855 l_L_126 s_mX10_digest rfl f_mX10_digest (Nat.le_of_ble_eq_true rfl) (by decide) hD ?_
  intro hi2 hl2 N2 F2 hI2
  refine g_lcmp dL_law_858 ?_
  exact g_ifeq 864 dL_law_859 (by decide) (fun _ => hx hi2 hl2 N2 F2 hI2) (fun z => absurd (lg_cmp_self x) z)
theorem and31 (x : Int32) : ∃ k : Nat, k < 32 ∧ x &&& 31 = nI k := by
  refine ⟨x.toBitVec.toNat % 2 ^ 5, Nat.mod_lt _ (by decide), ?_⟩
  have h := fa_mask x.toBitVec.toNat 5
  rw [← nI_nat x] at h
  exact h
theorem lawN {L j : Nat} (hL : L ≤ 256) (h : ¬ (nI L - 4 < nI (4 * j))) (hj : j ≤ 65) : 4 * j + 4 ≤ L := by
  refine Nat.le_of_not_lt (fun q => h ?_)
  by_cases h4 : 4 ≤ L
  · have e : nI L - 4 = nI (L - 4) := by
      have := Int32.ofNat_sub L 4 (by omega)
      exact this.symm
    rw [e]
    exact nI_lt (by omega) (by omega)
  · have hl4 : L = 0 ∨ L = 1 ∨ L = 2 ∨ L = 3 := by omega
    have hneg : ∀ L, L < 4 → nI L - 4 < 0 := by decide
    rw [i_lt]
    have h1 := i_lt.mp (hneg L (by omega))
    rw [nI_toInt (by omega)]
    have h2 : (0 : Int32).toInt = 0 := rfl
    rw [h2] at h1
    omega
set_option maxRecDepth 100000 in
set_option maxHeartbeats 8000000 in
theorem lp_law (hL : E.2.2.2.2.2.2.1 ≤ 256) : ∀ (n j : Nat) (hi : Nat → Nat → Int32) (hl : Nat → Nat → Int64) (N F : Nat), j + n = 65 → INV j hi N F → G E l 14 mL_law 18 (lawL j) [] 83 (hi, hl, RT) 0 0 LQ := by
  intro n
  induction n with
  | zero =>
    intro j hi hl N F hj hI
    refine g_iload_n dL_law_18 rfl ?_
    refine g_aload_n dL_law_19 rfl ?_
    refine g_slen dL_law_20 ?_
    refine g_iconst (v := 4) dL_law_21 (by decide) ?_
    refine g_isub dL_law_22 ?_
    refine g_icmpgt 870 dL_law_23 (by decide) (fun _ => ?_) (fun z => absurd (lawN hL z (by omega)) (by omega))
    refine g_iconst (v := 1) dL_law_870 (by decide) ?_
    exact g_ireturn dL_law_871 rfl rfl rfl
  | succ n ih =>
    intro j hi hl N F hj hI
    refine g_iload_n dL_law_18 rfl ?_
    refine g_aload_n dL_law_19 rfl ?_
    refine g_slen dL_law_20 ?_
    refine g_iconst (v := 4) dL_law_21 (by decide) ?_
    refine g_isub dL_law_22 ?_
    refine g_icmpgt 870 dL_law_23 (by decide) (fun _ => ?_) (fun z => ?_)
    · refine g_iconst (v := 1) dL_law_870 (by decide) ?_
      exact g_ireturn dL_law_871 rfl rfl rfl
    · have hle : 4 * j + 4 ≤ E.2.2.2.2.2.2.1 := lawN hL z (by omega)
      have ha0 : vp_in (nI (4 * j)) E.2.2.2.2.2.2.1 := vp_in_nI (by omega) (by omega)
      have ha1 : vp_in (nI (4 * j) + 1) E.2.2.2.2.2.2.1 := by
        rw [show nI (4 * j) + 1 = nI (4 * j + 1) from nI_add _ 1]
        exact vp_in_nI (by omega) (by omega)
      have ha2 : vp_in (nI (4 * j) + 2) E.2.2.2.2.2.2.1 := by
        rw [show nI (4 * j) + 2 = nI (4 * j + 2) from nI_add _ 2]
        exact vp_in_nI (by omega) (by omega)
      have ha3 : vp_in (nI (4 * j) + 3) E.2.2.2.2.2.2.1 := by
        rw [show nI (4 * j) + 3 = nI (4 * j + 3) from nI_add _ 3]
        exact vp_in_nI (by omega) (by omega)
      have hx : NEXT E l j := by
        intro hi2 hl2 N2 F2 hI2
        refine g_iinc (v := nI (4 * (j + 1))) dL_law_864 rfl (by rw [show Int32.ofInt 4 = nI 4 from by decide, nI_add]; congr 1) (by decide) rfl rfl ?_
        refine g_goto 18 dL_law_867 (by decide) ?_
        exact ih (j + 1) hi2 hl2 N2 F2 (by omega) hI2
      refine g_aload_n dL_law_26 rfl ?_
      refine g_iload_n dL_law_27 rfl ?_
      refine g_sald dL_law_28 ha0 ?_
      refine g_bipush (v := 31) dL_law_29 (by decide) ?_
      refine g_iand dL_law_31 ?_
      obtain ⟨k, hk, e⟩ := and31 (E.2.2.2.2.2.2.2 (nI (4 * j)).toNatClampNeg)
      rw [e]
      clear e
      match k, hk with
      | 0, _ => exact g_tableIn (off := 124) 156 dL_law_32 (by decide) (by decide) (by decide) (by decide) (lc_letter ha1 ha2 ha3 hI hx)
      | 1, _ => exact g_tableIn (off := 147) 179 dL_law_32 (by decide) (by decide) (by decide) (by decide) (lc_blank ha1 ha2 ha3 hI hx)
      | 2, _ => exact g_tableIn (off := 160) 192 dL_law_32 (by decide) (by decide) (by decide) (by decide) (lc_fault ha1 ha2 ha3 hI hx)
      | 3, _ => exact g_tableIn (off := 173) 205 dL_law_32 (by decide) (by decide) (by decide) (by decide) (lc_sea (by omega) ha1 ha2 ha3 hI hx)
      | 4, _ => exact g_tableIn (off := 186) 218 dL_law_32 (by decide) (by decide) (by decide) (by decide) (lc_person ha1 ha2 ha3 hI hx)
      | 5, _ => exact g_tableIn (off := 219) 251 dL_law_32 (by decide) (by decide) (by decide) (by decide) (lc_as ha1 ha2 ha3 hI hx)
      | 6, _ => exact g_tableIn (off := 252) 284 dL_law_32 (by decide) (by decide) (by decide) (by decide) (lc_choose ha1 ha2 ha3 hI hx)
      | 7, _ => exact g_tableIn (off := 285) 317 dL_law_32 (by decide) (by decide) (by decide) (by decide) (lc_paint ha1 ha2 ha3 hI hx)
      | 8, _ => exact g_tableIn (off := 318) 350 dL_law_32 (by decide) (by decide) (by decide) (by decide) (lc_limit ha1 ha2 ha3 hI hx)
      | 9, _ => exact g_tableIn (off := 341) 373 dL_law_32 (by decide) (by decide) (by decide) (by decide) (lc_show ha1 ha2 ha3 hI hx)
      | 10, _ => exact g_tableIn (off := 374) 406 dL_law_32 (by decide) (by decide) (by decide) (by decide) (lc_back ha1 ha2 ha3 hI hx)
      | 11, _ => exact g_tableIn (off := 407) 439 dL_law_32 (by decide) (by decide) (by decide) (by decide) (lc_day ha1 ha2 ha3 hI hx)
      | 12, _ => exact g_tableIn (off := 420) 452 dL_law_32 (by decide) (by decide) (by decide) (by decide) (lc_meet ha1 ha2 ha3 hI hx)
      | 13, _ => exact g_tableIn (off := 453) 485 dL_law_32 (by decide) (by decide) (by decide) (by decide) (lc_part ha1 ha2 ha3 hI hx)
      | 14, _ => exact g_tableIn (off := 476) 508 dL_law_32 (by decide) (by decide) (by decide) (by decide) (lc_lasting ha1 ha2 ha3 hI hx)
      | 15, _ => exact g_tableIn (off := 499) 531 dL_law_32 (by decide) (by decide) (by decide) (by decide) (lc_mutual ha1 ha2 ha3 hI hx)
      | 16, _ => exact g_tableIn (off := 512) 544 dL_law_32 (by decide) (by decide) (by decide) (by decide) (lc_comes ha1 ha2 ha3 hI hx)
      | 17, _ => exact g_tableIn (off := 555) 587 dL_law_32 (by decide) (by decide) (by decide) (by decide) (lc_best ha1 ha2 ha3 hI hx)
      | 18, _ => exact g_tableIn (off := 588) 620 dL_law_32 (by decide) (by decide) (by decide) (by decide) (lc_waiting ha1 ha2 ha3 hI hx)
      | 19, _ => exact g_tableIn (off := 631) 663 dL_law_32 (by decide) (by decide) (by decide) (by decide) (lc_howMany ha1 ha2 ha3 hI hx)
      | 20, _ => exact g_tableIn (off := 654) 686 dL_law_32 (by decide) (by decide) (by decide) (by decide) (lc_see ha1 ha2 ha3 hI hx)
      | 21, _ => exact g_tableIn (off := 713) 745 dL_law_32 (by decide) (by decide) (by decide) (by decide) (lc_forget ha1 ha2 ha3 hI hx)
      | 22, _ => exact g_tableIn (off := 726) 758 dL_law_32 (by decide) (by decide) (by decide) (by decide) (lc_seasons ha1 ha2 ha3 hI hx)
      | 23, _ => exact g_tableIn (off := 769) 801 dL_law_32 (by decide) (by decide) (by decide) (by decide) (lc_image ha1 ha2 ha3 hI hx)
      | 24, _ => exact g_tableIn (off := 782) 814 dL_law_32 (by decide) (by decide) (by decide) (by decide) (lc_restore ha1 ha2 ha3 hI hx)
      | 25, _ => exact g_tableIn (off := 795) 827 dL_law_32 (by decide) (by decide) (by decide) (by decide) (lc_count ha1 ha2 ha3 hI hx)
      | 26, _ => exact g_tableIn (off := 818) 850 dL_law_32 (by decide) (by decide) (by decide) (by decide) (lc_digest ha1 ha2 ha3 hI hx)
      | 27, _ => exact g_tableOut 864 dL_law_32 (by decide) (by decide) (hx hi hl N F hI.up)
      | 28, _ => exact g_tableOut 864 dL_law_32 (by decide) (by decide) (hx hi hl N F hI.up)
      | 29, _ => exact g_tableOut 864 dL_law_32 (by decide) (by decide) (hx hi hl N F hI.up)
      | 30, _ => exact g_tableOut 864 dL_law_32 (by decide) (by decide) (hx hi hl N F hI.up)
      | 31, _ => exact g_tableOut 864 dL_law_32 (by decide) (by decide) (hx hi hl N F hI.up)
      | m + 32, h => exact absurd h (by omega)
set_option maxRecDepth 100000 in
set_option maxHeartbeats 8000000 in
theorem g_law (hL : E.2.2.2.2.2.2.1 ≤ 256) : G E l 14 mL_law 0 [some (.ref 3000), none, none, none] [] 0 (H0 [] []) 83 843 LQ := by
  have f0 : FR 0 [] [] := ⟨fun q hq => absurd hq List.not_mem_nil, fun q hq => absurd hq List.not_mem_nil⟩
  refine n_new (w := 7) (mr := 82) (sr := 836) f0 dL_law_0 rfl n_L_7 tyX9_ok rfl (by decide) rfl dv_6 (by decide) ?_
  refine g_dup dL_law_3 rfl ?_
  refine g_callI0 (M' := mX9_init) (d' := 4) (mc' := 52) (ms' := 521) (mr := 30) (sr := 315) dL_law_4 l_L_9 s_mX9_init rfl rfl f_mX9_init (Nat.le_of_ble_eq_true rfl) (by decide) (cn_sea (f0.ups (m := 1) (by decide))) ?_
  rintro _ _ ⟨rfl, rfl⟩
  show G E l 14 mL_law 7 [some (.ref 3000), none, none, none] [.ref 0] 53 (H0 TIs TRs) 30 315 LQ
  refine g_astore_n dL_law_7 (by decide) rfl rfl ?_
  refine n_new (w := 58) (mr := 29) (sr := 257) frs dL_law_8 rfl n_L_10 tyX10_ok rfl (by decide) rfl dv_7 (by decide) ?_
  refine g_dup dL_law_11 rfl ?_
  refine g_callI0 (M' := mX10_init) (d' := 1) (mc' := 29) (ms' := 257) (mr := 0) (sr := 0) dL_law_12 l_L_12 s_mX10_init rfl rfl f_mX10_init (Nat.le_of_ble_eq_true rfl) (by decide) (cn_model (frs.ups (m := 54) (by decide))) ?_
  rintro _ _ ⟨rfl, rfl⟩
  show G E l 14 mL_law 15 [some (.ref 3000), some (.ref 0), none, none] [.ref 53] 83 (H0 TIs TRm) 0 0 LQ
  rw [H0_end]
  refine g_astore_n dL_law_15 (by decide) rfl rfl ?_
  refine g_iconst (v := 0) dL_law_16 (by decide) ?_
  refine g_istore_n dL_law_17 (by decide) rfl rfl ?_
  exact lp_law hL 65 0 _ _ 0 0 rfl inv_0
end LC
