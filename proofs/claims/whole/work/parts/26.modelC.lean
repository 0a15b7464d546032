section
variable {E : XE} {l : Launch} {hi : Nat → Nat → Int32} {hl : Nat → Nat → Int64}

/-! to ask, as the reference does it -/
def yesV (v : VV) (b : Int32) (i e : Nat) : Int32 := cntB (fun c => !decide (b &&& bitI c = 0) && vCont v i (nI c) (vPic v e)) 10
def worV (v : VV) (b : Int32) (i e : Nat) : Int32 := if v 3 i = v 3 e then 268435456 else if szF b - yesV v b i e < yesV v b i e then yesV v b i e else szF b - yesV v b i e
def mkV (v : VV) (b : Int32) (i : Nat) : Nat → Int32 × Int32
  | 0 => (-1, 268435456)
  | e + 1 => if worV v b i e < (mkV v b i e).2 then (nI e, worV v b i e) else mkV v b i e
def maskV (v : VV) (s1 s2 s3 : Nat → Int32) (N S i : Nat) : Int32 := if chV v s1 s2 s3 S i = 0 then -1 else (mkV v (chV v s1 s2 s3 S i) i N).1

set_option maxRecDepth 100000 in
set_option maxHeartbeats 4000000 in
theorem lp_askIn {N F : Nat} (hj : MO7 hi N F) {i e : Nat} (hi1 : i < N) (he : e < N) {b u w : Int32} {l8 : Option Value} {Q : Option Value → XH → Prop} (hk : ∀ l7, xcat2 l7 = false → G E l 7 mX10_askFor 79 [some (.ref 53), some (.int (nI i)), some (.int b), some (.int u), some (.int w), some (.int (nI e)), some (.int (yesV (vm hi N F) b i e)), l7, l8] [] 83 (hi, hl, RT) 0 0 Q) : ∀ (n c : Nat) (y : Int32), c + n = 10 → y = cntB (fun c => !decide (b &&& bitI c = 0) && vCont (vm hi N F) i (nI c) (vPic (vm hi N F) e)) c → G E l 7 mX10_askFor 35 [some (.ref 53), some (.int (nI i)), some (.int b), some (.int u), some (.int w), some (.int (nI e)), some (.int y), some (.int (nI c)), l8] [] 83 (hi, hl, RT) 0 0 Q := by
  have hN8 := hj.1
  intro n
  induction n with
  | zero =>
    intro c y hcn hy
    have hc10 : c = 10 := by omega
    subst hc10
    subst hy
    refine g_iload dX10_askFor_35 rfl ?_
    refine g_bipush (v := 9) dX10_askFor_37 (by decide) ?_
    refine g_icmpgt 79 dX10_askFor_39 (by decide) (fun c39 => ?_) (fun c39 => ?_)
    · skip
      exact hk _ rfl
    · skip
      exact absurd (by decide) c39
  | succ n ih =>
    intro c y hcn hy
    have hc : c < 10 := by omega
    refine g_iload dX10_askFor_35 rfl ?_
    refine g_bipush (v := 9) dX10_askFor_37 (by decide) ?_
    refine g_icmpgt 79 dX10_askFor_39 (by decide) (fun c39 => ?_) (fun c39 => ?_)
    · skip
      exact absurd ((nI_ltI (a := 9) (by decide) (by omega)).mp c39) (by omega)
    · skip
      refine g_iload dX10_askFor_42 rfl ?_
      refine g_iload_n dX10_askFor_44 rfl ?_
      refine g_iload dX10_askFor_45 rfl ?_
      refine g_callS2 (M' := mX10_isIn) (mc' := 0) (ms' := 0) dX10_askFor_47 l_X10_183 s_mX10_isIn f_mX10_isIn (Nat.le_of_ble_eq_true rfl) (by decide) (ct_isIn _ hc) ?_
      rintro _ _ ⟨rfl, rfl⟩
      refine g_ifeq 69 dX10_askFor_50 (by decide) (fun c50 => ?_) (fun c50 => ?_)
      · skip
        refine g_iconst (v := 0) dX10_askFor_69 (by decide) ?_
        refine g_iadd dX10_askFor_70 ?_
        refine g_istore dX10_askFor_71 (by decide) rfl rfl ?_
        refine g_iinc dX10_askFor_73 rfl (nI_inc c) (by decide) rfl rfl ?_
        refine g_goto 35 dX10_askFor_76 (by decide) ?_
        exact ih (c + 1) _ (by omega) (by rw [hy, cntB]; simp [bI_0.mp c50, bI])
      · skip
        refine g_aload_n dX10_askFor_53 rfl ?_
        refine g_iload_n dX10_askFor_54 rfl ?_
        refine g_iload dX10_askFor_55 rfl ?_
        refine g_iload dX10_askFor_57 rfl ?_
        refine g_callV3 (M' := mX10_wouldLike) (mc' := 0) (ms' := 0) dX10_askFor_59 l_X10_307 s_mX10_wouldLike (by decide) rfl rfl f_mX10_wouldLike (Nat.le_of_ble_eq_true rfl) (by decide) (ct_wouldLike hj hi1 he _) ?_
        rintro _ _ ⟨rfl, rfl⟩
        refine g_ifeq 69 dX10_askFor_62 (by decide) (fun c62 => ?_) (fun c62 => ?_)
        · skip
          refine g_iconst (v := 0) dX10_askFor_69 (by decide) ?_
          refine g_iadd dX10_askFor_70 ?_
          refine g_istore dX10_askFor_71 (by decide) rfl rfl ?_
          refine g_iinc dX10_askFor_73 rfl (nI_inc c) (by decide) rfl rfl ?_
          refine g_goto 35 dX10_askFor_76 (by decide) ?_
          exact ih (c + 1) _ (by omega) (by rw [hy, cntB]; simp [bI_0.mp c62, bI])
        · skip
          refine g_iconst (v := 1) dX10_askFor_65 (by decide) ?_
          refine g_goto 70 dX10_askFor_66 (by decide) ?_
          refine g_iadd dX10_askFor_70 ?_
          refine g_istore dX10_askFor_71 (by decide) rfl rfl ?_
          refine g_iinc dX10_askFor_73 rfl (nI_inc c) (by decide) rfl rfl ?_
          refine g_goto 35 dX10_askFor_76 (by decide) ?_
          exact ih (c + 1) _ (by omega) (by rw [hy, cntB]; simp [bI_n.mp c50, bI_n.mp c62, bI])

set_option maxRecDepth 100000 in
set_option maxHeartbeats 4000000 in
theorem lp_ask {N F : Nat} (hj : MO7 hi N F) {S : Nat} (hse : SE (hi 64) (hi 65) S N) (hS : hi 53 18 = nI S) {i : Nat} (hi1 : i < N) : ∀ (n e : Nat) (u w : Int32) (l6 l7 l8 : Option Value), e + n = N → ((chV (vm hi N F) (hi 63) (hi 64) (hi 65) S i) = 0 → u = -1) → (¬ (chV (vm hi N F) (hi 63) (hi 64) (hi 65) S i) = 0 → u = (mkV (vm hi N F) (chV (vm hi N F) (hi 63) (hi 64) (hi 65) S i) i e).1 ∧ w = (mkV (vm hi N F) (chV (vm hi N F) (hi 63) (hi 64) (hi 65) S i) i e).2) → G E l 7 mX10_askFor 16 [some (.ref 53), some (.int (nI i)), some (.int (chV (vm hi N F) (hi 63) (hi 64) (hi 65) S i)), some (.int u), some (.int w), some (.int (nI e)), l6, l7, l8] [] 83 (hi, hl, RT) 0 0 (fun r h' => r = some (.int (maskV (vm hi N F) (hi 63) (hi 64) (hi 65) N S i)) ∧ h' = (hi, hl, RT)) := by
  have hN8 := hj.1
  have hN := hj.2.2.1
  intro n
  induction n with
  | zero =>
    intro e u w l6 l7 l8 hen h0 h1
    have heN : e = N := by omega
    refine g_iload dX10_askFor_16 rfl ?_
    refine g_aload_n dX10_askFor_18 rfl ?_
    refine g_geti dX10_askFor_19 k_X10_140 rfl (by decide) rfl ?_
    refine g_icmpge 156 dX10_askFor_22 (by decide) (fun c22 => ?_) (fun c22 => ?_)
    · skip
      refine g_iload_n dX10_askFor_156 rfl ?_
      exact g_ireturn dX10_askFor_157 rfl rfl ⟨by by_cases q : (chV (vm hi N F) (hi 63) (hi 64) (hi 65) S i) = 0; (rw [maskV, if_pos q, h0 q]); (rw [maskV, if_neg q, (h1 q).1, heN]), rfl⟩
    · skip
      exact absurd (by show hi 53 2 ≤ nI e; rw [hN, heN]; exact nI_le (Nat.le_refl _) (by omega)) c22
  | succ n ih =>
    intro e u w l6 l7 l8 hen h0 h1
    have heN : e < N := by omega
    refine g_iload dX10_askFor_16 rfl ?_
    refine g_aload_n dX10_askFor_18 rfl ?_
    refine g_geti dX10_askFor_19 k_X10_140 rfl (by decide) rfl ?_
    refine g_icmpge 156 dX10_askFor_22 (by decide) (fun c22 => ?_) (fun c22 => ?_)
    · skip
      exact absurd (ge_out hN c22 (by omega) (by omega)) (by omega)
    · skip
      refine g_iload_n dX10_askFor_25 rfl ?_
      refine g_ifeq 156 dX10_askFor_26 (by decide) (fun c26 => ?_) (fun c26 => ?_)
      · skip
        refine g_iload_n dX10_askFor_156 rfl ?_
        exact g_ireturn dX10_askFor_157 rfl rfl ⟨by rw [maskV, if_pos c26, h0 c26], rfl⟩
      · skip
        obtain ⟨hu, hw⟩ := h1 c26
        refine g_iconst (v := 0) dX10_askFor_29 (by decide) ?_
        refine g_istore dX10_askFor_30 (by decide) rfl rfl ?_
        refine g_iconst (v := 0) dX10_askFor_32 (by decide) ?_
        refine g_istore dX10_askFor_33 (by decide) rfl rfl ?_
        refine lp_askIn hj hi1 heN (fun l7 hx7 => ?_) 10 0 0 (by omega) rfl
        refine g_iload_n dX10_askFor_79 rfl ?_
        refine g_callS1 (M' := mX10_size) (mc' := 0) (ms' := 0) dX10_askFor_80 l_X10_279 s_mX10_size f_mX10_size (Nat.le_of_ble_eq_true rfl) (by decide) (ct_size _) ?_
        rintro _ _ ⟨rfl, rfl⟩
        refine g_iload dX10_askFor_83 rfl ?_
        refine g_isub dX10_askFor_85 ?_
        refine g_istore dX10_askFor_86 (by decide) rfl rfl ?_
        refine g_aload_n dX10_askFor_88 rfl ?_
        refine g_iload_n dX10_askFor_89 rfl ?_
        refine g_iload dX10_askFor_90 rfl ?_
        refine g_callV2 (M' := mX10_areOther) (mc' := 0) (ms' := 0) dX10_askFor_92 l_X10_174 s_mX10_areOther (by decide) rfl rfl f_mX10_areOther (Nat.le_of_ble_eq_true rfl) (by decide) (ct_areOther hj hi1 heN) ?_
        rintro _ _ ⟨rfl, rfl⟩
        refine g_ifne 104 dX10_askFor_95 (by decide) (fun c95 => ?_) (fun c95 => ?_)
        · skip
          refine g_iload dX10_askFor_104 rfl ?_
          refine g_iload dX10_askFor_106 rfl ?_
          refine g_icmple 116 dX10_askFor_108 (by decide) (fun c108 => ?_) (fun c108 => ?_)
          · skip
            refine g_iload dX10_askFor_116 rfl ?_
            refine g_istore dX10_askFor_118 (by decide) rfl rfl ?_
            refine g_iload dX10_askFor_120 rfl ?_
            refine g_iload dX10_askFor_122 rfl ?_
            refine g_icmpge 132 dX10_askFor_124 (by decide) (fun c124 => ?_) (fun c124 => ?_)
            · skip
              refine g_iload_n dX10_askFor_132 rfl ?_
              refine g_istore_n dX10_askFor_133 (by decide) rfl rfl ?_
              refine g_iload dX10_askFor_134 rfl ?_
              refine g_iload dX10_askFor_136 rfl ?_
              refine g_icmpge 146 dX10_askFor_138 (by decide) (fun c138 => ?_) (fun c138 => ?_)
              · skip
                refine g_iload dX10_askFor_146 rfl ?_
                refine g_istore dX10_askFor_148 (by decide) rfl rfl ?_
                refine g_iinc dX10_askFor_150 rfl (nI_inc e) (by decide) rfl rfl ?_
                refine g_goto 16 dX10_askFor_153 (by decide) ?_
                have ew : worV (vm hi N F) (chV (vm hi N F) (hi 63) (hi 64) (hi 65) S i) i e = (szF (chV (vm hi N F) (hi 63) (hi 64) (hi 65) S i) - yesV (vm hi N F) (chV (vm hi N F) (hi 63) (hi 64) (hi 65) S i) i e) := by rw [worV, if_neg (by simpa using bI_n.mp c95), if_neg (Int32.not_lt.mpr c108)]
                exact ih (e + 1) _ _ _ _ _ (by omega) (fun q => absurd q c26) (fun _ => by rw [mkV, if_neg (by rw [ew, ← hw]; exact Int32.not_lt.mpr c124)]; exact ⟨hu, hw⟩)
              · skip
                refine g_iload dX10_askFor_141 rfl ?_
                refine g_goto 148 dX10_askFor_143 (by decide) ?_
                refine g_istore dX10_askFor_148 (by decide) rfl rfl ?_
                refine g_iinc dX10_askFor_150 rfl (nI_inc e) (by decide) rfl rfl ?_
                refine g_goto 16 dX10_askFor_153 (by decide) ?_
                exact absurd c124 c138
            · skip
              refine g_iload dX10_askFor_127 rfl ?_
              refine g_goto 133 dX10_askFor_129 (by decide) ?_
              refine g_istore_n dX10_askFor_133 (by decide) rfl rfl ?_
              refine g_iload dX10_askFor_134 rfl ?_
              refine g_iload dX10_askFor_136 rfl ?_
              refine g_icmpge 146 dX10_askFor_138 (by decide) (fun c138 => ?_) (fun c138 => ?_)
              · skip
                refine g_iload dX10_askFor_146 rfl ?_
                refine g_istore dX10_askFor_148 (by decide) rfl rfl ?_
                refine g_iinc dX10_askFor_150 rfl (nI_inc e) (by decide) rfl rfl ?_
                refine g_goto 16 dX10_askFor_153 (by decide) ?_
                exact absurd c138 c124
              · skip
                refine g_iload dX10_askFor_141 rfl ?_
                refine g_goto 148 dX10_askFor_143 (by decide) ?_
                refine g_istore dX10_askFor_148 (by decide) rfl rfl ?_
                refine g_iinc dX10_askFor_150 rfl (nI_inc e) (by decide) rfl rfl ?_
                refine g_goto 16 dX10_askFor_153 (by decide) ?_
                have ew : worV (vm hi N F) (chV (vm hi N F) (hi 63) (hi 64) (hi 65) S i) i e = (szF (chV (vm hi N F) (hi 63) (hi 64) (hi 65) S i) - yesV (vm hi N F) (chV (vm hi N F) (hi 63) (hi 64) (hi 65) S i) i e) := by rw [worV, if_neg (by simpa using bI_n.mp c95), if_neg (Int32.not_lt.mpr c108)]
                exact ih (e + 1) _ _ _ _ _ (by omega) (fun q => absurd q c26) (fun _ => by rw [mkV, if_pos (by rw [ew, ← hw]; exact Int32.not_le.mp c124)]; exact ⟨rfl, ew.symm⟩)
          · skip
            refine g_iload dX10_askFor_111 rfl ?_
            refine g_goto 118 dX10_askFor_113 (by decide) ?_
            refine g_istore dX10_askFor_118 (by decide) rfl rfl ?_
            refine g_iload dX10_askFor_120 rfl ?_
            refine g_iload dX10_askFor_122 rfl ?_
            refine g_icmpge 132 dX10_askFor_124 (by decide) (fun c124 => ?_) (fun c124 => ?_)
            · skip
              refine g_iload_n dX10_askFor_132 rfl ?_
              refine g_istore_n dX10_askFor_133 (by decide) rfl rfl ?_
              refine g_iload dX10_askFor_134 rfl ?_
              refine g_iload dX10_askFor_136 rfl ?_
              refine g_icmpge 146 dX10_askFor_138 (by decide) (fun c138 => ?_) (fun c138 => ?_)
              · skip
                refine g_iload dX10_askFor_146 rfl ?_
                refine g_istore dX10_askFor_148 (by decide) rfl rfl ?_
                refine g_iinc dX10_askFor_150 rfl (nI_inc e) (by decide) rfl rfl ?_
                refine g_goto 16 dX10_askFor_153 (by decide) ?_
                have ew : worV (vm hi N F) (chV (vm hi N F) (hi 63) (hi 64) (hi 65) S i) i e = (yesV (vm hi N F) (chV (vm hi N F) (hi 63) (hi 64) (hi 65) S i) i e) := by rw [worV, if_neg (by simpa using bI_n.mp c95), if_pos (Int32.not_le.mp c108)]
                exact ih (e + 1) _ _ _ _ _ (by omega) (fun q => absurd q c26) (fun _ => by rw [mkV, if_neg (by rw [ew, ← hw]; exact Int32.not_lt.mpr c124)]; exact ⟨hu, hw⟩)
              · skip
                refine g_iload dX10_askFor_141 rfl ?_
                refine g_goto 148 dX10_askFor_143 (by decide) ?_
                refine g_istore dX10_askFor_148 (by decide) rfl rfl ?_
                refine g_iinc dX10_askFor_150 rfl (nI_inc e) (by decide) rfl rfl ?_
                refine g_goto 16 dX10_askFor_153 (by decide) ?_
                exact absurd c124 c138
            · skip
              refine g_iload dX10_askFor_127 rfl ?_
              refine g_goto 133 dX10_askFor_129 (by decide) ?_
              refine g_istore_n dX10_askFor_133 (by decide) rfl rfl ?_
              refine g_iload dX10_askFor_134 rfl ?_
              refine g_iload dX10_askFor_136 rfl ?_
              refine g_icmpge 146 dX10_askFor_138 (by decide) (fun c138 => ?_) (fun c138 => ?_)
              · skip
                refine g_iload dX10_askFor_146 rfl ?_
                refine g_istore dX10_askFor_148 (by decide) rfl rfl ?_
                refine g_iinc dX10_askFor_150 rfl (nI_inc e) (by decide) rfl rfl ?_
                refine g_goto 16 dX10_askFor_153 (by decide) ?_
                exact absurd c138 c124
              · skip
                refine g_iload dX10_askFor_141 rfl ?_
                refine g_goto 148 dX10_askFor_143 (by decide) ?_
                refine g_istore dX10_askFor_148 (by decide) rfl rfl ?_
                refine g_iinc dX10_askFor_150 rfl (nI_inc e) (by decide) rfl rfl ?_
                refine g_goto 16 dX10_askFor_153 (by decide) ?_
                have ew : worV (vm hi N F) (chV (vm hi N F) (hi 63) (hi 64) (hi 65) S i) i e = (yesV (vm hi N F) (chV (vm hi N F) (hi 63) (hi 64) (hi 65) S i) i e) := by rw [worV, if_neg (by simpa using bI_n.mp c95), if_pos (Int32.not_le.mp c108)]
                exact ih (e + 1) _ _ _ _ _ (by omega) (fun q => absurd q c26) (fun _ => by rw [mkV, if_pos (by rw [ew, ← hw]; exact Int32.not_le.mp c124)]; exact ⟨rfl, ew.symm⟩)
        · skip
          refine g_ldcw dX10_askFor_98 c_X10_310 ?_
          refine g_goto 118 dX10_askFor_101 (by decide) ?_
          refine g_istore dX10_askFor_118 (by decide) rfl rfl ?_
          refine g_iload dX10_askFor_120 rfl ?_
          refine g_iload dX10_askFor_122 rfl ?_
          refine g_icmpge 132 dX10_askFor_124 (by decide) (fun c124 => ?_) (fun c124 => ?_)
          · skip
            refine g_iload_n dX10_askFor_132 rfl ?_
            refine g_istore_n dX10_askFor_133 (by decide) rfl rfl ?_
            refine g_iload dX10_askFor_134 rfl ?_
            refine g_iload dX10_askFor_136 rfl ?_
            refine g_icmpge 146 dX10_askFor_138 (by decide) (fun c138 => ?_) (fun c138 => ?_)
            · skip
              refine g_iload dX10_askFor_146 rfl ?_
              refine g_istore dX10_askFor_148 (by decide) rfl rfl ?_
              refine g_iinc dX10_askFor_150 rfl (nI_inc e) (by decide) rfl rfl ?_
              refine g_goto 16 dX10_askFor_153 (by decide) ?_
              have ew : worV (vm hi N F) (chV (vm hi N F) (hi 63) (hi 64) (hi 65) S i) i e = 268435456 := by rw [worV, if_pos (by simpa using bI_0.mp c95)]
              exact ih (e + 1) _ _ _ _ _ (by omega) (fun q => absurd q c26) (fun _ => by rw [mkV, if_neg (by rw [ew, ← hw]; exact Int32.not_lt.mpr c124)]; exact ⟨hu, hw⟩)
            · skip
              refine g_iload dX10_askFor_141 rfl ?_
              refine g_goto 148 dX10_askFor_143 (by decide) ?_
              refine g_istore dX10_askFor_148 (by decide) rfl rfl ?_
              refine g_iinc dX10_askFor_150 rfl (nI_inc e) (by decide) rfl rfl ?_
              refine g_goto 16 dX10_askFor_153 (by decide) ?_
              exact absurd c124 c138
          · skip
            refine g_iload dX10_askFor_127 rfl ?_
            refine g_goto 133 dX10_askFor_129 (by decide) ?_
            refine g_istore_n dX10_askFor_133 (by decide) rfl rfl ?_
            refine g_iload dX10_askFor_134 rfl ?_
            refine g_iload dX10_askFor_136 rfl ?_
            refine g_icmpge 146 dX10_askFor_138 (by decide) (fun c138 => ?_) (fun c138 => ?_)
            · skip
              refine g_iload dX10_askFor_146 rfl ?_
              refine g_istore dX10_askFor_148 (by decide) rfl rfl ?_
              refine g_iinc dX10_askFor_150 rfl (nI_inc e) (by decide) rfl rfl ?_
              refine g_goto 16 dX10_askFor_153 (by decide) ?_
              exact absurd c138 c124
            · skip
              refine g_iload dX10_askFor_141 rfl ?_
              refine g_goto 148 dX10_askFor_143 (by decide) ?_
              refine g_istore dX10_askFor_148 (by decide) rfl rfl ?_
              refine g_iinc dX10_askFor_150 rfl (nI_inc e) (by decide) rfl rfl ?_
              refine g_goto 16 dX10_askFor_153 (by decide) ?_
              have ew : worV (vm hi N F) (chV (vm hi N F) (hi 63) (hi 64) (hi 65) S i) i e = 268435456 := by rw [worV, if_pos (by simpa using bI_0.mp c95)]
              exact ih (e + 1) _ _ _ _ _ (by omega) (fun q => absurd q c26) (fun _ => by rw [mkV, if_pos (by rw [ew, ← hw]; exact Int32.not_le.mp c124)]; exact ⟨rfl, ew.symm⟩)

set_option maxRecDepth 100000 in
set_option maxHeartbeats 4000000 in
theorem ct_askFor {N F : Nat} (hj : MO7 hi N F) {S : Nat} (hse : SE (hi 64) (hi 65) S N) (hS : hi 53 18 = nI S) {i : Nat} (hi1 : i < N) : MC E l 7 mX10_askFor [.ref 53, .int (nI i)] 83 (hi, hl, RT) 0 0 (fun r h' => r = some (.int (maskV (vm hi N F) (hi 63) (hi 64) (hi 65) N S i)) ∧ h' = (hi, hl, RT)) := by
  refine MC.of [some (.ref 53), some (.int (nI i)), none, none, none, none, none, none, none] (by decide) rfl (Nat.le_of_ble_eq_true rfl) ?_
  refine g_aload_n dX10_askFor_0 rfl ?_
  refine g_iload_n dX10_askFor_1 rfl ?_
  refine g_callV1 (M' := mX10_choosiesOf) (mc' := 0) (ms' := 0) dX10_askFor_2 l_X10_195 s_mX10_choosiesOf (by decide) rfl rfl f_mX10_choosiesOf (Nat.le_of_ble_eq_true rfl) (by decide) (ct_mChoosies hj hse hS hi1) ?_
  rintro _ _ ⟨rfl, rfl⟩
  refine g_istore_n dX10_askFor_5 (by decide) rfl rfl ?_
  refine g_iconst (v := -1) dX10_askFor_6 (by decide) ?_
  refine g_istore_n dX10_askFor_7 (by decide) rfl rfl ?_
  refine g_ldcw dX10_askFor_8 c_X10_310 ?_
  refine g_istore dX10_askFor_11 (by decide) rfl rfl ?_
  refine g_iconst (v := 0) dX10_askFor_13 (by decide) ?_
  refine g_istore dX10_askFor_14 (by decide) rfl rfl ?_
  exact lp_ask hj hse hS hi1 N 0 _ _ none none none (by omega) (fun _ => rfl) (fun _ => ⟨rfl, rfl⟩)

def pnV (v : VV) (s1 s2 s3 : Nat → Int32) (N S i : Nat) : Nat → Int32
  | 0 => v 2 i | 1 => v 4 i | 2 => v 5 i | 3 => v 6 i | 4 => v 3 i
  | 5 => if vGone v i = true then 2 else if v 11 i = -1 then 0 else 1
  | 6 => v 11 i
  | 7 => orB (fun k => vLikes v i k) bitI N
  | 8 => v 7 i | 9 => v 8 i
  | 10 => orB (fun k => vMatch v i k) bitI N
  | 11 => v 9 i | 12 => v 10 i | 13 => chV v s1 s2 s3 S i | _ => maskV v s1 s2 s3 N S i

set_option maxRecDepth 100000 in
set_option maxHeartbeats 4000000 in
theorem ct_personNow {N F : Nat} (hj : MO7 hi N F) {S : Nat} (hse : SE (hi 64) (hi 65) S N) (hS : hi 53 18 = nI S) {i : Nat} (hi1 : i < N) (k : Nat) (hk : k < 15) : MC E l 8 mX10_personNow [.ref 53, .int (nI i), .int (nI k)] 83 (hi, hl, RT) 0 0 (fun r h' => r = some (.int (pnV (vm hi N F) (hi 63) (hi 64) (hi 65) N S i k)) ∧ h' = (hi, hl, RT)) := by
  refine MC.of [some (.ref 53), some (.int (nI i)), some (.int (nI k))] (by decide) rfl (Nat.le_of_ble_eq_true rfl) ?_
  have hj0 := hj
  obtain ⟨hN8, hFN, hN, hF⟩ := hj
  have eci : (nI i).toNatClampNeg = i := nI_clamp (by omega)
  have m2i := m_2 (hi := hi) (F := F) hi1
  have m4i := m_4 (hi := hi) (F := F) hi1
  have m5i := m_5 (hi := hi) (F := F) hi1
  have m6i := m_6 (hi := hi) (F := F) hi1
  have m7i := m_7 (hi := hi) (F := F) hi1
  have m8i := m_8 (hi := hi) (F := F) hi1
  have m9i := m_9 (hi := hi) (F := F) hi1
  have m10i := m_10 (hi := hi) (F := F) hi1
  have m11i := m_11 (hi := hi) (F := F) hi1
  refine g_iload_n dX10_personNow_0 rfl ?_
  match k, hk with
  | 0, hk =>
    refine g_tableIn (off := 71) 72 dX10_personNow_1 (by decide) (by decide) (by decide) (by decide) ?_
    refine g_aload_n dX10_personNow_72 rfl ?_
    refine g_getr dX10_personNow_73 k_X10_7 rfl (by decide) rfl rfl ?_
    refine g_iload_n dX10_personNow_76 rfl ?_
    refine g_iald dX10_personNow_77 (by decide) rfl (vp_in_nI (by omega) (by decide)) ?_
    exact g_ireturn dX10_personNow_78 rfl rfl ⟨by show _ = some (Value.int (vm hi N F 2 i)); rw [m2i, eci], rfl⟩
  | 1, hk =>
    refine g_tableIn (off := 78) 79 dX10_personNow_1 (by decide) (by decide) (by decide) (by decide) ?_
    refine g_aload_n dX10_personNow_79 rfl ?_
    refine g_getr dX10_personNow_80 k_X10_13 rfl (by decide) rfl rfl ?_
    refine g_iload_n dX10_personNow_83 rfl ?_
    refine g_iald dX10_personNow_84 (by decide) rfl (vp_in_nI (by omega) (by decide)) ?_
    exact g_ireturn dX10_personNow_85 rfl rfl ⟨by show _ = some (Value.int (vm hi N F 4 i)); rw [m4i, eci], rfl⟩
  | 2, hk =>
    refine g_tableIn (off := 85) 86 dX10_personNow_1 (by decide) (by decide) (by decide) (by decide) ?_
    refine g_aload_n dX10_personNow_86 rfl ?_
    refine g_getr dX10_personNow_87 k_X10_16 rfl (by decide) rfl rfl ?_
    refine g_iload_n dX10_personNow_90 rfl ?_
    refine g_iald dX10_personNow_91 (by decide) rfl (vp_in_nI (by omega) (by decide)) ?_
    exact g_ireturn dX10_personNow_92 rfl rfl ⟨by show _ = some (Value.int (vm hi N F 5 i)); rw [m5i, eci], rfl⟩
  | 3, hk =>
    refine g_tableIn (off := 92) 93 dX10_personNow_1 (by decide) (by decide) (by decide) (by decide) ?_
    refine g_aload_n dX10_personNow_93 rfl ?_
    refine g_getr dX10_personNow_94 k_X10_19 rfl (by decide) rfl rfl ?_
    refine g_iload_n dX10_personNow_97 rfl ?_
    refine g_iald dX10_personNow_98 (by decide) rfl (vp_in_nI (by omega) (by decide)) ?_
    exact g_ireturn dX10_personNow_99 rfl rfl ⟨by show _ = some (Value.int (vm hi N F 6 i)); rw [m6i, eci], rfl⟩
  | 4, hk =>
    refine g_tableIn (off := 99) 100 dX10_personNow_1 (by decide) (by decide) (by decide) (by decide) ?_
    refine g_aload_n dX10_personNow_100 rfl ?_
    refine g_iload_n dX10_personNow_101 rfl ?_
    refine g_callV1 (M' := mX10_sideOf) (mc' := 0) (ms' := 0) dX10_personNow_102 l_X10_171 s_mX10_sideOf (by decide) rfl rfl f_mX10_sideOf (Nat.le_of_ble_eq_true rfl) (by decide) (ct_sideOf hj0 hi1) ?_
    rintro _ _ ⟨rfl, rfl⟩
    exact g_ireturn dX10_personNow_105 rfl rfl ⟨rfl, rfl⟩
  | 5, hk =>
    refine g_tableIn (off := 105) 106 dX10_personNow_1 (by decide) (by decide) (by decide) (by decide) ?_
    refine g_aload_n dX10_personNow_106 rfl ?_
    refine g_getr dX10_personNow_107 k_X10_7 rfl (by decide) rfl rfl ?_
    refine g_iload_n dX10_personNow_110 rfl ?_
    refine g_iald dX10_personNow_111 (by decide) rfl (vp_in_nI (by omega) (by decide)) ?_
    refine g_iconst (v := 4) dX10_personNow_112 (by decide) ?_
    refine g_icmpne 120 dX10_personNow_113 (by decide) (fun c113 => ?_) (fun c113 => ?_)
    · skip
      refine g_aload_n dX10_personNow_120 rfl ?_
      refine g_getr dX10_personNow_121 k_X10_34 rfl (by decide) rfl rfl ?_
      refine g_iload_n dX10_personNow_124 rfl ?_
      refine g_iald dX10_personNow_125 (by decide) rfl (vp_in_nI (by omega) (by decide)) ?_
      refine g_iconst (v := -1) dX10_personNow_126 (by decide) ?_
      refine g_icmpne 134 dX10_personNow_127 (by decide) (fun c127 => ?_) (fun c127 => ?_)
      · skip
        refine g_iconst (v := 1) dX10_personNow_134 (by decide) ?_
        exact g_ireturn dX10_personNow_135 rfl rfl ⟨by show _ = some (Value.int (if vGone (vm hi N F) i = true then 2 else if vm hi N F 11 i = -1 then 0 else 1)); simp_all [vGone], rfl⟩
      · skip
        refine g_iconst (v := 0) dX10_personNow_130 (by decide) ?_
        refine g_goto 135 dX10_personNow_131 (by decide) ?_
        exact g_ireturn dX10_personNow_135 rfl rfl ⟨by show _ = some (Value.int (if vGone (vm hi N F) i = true then 2 else if vm hi N F 11 i = -1 then 0 else 1)); simp_all [vGone], rfl⟩
    · skip
      refine g_iconst (v := 2) dX10_personNow_116 (by decide) ?_
      refine g_goto 135 dX10_personNow_117 (by decide) ?_
      exact g_ireturn dX10_personNow_135 rfl rfl ⟨by show _ = some (Value.int (if vGone (vm hi N F) i = true then 2 else if vm hi N F 11 i = -1 then 0 else 1)); simp_all [vGone], rfl⟩
  | 6, hk =>
    refine g_tableIn (off := 135) 136 dX10_personNow_1 (by decide) (by decide) (by decide) (by decide) ?_
    refine g_aload_n dX10_personNow_136 rfl ?_
    refine g_getr dX10_personNow_137 k_X10_34 rfl (by decide) rfl rfl ?_
    refine g_iload_n dX10_personNow_140 rfl ?_
    refine g_iald dX10_personNow_141 (by decide) rfl (vp_in_nI (by omega) (by decide)) ?_
    exact g_ireturn dX10_personNow_142 rfl rfl ⟨by show _ = some (Value.int (vm hi N F 11 i)); rw [m11i, eci], rfl⟩
  | 7, hk =>
    refine g_tableIn (off := 142) 143 dX10_personNow_1 (by decide) (by decide) (by decide) (by decide) ?_
    refine g_aload_n dX10_personNow_143 rfl ?_
    refine g_iload_n dX10_personNow_144 rfl ?_
    refine g_callV1 (M' := mX10_likedBy) (mc' := 0) (ms' := 0) dX10_personNow_145 l_X10_189 s_mX10_likedBy (by decide) rfl rfl f_mX10_likedBy (Nat.le_of_ble_eq_true rfl) (by decide) (ct_mLikedBy hj0 hi1) ?_
    rintro _ _ ⟨rfl, rfl⟩
    exact g_ireturn dX10_personNow_148 rfl rfl ⟨rfl, rfl⟩
  | 8, hk =>
    refine g_tableIn (off := 148) 149 dX10_personNow_1 (by decide) (by decide) (by decide) (by decide) ?_
    refine g_aload_n dX10_personNow_149 rfl ?_
    refine g_getr dX10_personNow_150 k_X10_22 rfl (by decide) rfl rfl ?_
    refine g_iload_n dX10_personNow_153 rfl ?_
    refine g_iald dX10_personNow_154 (by decide) rfl (vp_in_nI (by omega) (by decide)) ?_
    exact g_ireturn dX10_personNow_155 rfl rfl ⟨by show _ = some (Value.int (vm hi N F 7 i)); rw [m7i, eci], rfl⟩
  | 9, hk =>
    refine g_tableIn (off := 155) 156 dX10_personNow_1 (by decide) (by decide) (by decide) (by decide) ?_
    refine g_aload_n dX10_personNow_156 rfl ?_
    refine g_getr dX10_personNow_157 k_X10_25 rfl (by decide) rfl rfl ?_
    refine g_iload_n dX10_personNow_160 rfl ?_
    refine g_iald dX10_personNow_161 (by decide) rfl (vp_in_nI (by omega) (by decide)) ?_
    exact g_ireturn dX10_personNow_162 rfl rfl ⟨by show _ = some (Value.int (vm hi N F 8 i)); rw [m8i, eci], rfl⟩
  | 10, hk =>
    refine g_tableIn (off := 162) 163 dX10_personNow_1 (by decide) (by decide) (by decide) (by decide) ?_
    refine g_aload_n dX10_personNow_163 rfl ?_
    refine g_iload_n dX10_personNow_164 rfl ?_
    refine g_callV1 (M' := mX10_matchedWith) (mc' := 0) (ms' := 0) dX10_personNow_165 l_X10_192 s_mX10_matchedWith (by decide) rfl rfl f_mX10_matchedWith (Nat.le_of_ble_eq_true rfl) (by decide) (ct_mMatchedWith hj0 hi1) ?_
    rintro _ _ ⟨rfl, rfl⟩
    exact g_ireturn dX10_personNow_168 rfl rfl ⟨rfl, rfl⟩
  | 11, hk =>
    refine g_tableIn (off := 168) 169 dX10_personNow_1 (by decide) (by decide) (by decide) (by decide) ?_
    refine g_aload_n dX10_personNow_169 rfl ?_
    refine g_getr dX10_personNow_170 k_X10_28 rfl (by decide) rfl rfl ?_
    refine g_iload_n dX10_personNow_173 rfl ?_
    refine g_iald dX10_personNow_174 (by decide) rfl (vp_in_nI (by omega) (by decide)) ?_
    exact g_ireturn dX10_personNow_175 rfl rfl ⟨by show _ = some (Value.int (vm hi N F 9 i)); rw [m9i, eci], rfl⟩
  | 12, hk =>
    refine g_tableIn (off := 175) 176 dX10_personNow_1 (by decide) (by decide) (by decide) (by decide) ?_
    refine g_aload_n dX10_personNow_176 rfl ?_
    refine g_getr dX10_personNow_177 k_X10_31 rfl (by decide) rfl rfl ?_
    refine g_iload_n dX10_personNow_180 rfl ?_
    refine g_iald dX10_personNow_181 (by decide) rfl (vp_in_nI (by omega) (by decide)) ?_
    exact g_ireturn dX10_personNow_182 rfl rfl ⟨by show _ = some (Value.int (vm hi N F 10 i)); rw [m10i, eci], rfl⟩
  | 13, hk =>
    refine g_tableIn (off := 182) 183 dX10_personNow_1 (by decide) (by decide) (by decide) (by decide) ?_
    refine g_aload_n dX10_personNow_183 rfl ?_
    refine g_iload_n dX10_personNow_184 rfl ?_
    refine g_callV1 (M' := mX10_choosiesOf) (mc' := 0) (ms' := 0) dX10_personNow_185 l_X10_195 s_mX10_choosiesOf (by decide) rfl rfl f_mX10_choosiesOf (Nat.le_of_ble_eq_true rfl) (by decide) (ct_mChoosies hj0 hse hS hi1) ?_
    rintro _ _ ⟨rfl, rfl⟩
    exact g_ireturn dX10_personNow_188 rfl rfl ⟨rfl, rfl⟩
  | 14, hk =>
    refine g_tableOut 189 dX10_personNow_1 (Or.inr (by decide)) (by decide) ?_
    refine g_aload_n dX10_personNow_189 rfl ?_
    refine g_iload_n dX10_personNow_190 rfl ?_
    refine g_callV1 (M' := mX10_askFor) (mc' := 0) (ms' := 0) dX10_personNow_191 l_X10_198 s_mX10_askFor (by decide) rfl rfl f_mX10_askFor (Nat.le_of_ble_eq_true rfl) (by decide) (ct_askFor hj0 hse hS hi1) ?_
    rintro _ _ ⟨rfl, rfl⟩
    exact g_ireturn dX10_personNow_194 rfl rfl ⟨rfl, rfl⟩

set_option maxRecDepth 100000 in
set_option maxHeartbeats 4000000 in
theorem ct_mpersonX {N F : Nat} (hj : MO7 hi N F) (x w : Int32) (hx : noP x N) : MC E l 3 mX10_person [.ref 53, .int x, .int w] 83 (hi, hl, RT) 0 0 (fun r h' => r = some (.int (-101)) ∧ h' = (hi, hl, RT)) := by
  refine MC.of [some (.ref 53), some (.int x), some (.int w)] (by decide) rfl (Nat.le_of_ble_eq_true rfl) ?_
  refine g_aload_n dX10_person_0 rfl ?_
  refine g_iload_n dX10_person_1 rfl ?_
  refine g_callV1 (M' := mX10_isPerson) (mc' := 0) (ms' := 0) dX10_person_2 l_X10_167 s_mX10_isPerson (by decide) rfl rfl f_mX10_isPerson (Nat.le_of_ble_eq_true rfl) (by decide) (ct_isPersonN hj hx) ?_
  rintro _ _ ⟨rfl, rfl⟩
  refine g_ifne 13 dX10_person_5 (by decide) (fun c => absurd c (by decide)) (fun _ => ?_)
  refine g_bipush (v := -101) dX10_person_8 (by decide) ?_
  refine g_goto 34 dX10_person_10 (by decide) ?_
  exact g_ireturn dX10_person_34 rfl rfl ⟨rfl, rfl⟩

set_option maxRecDepth 100000 in
set_option maxHeartbeats 4000000 in
theorem ct_mpersonW {N F : Nat} (hj : MO7 hi N F) {i : Nat} (hi1 : i < N) (w : Int32) (hw : (!decide (w < 0) && !decide (14 < w)) = false) : MC E l 3 mX10_person [.ref 53, .int (nI i), .int w] 83 (hi, hl, RT) 0 0 (fun r h' => r = some (.int (-102)) ∧ h' = (hi, hl, RT)) := by
  refine MC.of [some (.ref 53), some (.int (nI i)), some (.int w)] (by decide) rfl (Nat.le_of_ble_eq_true rfl) ?_
  refine g_aload_n dX10_person_0 rfl ?_
  refine g_iload_n dX10_person_1 rfl ?_
  refine g_callV1 (M' := mX10_isPerson) (mc' := 0) (ms' := 0) dX10_person_2 l_X10_167 s_mX10_isPerson (by decide) rfl rfl f_mX10_isPerson (Nat.le_of_ble_eq_true rfl) (by decide) (ct_isPersonY hj hi1) ?_
  rintro _ _ ⟨rfl, rfl⟩
  refine g_ifne 13 dX10_person_5 (by decide) (fun _ => ?_) (fun c => absurd c (by decide))
  refine g_iload_n dX10_person_13 rfl ?_
  refine g_iconst (v := 0) dX10_person_14 (by decide) ?_
  refine g_bipush (v := 14) dX10_person_15 (by decide) ?_
  refine g_callS3 (M' := mX10_within) (mc' := 0) (ms' := 0) dX10_person_17 l_X10_98 s_mX10_within f_mX10_within (Nat.le_of_ble_eq_true rfl) (by decide) ((ct_within _ _ _).weaken (fun r h' q => (⟨by rw [q.1, hw]; rfl, q.2⟩ : r = some (.int 0) ∧ h' = (hi, hl, RT)))) ?_
  rintro _ _ ⟨rfl, rfl⟩
  refine g_ifeq 32 dX10_person_20 (by decide) (fun _ => ?_) (fun c => absurd c (by decide))
  refine g_bipush (v := -102) dX10_person_32 (by decide) ?_
  exact g_ireturn dX10_person_34 rfl rfl ⟨rfl, rfl⟩

theorem wi_k {k n : Nat} (h : k < n + 1) (hn : n < 2 ^ 20) : (!decide (nI k < 0) && !decide (nI n < nI k)) = true := by
  have h1 : ¬ nI k < 0 := nI_pos (by omega)
  have h2 : ¬ nI n < nI k := nI_nlt (by omega) (by omega)
  simp [h1, h2]
theorem wi_o {w : Int32} {n : Nat} (hn : n < 2 ^ 20) (h : w.toInt < 0 ∨ (n : Int) < w.toInt) : (!decide (w < 0) && !decide (nI n < w)) = false := by
  rcases h with h | h
  · have : w < 0 := Int32.lt_iff_toInt_lt.mpr (by simpa using h)
    simp [this]
  · have : nI n < w := Int32.lt_iff_toInt_lt.mpr (by rw [nI_toInt (by omega)]; exact h)
    simp [this]

set_option maxRecDepth 100000 in
set_option maxHeartbeats 4000000 in
theorem ct_mperson {N F : Nat} (hj : MO7 hi N F) {S : Nat} (hse : SE (hi 64) (hi 65) S N) (hS : hi 53 18 = nI S) {i : Nat} (hi1 : i < N) (k : Nat) (hk : k < 15) : MC E l 9 mX10_person [.ref 53, .int (nI i), .int (nI k)] 83 (hi, hl, RT) 0 0 (fun r h' => r = some (.int (pnV (vm hi N F) (hi 63) (hi 64) (hi 65) N S i k)) ∧ h' = (hi, hl, RT)) := by
  refine MC.of [some (.ref 53), some (.int (nI i)), some (.int (nI k))] (by decide) rfl (Nat.le_of_ble_eq_true rfl) ?_
  refine g_aload_n dX10_person_0 rfl ?_
  refine g_iload_n dX10_person_1 rfl ?_
  refine g_callV1 (M' := mX10_isPerson) (mc' := 0) (ms' := 0) dX10_person_2 l_X10_167 s_mX10_isPerson (by decide) rfl rfl f_mX10_isPerson (Nat.le_of_ble_eq_true rfl) (by decide) (ct_isPersonY hj hi1) ?_
  rintro _ _ ⟨rfl, rfl⟩
  refine g_ifne 13 dX10_person_5 (by decide) (fun _ => ?_) (fun c => absurd c (by decide))
  refine g_iload_n dX10_person_13 rfl ?_
  refine g_iconst (v := 0) dX10_person_14 (by decide) ?_
  refine g_bipush (v := 14) dX10_person_15 (by decide) ?_
  refine g_callS3 (M' := mX10_within) (mc' := 0) (ms' := 0) dX10_person_17 l_X10_98 s_mX10_within f_mX10_within (Nat.le_of_ble_eq_true rfl) (by decide) ((ct_within _ _ _).weaken (fun r h' q => (⟨by rw [q.1, show (!decide (nI k < 0) && !decide ((14 : Int32) < nI k)) = true from wi_k (n := 14) hk (by decide)]; rfl, q.2⟩ : r = some (.int 1) ∧ h' = (hi, hl, RT)))) ?_
  rintro _ _ ⟨rfl, rfl⟩
  refine g_ifeq 32 dX10_person_20 (by decide) (fun c => absurd c (by decide)) (fun _ => ?_)
  refine g_aload_n dX10_person_23 rfl ?_
  refine g_iload_n dX10_person_24 rfl ?_
  refine g_iload_n dX10_person_25 rfl ?_
  refine g_callV2 (M' := mX10_personNow) (mc' := 0) (ms' := 0) dX10_person_26 l_X10_201 s_mX10_personNow (by decide) rfl rfl f_mX10_personNow (Nat.le_of_ble_eq_true rfl) (by decide) (ct_personNow hj hse hS hi1 k hk) ?_
  rintro _ _ ⟨rfl, rfl⟩
  refine g_goto 34 dX10_person_29 (by decide) ?_
  exact g_ireturn dX10_person_34 rfl rfl ⟨rfl, rfl⟩

set_option maxRecDepth 100000 in
set_option maxHeartbeats 4000000 in
theorem ct_masX {N F : Nat} (hj : MO7 hi N F) (x w : Int32) (hx : noP x N) : MC E l 3 mX10_as [.ref 53, .int x, .int w] 83 (hi, hl, RT) 0 0 (fun r h' => r = some (.int (-101)) ∧ h' = (hi, hl, RT)) := by
  refine MC.of [some (.ref 53), some (.int x), some (.int w), none] (by decide) rfl (Nat.le_of_ble_eq_true rfl) ?_
  refine g_aload_n dX10_as_0 rfl ?_
  refine g_iload_n dX10_as_1 rfl ?_
  refine g_callV1 (M' := mX10_isPerson) (mc' := 0) (ms' := 0) dX10_as_2 l_X10_167 s_mX10_isPerson (by decide) rfl rfl f_mX10_isPerson (Nat.le_of_ble_eq_true rfl) (by decide) (ct_isPersonN hj hx) ?_
  rintro _ _ ⟨rfl, rfl⟩
  refine g_ifne 11 dX10_as_5 (by decide) (fun c => absurd c (by decide)) (fun _ => ?_)
  refine g_bipush (v := -101) dX10_as_8 (by decide) ?_
  exact g_ireturn dX10_as_10 rfl rfl ⟨rfl, rfl⟩

set_option maxRecDepth 100000 in
set_option maxHeartbeats 4000000 in
theorem ct_masW {N F : Nat} (hj : MO7 hi N F) {i : Nat} (hi1 : i < N) (w : Int32) (hw : (!decide (w < 0) && !decide (4 < w)) = false) : MC E l 3 mX10_as [.ref 53, .int (nI i), .int w] 83 (hi, hl, RT) 0 0 (fun r h' => r = some (.int (-102)) ∧ h' = (hi, hl, RT)) := by
  refine MC.of [some (.ref 53), some (.int (nI i)), some (.int w), none] (by decide) rfl (Nat.le_of_ble_eq_true rfl) ?_
  refine g_aload_n dX10_as_0 rfl ?_
  refine g_iload_n dX10_as_1 rfl ?_
  refine g_callV1 (M' := mX10_isPerson) (mc' := 0) (ms' := 0) dX10_as_2 l_X10_167 s_mX10_isPerson (by decide) rfl rfl f_mX10_isPerson (Nat.le_of_ble_eq_true rfl) (by decide) (ct_isPersonY hj hi1) ?_
  rintro _ _ ⟨rfl, rfl⟩
  refine g_ifne 11 dX10_as_5 (by decide) (fun _ => ?_) (fun c => absurd c (by decide))
  refine g_iload_n dX10_as_11 rfl ?_
  refine g_iconst (v := 0) dX10_as_12 (by decide) ?_
  refine g_iconst (v := 4) dX10_as_13 (by decide) ?_
  refine g_callS3 (M' := mX10_within) (mc' := 0) (ms' := 0) dX10_as_14 l_X10_98 s_mX10_within f_mX10_within (Nat.le_of_ble_eq_true rfl) (by decide) ((ct_within _ _ _).weaken (fun r h' q => (⟨by rw [q.1, hw]; rfl, q.2⟩ : r = some (.int 0) ∧ h' = (hi, hl, RT)))) ?_
  rintro _ _ ⟨rfl, rfl⟩
  refine g_ifne 23 dX10_as_17 (by decide) (fun c => absurd c (by decide)) (fun _ => ?_)
  refine g_bipush (v := -102) dX10_as_20 (by decide) ?_
  exact g_ireturn dX10_as_22 rfl rfl ⟨rfl, rfl⟩

set_option maxRecDepth 100000 in
set_option maxHeartbeats 4000000 in
theorem ct_mas {N F : Nat} (hj : MO7 hi N F) {i : Nat} (hi1 : i < N) (w : Int32) (hw : (!decide (w < 0) && !decide (4 < w)) = true) : MC E l 3 mX10_as [.ref 53, .int (nI i), .int w] 83 (hi, hl, RT) 0 0 (fun r h' => r = some (.int (if kIsA (vm hi N F 2 i) w = true then nI i else -1)) ∧ h' = (hi, hl, RT)) := by
  refine MC.of [some (.ref 53), some (.int (nI i)), some (.int w), none] (by decide) rfl (Nat.le_of_ble_eq_true rfl) ?_
  have hj0 := hj
  obtain ⟨hN8, hFN, hN, hF⟩ := hj
  have eci : (nI i).toNatClampNeg = i := nI_clamp (by omega)
  have m2i := m_2 (hi := hi) (F := F) hi1
  refine g_aload_n dX10_as_0 rfl ?_
  refine g_iload_n dX10_as_1 rfl ?_
  refine g_callV1 (M' := mX10_isPerson) (mc' := 0) (ms' := 0) dX10_as_2 l_X10_167 s_mX10_isPerson (by decide) rfl rfl f_mX10_isPerson (Nat.le_of_ble_eq_true rfl) (by decide) (ct_isPersonY hj0 hi1) ?_
  rintro _ _ ⟨rfl, rfl⟩
  refine g_ifne 11 dX10_as_5 (by decide) (fun _ => ?_) (fun c => absurd c (by decide))
  refine g_iload_n dX10_as_11 rfl ?_
  refine g_iconst (v := 0) dX10_as_12 (by decide) ?_
  refine g_iconst (v := 4) dX10_as_13 (by decide) ?_
  refine g_callS3 (M' := mX10_within) (mc' := 0) (ms' := 0) dX10_as_14 l_X10_98 s_mX10_within f_mX10_within (Nat.le_of_ble_eq_true rfl) (by decide) ((ct_within _ _ _).weaken (fun r h' q => (⟨by rw [q.1, hw]; rfl, q.2⟩ : r = some (.int 1) ∧ h' = (hi, hl, RT)))) ?_
  rintro _ _ ⟨rfl, rfl⟩
  refine g_ifne 23 dX10_as_17 (by decide) (fun _ => ?_) (fun c => absurd c (by decide))
  refine g_aload_n dX10_as_23 rfl ?_
  refine g_getr dX10_as_24 k_X10_7 rfl (by decide) rfl rfl ?_
  refine g_iload_n dX10_as_27 rfl ?_
  refine g_iald dX10_as_28 (by decide) rfl (vp_in_nI (by omega) (by decide)) ?_
  refine g_istore_n dX10_as_29 (by decide) rfl rfl ?_
  refine g_iload_n dX10_as_30 rfl ?_
  refine g_ifeq 49 dX10_as_31 (by decide) (fun c31 => ?_) (fun c31 => ?_)
  · skip
    refine g_iload_n dX10_as_49 rfl ?_
    refine g_goto 54 dX10_as_50 (by decide) ?_
    exact g_ireturn dX10_as_54 rfl rfl ⟨by
      rw [m2i]
      have e : kIsA (hi 54 i) w = true := by rw [← eci]; simp_all [kIsA]
      rw [if_pos e], rfl⟩
  · skip
    refine g_iload_n dX10_as_34 rfl ?_
    refine g_iload_n dX10_as_35 rfl ?_
    refine g_icmpeq 49 dX10_as_36 (by decide) (fun c36 => ?_) (fun c36 => ?_)
    · skip
      refine g_iload_n dX10_as_49 rfl ?_
      refine g_goto 54 dX10_as_50 (by decide) ?_
      exact g_ireturn dX10_as_54 rfl rfl ⟨by
      rw [m2i]
      have e : kIsA (hi 54 i) w = true := by rw [← eci]; simp_all [kIsA]
      rw [if_pos e], rfl⟩
    · skip
      refine g_iload_n dX10_as_39 rfl ?_
      refine g_iconst (v := 3) dX10_as_40 (by decide) ?_
      refine g_icmpne 53 dX10_as_41 (by decide) (fun c41 => ?_) (fun c41 => ?_)
      · skip
        refine g_iconst (v := -1) dX10_as_53 (by decide) ?_
        exact g_ireturn dX10_as_54 rfl rfl ⟨by
      rw [m2i]
      have c37 : ¬ w = hi 54 i := fun z => c36 (by show hi 54 (nI i).toNatClampNeg = w; rw [eci]; exact z.symm)
      have c47 : ¬ (w = 3 ∧ hi 54 i = 4) := fun z => c41 z.1
      have e : kIsA (hi 54 i) w = false := by simp [kIsA, show ¬ w = 0 from c31, c37]; exact fun z1 z2 => c47 ⟨z1, z2⟩
      rw [e]
      rfl, rfl⟩
      · skip
        refine g_iload_n dX10_as_44 rfl ?_
        refine g_iconst (v := 4) dX10_as_45 (by decide) ?_
        refine g_icmpne 53 dX10_as_46 (by decide) (fun c46 => ?_) (fun c46 => ?_)
        · skip
          refine g_iconst (v := -1) dX10_as_53 (by decide) ?_
          exact g_ireturn dX10_as_54 rfl rfl ⟨by
      rw [m2i]
      have c37 : ¬ w = hi 54 i := fun z => c36 (by show hi 54 (nI i).toNatClampNeg = w; rw [eci]; exact z.symm)
      have c47 : ¬ (w = 3 ∧ hi 54 i = 4) := fun z => c46 (by show hi 54 (nI i).toNatClampNeg = 4; rw [eci]; exact z.2)
      have e : kIsA (hi 54 i) w = false := by simp [kIsA, show ¬ w = 0 from c31, c37]; exact fun z1 z2 => c47 ⟨z1, z2⟩
      rw [e]
      rfl, rfl⟩
        · skip
          refine g_iload_n dX10_as_49 rfl ?_
          refine g_goto 54 dX10_as_50 (by decide) ?_
          exact g_ireturn dX10_as_54 rfl rfl ⟨by
      rw [m2i]
      have e : kIsA (hi 54 i) w = true := by rw [← eci]; simp_all [kIsA]
      rw [if_pos e], rfl⟩

set_option maxRecDepth 100000 in
set_option maxHeartbeats 4000000 in
theorem ct_mchooseX {N F : Nat} (hj : MO7 hi N F) (x w : Int32) (hx : noP x N) : MC E l 3 mX10_choose [.ref 53, .int x, .int w] 83 (hi, hl, RT) 0 0 (fun r h' => r = some (.int (-101)) ∧ h' = (hi, hl, RT)) := by
  refine MC.of [some (.ref 53), some (.int x), some (.int w), none] (by decide) rfl (Nat.le_of_ble_eq_true rfl) ?_
  refine g_aload_n dX10_choose_0 rfl ?_
  refine g_iload_n dX10_choose_1 rfl ?_
  refine g_callV1 (M' := mX10_isPerson) (mc' := 0) (ms' := 0) dX10_choose_2 l_X10_167 s_mX10_isPerson (by decide) rfl rfl f_mX10_isPerson (Nat.le_of_ble_eq_true rfl) (by decide) (ct_isPersonN hj hx) ?_
  rintro _ _ ⟨rfl, rfl⟩
  refine g_ifne 11 dX10_choose_5 (by decide) (fun c => absurd c (by decide)) (fun _ => ?_)
  refine g_bipush (v := -101) dX10_choose_8 (by decide) ?_
  exact g_ireturn dX10_choose_10 rfl rfl ⟨rfl, rfl⟩

set_option maxRecDepth 100000 in
set_option maxHeartbeats 4000000 in
theorem ct_mchooseW {N F : Nat} (hj : MO7 hi N F) {i : Nat} (hi1 : i < N) (w : Int32) (hw : (!decide (w < 0) && !decide (9 < w)) = false) : MC E l 3 mX10_choose [.ref 53, .int (nI i), .int w] 83 (hi, hl, RT) 0 0 (fun r h' => r = some (.int (-102)) ∧ h' = (hi, hl, RT)) := by
  refine MC.of [some (.ref 53), some (.int (nI i)), some (.int w), none] (by decide) rfl (Nat.le_of_ble_eq_true rfl) ?_
  refine g_aload_n dX10_choose_0 rfl ?_
  refine g_iload_n dX10_choose_1 rfl ?_
  refine g_callV1 (M' := mX10_isPerson) (mc' := 0) (ms' := 0) dX10_choose_2 l_X10_167 s_mX10_isPerson (by decide) rfl rfl f_mX10_isPerson (Nat.le_of_ble_eq_true rfl) (by decide) (ct_isPersonY hj hi1) ?_
  rintro _ _ ⟨rfl, rfl⟩
  refine g_ifne 11 dX10_choose_5 (by decide) (fun _ => ?_) (fun c => absurd c (by decide))
  refine g_iload_n dX10_choose_11 rfl ?_
  refine g_iconst (v := 0) dX10_choose_12 (by decide) ?_
  refine g_bipush (v := 9) dX10_choose_13 (by decide) ?_
  refine g_callS3 (M' := mX10_within) (mc' := 0) (ms' := 0) dX10_choose_15 l_X10_98 s_mX10_within f_mX10_within (Nat.le_of_ble_eq_true rfl) (by decide) ((ct_within _ _ _).weaken (fun r h' q => (⟨by rw [q.1, hw]; rfl, q.2⟩ : r = some (.int 0) ∧ h' = (hi, hl, RT)))) ?_
  rintro _ _ ⟨rfl, rfl⟩
  refine g_ifne 24 dX10_choose_18 (by decide) (fun c => absurd c (by decide)) (fun _ => ?_)
  refine g_bipush (v := -102) dX10_choose_21 (by decide) ?_
  exact g_ireturn dX10_choose_23 rfl rfl ⟨rfl, rfl⟩

set_option maxRecDepth 100000 in
set_option maxHeartbeats 4000000 in
theorem ct_mchoose {N F : Nat} (hj : MO7 hi N F) {i : Nat} (hi1 : i < N) (w : Int32) (hw : (!decide (w < 0) && !decide (9 < w)) = true) : MC E l 3 mX10_choose [.ref 53, .int (nI i), .int w] 83 (hi, hl, RT) 0 0 (fun r h' => r = some (.int (vm hi N F 6 i)) ∧ h' = (upI hi 57 i w, hl, RT)) := by
  refine MC.of [some (.ref 53), some (.int (nI i)), some (.int w), none] (by decide) rfl (Nat.le_of_ble_eq_true rfl) ?_
  have hj0 := hj
  obtain ⟨hN8, hFN, hN, hF⟩ := hj
  have eci : (nI i).toNatClampNeg = i := nI_clamp (by omega)
  have m6i := m_6 (hi := hi) (F := F) hi1
  refine g_aload_n dX10_choose_0 rfl ?_
  refine g_iload_n dX10_choose_1 rfl ?_
  refine g_callV1 (M' := mX10_isPerson) (mc' := 0) (ms' := 0) dX10_choose_2 l_X10_167 s_mX10_isPerson (by decide) rfl rfl f_mX10_isPerson (Nat.le_of_ble_eq_true rfl) (by decide) (ct_isPersonY hj0 hi1) ?_
  rintro _ _ ⟨rfl, rfl⟩
  refine g_ifne 11 dX10_choose_5 (by decide) (fun _ => ?_) (fun c => absurd c (by decide))
  refine g_iload_n dX10_choose_11 rfl ?_
  refine g_iconst (v := 0) dX10_choose_12 (by decide) ?_
  refine g_bipush (v := 9) dX10_choose_13 (by decide) ?_
  refine g_callS3 (M' := mX10_within) (mc' := 0) (ms' := 0) dX10_choose_15 l_X10_98 s_mX10_within f_mX10_within (Nat.le_of_ble_eq_true rfl) (by decide) ((ct_within _ _ _).weaken (fun r h' q => (⟨by rw [q.1, hw]; rfl, q.2⟩ : r = some (.int 1) ∧ h' = (hi, hl, RT)))) ?_
  rintro _ _ ⟨rfl, rfl⟩
  refine g_ifne 24 dX10_choose_18 (by decide) (fun _ => ?_) (fun c => absurd c (by decide))
  refine g_aload_n dX10_choose_24 rfl ?_
  refine g_getr dX10_choose_25 k_X10_19 rfl (by decide) rfl rfl ?_
  refine g_iload_n dX10_choose_28 rfl ?_
  refine g_iald dX10_choose_29 (by decide) rfl (vp_in_nI (by omega) (by decide)) ?_
  refine g_istore_n dX10_choose_30 (by decide) rfl rfl ?_
  refine g_aload_n dX10_choose_31 rfl ?_
  refine g_getr dX10_choose_32 k_X10_19 rfl (by decide) rfl rfl ?_
  refine g_iload_n dX10_choose_35 rfl ?_
  refine g_iload_n dX10_choose_36 rfl ?_
  refine g_iast dX10_choose_37 (by decide) rfl (vp_in_nI (by omega) (by decide)) ?_
  refine g_iload_n dX10_choose_38 rfl ?_
  exact g_ireturn dX10_choose_39 rfl rfl ⟨by rw [m6i, eci], by rw [eci]⟩

set_option maxRecDepth 100000 in
set_option maxHeartbeats 4000000 in
theorem ct_mpaintX {N F : Nat} (hj : MO7 hi N F) (x w : Int32) (hx : noP x N) : MC E l 3 mX10_paint [.ref 53, .int x, .int w] 83 (hi, hl, RT) 0 0 (fun r h' => r = some (.int (-101)) ∧ h' = (hi, hl, RT)) := by
  refine MC.of [some (.ref 53), some (.int x), some (.int w), none] (by decide) rfl (Nat.le_of_ble_eq_true rfl) ?_
  refine g_aload_n dX10_paint_0 rfl ?_
  refine g_iload_n dX10_paint_1 rfl ?_
  refine g_callV1 (M' := mX10_isPerson) (mc' := 0) (ms' := 0) dX10_paint_2 l_X10_167 s_mX10_isPerson (by decide) rfl rfl f_mX10_isPerson (Nat.le_of_ble_eq_true rfl) (by decide) (ct_isPersonN hj hx) ?_
  rintro _ _ ⟨rfl, rfl⟩
  refine g_ifne 11 dX10_paint_5 (by decide) (fun c => absurd c (by decide)) (fun _ => ?_)
  refine g_bipush (v := -101) dX10_paint_8 (by decide) ?_
  exact g_ireturn dX10_paint_10 rfl rfl ⟨rfl, rfl⟩

set_option maxRecDepth 100000 in
set_option maxHeartbeats 4000000 in
theorem ct_mpaintW {N F : Nat} (hj : MO7 hi N F) {i : Nat} (hi1 : i < N) (w : Int32) (hw : (!decide (w < 0) && !decide (3 < w)) = false) : MC E l 3 mX10_paint [.ref 53, .int (nI i), .int w] 83 (hi, hl, RT) 0 0 (fun r h' => r = some (.int (-102)) ∧ h' = (hi, hl, RT)) := by
  refine MC.of [some (.ref 53), some (.int (nI i)), some (.int w), none] (by decide) rfl (Nat.le_of_ble_eq_true rfl) ?_
  refine g_aload_n dX10_paint_0 rfl ?_
  refine g_iload_n dX10_paint_1 rfl ?_
  refine g_callV1 (M' := mX10_isPerson) (mc' := 0) (ms' := 0) dX10_paint_2 l_X10_167 s_mX10_isPerson (by decide) rfl rfl f_mX10_isPerson (Nat.le_of_ble_eq_true rfl) (by decide) (ct_isPersonY hj hi1) ?_
  rintro _ _ ⟨rfl, rfl⟩
  refine g_ifne 11 dX10_paint_5 (by decide) (fun _ => ?_) (fun c => absurd c (by decide))
  refine g_iload_n dX10_paint_11 rfl ?_
  refine g_iconst (v := 0) dX10_paint_12 (by decide) ?_
  refine g_iconst (v := 3) dX10_paint_13 (by decide) ?_
  refine g_callS3 (M' := mX10_within) (mc' := 0) (ms' := 0) dX10_paint_14 l_X10_98 s_mX10_within f_mX10_within (Nat.le_of_ble_eq_true rfl) (by decide) ((ct_within _ _ _).weaken (fun r h' q => (⟨by rw [q.1, hw]; rfl, q.2⟩ : r = some (.int 0) ∧ h' = (hi, hl, RT)))) ?_
  rintro _ _ ⟨rfl, rfl⟩
  refine g_ifne 23 dX10_paint_17 (by decide) (fun c => absurd c (by decide)) (fun _ => ?_)
  refine g_bipush (v := -102) dX10_paint_20 (by decide) ?_
  exact g_ireturn dX10_paint_22 rfl rfl ⟨rfl, rfl⟩

set_option maxRecDepth 100000 in
set_option maxHeartbeats 4000000 in
theorem ct_mpaint {N F : Nat} (hj : MO7 hi N F) {i : Nat} (hi1 : i < N) (w : Int32) (hw : (!decide (w < 0) && !decide (3 < w)) = true) : MC E l 3 mX10_paint [.ref 53, .int (nI i), .int w] 83 (hi, hl, RT) 0 0 (fun r h' => r = some (.int (vm hi N F 5 i)) ∧ h' = (upI hi 56 i w, hl, RT)) := by
  refine MC.of [some (.ref 53), some (.int (nI i)), some (.int w), none] (by decide) rfl (Nat.le_of_ble_eq_true rfl) ?_
  have hj0 := hj
  obtain ⟨hN8, hFN, hN, hF⟩ := hj
  have eci : (nI i).toNatClampNeg = i := nI_clamp (by omega)
  have m5i := m_5 (hi := hi) (F := F) hi1
  refine g_aload_n dX10_paint_0 rfl ?_
  refine g_iload_n dX10_paint_1 rfl ?_
  refine g_callV1 (M' := mX10_isPerson) (mc' := 0) (ms' := 0) dX10_paint_2 l_X10_167 s_mX10_isPerson (by decide) rfl rfl f_mX10_isPerson (Nat.le_of_ble_eq_true rfl) (by decide) (ct_isPersonY hj0 hi1) ?_
  rintro _ _ ⟨rfl, rfl⟩
  refine g_ifne 11 dX10_paint_5 (by decide) (fun _ => ?_) (fun c => absurd c (by decide))
  refine g_iload_n dX10_paint_11 rfl ?_
  refine g_iconst (v := 0) dX10_paint_12 (by decide) ?_
  refine g_iconst (v := 3) dX10_paint_13 (by decide) ?_
  refine g_callS3 (M' := mX10_within) (mc' := 0) (ms' := 0) dX10_paint_14 l_X10_98 s_mX10_within f_mX10_within (Nat.le_of_ble_eq_true rfl) (by decide) ((ct_within _ _ _).weaken (fun r h' q => (⟨by rw [q.1, hw]; rfl, q.2⟩ : r = some (.int 1) ∧ h' = (hi, hl, RT)))) ?_
  rintro _ _ ⟨rfl, rfl⟩
  refine g_ifne 23 dX10_paint_17 (by decide) (fun _ => ?_) (fun c => absurd c (by decide))
  refine g_aload_n dX10_paint_23 rfl ?_
  refine g_getr dX10_paint_24 k_X10_16 rfl (by decide) rfl rfl ?_
  refine g_iload_n dX10_paint_27 rfl ?_
  refine g_iald dX10_paint_28 (by decide) rfl (vp_in_nI (by omega) (by decide)) ?_
  refine g_istore_n dX10_paint_29 (by decide) rfl rfl ?_
  refine g_aload_n dX10_paint_30 rfl ?_
  refine g_getr dX10_paint_31 k_X10_16 rfl (by decide) rfl rfl ?_
  refine g_iload_n dX10_paint_34 rfl ?_
  refine g_iload_n dX10_paint_35 rfl ?_
  refine g_iast dX10_paint_36 (by decide) rfl (vp_in_nI (by omega) (by decide)) ?_
  refine g_iload_n dX10_paint_37 rfl ?_
  exact g_ireturn dX10_paint_38 rfl rfl ⟨by rw [m5i, eci], by rw [eci]⟩

set_option maxRecDepth 100000 in
set_option maxHeartbeats 4000000 in
theorem ct_mlimitW (w : Int32) (hw : (!decide (w < 1) && !decide (9 < w)) = false) : MC E l 3 mX10_limit [.ref 53, .int w] 83 (hi, hl, RT) 0 0 (fun r h' => r = some (.int (-102)) ∧ h' = (hi, hl, RT)) := by
  refine MC.of [some (.ref 53), some (.int w), none] (by decide) rfl (Nat.le_of_ble_eq_true rfl) ?_
  refine g_iload_n dX10_limit_0 rfl ?_
  refine g_iconst (v := 1) dX10_limit_1 (by decide) ?_
  refine g_bipush (v := 9) dX10_limit_2 (by decide) ?_
  refine g_callS3 (M' := mX10_within) (mc' := 0) (ms' := 0) dX10_limit_4 l_X10_98 s_mX10_within f_mX10_within (Nat.le_of_ble_eq_true rfl) (by decide) ((ct_within _ _ _).weaken (fun r h' q => (⟨by rw [q.1, hw]; rfl, q.2⟩ : r = some (.int 0) ∧ h' = (hi, hl, RT)))) ?_
  rintro _ _ ⟨rfl, rfl⟩
  refine g_ifne 13 dX10_limit_7 (by decide) (fun c => absurd c (by decide)) (fun _ => ?_)
  refine g_bipush (v := -102) dX10_limit_10 (by decide) ?_
  exact g_ireturn dX10_limit_12 rfl rfl ⟨rfl, rfl⟩

set_option maxRecDepth 100000 in
set_option maxHeartbeats 4000000 in
theorem ct_mlimitE (w : Int32) (hw : (!decide (w < 1) && !decide (9 < w)) = true) (hE : hi 53 2 = 0) : MC E l 3 mX10_limit [.ref 53, .int w] 83 (hi, hl, RT) 0 0 (fun r h' => r = some (.int (-103)) ∧ h' = (hi, hl, RT)) := by
  refine MC.of [some (.ref 53), some (.int w), none] (by decide) rfl (Nat.le_of_ble_eq_true rfl) ?_
  refine g_iload_n dX10_limit_0 rfl ?_
  refine g_iconst (v := 1) dX10_limit_1 (by decide) ?_
  refine g_bipush (v := 9) dX10_limit_2 (by decide) ?_
  refine g_callS3 (M' := mX10_within) (mc' := 0) (ms' := 0) dX10_limit_4 l_X10_98 s_mX10_within f_mX10_within (Nat.le_of_ble_eq_true rfl) (by decide) ((ct_within _ _ _).weaken (fun r h' q => (⟨by rw [q.1, hw]; rfl, q.2⟩ : r = some (.int 1) ∧ h' = (hi, hl, RT)))) ?_
  rintro _ _ ⟨rfl, rfl⟩
  refine g_ifne 13 dX10_limit_7 (by decide) (fun _ => ?_) (fun c => absurd c (by decide))
  refine g_aload_n dX10_limit_13 rfl ?_
  refine g_geti dX10_limit_14 k_X10_140 rfl (by decide) rfl ?_
  refine g_ifne 23 dX10_limit_17 (by decide) (fun c17 => ?_) (fun c17 => ?_)
  · skip
    exact absurd hE c17
  · skip
    refine g_bipush (v := -103) dX10_limit_20 (by decide) ?_
    exact g_ireturn dX10_limit_22 rfl rfl ⟨rfl, rfl⟩

set_option maxRecDepth 100000 in
set_option maxHeartbeats 4000000 in
theorem ct_mlimit {N F : Nat} (hj : MO7 hi N F) (w : Int32) (hw : (!decide (w < 1) && !decide (9 < w)) = true) (hE : 0 < N) : MC E l 3 mX10_limit [.ref 53, .int w] 83 (hi, hl, RT) 0 0 (fun r h' => r = some (.int (hi 53 12)) ∧ h' = (upI hi 53 12 w, hl, RT)) := by
  refine MC.of [some (.ref 53), some (.int w), none] (by decide) rfl (Nat.le_of_ble_eq_true rfl) ?_
  refine g_iload_n dX10_limit_0 rfl ?_
  refine g_iconst (v := 1) dX10_limit_1 (by decide) ?_
  refine g_bipush (v := 9) dX10_limit_2 (by decide) ?_
  refine g_callS3 (M' := mX10_within) (mc' := 0) (ms' := 0) dX10_limit_4 l_X10_98 s_mX10_within f_mX10_within (Nat.le_of_ble_eq_true rfl) (by decide) ((ct_within _ _ _).weaken (fun r h' q => (⟨by rw [q.1, hw]; rfl, q.2⟩ : r = some (.int 1) ∧ h' = (hi, hl, RT)))) ?_
  rintro _ _ ⟨rfl, rfl⟩
  refine g_ifne 13 dX10_limit_7 (by decide) (fun _ => ?_) (fun c => absurd c (by decide))
  refine g_aload_n dX10_limit_13 rfl ?_
  refine g_geti dX10_limit_14 k_X10_140 rfl (by decide) rfl ?_
  refine g_ifne 23 dX10_limit_17 (by decide) (fun c17 => ?_) (fun c17 => ?_)
  · skip
    refine g_aload_n dX10_limit_23 rfl ?_
    refine g_geti dX10_limit_24 k_X10_143 rfl (by decide) rfl ?_
    refine g_istore_n dX10_limit_27 (by decide) rfl rfl ?_
    refine g_aload_n dX10_limit_28 rfl ?_
    refine g_iload_n dX10_limit_29 rfl ?_
    refine g_puti dX10_limit_30 k_X10_143 rfl (by decide) rfl rfl rfl ?_
    refine g_iload_n dX10_limit_33 rfl ?_
    exact g_ireturn dX10_limit_34 rfl rfl ⟨rfl, rfl⟩
  · skip
    exact absurd (hj.2.2.1.symm.trans c17) (nI_ne0 hE (by have := hj.1; omega))

end
