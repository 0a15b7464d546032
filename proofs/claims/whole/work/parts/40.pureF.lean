/-! ===== what is told of people and of all ===== -/
/-- what holds of the sea's people -/
def VI (v : VV) (N F : Nat) : Prop :=
  (∀ i, i < N → v 3 i = bI (decide (F ≤ i))) ∧ (∀ i, i < N → ∃ w : Nat, w ≤ 9 ∧ v 4 i = nI w) ∧
  (∀ i j, i < N → j < N → vt (v 7 i) j = true → (F ≤ i ↔ ¬ F ≤ j) ∧ vGone v i = false) ∧
  (∀ i, i < N → v 11 i = -1 ∨ ∃ j : Nat, j < N ∧ v 11 i = nI j ∧ v 11 j = nI i ∧ vt (v 7 i) j = true ∧ vt (v 7 j) i = true)
section TL
variable {hi : Nat → Nat → Int32} {v : VV} {N F : Nat}
theorem ch_eq (hv : vw hi 3 N = v) (hb : PB hi 3) (hN : N ≤ 8) {S : Nat} {s1 s2 s3 : Nat → Int32} (h1 : ∀ k, k < S → hi 6 k = s1 k ∧ hi 7 k = s2 k ∧ hi 8 k = s3 k) (h2 : ∀ k, k < S → ∃ j : Nat, j < N ∧ s2 k = nI j) {i : Nat} (hi1 : i < N) : chF hi 3 (3 + 6 + i) S = chV v s1 s2 s3 S i := by
  unfold chF chV
  refine orB_congr (fun c hc => ⟨allB_congr (fun k hk => ?_), rfl⟩)
  obtain ⟨e1, e2, e3⟩ := h1 k hk
  obtain ⟨j, hj, ej⟩ := h2 k hk
  unfold sOk sOkV
  show (!(decide (hi 6 k = hi (3 + 6 + i) 0) && (!decide (hi 7 k < 0) && (!decide (8 ≤ hi 7 k) && !decide (bI (pCont hi (3 + 6 + i) (nI c) (pPic hi (3 + 6 + (hi 7 k).toNatClampNeg))) = hi 8 k))))) = _
  rw [e1, e2, e3, ej, (hb i (by omega)).1, nI_clamp (by omega), decide_eq_false (nI_pos (by omega)), decide_eq_false (show ¬ (8 : Int32) ≤ nI j from nI_ge (b := 8) (by omega) (by omega)), ← hv, w_cont hi1, w_pic hj]
  simp only [Bool.not_false, Bool.true_and]
/-- what is left at worst -/
theorem lw_eq (hv : vw hi 3 N = v) (hN : N ≤ 8) {P : Nat → Bool} {b : Int32} (hb : b = orB P bitI 10) {i e : Nat} (hi1 : i < N) (he : e < N) : ∃ a y : Nat, y ≤ a ∧ a ≤ 10 ∧ bcF b = nI a ∧ szF b = nI a ∧ lwF hi (3 + 6 + i) b (pPic hi (3 + 6 + e)) = nI (if y < a - y then a - y else y) ∧ (if szF b - yesV v b i e < yesV v b i e then yesV v b i e else szF b - yesV v b i e) = nI (if y < a - y then a - y else y) := by
  have hA : ∀ k, k < 10 → (!decide (b &&& bitI k = 0)) = P k := fun k hk => by
    show vt b k = P k
    rw [hb, vt_orB hk (by omega), decide_eq_true hk, Bool.true_and]
  obtain ⟨a, ha, ea⟩ := cnt_nat P 10
  have c1 : yesV v b i e = cntB (fun k => P k && pCont hi (3 + 6 + i) (nI k) (pPic hi (3 + 6 + e))) 10 := by
    unfold yesV
    refine cntB_congr (fun k hk => ?_)
    rw [hA k hk, ← hv, w_cont hi1, w_pic he]
  have c2 : cntB (fun k => !decide (b &&& (1 <<< (nI k &&& 31)) = 0) && pCont hi (3 + 6 + i) (nI k) (pPic hi (3 + 6 + e))) 10 = cntB (fun k => P k && pCont hi (3 + 6 + i) (nI k) (pPic hi (3 + 6 + e))) 10 := cntB_congr (fun k hk => by
    rw [show (!decide (b &&& (1 <<< (nI k &&& 31)) = 0)) = P k from hA k hk])
  have c3 : cntB (fun k => !decide (b &&& (1 <<< (nI k &&& 31)) = 0) && !pCont hi (3 + 6 + i) (nI k) (pPic hi (3 + 6 + e))) 10 = cntB (fun k => P k && !pCont hi (3 + 6 + i) (nI k) (pPic hi (3 + 6 + e))) 10 := cntB_congr (fun k hk => by
    rw [show (!decide (b &&& (1 <<< (nI k &&& 31)) = 0)) = P k from hA k hk])
  obtain ⟨y, hy, ey⟩ := cnt_nat (fun k => P k && pCont hi (3 + 6 + i) (nI k) (pPic hi (3 + 6 + e))) 10
  obtain ⟨z, hz, ez⟩ := cnt_nat (fun k => P k && !pCont hi (3 + 6 + i) (nI k) (pPic hi (3 + 6 + e))) 10
  have hsum := cnt_and P (fun k => pCont hi (3 + 6 + i) (nI k) (pPic hi (3 + 6 + e))) 10
  rw [ey, ez, ea, nI_add] at hsum
  have hyz : y + z = a := nI_inj hsum (by omega) (by omega)
  have b1 : bcF b = nI a := by rw [hb, (bc_orB P (by omega)).1, ea]
  have b2 : szF b = nI a := by rw [hb, (bc_orB P (by omega)).2, ea]
  refine ⟨a, y, by omega, ha, b1, b2, ?_, ?_⟩
  · unfold lwF
    rw [c2, c3, ey, ez]
    by_cases q : y < z
    · rw [if_pos (nI_lt q (by omega)), if_pos (by omega), show a - y = z by omega]
    · rw [if_neg (nI_nlt (by omega) (by omega)), if_neg (by omega)]
  · rw [b2, c1, ey, pk_sub (by omega)]
    by_cases q : y < z
    · rw [if_neg (nI_nlt (by omega) (by omega)), if_pos (by omega)]
    · by_cases w : y = z
      · rw [if_neg (nI_nlt (by omega) (by omega)), if_neg (by omega), show a - y = y by omega]
      · rw [if_pos (nI_lt (by omega) (by omega)), if_neg (by omega)]
theorem ta_mk (hv : vw hi 3 N = v) (hN : N ≤ 8) {P : Nat → Bool} {b : Int32} (hb : b = orB P bitI 10) {i : Nat} (hi1 : i < N) : ∀ k, k ≤ N → (taF hi 3 (3 + 6 + i) b k).1 = (mkV v b i k).1 ∧ (((taF hi 3 (3 + 6 + i) b k).2 = bcF b + 1 ∧ (mkV v b i k).2 = 268435456) ∨ ∃ x : Nat, x ≤ 10 ∧ (taF hi 3 (3 + 6 + i) b k).2 = nI x ∧ (mkV v b i k).2 = nI x)
  | 0, _ => ⟨rfl, Or.inl ⟨rfl, rfl⟩⟩
  | k + 1, hk => by
    obtain ⟨ih1, ih2⟩ := ta_mk hv hN hb hi1 k (by omega)
    obtain ⟨a, y, h1, h2, h3, h4, h5, h6⟩ := lw_eq hv hN hb hi1 (e := k) (by omega)
    have s1 : v 3 i = hi (3 + 6 + i) 3 := by rw [← hv]; exact vw_at hi1 (by decide) (by decide)
    have s2 : v 3 k = hi (3 + 6 + k) 3 := by rw [← hv]; exact vw_at (by omega) (by decide) (by decide)
    rw [taF, mkV]
    by_cases c : hi (3 + 6 + k) 3 = hi (3 + 6 + i) 3
    · rw [if_pos c]
      have ew : worV v b i k = 268435456 := by unfold worV; rw [if_pos (by rw [s1, s2, c])]
      rw [ew, if_neg]
      · exact ⟨ih1, ih2⟩
      · rcases ih2 with q | ⟨x, q1, q2, q3⟩
        · rw [q.2]; decide
        · rw [q3]
          exact fun z => absurd ((nI_ltI (a := 268435456) (by decide) (by omega)).mp z) (by omega)
    · rw [if_neg c]
      generalize hm : (if y < a - y then a - y else y) = m at h5 h6
      have hm10 : m ≤ a := by rw [← hm]; split <;> omega
      have ew : worV v b i k = nI m := by unfold worV; rw [if_neg (by rw [s1, s2]; exact fun q => c q.symm)]; exact h6
      rw [ew, h5]
      rcases ih2 with ⟨q1, q2⟩ | ⟨x, q1, q2, q3⟩
      · rw [q1, q2, h3, if_neg (by rw [nI_inc1]; exact nI_ge (by omega) (by omega)), if_pos (show nI m < 268435456 from nI_lt (a := m) (b := 268435456) (by omega) (by decide))]
        exact ⟨rfl, Or.inr ⟨m, by omega, rfl, rfl⟩⟩
      · rw [q2, q3]
        by_cases z : x ≤ m
        · rw [if_pos (nI_le z (by omega)), if_neg (nI_nlt z (by omega))]
          exact ⟨ih1, Or.inr ⟨x, q1, q2, q3⟩⟩
        · rw [if_neg (nI_ge (by omega) (by omega)), if_pos (nI_lt (by omega) (by omega))]
          exact ⟨rfl, Or.inr ⟨m, by omega, rfl, rfl⟩⟩
theorem ask_eq (hv : vw hi 3 N = v) (hb : PB hi 3) (hN : N ≤ 8) {S : Nat} {s1 s2 s3 : Nat → Int32} (h1 : ∀ k, k < S → hi 6 k = s1 k ∧ hi 7 k = s2 k ∧ hi 8 k = s3 k) (h2 : ∀ k, k < S → ∃ j : Nat, j < N ∧ s2 k = nI j) {i : Nat} (hi1 : i < N) : askF hi 3 (3 + 6 + i) N S = maskV v s1 s2 s3 N S i := by
  unfold askF maskV
  rw [ch_eq hv hb hN h1 h2 hi1]
  by_cases c : chV v s1 s2 s3 S i = 0
  · rw [if_pos c, if_pos c]
  · rw [if_neg c, if_neg c]
    exact (ta_mk hv hN rfl hi1 N (Nat.le_refl N)).1
/-- PERSON: both tell the same -/
theorem tof_eq (hv : vw hi 3 N = v) (hI : VI v N F) (hb : PB hi 3) (hN : N ≤ 8) {S : Nat} {s1 s2 s3 : Nat → Int32} (h1 : ∀ k, k < S → hi 6 k = s1 k ∧ hi 7 k = s2 k ∧ hi 8 k = s3 k) (h2 : ∀ k, k < S → ∃ j : Nat, j < N ∧ s2 k = nI j) {i : Nat} (hi1 : i < N) (k : Nat) (hk : k < 15) : tofN hi 3 N S (3 + 6 + i) k = pnV v s1 s2 s3 N S i k := by
  have at_ : ∀ s, 2 ≤ s → s ≤ 11 → hi (3 + 6 + i) s = v s i := fun s a b => by rw [← hv]; exact (vw_at hi1 a b).symm
  have hlk : orB (fun j => pLikes hi (3 + 6 + i) (3 + 6 + j)) (fun j => hi (3 + 6 + j) 1) N = orB (fun k => vLikes v i k) bitI N := orB_congr (fun j hj => ⟨by rw [← hv, w_likes hi1 hj], (hb j (by omega)).2⟩)
  have hmt : orB (fun j => pMatch hi (3 + 6 + i) (3 + 6 + j)) (fun j => hi (3 + 6 + j) 1) N = orB (fun k => vMatch v i k) bitI N := orB_congr (fun j hj => ⟨by rw [← hv, w_match hb hN hi1 hj], (hb j (by omega)).2⟩)
  have h5 : (if pTaken hi (3 + 6 + i) = true then (1 : Int32) else if pGone hi (3 + 6 + i) = true then 2 else 0) = if vGone v i = true then 2 else if v 11 i = -1 then 0 else 1 := by
    rw [← w_taken hi1, ← w_gone hi1, hv]
    unfold vTaken
    rcases hI.2.2.2 i hi1 with c | ⟨j, hj, j1, j2, j3, j4⟩
    · rw [decide_eq_true c, if_neg (by decide), if_pos c]
    · have := (hI.2.2.1 i j hi1 hj j3).2
      have hne : ¬ v 11 i = -1 := by rw [j1]; exact nI_m1 (by omega)
      rw [decide_eq_false hne, if_pos (by decide), this, if_neg (by decide), if_neg hne]
  match k, hk with
  | 0, _ => exact at_ 2 (by omega) (by omega)
  | 1, _ => exact at_ 4 (by omega) (by omega)
  | 2, _ => exact at_ 5 (by omega) (by omega)
  | 3, _ => exact at_ 6 (by omega) (by omega)
  | 4, _ => exact at_ 3 (by omega) (by omega)
  | 5, _ => exact h5
  | 6, _ => exact at_ 11 (by omega) (by omega)
  | 7, _ => exact hlk
  | 8, _ => exact at_ 7 (by omega) (by omega)
  | 9, _ => exact at_ 8 (by omega) (by omega)
  | 10, _ => exact hmt
  | 11, _ => exact at_ 9 (by omega) (by omega)
  | 12, _ => exact at_ 10 (by omega) (by omega)
  | 13, _ => exact ch_eq hv hb hN h1 h2 hi1
  | 14, _ => exact ask_eq hv hb hN h1 h2 hi1
/-! couples -/
theorem half_nat : ∀ c, c < 9 → (nI c + nI c) / 2 = nI c := by decide
theorem couple_cnt (hI : VI v N F) (hN : N ≤ 8) (hF : F ≤ N) : cntB (fun i => vTaken v i) N = cntB (fun i => vTaken v i) F + cntB (fun i => vTaken v i) F := by
  have hs := cnt_split (fun i => vTaken v i) F (N - F)
  rw [Nat.add_sub_cancel' hF] at hs
  rw [hs]
  congr 1
  have tk : ∀ i j, i < N → v 11 i = nI j → j < N → vTaken v i = true := fun i j hi h hj => by
    unfold vTaken
    rw [h, decide_eq_false (nI_m1 (by omega))]
    rfl
  have nt : ∀ i, v 11 i = -1 → vTaken v i = false := fun i h => by unfold vTaken; rw [h]; rfl
  have cross : ∀ i j, i < N → j < N → v 11 i = nI j → (F ≤ i ↔ ¬ F ≤ j) ∧ v 11 j = nI i := fun i j hi hj h => by
    rcases hI.2.2.2 i hi with c | ⟨k, hk, k1, k2, k3, k4⟩
    · rw [c] at h; exact absurd h.symm (nI_m1 (by omega))
    · have : k = j := nI_inj (k1.symm.trans h) (by omega) (by omega)
      subst this
      exact ⟨(hI.2.2.1 i k hi hk k3).1, k2⟩
  -- the one side
  have e1 : cntB (fun i => vTaken v i) F = sumI (fun i => cntB (fun j => decide (v 11 i = nI (F + j))) (N - F)) F := by
    rw [cnt_sum]
    refine sumI_congr (fun i hi => ?_)
    rcases hI.2.2.2 i (by omega) with c | ⟨j, hj, j1, j2, j3, j4⟩
    · rw [nt i c, cnt_none (fun k hk => decide_eq_false (fun q => nI_m1 (by omega) (q.symm.trans c)))]
      rfl
    · have hc := (cross i j (by omega) hj j1).1
      rw [tk i j (by omega) j1 hj, cnt_one (j := j - F) (decide_eq_true (by rw [show F + (j - F) = j by omega]; exact j1)) (by omega) (fun k hk q => by
        have := nI_inj (j1.symm.trans (of_decide_eq_true q)) (by omega) (by omega)
        omega)]
      rfl
  have e2 : cntB (fun j => vTaken v (F + j)) (N - F) = sumI (fun j => cntB (fun i => decide (v 11 i = nI (F + j))) F) (N - F) := by
    rw [cnt_sum]
    refine sumI_congr (fun j hj => ?_)
    rcases hI.2.2.2 (F + j) (by omega) with c | ⟨i, hi, i1, i2, i3, i4⟩
    · rw [nt (F + j) c, cnt_none (fun k hk => decide_eq_false (fun q => by
        have := (cross k (F + j) (by omega) (by omega) q).2
        exact nI_m1 (by omega) (this.symm.trans c)))]
      rfl
    · have hc := (cross (F + j) i (by omega) hi i1).1
      rw [tk (F + j) i (by omega) i1 hi, cnt_one (j := i) (decide_eq_true i2) (by omega) (fun k hk q => by
        have := (cross k (F + j) (by omega) (by omega) (of_decide_eq_true q)).2
        exact nI_inj (this.symm.trans i1) (by omega) (by omega))]
      rfl
  rw [e2, e1]
  exact (sum_swap (fun i j => decide (v 11 i = nI (F + j))) F (N - F)).symm
theorem st5_1 (hI : VI v N F) (hN : N ≤ 8) {i : Nat} (hi1 : i < N) : decide (st5 v i = 1) = vTaken v i := by
  unfold st5 vTaken
  rcases hI.2.2.2 i hi1 with c | ⟨j, hj, j1, j2, j3, j4⟩
  · rw [decide_eq_true c, if_pos c]
    split <;> rfl
  · have := (hI.2.2.1 i j hi1 hj j3).2
    have hne : ¬ v 11 i = -1 := by rw [j1]; exact nI_m1 (by omega)
    rw [decide_eq_false hne, this, if_neg (by decide), if_neg hne]
    rfl
theorem st5_0 {i : Nat} : decide (st5 v i = 0) = vFree v i := by
  unfold st5 vFree vTaken
  cases vGone v i with
  | true => rw [if_pos rfl, Bool.not_true, Bool.and_false]; rfl
  | false =>
    rw [if_neg (by decide)]
    by_cases c : v 11 i = -1
    · rw [if_pos c, decide_eq_true c]; rfl
    · rw [if_neg c, decide_eq_false c]; rfl
theorem st5_2 {i : Nat} : decide (st5 v i = 2) = vGone v i := by
  unfold st5
  cases vGone v i with
  | true => rw [if_pos rfl]; rfl
  | false =>
    rw [if_neg (by decide)]
    split <;> rfl
theorem couples_eq (hI : VI v N F) (hN : N ≤ 8) (hF : F ≤ N) : cntB (fun p => decide (st5 v p = 1)) N / 2 = cntB (fun i => vTaken v i) F := by
  rw [cntB_congr (fun i hi => st5_1 hI hN hi), couple_cnt hI hN hF]
  obtain ⟨c, hc, e⟩ := cnt_nat (fun i => vTaken v i) F
  rw [e]
  exact half_nat c (by omega)
/-- open MATCHES: both the same -/
theorem open_eq (hI : VI v N F) (hN : N ≤ 8) (hF : F ≤ N) : vOpen v N F = sumI (fun k => szF (orB (fun q => vMatch v k q) bitI N)) F - cntB (fun p => decide (st5 v p = 1)) N / 2 := by
  rw [couples_eq hI hN hF, cnt_sum]
  have h : sumI (fun k => szF (orB (fun q => vMatch v k q) bitI N)) F = vOpen v N F + sumI (fun k => bI (vTaken v k)) F := by
    unfold vOpen
    rw [← sum_add]
    refine sumI_congr (fun i hi => ?_)
    rw [(bc_orB _ (by omega)).2]
    rcases hI.2.2.2 i (by omega) with c | ⟨j, hj, j1, j2, j3, j4⟩
    · have : vTaken v i = false := by unfold vTaken; rw [c]; rfl
      rw [this, if_neg (by decide), and_m1]
      show _ = bcF (orB (fun k => vMatch v i k) bitI N) + 0
      rw [(bc_orB _ (by omega)).1, Int32.add_zero]
    · have : vTaken v i = true := by unfold vTaken; rw [j1, decide_eq_false (nI_m1 (by omega))]; rfl
      rw [this, if_pos rfl, j1]
      show _ = bcF (orB (fun k => vMatch v i k) bitI N &&& (bitI j ^^^ -1)) + 1
      rw [orB_andn (by omega) (by omega), (bc_orB _ (by omega)).1]
      refine (cnt_less (P := fun q => vMatch v i q) (j := j) ?_ hj).symm
      show (vt (v 7 i) j && vt (v 7 j) i) = true
      rw [j3, j4]
      rfl
  rw [h, Int32.add_sub_cancel]
/-- MUTUAL: both the same -/
theorem mutual_eq (hv : vw hi 3 N = v) (hI : VI v N F) (hb : PB hi 3) (hN : N ≤ 8) (hF : F ≤ N) : sumI (fun j => bcF (mutF hi 3 N (3 + 6 + j))) F = sumI (fun p => cntB (fun e => vMay v p (F + e)) (N - F)) F := by
  refine sumI_congr (fun i hi1 => ?_)
  have e1 : bcF (mutF hi 3 N (3 + 6 + i)) = cntB (fun j => vMay v i j) N := by
    rw [← w_mut hb hN (by omega), hv]
    unfold vMut vMay
    cases vFree v i with
    | false => rw [if_neg (by decide), cnt_none (P := fun j => false && (vFree v j && (vLikes v i j && vLikes v j i))) (fun k _ => rfl)]; decide
    | true => rw [if_pos rfl, (bc_orB _ (by omega)).1]; rfl
  have hs := cnt_split (fun j => vMay v i j) F (N - F)
  rw [Nat.add_sub_cancel' hF] at hs
  rw [e1, hs, cnt_none (n := F) (fun j hj => ?_)]
  · exact Int32.zero_add _
  · cases c : vMay v i j with
    | false => rfl
    | true => have := may_side hI.1 (by omega) (by omega) c; omega
/-- COUNT: both tell the same -/
theorem tell_eq {N F : Nat} (hv : vw hi 3 N = vm hi N F) (hI : VI (vm hi N F) N F) (hb : PB hi 3) (hN : N ≤ 8) (hF : F ≤ N) (S : Nat) (e0 : hi 3 2 = hi 53 1) (e1 : hi 3 3 = hi 53 2) (e6 : hi 3 8 = hi 53 14) (e7 : hi 3 9 = hi 53 15) (e8 : hi 3 4 = hi 53 12) (e9 : hi 3 5 = hi 53 13) (e10 : hi 3 6 = hi 53 16) (e11 : hi 3 7 = hi 53 17) (e12 : hi 5 3 = hi 53 18) (e13 : hi 1 1 = hi 53 22) (e14 : hi 0 6 = hi 53 0) (k : Nat) (hk : k < 15) : ctC hi N F S k = hmN hi N F k := by
  match k, hk with
  | 0, _ => exact e0
  | 1, _ => show hi 3 3 - hi 3 2 = hi 53 2 - hi 53 1; rw [e0, e1]
  | 2, _ => exact cntB_congr (fun i hi1 => by rw [← w_free hi1, hv, ← st5_0])
  | 3, _ =>
    show cntB (fun j => pTaken hi (3 + 6 + j)) F = cntB (fun p => decide (st5 (vm hi N F) p = 1)) N / 2
    rw [couples_eq hI hN hF]
    exact cntB_congr (fun i hi1 => by rw [← w_taken (N := N) (by omega), hv])
  | 4, _ => exact cntB_congr (fun i hi1 => by rw [← w_gone hi1, hv, ← st5_2])
  | 5, _ =>
    show sumI (fun j => bcF (orB (fun k => pMatch hi (3 + 6 + j) (3 + 6 + k)) (fun k => hi (3 + 6 + k) 1) N &&& ((if pTaken hi (3 + 6 + j) = true then 1 <<< (hi (3 + 6 + j) 11 &&& 31) else 0) ^^^ -1))) F = _
    rw [← w_open hb hN hF, hv, open_eq hI hN hF]
    rfl
  | 6, _ => exact e6
  | 7, _ => exact e7
  | 8, _ => exact e8
  | 9, _ => exact e9
  | 10, _ => exact e10
  | 11, _ => exact e11
  | 12, _ => exact e12
  | 13, _ => exact e13
  | 14, _ => exact e14
end TL
/-! waiting, how many -/
theorem wait_all : ∀ O, O < 9 → ∀ b, b < O → 2 ≤ O → pbF O b = mlF O b ∧ gdM 40 (mlF O b) (420 * nI O) = some (gdR (pbF O b) (nI O * 420)) ∧ nI O * 420 = 420 * nI O := by decide +kernel
theorem many_all : ∀ O, O < 9 → 2 ≤ O → lkF O (O - 1) = hwM O (O - 1) := by decide +kernel
theorem ab_all : ∀ x, x < 10 → ∀ y, y < 10 → abI (nI x - nI y) = if nI x ≤ nI y then nI y - nI x else nI x - nI y := by decide +kernel
theorem seasons_eq {v : VV} {N F : Nat} (hI : VI v N F) (hN : N ≤ 8) (hF0 : 0 < F) (hFN : F < N) (s : Int64) : ∀ T : Nat, snC v N F T s = snS v N F T s
  | 0 => rfl
  | T + 1 => by
    have ih := seasons_eq hI hN hF0 hFN s T
    obtain ⟨p, hp, ep⟩ := dPick_ok (snC v N F T s).1 hF0 (by omega)
    obtain ⟨e, he, ee⟩ := dPick_ok (dNext (snC v N F T s).1) (A := N - F) (by omega) (by omega)
    rw [snC_s ep ee (by omega) (by omega), snS_s (by rw [← ih]; exact ep) (by rw [← ih]; exact ee) (by omega) (by omega), ← ih]
    obtain ⟨x, hx, ex⟩ := hI.2.1 p (by omega)
    obtain ⟨y, hy, ey⟩ := hI.2.1 (F + e) (by omega)
    rw [ex, ey, ab_all x (by omega) y (by omega)]
