/-! ===== rows that last: the class and the reference ===== -/
section LD
variable {v : VV} {N F : Nat}
theorem mut_may (hN : N ≤ 8) {i j : Nat} (hj : j < N) : mutB (fun k => vMut v N k) i j = vMay v i j := by
  show vt (vMut v N i) j = _
  unfold vMut vMay
  cases vFree v i with
  | false => rw [if_neg (by decide), vt_0]; rfl
  | true => rw [if_pos rfl, vt_orB (by omega) (by omega), decide_eq_true hj]
theorem may_side (hsd : ∀ k, k < N → v 3 k = bI (decide (F ≤ k))) {i j : Nat} (hi : i < N) (hj : j < N) (h : vMay v i j = true) : i < F ↔ F ≤ j := by
  unfold vMay vLikes at h
  simp only [Bool.and_eq_true, Bool.not_eq_true', decide_eq_false_iff_not] at h
  have := h.2.2.1.1
  rw [hsd i hi, hsd j hj, side_ne] at this
  omega
theorem wh_spec (q : Nat → Nat) (e : Nat) : ∀ n : Nat, match whN q e n with
    | none => ∀ p, p < n → q p ≠ e + 1
    | some k => k < n ∧ q k = e + 1
  | 0 => fun p h => absurd h (Nat.not_lt_zero p)
  | n + 1 => by
    rw [whN]
    by_cases c : q n = e + 1
    · rw [if_pos c]
      exact ⟨Nat.lt_succ_self n, c⟩
    · rw [if_neg c]
      have ih := wh_spec q e n
      cases h : whN q e n with
      | none =>
        rw [h] at ih
        intro p hp
        by_cases z : p = n
        · rw [z]; exact c
        · exact ih p (by omega)
      | some k =>
        rw [h] at ih
        exact ⟨by have := ih.1; omega, ih.2⟩
theorem us_spec {q : Nat → Nat} {e : Nat} (he : e < 10) : ∀ p : Nat, (∀ k, k < p → q k ≤ 8) → (vt (usI q p) e = true ↔ ∃ k, k < p ∧ q k = e + 1)
  | 0, _ => by
    rw [usI, vt_0]
    constructor
    · intro h; cases h
    · rintro ⟨k, hk, _⟩; omega
  | p + 1, h => by
    have ih := us_spec (q := q) he p (fun k hk => h k (by omega))
    have hp := h p (by omega)
    rw [usI]
    by_cases c : q p = 0
    · rw [if_pos c, ih]
      constructor
      · rintro ⟨k, hk, e1⟩; exact ⟨k, by omega, e1⟩
      · rintro ⟨k, hk, e1⟩
        have : k ≠ p := fun z => by rw [z] at e1; omega
        exact ⟨k, by omega, e1⟩
    · rw [if_neg c, vt_or _ _ he, vt_bit (by omega) he, Bool.or_eq_true, ih, decide_eq_true_eq]
      constructor
      · rintro (⟨k, hk, e1⟩ | e1)
        · exact ⟨k, by omega, e1⟩
        · exact ⟨p, by omega, by omega⟩
      · rintro ⟨k, hk, e1⟩
        by_cases z : k = p
        · rw [z] at e1
          exact Or.inr (by omega)
        · exact Or.inl ⟨k, by omega, e1⟩
/-- a row as mates -/
def mqF (F : Nat) (q : Nat → Nat) (k : Nat) : Int32 := if k < F then dnI (q k) else oI (whN q k F)
theorem dn_of {d : Nat} (h : d ≠ 0) : dnI d = nI (d - 1) := by
  obtain ⟨n, rfl⟩ : ∃ n, d = n + 1 := ⟨d - 1, by omega⟩
  rfl
theorem row_p (hN : N ≤ 8) (hF : F ≤ N) {q : Nat → Nat} (hq : RVq q F N) {p : Nat} (hp : p < F) : rowP v q p = true ↔ (q p = 0 ∨ (vMay v p (q p - 1) = true ∧ ∀ k, k < p → q k ≠ q p)) := by
  have hle : ∀ k, k < F → q k ≤ 8 := fun k hk => by rcases hq k hk with z | z <;> omega
  unfold rowP
  rw [Bool.or_eq_true, Bool.and_eq_true, decide_eq_true_eq, decide_eq_true_eq]
  by_cases c : q p = 0
  · simp [c]
  · have h8 := hle p hp
    have hu := us_spec (q := q) (e := q p - 1) (by omega) p (fun k hk => hle k (by omega))
    have e : (usI q p &&& bitI (q p - 1) = 0) ↔ ¬ vt (usI q p) (q p - 1) = true := by
      unfold vt
      simp
    rw [e, hu]
    constructor
    · rintro (z | ⟨z1, z2⟩)
      · exact Or.inl z
      · exact Or.inr ⟨z1, fun k hk w => z2 ⟨k, hk, by omega⟩⟩
    · rintro (z | ⟨z1, z2⟩)
      · exact Or.inl z
      · exact Or.inr ⟨z1, fun ⟨k, hk, w⟩ => z2 k hk (by omega)⟩
theorem row_vm (hN : N ≤ 8) (hF : F ≤ N) {q : Nat → Nat} (hq : RVq q F N) (hr : allB (rowP v q) F = true) : VM (fun k => vMut v N k) N F F (mqF F q) := by
  have hrow := fun p hp => (row_p (v := v) hN hF hq (p := p) hp).mp (allB_iff.mp hr p hp)
  have hdis : ∀ a b, a < F → b < F → q a = q b → q a ≠ 0 → a = b := fun a b ha hb e hz => by
    rcases Nat.lt_trichotomy a b with c | c | c
    · rcases hrow b hb with z | z
      · omega
      · exact absurd e (z.2 a c)
    · exact c
    · rcases hrow a ha with z | z
      · omega
      · exact absurd e.symm (z.2 b c)
  refine ⟨fun k h1 h2 => absurd h2 (by omega), fun k hk => ?_, fun e h1 h2 => ?_⟩
  · by_cases c : q k = 0
    · left
      unfold mqF
      rw [if_pos hk, c]
      rfl
    · right
      have hqk := hq k hk
      refine ⟨q k - 1, by omega, by omega, ?_, ?_, ?_⟩
      · unfold mqF
        rw [if_pos hk]
        exact dn_of c
      · unfold mqF
        rw [if_neg (by omega)]
        have hw := wh_spec q (q k - 1) F
        cases h : whN q (q k - 1) F with
        | none => rw [h] at hw; exact absurd (by omega) (hw k hk)
        | some y =>
          rw [h] at hw
          have : y = k := hdis y k hw.1 hk (by omega) (by omega)
          rw [this]
          rfl
      · rw [mut_may hN (by omega)]
        exact ((hrow k hk).resolve_left c).1
  · have hw := wh_spec q e F
    cases h : whN q e F with
    | none =>
      left
      unfold mqF
      rw [if_neg (by omega), h]
      rfl
    | some k =>
      rw [h] at hw
      right
      refine ⟨k, hw.1, ?_, ?_⟩
      · unfold mqF
        rw [if_neg (by omega), h]
        rfl
      · unfold mqF
        rw [if_pos hw.1, hw.2]
        rfl
/-- mates as a row -/
def qmF (m : Nat → Int32) (k : Nat) : Nat := if m k = -1 then 0 else (m k).toNatClampNeg + 1
theorem vm_row (hN : N ≤ 8) (hF : F ≤ N) {m : Nat → Int32} (h : VM (fun k => vMut v N k) N F F m) : RVq (qmF m) F N ∧ allB (rowP v (qmF m)) F = true ∧ ∀ k, k < N → mqF F (qmF m) k = m k := by
  have hq : ∀ k, k < F → (m k = -1 ∧ qmF m k = 0) ∨ ∃ e, F ≤ e ∧ e < N ∧ m k = nI e ∧ m e = nI k ∧ qmF m k = e + 1 ∧ vMay v k e = true := fun k hk => by
    rcases h.2.1 k hk with c | ⟨e, h1, h2, h3, h4, h5⟩
    · exact Or.inl ⟨c, if_pos c⟩
    · refine Or.inr ⟨e, h1, h2, h3, h4, ?_, ?_⟩
      · unfold qmF
        rw [h3, if_neg (nI_m1 (by omega)), nI_clamp (by omega)]
      · rw [mut_may hN h2] at h5
        exact h5
  have hrv : RVq (qmF m) F N := fun k hk => by
    rcases hq k hk with c | ⟨e, h1, h2, _, _, h5, _⟩
    · exact Or.inl c.2
    · right; omega
  refine ⟨hrv, allB_iff.mpr (fun p hp => (row_p hN hF hrv hp).mpr ?_), fun k hk => ?_⟩
  · rcases hq p hp with c | ⟨e, h1, h2, h3, h4, h5, h6⟩
    · exact Or.inl c.2
    · right
      rw [h5]
      refine ⟨h6, fun k hk z => ?_⟩
      rcases hq k (by omega) with c | ⟨e', g1, g2, g3, g4, g5, _⟩
      · omega
      · have : e' = e := by omega
        rw [this] at g4
        have := nI_inj (g4.symm.trans h4) (by omega) (by omega)
        omega
  · unfold mqF
    by_cases c : k < F
    · rw [if_pos c]
      rcases hq k c with z | ⟨e, h1, h2, h3, h4, h5, h6⟩
      · rw [z.2, z.1]; rfl
      · rw [h5, h3]; rfl
    · rw [if_neg c]
      have hw := wh_spec (qmF m) k F
      cases hh : whN (qmF m) k F with
      | none =>
        rw [hh] at hw
        rcases h.2.2 k (by omega) hk with z | ⟨y, y1, y2, y3⟩
        · rw [z]; rfl
        · refine absurd ?_ (hw y y1)
          unfold qmF
          rw [y3, if_neg (nI_m1 (by omega)), nI_clamp (by omega)]
      | some y =>
        rw [hh] at hw
        rcases hq y hw.1 with z | ⟨e, h1, h2, h3, h4, h5, h6⟩
        · have := hw.2; omega
        · have : e = k := by have := hw.2; omega
          rw [this] at h4
          rw [h4]
          rfl
theorem k_lt {K : Nat → Int32} (hN : N ≤ 8) (hK : RK v N K) {a b : Nat} (ha : a < N) (hb : b < N) : decide (K a < K b) = vPref v a b := by
  obtain ⟨p, hp, ep⟩ := srt_surj (fun j => vPic v j) true N a ha
  obtain ⟨q, hq, eq⟩ := srt_surj (fun j => vPic v j) true N b hb
  have e1 : K a = nI p := by rw [← ep]; exact hK p hp
  have e2 : K b = nI q := by rw [← eq]; exact hK q hq
  have hsp := fun p q h1 h2 => srt_sorted (fun j => vPic v j) N p q h1 h2
  rw [e1, e2]
  cases hv : vPref v a b with
  | true =>
    have hv' := vPref_iff.mp hv
    refine decide_eq_true ((nI_ltI (by omega) (by omega)).mpr ?_)
    rcases Nat.lt_trichotomy p q with c | c | c
    · exact c
    · rw [c] at ep
      rw [← ep, ← eq] at hv'
      exact (prP_asym hv' hv').elim
    · have := hsp q p c hp
      rw [ep, eq] at this
      exact (prP_asym hv' this).elim
  | false =>
    refine decide_eq_false (fun z => ?_)
    have := hsp p q ((nI_ltI (by omega) (by omega)).mp z) hq
    rw [ep, eq] at this
    rw [vPref_iff.mpr this] at hv
    cases hv
theorem la_las {K : Nat → Int32} (hN : N ≤ 8) (hF : F ≤ N) (hK : RK v N K) {q : Nat → Nat} (hq : RVq q F N) : laB v q F N = (allB (rowP v q) F && lasB (fun k => vMut v N k) K (mqF F q) F N) := by
  unfold laB lasB
  congr 1
  refine allB_congr (fun p hp => allB_congr (fun e he => ?_))
  congr 1
  unfold wlB blkB
  rw [mut_may hN (by omega)]
  cases hm : vMay v p (F + e) with
  | false => rfl
  | true =>
    rw [Bool.true_and, Bool.true_and]
    have hqp := hq p hp
    have e1 : wantB K (mqF F q) p (F + e) = (decide (q p = 0) || (!decide (q p = F + e + 1) && vPref v (F + e) (q p - 1))) := by
      unfold wantB
      have em : mqF F q p = dnI (q p) := if_pos hp
      rw [em]
      by_cases c : q p = 0
      · rw [c]; rfl
      · rw [dn_of c, nI_clamp (by omega), decide_eq_false (nI_m1 (by omega)), decide_eq_false c, Bool.false_or, Bool.false_or, k_lt hN hK (by omega) (by omega)]
        by_cases z : q p = F + e + 1
        · rw [z, decide_eq_true rfl, Nat.add_sub_cancel]
          cases w : vPref v (F + e) (F + e) with
          | false => rfl
          | true => exact (prP_asym (vPref_iff.mp w) (vPref_iff.mp w)).elim
        · rw [decide_eq_false z]; rfl
    have e2 : wantB K (mqF F q) (F + e) p = (match whN q (F + e) F with | none => true | some y => vPref v p y) := by
      unfold wantB
      have em : mqF F q (F + e) = oI (whN q (F + e) F) := if_neg (by omega)
      rw [em]
      have hw := wh_spec q (F + e) F
      cases h : whN q (F + e) F with
      | none => rfl
      | some y =>
        rw [h] at hw
        have hy := hw.1
        show (decide (nI y = -1) || decide (K p < K (nI y).toNatClampNeg)) = vPref v p y
        rw [nI_clamp (by omega), decide_eq_false (nI_m1 (by omega)), Bool.false_or, k_lt hN hK (by omega) (by omega)]
    rw [e1, e2]
    by_cases c : q p = 0
    · rw [decide_eq_true c, decide_eq_false (show ¬ q p = F + e + 1 by omega)]
      rfl
    · rw [decide_eq_false c]
      simp only [Bool.false_or, Bool.and_assoc]
      cases whN q (F + e) F <;> rfl
theorem rk_ex (v : VV) (N : Nat) : ∃ K, RK v N K := by
  refine ⟨fun a => if h : ∃ q, q < N ∧ srt (fun j => vPic v j) true N q = a then nI (Classical.choose h) else 0, fun q hq => ?_⟩
  have h : ∃ p, p < N ∧ srt (fun j => vPic v j) true N p = srt (fun j => vPic v j) true N q := ⟨q, hq, rfl⟩
  show (if h : ∃ p, p < N ∧ srt (fun j => vPic v j) true N p = srt (fun j => vPic v j) true N q then nI (Classical.choose h) else 0) = nI q
  rw [dif_pos h]
  have hc := Classical.choose_spec h
  congr 1
  rcases Nat.lt_trichotomy (Classical.choose h) q with c | c | c
  · exact absurd hc.2 (srt_inj _ _ N _ _ c hq)
  · exact c
  · exact absurd hc.2.symm (srt_inj _ _ N _ _ c hc.1)
theorem rk_1 {K : Nat → Int32} (hK : RK v N K) : ∀ a, a < N → ∃ q, q < N ∧ K a = nI q := fun a ha => by
  obtain ⟨q, hq, e⟩ := srt_surj (fun j => vPic v j) true N a ha
  exact ⟨q, hq, by rw [← e]; exact hK q hq⟩
theorem rk_2 {K : Nat → Int32} (hN : N ≤ 8) (hK : RK v N K) : ∀ a b, a < N → b < N → K a = K b → a = b := fun a b ha hb h => by
  obtain ⟨p, hp, ep⟩ := srt_surj (fun j => vPic v j) true N a ha
  obtain ⟨q, hq, eq⟩ := srt_surj (fun j => vPic v j) true N b hb
  rw [← ep, ← eq, hK p hp, hK q hq] at h
  have := nI_inj h (by omega) (by omega)
  rw [← ep, ← eq, this]
theorem dn_inj {a b : Nat} (ha : a ≤ 8) (hb : b ≤ 8) (h : dnI a = dnI b) : a = b := by
  by_cases c : a = 0
  · by_cases d : b = 0
    · omega
    · rw [c, dn_of d] at h; exact absurd h.symm (nI_m1 (by omega))
  · by_cases d : b = 0
    · rw [d, dn_of c] at h; exact absurd h (nI_m1 (by omega))
    · rw [dn_of c, dn_of d] at h
      have := nI_inj h (by omega) (by omega)
      omega
/-- LASTING: both tell the same -/
theorem lasting_eq (hN : N ≤ 8) (hFN : F < N) (hF4 : F ≤ 4) (hsd : ∀ k, k < N → v 3 k = bI (decide (F ≤ k))) : ∃ n s', runF v F N n (fun _ => 0) (fun _ => 0, 0) = some s' ∧ ∀ K, RK v N K → ∀ k, (k < 2 ∨ (10 ≤ k ∧ k < 14)) → ltV (lsF v N F K) k = lnV F s' k := by
  have hF : F ≤ N := by omega
  have hO : ∀ k, k < N → srt (fun j => vPic v j) true N k < N := fun k hk => srt_lt _ _ _ _ hk
  have hOs := fun e he => srt_surj (fun j => vPic v j) true N e he
  have hOi : ∀ p q, p < N → q < N → srt (fun j => vPic v j) true N p = srt (fun j => vPic v j) true N q → p = q := fun p q hp hq h => by
    rcases Nat.lt_trichotomy p q with c | c | c
    · exact absurd h (srt_inj _ _ N _ _ c hq)
    · exact c
    · exact absurd h.symm (srt_inj _ _ N _ _ c hp)
  have hmF : ∀ i j, i < N → j < N → mutB (fun k => vMut v N k) i j = true → (i < F ↔ F ≤ j) := fun i j hi hj h => by
    rw [mut_may hN hj] at h
    exact may_side hsd hi hj h
  have hq0 : RVq (fun _ => 0) F N := fun _ _ => Or.inl rfl
  have hvm0 : VM (fun k => vMut v N k) N F 0 (fun _ => -1) := ⟨fun _ _ _ => rfl, fun k hk => absurd hk (Nat.not_lt_zero k), fun _ _ _ => Or.inl rfl⟩
  obtain ⟨K0, hK0⟩ := rk_ex v N
  by_cases hex : ∃ Q, RVq Q F N ∧ laB v Q F N = true
  · obtain ⟨Q, hQ, hlQ⟩ := hex
    have hQ8 : ∀ k, k < F → Q k ≤ 8 := fun k hk => by rcases hQ k hk with z | z <;> omega
    -- laB picks Q
    have hu : ∀ q, RVq q F N → (laB v q F N = true ↔ ∀ k, k < F → q k = Q k) := fun q hq => by
      constructor
      · intro h k hk
        rw [la_las hN hF hK0 hq, Bool.and_eq_true] at h
        rw [la_las hN hF hK0 hQ, Bool.and_eq_true] at hlQ
        have := uniq' hN hF (rk_1 hK0) (rk_2 hN hK0) (row_vm hN hF hq h.1) (row_vm hN hF hQ hlQ.1) h.2 hlQ.2 (x := k) (by omega)
        rw [show mqF F q k = dnI (q k) from if_pos hk, show mqF F Q k = dnI (Q k) from if_pos hk] at this
        exact dn_inj (by rcases hq k hk with z | z <;> omega) (hQ8 k hk) this
      · intro h
        have e1 : allB (rowP v q) F = allB (rowP v Q) F := by
          refine allB_congr (fun p hp => ?_)
          have a := row_p (v := v) hN hF hq hp
          have b := row_p (v := v) hN hF hQ hp
          have c : (q p = 0 ∨ (vMay v p (q p - 1) = true ∧ ∀ k, k < p → q k ≠ q p)) ↔ (Q p = 0 ∨ (vMay v p (Q p - 1) = true ∧ ∀ k, k < p → Q k ≠ Q p)) := by
            rw [h p hp]
            constructor
            · rintro (z | ⟨z1, z2⟩)
              · exact Or.inl z
              · exact Or.inr ⟨z1, fun k hk => by rw [← h k (by omega)]; exact z2 k hk⟩
            · rintro (z | ⟨z1, z2⟩)
              · exact Or.inl z
              · exact Or.inr ⟨z1, fun k hk => by rw [h k (by omega)]; exact z2 k hk⟩
          rw [Bool.eq_iff_iff, a, b, c]
        rw [la_las hN hF hK0 hq, e1]
        rw [la_las hN hF hK0 hQ, Bool.and_eq_true] at hlQ
        have vq := row_vm hN hF hq (e1.trans hlQ.1)
        have vQ := row_vm hN hF hQ hlQ.1
        rw [hlQ.1, las_congr hF (m' := mqF F Q) (fun k hk => vm_ext hN hF vq vQ (fun k hk => by
          rw [show mqF F q k = dnI (q k) from if_pos hk, show mqF F Q k = dnI (Q k) from if_pos hk, h k hk]) hk), hlQ.2]
        rfl
    have hrun := run_one (v := v) hFN hQ hu ((N - F + 1) ^ F) (fun _ => 0) (fun _ => 0, 0) hq0 (by omega)
    have hv0 : ∀ p, vlN F (N - F + 1) (fun _ => 0) p = 0 := fun p => by
      induction p with
      | zero => rfl
      | succ p ih => rw [vlN, ih, Nat.zero_mul]; rfl
    rw [hv0, if_pos (Nat.zero_le _)] at hrun
    refine ⟨_, _, hrun, fun K hK k hk => ?_⟩
    have hl2 := hlQ
    rw [la_las hN hF hK hQ, Bool.and_eq_true] at hl2
    have vQ := row_vm hN hF hQ hl2.1
    have hls : lsF v N F K = keepF F (mqF F Q) (fun _ => -1, 0) := by
      unfold lsF
      exact (tf_one hN hF hO hOs hOi hmF vQ hl2.2 (fun m hm hl k hk => uniq' hN hF (rk_1 hK) (rk_2 hN hK) hm vQ hl hl2.2 hk) F 0 (fun _ => -1) (fun _ => -1, 0) (by omega) hvm0).1 (fun k hk => absurd hk (Nat.not_lt_zero k))
    have hcls : lsF v N F K = (fun k => if k < F then dnI (Q k) else -1, 1) := by
      rw [hls]
      unfold keepF
      rw [if_pos rfl]
      congr 1
      funext k
      by_cases c : k < F
      · rw [if_pos c, if_pos c]; exact if_pos c
      · rw [if_neg c, if_neg c]
    have href : lfF v F N Q (fun _ => 0, 0) = (fun p => if p < F then Q p else 0, 1) := by
      unfold lfF
      rw [hlQ, if_pos rfl]
      congr 1
      funext p
      by_cases c : p < F
      · rw [if_pos c]
        by_cases z : Q p = 0
        · rw [if_neg]
          · exact z.symm
          · rintro ⟨_, w⟩
            unfold bsB at w
            rw [z] at w
            cases w
        · rw [if_pos]
          refine ⟨c, ?_⟩
          unfold bsB
          simp [z]
      · rw [if_neg c, if_neg (fun w => c w.1)]
    rw [hcls, href]
    unfold ltV lnV
    by_cases k0 : k = 0
    · rw [if_pos k0, if_pos k0]
    rw [if_neg k0, if_neg k0]
    by_cases k1 : k = 1
    · rw [if_pos k1, if_pos k1, show (4 : Nat) = F + (4 - F) by omega, cnt_split]
      rw [cnt_none (n := 4 - F) (fun j hj => by show (!decide ((if F + j < F then dnI (Q (F + j)) else -1) = -1)) = false; rw [if_neg (by omega)]; rfl), Int32.add_zero]
      refine cntB_congr (fun p hp => ?_)
      simp only [if_pos hp]
      by_cases z : Q p = 0
      · rw [z]; rfl
      · rw [dn_of z, decide_eq_false z, decide_eq_false (nI_m1 (by have := hQ8 p hp; omega))]
    rw [if_neg k1, if_neg k1]
    show (if k - 10 < F then dnI (Q (k - 10)) else -1) = nI (if k - 10 < F then Q (k - 10) else 0) - 1
    by_cases c : k - 10 < F
    · rw [if_pos c, if_pos c, dn_eq]
    · rw [if_neg c, if_neg c, dn_eq]; rfl
  · have hno : ∀ q, RVq q F N → laB v q F N = false := fun q hq => by
      cases c : laB v q F N with
      | false => rfl
      | true => exact absurd ⟨q, hq, c⟩ hex
    refine ⟨(N - F + 1) ^ F, _, run_none (v := v) hFN hno ((N - F + 1) ^ F) (fun _ => 0) (fun _ => 0, 0) hq0 (by omega), fun K hK k hk => ?_⟩
    have hls : lsF v N F K = (fun _ => -1, 0) := by
      unfold lsF
      refine tf_none hN hF hO hmF (fun m hm => ?_) F 0 (fun _ => -1) (fun _ => -1, 0) (by omega) hvm0
      have hr := vm_row hN hF hm
      have := hno _ hr.1
      rw [la_las hN hF hK hr.1, hr.2.1, Bool.true_and, las_congr hF (m' := m) (fun k hk => hr.2.2 k hk)] at this
      exact this
    rw [hls]
    unfold ltV lnV
    by_cases k0 : k = 0
    · rw [if_pos k0, if_pos k0]
    rw [if_neg k0, if_neg k0]
    by_cases k1 : k = 1
    · rw [if_pos k1, if_pos k1, cnt_none (fun j _ => by simp), cnt_none (fun j _ => by simp)]
    rw [if_neg k1, if_neg k1]
    show (-1 : Int32) = nI 0 - 1
    decide
end LD
