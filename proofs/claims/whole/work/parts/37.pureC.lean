/-! ===== rows that last: all have one order, so there is one at most ===== -/
theorem allB_iff {P : Nat → Bool} : ∀ {n : Nat}, allB P n = true ↔ ∀ i, i < n → P i = true
  | 0 => ⟨fun _ i h => absurd h (Nat.not_lt_zero i), fun _ => rfl⟩
  | n + 1 => by
    rw [allB, Bool.and_eq_true, allB_iff]
    constructor
    · rintro ⟨h1, h2⟩ i hi
      by_cases e : i = n
      · rw [e]; exact h2
      · exact h1 i (by omega)
    · intro h
      exact ⟨fun i hi => h i (by omega), h n (by omega)⟩
theorem nI_m1 {j : Nat} (h : j < 2 ^ 31) : ¬ nI j = -1 := fun e => by
  have := congrArg Int32.toInt e
  rw [nI_toInt h] at this
  have h2 : (-1 : Int32).toInt = -1 := by decide
  omega
theorem nI_inj {a b : Nat} (h : nI a = nI b) (ha : a < 100) (hb : b < 100) : a = b := (nI_eq (by omega) (by omega)).mp h
/-- a matching of the first i, the others alone -/
def VM (U : Nat → Int32) (N F i : Nat) (m : Nat → Int32) : Prop :=
  (∀ k, k < F → i ≤ k → m k = -1) ∧ (∀ k, k < i → m k = -1 ∨ ∃ e, F ≤ e ∧ e < N ∧ m k = nI e ∧ m e = nI k ∧ mutB U k e = true) ∧ (∀ e, F ≤ e → e < N → m e = -1 ∨ ∃ k, k < i ∧ m e = nI k ∧ m k = nI e)
def mSd (U : Nat → Int32) (F x y : Nat) : Bool := if x < F then mutB U x y else mutB U y x
section LS
variable {U K : Nat → Int32} {N F : Nat}
theorem vm_any (hN : N ≤ 8) (hF : F ≤ N) {m : Nat → Int32} (h : VM U N F F m) {x : Nat} (hx : x < N) : m x = -1 ∨ ∃ y, y < N ∧ m x = nI y ∧ m y = nI x ∧ (x < F ↔ F ≤ y) ∧ mSd U F x y = true := by
  by_cases c : x < F
  · rcases h.2.1 x c with e | ⟨y, h1, h2, h3, h4, h5⟩
    · exact Or.inl e
    · exact Or.inr ⟨y, h2, h3, h4, by omega, by unfold mSd; rw [if_pos c]; exact h5⟩
  · rcases h.2.2 x (by omega) hx with e | ⟨y, h1, h2, h3⟩
    · exact Or.inl e
    · refine Or.inr ⟨y, by omega, h2, h3, by omega, ?_⟩
      rcases h.2.1 y h1 with e | ⟨z, _, z2, z3, _, z5⟩
      · rw [e] at h3; exact absurd h3.symm (nI_m1 (by omega))
      · have : z = x := nI_inj (z3.symm.trans h3) (by omega) (by omega)
        unfold mSd
        rw [if_neg c, ← this]
        exact z5
theorem las_no (hF : F ≤ N) {m : Nat → Int32} (h : lasB U K m F N = true) {x y : Nat} (hx : x < N) (hy : y < N) (hs : x < F ↔ F ≤ y) (hm : mSd U F x y = true) (h1 : wantB K m x y = true) (h2 : wantB K m y x = true) : False := by
  have hall : ∀ i, i < F → ∀ j, F ≤ j → j < N → blkB U K m i j = false := fun i hi j h1 h2 => by
    have := allB_iff.mp (allB_iff.mp h i hi) (j - F) (by omega)
    rw [Nat.add_sub_cancel' h1] at this
    simpa using this
  unfold mSd at hm
  by_cases c : x < F
  · rw [if_pos c] at hm
    have := hall x c y (hs.mp c) hy
    rw [blkB, hm, h1, h2] at this
    cases this
  · rw [if_neg c] at hm
    have := hall y (by omega) x (by omega) hx
    rw [blkB, hm, h1, h2] at this
    cases this
/-- the one who is ranked best among those who differ would leave -/
theorem uq_step (hN : N ≤ 8) (hF : F ≤ N) (hK : ∀ a, a < N → ∃ q, q < N ∧ K a = nI q) (hinj : ∀ a b, a < N → b < N → K a = K b → a = b) {m m' : Nat → Int32} (h : VM U N F F m) (h' : VM U N F F m') (l' : lasB U K m' F N = true) {x y : Nat} (hx : x < N) (ih : ∀ z, z < N → K z < K x → m z = m' z) (hy : y < N) (hxy : m x = nI y) (hw : m' x = -1 ∨ ∃ y', y' < N ∧ m' x = nI y' ∧ K y < K y') : False := by
  rcases vm_any hN hF h hx with e | ⟨y2, hy2, e1, e2, e3, e4⟩
  · rw [e] at hxy; exact nI_m1 (by omega) hxy.symm
  have : y2 = y := nI_inj (e1.symm.trans hxy) (by omega) (by omega)
  subst this
  have irr : ∀ a : Int32, ¬ a < a := fun a q => by rw [i_lt] at q; omega
  refine las_no hF l' hx hy e3 e4 ?_ ?_
  · unfold wantB
    rcases hw with w | ⟨y', hy', w1, w2⟩
    · rw [decide_eq_true w]; rfl
    · rw [w1, nI_clamp (by omega), decide_eq_true w2, Bool.or_true]
  · rcases vm_any hN hF h' hy with w | ⟨z, hz, z1, z2, _, _⟩
    · unfold wantB
      rw [decide_eq_true w]; rfl
    · have hlt : K x < K z := by
        obtain ⟨qx, hqx, ex⟩ := hK x hx
        obtain ⟨qz, hqz, ez⟩ := hK z hz
        rcases Nat.lt_trichotomy qx qz with c | c | c
        · rw [ex, ez]; exact nI_lt c (by omega)
        · have : z = x := hinj z x hz hx (by rw [ex, ez, c])
          subst this
          rcases hw with w | ⟨y', hy', w1, w2⟩
          · rw [w] at z2; exact absurd z2.symm (nI_m1 (by omega))
          · have : y' = y2 := nI_inj (w1.symm.trans z2) (by omega) (by omega)
            rw [this] at w2
            exact absurd w2 (irr _)
        · have hzx : K z < K x := by rw [ex, ez]; exact nI_lt c (by omega)
          have e5 := (ih z hz hzx).trans z2
          rcases vm_any hN hF h hz with f | ⟨y3, hy3, f1, f2, _, _⟩
          · rw [f] at e5; exact absurd e5.symm (nI_m1 (by omega))
          · have : y3 = y2 := nI_inj (f1.symm.trans e5) (by omega) (by omega)
            rw [this] at f2
            have : z = x := nI_inj (f2.symm.trans e2) (by omega) (by omega)
            rw [this] at hzx
            exact absurd hzx (irr _)
      unfold wantB
      rw [z1, nI_clamp (by omega), decide_eq_true hlt, Bool.or_true]
theorem uniq (hN : N ≤ 8) (hF : F ≤ N) (hK : ∀ a, a < N → ∃ q, q < N ∧ K a = nI q) (hinj : ∀ a b, a < N → b < N → K a = K b → a = b) {m m' : Nat → Int32} (h : VM U N F F m) (h' : VM U N F F m') (l : lasB U K m F N = true) (l' : lasB U K m' F N = true) : ∀ q, q < N → ∀ x, x < N → K x = nI q → m x = m' x := by
  intro q
  induction q using Nat.strongRecOn with
  | _ q ih =>
    intro hq x hx ex
    have ih2 : ∀ z, z < N → K z < K x → m z = m' z := fun z hz hlt => by
      obtain ⟨qz, hqz, ez⟩ := hK z hz
      rw [ex, ez] at hlt
      exact ih qz ((nI_ltI (by omega) (by omega)).mp hlt) hqz z hz ez
    rcases vm_any hN hF h hx with e | ⟨y, hy, e1, _, _, _⟩
    · rcases vm_any hN hF h' hx with f | ⟨y', hy', f1, _, _, _⟩
      · rw [e, f]
      · exact (uq_step hN hF hK hinj h' h l hx (fun z hz hl => (ih2 z hz hl).symm) hy' f1 (Or.inl e)).elim
    · rcases vm_any hN hF h' hx with f | ⟨y', hy', f1, _, _, _⟩
      · exact (uq_step hN hF hK hinj h h' l' hx ih2 hy e1 (Or.inl f)).elim
      · by_cases c : y = y'
        · rw [e1, f1, c]
        · obtain ⟨a, ha, ea⟩ := hK y hy
          obtain ⟨b, hb, eb⟩ := hK y' hy'
          have hab : a ≠ b := fun w => c (hinj y y' hy hy' (by rw [ea, eb, w]))
          rcases Nat.lt_or_gt_of_ne hab with w | w
          · exact (uq_step hN hF hK hinj h h' l' hx ih2 hy e1 (Or.inr ⟨y', hy', f1, by rw [ea, eb]; exact nI_lt w (by omega)⟩)).elim
          · exact (uq_step hN hF hK hinj h' h l hx (fun z hz hl => (ih2 z hz hl).symm) hy' f1 (Or.inr ⟨y, hy, e1, by rw [ea, eb]; exact nI_lt w (by omega)⟩)).elim
theorem uniq' (hN : N ≤ 8) (hF : F ≤ N) (hK : ∀ a, a < N → ∃ q, q < N ∧ K a = nI q) (hinj : ∀ a b, a < N → b < N → K a = K b → a = b) {m m' : Nat → Int32} (h : VM U N F F m) (h' : VM U N F F m') (l : lasB U K m F N = true) (l' : lasB U K m' F N = true) {x : Nat} (hx : x < N) : m x = m' x := by
  obtain ⟨q, hq, e⟩ := hK x hx
  exact uniq hN hF hK hinj h h' l l' q hq x hx e
theorem las_congr (hF : F ≤ N) {m m' : Nat → Int32} (h : ∀ k, k < N → m k = m' k) : lasB U K m F N = lasB U K m' F N := by
  unfold lasB
  refine allB_congr (fun i hi => allB_congr (fun j hj => ?_))
  unfold blkB wantB
  rw [h i (by omega), h (F + j) (by omega)]
theorem vm_ext (hN : N ≤ 8) (hF : F ≤ N) {m m' : Nat → Int32} (h : VM U N F F m) (h' : VM U N F F m') (ha : ∀ k, k < F → m k = m' k) {k : Nat} (hk : k < N) : m k = m' k := by
  by_cases c : k < F
  · exact ha k c
  · rcases h.2.2 k (by omega) hk with e | ⟨x, x1, x2, x3⟩
    · rcases h'.2.2 k (by omega) hk with f | ⟨y, y1, y2, y3⟩
      · rw [e, f]
      · rw [← ha y y1] at y3
        rcases h.2.1 y y1 with g | ⟨z, z1, z2, z3, z4, _⟩
        · rw [g] at y3; exact absurd y3.symm (nI_m1 (by omega))
        · have : z = k := nI_inj (z3.symm.trans y3) (by omega) (by omega)
          rw [this, e] at z4
          exact absurd z4.symm (nI_m1 (by omega))
    · rw [ha x x1] at x3
      rcases h'.2.1 x x1 with g | ⟨z, z1, z2, z3, z4, _⟩
      · rw [g] at x3; exact absurd x3.symm (nI_m1 (by omega))
      · have : z = k := nI_inj (z3.symm.trans x3) (by omega) (by omega)
        rw [this] at z4
        rw [x2, z4]
theorem keep_congr {m m' : Nat → Int32} (h : ∀ k, k < F → m k = m' k) (s : ST) : keepF F m s = keepF F m' s := by
  unfold keepF
  split
  · congr 1
    funext k
    by_cases c : k < F
    · rw [if_pos c, if_pos c, h k c]
    · rw [if_neg c, if_neg c]
  · rfl
theorem pl_none {step : Nat → ST → ST} : ∀ (n q : Nat) (s : ST), (∀ k, q ≤ k → k < q + n → ∀ s, step k s = s) → plF step n q s = s
  | 0, _, _, _ => rfl
  | n + 1, q, s, h => by rw [plF, h q (by omega) (by omega), pl_none n (q + 1) s (fun k h1 h2 => h k (by omega) (by omega))]
theorem pl_one {step : Nat → ST → ST} {q0 : Nat} : ∀ (n q : Nat) (s : ST), q ≤ q0 → q0 < q + n → (∀ k, q ≤ k → k < q + n → k ≠ q0 → ∀ s, step k s = s) → plF step n q s = step q0 s
  | 0, q, _, h1, h2, _ => absurd h2 (by omega)
  | n + 1, q, s, h1, h2, h => by
    rw [plF]
    by_cases c : q = q0
    · rw [c]
      exact pl_none n (q0 + 1) _ (fun k h3 h4 => h k (by omega) (by omega) (by omega))
    · rw [h q (by omega) (by omega) c]
      exact pl_one n (q + 1) s (by omega) (by omega) (fun k h3 h4 h5 => h k (by omega) (by omega) h5)
theorem upd_s {f : Nat → Int32} {k : Nat} {v : Int32} : upd f k v k = v := by simp [upd]
theorem upd_n {f : Nat → Int32} {k j : Nat} {v : Int32} (h : j ≠ k) : upd f k v j = f j := by simp [upd, h]
theorem vm_next (hN : N ≤ 8) (hF : F ≤ N) {i : Nat} (hi : i < F) {m : Nat → Int32} (h : VM U N F i m) : VM U N F (i + 1) m :=
  ⟨fun k h1 h2 => h.1 k h1 (by omega), fun k hk => by
    by_cases c : k = i
    · exact Or.inl (h.1 k (by omega) (by omega))
    · exact h.2.1 k (by omega), fun e h1 h2 => by
    rcases h.2.2 e h1 h2 with c | ⟨k, k1, k2⟩
    · exact Or.inl c
    · exact Or.inr ⟨k, by omega, k2⟩⟩
theorem vm_up (hN : N ≤ 8) (hF : F ≤ N) {i e : Nat} (hi : i < F) (he : F ≤ e) (heN : e < N) {m : Nat → Int32} (h : VM U N F i m) (hm : mutB U i e = true) (hne : m e = -1) : VM U N F (i + 1) (upd (upd m i (nI e)) e (nI i)) := by
  refine ⟨fun k h1 h2 => by rw [upd_n (by omega), upd_n (by omega)]; exact h.1 k h1 (by omega), fun k hk => ?_, fun x h1 h2 => ?_⟩
  · by_cases c : k = i
    · rw [c]
      exact Or.inr ⟨e, he, heN, by rw [upd_n (by omega), upd_s], upd_s, hm⟩
    · rcases h.2.1 k (by omega) with z | ⟨y, y1, y2, y3, y4, y5⟩
      · exact Or.inl (by rw [upd_n (by omega), upd_n c]; exact z)
      · have : y ≠ e := fun w => by rw [w, hne] at y4; exact nI_m1 (by omega) y4.symm
        exact Or.inr ⟨y, y1, y2, by rw [upd_n (by omega), upd_n c]; exact y3, by rw [upd_n this, upd_n (by omega)]; exact y4, y5⟩
  · by_cases c : x = e
    · rw [c]
      exact Or.inr ⟨i, by omega, upd_s, by rw [upd_n (by omega), upd_s]⟩
    · rcases h.2.2 x h1 h2 with z | ⟨k, k1, k2, k3⟩
      · exact Or.inl (by rw [upd_n c, upd_n (by omega)]; exact z)
      · exact Or.inr ⟨k, by omega, by rw [upd_n c, upd_n (by omega)]; exact k2, by rw [upd_n (by omega), upd_n (by omega)]; exact k3⟩
variable {O : Nat → Nat}
/-- no row lasts: nothing is kept -/
theorem tf_none (hN : N ≤ 8) (hF : F ≤ N) (hO : ∀ k, k < N → O k < N) (hmF : ∀ i j, i < N → j < N → mutB U i j = true → (i < F ↔ F ≤ j)) (hno : ∀ m, VM U N F F m → lasB U K m F N = false) : ∀ (n i : Nat) (m : Nat → Int32) (s : ST), i + n = F → VM U N F i m → tfF O U K F N n i m s = s
  | 0, i, m, s, hi, h => by
    have : i = F := by omega
    subst this
    rw [tfF, hno m h]
    rfl
  | n + 1, i, m, s, hi, h => by
    rw [tfF, pl_none N 0 s (fun q _ hq s => by
      split
      · rename_i c
        have hqN := hO q (by omega)
        exact tf_none hN hF hO hmF hno n (i + 1) _ s (by omega) (vm_up hN hF (by omega) ((hmF i (O q) (by omega) hqN c.1).mp (by omega)) hqN h c.1 c.2)
      · rfl)]
    exact tf_none hN hF hO hmF hno n (i + 1) m s (by omega) (vm_next hN hF (by omega) h)
/-- one row lasts: it is kept, once -/
theorem tf_one (hN : N ≤ 8) (hF : F ≤ N) (hO : ∀ k, k < N → O k < N) (hOs : ∀ e, e < N → ∃ q, q < N ∧ O q = e) (hOi : ∀ p q, p < N → q < N → O p = O q → p = q) (hmF : ∀ i j, i < N → j < N → mutB U i j = true → (i < F ↔ F ≤ j)) {M : Nat → Int32} (hM : VM U N F F M) (hl : lasB U K M F N = true) (hu : ∀ m, VM U N F F m → lasB U K m F N = true → ∀ k, k < N → m k = M k) : ∀ (n i : Nat) (m : Nat → Int32) (s : ST), i + n = F → VM U N F i m → ((∀ k, k < i → m k = M k) → tfF O U K F N n i m s = keepF F M s) ∧ ((∃ k, k < i ∧ m k ≠ M k) → tfF O U K F N n i m s = s)
  | 0, i, m, s, hi, h => by
    have : i = F := by omega
    subst this
    constructor
    · intro ha
      rw [tfF, las_congr hF (fun k hk => vm_ext hN hF h hM ha hk), hl, if_pos rfl]
      exact keep_congr ha s
    · rintro ⟨k, hk, hne⟩
      rw [tfF]
      cases c : lasB U K m i N with
      | true => exact absurd (hu m h c k (by omega)) hne
      | false => rfl
  | n + 1, i, m, s, hi, h => by
    have IH := fun m s h => tf_one hN hF hO hOs hOi hmF hM hl hu n (i + 1) m s (by omega) h
    have hmi : m i = -1 := h.1 i (by omega) (Nat.le_refl i)
    have hnext := vm_next hN hF (by omega : i < F) h
    -- the branch at q, when it may be
    have side : ∀ q, q < N → mutB U i (O q) = true → F ≤ O q := fun q hq c => (hmF i (O q) (by omega) (hO q hq) c).mp (by omega)
    constructor
    · intro ha
      rw [tfF]
      rcases hM.2.1 i (by omega) with c | ⟨e, e1, e2, e3, e4, e5⟩
      · rw [pl_none N 0 s (fun q _ hq s => by
          split
          · rename_i w
            have hs := side q (by omega) w.1
            refine (IH _ s (vm_up hN hF (by omega) hs (hO q (by omega)) h w.1 w.2)).2 ⟨i, by omega, ?_⟩
            rw [upd_n (by omega), upd_s, c]
            exact nI_m1 (by have := hO q (by omega); omega)
          · rfl)]
        refine (IH m s hnext).1 (fun k hk => ?_)
        by_cases z : k = i
        · rw [z, hmi, c]
        · exact ha k (by omega)
      · obtain ⟨q0, hq0, eq0⟩ := hOs e e2
        have hme : m e = -1 := by
          rcases h.2.2 e e1 e2 with z | ⟨k, k1, k2, k3⟩
          · exact z
          · rw [ha k k1] at k3
            rcases hM.2.1 k (by omega) with w | ⟨y, y1, y2, y3, y4, _⟩
            · rw [w] at k3; exact absurd k3.symm (nI_m1 (by omega))
            · have : y = e := nI_inj (y3.symm.trans k3) (by omega) (by omega)
              rw [this, e4] at y4
              have := nI_inj y4 (by omega) (by omega)
              omega
        rw [pl_one (q0 := q0) N 0 s (by omega) (by omega) (fun q _ hq hne s => by
          split
          · rename_i w
            have hs := side q (by omega) w.1
            refine (IH _ s (vm_up hN hF (by omega) hs (hO q (by omega)) h w.1 w.2)).2 ⟨i, by omega, ?_⟩
            rw [upd_n (by omega), upd_s, e3]
            intro z
            have := nI_inj z (by have := hO q (by omega); omega) (by omega)
            exact hne (hOi q q0 (by omega) hq0 (by rw [this, eq0]))
          · rfl), if_pos (by rw [eq0]; exact ⟨e5, hme⟩), eq0]
        rw [(IH _ s (vm_up hN hF (by omega) e1 e2 h e5 hme)).1 (fun k hk => by
          rw [upd_n (by omega)]
          by_cases z : k = i
          · rw [z, upd_s, e3]
          · rw [upd_n z]; exact ha k (by omega))]
        exact (IH m _ hnext).2 ⟨i, by omega, by rw [hmi, e3]; exact fun z => nI_m1 (by omega) z.symm⟩
    · rintro ⟨k, hk, hne⟩
      rw [tfF, pl_none N 0 s (fun q _ hq s => by
        split
        · rename_i w
          have hs := side q (by omega) w.1
          exact (IH _ s (vm_up hN hF (by omega) hs (hO q (by omega)) h w.1 w.2)).2 ⟨k, by omega, by rw [upd_n (by omega), upd_n (by omega)]; exact hne⟩
        · rfl)]
      exact (IH m s hnext).2 ⟨k, by omega, hne⟩
end LS
/-! the reference's rows -/
def dgN (F d : Nat) : Nat := if d = 0 then 0 else d - F
def vlN (F B : Nat) (q : Nat → Nat) : Nat → Nat
  | 0 => 0
  | p + 1 => vlN F B q p * B + dgN F (q p)
section RS
variable {F N : Nat}
theorem dg_lt {d : Nat} (hF : F ≤ N) (h : d = 0 ∨ (F < d ∧ d ≤ N)) : dgN F d < N - F + 1 := by
  unfold dgN
  split <;> omega
theorem vl_lt (hF : F ≤ N) {q : Nat → Nat} : ∀ p, (∀ k, k < p → q k = 0 ∨ (F < q k ∧ q k ≤ N)) → vlN F (N - F + 1) q p < (N - F + 1) ^ p
  | 0, _ => by simp [vlN]
  | p + 1, h => by
    have ih := vl_lt hF p (fun k hk => h k (by omega))
    have hd := dg_lt hF (h p (by omega))
    rw [vlN, Nat.pow_succ]
    have := Nat.mul_le_mul_right (N - F + 1) (show vlN F (N - F + 1) q p + 1 ≤ (N - F + 1) ^ p from ih)
    rw [Nat.succ_mul] at this
    omega
theorem vl_congr {B : Nat} {q q' : Nat → Nat} : ∀ p, (∀ k, k < p → q k = q' k) → vlN F B q p = vlN F B q' p
  | 0, _ => rfl
  | p + 1, h => by rw [vlN, vlN, vl_congr p (fun k hk => h k (by omega)), h p (by omega)]
theorem vl_inj (hF : F ≤ N) {q q' : Nat → Nat} : ∀ p, (∀ k, k < p → q k = 0 ∨ (F < q k ∧ q k ≤ N)) → (∀ k, k < p → q' k = 0 ∨ (F < q' k ∧ q' k ≤ N)) → vlN F (N - F + 1) q p = vlN F (N - F + 1) q' p → ∀ k, k < p → q k = q' k
  | 0, _, _, _ => fun k hk => absurd hk (Nat.not_lt_zero k)
  | p + 1, h, h', he => by
    rw [vlN, vlN] at he
    have hd := dg_lt hF (h p (by omega))
    have hd' := dg_lt hF (h' p (by omega))
    have e1 : dgN F (q p) = dgN F (q' p) := by
      have := congrArg (· % (N - F + 1)) he
      simp only [Nat.mul_add_mod', Nat.mod_eq_of_lt hd, Nat.mod_eq_of_lt hd'] at this
      exact this
    have e2 : vlN F (N - F + 1) q p = vlN F (N - F + 1) q' p := by
      rw [e1] at he
      exact Nat.eq_of_mul_eq_mul_right (by omega : 0 < N - F + 1) (by omega)
    intro k hk
    by_cases c : k = p
    · rw [c]
      have a := h p (by omega)
      have b := h' p (by omega)
      unfold dgN at e1
      split at e1 <;> split at e1 <;> omega
    · exact vl_inj hF p (fun k hk => h k (by omega)) (fun k hk => h' k (by omega)) e2 k (by omega)
theorem nx_val (hF : F < N) : ∀ (p : Nat) (q : Nat → Nat), (∀ k, k < p → q k = 0 ∨ (F < q k ∧ q k ≤ N)) → match nxF F N p q with
    | none => vlN F (N - F + 1) q p + 1 = (N - F + 1) ^ p
    | some q' => vlN F (N - F + 1) q' p = vlN F (N - F + 1) q p + 1 ∧ (∀ k, p ≤ k → q' k = q k) ∧ ∀ k, k < p → q' k = 0 ∨ (F < q' k ∧ q' k ≤ N)
  | 0, q, _ => rfl
  | p + 1, q, h => by
    rw [nxF]
    by_cases c : q p = N
    · rw [if_pos c]
      have e0 : ∀ k, k < p → uN q p 0 k = q k := fun k hk => if_neg (by omega)
      have ih := nx_val hF p (uN q p 0) (fun k hk => by rw [e0 k hk]; exact h k (by omega))
      have ev : vlN F (N - F + 1) (uN q p 0) p = vlN F (N - F + 1) q p := vl_congr p e0
      have ed : dgN F (q p) = N - F := by unfold dgN; rw [if_neg (by omega), c]
      cases hn : nxF F N p (uN q p 0) with
      | none =>
        rw [hn] at ih
        show vlN F (N - F + 1) q p * (N - F + 1) + dgN F (q p) + 1 = (N - F + 1) ^ (p + 1)
        rw [Nat.pow_succ, ← ih, ev, ed, Nat.succ_mul]
        omega
      | some q' =>
        rw [hn] at ih
        obtain ⟨i1, i2, i3⟩ := ih
        have ep : q' p = 0 := by rw [i2 p (Nat.le_refl p)]; exact if_pos rfl
        refine ⟨?_, fun k hk => ?_, fun k hk => ?_⟩
        · show vlN F (N - F + 1) q' p * (N - F + 1) + dgN F (q' p) = vlN F (N - F + 1) q p * (N - F + 1) + dgN F (q p) + 1
          rw [i1, ev, ep, ed, Nat.succ_mul]
          show _ + (if (0 : Nat) = 0 then 0 else 0 - F) = _
          rw [if_pos rfl]
          omega
        · rw [i2 k (by omega)]; exact if_neg (by omega)
        · by_cases z : k = p
          · rw [z, ep]; exact Or.inl rfl
          · exact i3 k (by omega)
    · rw [if_neg c]
      have hp := h p (by omega)
      have e0 : ∀ k, k < p → uN q p (if q p = 0 then F + 1 else q p + 1) k = q k := fun k hk => if_neg (by omega)
      have ep : uN q p (if q p = 0 then F + 1 else q p + 1) p = if q p = 0 then F + 1 else q p + 1 := if_pos rfl
      refine ⟨?_, fun k hk => if_neg (by omega), fun k hk => ?_⟩
      · show vlN F (N - F + 1) (uN q p (if q p = 0 then F + 1 else q p + 1)) p * (N - F + 1) + dgN F (uN q p (if q p = 0 then F + 1 else q p + 1) p) = vlN F (N - F + 1) q p * (N - F + 1) + dgN F (q p) + 1
        rw [vl_congr p e0, ep]
        unfold dgN
        split <;> split <;> omega
      · by_cases z : k = p
        · rw [z, ep]
          right
          split <;> omega
        · rw [e0 k (by omega)]; exact h k (by omega)
variable {v : VV}
theorem run_none (hF : F < N) (hno : ∀ q, RVq q F N → laB v q F N = false) : ∀ (n : Nat) (q : Nat → Nat) (s : SN), RVq q F N → (N - F + 1) ^ F ≤ vlN F (N - F + 1) q F + n → runF v F N n q s = some s
  | 0, q, s, h, hn => absurd (vl_lt (by omega) F h) (by omega)
  | n + 1, q, s, h, hn => by
    have hx := nx_val hF F q h
    have hl : lfF v F N q s = s := by unfold lfF; rw [hno q h]; rfl
    rw [runF, hl]
    cases hq : nxF F N F q with
    | none => rfl
    | some q' =>
      rw [hq] at hx
      exact run_none hF hno n q' s hx.2.2 (by omega)
theorem run_one (hF : F < N) {Q : Nat → Nat} (hQ : RVq Q F N) (hu : ∀ q, RVq q F N → (laB v q F N = true ↔ ∀ k, k < F → q k = Q k)) : ∀ (n : Nat) (q : Nat → Nat) (s : SN), RVq q F N → (N - F + 1) ^ F ≤ vlN F (N - F + 1) q F + n → runF v F N n q s = some (if vlN F (N - F + 1) q F ≤ vlN F (N - F + 1) Q F then lfF v F N Q s else s)
  | 0, q, s, h, hn => absurd (vl_lt (by omega) F h) (by omega)
  | n + 1, q, s, h, hn => by
    have hx := nx_val hF F q h
    have hQQ : laB v Q F N = true := (hu Q hQ).mpr (fun _ _ => rfl)
    have vQ := vl_lt (by omega : F ≤ N) F hQ
    rw [runF]
    by_cases c : ∀ k, k < F → q k = Q k
    · have ev : vlN F (N - F + 1) q F = vlN F (N - F + 1) Q F := vl_congr F c
      have hl : lfF v F N q s = lfF v F N Q s := by
        unfold lfF
        rw [(hu q h).mpr c, hQQ, if_pos rfl, if_pos rfl]
        congr 1
        funext p
        by_cases z : p < F
        · have : bsB v q s.1 p = bsB v Q s.1 p := by unfold bsB; rw [c p z]
          rw [this, c p z]
        · rw [if_neg (fun w => z w.1), if_neg (fun w => z w.1)]
      rw [hl, if_pos (by omega)]
      cases hq : nxF F N F q with
      | none => rfl
      | some q' =>
        rw [hq] at hx
        show runF v F N n q' _ = _
        rw [run_one hF hQ hu n q' _ hx.2.2 (by omega), if_neg (by omega)]
    · have hl : lfF v F N q s = s := by
        unfold lfF
        rw [if_neg (fun w => c ((hu q h).mp w))]
      have hne : vlN F (N - F + 1) q F ≠ vlN F (N - F + 1) Q F := fun w => c (vl_inj (by omega) F h hQ w)
      rw [hl]
      cases hq : nxF F N F q with
      | none =>
        rw [hq] at hx
        show some s = _
        have hx' : vlN F (N - F + 1) q F + 1 = (N - F + 1) ^ F := hx
        rw [if_neg (by omega)]
      | some q' =>
        rw [hq] at hx
        show runF v F N n q' s = _
        rw [run_one hF hQ hu n q' s hx.2.2 (by omega)]
        have hx' := hx.1
        by_cases z : vlN F (N - F + 1) q F ≤ vlN F (N - F + 1) Q F
        · rw [if_pos z, if_pos (by omega)]
        · rw [if_neg z, if_neg (by omega)]
end RS
