/-! ===== the state relation ===== -/
def Rel (a k : Nat) : Prop := (a = 3 ∧ 2 ≤ k ∧ k ≤ 9) ∨ (a = 5 ∧ k = 3) ∨ ((6 ≤ a ∧ a ≤ 8) ∧ k < 8) ∨ ((9 ≤ a ∧ a ≤ 16) ∧ 2 ≤ k ∧ k ≤ 11) ∨ (a = 53 ∧ (k = 1 ∨ k = 2 ∨ (12 ≤ k ∧ k ≤ 18))) ∨ ((54 ≤ a ∧ a ≤ 65) ∧ k < 8)
def KRel (a k : Nat) : Prop := (a = 17 ∧ 2 ≤ k ∧ k ≤ 9) ∨ (a = 19 ∧ k = 3) ∨ ((20 ≤ a ∧ a ≤ 22) ∧ k < 8) ∨ ((23 ≤ a ∧ a ≤ 30) ∧ 2 ≤ k ∧ k ≤ 11) ∨ (a = 53 ∧ (k = 1 ∨ k = 2 ∨ (40 ≤ k ∧ k ≤ 46))) ∨ ((54 ≤ a ∧ a ≤ 55) ∧ k < 8) ∨ ((73 ≤ a ∧ a ≤ 82) ∧ k < 8)
/-- the heap behind a restore on both sides -/
def rst (hi : Nat → Nat → Int32) : Nat → Nat → Int32 := reF (reS (cwF hi 3 17)) 8
/-- the heap behind an image on both sides -/
def img (hi : Nat → Nat → Int32) : Nat → Nat → Int32 := imF (imS (upI (cwF hi 17 3) 0 5 1)) 8
def CORE (hi : Nat → Nat → Int32) (N F : Nat) : Prop :=
  MO7 hi N F ∧ (N = 0 ∧ F = 0 ∨ 0 < F ∧ F < N ∧ F ≤ 4) ∧ (hi 3 3 = nI N ∧ hi 3 2 = nI F) ∧ vw hi 3 N = vm hi N F ∧ VI (vm hi N F) N F ∧
  (hi 3 4 = hi 53 12 ∧ hi 3 5 = hi 53 13 ∧ hi 3 6 = hi 53 16 ∧ hi 3 7 = hi 53 17 ∧ hi 3 8 = hi 53 14 ∧ hi 3 9 = hi 53 15) ∧ (∃ D : Nat, D ≤ 99 ∧ hi 53 13 = nI D) ∧
  (∃ S : Nat, S ≤ 8 ∧ hi 5 3 = nI S ∧ hi 53 18 = nI S ∧ (∀ k, k < S → hi 6 k = hi 63 k ∧ hi 7 k = hi 64 k ∧ hi 8 k = hi 65 k) ∧ SE (hi 64) (hi 65) S N)
theorem SE.of {s2 s3 t2 t3 : Nat → Int32} {S N : Nat} (h : SE s2 s3 S N) (e : ∀ k, k < S → t2 k = s2 k ∧ t3 k = s3 k) : SE t2 t3 S N :=
  ⟨h.1, fun k hk => by rw [(e k hk).1, (e k hk).2]; exact h.2 k hk⟩
theorem CORE.of {f g : Nat → Nat → Int32} {N F : Nat} (h : CORE f N F) (e : ∀ a k, Rel a k → g a k = f a k) : CORE g N F := by
  obtain ⟨h1, h2, ⟨h3, h4⟩, h5, h6, ⟨s1, s2, s3, s4, s5, s6⟩, ⟨D, d1, d2⟩, S, t1, t2, t3, t4, t5⟩ := h
  have hN8 := h1.1
  have ev : vm g N F = vm f N F := m_congr (fun k hk a ha hb => e a k (by unfold Rel; omega))
  have ew : vw g 3 N = vw f 3 N := w_congr (fun k hk t ht hb => e _ _ (by unfold Rel; omega))
  have r3 : ∀ k, 2 ≤ k → k ≤ 9 → g 3 k = f 3 k := fun k q z => e 3 k (by unfold Rel; omega)
  have r53 : ∀ k, 12 ≤ k → k ≤ 18 → g 53 k = f 53 k := fun k q z => e 53 k (by unfold Rel; omega)
  have rs : ∀ a k, 6 ≤ a → a ≤ 8 → k < S → g a k = f a k := fun a k q z w => e a k (by unfold Rel; omega)
  have rm : ∀ a k, 63 ≤ a → a ≤ 65 → k < S → g a k = f a k := fun a k q z w => e a k (by unfold Rel; omega)
  refine ⟨h1.of (e 53 1 (by unfold Rel; omega)) (e 53 2 (by unfold Rel; omega)), h2, ⟨(r3 3 (by decide) (by decide)).trans h3, (r3 2 (by decide) (by decide)).trans h4⟩, by rw [ev, ew, h5], by rw [ev]; exact h6, ?_, ⟨D, d1, by rw [r53 13 (by decide) (by decide), d2]⟩, S, t1, by rw [e 5 3 (by unfold Rel; omega), t2], by rw [r53 18 (by decide) (by decide), t3], ?_, ?_⟩
  · rw [r3 4 (by decide) (by decide), r3 5 (by decide) (by decide), r3 6 (by decide) (by decide), r3 7 (by decide) (by decide), r3 8 (by decide) (by decide), r3 9 (by decide) (by decide), r53 12 (by decide) (by decide), r53 13 (by decide) (by decide), r53 14 (by decide) (by decide), r53 15 (by decide) (by decide), r53 16 (by decide) (by decide), r53 17 (by decide) (by decide)]
    exact ⟨s1, s2, s3, s4, s5, s6⟩
  · intro k hk
    rw [rs 6 k (by decide) (by decide) hk, rs 7 k (by decide) (by decide) hk, rs 8 k (by decide) (by decide) hk, rm 63 k (by decide) (by decide) hk, rm 64 k (by decide) (by decide) hk, rm 65 k (by decide) (by decide) hk]
    exact t4 k hk
  · exact t5.of (fun k hk => ⟨rm 64 k (by decide) (by decide) hk, rm 65 k (by decide) (by decide) hk⟩)
/-- the views given anew, the scalars too -/
theorem CORE.up {f g : Nat → Nat → Int32} {N F : Nat} (h : CORE f N F) {v' : VV} (hw : vw g 3 N = v') (hm : vm g N F = v') (hv : VI v' N F)
    (e1 : g 53 1 = f 53 1) (e2 : g 53 2 = f 53 2) (e3 : g 3 3 = f 3 3) (e4 : g 3 2 = f 3 2) (e5 : g 5 3 = f 5 3) (e6 : g 53 18 = f 53 18)
    (es : ∀ a k, (6 ≤ a ∧ a ≤ 8) ∨ (63 ≤ a ∧ a ≤ 65) → g a k = f a k)
    (sc : g 3 4 = g 53 12 ∧ g 3 5 = g 53 13 ∧ g 3 6 = g 53 16 ∧ g 3 7 = g 53 17 ∧ g 3 8 = g 53 14 ∧ g 3 9 = g 53 15) (hD : ∃ D : Nat, D ≤ 99 ∧ g 53 13 = nI D) : CORE g N F := by
  obtain ⟨h1, h2, ⟨h3, h4⟩, h5, h6, -, -, S, t1, t2, t3, t4, t5⟩ := h
  refine ⟨h1.of e1 e2, h2, ⟨e3.trans h3, e4.trans h4⟩, hw.trans hm.symm, by rw [hm]; exact hv, sc, hD, S, t1, e5.trans t2, e6.trans t3, fun k hk => ?_, t5.of (fun k hk => ⟨es 64 k (by omega), es 65 k (by omega)⟩)⟩
  rw [es 6 k (by omega), es 7 k (by omega), es 8 k (by omega), es 63 k (by omega), es 64 k (by omega), es 65 k (by omega)]
  exact t4 k hk
def ra (a : Nat) : Nat := if a = 53 then 53 else if a ≤ 16 then a + 14 else if 56 ≤ a then a + 17 else a
def rk (a k : Nat) : Nat := if a = 53 ∧ 12 ≤ k then k + 28 else k
theorem ra_cs (a : Nat) : (a = 53 ∧ ra a = 53) ∨ (a ≤ 16 ∧ ra a = a + 14) ∨ (56 ≤ a ∧ ra a = a + 17) ∨ (16 < a ∧ a < 56 ∧ a ≠ 53 ∧ ra a = a) := by
  by_cases h1 : a = 53
  · exact Or.inl ⟨h1, if_pos h1⟩
  · by_cases h2 : a ≤ 16
    · exact Or.inr (Or.inl ⟨h2, by rw [ra, if_neg h1, if_pos h2]⟩)
    · by_cases h3 : 56 ≤ a
      · exact Or.inr (Or.inr (Or.inl ⟨h3, by rw [ra, if_neg h1, if_neg h2, if_pos h3]⟩))
      · exact Or.inr (Or.inr (Or.inr ⟨by omega, by omega, h1, by rw [ra, if_neg h1, if_neg h2, if_neg h3]⟩))
theorem rk_cs (a k : Nat) : ((a = 53 ∧ 12 ≤ k) ∧ rk a k = k + 28) ∨ (¬ (a = 53 ∧ 12 ≤ k) ∧ rk a k = k) := by
  by_cases h : a = 53 ∧ 12 ≤ k
  · exact Or.inl ⟨h, if_pos h⟩
  · exact Or.inr ⟨h, if_neg h⟩
theorem rel_krel {a k : Nat} (h : Rel a k) : KRel (ra a) (rk a k) := by
  have h1 := ra_cs a
  have h2 := rk_cs a k
  unfold Rel at h
  unfold KRel
  omega
theorem reS_off {f : Nat → Nat → Int32} {b j : Nat} (h : ¬ (b = 53 ∧ 12 ≤ j ∧ j ≤ 18)) : reS f b j = f b j := by
  unfold reS
  rw [upI_a' (by omega), upI_a' (by omega), upI_a' (by omega), upI_a' (by omega), upI_a' (by omega), upI_a' (by omega), upI_a' (by omega)]
theorem imS_off {f : Nat → Nat → Int32} {b j : Nat} (h : ¬ (b = 53 ∧ 38 ≤ j ∧ j ≤ 46)) : imS f b j = f b j := by
  unfold imS
  rw [upI_a' (by omega), upI_a' (by omega), upI_a' (by omega), upI_a' (by omega), upI_a' (by omega), upI_a' (by omega), upI_a' (by omega), upI_a' (by omega), upI_a' (by omega)]
theorem reS_on (f : Nat → Nat → Int32) {k : Nat} (h : 12 ≤ k) (h2 : k ≤ 18) : reS f 53 k = f 53 (k + 28) := by
  have : k = 12 ∨ k = 13 ∨ k = 14 ∨ k = 15 ∨ k = 16 ∨ k = 17 ∨ k = 18 := by omega
  rcases this with rfl | rfl | rfl | rfl | rfl | rfl | rfl <;> simp [reS, upI]
theorem imS_on (f : Nat → Nat → Int32) {k : Nat} (h : 12 ≤ k) (h2 : k ≤ 18) : imS f 53 (k + 28) = f 53 k := by
  have : k = 12 ∨ k = 13 ∨ k = 14 ∨ k = 15 ∨ k = 16 ∨ k = 17 ∨ k = 18 := by omega
  rcases this with rfl | rfl | rfl | rfl | rfl | rfl | rfl <;> simp [imS, upI]
theorem rst_at (hi : Nat → Nat → Int32) {a k : Nat} (h : Rel a k) : rst hi a k = hi (ra a) (rk a k) := by
  have h1 := ra_cs a
  have h2 := rk_cs a k
  unfold Rel at h
  unfold rst
  by_cases h5 : (56 ≤ a ∧ a ≤ 65) ∧ k < 8
  · have e1 : reF (reS (cwF hi 3 17)) 8 a k = reS (cwF hi 3 17) (a + 17) k := if_pos h5
    have e2 : cwF hi 3 17 (a + 17) k = hi (a + 17) k := if_neg (by omega)
    rw [e1, reS_off (by omega), e2, show ra a = a + 17 by omega, show rk a k = k by omega]
  · have e1 : reF (reS (cwF hi 3 17)) 8 a k = reS (cwF hi 3 17) a k := if_neg h5
    rw [e1]
    by_cases h6 : a = 53 ∧ 12 ≤ k
    · obtain ⟨rfl, h7⟩ := h6
      have e2 : cwF hi 3 17 53 (k + 28) = hi 53 (k + 28) := if_neg (by omega)
      rw [reS_on _ h7 (by omega), e2, show ra 53 = 53 by omega, show rk 53 k = k + 28 by omega]
    · rw [reS_off (by omega), show rk a k = k by omega]
      by_cases h16 : a ≤ 16
      · have e2 : cwF hi 3 17 a k = hi (a + 17 - 3) k := if_pos (by omega)
        rw [e2, show ra a = a + 17 - 3 by omega]
      · have e2 : cwF hi 3 17 a k = hi a k := if_neg (by omega)
        rw [e2, show ra a = a by omega]
theorem rst_k (hi : Nat → Nat → Int32) {a k : Nat} (h : KRel a k) : rst hi a k = hi a k := by
  unfold KRel at h
  unfold rst
  have e1 : reF (reS (cwF hi 3 17)) 8 a k = reS (cwF hi 3 17) a k := if_neg (by omega)
  have e2 : cwF hi 3 17 a k = hi a k := if_neg (by omega)
  rw [e1, reS_off (by omega), e2]
theorem img_r (hi : Nat → Nat → Int32) {a k : Nat} (h : Rel a k) : img hi a k = hi a k := by
  unfold Rel at h
  unfold img
  have e1 : imF (imS (upI (cwF hi 17 3) 0 5 1)) 8 a k = imS (upI (cwF hi 17 3) 0 5 1) a k := if_neg (by omega)
  have e2 : cwF hi 17 3 a k = hi a k := if_neg (by omega)
  rw [e1, imS_off (by omega), upI_a (by omega), e2]
theorem img_k (hi : Nat → Nat → Int32) {a k : Nat} (h : Rel a k) : img hi (ra a) (rk a k) = hi a k := by
  have h1 := ra_cs a
  have h2 := rk_cs a k
  unfold Rel at h
  unfold img
  by_cases h5 : (56 ≤ a ∧ a ≤ 65) ∧ k < 8
  · rw [show ra a = a + 17 by omega, show rk a k = k by omega]
    have e1 : imF (imS (upI (cwF hi 17 3) 0 5 1)) 8 (a + 17) k = imS (upI (cwF hi 17 3) 0 5 1) (a + 17 - 17) k := if_pos (by omega)
    have e2 : cwF hi 17 3 a k = hi a k := if_neg (by omega)
    rw [e1, show a + 17 - 17 = a by omega, imS_off (by omega), upI_a (by omega), e2]
  · have e1 : imF (imS (upI (cwF hi 17 3) 0 5 1)) 8 (ra a) (rk a k) = imS (upI (cwF hi 17 3) 0 5 1) (ra a) (rk a k) := if_neg (by omega)
    rw [e1]
    by_cases h6 : a = 53 ∧ 12 ≤ k
    · obtain ⟨rfl, h7⟩ := h6
      have e2 : cwF hi 17 3 53 k = hi 53 k := if_neg (by omega)
      rw [show ra 53 = 53 by omega, show rk 53 k = k + 28 by omega, imS_on _ h7 (by omega), upI_a (by omega), e2]
    · rw [imS_off (by omega), upI_a (by omega), show rk a k = k by omega]
      by_cases h16 : a ≤ 16
      · have e2 : cwF hi 17 3 (a + 14) k = hi (a + 14 + 3 - 17) k := if_pos (by omega)
        rw [show ra a = a + 14 by omega, e2, show a + 14 + 3 - 17 = a by omega]
      · have e2 : cwF hi 17 3 a k = hi a k := if_neg (by omega)
        rw [show ra a = a by omega, e2]
theorem kept_of {f g : Nat → Nat → Int32} {N F : Nat} (h : CORE (rst f) N F) (e : ∀ a k, KRel a k → g a k = f a k) : CORE (rst g) N F :=
  h.of (fun a k r => by rw [rst_at g r, rst_at f r]; exact e _ _ (rel_krel r))
def BASE (hi : Nat → Nat → Int32) : Prop := KV hi ∧ PB hi 3 ∧ PB hi 32 ∧ (∀ k, k < 8 → vp_nar .boolean (hi 8 k) = hi 8 k) ∧ (∀ k, k < 8 → vp_nar .boolean (hi 22 k) = hi 22 k)
def PAGE (hi : Nat → Nat → Int32) : Prop := ∃ L : Nat, L ≤ 41 ∧ hi 1 1 = nI L ∧ hi 53 22 = nI L ∧ ∀ k, k < L → hi 2 k = hi 66 k
def SEAS (n : Nat) (hi : Nat → Nat → Int32) : Prop := hi 0 6 = hi 53 0 ∧ ∃ m k : Nat, k ≤ m ∧ m ≤ n ∧ hi 53 0 = nI m ∧ hi 53 39 = nI k
def KEEP (hi : Nat → Nat → Int32) (N F : Nat) : Prop := (hi 0 5 = 0 ∧ (hi 53 38 = 0 ∨ ¬ hi 53 39 = hi 53 0)) ∨ (¬ hi 0 5 = 0 ∧ (¬ hi 53 38 = 0 ∧ hi 53 39 = hi 53 0) ∧ 0 < N ∧ CORE (rst hi) N F)
/-- the invariant behind n calls -/
def INV (n : Nat) (hi : Nat → Nat → Int32) (N F : Nat) : Prop := CORE hi N F ∧ BASE hi ∧ PAGE hi ∧ SEAS n hi ∧ KEEP hi N F
theorem xo3 {p : Nat} (h : XO 3 p) : (9 ≤ p ∧ p ≤ 16) ∨ (23 ≤ p ∧ p ≤ 30) ∨ (38 ≤ p ∧ p ≤ 45) := by
  have key : ∀ p, p < 83 → xsh.getD p (9, 0) = (0, 3) → (9 ≤ p ∧ p ≤ 16) ∨ (23 ≤ p ∧ p ≤ 30) ∨ (38 ≤ p ∧ p ≤ 45) := by decide +kernel
  exact key p h.1 h.2
theorem BASE.of {f g : Nat → Nat → Int32} (h : BASE f) (e : ∀ a k, ((9 ≤ a ∧ a ≤ 16) ∨ (23 ≤ a ∧ a ≤ 30) ∨ (38 ≤ a ∧ a ≤ 45)) ∧ k ≤ 2 → g a k = f a k) (e22 : ∀ k, g 22 k = f 22 k) (h8 : ∀ k, k < 8 → vp_nar .boolean (g 8 k) = g 8 k) : BASE g := by
  obtain ⟨h1, h2, h3, h4, h5⟩ := h
  refine ⟨fun p hp => by rw [e p 2 ⟨xo3 hp, by decide⟩]; exact h1 p hp, fun j hj => by rw [e _ 0 (by omega), e _ 1 (by omega)]; exact h2 j hj, fun j hj => by rw [e _ 0 (by omega), e _ 1 (by omega)]; exact h3 j hj, h8, fun k hk => by rw [e22]; exact h5 k hk⟩
theorem PAGE.of {f g : Nat → Nat → Int32} (h : PAGE f) (e1 : g 1 1 = f 1 1) (e2 : g 53 22 = f 53 22) (e3 : ∀ k, g 2 k = f 2 k) (e4 : ∀ k, g 66 k = f 66 k) : PAGE g := by
  obtain ⟨L, h1, h2, h3, h4⟩ := h
  exact ⟨L, h1, e1.trans h2, e2.trans h3, fun k hk => by rw [e3, e4]; exact h4 k hk⟩
theorem SEAS.of {n : Nat} {f g : Nat → Nat → Int32} (h : SEAS n f) (e1 : g 0 6 = f 0 6) (e2 : g 53 0 = f 53 0) (e3 : g 53 39 = f 53 39) : SEAS n g := by
  obtain ⟨h1, m, k, h2, h3, h4, h5⟩ := h
  exact ⟨by rw [e1, e2, h1], m, k, h2, h3, e2.trans h4, e3.trans h5⟩
theorem SEAS.up {n : Nat} {f : Nat → Nat → Int32} (h : SEAS n f) : SEAS (n + 1) f := by
  obtain ⟨h1, m, k, h2, h3, h4, h5⟩ := h
  exact ⟨h1, m, k, h2, by omega, h4, h5⟩
theorem KEEP.of {f g : Nat → Nat → Int32} {N F : Nat} (h : KEEP f N F) (e1 : g 0 5 = f 0 5) (e2 : g 53 0 = f 53 0) (e3 : g 53 39 = f 53 39) (e4 : g 53 38 = f 53 38) (e : ∀ a k, KRel a k → g a k = f a k) : KEEP g N F := by
  unfold KEEP
  rw [e1, e2, e3, e4]
  rcases h with h | ⟨h1, h2, h3, h4⟩
  · exact Or.inl h
  · exact Or.inr ⟨h1, h2, h3, kept_of h4 e⟩
theorem INV.up {n : Nat} {f : Nat → Nat → Int32} {N F : Nat} (h : INV n f N F) : INV (n + 1) f N F := ⟨h.1, h.2.1, h.2.2.1, h.2.2.2.1.up, h.2.2.2.2⟩
/-- what the calls that change the sea's people leave alone -/
def Oth (a k : Nat) : Prop := a ≤ 2 ∨ ((9 ≤ a ∧ a ≤ 16) ∧ k ≤ 2) ∨ (17 ≤ a ∧ a ≤ 30) ∨ ((38 ≤ a ∧ a ≤ 45) ∧ k ≤ 2) ∨ (a = 53 ∧ (k ≤ 2 ∨ k = 22 ∨ (38 ≤ k ∧ k ≤ 46))) ∨ (54 ≤ a ∧ a ≤ 55) ∨ a = 66 ∨ (73 ≤ a ∧ a ≤ 82)
theorem INV.go {n : Nat} {f g : Nat → Nat → Int32} {N F : Nat} (h : INV n f N F) (hc : CORE g N F) (e : ∀ a k, Oth a k → g a k = f a k) (h8 : ∀ k, k < 8 → vp_nar .boolean (g 8 k) = g 8 k) : INV (n + 1) g N F := by
  obtain ⟨-, h2, h3, h4, h5⟩ := h
  refine INV.up ⟨hc, h2.of (fun a k q => e a k (by unfold Oth; omega)) (fun k => e 22 k (by unfold Oth; omega)) h8, h3.of (e 1 1 (by unfold Oth; omega)) (e 53 22 (by unfold Oth; omega)) (fun k => e 2 k (by unfold Oth; omega)) (fun k => e 66 k (by unfold Oth; omega)), h4.of (e 0 6 (by unfold Oth; omega)) (e 53 0 (by unfold Oth; omega)) (e 53 39 (by unfold Oth; omega)), h5.of (e 0 5 (by unfold Oth; omega)) (e 53 0 (by unfold Oth; omega)) (e 53 39 (by unfold Oth; omega)) (e 53 38 (by unfold Oth; omega)) (fun a k q => e a k (by unfold KRel at q; unfold Oth; omega))⟩
theorem INV.go8 {n : Nat} {f g : Nat → Nat → Int32} {N F : Nat} (h : INV n f N F) (hc : CORE g N F) (e : ∀ a k, Oth a k → g a k = f a k) (h8 : ∀ k, g 8 k = f 8 k) : INV (n + 1) g N F :=
  h.go hc e (fun k hk => by rw [h8]; exact h.2.1.2.2.2.1 k hk)
/-- what the calls that only ask may change -/
def Scr (a k : Nat) : Prop := (32 ≤ a ∧ a ≤ 52) ∨ (67 ≤ a ∧ a ≤ 72) ∨ (a = 53 ∧ ((24 ≤ k ∧ k ≤ 26) ∨ k = 29 ∨ (34 ≤ k ∧ k ≤ 36)))
theorem INV.scr {n : Nat} {f g : Nat → Nat → Int32} {N F : Nat} (h : INV n f N F) (e : ∀ a k, ¬ Scr a k → g a k = f a k) (hk : KV g) (hb : PB g 32) : INV n g N F := by
  obtain ⟨h1, ⟨-, b2, -, b4, b5⟩, h3, h4, h5⟩ := h
  refine ⟨h1.of (fun a k q => e a k (by unfold Rel at q; unfold Scr; omega)), ⟨hk, fun j hj => by rw [e _ 0 (by unfold Scr; omega), e _ 1 (by unfold Scr; omega)]; exact b2 j hj, hb, fun k hk => by rw [e 8 k (by unfold Scr; omega)]; exact b4 k hk, fun k hk => by rw [e 22 k (by unfold Scr; omega)]; exact b5 k hk⟩, h3.of (e 1 1 (by unfold Scr; omega)) (e 53 22 (by unfold Scr; omega)) (fun k => e 2 k (by unfold Scr; omega)) (fun k => e 66 k (by unfold Scr; omega)), h4.of (e 0 6 (by unfold Scr; omega)) (e 53 0 (by unfold Scr; omega)) (e 53 39 (by unfold Scr; omega)), h5.of (e 0 5 (by unfold Scr; omega)) (e 53 0 (by unfold Scr; omega)) (e 53 39 (by unfold Scr; omega)) (e 53 38 (by unfold Scr; omega)) (fun a k q => e a k (by unfold KRel at q; unfold Scr; omega))⟩
/-- the same, the reference's own -/
theorem INV.scrm {n : Nat} {f g : Nat → Nat → Int32} {N F : Nat} (h : INV n f N F) (e : ∀ a k, ¬ ((67 ≤ a ∧ a ≤ 72) ∨ (a = 53 ∧ ((24 ≤ k ∧ k ≤ 26) ∨ k = 29 ∨ (34 ≤ k ∧ k ≤ 36)))) → g a k = f a k) : INV n g N F :=
  h.scr (fun a k q => e a k (by unfold Scr at q; omega)) (fun p hp => by have := xo3 hp; rw [e p 2 (by omega)]; exact h.2.1.1 p hp) (fun j hj => by rw [e _ 0 (by omega), e _ 1 (by omega)]; exact h.2.1.2.2.1 j hj)
/-- the page -/
theorem INV.page {n : Nat} {f g : Nat → Nat → Int32} {N F : Nat} (h : INV n f N F) (e : ∀ a k, ¬ ((a = 1 ∧ k = 1) ∨ a = 2 ∨ a = 66 ∨ (a = 53 ∧ k = 22)) → g a k = f a k) (hp : PAGE g) : INV n g N F := by
  obtain ⟨h1, ⟨b1, b2, b3, b4, b5⟩, -, h4, h5⟩ := h
  exact ⟨h1.of (fun a k q => e a k (by unfold Rel at q; omega)), ⟨fun p hp => by have := xo3 hp; rw [e p 2 (by omega)]; exact b1 p hp, fun j hj => by rw [e _ 0 (by omega), e _ 1 (by omega)]; exact b2 j hj, fun j hj => by rw [e _ 0 (by omega), e _ 1 (by omega)]; exact b3 j hj, fun k hk => by rw [e 8 k (by omega)]; exact b4 k hk, fun k hk => by rw [e 22 k (by omega)]; exact b5 k hk⟩, hp, h4.of (e 0 6 (by omega)) (e 53 0 (by omega)) (e 53 39 (by omega)), h5.of (e 0 5 (by omega)) (e 53 0 (by omega)) (e 53 39 (by omega)) (e 53 38 (by omega)) (fun a k q => e a k (by unfold KRel at q; omega))⟩
theorem upI_h {f : Nat → Nat → Int32} {a b k j : Nat} {v : Int32} (h : b = a ∧ j = k) : upI f a k v b j = v := if_pos h
/-! what a call on both sides must show -/
section ST
variable {E : XE} {l : Launch} {hi : Nat → Nat → Int32} {hl : Nat → Nat → Int64}
def DONE (E : XE) (l : Launch) (M10 : XM) (as : List Value) (n : Nat) (x : Value) (hi1 : Nat → Nat → Int32) (hl : Nat → Nat → Int64) : Prop :=
  ∃ d10 : Nat, d10 ≤ 12 ∧ MC E l d10 M10 (.ref 53 :: as) 83 (hi1, hl, RT) 0 0 (fun r h' => ∃ hi2 hl2 N F, r = some x ∧ h' = (hi2, hl2, RT) ∧ INV (n + 1) hi2 N F)
def STEP (E : XE) (l : Launch) (M9 M10 : XM) (as : List Value) (n : Nat) (hi : Nat → Nat → Int32) (hl : Nat → Nat → Int64) : Prop :=
  ∃ d9 : Nat, d9 ≤ 12 ∧ MC E l d9 M9 (.ref 0 :: as) 83 (hi, hl, RT) 0 0 (fun r h' => ∃ x hi1, r = some (.int x) ∧ h' = (hi1, hl, RT) ∧ DONE E l M10 as n (.int x) hi1 hl)
def STEPL (E : XE) (l : Launch) (M9 M10 : XM) (as : List Value) (n : Nat) (hi : Nat → Nat → Int32) (hl : Nat → Nat → Int64) : Prop :=
  ∃ d9 : Nat, d9 ≤ 12 ∧ MC E l d9 M9 (.ref 0 :: as) 83 (hi, hl, RT) 0 0 (fun r h' => ∃ x hi1, r = some (.long x) ∧ h' = (hi1, hl, RT) ∧ DONE E l M10 as n (.long x) hi1 hl)
theorem done1 {M10 : XM} {as : List Value} {n d10 : Nat} {x : Value} {y : Value} {hi1 hi2 : Nat → Nat → Int32} {N F : Nat} (hd : d10 ≤ 12) (hM : MC E l d10 M10 (.ref 53 :: as) 83 (hi1, hl, RT) 0 0 (fun r h' => r = some y ∧ h' = (hi2, hl, RT))) (hxy : x = y) (hI : INV (n + 1) hi2 N F) : DONE E l M10 as n x hi1 hl :=
  ⟨d10, hd, hM.weaken (fun r h' q => ⟨hi2, hl, N, F, by rw [q.1, hxy], q.2, hI⟩)⟩
theorem step1 {M9 M10 : XM} {as : List Value} {n d9 : Nat} {x : Int32} {hi1 : Nat → Nat → Int32} (hd : d9 ≤ 12) (hM : MC E l d9 M9 (.ref 0 :: as) 83 (hi, hl, RT) 0 0 (fun r h' => r = some (.int x) ∧ h' = (hi1, hl, RT))) (hD : DONE E l M10 as n (.int x) hi1 hl) : STEP E l M9 M10 as n hi hl :=
  ⟨d9, hd, hM.weaken (fun r h' q => ⟨x, hi1, q.1, q.2, hD⟩)⟩
/-- both sides answer the same and change nothing -/
theorem step0 {M9 M10 : XM} {as : List Value} {n d9 d10 : Nat} {x y : Int32} {N F : Nat} (hI : INV n hi N F) (hd : d9 ≤ 12) (hM : MC E l d9 M9 (.ref 0 :: as) 83 (hi, hl, RT) 0 0 (fun r h' => r = some (.int x) ∧ h' = (hi, hl, RT))) (hd2 : d10 ≤ 12) (hM2 : MC E l d10 M10 (.ref 53 :: as) 83 (hi, hl, RT) 0 0 (fun r h' => r = some (.int y) ∧ h' = (hi, hl, RT))) (hxy : x = y) : STEP E l M9 M10 as n hi hl :=
  step1 hd hM (done1 hd2 hM2 (by rw [hxy]) hI.up)
end ST
