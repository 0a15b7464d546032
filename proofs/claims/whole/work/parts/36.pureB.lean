/-! ===== the order by picture, and what comes of it ===== -/
/-- a is preferred to b, by the numbers P -/
def prP (P : Nat → Int32) (a b : Nat) : Prop := P b < P a ∨ (P a = P b ∧ a < b)
theorem i_lt {x y : Int32} : x < y ↔ x.toInt < y.toInt := Int32.lt_iff_toInt_lt
theorem i_le {x y : Int32} : x ≤ y ↔ x.toInt ≤ y.toInt := Int32.le_iff_toInt_le
theorem i_eq {x y : Int32} : x = y ↔ x.toInt = y.toInt := Int32.toInt_inj.symm
theorem prP_trans {P : Nat → Int32} {a b c : Nat} (h1 : prP P a b) (h2 : prP P b c) : prP P a c := by
  unfold prP at *
  simp only [i_lt, i_eq] at *
  omega
theorem prP_asym {P : Nat → Int32} {a b : Nat} (h1 : prP P a b) (h2 : prP P b a) : False := by
  unfold prP at *
  simp only [i_lt, i_eq] at *
  omega
theorem prP_tot (P : Nat → Int32) {a b : Nat} (h : a ≠ b) : prP P a b ∨ prP P b a := by
  unfold prP
  simp only [i_lt, i_eq]
  omega
theorem vPref_iff {v : VV} {a b : Nat} : vPref v a b = true ↔ prP (vPic v) a b := by
  unfold vPref prP
  simp only [Bool.or_eq_true, Bool.and_eq_true, decide_eq_true_eq]
/-- where the insertion stops -/
theorem insQ_spec (P : Nat → Int32) (f : Nat → Nat) (i : Nat) : ∀ q, (∀ p, insQ P f i q ≤ p → p < q → P (f p) < P i) ∧ (∀ p, p + 1 = insQ P f i q → ¬ P (f p) < P i)
  | 0 => ⟨fun p _ h => absurd h (Nat.not_lt_zero p), fun p h => by rw [insQ] at h; omega⟩
  | q + 1 => by
    rw [insQ]
    by_cases c : P (f q) < P i
    · rw [if_pos c]
      have ih := insQ_spec P f i q
      refine ⟨fun p h1 h2 => ?_, ih.2⟩
      by_cases e : p = q
      · rw [e]; exact c
      · exact ih.1 p h1 (by omega)
    · rw [if_neg c]
      exact ⟨fun p h1 h2 => absurd h1 (by omega), fun p h => by rw [show p = q by omega]; exact c⟩
theorem srt_sorted (P : Nat → Int32) : ∀ N p q, p < q → q < N → prP P (srt P true N p) (srt P true N q)
  | 0, p, q, _, h => absurd h (Nat.not_lt_zero q)
  | N + 1, p, q, hpq, hq => by
    have ih := fun p q h1 h2 => srt_sorted P N p q h1 h2
    have hQ := srtQ_le P true N
    have hs := insQ_spec P (srt P true N) N N
    have eQ : srtQ P true N = insQ P (srt P true N) N N := if_pos rfl
    rw [← eQ] at hs
    have lt := fun k (hk : k < N) => srt_lt P true N k hk
    -- ahead of the place all are preferred to the new one
    have ahead : ∀ p, p < srtQ P true N → prP P (srt P true N p) N := fun p hp => by
      have hl := lt p (by omega)
      have h1 : ¬ P (srt P true N (srtQ P true N - 1)) < P N := hs.2 _ (by omega)
      by_cases e : p = srtQ P true N - 1
      · rw [← e] at h1
        unfold prP
        simp only [i_lt, i_eq] at *
        omega
      · have h2 := ih p (srtQ P true N - 1) (by omega) (by omega)
        unfold prP at *
        simp only [i_lt, i_eq] at *
        omega
    have behind : ∀ p, srtQ P true N ≤ p → p < N → prP P N (srt P true N p) := fun p h1 h2 => Or.inl (hs.1 p h1 h2)
    rw [srt_s, srt_s]
    generalize srtQ P true N = Q at *
    by_cases h1 : q < Q
    · rw [if_pos h1, if_pos (by omega)]
      exact ih p q hpq (by omega)
    · rw [if_neg h1]
      by_cases h2 : q = Q
      · rw [if_pos h2, if_pos (by omega)]
        exact ahead p (by omega)
      · rw [if_neg h2]
        by_cases h3 : p < Q
        · rw [if_pos h3]
          by_cases h5 : p < q - 1
          · exact ih p (q - 1) h5 (by omega)
          · exact absurd h5 (by omega)
        · rw [if_neg h3]
          by_cases h4 : p = Q
          · rw [if_pos h4]
            exact behind (q - 1) (by omega) (by omega)
          · rw [if_neg h4]
            exact ih (p - 1) (q - 1) (by omega) (by omega)
theorem srt_surj (P : Nat → Int32) (b : Bool) : ∀ N e, e < N → ∃ q, q < N ∧ srt P b N q = e
  | 0, e, h => absurd h (Nat.not_lt_zero e)
  | N + 1, e, h => by
    have hQ := srtQ_le P b N
    by_cases c : e = N
    · exact ⟨srtQ P b N, by omega, by rw [srt_s, if_neg (by omega), if_pos rfl, c]⟩
    · obtain ⟨q, hq, eq⟩ := srt_surj P b N e (by omega)
      by_cases k : q < srtQ P b N
      · exact ⟨q, by omega, by rw [srt_s, if_pos k, eq]⟩
      · exact ⟨q + 1, by omega, by rw [srt_s, if_neg (by omega), if_neg (by omega), Nat.add_sub_cancel, eq]⟩
theorem srt_id (P : Nat → Int32) : ∀ N k, k < N → srt P false N k = k
  | 0, k, h => absurd h (Nat.not_lt_zero k)
  | N + 1, k, h => by
    have eQ : srtQ P false N = N := if_neg (by decide)
    rw [srt_s, eQ]
    by_cases c : k < N
    · rw [if_pos c, srt_id P N k c]
    · rw [if_neg c, if_pos (by omega)]
      omega
/-- the one comes ahead of the other -/
def btr (P : Nat → Int32) (b : Bool) (a c : Nat) : Prop := if b = true then prP P a c else a < c
theorem btr_asym {P : Nat → Int32} {b : Bool} {a c : Nat} (h1 : btr P b a c) (h2 : btr P b c a) : False := by
  unfold btr at *
  cases b with
  | true => rw [if_pos rfl] at h1 h2; exact prP_asym h1 h2
  | false => rw [if_neg (by decide)] at h1 h2; omega
theorem btr_srt (P : Nat → Int32) (b : Bool) {N p q : Nat} (h1 : p < q) (h2 : q < N) : btr P b (srt P b N p) (srt P b N q) := by
  unfold btr
  cases b with
  | true => rw [if_pos rfl]; exact srt_sorted P N p q h1 h2
  | false => rw [if_neg (by decide), srt_id P N p (by omega), srt_id P N q h2]; exact h1
/-- whom the reference finds -/
theorem nf_spec (v : VV) (i : Nat) (b : Bool) : ∀ n : Nat, match nfV v i b n with
    | none => ∀ e, e < n → vMS v i e = false
    | some f => f < n ∧ vMS v i f = true ∧ ∀ e, e < n → vMS v i e = true → e ≠ f → btr (vPic v) b f e
  | 0 => fun e h => absurd h (Nat.not_lt_zero e)
  | n + 1 => by
    have ih := nf_spec v i b n
    rw [nfV]
    cases hn : nfV v i b n with
    | none =>
      rw [hn] at ih
      cases hm : vMS v i n with
      | true =>
        simp only [Bool.and_self, if_true]
        refine ⟨by omega, hm, fun e he q z => ?_⟩
        rw [ih e (by omega)] at q
        cases q
      | false =>
        simp only [Bool.and_true, Bool.false_eq_true, if_false]
        intro e he
        by_cases c : e = n
        · rw [c]; exact hm
        · exact ih e (by omega)
    | some f =>
      rw [hn] at ih
      obtain ⟨h1, h2, h3⟩ := ih
      cases hm : vMS v i n with
      | false =>
        simp only [Bool.false_and, Bool.false_eq_true, if_false]
        refine ⟨by omega, h2, fun e he q z => h3 e ?_ q z⟩
        have : e ≠ n := fun w => by rw [w, hm] at q; cases q
        omega
      | true =>
        cases b with
        | false =>
          simp only [Bool.and_false, Bool.false_and, Bool.false_eq_true, if_false]
          refine ⟨by omega, h2, fun e he q z => ?_⟩
          by_cases c : e = n
          · unfold btr
            rw [if_neg (by decide)]
            omega
          · exact h3 e (by omega) q z
        | true =>
          cases hp : vPref v n f with
          | true =>
            simp only [hp, Bool.and_self, if_true]
            have hp' := vPref_iff.mp hp
            refine ⟨by omega, hm, fun e he q z => ?_⟩
            unfold btr
            rw [if_pos rfl]
            by_cases c : e = f
            · rw [c]; exact hp'
            · have := h3 e (by omega) q c
              unfold btr at this
              rw [if_pos rfl] at this
              exact prP_trans hp' this
          | false =>
            simp only [hp, Bool.and_false, Bool.and_self, Bool.false_eq_true, if_false]
            refine ⟨by omega, h2, fun e he q z => ?_⟩
            by_cases c : e = n
            · unfold btr
              rw [if_pos rfl, c]
              rcases prP_tot (vPic v) (a := n) (b := f) (by omega) with w | w
              · rw [vPref_iff.mpr w] at hp; cases hp
              · exact w
            · exact h3 e (by omega) q z
/-- the first of the order who may be shown is whom the reference finds -/
theorem nf_at {v : VV} {i : Nat} {b : Bool} {N q : Nat} {f : Nat → Nat} (hf : f = srt (vPic v) b N) (hq : q < N) (hm : vMS v i (f q) = true) (hb : ∀ p, p < q → vMS v i (f p) = false) : nfV v i b N = some (f q) := by
  have h := nf_spec v i b N
  have hlt : f q < N := by rw [hf]; exact srt_lt _ _ _ _ hq
  cases hn : nfV v i b N with
  | none => rw [hn] at h; rw [h _ hlt] at hm; cases hm
  | some e =>
    rw [hn] at h
    obtain ⟨h1, h2, h3⟩ := h
    obtain ⟨r, hr, er⟩ := srt_surj (vPic v) b N e h1
    rw [← hf] at er
    by_cases c : f q = e
    · rw [c]
    · have h4 := h3 (f q) hlt hm c
      have h5 : q < r := by
        rcases Nat.lt_trichotomy r q with z | z | z
        · have := hb r z
          rw [er, h2] at this
          cases this
        · rw [z] at er; exact absurd er c
        · exact z
      have h6 : btr (vPic v) b (f q) (f r) := by rw [hf]; exact btr_srt _ _ h5 hr
      rw [er] at h6
      exact (btr_asym h4 h6).elim
theorem nf_no {v : VV} {i : Nat} {b : Bool} {N : Nat} {f : Nat → Nat} (hf : f = srt (vPic v) b N) (hb : ∀ p, p < N → vMS v i (f p) = false) : nfV v i b N = none := by
  have h := nf_spec v i b N
  cases hn : nfV v i b N with
  | none => rfl
  | some e =>
    rw [hn] at h
    obtain ⟨r, hr, er⟩ := srt_surj (vPic v) b N e h.1
    have := hb r hr
    rw [hf, er, h.2.1] at this
    cases this
theorem stV_no {N : Nat} {lim : Int32} {b : Bool} {i : Nat} {v : VV} (h : nfV v i b N = none) : ∀ n, stV N lim b i n v = v
  | 0 => rfl
  | n + 1 => by rw [stV, h]; exact stV_no h n
/-! what showing leaves -/
def FX (v w : VV) : Prop := ∀ s j, (s < 7 ∨ 10 < s) → w s j = v s j
theorem FX.rf {v : VV} : FX v v := fun _ _ _ => rfl
theorem FX.trans {u v w : VV} (h1 : FX u v) (h2 : FX v w) : FX u w := fun s j h => (h2 s j h).trans (h1 s j h)
theorem FX.pic {v w : VV} (h : FX v w) : vPic w = vPic v := funext fun j => by unfold vPic; rw [h 4 j (by omega), h 5 j (by omega)]
theorem FX.free {v w : VV} (h : FX v w) (i : Nat) : vFree w i = vFree v i := by unfold vFree vTaken vGone; rw [h 11 i (by omega), h 2 i (by omega)]
theorem FX.taken {v w : VV} (h : FX v w) (i : Nat) : vTaken w i = vTaken v i := by unfold vTaken; rw [h 11 i (by omega)]
theorem FX.show (v : VV) (i j : Nat) (lim : Int32) : FX v (vShow v i j lim) := fun s k h => by
  unfold vShow vup
  split <;> simp only [show ¬ s = 10 by omega, show ¬ s = 9 by omega, show ¬ s = 8 by omega, show ¬ s = 7 by omega, false_and, if_false]
theorem FX.sd (v : VV) (N : Nat) : FX v (sdV v N) := fun s k h => if_neg (by omega)
theorem vup_s {v : VV} {s i : Nat} {x : Int32} : vup v s i x s i = x := if_pos ⟨rfl, rfl⟩
theorem vup_n {v : VV} {s i t j : Nat} {x : Int32} (h : ¬ (t = s ∧ j = i)) : vup v s i x t j = v t j := if_neg h
/-- the two rows of bits behind a showing -/
theorem sh_or (v : VV) (i j : Nat) (lim : Int32) {k : Nat} (hj : j < 10) (hk : k < 10) : vt (vShow v i j lim 7 i ||| vShow v i j lim 8 i) k = (vt (v 7 i ||| v 8 i) k || decide (j = k)) := by
  unfold vShow
  split
  · rw [vup_n (by omega), vup_n (by omega), vup_s, vup_n (by omega), vup_n (by omega), vup_n (by omega), vt_or _ _ hk, vt_or _ _ hk, vt_or _ _ hk, vt_bit hj hk]
    cases vt (v 7 i) k <;> cases vt (v 8 i) k <;> cases decide (j = k) <;> rfl
  · rw [vup_n (by omega), vup_n (by omega), vup_n (by omega), vup_s, vt_or _ _ hk, vt_or _ _ hk, vt_or _ _ hk, vt_bit hj hk]
    cases vt (v 7 i) k <;> cases vt (v 8 i) k <;> cases decide (j = k) <;> rfl
theorem ms_show (v : VV) (i j : Nat) (lim : Int32) {e : Nat} (hj : j < 10) (he : e < 10) : vMS (vShow v i j lim) i e = (vMS v i e && !decide (j = e)) := by
  have h := FX.show v i j lim
  unfold vMS
  rw [h.taken, h 3 i (by omega), h 3 e (by omega)]
  have : vShown (vShow v i j lim) i e = (vShown v i e || decide (j = e)) := sh_or v i j lim hj he
  rw [this]
  cases vShown v i e <;> cases decide (j = e) <;> simp
theorem can_ms (v : VV) (i e : Nat) : vCan v i e = (vFree v i && vMS v i e) := by
  unfold vCan vMS
  cases (!decide (v 3 i = v 3 e)) <;> cases vFree v i <;> simp
theorem sn_no {f : Nat → Nat} {lim : Int32} {i : Nat} {v : VV} (h : vFree v i = false) : ∀ n q s, snV f lim i n q s v = v
  | 0, _, _ => rfl
  | n + 1, q, s => by
    rw [snV, can_ms, h]
    simp only [Bool.false_and, Bool.false_eq_true, if_false, sn_no h n]
    split <;> rfl
/-- the class's three for a day are the reference's -/
theorem sn_st {N : Nat} (hN : N ≤ 8) {lim : Int32} {b : Bool} {i : Nat} (f : Nat → Nat) : ∀ (n q s : Nat) (v : VV), f = srt (vPic v) b N → vFree v i = true → q + n = N → s ≤ 3 → (∀ p, p < q → vMS v i (f p) = false) → snV f lim i n q s v = stV N lim b i (3 - s) v
  | 0, q, s, v, hf, hfr, hq, hs, hb => by
    have hq : q = N := by omega
    rw [hq] at hb
    rw [snV, stV_no (nf_no hf hb)]
  | n + 1, q, s, v, hf, hfr, hq, hs, hb => by
    rw [snV]
    by_cases h3 : 3 ≤ s
    · rw [if_pos h3, show 3 - s = 0 by omega]
      rfl
    · rw [if_neg h3]
      have hlt : f q < N := by rw [hf]; exact srt_lt _ _ _ _ (by omega)
      cases hm : vMS v i (f q) with
      | true =>
        have hx := FX.show v i (f q) lim
        rw [if_pos (by rw [can_ms, hfr, hm]; rfl)]
        rw [sn_st hN f n (q + 1) (s + 1) (vShow v i (f q) lim) (by rw [hx.pic]; exact hf) (by rw [hx.free]; exact hfr) (by omega) (by omega) (fun p hp => by
          have hlp : f p < N := by rw [hf]; exact srt_lt _ _ _ _ (by omega)
          rw [ms_show v i (f q) lim (by omega) (by omega)]
          by_cases c : p = q
          · rw [c]; simp
          · rw [hb p (by omega)]; rfl)]
        rw [show 3 - s = (3 - (s + 1)) + 1 by omega, stV, nf_at hf (by omega) hm hb]
      | false =>
        rw [if_neg (by rw [can_ms, hm]; simp)]
        exact sn_st hN f n (q + 1) s v hf hfr (by omega) hs (fun p hp => by
          by_cases c : p = q
          · rw [c]; exact hm
          · exact hb p (by omega))
/-- who is taken has gone right on nobody; who is of one side, or not free, never goes right -/
def TK (v : VV) (N : Nat) : Prop := ∀ k, k < N → vTaken v k = true → v 7 k = 0
theorem TK.show {v : VV} {N : Nat} (h : TK v N) {i : Nat} (hf : vFree v i = true) (j : Nat) (lim : Int32) : TK (vShow v i j lim) N := fun k hk ht => by
  rw [(FX.show v i j lim).taken] at ht
  have hne : k ≠ i := fun e => by
    rw [e] at ht
    unfold vFree at hf
    rw [ht] at hf
    cases hf
  unfold vShow
  split
  · rw [vup_n (by omega), vup_n (by omega), vup_n (by omega)]; exact h k hk ht
  · rw [vup_n (by omega), vup_n (by omega)]; exact h k hk ht
theorem st_fx {N : Nat} {lim : Int32} {b : Bool} {i : Nat} : ∀ (n : Nat) (v : VV), vFree v i = true → TK v N → FX v (stV N lim b i n v) ∧ TK (stV N lim b i n v) N
  | 0, v, _, h => ⟨FX.rf, h⟩
  | n + 1, v, hf, h => by
    rw [stV]
    cases nfV v i b N with
    | none => exact st_fx n v hf h
    | some e =>
      have hx := FX.show v i e lim
      have := st_fx (lim := lim) (b := b) n (vShow v i e lim) (by rw [hx.free]; exact hf) (h.show hf e lim)
      exact ⟨hx.trans this.1, this.2⟩
theorem pp_mpp {N : Nat} (hN : N ≤ 8) {lim : Int32} {b : Bool} (f : Nat → Nat) : ∀ (n i : Nat) (v : VV), f = srt (vPic v) b N → TK v N → ppV f lim N n i v = mppV b lim N n i v ∧ FX v (mppV b lim N n i v) ∧ TK (mppV b lim N n i v) N
  | 0, i, v, _, h => ⟨rfl, FX.rf, h⟩
  | n + 1, i, v, hf, h => by
    rw [ppV, mppV]
    cases hfr : vFree v i with
    | false =>
      rw [sn_no hfr, if_neg (by decide)]
      exact pp_mpp hN f n (i + 1) v hf h
    | true =>
      rw [if_pos rfl, sn_st hN f N 0 0 v hf hfr (by omega) (by omega) (fun p hp => absurd hp (Nat.not_lt_zero p))]
      have hx := st_fx (lim := lim) (b := b) 3 v hfr h
      have := pp_mpp hN (lim := lim) (b := b) f n (i + 1) (stV N lim b i 3 v) (by rw [hx.1.pic]; exact hf) hx.2
      exact ⟨this.1, hx.1.trans this.2.1, this.2.2⟩
theorem TK.sd {v : VV} {N : Nat} (h : TK v N) : TK (sdV v N) N := fun k hk ht => by
  rw [(FX.sd v N).taken] at ht
  show (if k < N ∧ 7 = 10 then 0 else v 7 k) = 0
  rw [if_neg (by omega)]
  exact h k hk ht
theorem dy_mdy {N : Nat} (hN : N ≤ 8) {lim : Int32} {b : Bool} (f : Nat → Nat) : ∀ (d : Nat) (v : VV), f = srt (vPic v) b N → TK v N → dyV f lim N d v = mdyV b lim N d v ∧ FX v (mdyV b lim N d v) ∧ TK (mdyV b lim N d v) N
  | 0, v, _, h => ⟨rfl, FX.rf, h⟩
  | d + 1, v, hf, h => by
    rw [dyV, mdyV]
    have hs := FX.sd v N
    have h1 := pp_mpp hN (lim := lim) (b := b) f N 0 (sdV v N) (by rw [hs.pic]; exact hf) h.sd
    rw [h1.1]
    have h2 := dy_mdy hN (lim := lim) (b := b) f d _ (by rw [h1.2.1.pic, hs.pic]; exact hf) h1.2.2
    exact ⟨h2.1, (hs.trans h1.2.1).trans h2.2.1, h2.2.2⟩
theorem sd_cl (v : VV) (N : Nat) : sdV (clV v N) N = sdV (c3V v N) N := funext fun s => funext fun i => by
  unfold sdV clV c3V
  by_cases h : i < N ∧ s = 10
  · rw [if_pos h, if_pos h]
  · rw [if_neg h, if_neg h]
    by_cases h2 : i < N ∧ 7 ≤ s ∧ s ≤ 9
    · rw [if_pos h2, if_pos (by omega)]
    · rw [if_neg h2, if_neg (by omega)]
theorem mt_taken {v : VV} {N : Nat} (h : TK v N) {i : Nat} (hi : i < N) (ht : vTaken v i = true) : vMts v N i = 0 := by
  have : ∀ n, orB (fun k => vMatch v i k) bitI n = 0 := fun n => by
    induction n with
    | zero => rfl
    | succ n ih =>
      rw [orB, ih, if_neg]
      · rfl
      · unfold vMatch vWent
        rw [h i hi ht, z_and]
        simp
  exact this N
/-- COME OF IT: both the same -/
theorem mv_mc (v : VV) {N F D : Nat} (hN : N ≤ 8) (hF : F ≤ N) (hD : 0 < D) (lim : Int32) (b : Bool) : mvV v N F D lim b = mcV v N F D lim b := by
  obtain ⟨d, rfl⟩ : ∃ d, D = d + 1 := ⟨D - 1, by omega⟩
  have hx : FX v (clV v N) := fun s j h => if_neg (by omega)
  have hx3 : FX v (c3V v N) := fun s j h => if_neg (by omega)
  have hk : TK (c3V v N) N := fun k hk _ => if_pos (by omega)
  have e1 : dyV (srt (fun j => vPic v j) b N) lim N (d + 1) (clV v N) = dyV (srt (fun j => vPic v j) b N) lim N (d + 1) (c3V v N) := by rw [dyV, dyV, sd_cl]
  have h1 := dy_mdy hN (lim := lim) (b := b) (srt (fun j => vPic v j) b N) (d + 1) (c3V v N) (by rw [hx3.pic]) hk
  unfold mvV mcV
  rw [e1, h1.1]
  have hT := h1.2.2
  generalize mdyV b lim N (d + 1) (c3V v N) = w at hT
  unfold vOpen
  refine sumI_congr (fun i hi => ?_)
  cases ht : vTaken w i with
  | true =>
    rw [mt_taken hT (by omega) ht, z_and, show orB (fun q => vMatch w i q) bitI N = 0 from mt_taken hT (by omega) ht]
    decide
  | false =>
    rw [if_neg (by decide), and_m1]
    show bcF (orB (fun k => vMatch w i k) bitI N) = _
    rw [(bc_orB _ (by omega)).1, (bc_orB _ (by omega)).2]
theorem mc_nat (v : VV) {N F D : Nat} (hN : N ≤ 8) (hF : F ≤ N) (lim : Int32) (b : Bool) : ∃ c : Nat, c ≤ 64 ∧ mcV v N F D lim b = nI c := by
  unfold mcV
  obtain ⟨c, hc, e⟩ := sum_nat (f := fun k => szF (orB (fun q => vMatch (mdyV b lim N D (c3V v N)) k q) bitI N)) (B := 8) (n := F) (fun i hi => by
    rw [(bc_orB _ (by omega)).2]
    obtain ⟨c, hc, e⟩ := cnt_nat (fun q => vMatch (mdyV b lim N D (c3V v N)) i q) N
    exact ⟨c, by omega, e⟩)
  exact ⟨c, by omega, e⟩
theorem bl_bn (m : Nat → Int32) (h1 : ∃ c : Nat, c ≤ 64 ∧ m 1 = nI c) : ∀ k : Nat, bnV (fun j => m (j + 1)) (k + 1) = blF m k
  | 0 => by
    obtain ⟨c, hc, e⟩ := h1
    rw [bnV, bnV, blF]
    rw [if_pos (by
      show (-1 : Int32) < m 1
      rw [e, i_lt, nI_toInt (by omega)]
      show (-1 : Int) < _
      omega)]
    rfl
  | k + 1 => by
    rw [bnV, bl_bn m h1 k, blF]
    by_cases c : m (k + 2) ≤ (blF m k).2
    · rw [if_pos c, if_neg (by show ¬ (blF m k).2 < m (k + 2); rw [i_le] at c; rw [i_lt]; omega)]
    · rw [if_neg c, if_pos (by show (blF m k).2 < m (k + 2); rw [i_le] at c; rw [i_lt]; omega)]
theorem bl_best (v : VV) {N F D : Nat} (hN : N ≤ 8) (hF : F ≤ N) (hD : 0 < D) (b : Bool) : (blF (fun j => mvV v N F D (nI j) b) 8).1 = (bnV (fun j => mcV v N F D (nI (j + 1)) b) 9).1 := by
  have e : (fun j => mvV v N F D (nI j) b) = (fun j => mcV v N F D (nI j) b) := funext fun j => mv_mc v hN hF hD (nI j) b
  rw [e, ← bl_bn (fun j => mcV v N F D (nI j) b) (mc_nat v hN hF (nI 1) b) 8]
