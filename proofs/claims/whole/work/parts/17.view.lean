section
variable {E : XE} {l : Launch} {hi : Nat → Nat → Int32} {hl : Nat → Nat → Int64}

/-! views: a slot and a person, masked to the sea's own -/
abbrev VV : Type := Nat → Nat → Int32
def vw (hi : Nat → Nat → Int32) (c N : Nat) : VV := fun s i => if i < N ∧ 2 ≤ s ∧ s ≤ 11 then hi (c + 6 + i) s else 0
def bitI (j : Nat) : Int32 := 1 <<< (nI j &&& 31)
def vup (v : VV) (s i : Nat) (x : Int32) : VV := fun t j => if t = s ∧ j = i then x else v t j
def vPic (v : VV) (i : Nat) : Int32 := v 4 i + v 5 i
def vTaken (v : VV) (i : Nat) : Bool := !decide (v 11 i = -1)
def vGone (v : VV) (i : Nat) : Bool := decide (v 2 i = 4)
def vFree (v : VV) (i : Nat) : Bool := !vTaken v i && !vGone v i
def vCont (v : VV) (i : Nat) (s a : Int32) : Bool := decide (v 2 i = 1) || !decide (a < s)
def vLikes (v : VV) (i j : Nat) : Bool := !decide (v 3 i = v 3 j) && vCont v i (v 6 i) (vPic v j)
def vWent (v : VV) (i j : Nat) : Bool := !decide (v 7 i &&& bitI j = 0)
def vShown (v : VV) (i j : Nat) : Bool := !decide ((v 7 i ||| v 8 i) &&& bitI j = 0)
def vMatch (v : VV) (i j : Nat) : Bool := vWent v i j && vWent v j i
def vCan (v : VV) (i j : Nat) : Bool := !decide (v 3 i = v 3 j) && (vFree v i && (!vTaken v j && !vShown v i j))
def vHasten (v : VV) (i : Nat) : Bool := decide (v 9 i - v 9 i / 3 * 3 = 2)
def vRight (v : VV) (i j : Nat) (lim : Int32) : Bool := (vLikes v i j && !decide (lim ≤ v 10 i)) && (!(decide (v 2 i = 2) && vHasten v i) && (!kIsA (v 2 i) 3 || vWent v j i))
def vShow (v : VV) (i j : Nat) (lim : Int32) : VV := if vRight v i j lim = true then vup (vup (vup v 7 i (v 7 i ||| bitI j)) 9 i 0) 10 i (v 10 i + 1) else vup (vup v 8 i (v 8 i ||| bitI j)) 9 i (v 9 i + 1)
def vMut (v : VV) (N i : Nat) : Int32 := if vFree v i = true then orB (fun j => vFree v j && (vLikes v i j && vLikes v j i)) bitI N else 0
def vMts (v : VV) (N i : Nat) : Int32 := orB (fun k => vMatch v i k) bitI N
def vOpen (v : VV) (N F : Nat) : Int32 := sumI (fun i => bcF (vMts v N i &&& ((if vTaken v i = true then 1 <<< (v 11 i &&& 31) else 0) ^^^ -1))) F
/-- the numbers and the bits stand -/
def PB (hi : Nat → Nat → Int32) (c : Nat) : Prop := ∀ j, j < 8 → hi (c + 6 + j) 0 = nI j ∧ hi (c + 6 + j) 1 = bitI j
theorem vw_at {hi : Nat → Nat → Int32} {c N s i : Nat} (h : i < N) (h2 : 2 ≤ s) (h3 : s ≤ 11) : vw hi c N s i = hi (c + 6 + i) s := if_pos ⟨h, h2, h3⟩
theorem orB_congr {P P' : Nat → Bool} {w w' : Nat → Int32} : ∀ {n : Nat}, (∀ i, i < n → P i = P' i ∧ w i = w' i) → orB P w n = orB P' w' n
  | 0, _ => rfl
  | n + 1, h => by rw [orB, orB, orB_congr (fun i q => h i (by omega)), (h n (by omega)).1, (h n (by omega)).2]
theorem cntB_congr {P P' : Nat → Bool} : ∀ {n : Nat}, (∀ i, i < n → P i = P' i) → cntB P n = cntB P' n
  | 0, _ => rfl
  | n + 1, h => by rw [cntB, cntB, cntB_congr (fun i q => h i (by omega)), h n (by omega)]
theorem sumI_congr {f f' : Nat → Int32} : ∀ {n : Nat}, (∀ i, i < n → f i = f' i) → sumI f n = sumI f' n
  | 0, _ => rfl
  | n + 1, h => by rw [sumI, sumI, sumI_congr (fun i q => h i (by omega)), h n (by omega)]
theorem allB_congr {P P' : Nat → Bool} : ∀ {n : Nat}, (∀ i, i < n → P i = P' i) → allB P n = allB P' n
  | 0, _ => rfl
  | n + 1, h => by rw [allB, allB, allB_congr (fun i q => h i (by omega)), h n (by omega)]
section VW
variable {c N i j : Nat}
theorem w_pic (h : i < N) : vPic (vw hi c N) i = pPic hi (c + 6 + i) := by
  unfold vPic pPic
  rw [vw_at h (by decide) (by decide), vw_at h (by decide) (by decide)]
theorem w_taken (h : i < N) : vTaken (vw hi c N) i = pTaken hi (c + 6 + i) := by
  unfold vTaken pTaken
  rw [vw_at h (by decide) (by decide)]
theorem w_gone (h : i < N) : vGone (vw hi c N) i = pGone hi (c + 6 + i) := by
  unfold vGone pGone
  rw [vw_at h (by decide) (by decide)]
theorem w_free (h : i < N) : vFree (vw hi c N) i = pFree hi (c + 6 + i) := by
  unfold vFree pFree
  rw [w_taken h, w_gone h]
theorem w_cont (h : i < N) (s a : Int32) : vCont (vw hi c N) i s a = pCont hi (c + 6 + i) s a := by
  unfold vCont pCont
  rw [vw_at h (by decide) (by decide)]
theorem w_likes (h : i < N) (g : j < N) : vLikes (vw hi c N) i j = pLikes hi (c + 6 + i) (c + 6 + j) := by
  unfold vLikes pLikes
  rw [w_cont h, w_pic g, vw_at h (by decide) (by decide), vw_at g (by decide) (by decide), vw_at h (by decide) (by decide)]
theorem w_went (hb : PB hi c) (hN8 : N ≤ 8) (h : i < N) (g : j < N) : vWent (vw hi c N) i j = pWent hi (c + 6 + i) (c + 6 + j) := by
  unfold vWent pWent
  rw [vw_at h (by decide) (by decide), (hb j (by omega)).2]
theorem w_shown (hb : PB hi c) (hN8 : N ≤ 8) (h : i < N) (g : j < N) : vShown (vw hi c N) i j = pShown hi (c + 6 + i) (c + 6 + j) := by
  unfold vShown pShown
  rw [vw_at h (by decide) (by decide), vw_at h (by decide) (by decide), (hb j (by omega)).2]
theorem w_match (hb : PB hi c) (hN8 : N ≤ 8) (h : i < N) (g : j < N) : vMatch (vw hi c N) i j = pMatch hi (c + 6 + i) (c + 6 + j) := by
  unfold vMatch pMatch
  rw [w_went hb hN8 h g, w_went hb hN8 g h]
theorem w_can (hb : PB hi c) (hN8 : N ≤ 8) (h : i < N) (g : j < N) : vCan (vw hi c N) i j = pCan hi (c + 6 + i) (c + 6 + j) := by
  unfold vCan pCan
  rw [w_free h, w_taken g, w_shown hb hN8 h g, vw_at h (by decide) (by decide), vw_at g (by decide) (by decide)]
theorem w_right (hb : PB hi c) (hN8 : N ≤ 8) (h : i < N) (g : j < N) (lim : Int32) : vRight (vw hi c N) i j lim = pRight hi (c + 6 + i) (c + 6 + j) lim := by
  unfold vRight pRight vHasten pHasten
  rw [w_likes h g, w_went hb hN8 g h, vw_at h (by decide) (by decide), vw_at h (by decide) (by decide), vw_at h (by decide) (by decide)]
theorem w_mts (hb : PB hi c) (hN8 : N ≤ 8) (h : i < N) : vMts (vw hi c N) N i = orB (fun j => pMatch hi (c + 6 + i) (c + 6 + j)) (fun j => hi (c + 6 + j) 1) N := orB_congr (fun j g => ⟨w_match hb hN8 h g, (hb j (by omega)).2.symm⟩)
theorem w_mut (hb : PB hi c) (hN8 : N ≤ 8) (h : i < N) : vMut (vw hi c N) N i = mutF hi c N (c + 6 + i) := by
  unfold vMut mutF
  rw [w_free h]
  split
  · exact orB_congr (fun j g => ⟨by rw [w_free g, w_likes h g, w_likes g h], (hb j (by omega)).2.symm⟩)
  · rfl
theorem w_open (hb : PB hi c) (hN8 : N ≤ 8) {F : Nat} (hF : F ≤ N) : vOpen (vw hi c N) N F = sumI (fun j => bcF (orB (fun k => pMatch hi (c + 6 + j) (c + 6 + k)) (fun k => hi (c + 6 + k) 1) N &&& ((if pTaken hi (c + 6 + j) = true then 1 <<< (hi (c + 6 + j) 11 &&& 31) else 0) ^^^ -1))) F :=
  sumI_congr (fun i h => by rw [w_mts hb hN8 (by omega), w_taken (by omega), vw_at (by omega) (by decide) (by decide)])
theorem w_up (h : i < N) {s : Nat} (h2 : 2 ≤ s) (h3 : s ≤ 11) (x : Int32) : vw (upI hi (c + 6 + i) s x) c N = vup (vw hi c N) s i x := by
  funext t k
  unfold vw vup upI
  dsimp only
  by_cases q : k < N ∧ 2 ≤ t ∧ t ≤ 11
  · rw [if_pos q, if_pos q]
    by_cases z : t = s ∧ k = i
    · rw [if_pos z, if_pos (by omega)]
    · rw [if_neg z, if_neg (by omega)]
  · rw [if_neg q, if_neg q, if_neg (by omega)]
theorem w_off {a : Nat} (h : a < c + 6 ∨ c + 6 + N ≤ a) (s : Nat) (x : Int32) : vw (upI hi a s x) c N = vw hi c N := by
  funext t k
  unfold vw
  by_cases q : k < N ∧ 2 ≤ t ∧ t ≤ 11
  · rw [if_pos q, if_pos q, upI_a (by omega)]
  · rw [if_neg q, if_neg q]
theorem w_congr {f g : Nat → Nat → Int32} (h : ∀ k, k < N → ∀ t, 2 ≤ t → t ≤ 11 → f (c + 6 + k) t = g (c + 6 + k) t) : vw f c N = vw g c N := by
  funext t k
  unfold vw
  by_cases q : k < N ∧ 2 ≤ t ∧ t ≤ 11
  · rw [if_pos q, if_pos q, h k q.1 t q.2.1 q.2.2]
  · rw [if_neg q, if_neg q]
theorem w_show (hb : PB hi c) (hN8 : N ≤ 8) (h : i < N) (g : j < N) : vw (prF hi c (c + 6 + i) (c + 6 + j)) c N = vShow (vw hi c N) i j (hi c 4) := by
  unfold prF vShow
  rw [w_right hb hN8 h g]
  split
  · rw [w_off (by omega), w_up h (by decide) (by decide), w_up h (by decide) (by decide), w_up h (by decide) (by decide), (hb j (by omega)).2, vw_at h (by decide) (by decide), vw_at h (by decide) (by decide)]
  · rw [w_off (by omega), w_up h (by decide) (by decide), w_up h (by decide) (by decide), (hb j (by omega)).2, vw_at h (by decide) (by decide), vw_at h (by decide) (by decide)]
end VW
/-! what a trial may change -/
def TR (hi hf : Nat → Nat → Int32) : Prop := ∀ a k, ¬ (a = 32 ∧ (k = 8 ∨ k = 9)) → ¬ (38 ≤ a ∧ a < 46 ∧ 7 ≤ k ∧ k ≤ 10) → hf a k = hi a k
theorem TR.rf {f : Nat → Nat → Int32} : TR f f := fun _ _ _ _ => rfl
theorem TR.trans {f g h : Nat → Nat → Int32} (h1 : TR f g) (h2 : TR g h) : TR f h := fun a k q z => (h2 a k q z).trans (h1 a k q z)
theorem TR.kv {f g : Nat → Nat → Int32} (h1 : TR f g) (h : KV f) : KV g := fun p hp => by rw [h1 p 2 (by omega) (by omega)]; exact h p hp
theorem TR.pb {f g : Nat → Nat → Int32} (h1 : TR f g) (h : PB f 32) : PB g 32 := fun j hj => by rw [h1 _ 0 (by omega) (by omega), h1 _ 1 (by omega) (by omega)]; exact h j hj
theorem TR.pr {f : Nat → Nat → Int32} {i q : Nat} (hi8 : i < 8) : TR f (prF f 32 (38 + i) q) := by
  intro a k h1 h2
  unfold prF
  split
  · unfold upI
    rw [if_neg (by omega), if_neg (by omega), if_neg (by omega), if_neg (by omega)]
  · unfold upI
    rw [if_neg (by omega), if_neg (by omega), if_neg (by omega)]
theorem TR.sd {f : Nat → Nat → Int32} {N : Nat} (h : N ≤ 8) : TR f (sdF f 32 N) := by
  intro a k h1 h2
  exact if_neg (by omega)
/-! who is shown whom, days and all -/
def snV (f : Nat → Nat) (lim : Int32) (i : Nat) : Nat → Nat → Nat → VV → VV
  | 0, _, _, v => v
  | n + 1, q, s, v => if 3 ≤ s then v else if vCan v i (f q) = true then snV f lim i n (q + 1) (s + 1) (vShow v i (f q) lim) else snV f lim i n (q + 1) s v
def ppV (f : Nat → Nat) (lim : Int32) (N : Nat) : Nat → Nat → VV → VV
  | 0, _, v => v
  | n + 1, i, v => ppV f lim N n (i + 1) (snV f lim i N 0 0 v)
def sdV (v : VV) (N : Nat) : VV := fun s i => if i < N ∧ s = 10 then 0 else v s i
def clV (v : VV) (N : Nat) : VV := fun s i => if i < N ∧ 7 ≤ s ∧ s ≤ 10 then 0 else v s i
def dyV (f : Nat → Nat) (lim : Int32) (N : Nat) : Nat → VV → VV
  | 0, v => v
  | d + 1, v => dyV f lim N d (ppV f lim N N 0 (sdV v N))
def mvV (v : VV) (N F D : Nat) (lim : Int32) (b : Bool) : Int32 := vOpen (dyV (srt (fun j => vPic v j) b N) lim N D (clV v N)) N F
theorem w_sd {hi : Nat → Nat → Int32} {c N : Nat} : vw (sdF hi c N) c N = sdV (vw hi c N) N := by
  funext s i
  unfold vw sdV sdF
  dsimp only
  by_cases q : i < N ∧ 2 ≤ s ∧ s ≤ 11
  · rw [if_pos q, if_pos q]
    by_cases z : i < N ∧ s = 10
    · rw [if_pos z, if_pos (by omega)]
    · rw [if_neg z, if_neg (by omega)]
  · rw [if_neg q, if_neg q]
    split <;> rfl
theorem w_cl {hi : Nat → Nat → Int32} {c N : Nat} : vw (csF hi c N) c N = clV (vw hi c N) N := by
  funext s i
  unfold vw clV csF
  dsimp only
  by_cases q : i < N ∧ 2 ≤ s ∧ s ≤ 11
  · rw [if_pos q, if_pos q]
    by_cases z : i < N ∧ 7 ≤ s ∧ s ≤ 10
    · rw [if_pos z, if_pos (by omega)]
    · rw [if_neg z, if_neg (by omega)]
  · rw [if_neg q, if_neg q]
    split <;> rfl
end
