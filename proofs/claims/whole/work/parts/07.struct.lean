def rtL : List (List (Option Nat)) := [[some 1, some 3, some 17, some 31, some 47], [some 2], [], [some 4, some 5], [some 9, some 10, some 11, some 12, some 13, some 14, some 15, some 16], [some 6, some 7, some 8], [], [], [], [], [], [], [], [], [], [], [], [some 18, some 19], [some 23, some 24, some 25, some 26, some 27, some 28, some 29, some 30], [some 20, some 21, some 22], [], [], [], [], [], [], [], [], [], [], [], [some 32, some 46], [some 33, some 34], [some 38, some 39, some 40, some 41, some 42, some 43, some 44, some 45], [some 35, some 36, some 37], [], [], [], [], [], [], [], [], [], [], [], [], [some 48, some 49, some 50, some 51, some 52], [], [], [], [], [], [none, none, none, some 54, some 55, some 56, some 57, some 58, some 59, some 60, some 61, some 62, none, none, none, none, none, none, none, some 63, some 64, some 65, none, some 66, none, none, none, some 67, some 68, none, some 69, some 70, some 71, some 72, none, none, none, none, none, none, none, none, none, none, none, none, none, some 73, some 74, some 75, some 76, some 77, some 78, some 79, some 80, some 81, some 82, none], [], [], [], [], [], [], [], [], [], [], [], [], [], [], [], [], [], [], [], [], [], [], [], [], [], [], [], [], []]
def RT (a k : Nat) : Option Nat := (rtL.getD a []).getD k none
/-- an object of class ci stands at a -/
def XO (ci a : Nat) : Prop := a < 83 ∧ xsh.getD a (9, 0) = (0, ci)
/-- the three crowds -/
def isC (c : Nat) : Prop := c = 3 ∨ c = 17 ∨ c = 32
theorem isC.o {c : Nat} (h : isC c) : XO 0 c := by rcases h with rfl | rfl | rfl <;> exact ⟨by decide, rfl⟩
theorem isC.people {c : Nat} (h : isC c) : RT c 0 = some (c + 1) := by rcases h with rfl | rfl | rfl <;> rfl
theorem isC.seen {c : Nat} (h : isC c) : RT c 1 = some (c + 2) := by rcases h with rfl | rfl | rfl <;> rfl
theorem isC.a1 {c : Nat} (h : isC c) : c + 1 < 83 ∧ xsh.getD (c + 1) (9, 0) = (4, 8) := by rcases h with rfl | rfl | rfl <;> exact ⟨by decide, rfl⟩
theorem isC.o2 {c : Nat} (h : isC c) : XO 4 (c + 2) := by rcases h with rfl | rfl | rfl <;> exact ⟨by decide, rfl⟩
theorem isC.r3 {c : Nat} (h : isC c) : RT (c + 2) 0 = some (c + 3) := by rcases h with rfl | rfl | rfl <;> rfl
theorem isC.r4 {c : Nat} (h : isC c) : RT (c + 2) 1 = some (c + 4) := by rcases h with rfl | rfl | rfl <;> rfl
theorem isC.r5 {c : Nat} (h : isC c) : RT (c + 2) 2 = some (c + 5) := by rcases h with rfl | rfl | rfl <;> rfl
theorem isC.a3 {c : Nat} (h : isC c) : c + 3 < 83 ∧ xsh.getD (c + 3) (9, 0) = (1, 8) := by rcases h with rfl | rfl | rfl <;> exact ⟨by decide, rfl⟩
theorem isC.a4 {c : Nat} (h : isC c) : c + 4 < 83 ∧ xsh.getD (c + 4) (9, 0) = (1, 8) := by rcases h with rfl | rfl | rfl <;> exact ⟨by decide, rfl⟩
theorem isC.a5 {c : Nat} (h : isC c) : c + 5 < 83 ∧ xsh.getD (c + 5) (9, 0) = (2, 8) := by rcases h with rfl | rfl | rfl <;> exact ⟨by decide, rfl⟩
theorem isC.rp {c i : Nat} (h : isC c) (hi : i < 8) : RT (c + 1) i = some (c + 6 + i) := by
  match i, hi with
  | 0, _ => rcases h with rfl | rfl | rfl <;> rfl
  | 1, _ => rcases h with rfl | rfl | rfl <;> rfl
  | 2, _ => rcases h with rfl | rfl | rfl <;> rfl
  | 3, _ => rcases h with rfl | rfl | rfl <;> rfl
  | 4, _ => rcases h with rfl | rfl | rfl <;> rfl
  | 5, _ => rcases h with rfl | rfl | rfl <;> rfl
  | 6, _ => rcases h with rfl | rfl | rfl <;> rfl
  | 7, _ => rcases h with rfl | rfl | rfl <;> rfl
theorem isC.p {c i : Nat} (h : isC c) (hi : i < 8) : XO 3 (c + 6 + i) := by
  match i, hi with
  | 0, _ => rcases h with rfl | rfl | rfl <;> exact ⟨by decide, rfl⟩
  | 1, _ => rcases h with rfl | rfl | rfl <;> exact ⟨by decide, rfl⟩
  | 2, _ => rcases h with rfl | rfl | rfl <;> exact ⟨by decide, rfl⟩
  | 3, _ => rcases h with rfl | rfl | rfl <;> exact ⟨by decide, rfl⟩
  | 4, _ => rcases h with rfl | rfl | rfl <;> exact ⟨by decide, rfl⟩
  | 5, _ => rcases h with rfl | rfl | rfl <;> exact ⟨by decide, rfl⟩
  | 6, _ => rcases h with rfl | rfl | rfl <;> exact ⟨by decide, rfl⟩
  | 7, _ => rcases h with rfl | rfl | rfl <;> exact ⟨by decide, rfl⟩
/-- every person has a kind -/
def KV (hi : Nat → Nat → Int32) : Prop := ∀ p, XO 3 p → ∃ j : Nat, j < 5 ∧ hi p 2 = nI j
def bI (b : Bool) : Int32 := if b = true then 1 else 0
theorem bI_0 {b : Bool} : bI b = 0 ↔ b = false := by cases b <;> decide
theorem bI_n {b : Bool} : ¬ bI b = 0 ↔ b = true := by cases b <;> decide
theorem bI_nar (b : Bool) : narrow .boolean (.int (bI b)) = .int (bI b) := by cases b <;> rfl
theorem upI_s {f : Nat → Nat → Int32} {a k : Nat} {v : Int32} : upI f a k v a k = v := if_pos ⟨rfl, rfl⟩
theorem upI_k {f : Nat → Nat → Int32} {a b k j : Nat} {v : Int32} (h : j ≠ k) : upI f a k v b j = f b j := if_neg (fun q => h q.2)
theorem upI_a {f : Nat → Nat → Int32} {a b k j : Nat} {v : Int32} (h : b ≠ a) : upI f a k v b j = f b j := if_neg (fun q => h q.1)
theorem upI_nz {x : Int32} {j c : Nat} (h : x = nI j) (hj : j < 5) (hc : c < 5) : x = nI c ↔ j = c := by rw [h]; exact nI_eq (by omega) (by omega)
theorem kx0 {x : Int32} {j : Nat} (h : x = nI j) (hj : j < 5) : x = 0 ↔ j = 0 := upI_nz h hj (by decide)
theorem kx1 {x : Int32} {j : Nat} (h : x = nI j) (hj : j < 5) : x = 1 ↔ j = 1 := upI_nz h hj (by decide)
theorem kx2 {x : Int32} {j : Nat} (h : x = nI j) (hj : j < 5) : x = 2 ↔ j = 2 := upI_nz h hj (by decide)
theorem kx3 {x : Int32} {j : Nat} (h : x = nI j) (hj : j < 5) : x = 3 ↔ j = 3 := upI_nz h hj (by decide)
theorem kx4 {x : Int32} {j : Nat} (h : x = nI j) (hj : j < 5) : x = 4 ↔ j = 4 := upI_nz h hj (by decide)

/-! what a person is and does, by his cell p -/
def pPic (hi : Nat → Nat → Int32) (p : Nat) : Int32 := hi p 4 + hi p 5
def pTaken (hi : Nat → Nat → Int32) (p : Nat) : Bool := !decide (hi p 11 = -1)
def pGone (hi : Nat → Nat → Int32) (p : Nat) : Bool := decide (hi p 2 = 4)
def pFree (hi : Nat → Nat → Int32) (p : Nat) : Bool := !pTaken hi p && !pGone hi p
def pCont (hi : Nat → Nat → Int32) (p : Nat) (s a : Int32) : Bool := decide (hi p 2 = 1) || !decide (a < s)
def pLikes (hi : Nat → Nat → Int32) (p q : Nat) : Bool := !decide (hi p 3 = hi q 3) && pCont hi p (hi p 6) (pPic hi q)
def pWent (hi : Nat → Nat → Int32) (p q : Nat) : Bool := !decide (hi p 7 &&& hi q 1 = 0)
def pShown (hi : Nat → Nat → Int32) (p q : Nat) : Bool := !decide ((hi p 7 ||| hi p 8) &&& hi q 1 = 0)
def pMatch (hi : Nat → Nat → Int32) (p q : Nat) : Bool := pWent hi p q && pWent hi q p
def pCan (hi : Nat → Nat → Int32) (p q : Nat) : Bool := !decide (hi p 3 = hi q 3) && (pFree hi p && (!pTaken hi q && !pShown hi p q))
def kIsA (k w : Int32) : Bool := decide (w = 0) || (decide (w = k) || (decide (w = 3) && decide (k = 4)))
def pHasten (hi : Nat → Nat → Int32) (p : Nat) : Bool := decide (hi p 9 - hi p 9 / 3 * 3 = 2)
def pRight (hi : Nat → Nat → Int32) (p q : Nat) (lim : Int32) : Bool := (pLikes hi p q && !decide (lim ≤ hi p 10)) && (!(decide (hi p 2 = 2) && pHasten hi p) && (!kIsA (hi p 2) 3 || pWent hi q p))

