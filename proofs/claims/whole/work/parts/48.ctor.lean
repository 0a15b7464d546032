/-! ===== the constructors ===== -/
def mkI : List (Nat × Nat × Int32) → Nat → Nat → Int32
  | [] => fun _ _ => 0
  | q :: t => upI (mkI t) q.1 q.2.1 q.2.2
def mkR : List (Nat × Nat × Nat) → Nat → Nat → Option Nat
  | [] => fun _ _ => none
  | q :: t => upR (mkR t) q.1 q.2.1 (some q.2.2)
abbrev KTI : Type := List (Nat × Nat × Int32)
abbrev KTR : Type := List (Nat × Nat × Nat)
def H0 (ti : KTI) (tr : KTR) : XH := (mkI ti, fun _ _ => 0, mkR tr)
def FR (n : Nat) (ti : KTI) (tr : KTR) : Prop := (∀ q ∈ ti, q.1 < n) ∧ (∀ q ∈ tr, q.1 < n)
theorem FR.ups {n m : Nat} {ti : KTI} {tr : KTR} (h : FR n ti tr) (e : n ≤ m) : FR m ti tr := ⟨fun q hq => Nat.lt_of_lt_of_le (h.1 q hq) e, fun q hq => Nat.lt_of_lt_of_le (h.2 q hq) e⟩
theorem FR.cr {n : Nat} {ti : KTI} {tr : KTR} (h : FR n ti tr) {a : Nat} (k b : Nat) (e : a < n) : FR n ti ((a, k, b) :: tr) := ⟨h.1, List.forall_mem_cons.mpr ⟨e, h.2⟩⟩
theorem FR.ci {n : Nat} {ti : KTI} {tr : KTR} (h : FR n ti tr) {a : Nat} (k : Nat) (x : Int32) (e : a < n) : FR n ((a, k, x) :: ti) tr := ⟨List.forall_mem_cons.mpr ⟨e, h.1⟩, h.2⟩
theorem mkI_ge {n : Nat} : ∀ {ti : KTI}, (∀ q ∈ ti, q.1 < n) → ∀ {a : Nat}, n ≤ a → ∀ k, mkI ti a k = 0
  | [], _, _, _, _ => rfl
  | q :: t, h, a, ha, k => by
    have h1 := h q List.mem_cons_self
    rw [mkI, upI_a (by omega)]
    exact mkI_ge (fun z hz => h z (List.mem_cons_of_mem _ hz)) ha k
theorem mkR_ge {n : Nat} : ∀ {tr : KTR}, (∀ q ∈ tr, q.1 < n) → ∀ {a : Nat}, n ≤ a → ∀ k, mkR tr a k = none
  | [], _, _, _, _ => rfl
  | q :: t, h, a, ha, k => by
    have h1 := h q List.mem_cons_self
    rw [mkR]
    unfold upR
    rw [if_neg (by omega)]
    exact mkR_ge (fun z hz => h z (List.mem_cons_of_mem _ hz)) ha k
theorem hn_0 {n : Nat} {ti : KTI} {tr : KTR} (h : FR n ti tr) (hs : ¬ xsh.getD n (9, 0) = (0, 3)) : hnew (H0 ti tr) n = H0 ti tr := by
  unfold hnew H0
  refine Prod.ext ?_ (Prod.ext ?_ ?_)
  · funext b k
    show (if b = n then (if xsh.getD n (9, 0) = (0, 3) ∧ k = 2 then (5 : Int32) else 0) else mkI ti b k) = mkI ti b k
    by_cases z : b = n
    · rw [if_pos z, if_neg (fun q => hs q.1), z, mkI_ge h.1 (Nat.le_refl _)]
    · rw [if_neg z]
  · funext b k
    show (if b = n then (0 : Int64) else 0) = 0
    split <;> rfl
  · funext b k
    show (if b = n then none else mkR tr b k) = mkR tr b k
    by_cases z : b = n
    · rw [if_pos z, z, mkR_ge h.2 (Nat.le_refl _)]
    · rw [if_neg z]
theorem hn_p {n : Nat} {ti : KTI} {tr : KTR} (h : FR n ti tr) (hs : xsh.getD n (9, 0) = (0, 3)) : hnew (H0 ti tr) n = (upI (mkI ti) n 2 5, (fun _ _ => 0), mkR tr) := by
  unfold hnew H0
  refine Prod.ext ?_ (Prod.ext ?_ ?_)
  · funext b k
    show (if b = n then (if xsh.getD n (9, 0) = (0, 3) ∧ k = 2 then (5 : Int32) else 0) else mkI ti b k) = upI (mkI ti) n 2 5 b k
    by_cases z : b = n
    · rw [if_pos z]
      by_cases w : k = 2
      · rw [if_pos ⟨hs, w⟩, upI_h ⟨z, w⟩]
      · rw [if_neg (fun q => w q.2), upI_k w, z, mkI_ge h.1 (Nat.le_refl _)]
    · rw [if_neg z, upI_a z]
  · funext b k
    show (if b = n then (0 : Int64) else 0) = 0
    split <;> rfl
  · funext b k
    show (if b = n then none else mkR tr b k) = mkR tr b k
    by_cases z : b = n
    · rw [if_pos z, z, mkR_ge h.2 (Nat.le_refl _)]
    · rw [if_neg z]
def DV (ci : Nat) (ty : Nat → FieldType) : Prop := ∀ j, j < xnf ci → (xft ci j = 0 ∧ defaultValue (ty j) = .int 0) ∨ (xft ci j = 1 ∧ defaultValue (ty j) = .long 0) ∨ (xft ci j = 2 ∧ defaultValue (ty j) = .null) ∨ (xft ci j = 3 ∧ (ci = 3 ∧ j = 2) ∧ defaultValue (ty j) = .null)
theorem dv_0 : DV 0 tyX0 := fun j h => match j, h with
  | 0, _ => Or.inr (Or.inr (Or.inl ⟨rfl, rfl⟩))
  | 1, _ => Or.inr (Or.inr (Or.inl ⟨rfl, rfl⟩))
  | 2, _ => Or.inl ⟨rfl, rfl⟩
  | 3, _ => Or.inl ⟨rfl, rfl⟩
  | 4, _ => Or.inl ⟨rfl, rfl⟩
  | 5, _ => Or.inl ⟨rfl, rfl⟩
  | 6, _ => Or.inl ⟨rfl, rfl⟩
  | 7, _ => Or.inl ⟨rfl, rfl⟩
  | 8, _ => Or.inl ⟨rfl, rfl⟩
  | 9, _ => Or.inl ⟨rfl, rfl⟩
  | n + 10, h => absurd h (by show ¬ n + 10 < 10; omega)
theorem dv_1 : DV 1 tyX3 := fun j h => match j, h with
  | 0, _ => Or.inr (Or.inr (Or.inl ⟨rfl, rfl⟩))
  | 1, _ => Or.inr (Or.inr (Or.inl ⟨rfl, rfl⟩))
  | 2, _ => Or.inr (Or.inr (Or.inl ⟨rfl, rfl⟩))
  | 3, _ => Or.inr (Or.inr (Or.inl ⟨rfl, rfl⟩))
  | 4, _ => Or.inr (Or.inr (Or.inl ⟨rfl, rfl⟩))
  | 5, _ => Or.inl ⟨rfl, rfl⟩
  | n + 6, h => absurd h (by show ¬ n + 6 < 6; omega)
theorem dv_2 : DV 2 tyX4 := fun j h => match j, h with
  | 0, _ => Or.inr (Or.inr (Or.inl ⟨rfl, rfl⟩))
  | 1, _ => Or.inl ⟨rfl, rfl⟩
  | n + 2, h => absurd h (by show ¬ n + 2 < 2; omega)
theorem dv_3 : DV 3 tyX5 := fun j h => match j, h with
  | 0, _ => Or.inl ⟨rfl, rfl⟩
  | 1, _ => Or.inl ⟨rfl, rfl⟩
  | 2, _ => Or.inr (Or.inr (Or.inr ⟨rfl, ⟨rfl, rfl⟩, rfl⟩))
  | 3, _ => Or.inl ⟨rfl, rfl⟩
  | 4, _ => Or.inl ⟨rfl, rfl⟩
  | 5, _ => Or.inl ⟨rfl, rfl⟩
  | 6, _ => Or.inl ⟨rfl, rfl⟩
  | 7, _ => Or.inl ⟨rfl, rfl⟩
  | 8, _ => Or.inl ⟨rfl, rfl⟩
  | 9, _ => Or.inl ⟨rfl, rfl⟩
  | 10, _ => Or.inl ⟨rfl, rfl⟩
  | 11, _ => Or.inl ⟨rfl, rfl⟩
  | n + 12, h => absurd h (by show ¬ n + 12 < 12; omega)
theorem dv_4 : DV 4 tyX6 := fun j h => match j, h with
  | 0, _ => Or.inr (Or.inr (Or.inl ⟨rfl, rfl⟩))
  | 1, _ => Or.inr (Or.inr (Or.inl ⟨rfl, rfl⟩))
  | 2, _ => Or.inr (Or.inr (Or.inl ⟨rfl, rfl⟩))
  | 3, _ => Or.inl ⟨rfl, rfl⟩
  | n + 4, h => absurd h (by show ¬ n + 4 < 4; omega)
theorem dv_5 : DV 5 tyX7 := fun j h => match j, h with
  | 0, _ => Or.inr (Or.inr (Or.inl ⟨rfl, rfl⟩))
  | 1, _ => Or.inr (Or.inr (Or.inl ⟨rfl, rfl⟩))
  | n + 2, h => absurd h (by show ¬ n + 2 < 2; omega)
theorem dv_6 : DV 6 tyX9 := fun j h => match j, h with
  | 0, _ => Or.inr (Or.inr (Or.inl ⟨rfl, rfl⟩))
  | 1, _ => Or.inr (Or.inr (Or.inl ⟨rfl, rfl⟩))
  | 2, _ => Or.inr (Or.inr (Or.inl ⟨rfl, rfl⟩))
  | 3, _ => Or.inr (Or.inr (Or.inl ⟨rfl, rfl⟩))
  | 4, _ => Or.inr (Or.inr (Or.inl ⟨rfl, rfl⟩))
  | 5, _ => Or.inl ⟨rfl, rfl⟩
  | 6, _ => Or.inl ⟨rfl, rfl⟩
  | n + 7, h => absurd h (by show ¬ n + 7 < 7; omega)
theorem dv_7 : DV 7 tyX10 := fun j h => match j, h with
  | 0, _ => Or.inl ⟨rfl, rfl⟩
  | 1, _ => Or.inl ⟨rfl, rfl⟩
  | 2, _ => Or.inl ⟨rfl, rfl⟩
  | 3, _ => Or.inr (Or.inr (Or.inl ⟨rfl, rfl⟩))
  | 4, _ => Or.inr (Or.inr (Or.inl ⟨rfl, rfl⟩))
  | 5, _ => Or.inr (Or.inr (Or.inl ⟨rfl, rfl⟩))
  | 6, _ => Or.inr (Or.inr (Or.inl ⟨rfl, rfl⟩))
  | 7, _ => Or.inr (Or.inr (Or.inl ⟨rfl, rfl⟩))
  | 8, _ => Or.inr (Or.inr (Or.inl ⟨rfl, rfl⟩))
  | 9, _ => Or.inr (Or.inr (Or.inl ⟨rfl, rfl⟩))
  | 10, _ => Or.inr (Or.inr (Or.inl ⟨rfl, rfl⟩))
  | 11, _ => Or.inr (Or.inr (Or.inl ⟨rfl, rfl⟩))
  | 12, _ => Or.inl ⟨rfl, rfl⟩
  | 13, _ => Or.inl ⟨rfl, rfl⟩
  | 14, _ => Or.inl ⟨rfl, rfl⟩
  | 15, _ => Or.inl ⟨rfl, rfl⟩
  | 16, _ => Or.inl ⟨rfl, rfl⟩
  | 17, _ => Or.inl ⟨rfl, rfl⟩
  | 18, _ => Or.inl ⟨rfl, rfl⟩
  | 19, _ => Or.inr (Or.inr (Or.inl ⟨rfl, rfl⟩))
  | 20, _ => Or.inr (Or.inr (Or.inl ⟨rfl, rfl⟩))
  | 21, _ => Or.inr (Or.inr (Or.inl ⟨rfl, rfl⟩))
  | 22, _ => Or.inl ⟨rfl, rfl⟩
  | 23, _ => Or.inr (Or.inr (Or.inl ⟨rfl, rfl⟩))
  | 24, _ => Or.inl ⟨rfl, rfl⟩
  | 25, _ => Or.inl ⟨rfl, rfl⟩
  | 26, _ => Or.inl ⟨rfl, rfl⟩
  | 27, _ => Or.inr (Or.inr (Or.inl ⟨rfl, rfl⟩))
  | 28, _ => Or.inr (Or.inr (Or.inl ⟨rfl, rfl⟩))
  | 29, _ => Or.inl ⟨rfl, rfl⟩
  | 30, _ => Or.inr (Or.inr (Or.inl ⟨rfl, rfl⟩))
  | 31, _ => Or.inr (Or.inr (Or.inl ⟨rfl, rfl⟩))
  | 32, _ => Or.inr (Or.inr (Or.inl ⟨rfl, rfl⟩))
  | 33, _ => Or.inr (Or.inr (Or.inl ⟨rfl, rfl⟩))
  | 34, _ => Or.inl ⟨rfl, rfl⟩
  | 35, _ => Or.inl ⟨rfl, rfl⟩
  | 36, _ => Or.inl ⟨rfl, rfl⟩
  | 37, _ => Or.inr (Or.inl ⟨rfl, rfl⟩)
  | 38, _ => Or.inl ⟨rfl, rfl⟩
  | 39, _ => Or.inl ⟨rfl, rfl⟩
  | 40, _ => Or.inl ⟨rfl, rfl⟩
  | 41, _ => Or.inl ⟨rfl, rfl⟩
  | 42, _ => Or.inl ⟨rfl, rfl⟩
  | 43, _ => Or.inl ⟨rfl, rfl⟩
  | 44, _ => Or.inl ⟨rfl, rfl⟩
  | 45, _ => Or.inl ⟨rfl, rfl⟩
  | 46, _ => Or.inl ⟨rfl, rfl⟩
  | 47, _ => Or.inr (Or.inr (Or.inl ⟨rfl, rfl⟩))
  | 48, _ => Or.inr (Or.inr (Or.inl ⟨rfl, rfl⟩))
  | 49, _ => Or.inr (Or.inr (Or.inl ⟨rfl, rfl⟩))
  | 50, _ => Or.inr (Or.inr (Or.inl ⟨rfl, rfl⟩))
  | 51, _ => Or.inr (Or.inr (Or.inl ⟨rfl, rfl⟩))
  | 52, _ => Or.inr (Or.inr (Or.inl ⟨rfl, rfl⟩))
  | 53, _ => Or.inr (Or.inr (Or.inl ⟨rfl, rfl⟩))
  | 54, _ => Or.inr (Or.inr (Or.inl ⟨rfl, rfl⟩))
  | 55, _ => Or.inr (Or.inr (Or.inl ⟨rfl, rfl⟩))
  | 56, _ => Or.inr (Or.inr (Or.inl ⟨rfl, rfl⟩))
  | 57, _ => Or.inr (Or.inl ⟨rfl, rfl⟩)
  | n + 58, h => absurd h (by show ¬ n + 58 < 58; omega)
theorem dv_new {E : XE} {h : XH} {cnt ci : Nat} {ty : Nat → FieldType} (hdv : DV ci ty) (hs : xsh.getD cnt (9, 0) = (0, ci)) : ∀ j, j < xnf ci → defaultValue (ty j) = xfv E (hnew h cnt) cnt j (xft ci j) := by
  have h1 : ∀ j, (hnew h cnt).1 cnt j = if xsh.getD cnt (9, 0) = (0, 3) ∧ j = 2 then (5 : Int32) else 0 := fun j => if_pos rfl
  have h2 : ∀ j, (hnew h cnt).2.1 cnt j = 0 := fun j => if_pos rfl
  have h3 : ∀ j, (hnew h cnt).2.2 cnt j = none := fun j => if_pos rfl
  intro j hj
  have hno : xft ci j = 0 → ¬ (xsh.getD cnt (9, 0) = (0, 3) ∧ j = 2) := fun e q => by
    obtain ⟨q1, rfl⟩ := q
    rw [hs] at q1
    have : ci = 3 := congrArg Prod.snd q1
    subst this
    exact absurd e (by decide)
  rcases hdv j hj with ⟨e1, e2⟩ | ⟨e1, e2⟩ | ⟨e1, e2⟩ | ⟨e1, ⟨e3, e4⟩, e2⟩
  · rw [e1, e2]
    show Value.int 0 = .int ((hnew h cnt).1 cnt j)
    rw [h1, if_neg (hno e1)]
  · rw [e1, e2]
    show Value.long 0 = .long ((hnew h cnt).2.1 cnt j)
    rw [h2]
  · rw [e1, e2]
    show Value.null = va_rf (((hnew h cnt).2.2 cnt j).map (xa E))
    rw [h3]
    rfl
  · rw [e1, e2]
    show Value.null = va_re E.2.1 (xk ((hnew h cnt).1 cnt j))
    rw [h1, if_pos ⟨by rw [hs, e3], e4⟩]
    rfl
section CT
variable {E : XE} {l : Launch} {d : Nat} {M : XM} {pc : Nat} {ls : XL} {st : List Value} {cnt : Nat} {ti : KTI} {tr : KTR} {mr sr : Nat} {Q : Option Value → XH → Prop}
theorem n_new {idx ci w : Nat} {C : String} {T : u_T} {ty : Nat → FieldType} (hf : FR cnt ti tr) (hd : decode M.2.1 pc = .ok (.new idx, 3)) (hc : vwCl[ci]? = some (C, T, xnf ci)) (hw : Cond.classLink M.1.cls idx C ∈ xtbl ∧ Cond.instantiable C (xnf ci) ∈ xtbl ∧ Cond.initialized C ∈ xtbl) (hty : ∀ k, k < xnf ci → parseFieldDescriptor (T k).2.2.1 = some (ty k)) (hs : xsh.getD cnt (9, 0) = (0, ci)) (h3 : ¬ ci = 3) (hx : xnf ci = w) (hdv : DV ci ty) (hcn : cnt < 1000) (kk : G E l d M (pc + 3) ls (.ref cnt :: st) (cnt + 1) (H0 ti tr) mr sr Q) : G E l d M pc ls st cnt (H0 ti tr) (mr + 1) (sr + w) Q := by
  subst hx
  refine g_new hd hc hw hty hs (dv_new hdv hs) hcn ?_
  rw [hn_0 hf (by rw [hs]; exact fun q => h3 (congrArg Prod.snd q))]
  exact kk
theorem n_newP {idx w : Nat} {C : String} {T : u_T} {ty : Nat → FieldType} (hf : FR cnt ti tr) (hd : decode M.2.1 pc = .ok (.new idx, 3)) (hc : vwCl[3]? = some (C, T, xnf 3)) (hw : Cond.classLink M.1.cls idx C ∈ xtbl ∧ Cond.instantiable C (xnf 3) ∈ xtbl ∧ Cond.initialized C ∈ xtbl) (hty : ∀ k, k < xnf 3 → parseFieldDescriptor (T k).2.2.1 = some (ty k)) (hs : xsh.getD cnt (9, 0) = (0, 3)) (hx : xnf 3 = w) (hdv : DV 3 ty) (hcn : cnt < 1000) (kk : G E l d M (pc + 3) ls (.ref cnt :: st) (cnt + 1) (upI (mkI ti) cnt 2 5, (fun _ _ => 0), mkR tr) mr sr Q) : G E l d M pc ls st cnt (H0 ti tr) (mr + 1) (sr + w) Q := by
  subst hx
  refine g_new hd hc hw hty hs (dv_new hdv hs) hcn ?_
  rw [hn_p hf hs]
  exact kk
theorem n_newI {n : Nat} {x : Int32} (hf : FR cnt ti tr) (hd : decode M.2.1 pc = .ok (.newarray .int, 2)) (hw : Cond.arrayClass .int ∈ xtbl) (hx : x = nI n) (hn : n ≤ 1000) (hs : xsh.getD cnt (9, 0) = (1, n)) (hcn : cnt < 1000) (kk : G E l d M (pc + 2) ls (.ref cnt :: st) (cnt + 1) (H0 ti tr) mr sr Q) : G E l d M pc ls (.int x :: st) cnt (H0 ti tr) (mr + 1) (sr + n) Q := by
  refine g_newI hd hw hx hn hs hcn ?_
  rw [hn_0 hf (by rw [hs]; exact fun q => absurd (show (1 : Nat) = 0 from congrArg Prod.fst q) (by decide))]
  exact kk
theorem n_newZ {n : Nat} {x : Int32} (hf : FR cnt ti tr) (hd : decode M.2.1 pc = .ok (.newarray .boolean, 2)) (hw : Cond.arrayClass .boolean ∈ xtbl) (hx : x = nI n) (hn : n ≤ 1000) (hs : xsh.getD cnt (9, 0) = (2, n)) (hcn : cnt < 1000) (kk : G E l d M (pc + 2) ls (.ref cnt :: st) (cnt + 1) (H0 ti tr) mr sr Q) : G E l d M pc ls (.int x :: st) cnt (H0 ti tr) (mr + 1) (sr + n) Q := by
  refine g_newZ hd hw hx hn hs hcn ?_
  rw [hn_0 hf (by rw [hs]; exact fun q => absurd (show (2 : Nat) = 0 from congrArg Prod.fst q) (by decide))]
  exact kk
theorem n_newB {n : Nat} {x : Int32} (hf : FR cnt ti tr) (hd : decode M.2.1 pc = .ok (.newarray .byte, 2)) (hw : Cond.arrayClass .byte ∈ xtbl) (hx : x = nI n) (hn : n ≤ 1000) (hs : xsh.getD cnt (9, 0) = (3, n)) (hcn : cnt < 1000) (kk : G E l d M (pc + 2) ls (.ref cnt :: st) (cnt + 1) (H0 ti tr) mr sr Q) : G E l d M pc ls (.int x :: st) cnt (H0 ti tr) (mr + 1) (sr + n) Q := by
  refine g_newB hd hw hx hn hs hcn ?_
  rw [hn_0 hf (by rw [hs]; exact fun q => absurd (show (3 : Nat) = 0 from congrArg Prod.fst q) (by decide))]
  exact kk
theorem n_newA {n idx : Nat} {x : Int32} (hf : FR cnt ti tr) (hd : decode M.2.1 pc = .ok (.anewarray idx, 3)) (hw : Cond.classLink M.1.cls idx "ThumbSea$Person" ∈ xtbl) (hx : x = nI n) (hn : n ≤ 1000) (hs : xsh.getD cnt (9, 0) = (4, n)) (hcn : cnt < 1000) (kk : G E l d M (pc + 3) ls (.ref cnt :: st) (cnt + 1) (H0 ti tr) mr sr Q) : G E l d M pc ls (.int x :: st) cnt (H0 ti tr) (mr + 1) (sr + n) Q := by
  refine g_newP hd hw hx hn hs hcn ?_
  rw [hn_0 hf (by rw [hs]; exact fun q => absurd (show (4 : Nat) = 0 from congrArg Prod.fst q) (by decide))]
  exact kk
theorem n_putr {idx ci k a : Nat} {ty : FieldType} {b : Nat} (hd : decode M.2.1 pc = .ok (.putfield idx, 3)) (hf : XF M.1.cls idx ci k ty true) (ht : xft ci k = 2) (ha : a < cnt) (hs : xsh.getD a (9, 0) = (0, ci)) (hty1 : (∃ n, ty = .object n) ∨ ∃ t, ty = .array t) (hin2 : M.1.name = "<init>") (hown : M.1.cls = (vwCl.getD ci ("", fun _ => ("", "", "", false), 0)).1) (kk : G E l d M (pc + 3) ls st cnt (H0 ti ((a, k, b) :: tr)) mr sr Q) : G E l d M pc ls (.ref b :: .ref a :: st) cnt (H0 ti tr) mr sr Q := g_putrF hd hf ht ha hs hty1 hin2 hown kk
theorem n_aast {a n i b : Nat} {x : Int32} (hd : decode M.2.1 pc = .ok (.aastore, 1)) (ha : a < cnt) (hs : xsh.getD a (9, 0) = (4, n)) (hx : x = nI i) (hi : i < n) (hn : n < 2 ^ 31) (hb : b < cnt) (hsb : xsh.getD b (9, 0) = (0, 3)) (kk : G E l d M (pc + 1) ls st cnt (H0 ti ((a, i, b) :: tr)) mr sr Q) : G E l d M pc ls (.ref b :: .int x :: .ref a :: st) cnt (H0 ti tr) mr sr Q := g_aast hd ha hs hx hi hn hb hsb kk
end CT
section CN
variable {E : XE} {l : Launch} {ti : KTI} {tr : KTR}

set_option maxRecDepth 100000 in
set_option maxHeartbeats 4000000 in
theorem cn_page (hf0 : FR 2 ti tr) : MC E l 1 mX4_init [.ref 1] 2 (H0 ti tr) 1 41 (fun r h' => r = none ∧ h' = H0 ti ((1, 0, 2) :: tr)) := by
  refine MC.of [some (.ref 1)] (by decide) rfl (Nat.le_of_ble_eq_true rfl) ?_
  refine g_aload_n dX4_init_0 rfl ?_
  refine g_objInit dX4_init_1 l_X4_3 (by decide) (by decide) ?_
  refine g_aload_n dX4_init_4 rfl ?_
  refine g_bipush (v := 41) dX4_init_5 (by decide) ?_
  refine n_newI (n := 41) (mr := 0) (sr := 0) hf0 dX4_init_7 a_int (by decide) (by decide) rfl (by decide) ?_
  have hf1 := hf0.ups (m := 3) (by decide)
  refine n_putr dX4_init_9 k_X4_9 rfl (by decide) rfl (Or.inr ⟨_, rfl⟩) rfl rfl ?_
  have hf2 := hf1.cr (a := 1) 0 2 (by decide)
  exact g_return dX4_init_12 rfl ⟨rfl, rfl⟩
set_option maxRecDepth 100000 in
set_option maxHeartbeats 4000000 in
theorem cn_seen {c : Nat} (hc : isC c) (hf0 : FR (c + 3) ti tr) : MC E l 1 mX6_init [.ref (c + 2)] (c + 3) (H0 ti tr) 3 24 (fun r h' => r = none ∧ h' = H0 ti ((c + 2, 2, c + 5) :: (c + 2, 1, c + 4) :: (c + 2, 0, c + 3) :: tr)) := by
  have hcn : c ≤ 32 := by rcases hc with rfl | rfl | rfl <;> decide
  refine MC.of [some (.ref (c + 2))] (by decide) rfl (Nat.le_of_ble_eq_true rfl) ?_
  refine g_aload_n dX6_init_0 rfl ?_
  refine g_objInit dX6_init_1 l_X6_3 (by decide) (by decide) ?_
  refine g_aload_n dX6_init_4 rfl ?_
  refine g_bipush (v := 8) dX6_init_5 (by decide) ?_
  refine n_newI (n := 8) (mr := 2) (sr := 16) hf0 dX6_init_7 a_int (by decide) (by decide) hc.a3.2 (by omega) ?_
  refine n_putr dX6_init_9 k_X6_9 rfl (by omega) hc.o2.2 (Or.inr ⟨_, rfl⟩) rfl rfl ?_
  have hf1 := (hf0.ups (m := c + 4) (by omega)).cr (a := c + 2) 0 (c + 3) (by omega)
  refine g_aload_n dX6_init_12 rfl ?_
  refine g_bipush (v := 8) dX6_init_13 (by decide) ?_
  refine n_newI (n := 8) (mr := 1) (sr := 8) hf1 dX6_init_15 a_int (by decide) (by decide) hc.a4.2 (by omega) ?_
  refine n_putr dX6_init_17 k_X6_15 rfl (by omega) hc.o2.2 (Or.inr ⟨_, rfl⟩) rfl rfl ?_
  have hf2 := (hf1.ups (m := c + 5) (by omega)).cr (a := c + 2) 1 (c + 4) (by omega)
  refine g_aload_n dX6_init_20 rfl ?_
  refine g_bipush (v := 8) dX6_init_21 (by decide) ?_
  refine n_newZ (n := 8) (mr := 0) (sr := 0) hf2 dX6_init_23 a_boolean (by decide) (by decide) hc.a5.2 (by omega) ?_
  refine n_putr dX6_init_25 k_X6_18 rfl (by omega) hc.o2.2 (Or.inr ⟨_, rfl⟩) rfl rfl ?_
  exact g_return dX6_init_28 rfl ⟨rfl, rfl⟩
set_option maxRecDepth 100000 in
set_option maxHeartbeats 4000000 in
theorem cn_person {p i : Nat} (hi8 : i < 8) (hs : xsh.getD p (9, 0) = (0, 3)) (hp : p < 1000) (h0 : mkI ti p 2 = 0) : MC E l 1 mX5_init [.ref p, .int (nI i)] (p + 1) (upI (mkI ti) p 2 5, (fun _ _ => 0), mkR tr) 0 0 (fun r h' => r = none ∧ h' = H0 ((p, 1, bitI i) :: (p, 0, nI i) :: (p, 11, -1) :: ti) tr) := by
  refine MC.of [some (.ref p), some (.int (nI i))] (by decide) rfl (Nat.le_of_ble_eq_true rfl) ?_
  refine g_aload_n dX5_init_0 rfl ?_
  refine g_objInit dX5_init_1 l_X5_3 (by decide) (by decide) ?_
  refine g_aload_n dX5_init_4 rfl ?_
  refine g_getsK (i := 0) dX5_init_5 (by decide) rfl k_X5_9 ?_
  refine g_putk dX5_init_8 k_X5_15 rfl (by omega) hs (by decide) ⟨_, rfl⟩ ?_
  refine g_aload_n dX5_init_11 rfl ?_
  refine g_iconst (v := -1) dX5_init_12 (by decide) ?_
  refine g_puti dX5_init_13 k_X5_20 rfl (by omega) hs rfl rfl ?_
  refine g_aload_n dX5_init_16 rfl ?_
  refine g_iload_n dX5_init_17 rfl ?_
  refine g_putiF dX5_init_18 k_X5_24 rfl (by omega) hs rfl rfl rfl rfl ?_
  refine g_aload_n dX5_init_21 rfl ?_
  refine g_iconst (v := 1) dX5_init_22 (by decide) ?_
  refine g_iload_n dX5_init_23 rfl ?_
  refine g_ishl dX5_init_24 ?_
  refine g_putiF dX5_init_25 k_X5_27 rfl (by omega) hs rfl rfl rfl rfl ?_
  refine g_return dX5_init_28 rfl ⟨rfl, ?_⟩
  have e : upI (upI (mkI ti) p 2 5) p 2 (nI 0) = mkI ti := by
    funext b k
    by_cases z : b = p ∧ k = 2
    · rw [upI_h z, z.1, z.2, h0]
      rfl
    · rw [upI_a' z, upI_a' z]
  show (upI (upI (upI (upI (upI (mkI ti) p 2 5) p 2 (nI 0)) p 11 (-1)) p 0 (nI i)) p 1 (1 <<< (nI i &&& 31)), (fun _ _ => (0 : Int64)), mkR tr) = H0 ((p, 1, bitI i) :: (p, 0, nI i) :: (p, 11, -1) :: ti) tr
  rw [e]
  rfl
def trP (c : Nat) : Nat → KTR → KTR
  | 0, t => t
  | i + 1, t => (c + 1, i, c + 6 + i) :: trP c i t
def tiP (c : Nat) : Nat → KTI → KTI
  | 0, t => t
  | i + 1, t => (c + 6 + i, 1, bitI i) :: (c + 6 + i, 0, nI i) :: (c + 6 + i, 11, -1) :: tiP c i t
theorem FR.p {c : Nat} (h : FR (c + 6) ti tr) : ∀ i, FR (c + 6 + i) (tiP c i ti) (trP c i tr)
  | 0 => h
  | i + 1 => (((((FR.p h i).ups (m := c + 6 + (i + 1)) (by omega)).ci (a := c + 6 + i) 11 (-1) (by omega)).ci (a := c + 6 + i) 0 (nI i) (by omega)).ci (a := c + 6 + i) 1 (bitI i) (by omega)).cr (a := c + 1) i (c + 6 + i) (by omega)
theorem trP_0 {c : Nat} : ∀ i, mkR (trP c i tr) c 0 = mkR tr c 0
  | 0 => rfl
  | i + 1 => by
    rw [trP, mkR]
    unfold upR
    rw [if_neg (by show ¬ (c = c + 1 ∧ 0 = i); omega)]
    exact trP_0 i
set_option maxRecDepth 100000 in
set_option maxHeartbeats 4000000 in
theorem lp_crowd {c : Nat} (hc : isC c) (hf : FR (c + 6) ti tr) (hp : mkR tr c 0 = some (c + 1)) : ∀ (n i : Nat), i + n = 8 → G E l 2 mX0_init 26 [some (.ref c), some (.int (nI i))] [] (c + 6 + i) (H0 (tiP c i ti) (trP c i tr)) n (12 * n) (fun r h' => r = none ∧ h' = H0 (tiP c 8 ti) (trP c 8 tr)) := by
  have hcn : c ≤ 32 := by rcases hc with rfl | rfl | rfl <;> decide
  intro n
  induction n with
  | zero =>
    intro i h
    obtain rfl : i = 8 := by omega
    refine g_iload_n dX0_init_26 rfl ?_
    refine g_bipush (v := 8) dX0_init_27 (by decide) ?_
    refine g_icmpge 52 dX0_init_29 (by decide) (fun _ => ?_) (fun z => absurd (by decide) z)
    exact g_return dX0_init_52 rfl ⟨rfl, rfl⟩
  | succ n ih =>
    intro i h
    have hi8 : i < 8 := by omega
    refine g_iload_n dX0_init_26 rfl ?_
    refine g_bipush (v := 8) dX0_init_27 (by decide) ?_
    refine g_icmpge 52 dX0_init_29 (by decide) (fun z => absurd z (nI_ge (b := 8) hi8 (by decide))) (fun _ => ?_)
    refine g_aload_n dX0_init_32 rfl ?_
    refine g_getr dX0_init_33 k_X0_11 rfl (by omega) hc.o.2 (b := c + 1) ((trP_0 i).trans hp) ?_
    refine g_iload_n dX0_init_36 rfl ?_
    refine n_newP (w := 12) (mr := n) (sr := 12 * n) (hf.p i) dX0_init_37 rfl n_X0_9 tyX5_ok (hc.p hi8).2 rfl dv_3 (by omega) ?_
    refine g_dup dX0_init_40 rfl ?_
    refine g_iload_n dX0_init_41 rfl ?_
    refine g_callI1 (M' := mX5_init) (d' := 1) (mc' := 0) (ms' := 0) (mr := n) (sr := 12 * n) dX0_init_42 l_X0_24 s_mX5_init rfl rfl f_mX5_init (Nat.le_of_ble_eq_true rfl) (by decide) (cn_person hi8 (hc.p hi8).2 (by omega) (mkI_ge (hf.p i).1 (Nat.le_refl _) 2)) ?_
    rintro _ _ ⟨rfl, rfl⟩
    refine n_aast dX0_init_45 (by omega) hc.a1.2 rfl hi8 (by decide) (by omega) (hc.p hi8).2 ?_
    refine g_iinc dX0_init_46 rfl (nI_inc i) (by decide) rfl rfl ?_
    refine g_goto 26 dX0_init_49 (by decide) ?_
    exact ih (i + 1) (by omega)
set_option maxRecDepth 100000 in
set_option maxHeartbeats 4000000 in
theorem cn_crowd {c : Nat} (hc : isC c) (hf0 : FR (c + 1) ti tr) : MC E l 2 mX0_init [.ref c] (c + 1) (H0 ti tr) 13 132 (fun r h' => r = none ∧ h' = H0 (tiP c 8 ti) (trP c 8 ((c, 1, c + 2) :: (c + 2, 2, c + 5) :: (c + 2, 1, c + 4) :: (c + 2, 0, c + 3) :: (c, 0, c + 1) :: tr))) := by
  have hcn : c ≤ 32 := by rcases hc with rfl | rfl | rfl <;> decide
  refine MC.of [some (.ref c), none] (by decide) rfl (Nat.le_of_ble_eq_true rfl) ?_
  refine g_aload_n dX0_init_0 rfl ?_
  refine g_objInit dX0_init_1 l_X0_3 (by decide) (by decide) ?_
  refine g_aload_n dX0_init_4 rfl ?_
  refine g_bipush (v := 8) dX0_init_5 (by decide) ?_
  refine n_newA (n := 8) (mr := 12) (sr := 124) hf0 dX0_init_7 n_X0_9.1 (by decide) (by decide) hc.a1.2 (by omega) ?_
  refine n_putr dX0_init_10 k_X0_11 rfl (by omega) hc.o.2 (Or.inr ⟨_, rfl⟩) rfl rfl ?_
  have hf1 := (hf0.ups (m := c + 2) (by omega)).cr (a := c) 0 (c + 1) (by omega)
  refine g_aload_n dX0_init_13 rfl ?_
  refine n_new (w := 4) (mr := 11) (sr := 120) hf1 dX0_init_14 rfl n_X0_17 tyX6_ok hc.o2.2 (by decide) rfl dv_4 (by omega) ?_
  have hf2 := hf1.ups (m := c + 3) (by omega)
  refine g_dup dX0_init_17 rfl ?_
  refine g_callIN0 (M' := mX6_init) (d' := 1) (mc' := 3) (ms' := 24) (mr := 8) (sr := 96) dX0_init_18 l_X0_19 s_mX6_init rfl rfl f_mX6_init (Nat.le_of_ble_eq_true rfl) (by decide) (cn_seen hc hf2) ?_
  rintro _ _ ⟨rfl, rfl⟩
  have hf3 := (((((hf2.ups (m := c + 6) (by omega)).cr (a := c + 2) 0 (c + 3) (by omega)).cr (a := c + 2) 1 (c + 4) (by omega)).cr (a := c + 2) 2 (c + 5) (by omega)).cr (a := c) 1 (c + 2) (by omega))
  refine n_putr dX0_init_21 k_X0_20 rfl (by omega) hc.o.2 (Or.inl ⟨_, rfl⟩) rfl rfl ?_
  refine g_iconst (v := 0) dX0_init_24 (by decide) ?_
  refine g_istore_n dX0_init_25 (by decide) rfl rfl ?_
  refine lp_crowd hc hf3 ?_ 8 0 rfl
  have e : ∀ (t : KTR) (a k b : Nat), ¬ (c = a ∧ 0 = k) → mkR ((a, k, b) :: t) c 0 = mkR t c 0 := fun t a k b z => by
    rw [mkR]
    unfold upR
    rw [if_neg z]
  rw [e _ _ _ _ (by omega), e _ _ _ _ (by omega), e _ _ _ _ (by omega), e _ _ _ _ (by omega), mkR]
  unfold upR
  rw [if_pos ⟨rfl, rfl⟩]
theorem FR.crowd {c : Nat} (h : FR (c + 1) ti tr) : FR (c + 14) (tiP c 8 ti) (trP c 8 ((c, 1, c + 2) :: (c + 2, 2, c + 5) :: (c + 2, 1, c + 4) :: (c + 2, 0, c + 3) :: (c, 0, c + 1) :: tr)) :=
  FR.p (((((((h.ups (m := c + 6) (by omega)).cr (a := c) 0 (c + 1) (by omega)).cr (a := c + 2) 0 (c + 3) (by omega)).cr (a := c + 2) 1 (c + 4) (by omega)).cr (a := c + 2) 2 (c + 5) (by omega)).cr (a := c) 1 (c + 2) (by omega))) 8
set_option maxRecDepth 100000 in
set_option maxHeartbeats 4000000 in
theorem cn_trial (hf0 : FR 32 ti tr) : MC E l 3 mX7_init [.ref 31] 32 (H0 ti tr) 15 150 (fun r h' => r = none ∧ h' = H0 (tiP 32 8 ti) ((31, 1, 46) :: ((31, 0, 32) :: (trP 32 8 ((32, 1, 34) :: (34, 2, 37) :: (34, 1, 36) :: (34, 0, 35) :: (32, 0, 33) :: tr))))) := by
  refine MC.of [some (.ref 31)] (by decide) rfl (Nat.le_of_ble_eq_true rfl) ?_
  refine g_aload_n dX7_init_0 rfl ?_
  refine g_objInit dX7_init_1 l_X7_3 (by decide) (by decide) ?_
  refine g_aload_n dX7_init_4 rfl ?_
  refine n_new (w := 10) (mr := 14) (sr := 140) hf0 dX7_init_5 rfl n_X7_9 tyX0_ok rfl (by decide) rfl dv_0 (by decide) ?_
  have hf1 := hf0.ups (m := 33) (by decide)
  refine g_dup dX7_init_8 rfl ?_
  refine g_callI0 (M' := mX0_init) (d' := 2) (mc' := 13) (ms' := 132) (mr := 1) (sr := 8) dX7_init_9 l_X7_11 s_mX0_init rfl rfl f_mX0_init (Nat.le_of_ble_eq_true rfl) (by decide) (cn_crowd (c := 32) isC32 hf1) ?_
  rintro _ _ ⟨rfl, rfl⟩
  have hf2 := hf1.crowd (c := 32)
  refine n_putr dX7_init_12 k_X7_12 rfl (by decide) rfl (Or.inl ⟨_, rfl⟩) rfl rfl ?_
  have hf3 := hf2.cr (a := 31) 0 32 (by decide)
  refine g_aload_n dX7_init_15 rfl ?_
  refine g_bipush (v := 8) dX7_init_16 (by decide) ?_
  refine n_newI (n := 8) (mr := 0) (sr := 0) hf3 dX7_init_18 a_int (by decide) (by decide) rfl (by decide) ?_
  have hf4 := hf3.ups (m := 47) (by decide)
  refine n_putr dX7_init_20 k_X7_18 rfl (by decide) rfl (Or.inr ⟨_, rfl⟩) rfl rfl ?_
  have hf5 := hf4.cr (a := 31) 1 46 (by decide)
  exact g_return dX7_init_23 rfl ⟨rfl, rfl⟩
theorem FR.page (h : FR 2 ti tr) : FR 3 ti ((1, 0, 2) :: tr) := (h.ups (m := 3) (by decide)).cr (a := 1) 0 2 (by decide)
theorem FR.trial (h : FR 32 ti tr) : FR 47 (tiP 32 8 ti) ((31, 1, 46) :: ((31, 0, 32) :: (trP 32 8 ((32, 1, 34) :: (34, 2, 37) :: (34, 1, 36) :: (34, 0, 35) :: (32, 0, 33) :: tr)))) := (((FR.crowd (c := 32) (h.ups (m := 33) (by decide))).ups (m := 47) (by decide)).cr (a := 31) 0 32 (by decide)).cr (a := 31) 1 46 (by decide)
set_option maxRecDepth 100000 in
set_option maxHeartbeats 4000000 in
theorem cn_last (hf0 : FR 48 ti tr) : MC E l 1 mX3_init [.ref 47] 48 (H0 ti tr) 5 36 (fun r h' => r = none ∧ h' = H0 ti ((47, 4, 52) :: ((47, 3, 51) :: ((47, 2, 50) :: ((47, 1, 49) :: ((47, 0, 48) :: tr)))))) := by
  refine MC.of [some (.ref 47)] (by decide) rfl (Nat.le_of_ble_eq_true rfl) ?_
  refine g_aload_n dX3_init_0 rfl ?_
  refine g_objInit dX3_init_1 l_X3_3 (by decide) (by decide) ?_
  refine g_aload_n dX3_init_4 rfl ?_
  refine g_bipush (v := 8) dX3_init_5 (by decide) ?_
  refine n_newI (n := 8) (mr := 4) (sr := 28) hf0 dX3_init_7 a_int (by decide) (by decide) rfl (by decide) ?_
  have hf1 := hf0.ups (m := 49) (by decide)
  refine n_putr dX3_init_9 k_X3_9 rfl (by decide) rfl (Or.inr ⟨_, rfl⟩) rfl rfl ?_
  have hf2 := hf1.cr (a := 47) 0 48 (by decide)
  refine g_aload_n dX3_init_12 rfl ?_
  refine g_bipush (v := 8) dX3_init_13 (by decide) ?_
  refine n_newI (n := 8) (mr := 3) (sr := 20) hf2 dX3_init_15 a_int (by decide) (by decide) rfl (by decide) ?_
  have hf3 := hf2.ups (m := 50) (by decide)
  refine n_putr dX3_init_17 k_X3_15 rfl (by decide) rfl (Or.inr ⟨_, rfl⟩) rfl rfl ?_
  have hf4 := hf3.cr (a := 47) 1 49 (by decide)
  refine g_aload_n dX3_init_20 rfl ?_
  refine g_bipush (v := 8) dX3_init_21 (by decide) ?_
  refine n_newI (n := 8) (mr := 2) (sr := 12) hf4 dX3_init_23 a_int (by decide) (by decide) rfl (by decide) ?_
  have hf5 := hf4.ups (m := 51) (by decide)
  refine n_putr dX3_init_25 k_X3_18 rfl (by decide) rfl (Or.inr ⟨_, rfl⟩) rfl rfl ?_
  have hf6 := hf5.cr (a := 47) 2 50 (by decide)
  refine g_aload_n dX3_init_28 rfl ?_
  refine g_bipush (v := 8) dX3_init_29 (by decide) ?_
  refine n_newI (n := 8) (mr := 1) (sr := 4) hf6 dX3_init_31 a_int (by decide) (by decide) rfl (by decide) ?_
  have hf7 := hf6.ups (m := 52) (by decide)
  refine n_putr dX3_init_33 k_X3_21 rfl (by decide) rfl (Or.inr ⟨_, rfl⟩) rfl rfl ?_
  have hf8 := hf7.cr (a := 47) 3 51 (by decide)
  refine g_aload_n dX3_init_36 rfl ?_
  refine g_iconst (v := 4) dX3_init_37 (by decide) ?_
  refine n_newI (n := 4) (mr := 0) (sr := 0) hf8 dX3_init_38 a_int (by decide) (by decide) rfl (by decide) ?_
  have hf9 := hf8.ups (m := 53) (by decide)
  refine n_putr dX3_init_40 k_X3_24 rfl (by decide) rfl (Or.inr ⟨_, rfl⟩) rfl rfl ?_
  have hf10 := hf9.cr (a := 47) 4 52 (by decide)
  exact g_return dX3_init_43 rfl ⟨rfl, rfl⟩
theorem FR.last (h : FR 48 ti tr) : FR 53 ti ((47, 4, 52) :: ((47, 3, 51) :: ((47, 2, 50) :: ((47, 1, 49) :: ((47, 0, 48) :: tr))))) := (((((h.ups (m := 53) (by decide)).cr (a := 47) 0 48 (by decide)).cr (a := 47) 1 49 (by decide)).cr (a := 47) 2 50 (by decide)).cr (a := 47) 3 51 (by decide)).cr (a := 47) 4 52 (by decide)
set_option maxRecDepth 100000 in
set_option maxHeartbeats 4000000 in
theorem cn_sea (hf0 : FR 1 ti tr) : MC E l 4 mX9_init [.ref 0] 1 (H0 ti tr) 52 521 (fun r h' => r = none ∧ h' = H0 (tiP 32 8 (tiP 17 8 (tiP 3 8 ti))) ((0, 4, 47) :: ((47, 4, 52) :: ((47, 3, 51) :: ((47, 2, 50) :: ((47, 1, 49) :: ((47, 0, 48) :: ((0, 3, 31) :: ((31, 1, 46) :: ((31, 0, 32) :: (trP 32 8 ((32, 1, 34) :: (34, 2, 37) :: (34, 1, 36) :: (34, 0, 35) :: (32, 0, 33) :: ((0, 2, 17) :: (trP 17 8 ((17, 1, 19) :: (19, 2, 22) :: (19, 1, 21) :: (19, 0, 20) :: (17, 0, 18) :: ((0, 1, 3) :: (trP 3 8 ((3, 1, 5) :: (5, 2, 8) :: (5, 1, 7) :: (5, 0, 6) :: (3, 0, 4) :: ((0, 0, 1) :: ((1, 0, 2) :: tr)))))))))))))))))))) := by
  refine MC.of [some (.ref 0)] (by decide) rfl (Nat.le_of_ble_eq_true rfl) ?_
  refine g_aload_n dX9_init_0 rfl ?_
  refine g_objInit dX9_init_1 l_X9_3 (by decide) (by decide) ?_
  refine g_aload_n dX9_init_4 rfl ?_
  refine n_new (w := 2) (mr := 51) (sr := 519) hf0 dX9_init_5 rfl n_X9_9 tyX4_ok rfl (by decide) rfl dv_2 (by decide) ?_
  have hf1 := hf0.ups (m := 2) (by decide)
  refine g_dup dX9_init_8 rfl ?_
  refine g_callIN0 (M' := mX4_init) (d' := 1) (mc' := 1) (ms' := 41) (mr := 50) (sr := 478) dX9_init_9 l_X9_11 s_mX4_init rfl rfl f_mX4_init (Nat.le_of_ble_eq_true rfl) (by decide) (cn_page hf1) ?_
  rintro _ _ ⟨rfl, rfl⟩
  have hf2 := hf1.page
  refine n_putr dX9_init_12 k_X9_12 rfl (by decide) rfl (Or.inl ⟨_, rfl⟩) rfl rfl ?_
  have hf3 := hf2.cr (a := 0) 0 1 (by decide)
  refine g_aload_n dX9_init_15 rfl ?_
  refine n_new (w := 10) (mr := 49) (sr := 468) hf3 dX9_init_16 rfl n_X9_16 tyX0_ok rfl (by decide) rfl dv_0 (by decide) ?_
  have hf4 := hf3.ups (m := 4) (by decide)
  refine g_dup dX9_init_19 rfl ?_
  refine g_callI0 (M' := mX0_init) (d' := 2) (mc' := 13) (ms' := 132) (mr := 36) (sr := 336) dX9_init_20 l_X9_18 s_mX0_init rfl rfl f_mX0_init (Nat.le_of_ble_eq_true rfl) (by decide) (cn_crowd (c := 3) isC3 hf4) ?_
  rintro _ _ ⟨rfl, rfl⟩
  have hf5 := hf4.crowd (c := 3)
  refine n_putr dX9_init_23 k_X9_19 rfl (by decide) rfl (Or.inl ⟨_, rfl⟩) rfl rfl ?_
  have hf6 := hf5.cr (a := 0) 1 3 (by decide)
  refine g_aload_n dX9_init_26 rfl ?_
  refine n_new (w := 10) (mr := 35) (sr := 326) hf6 dX9_init_27 rfl n_X9_16 tyX0_ok rfl (by decide) rfl dv_0 (by decide) ?_
  have hf7 := hf6.ups (m := 18) (by decide)
  refine g_dup dX9_init_30 rfl ?_
  refine g_callI0 (M' := mX0_init) (d' := 2) (mc' := 13) (ms' := 132) (mr := 22) (sr := 194) dX9_init_31 l_X9_18 s_mX0_init rfl rfl f_mX0_init (Nat.le_of_ble_eq_true rfl) (by decide) (cn_crowd (c := 17) isC17 hf7) ?_
  rintro _ _ ⟨rfl, rfl⟩
  have hf8 := hf7.crowd (c := 17)
  refine n_putr dX9_init_34 k_X9_23 rfl (by decide) rfl (Or.inl ⟨_, rfl⟩) rfl rfl ?_
  have hf9 := hf8.cr (a := 0) 2 17 (by decide)
  refine g_aload_n dX9_init_37 rfl ?_
  refine n_new (w := 2) (mr := 21) (sr := 192) hf9 dX9_init_38 rfl n_X9_26 tyX7_ok rfl (by decide) rfl dv_5 (by decide) ?_
  have hf10 := hf9.ups (m := 32) (by decide)
  refine g_dup dX9_init_41 rfl ?_
  refine g_callIN0 (M' := mX7_init) (d' := 3) (mc' := 15) (ms' := 150) (mr := 6) (sr := 42) dX9_init_42 l_X9_28 s_mX7_init rfl rfl f_mX7_init (Nat.le_of_ble_eq_true rfl) (by decide) (cn_trial hf10) ?_
  rintro _ _ ⟨rfl, rfl⟩
  have hf11 := hf10.trial
  refine n_putr dX9_init_45 k_X9_29 rfl (by decide) rfl (Or.inl ⟨_, rfl⟩) rfl rfl ?_
  have hf12 := hf11.cr (a := 0) 3 31 (by decide)
  refine g_aload_n dX9_init_48 rfl ?_
  refine n_new (w := 6) (mr := 5) (sr := 36) hf12 dX9_init_49 rfl n_X9_33 tyX3_ok rfl (by decide) rfl dv_1 (by decide) ?_
  have hf13 := hf12.ups (m := 48) (by decide)
  refine g_dup dX9_init_52 rfl ?_
  refine g_callIN0 (M' := mX3_init) (d' := 1) (mc' := 5) (ms' := 36) (mr := 0) (sr := 0) dX9_init_53 l_X9_35 s_mX3_init rfl rfl f_mX3_init (Nat.le_of_ble_eq_true rfl) (by decide) (cn_last hf13) ?_
  rintro _ _ ⟨rfl, rfl⟩
  have hf14 := hf13.last
  refine n_putr dX9_init_56 k_X9_36 rfl (by decide) rfl (Or.inl ⟨_, rfl⟩) rfl rfl ?_
  have hf15 := hf14.cr (a := 0) 4 47 (by decide)
  exact g_return dX9_init_59 rfl ⟨rfl, rfl⟩
set_option maxRecDepth 100000 in
set_option maxHeartbeats 4000000 in
theorem cn_model (hf0 : FR 54 ti tr) : MC E l 1 mX10_init [.ref 53] 54 (H0 ti tr) 29 257 (fun r h' => r = none ∧ h' = H0 ti ((53, 56, 82) :: ((53, 55, 81) :: ((53, 54, 80) :: ((53, 53, 79) :: ((53, 52, 78) :: ((53, 51, 77) :: ((53, 50, 76) :: ((53, 49, 75) :: ((53, 48, 74) :: ((53, 47, 73) :: ((53, 33, 72) :: ((53, 32, 71) :: ((53, 31, 70) :: ((53, 30, 69) :: ((53, 28, 68) :: ((53, 27, 67) :: ((53, 23, 66) :: ((53, 21, 65) :: ((53, 20, 64) :: ((53, 19, 63) :: ((53, 11, 62) :: ((53, 10, 61) :: ((53, 9, 60) :: ((53, 8, 59) :: ((53, 7, 58) :: ((53, 6, 57) :: ((53, 5, 56) :: ((53, 4, 55) :: ((53, 3, 54) :: tr)))))))))))))))))))))))))))))) := by
  refine MC.of [some (.ref 53)] (by decide) rfl (Nat.le_of_ble_eq_true rfl) ?_
  refine g_aload_n dX10_init_0 rfl ?_
  refine g_objInit dX10_init_1 l_X10_1 (by decide) (by decide) ?_
  refine g_aload_n dX10_init_4 rfl ?_
  refine g_bipush (v := 8) dX10_init_5 (by decide) ?_
  refine n_newI (n := 8) (mr := 28) (sr := 249) hf0 dX10_init_7 a_int (by decide) (by decide) rfl (by decide) ?_
  have hf1 := hf0.ups (m := 55) (by decide)
  refine n_putr dX10_init_9 k_X10_7 rfl (by decide) rfl (Or.inr ⟨_, rfl⟩) rfl rfl ?_
  have hf2 := hf1.cr (a := 53) 3 54 (by decide)
  refine g_aload_n dX10_init_12 rfl ?_
  refine g_bipush (v := 8) dX10_init_13 (by decide) ?_
  refine n_newI (n := 8) (mr := 27) (sr := 241) hf2 dX10_init_15 a_int (by decide) (by decide) rfl (by decide) ?_
  have hf3 := hf2.ups (m := 56) (by decide)
  refine n_putr dX10_init_17 k_X10_13 rfl (by decide) rfl (Or.inr ⟨_, rfl⟩) rfl rfl ?_
  have hf4 := hf3.cr (a := 53) 4 55 (by decide)
  refine g_aload_n dX10_init_20 rfl ?_
  refine g_bipush (v := 8) dX10_init_21 (by decide) ?_
  refine n_newI (n := 8) (mr := 26) (sr := 233) hf4 dX10_init_23 a_int (by decide) (by decide) rfl (by decide) ?_
  have hf5 := hf4.ups (m := 57) (by decide)
  refine n_putr dX10_init_25 k_X10_16 rfl (by decide) rfl (Or.inr ⟨_, rfl⟩) rfl rfl ?_
  have hf6 := hf5.cr (a := 53) 5 56 (by decide)
  refine g_aload_n dX10_init_28 rfl ?_
  refine g_bipush (v := 8) dX10_init_29 (by decide) ?_
  refine n_newI (n := 8) (mr := 25) (sr := 225) hf6 dX10_init_31 a_int (by decide) (by decide) rfl (by decide) ?_
  have hf7 := hf6.ups (m := 58) (by decide)
  refine n_putr dX10_init_33 k_X10_19 rfl (by decide) rfl (Or.inr ⟨_, rfl⟩) rfl rfl ?_
  have hf8 := hf7.cr (a := 53) 6 57 (by decide)
  refine g_aload_n dX10_init_36 rfl ?_
  refine g_bipush (v := 8) dX10_init_37 (by decide) ?_
  refine n_newI (n := 8) (mr := 24) (sr := 217) hf8 dX10_init_39 a_int (by decide) (by decide) rfl (by decide) ?_
  have hf9 := hf8.ups (m := 59) (by decide)
  refine n_putr dX10_init_41 k_X10_22 rfl (by decide) rfl (Or.inr ⟨_, rfl⟩) rfl rfl ?_
  have hf10 := hf9.cr (a := 53) 7 58 (by decide)
  refine g_aload_n dX10_init_44 rfl ?_
  refine g_bipush (v := 8) dX10_init_45 (by decide) ?_
  refine n_newI (n := 8) (mr := 23) (sr := 209) hf10 dX10_init_47 a_int (by decide) (by decide) rfl (by decide) ?_
  have hf11 := hf10.ups (m := 60) (by decide)
  refine n_putr dX10_init_49 k_X10_25 rfl (by decide) rfl (Or.inr ⟨_, rfl⟩) rfl rfl ?_
  have hf12 := hf11.cr (a := 53) 8 59 (by decide)
  refine g_aload_n dX10_init_52 rfl ?_
  refine g_bipush (v := 8) dX10_init_53 (by decide) ?_
  refine n_newI (n := 8) (mr := 22) (sr := 201) hf12 dX10_init_55 a_int (by decide) (by decide) rfl (by decide) ?_
  have hf13 := hf12.ups (m := 61) (by decide)
  refine n_putr dX10_init_57 k_X10_28 rfl (by decide) rfl (Or.inr ⟨_, rfl⟩) rfl rfl ?_
  have hf14 := hf13.cr (a := 53) 9 60 (by decide)
  refine g_aload_n dX10_init_60 rfl ?_
  refine g_bipush (v := 8) dX10_init_61 (by decide) ?_
  refine n_newI (n := 8) (mr := 21) (sr := 193) hf14 dX10_init_63 a_int (by decide) (by decide) rfl (by decide) ?_
  have hf15 := hf14.ups (m := 62) (by decide)
  refine n_putr dX10_init_65 k_X10_31 rfl (by decide) rfl (Or.inr ⟨_, rfl⟩) rfl rfl ?_
  have hf16 := hf15.cr (a := 53) 10 61 (by decide)
  refine g_aload_n dX10_init_68 rfl ?_
  refine g_bipush (v := 8) dX10_init_69 (by decide) ?_
  refine n_newI (n := 8) (mr := 20) (sr := 185) hf16 dX10_init_71 a_int (by decide) (by decide) rfl (by decide) ?_
  have hf17 := hf16.ups (m := 63) (by decide)
  refine n_putr dX10_init_73 k_X10_34 rfl (by decide) rfl (Or.inr ⟨_, rfl⟩) rfl rfl ?_
  have hf18 := hf17.cr (a := 53) 11 62 (by decide)
  refine g_aload_n dX10_init_76 rfl ?_
  refine g_bipush (v := 8) dX10_init_77 (by decide) ?_
  refine n_newI (n := 8) (mr := 19) (sr := 177) hf18 dX10_init_79 a_int (by decide) (by decide) rfl (by decide) ?_
  have hf19 := hf18.ups (m := 64) (by decide)
  refine n_putr dX10_init_81 k_X10_37 rfl (by decide) rfl (Or.inr ⟨_, rfl⟩) rfl rfl ?_
  have hf20 := hf19.cr (a := 53) 19 63 (by decide)
  refine g_aload_n dX10_init_84 rfl ?_
  refine g_bipush (v := 8) dX10_init_85 (by decide) ?_
  refine n_newI (n := 8) (mr := 18) (sr := 169) hf20 dX10_init_87 a_int (by decide) (by decide) rfl (by decide) ?_
  have hf21 := hf20.ups (m := 65) (by decide)
  refine n_putr dX10_init_89 k_X10_40 rfl (by decide) rfl (Or.inr ⟨_, rfl⟩) rfl rfl ?_
  have hf22 := hf21.cr (a := 53) 20 64 (by decide)
  refine g_aload_n dX10_init_92 rfl ?_
  refine g_bipush (v := 8) dX10_init_93 (by decide) ?_
  refine n_newI (n := 8) (mr := 17) (sr := 161) hf22 dX10_init_95 a_int (by decide) (by decide) rfl (by decide) ?_
  have hf23 := hf22.ups (m := 66) (by decide)
  refine n_putr dX10_init_97 k_X10_43 rfl (by decide) rfl (Or.inr ⟨_, rfl⟩) rfl rfl ?_
  have hf24 := hf23.cr (a := 53) 21 65 (by decide)
  refine g_aload_n dX10_init_100 rfl ?_
  refine g_bipush (v := 41) dX10_init_101 (by decide) ?_
  refine n_newB (n := 41) (mr := 16) (sr := 120) hf24 dX10_init_103 a_byte (by decide) (by decide) rfl (by decide) ?_
  have hf25 := hf24.ups (m := 67) (by decide)
  refine n_putr dX10_init_105 k_X10_46 rfl (by decide) rfl (Or.inr ⟨_, rfl⟩) rfl rfl ?_
  have hf26 := hf25.cr (a := 53) 23 66 (by decide)
  refine g_aload_n dX10_init_108 rfl ?_
  refine g_iconst (v := 4) dX10_init_109 (by decide) ?_
  refine n_newI (n := 4) (mr := 15) (sr := 116) hf26 dX10_init_110 a_int (by decide) (by decide) rfl (by decide) ?_
  have hf27 := hf26.ups (m := 68) (by decide)
  refine n_putr dX10_init_112 k_X10_50 rfl (by decide) rfl (Or.inr ⟨_, rfl⟩) rfl rfl ?_
  have hf28 := hf27.cr (a := 53) 27 67 (by decide)
  refine g_aload_n dX10_init_115 rfl ?_
  refine g_iconst (v := 4) dX10_init_116 (by decide) ?_
  refine n_newI (n := 4) (mr := 14) (sr := 112) hf28 dX10_init_117 a_int (by decide) (by decide) rfl (by decide) ?_
  have hf29 := hf28.ups (m := 69) (by decide)
  refine n_putr dX10_init_119 k_X10_53 rfl (by decide) rfl (Or.inr ⟨_, rfl⟩) rfl rfl ?_
  have hf30 := hf29.cr (a := 53) 28 68 (by decide)
  refine g_aload_n dX10_init_122 rfl ?_
  refine g_bipush (v := 8) dX10_init_123 (by decide) ?_
  refine n_newI (n := 8) (mr := 13) (sr := 104) hf30 dX10_init_125 a_int (by decide) (by decide) rfl (by decide) ?_
  have hf31 := hf30.ups (m := 70) (by decide)
  refine n_putr dX10_init_127 k_X10_56 rfl (by decide) rfl (Or.inr ⟨_, rfl⟩) rfl rfl ?_
  have hf32 := hf31.cr (a := 53) 30 69 (by decide)
  refine g_aload_n dX10_init_130 rfl ?_
  refine g_bipush (v := 8) dX10_init_131 (by decide) ?_
  refine n_newI (n := 8) (mr := 12) (sr := 96) hf32 dX10_init_133 a_int (by decide) (by decide) rfl (by decide) ?_
  have hf33 := hf32.ups (m := 71) (by decide)
  refine n_putr dX10_init_135 k_X10_59 rfl (by decide) rfl (Or.inr ⟨_, rfl⟩) rfl rfl ?_
  have hf34 := hf33.cr (a := 53) 31 70 (by decide)
  refine g_aload_n dX10_init_138 rfl ?_
  refine g_bipush (v := 8) dX10_init_139 (by decide) ?_
  refine n_newI (n := 8) (mr := 11) (sr := 88) hf34 dX10_init_141 a_int (by decide) (by decide) rfl (by decide) ?_
  have hf35 := hf34.ups (m := 72) (by decide)
  refine n_putr dX10_init_143 k_X10_62 rfl (by decide) rfl (Or.inr ⟨_, rfl⟩) rfl rfl ?_
  have hf36 := hf35.cr (a := 53) 32 71 (by decide)
  refine g_aload_n dX10_init_146 rfl ?_
  refine g_bipush (v := 8) dX10_init_147 (by decide) ?_
  refine n_newI (n := 8) (mr := 10) (sr := 80) hf36 dX10_init_149 a_int (by decide) (by decide) rfl (by decide) ?_
  have hf37 := hf36.ups (m := 73) (by decide)
  refine n_putr dX10_init_151 k_X10_65 rfl (by decide) rfl (Or.inr ⟨_, rfl⟩) rfl rfl ?_
  have hf38 := hf37.cr (a := 53) 33 72 (by decide)
  refine g_aload_n dX10_init_154 rfl ?_
  refine g_bipush (v := 8) dX10_init_155 (by decide) ?_
  refine n_newI (n := 8) (mr := 9) (sr := 72) hf38 dX10_init_157 a_int (by decide) (by decide) rfl (by decide) ?_
  have hf39 := hf38.ups (m := 74) (by decide)
  refine n_putr dX10_init_159 k_X10_68 rfl (by decide) rfl (Or.inr ⟨_, rfl⟩) rfl rfl ?_
  have hf40 := hf39.cr (a := 53) 47 73 (by decide)
  refine g_aload_n dX10_init_162 rfl ?_
  refine g_bipush (v := 8) dX10_init_163 (by decide) ?_
  refine n_newI (n := 8) (mr := 8) (sr := 64) hf40 dX10_init_165 a_int (by decide) (by decide) rfl (by decide) ?_
  have hf41 := hf40.ups (m := 75) (by decide)
  refine n_putr dX10_init_167 k_X10_71 rfl (by decide) rfl (Or.inr ⟨_, rfl⟩) rfl rfl ?_
  have hf42 := hf41.cr (a := 53) 48 74 (by decide)
  refine g_aload_n dX10_init_170 rfl ?_
  refine g_bipush (v := 8) dX10_init_171 (by decide) ?_
  refine n_newI (n := 8) (mr := 7) (sr := 56) hf42 dX10_init_173 a_int (by decide) (by decide) rfl (by decide) ?_
  have hf43 := hf42.ups (m := 76) (by decide)
  refine n_putr dX10_init_175 k_X10_74 rfl (by decide) rfl (Or.inr ⟨_, rfl⟩) rfl rfl ?_
  have hf44 := hf43.cr (a := 53) 49 75 (by decide)
  refine g_aload_n dX10_init_178 rfl ?_
  refine g_bipush (v := 8) dX10_init_179 (by decide) ?_
  refine n_newI (n := 8) (mr := 6) (sr := 48) hf44 dX10_init_181 a_int (by decide) (by decide) rfl (by decide) ?_
  have hf45 := hf44.ups (m := 77) (by decide)
  refine n_putr dX10_init_183 k_X10_77 rfl (by decide) rfl (Or.inr ⟨_, rfl⟩) rfl rfl ?_
  have hf46 := hf45.cr (a := 53) 50 76 (by decide)
  refine g_aload_n dX10_init_186 rfl ?_
  refine g_bipush (v := 8) dX10_init_187 (by decide) ?_
  refine n_newI (n := 8) (mr := 5) (sr := 40) hf46 dX10_init_189 a_int (by decide) (by decide) rfl (by decide) ?_
  have hf47 := hf46.ups (m := 78) (by decide)
  refine n_putr dX10_init_191 k_X10_80 rfl (by decide) rfl (Or.inr ⟨_, rfl⟩) rfl rfl ?_
  have hf48 := hf47.cr (a := 53) 51 77 (by decide)
  refine g_aload_n dX10_init_194 rfl ?_
  refine g_bipush (v := 8) dX10_init_195 (by decide) ?_
  refine n_newI (n := 8) (mr := 4) (sr := 32) hf48 dX10_init_197 a_int (by decide) (by decide) rfl (by decide) ?_
  have hf49 := hf48.ups (m := 79) (by decide)
  refine n_putr dX10_init_199 k_X10_83 rfl (by decide) rfl (Or.inr ⟨_, rfl⟩) rfl rfl ?_
  have hf50 := hf49.cr (a := 53) 52 78 (by decide)
  refine g_aload_n dX10_init_202 rfl ?_
  refine g_bipush (v := 8) dX10_init_203 (by decide) ?_
  refine n_newI (n := 8) (mr := 3) (sr := 24) hf50 dX10_init_205 a_int (by decide) (by decide) rfl (by decide) ?_
  have hf51 := hf50.ups (m := 80) (by decide)
  refine n_putr dX10_init_207 k_X10_86 rfl (by decide) rfl (Or.inr ⟨_, rfl⟩) rfl rfl ?_
  have hf52 := hf51.cr (a := 53) 53 79 (by decide)
  refine g_aload_n dX10_init_210 rfl ?_
  refine g_bipush (v := 8) dX10_init_211 (by decide) ?_
  refine n_newI (n := 8) (mr := 2) (sr := 16) hf52 dX10_init_213 a_int (by decide) (by decide) rfl (by decide) ?_
  have hf53 := hf52.ups (m := 81) (by decide)
  refine n_putr dX10_init_215 k_X10_89 rfl (by decide) rfl (Or.inr ⟨_, rfl⟩) rfl rfl ?_
  have hf54 := hf53.cr (a := 53) 54 80 (by decide)
  refine g_aload_n dX10_init_218 rfl ?_
  refine g_bipush (v := 8) dX10_init_219 (by decide) ?_
  refine n_newI (n := 8) (mr := 1) (sr := 8) hf54 dX10_init_221 a_int (by decide) (by decide) rfl (by decide) ?_
  have hf55 := hf54.ups (m := 82) (by decide)
  refine n_putr dX10_init_223 k_X10_92 rfl (by decide) rfl (Or.inr ⟨_, rfl⟩) rfl rfl ?_
  have hf56 := hf55.cr (a := 53) 55 81 (by decide)
  refine g_aload_n dX10_init_226 rfl ?_
  refine g_bipush (v := 8) dX10_init_227 (by decide) ?_
  refine n_newI (n := 8) (mr := 0) (sr := 0) hf56 dX10_init_229 a_int (by decide) (by decide) rfl (by decide) ?_
  have hf57 := hf56.ups (m := 83) (by decide)
  refine n_putr dX10_init_231 k_X10_95 rfl (by decide) rfl (Or.inr ⟨_, rfl⟩) rfl rfl ?_
  have hf58 := hf57.cr (a := 53) 56 82 (by decide)
  exact g_return dX10_init_234 rfl ⟨rfl, rfl⟩
end CN
def TIs : KTI := (tiP 32 8 (tiP 17 8 (tiP 3 8 [])))
def TRs : KTR := ((0, 4, 47) :: ((47, 4, 52) :: ((47, 3, 51) :: ((47, 2, 50) :: ((47, 1, 49) :: ((47, 0, 48) :: ((0, 3, 31) :: ((31, 1, 46) :: ((31, 0, 32) :: (trP 32 8 ((32, 1, 34) :: (34, 2, 37) :: (34, 1, 36) :: (34, 0, 35) :: (32, 0, 33) :: ((0, 2, 17) :: (trP 17 8 ((17, 1, 19) :: (19, 2, 22) :: (19, 1, 21) :: (19, 0, 20) :: (17, 0, 18) :: ((0, 1, 3) :: (trP 3 8 ((3, 1, 5) :: (5, 2, 8) :: (5, 1, 7) :: (5, 0, 6) :: (3, 0, 4) :: ((0, 0, 1) :: ((1, 0, 2) :: [])))))))))))))))))))
def TRm : KTR := ((53, 56, 82) :: ((53, 55, 81) :: ((53, 54, 80) :: ((53, 53, 79) :: ((53, 52, 78) :: ((53, 51, 77) :: ((53, 50, 76) :: ((53, 49, 75) :: ((53, 48, 74) :: ((53, 47, 73) :: ((53, 33, 72) :: ((53, 32, 71) :: ((53, 31, 70) :: ((53, 30, 69) :: ((53, 28, 68) :: ((53, 27, 67) :: ((53, 23, 66) :: ((53, 21, 65) :: ((53, 20, 64) :: ((53, 19, 63) :: ((53, 11, 62) :: ((53, 10, 61) :: ((53, 9, 60) :: ((53, 8, 59) :: ((53, 7, 58) :: ((53, 6, 57) :: ((53, 5, 56) :: ((53, 4, 55) :: ((53, 3, 54) :: TRs)))))))))))))))))))))))))))))
theorem frs : FR 53 TIs TRs := ⟨by decide +kernel, by decide +kernel⟩
theorem mkR_lt : ∀ {t : KTR} {a k : Nat}, (∀ q ∈ t, q.2.1 < 58) → 58 ≤ k → mkR t a k = none
  | [], _, _, _, _ => rfl
  | q :: t, a, k, h, hk => by
    have h1 := h q List.mem_cons_self
    rw [mkR]
    unfold upR
    rw [if_neg (by omega)]
    exact mkR_lt (fun z hz => h z (List.mem_cons_of_mem _ hz)) hk
theorem mkR_RT : mkR TRm = RT := by
  have k1 : ∀ a, a < 83 → ∀ k, k < 58 → mkR TRm a k = RT a k := by decide +kernel
  have k2 : ∀ q ∈ TRm, q.1 < 83 := by decide +kernel
  have k3 : ∀ q ∈ TRm, q.2.1 < 58 := by decide +kernel
  have k4 : ∀ a, a < 83 → (rtL.getD a []).length ≤ 58 := by decide +kernel
  have k5 : rtL.length = 83 := by decide +kernel
  funext a k
  by_cases ha : a < 83
  · by_cases hk : k < 58
    · exact k1 a ha k hk
    · rw [mkR_lt k3 (by omega)]
      unfold RT
      rw [List.getD_eq_getElem?_getD (l := rtL.getD a []), List.getElem?_eq_none (by have := k4 a ha; omega)]
      rfl
  · rw [mkR_ge k2 (by omega)]
    unfold RT
    rw [List.getD_eq_getElem?_getD (l := rtL), List.getElem?_eq_none (by omega)]
    rfl
theorem H0_end : H0 TIs TRm = (mkI TIs, (fun _ _ => 0), RT) := by
  unfold H0
  rw [mkR_RT]
theorem inv_0 : INV 0 (mkI TIs) 0 0 := by
  have z : ∀ a k, a < 9 ∨ 45 < a ∨ k = 2 → mkI TIs a k = 0 := by
    have key : ∀ t : KTI, (∀ q ∈ t, 9 ≤ q.1 ∧ q.1 ≤ 45 ∧ q.2.1 ≠ 2) → ∀ a k, a < 9 ∨ 45 < a ∨ k = 2 → mkI t a k = 0 := by
      intro t
      induction t with
      | nil => intro _ a k _; rfl
      | cons q t ih =>
        intro h a k hk
        have h1 := h q List.mem_cons_self
        rw [mkI, upI_a' (by omega)]
        exact ih (fun y hy => h y (List.mem_cons_of_mem _ hy)) a k hk
    exact key TIs (by decide +kernel)
  have z22 : ∀ k, k < 8 → mkI TIs 22 k = 0 := by decide +kernel
  have b3 : PB (mkI TIs) 3 := by
    have : ∀ j, j < 8 → mkI TIs (3 + 6 + j) 0 = nI j ∧ mkI TIs (3 + 6 + j) 1 = bitI j := by decide +kernel
    exact this
  have b32 : PB (mkI TIs) 32 := by
    have : ∀ j, j < 8 → mkI TIs (32 + 6 + j) 0 = nI j ∧ mkI TIs (32 + 6 + j) 1 = bitI j := by decide +kernel
    exact this
  refine ⟨⟨⟨by decide, by decide, z 53 2 (by omega), z 53 1 (by omega)⟩, Or.inl ⟨rfl, rfl⟩, ⟨z 3 3 (by omega), z 3 2 (by omega)⟩, ?_, ⟨fun i h => absurd h (by omega), fun i h => absurd h (by omega), fun i j h => absurd h (by omega), fun i h => absurd h (by omega)⟩, ?_, ⟨0, by decide, z 53 13 (by omega)⟩, 0, by decide, z 5 3 (by omega), z 53 18 (by omega), fun k h => absurd h (by omega), by decide, fun k h => absurd h (by omega)⟩, ⟨fun p _ => ⟨0, by decide, z p 2 (by omega)⟩, b3, b32, fun k hk => ?_, fun k hk => ?_⟩, ⟨0, by decide, z 1 1 (by omega), z 53 22 (by omega), fun k h => absurd h (by omega)⟩, ⟨?_, 0, 0, by decide, by decide, z 53 0 (by omega), z 53 39 (by omega)⟩, Or.inl ⟨z 0 5 (by omega), Or.inl (z 53 38 (by omega))⟩⟩
  · funext s i
    have w1 : vw (mkI TIs) 3 0 s i = 0 := if_neg (by omega)
    have w2 : vm (mkI TIs) 0 0 s i = 0 := if_neg (by omega)
    rw [w1, w2]
  · rw [z 3 4 (by omega), z 3 5 (by omega), z 3 6 (by omega), z 3 7 (by omega), z 3 8 (by omega), z 3 9 (by omega), z 53 12 (by omega), z 53 13 (by omega), z 53 14 (by omega), z 53 15 (by omega), z 53 16 (by omega), z 53 17 (by omega)]
    exact ⟨rfl, rfl, rfl, rfl, rfl, rfl⟩
  · rw [z 8 k (by omega)]
    decide
  · rw [z22 k hk]
    decide
  · rw [z 0 6 (by omega), z 53 0 (by omega)]
