/-! ===== the abstract heap and the derived logic ===== -/
/-- words that hold wherever the tables are warmer -/
def xtbl : List Cond := lw_tbl.filter goodWord
theorem xt_in {w : Cond} (i : Nat) (h : tables_1[i]? = some w) (hg : goodWord w = true) : w ∈ xtbl := List.mem_filter.mpr ⟨List.mem_append_right _ (List.mem_of_getElem? h), hg⟩
theorem xt_sel {w : Cond} (i : Nat) (h : (k2_sels lw_privs)[i]? = some w) (hg : goodWord w = true) : w ∈ xtbl := List.mem_filter.mpr ⟨List.mem_append_left _ (List.mem_of_getElem? h), hg⟩
theorem xt_list {ws : List Cond} (ps : List Nat) (hp : ws = ps.filterMap (fun i => tables_1[i]?)) (hg : ws.all goodWord = true) : ∀ w ∈ ws, w ∈ xtbl := by
  intro w hw
  have h1 := List.all_eq_true.mp hg w hw
  rw [hp] at hw
  obtain ⟨i, -, hi⟩ := List.mem_filterMap.mp hw
  exact xt_in i hi h1
/-- ints, longs, references, by cell and place -/
abbrev XH : Type := (Nat → Nat → Int32) × (Nat → Nat → Int64) × (Nat → Nat → Option Nat)
/-- base; the kinds' addresses; ALL's; the classes; the array classes; the script -/
abbrev XE : Type := Nat × (Nat → Nat) × Nat × va_G × (ClassId × ClassId × ClassId × ClassId) × (Nat × Nat × (Nat → Int32))
abbrev XM : Type := MethodName × ByteArray × Nat × Option FieldType
abbrev XL : Type := List (Option Value)
def xa (E : XE) (a : Nat) : Nat := if a < 1000 then E.1 + a else if a = 2000 then E.2.2.1 else if a = 3000 then E.2.2.2.2.2.1 else E.2.1 (a - 1000)
def xv (E : XE) (v : Value) : Value := match v with
  | .ref a => .ref (xa E a)
  | .int x => .int x
  | .long x => .long x
  | .float x => .float x
  | .double x => .double x
  | .null => .null
  | .retAddr x => .retAddr x
theorem xa_lt {E : XE} {a : Nat} (h : a < 1000) : xa E a = E.1 + a := if_pos h
theorem xa_k {E : XE} {j : Nat} (h : j < 5) : xa E (1000 + j) = E.2.1 j := by
  unfold xa
  rw [if_neg (by omega), if_neg (by omega), if_neg (by omega), Nat.add_sub_cancel_left]
theorem xa_t {E : XE} : xa E 2000 = E.2.2.1 := rfl
theorem xa_s {E : XE} : xa E 3000 = E.2.2.2.2.2.1 := rfl
theorem xv_cat (E : XE) (v : Value) : (xv E v).category = v.category := by cases v <;> rfl
theorem xv_cats (E : XE) (st : List Value) : ((st.map (xv E)).map fun v => v.category).sum = (st.map fun v => v.category).sum := by
  rw [List.map_map]
  congr 1
  exact List.map_congr_left (fun v _ => xv_cat E v)
def xnf (ci : Nat) : Nat := [10, 6, 2, 12, 4, 2, 7, 58].getD ci 0
def xsh : List (Nat × Nat) := [(0, 6), (0, 2), (1, 41), (0, 0), (4, 8), (0, 4), (1, 8), (1, 8), (2, 8), (0, 3), (0, 3), (0, 3), (0, 3), (0, 3), (0, 3), (0, 3), (0, 3), (0, 0), (4, 8), (0, 4), (1, 8), (1, 8), (2, 8), (0, 3), (0, 3), (0, 3), (0, 3), (0, 3), (0, 3), (0, 3), (0, 3), (0, 5), (0, 0), (4, 8), (0, 4), (1, 8), (1, 8), (2, 8), (0, 3), (0, 3), (0, 3), (0, 3), (0, 3), (0, 3), (0, 3), (0, 3), (1, 8), (0, 1), (1, 8), (1, 8), (1, 8), (1, 8), (1, 4), (0, 7), (1, 8), (1, 8), (1, 8), (1, 8), (1, 8), (1, 8), (1, 8), (1, 8), (1, 8), (1, 8), (1, 8), (1, 8), (3, 41), (1, 4), (1, 4), (1, 8), (1, 8), (1, 8), (1, 8), (1, 8), (1, 8), (1, 8), (1, 8), (1, 8), (1, 8), (1, 8), (1, 8), (1, 8), (1, 8)]
def xftL : List (List Nat) := [[2, 2, 0, 0, 0, 0, 0, 0, 0, 0], [2, 2, 2, 2, 2, 0], [2, 0], [0, 0, 3, 0, 0, 0, 0, 0, 0, 0, 0, 0], [2, 2, 2, 0], [2, 2], [2, 2, 2, 2, 2, 0, 0], [0, 0, 0, 2, 2, 2, 2, 2, 2, 2, 2, 2, 0, 0, 0, 0, 0, 0, 0, 2, 2, 2, 0, 2, 0, 0, 0, 2, 2, 0, 2, 2, 2, 2, 0, 0, 0, 1, 0, 0, 0, 0, 0, 0, 0, 0, 0, 2, 2, 2, 2, 2, 2, 2, 2, 2, 2, 1]]
def xft (ci k : Nat) : Nat := (xftL.getD ci []).getD k 0
def xk (x : Int32) : Option Nat := if x = 0 then some 0 else if x = 1 then some 1 else if x = 2 then some 2 else if x = 3 then some 3 else if x = 4 then some 4 else none
theorem xk_of {j : Nat} (h : j < 5) : xk (nI j) = some j := by
  match j, h with
  | 0, _ => rfl
  | 1, _ => rfl
  | 2, _ => rfl
  | 3, _ => rfl
  | 4, _ => rfl
def xfv (E : XE) (h : XH) (a k t : Nat) : Value := match t with
  | 0 => .int (h.1 a k)
  | 1 => .long (h.2.1 a k)
  | 2 => va_rf ((h.2.2 a k).map (xa E))
  | _ => va_re E.2.1 (xk (h.1 a k))
def xcell (E : XE) (h : XH) (a : Nat) : va_E := match xsh.getD a (9, 0) with
  | (0, ci) => .inr (ci, (List.range (xnf ci)).map (fun k => xfv E h a k (xft ci k)))
  | (1, n) => .inl (E.2.2.2.2.1.1, n, .inl (h.1 a))
  | (2, n) => .inl (E.2.2.2.2.1.2.1, n, .inl (h.1 a))
  | (3, n) => .inl (E.2.2.2.2.1.2.2.1, n, .inl (h.1 a))
  | (_, n) => .inl (E.2.2.2.2.1.2.2.2, n, .inr (.inr (.inr (.inr (fun k => (h.2.2 a k).map (xa E))))))
def xw (E : XE) (cnt : Nat) (h : XH) : va_W := (List.range cnt).map (fun a => (E.1 + a, xcell E h a))
theorem xw_at (E : XE) {cnt : Nat} (h : XH) {a : Nat} (ha : a < cnt) : (xw E cnt h)[a]? = some (E.1 + a, xcell E h a) := by
  unfold xw
  rw [List.getElem?_map, List.getElem?_range ha]
  rfl
theorem xw_len (E : XE) (cnt : Nat) (h : XH) : (xw E cnt h).length = cnt := by
  unfold xw
  rw [List.length_map, List.length_range]
def xA (E : XE) : Nat → Prop := fun q => E.1 ≤ q
theorem xw_D (E : XE) (cnt : Nat) (h : XH) : va_D (xA E) (xw E cnt h) := by
  have key : ∀ (k : Nat) (q : Nat × va_E), (xw E cnt h)[k]? = some q → q.1 = E.1 + k := by
    intro k q hk
    have hl := (List.getElem?_eq_some_iff.mp hk).1
    rw [xw_len] at hl
    rw [xw_at E h hl] at hk
    cases hk
    rfl
  refine ⟨fun i j p q hi hj hpq => ?_, fun k q hk => ?_⟩
  · have h1 := key i p hi
    have h2 := key j q hj
    omega
  · have h1 := key k q hk
    show E.1 ≤ q.1
    omega
theorem xw_set {E : XE} {cnt : Nat} {h h' : XH} {a : Nat} {e : va_E} (ha : a < cnt) (he : e = xcell E h' a) (ho : ∀ b, b ≠ a → xcell E h' b = xcell E h b) : (xw E cnt h).set a (E.1 + a, e) = xw E cnt h' := by
  apply List.ext_getElem?
  intro i
  by_cases hi : i = a
  · subst hi
    rw [List.getElem?_set_self (by rw [xw_len]; exact ha), xw_at E h' ha, he]
  · rw [List.getElem?_set_ne (Ne.symm hi)]
    by_cases hl : i < cnt
    · rw [xw_at E h hl, xw_at E h' hl, ho i hi]
    · rw [List.getElem?_eq_none (by rw [xw_len]; omega), List.getElem?_eq_none (by rw [xw_len]; omega)]
theorem xw_push {E : XE} {cnt : Nat} {h h' : XH} {e : va_E} (he : e = xcell E h' cnt) (ho : ∀ b, b < cnt → xcell E h' b = xcell E h b) : xw E cnt h ++ [(E.1 + cnt, e)] = xw E (cnt + 1) h' := by
  unfold xw
  rw [List.range_succ, List.map_append, List.map_singleton, he]
  congr 1
  exact List.map_congr_left (fun b hb => by rw [ho b (List.mem_range.mp hb)])
def upI (f : Nat → Nat → Int32) (a k : Nat) (v : Int32) : Nat → Nat → Int32 := fun b j => if b = a ∧ j = k then v else f b j
def upL (f : Nat → Nat → Int64) (a k : Nat) (v : Int64) : Nat → Nat → Int64 := fun b j => if b = a ∧ j = k then v else f b j
def upR (f : Nat → Nat → Option Nat) (a k : Nat) (v : Option Nat) : Nat → Nat → Option Nat := fun b j => if b = a ∧ j = k then v else f b j
theorem xc_off {E : XE} {h h' : XH} {b : Nat} (h1 : h'.1 b = h.1 b) (h2 : h'.2.1 b = h.2.1 b) (h3 : h'.2.2 b = h.2.2 b) : xcell E h' b = xcell E h b := by
  have e1 : ∀ k t, xfv E h' b k t = xfv E h b k t := by
    intro k t
    unfold xfv
    rw [h1, h2, h3]
  unfold xcell
  rw [h1, h3]
  simp only [e1]
theorem upI_off {f : Nat → Nat → Int32} {a k : Nat} {v : Int32} {b : Nat} (hb : b ≠ a) : upI f a k v b = f b := by
  funext j
  exact if_neg (fun q => hb q.1)
theorem upL_off {f : Nat → Nat → Int64} {a k : Nat} {v : Int64} {b : Nat} (hb : b ≠ a) : upL f a k v b = f b := by
  funext j
  exact if_neg (fun q => hb q.1)
theorem upR_off {f : Nat → Nat → Option Nat} {a k : Nat} {v : Option Nat} {b : Nat} (hb : b ≠ a) : upR f a k v b = f b := by
  funext j
  exact if_neg (fun q => hb q.1)
theorem upI_on {f : Nat → Nat → Int32} {a k : Nat} {v : Int32} : upI f a k v a = upd (f a) k v := by
  funext j
  unfold upI upd
  by_cases hj : j = k
  · rw [if_pos ⟨rfl, hj⟩, if_pos hj]
  · rw [if_neg (fun q => hj q.2), if_neg hj]
theorem upR_on {f : Nat → Nat → Option Nat} {a k : Nat} {v : Option Nat} : upR f a k v a = va_up (f a) k v := by
  funext j
  unfold upR va_up
  by_cases hj : j = k
  · rw [if_pos ⟨rfl, hj⟩, if_pos hj]
  · rw [if_neg (fun q => hj q.2), if_neg hj]
theorem xc_obj {E : XE} {h : XH} {a ci : Nat} (hs : xsh.getD a (9, 0) = (0, ci)) : xcell E h a = .inr (ci, (List.range (xnf ci)).map (fun k => xfv E h a k (xft ci k))) := by
  unfold xcell
  rw [hs]
  rfl
theorem xc_int {E : XE} {h : XH} {a n : Nat} (hs : xsh.getD a (9, 0) = (1, n)) : xcell E h a = .inl (E.2.2.2.2.1.1, n, .inl (h.1 a)) := by
  unfold xcell
  rw [hs]
  rfl
theorem xc_boo {E : XE} {h : XH} {a n : Nat} (hs : xsh.getD a (9, 0) = (2, n)) : xcell E h a = .inl (E.2.2.2.2.1.2.1, n, .inl (h.1 a)) := by
  unfold xcell
  rw [hs]
  rfl
theorem xc_byt {E : XE} {h : XH} {a n : Nat} (hs : xsh.getD a (9, 0) = (3, n)) : xcell E h a = .inl (E.2.2.2.2.1.2.2.1, n, .inl (h.1 a)) := by
  unfold xcell
  rw [hs]
  rfl
theorem xc_ref {E : XE} {h : XH} {a n : Nat} (hs : xsh.getD a (9, 0) = (4, n)) : xcell E h a = .inl (E.2.2.2.2.1.2.2.2, n, .inr (.inr (.inr (.inr (fun k => (h.2.2 a k).map (xa E)))))) := by
  unfold xcell
  rw [hs]
  rfl
theorem xfs_get {E : XE} {h : XH} {a ci k : Nat} (hk : k < xnf ci) : ((List.range (xnf ci)).map (fun k => xfv E h a k (xft ci k)))[k]? = some (xfv E h a k (xft ci k)) := by
  rw [List.getElem?_map, List.getElem?_range hk]
  rfl
theorem xfs_set {E : XE} {h h' : XH} {a ci k : Nat} {v : Value} (hv : v = xfv E h' a k (xft ci k)) (ho : ∀ j, j ≠ k → xfv E h' a j (xft ci j) = xfv E h a j (xft ci j)) : ((List.range (xnf ci)).map (fun k => xfv E h a k (xft ci k))).set k v = (List.range (xnf ci)).map (fun k => xfv E h' a k (xft ci k)) := by
  apply List.ext_getElem?
  intro i
  by_cases hl : i < xnf ci
  · by_cases hi : i = k
    · subst hi
      rw [List.getElem?_set_self (by rw [List.length_map, List.length_range]; exact hl), xfs_get hl, hv]
    · rw [List.getElem?_set_ne (Ne.symm hi), xfs_get hl, xfs_get hl, ho i hi]
  · rw [List.getElem?_eq_none (by rw [List.length_set, List.length_map, List.length_range]; omega), List.getElem?_eq_none (by rw [List.length_map, List.length_range]; omega)]
/-! what is known of the tables and of the constants -/
def xnm : List String := ["ONE", "EAGER", "HASTY", "SHY", "GONE"]
def xF : List (String × String × String × List Int32) := [("ThumbSea$Kind", "number", "I", [0, 1, 2, 3, 4]), ("ThumbSea$Kind", "letter", "I", [111, 101, 104, 115, 103])]
def xtys (E : XE) : List (ClassId × FieldType) := [(E.2.2.2.2.1.1, .int), (E.2.2.2.2.1.2.1, .boolean), (E.2.2.2.2.1.2.2.1, .byte), (E.2.2.2.2.1.2.2.2, .object "ThumbSea$Person")]
def xnest : List (String × Nat × MethodName × String) := [(RX9, 11, yX4_init, "ThumbSea"), (RX0, 19, yX6_init, "ThumbSea"), (RX9, 28, yX7_init, "ThumbSea"), (RX9, 35, yX3_init, "ThumbSea"), (RX4, 44, yX9_isWithin, "ThumbSea"), (RX3, 27, yX9_isWithin, "ThumbSea"), (RX7, 22, yX9_isWithin, "ThumbSea"), (RX8, 9, yX9_isWithin, "ThumbSea")]
def XK (E : XE) (U : State) (H : Heap) : Prop :=
  va_K E.2.2.2.1 vwCl (xtys E) U ∧ (∀ q ∈ xnest, va_Nw (.methodLinkNest q.1 q.2.1 q.2.2.1 q.2.2.2) U) ∧ va_AO "ThumbSea$Person" U ∧ va_En "ThumbSea$Kind" "LThumbSea$Kind;" xnm xF E.2.1 (xA E) U H ∧
  va_Z "ThumbSea$Kind" "ALL" "[LThumbSea$Kind;" (.ref E.2.2.1) (xA E) U H ∧ va_T (.object "ThumbSea$Kind") E.2.2.1 5 (fun j => .ref (E.2.1 j)) (xA E) U H ∧ va_X E.2.2.2.2.2.1 E.2.2.2.2.2.2.1 E.2.2.2.2.2.2.2 U H ∧ E.2.2.2.2.2.1 < E.1
theorem XK.step {E : XE} {s U : State} {H : Heap} {locs : List Loc} (h : XK E s s.heap) (hS : va_S (xA E) s.heap H locs) (hb : E.1 ≤ s.heap.size) (hW : s.WarmedH U.vm) : XK E U H := by
  obtain ⟨h1, h2, h3, h4, h5, h6, h7, h8⟩ := h
  have ha := hW.alike
  refine ⟨h1.moved ha, fun q hq => (h2 q hq).warmM hW, h3.moved ha, (h4.moved ha).kept hS.2.1, (h5.moved ha).kept hS.2.1, (h6.moved ha).kept hS.2.1, (h7.moved ha).kept (hS.2.1 _ (by omega) (fun q => ?_)), h8⟩
  have : E.1 ≤ E.2.2.2.2.2.1 := q
  omega
theorem XK.same {E : XE} {u U : State} {H : Heap} (h : XK E u H) (hv : u.vm = U.vm) : XK E U H := by
  obtain ⟨h1, h2, h3, h4, h5, h6, h7, h8⟩ := h
  have ha : u.vm.Alike U.vm := by rw [hv]; exact Vm.Alike.refl U.vm
  exact ⟨h1.moved ha, fun q hq => (h2 q hq).same rfl hv, h3.moved ha, h4.moved ha, h5.moved ha, h6.moved ha, h7.moved ha, h8⟩
def XI (E : XE) (cnt : Nat) (h : XH) (U : State) : Prop := U.heap.size = E.1 + cnt ∧ cnt ≤ 1000 ∧ va_P E.2.2.2.1 vwCl (xw E cnt h) U.heap ∧ XK E U U.heap
def xws (M : XM) : List Cond := .code M.1 M.2.1 M.2.2.1 M.2.2.2 :: xtbl
def xroom (d mc ms : Nat) : Room := { frames := d, cells := mc, slots := ms, locals := 60 * d }
def XQ (E : XE) (cF : Nat) (Q : Option Value → XH → Prop) : Array Value → State → Outcome → State → Prop := fun _ st o t => (∃ (r : Option Value) (h : XH), o = .returned (r.map (xv E)) ∧ Q r h ∧ XI E cF h t) ∧ va_F (xA E) st t
/-- a method's contract at these arguments and this heap; mc cells and ms slots are made -/
def MC (E : XE) (l : Launch) (d : Nat) (M : XM) (avs : List Value) (cnt : Nat) (h : XH) (mc ms : Nat) (Q : Option Value → XH → Prop) : Prop :=
  Met l M.1 (xws M) (xroom d mc ms) (va_Pc (avs.map (xv E)) (XI E cnt h)) (XQ E (cnt + mc) Q) mc ms (xA E)
def xl (E : XE) : Nat → XL → List (Nat × Value)
  | _, [] => []
  | i, none :: r => xl E (i + 1) r
  | i, some v :: r => (i, xv E v) :: xl E (i + 1) r
theorem xl_mem {E : XE} : ∀ {ls : XL} {i : Nat} {q : Nat × Value}, q ∈ xl E i ls ↔ ∃ (k : Nat) (v : Value), ls[k]? = some (some v) ∧ q = (i + k, xv E v)
  | [], i, q => by simp [xl]
  | none :: r, i, q => by
    rw [xl, xl_mem]
    constructor
    · rintro ⟨k, v, h1, h2⟩
      exact ⟨k + 1, v, by simpa using h1, by rw [h2]; congr 1; omega⟩
    · rintro ⟨k, v, h1, h2⟩
      cases k with
      | zero => simp at h1
      | succ k => exact ⟨k, v, by simpa using h1, by rw [h2]; congr 1; omega⟩
  | some w :: r, i, q => by
    rw [xl, List.mem_cons, xl_mem]
    constructor
    · rintro (h | ⟨k, v, h1, h2⟩)
      · exact ⟨0, w, rfl, by rw [h]; rfl⟩
      · exact ⟨k + 1, v, by simpa using h1, by rw [h2]; congr 1; omega⟩
    · rintro ⟨k, v, h1, h2⟩
      cases k with
      | zero =>
        left
        simp at h1
        rw [h2, h1]
        rfl
      | succ k =>
        right
        exact ⟨k, v, by simpa using h1, by rw [h2]; congr 1; omega⟩
def XLS (E : XE) (lsA : Array Slot) (n : Nat) (ls : XL) : Prop := lv_has lsA n (xl E 0 ls)
theorem XLS.get {E : XE} {lsA : Array Slot} {n : Nat} {ls : XL} (h : XLS E lsA n ls) {i : Nat} {v : Value} (hi : ls[i]? = some (some v)) : lsA[i]? = some (.val (xv E v)) := h.2.2 (i, xv E v) (xl_mem.mpr ⟨i, v, hi, by rw [Nat.zero_add]⟩)
def xcat2 (v : Option Value) : Bool := match v with
  | some (.long _) => true
  | some (.double _) => true
  | _ => false
theorem xcat2_of {v : Value} (h : xcat2 (some v) = false) : (v.category == 2) = false := by
  cases v <;> first | rfl | cases h
/-- no long just below the place -/
def xok (ls : XL) (i : Nat) : Bool := match i with
  | 0 => true
  | i + 1 => !(xcat2 (ls.getD i none))
theorem XLS.put {E : XE} {lsA : Array Slot} {n : Nat} {ls : XL} {i : Nat} {v : Value} (hok : xok ls i = true) (h : lv_has lsA n ((i, xv E v) :: (xl E 0 ls).filter (fun q => !(q.1 == i) && !(q.1 + 1 == i && q.2.category == 2)))) : XLS E lsA n (ls.set i (some v)) := by
  refine ⟨h.1, h.2.1, fun q hq => ?_⟩
  obtain ⟨k, w, h1, h2⟩ := xl_mem.mp hq
  rw [Nat.zero_add] at h2
  by_cases hk : k = i
  · subst hk
    have hl := (List.getElem?_eq_some_iff.mp h1).1
    rw [List.length_set] at hl
    rw [List.getElem?_set_self hl] at h1
    cases h1
    exact h.2.2 q (by rw [h2]; exact List.mem_cons_self)
  · rw [List.getElem?_set_ne (Ne.symm hk)] at h1
    refine h.2.2 q (List.mem_cons_of_mem _ (List.mem_filter.mpr ⟨xl_mem.mpr ⟨k, w, h1, by rw [Nat.zero_add]; exact h2⟩, ?_⟩))
    rw [h2]
    have e1 : (k == i) = false := by simpa using hk
    by_cases hk1 : k + 1 = i
    · subst hk1
      have e3 : xcat2 (some w) = false := by
        have hok' : (!(xcat2 (ls.getD k none))) = true := hok
        rw [List.getD_eq_getElem?_getD, h1] at hok'
        simpa using hok'
      have e4 := xcat2_of e3
      simp [e1, xv_cat, e4]
    · have e2 : (k + 1 == i) = false := by simpa using hk1
      simp [e1, e2]
theorem XLS.putL {E : XE} {lsA : Array Slot} {n : Nat} {ls : XL} {i : Nat} {v : Value} (hok : xok ls i = true) (h : lv_has lsA n ((i, xv E v) :: (xl E 0 ls).filter (fun q => !(q.1 == i) && (!(q.1 == i + 1) && !(q.1 + 1 == i && q.2.category == 2))))) : XLS E lsA n ((ls.set i (some v)).set (i + 1) none) := by
  refine ⟨h.1, h.2.1, fun q hq => ?_⟩
  obtain ⟨k, w, h1, h2⟩ := xl_mem.mp hq
  rw [Nat.zero_add] at h2
  by_cases hk2 : k = i + 1
  · subst hk2
    have hl := (List.getElem?_eq_some_iff.mp h1).1
    rw [List.length_set] at hl
    rw [List.getElem?_set_self hl] at h1
    cases h1
  rw [List.getElem?_set_ne (Ne.symm hk2)] at h1
  by_cases hk : k = i
  · subst hk
    have hl := (List.getElem?_eq_some_iff.mp h1).1
    rw [List.length_set] at hl
    rw [List.getElem?_set_self hl] at h1
    cases h1
    exact h.2.2 q (by rw [h2]; exact List.mem_cons_self)
  · rw [List.getElem?_set_ne (Ne.symm hk)] at h1
    refine h.2.2 q (List.mem_cons_of_mem _ (List.mem_filter.mpr ⟨xl_mem.mpr ⟨k, w, h1, by rw [Nat.zero_add]; exact h2⟩, ?_⟩))
    rw [h2]
    have e1 : (k == i) = false := by simpa using hk
    have e0 : (k == i + 1) = false := by simpa using hk2
    by_cases hk1 : k + 1 = i
    · subst hk1
      have e3 : xcat2 (some w) = false := by
        have hok' : (!(xcat2 (ls.getD k none))) = true := hok
        rw [List.getD_eq_getElem?_getD, h1] at hok'
        simpa using hok'
      have e4 := xcat2_of e3
      simp [e1, xv_cat, e4, hk2]
    · have e2 : (k + 1 == i) = false := by simpa using hk1
      simp [e1, e2, e0]
/-- a return: which instruction, which type -/
def xret (M : XM) (pc : Nat) (r : Option Value) : Prop := match r with
  | none => decode M.2.1 pc = .ok (.return_, 1) ∧ M.2.2.2 = none
  | some (.int v) => decode M.2.1 pc = .ok (.ireturn, 1) ∧ ∃ ty, M.2.2.2 = some ty ∧ narrow ty (.int v) = .int v
  | some (.long _) => decode M.2.1 pc = .ok (.lreturn, 1) ∧ M.2.2.2 = some .long
  | some (.ref _) => decode M.2.1 pc = .ok (.areturn, 1) ∧ ∃ n, M.2.2.2 = some (.object n)
  | _ => False
/-- the heap, the locals and the room at a point -/
def XR (E : XE) (M : XM) (s : State) (cF ms mr sr cnt : Nat) (h : XH) (ls : XL) (H : Heap) (locs : List Loc) (cells slots : Nat) (lsA : Array Slot) : Prop :=
  s.heap.size + cells = E.1 + cnt ∧ cnt ≤ 1000 ∧ va_P E.2.2.2.1 vwCl (xw E cnt h) H ∧ va_S (xA E) s.heap H locs ∧ XLS E lsA M.2.2.1 ls ∧ cnt + mr = cF ∧ slots + sr ≤ ms
def XC (E : XE) (l : Launch) (d : Nat) (M : XM) (Q : Option Value → XH → Prop) (p : Program) (e : Env) (s : State) (m : MethodId) (args : Array Value) (below : List Frame) (meth : Method) (c : Code) (R : Room) (Fin : State → Prop) (cF ms : Nat) : Prop :=
  p.tables.exec = Jvm.exec ∧ c.code = M.2.1 ∧ c.maxLocals = M.2.2.1 ∧ s.vm.findClass M.1.cls = some m.cls ∧ meth.name = M.1.name ∧ (∀ w ∈ xtbl, w.before args s = true) ∧ (d ≤ R.frames ∧ 60 * d ≤ R.locals ∧ E.1 + cF ≤ s.heap.size + R.cells ∧ ms ≤ R.slots) ∧ E.1 ≤ s.heap.size ∧ XK E s s.heap ∧
  ∀ (r : Option Value) (h : XH) (H : Heap) (locs : List Loc) (cells slots : Nat) (lsA : Array Slot) (ls : XL) (sr pc : Nat), XR E M s cF ms 0 sr cF h ls H locs cells slots lsA → Q r h → xret M pc r → W p l e R s m args below meth c H locs cells slots Fin (F0 m pc lsA (r.map (xv E)).toList)
/-- from here, with these locals, this stack, this heap and this room, the method comes to its end with Q -/
def G (E : XE) (l : Launch) (d : Nat) (M : XM) (pc : Nat) (ls : XL) (st : List Value) (cnt : Nat) (h : XH) (mr sr : Nat) (Q : Option Value → XH → Prop) : Prop :=
  ∀ (p : Program) (e : Env) (s : State) (m : MethodId) (args : Array Value) (below : List Frame) (meth : Method) (c : Code) (R : Room) (Fin : State → Prop) (cF ms : Nat), XC E l d M Q p e s m args below meth c R Fin cF ms →
    ∀ (H : Heap) (locs : List Loc) (cells slots : Nat) (lsA : Array Slot), XR E M s cF ms mr sr cnt h ls H locs cells slots lsA → W p l e R s m args below meth c H locs cells slots Fin (F0 m pc lsA (st.map (xv E)))
theorem W.size {p : Program} {l : Launch} {e : Env} {R : Room} {s : State} {m : MethodId} {args : Array Value} {below : List Frame} {meth : Method} {c : Code} {H : Heap} {locs : List Loc} {cells slots : Nat} {Fin : State → Prop} {g : JFrame} (k : H.size ≤ s.heap.size + cells → W p l e R s m args below meth c H locs cells slots Fin g) : W p l e R s m args below meth c H locs cells slots Fin g :=
  fun T hT X => k (by have := X.heapSize; rw [hT] at this; exact this) T hT X
theorem XR.size {E : XE} {M : XM} {s : State} {cF ms mr sr cnt : Nat} {h : XH} {ls : XL} {H : Heap} {locs : List Loc} {cells slots : Nat} {lsA : Array Slot} (r : XR E M s cF ms mr sr cnt h ls H locs cells slots lsA) (hb : E.1 ≤ s.heap.size) (hz : H.size ≤ s.heap.size + cells) : H.size = E.1 + cnt := by
  have h1 := r.1
  have h4 := r.2.2.2.1.1
  cases hc : cnt with
  | zero => omega
  | succ n =>
    have h5 : n < cnt := by omega
    have h6 := (r.2.2.1 n _ (xw_at E h h5)).lt
    have h7 : E.1 + n < H.size := h6
    omega
section XRows
variable {E : XE} {l : Launch} {d : Nat} {M : XM} {pc : Nat} {ls : XL} {st : List Value} {cnt : Nat} {h : XH} {mr sr : Nat} {Q : Option Value → XH → Prop}

theorem g_iconst {n : Int} {v : Int32} (hd : decode M.2.1 pc = .ok (.iconst n, 1)) (hv : Int32.ofInt n = v) (k : G E l d M (pc + 1) ls (.int v :: st) cnt h mr sr Q) : G E l d M pc ls (st) cnt h mr sr Q := by
  intro p e s m args below meth c R Fin cF ms X H locs cells slots lsA r
  exact lv_iconst X.1 X.2.1 hd hv (k p e s m args below meth c R Fin cF ms X H locs cells slots lsA r)
theorem g_bipush {n : Int} {v : Int32} (hd : decode M.2.1 pc = .ok (.bipush n, 2)) (hv : (Int8.ofInt n).toInt32 = v) (k : G E l d M (pc + 2) ls (.int v :: st) cnt h mr sr Q) : G E l d M pc ls (st) cnt h mr sr Q := by
  intro p e s m args below meth c R Fin cF ms X H locs cells slots lsA r
  exact lv_bipush X.1 X.2.1 hd hv (k p e s m args below meth c R Fin cF ms X H locs cells slots lsA r)
theorem g_sipush {n : Int} {v : Int32} (hd : decode M.2.1 pc = .ok (.sipush n, 3)) (hv : (Int16.ofInt n).toInt32 = v) (k : G E l d M (pc + 3) ls (.int v :: st) cnt h mr sr Q) : G E l d M pc ls (st) cnt h mr sr Q := by
  intro p e s m args below meth c R Fin cF ms X H locs cells slots lsA r
  exact lv_sipush X.1 X.2.1 hd hv (k p e s m args below meth c R Fin cF ms X H locs cells slots lsA r)
theorem g_lconst {n : Fin 2} {v : Int64} (hd : decode M.2.1 pc = .ok (.lconst n, 1)) (hv : Int64.ofNat (n : Nat) = v) (k : G E l d M (pc + 1) ls (.long v :: st) cnt h mr sr Q) : G E l d M pc ls (st) cnt h mr sr Q := by
  intro p e s m args below meth c R Fin cF ms X H locs cells slots lsA r
  exact lv_lconst X.1 X.2.1 hd hv (k p e s m args below meth c R Fin cF ms X H locs cells slots lsA r)
theorem g_ldc {i : Nat} {v : Int32} (hd : decode M.2.1 pc = .ok (.ldc i, 2)) (hw : Cond.constant M.1.cls i v ∈ xtbl) (k : G E l d M (pc + 2) ls (.int v :: st) cnt h mr sr Q) : G E l d M pc ls (st) cnt h mr sr Q := by
  intro p e s m args below meth c R Fin cF ms X H locs cells slots lsA r
  exact lv_ldc X.1 X.2.1 X.2.2.2.1 (X.2.2.2.2.2.1 _ hw) hd (k p e s m args below meth c R Fin cF ms X H locs cells slots lsA r)
theorem g_ldcw {i : Nat} {v : Int32} (hd : decode M.2.1 pc = .ok (.ldc_w i, 3)) (hw : Cond.constant M.1.cls i v ∈ xtbl) (k : G E l d M (pc + 3) ls (.int v :: st) cnt h mr sr Q) : G E l d M pc ls (st) cnt h mr sr Q := by
  intro p e s m args below meth c R Fin cF ms X H locs cells slots lsA r
  exact lv_ldcw X.1 X.2.1 X.2.2.2.1 (X.2.2.2.2.2.1 _ hw) hd (k p e s m args below meth c R Fin cF ms X H locs cells slots lsA r)
theorem g_ldc2 {i : Nat} {v : Int64} (hd : decode M.2.1 pc = .ok (.ldc2_w i, 3)) (hw : Cond.constantLong M.1.cls i v ∈ xtbl) (k : G E l d M (pc + 3) ls (.long v :: st) cnt h mr sr Q) : G E l d M pc ls (st) cnt h mr sr Q := by
  intro p e s m args below meth c R Fin cF ms X H locs cells slots lsA r
  exact lv_ldc2 X.1 X.2.1 X.2.2.2.1 (X.2.2.2.2.2.1 _ hw) hd (k p e s m args below meth c R Fin cF ms X H locs cells slots lsA r)
theorem g_iload_n {k4 : Fin 4} {x : Int32} (hd : decode M.2.1 pc = .ok (.iload_n k4, 1)) (hl : ls[(k4 : Nat)]? = some (some (.int x))) (k : G E l d M (pc + 1) ls (.int x :: st) cnt h mr sr Q) : G E l d M pc ls st cnt h mr sr Q := by
  intro p e s m args below meth c R Fin cF ms X H locs cells slots lsA r
  exact lv_iload_n X.1 X.2.1 hd rfl (r.2.2.2.2.1.get hl) (k p e s m args below meth c R Fin cF ms X H locs cells slots lsA r)
theorem g_iload {i : Nat} {x : Int32} (hd : decode M.2.1 pc = .ok (.iload i, 2)) (hl : ls[i]? = some (some (.int x))) (k : G E l d M (pc + 2) ls (.int x :: st) cnt h mr sr Q) : G E l d M pc ls st cnt h mr sr Q := by
  intro p e s m args below meth c R Fin cF ms X H locs cells slots lsA r
  exact lv_iload X.1 X.2.1 hd (r.2.2.2.2.1.get hl) (k p e s m args below meth c R Fin cF ms X H locs cells slots lsA r)
theorem g_lload_n {k4 : Fin 4} {x : Int64} (hd : decode M.2.1 pc = .ok (.lload_n k4, 1)) (hl : ls[(k4 : Nat)]? = some (some (.long x))) (k : G E l d M (pc + 1) ls (.long x :: st) cnt h mr sr Q) : G E l d M pc ls st cnt h mr sr Q := by
  intro p e s m args below meth c R Fin cF ms X H locs cells slots lsA r
  exact lv_lload_n X.1 X.2.1 hd rfl (r.2.2.2.2.1.get hl) (k p e s m args below meth c R Fin cF ms X H locs cells slots lsA r)
theorem g_lload {i : Nat} {x : Int64} (hd : decode M.2.1 pc = .ok (.lload i, 2)) (hl : ls[i]? = some (some (.long x))) (k : G E l d M (pc + 2) ls (.long x :: st) cnt h mr sr Q) : G E l d M pc ls st cnt h mr sr Q := by
  intro p e s m args below meth c R Fin cF ms X H locs cells slots lsA r
  exact lv_lload X.1 X.2.1 hd (r.2.2.2.2.1.get hl) (k p e s m args below meth c R Fin cF ms X H locs cells slots lsA r)
theorem g_aload_n {k4 : Fin 4} {x : Nat} (hd : decode M.2.1 pc = .ok (.aload_n k4, 1)) (hl : ls[(k4 : Nat)]? = some (some (.ref x))) (k : G E l d M (pc + 1) ls (.ref x :: st) cnt h mr sr Q) : G E l d M pc ls st cnt h mr sr Q := by
  intro p e s m args below meth c R Fin cF ms X H locs cells slots lsA r
  exact lv_aload_n X.1 X.2.1 hd rfl (r.2.2.2.2.1.get hl) (k p e s m args below meth c R Fin cF ms X H locs cells slots lsA r)
theorem g_aload {i : Nat} {x : Nat} (hd : decode M.2.1 pc = .ok (.aload i, 2)) (hl : ls[i]? = some (some (.ref x))) (k : G E l d M (pc + 2) ls (.ref x :: st) cnt h mr sr Q) : G E l d M pc ls st cnt h mr sr Q := by
  intro p e s m args below meth c R Fin cF ms X H locs cells slots lsA r
  exact lv_aload X.1 X.2.1 hd (r.2.2.2.2.1.get hl) (k p e s m args below meth c R Fin cF ms X H locs cells slots lsA r)
theorem g_istore_n {k4 : Fin 4} {x : Int32} {ls' : XL} (hd : decode M.2.1 pc = .ok (.istore_n k4, 1)) (hn : (k4 : Nat) < M.2.2.1) (ho : xok ls (k4 : Nat) = true) (he : (ls.set (k4 : Nat) (some (.int x))) = ls') (k : G E l d M (pc + 1) ls' st cnt h mr sr Q) : G E l d M pc ls (.int x :: st) cnt h mr sr Q := by
  intro p e s m args below meth c R Fin cF ms X H locs cells slots lsA r
  refine lv_istore_n X.1 X.2.1 hd rfl r.2.2.2.2.1 hn rfl (fun lsB hl => k p e s m args below meth c R Fin cF ms X H locs cells slots lsB ⟨r.1, r.2.1, r.2.2.1, r.2.2.2.1, he ▸ XLS.put (v := .int x) ho hl, r.2.2.2.2.2⟩)
theorem g_istore {i : Nat} {x : Int32} {ls' : XL} (hd : decode M.2.1 pc = .ok (.istore i, 2)) (hn : i < M.2.2.1) (ho : xok ls i = true) (he : (ls.set i (some (.int x))) = ls') (k : G E l d M (pc + 2) ls' st cnt h mr sr Q) : G E l d M pc ls (.int x :: st) cnt h mr sr Q := by
  intro p e s m args below meth c R Fin cF ms X H locs cells slots lsA r
  refine lv_istore X.1 X.2.1 hd r.2.2.2.2.1 hn rfl (fun lsB hl => k p e s m args below meth c R Fin cF ms X H locs cells slots lsB ⟨r.1, r.2.1, r.2.2.1, r.2.2.2.1, he ▸ XLS.put (v := .int x) ho hl, r.2.2.2.2.2⟩)
theorem g_astore_n {k4 : Fin 4} {x : Nat} {ls' : XL} (hd : decode M.2.1 pc = .ok (.astore_n k4, 1)) (hn : (k4 : Nat) < M.2.2.1) (ho : xok ls (k4 : Nat) = true) (he : (ls.set (k4 : Nat) (some (.ref x))) = ls') (k : G E l d M (pc + 1) ls' st cnt h mr sr Q) : G E l d M pc ls (.ref x :: st) cnt h mr sr Q := by
  intro p e s m args below meth c R Fin cF ms X H locs cells slots lsA r
  refine lv_astore_n X.1 X.2.1 hd rfl r.2.2.2.2.1 hn rfl (fun lsB hl => k p e s m args below meth c R Fin cF ms X H locs cells slots lsB ⟨r.1, r.2.1, r.2.2.1, r.2.2.2.1, he ▸ XLS.put (v := .ref x) ho hl, r.2.2.2.2.2⟩)
theorem g_astore {i : Nat} {x : Nat} {ls' : XL} (hd : decode M.2.1 pc = .ok (.astore i, 2)) (hn : i < M.2.2.1) (ho : xok ls i = true) (he : (ls.set i (some (.ref x))) = ls') (k : G E l d M (pc + 2) ls' st cnt h mr sr Q) : G E l d M pc ls (.ref x :: st) cnt h mr sr Q := by
  intro p e s m args below meth c R Fin cF ms X H locs cells slots lsA r
  refine lv_astore X.1 X.2.1 hd r.2.2.2.2.1 hn rfl (fun lsB hl => k p e s m args below meth c R Fin cF ms X H locs cells slots lsB ⟨r.1, r.2.1, r.2.2.1, r.2.2.2.1, he ▸ XLS.put (v := .ref x) ho hl, r.2.2.2.2.2⟩)
theorem g_lstore_n {k4 : Fin 4} {x : Int64} {ls' : XL} (hd : decode M.2.1 pc = .ok (.lstore_n k4, 1)) (hn : (k4 : Nat) + 1 < M.2.2.1) (ho : xok ls (k4 : Nat) = true) (he : ((ls.set (k4 : Nat) (some (.long x))).set ((k4 : Nat) + 1) none) = ls') (k : G E l d M (pc + 1) ls' st cnt h mr sr Q) : G E l d M pc ls (.long x :: st) cnt h mr sr Q := by
  intro p e s m args below meth c R Fin cF ms X H locs cells slots lsA r
  refine lv_lstore_n X.1 X.2.1 hd rfl r.2.2.2.2.1 hn rfl (fun lsB hl => k p e s m args below meth c R Fin cF ms X H locs cells slots lsB ⟨r.1, r.2.1, r.2.2.1, r.2.2.2.1, he ▸ XLS.putL (v := .long x) ho hl, r.2.2.2.2.2⟩)
theorem g_lstore {i : Nat} {x : Int64} {ls' : XL} (hd : decode M.2.1 pc = .ok (.lstore i, 2)) (hn : i + 1 < M.2.2.1) (ho : xok ls i = true) (he : ((ls.set i (some (.long x))).set (i + 1) none) = ls') (k : G E l d M (pc + 2) ls' st cnt h mr sr Q) : G E l d M pc ls (.long x :: st) cnt h mr sr Q := by
  intro p e s m args below meth c R Fin cF ms X H locs cells slots lsA r
  refine lv_lstore X.1 X.2.1 hd r.2.2.2.2.1 hn rfl (fun lsB hl => k p e s m args below meth c R Fin cF ms X H locs cells slots lsB ⟨r.1, r.2.1, r.2.2.1, r.2.2.2.1, he ▸ XLS.putL (v := .long x) ho hl, r.2.2.2.2.2⟩)
theorem g_iinc {i : Nat} {n : Int} {x v : Int32} {ls' : XL} (hd : decode M.2.1 pc = .ok (.iinc i n, 3)) (hl : ls[i]? = some (some (.int x))) (hv : x + Int32.ofInt n = v) (hn : i < M.2.2.1) (ho : xok ls i = true) (he : (ls.set i (some (.int v))) = ls') (k : G E l d M (pc + 3) ls' st cnt h mr sr Q) : G E l d M pc ls st cnt h mr sr Q := by
  intro p e s m args below meth c R Fin cF ms X H locs cells slots lsA r
  obtain ⟨kk, hk⟩ := List.getElem?_of_mem (xl_mem.mpr ⟨i, .int x, hl, rfl⟩ : (0 + i, xv E (.int x)) ∈ xl E 0 ls)
  rw [Nat.zero_add] at hk
  refine lv_iinc (k := kk) (v := v) X.1 X.2.1 hd r.2.2.2.2.1 hk hv hn rfl (fun lsB hl => k p e s m args below meth c R Fin cF ms X H locs cells slots lsB ⟨r.1, r.2.1, r.2.2.1, r.2.2.2.1, he ▸ XLS.put (v := .int v) ho hl, r.2.2.2.2.2⟩)
theorem g_iadd {x y : Int32} (hd : decode M.2.1 pc = .ok (.iadd, 1)) (k : G E l d M (pc + 1) ls (.int (x + y) :: st) cnt h mr sr Q) : G E l d M pc ls (.int y :: .int x :: st) cnt h mr sr Q := by
  intro p e s m args below meth c R Fin cF ms X H locs cells slots lsA r
  exact lv_iadd X.1 X.2.1 hd (k p e s m args below meth c R Fin cF ms X H locs cells slots lsA r)
theorem g_isub {x y : Int32} (hd : decode M.2.1 pc = .ok (.isub, 1)) (k : G E l d M (pc + 1) ls (.int (x - y) :: st) cnt h mr sr Q) : G E l d M pc ls (.int y :: .int x :: st) cnt h mr sr Q := by
  intro p e s m args below meth c R Fin cF ms X H locs cells slots lsA r
  exact lv_isub X.1 X.2.1 hd (k p e s m args below meth c R Fin cF ms X H locs cells slots lsA r)
theorem g_imul {x y : Int32} (hd : decode M.2.1 pc = .ok (.imul, 1)) (k : G E l d M (pc + 1) ls (.int (x * y) :: st) cnt h mr sr Q) : G E l d M pc ls (.int y :: .int x :: st) cnt h mr sr Q := by
  intro p e s m args below meth c R Fin cF ms X H locs cells slots lsA r
  exact lv_imul X.1 X.2.1 hd (k p e s m args below meth c R Fin cF ms X H locs cells slots lsA r)
theorem g_iand {x y : Int32} (hd : decode M.2.1 pc = .ok (.iand, 1)) (k : G E l d M (pc + 1) ls (.int (x &&& y) :: st) cnt h mr sr Q) : G E l d M pc ls (.int y :: .int x :: st) cnt h mr sr Q := by
  intro p e s m args below meth c R Fin cF ms X H locs cells slots lsA r
  exact lv_iand X.1 X.2.1 hd (k p e s m args below meth c R Fin cF ms X H locs cells slots lsA r)
theorem g_ior {x y : Int32} (hd : decode M.2.1 pc = .ok (.ior, 1)) (k : G E l d M (pc + 1) ls (.int (x ||| y) :: st) cnt h mr sr Q) : G E l d M pc ls (.int y :: .int x :: st) cnt h mr sr Q := by
  intro p e s m args below meth c R Fin cF ms X H locs cells slots lsA r
  exact lv_ior X.1 X.2.1 hd (k p e s m args below meth c R Fin cF ms X H locs cells slots lsA r)
theorem g_ixor {x y : Int32} (hd : decode M.2.1 pc = .ok (.ixor, 1)) (k : G E l d M (pc + 1) ls (.int (x ^^^ y) :: st) cnt h mr sr Q) : G E l d M pc ls (.int y :: .int x :: st) cnt h mr sr Q := by
  intro p e s m args below meth c R Fin cF ms X H locs cells slots lsA r
  exact lv_ixor X.1 X.2.1 hd (k p e s m args below meth c R Fin cF ms X H locs cells slots lsA r)
theorem g_ishl {x y : Int32} (hd : decode M.2.1 pc = .ok (.ishl, 1)) (k : G E l d M (pc + 1) ls (.int (x <<< (y &&& 31)) :: st) cnt h mr sr Q) : G E l d M pc ls (.int y :: .int x :: st) cnt h mr sr Q := by
  intro p e s m args below meth c R Fin cF ms X H locs cells slots lsA r
  exact lv_ishl X.1 X.2.1 hd (k p e s m args below meth c R Fin cF ms X H locs cells slots lsA r)
theorem g_ishr {x y : Int32} (hd : decode M.2.1 pc = .ok (.ishr, 1)) (k : G E l d M (pc + 1) ls (.int (x >>> (y &&& 31)) :: st) cnt h mr sr Q) : G E l d M pc ls (.int y :: .int x :: st) cnt h mr sr Q := by
  intro p e s m args below meth c R Fin cF ms X H locs cells slots lsA r
  exact lv_ishr X.1 X.2.1 hd (k p e s m args below meth c R Fin cF ms X H locs cells slots lsA r)
theorem g_idiv {x y : Int32} (hd : decode M.2.1 pc = .ok (.idiv, 1)) (hne : ¬ y = 0) (k : G E l d M (pc + 1) ls (.int (x / y) :: st) cnt h mr sr Q) : G E l d M pc ls (.int y :: .int x :: st) cnt h mr sr Q := by
  intro p e s m args below meth c R Fin cF ms X H locs cells slots lsA r
  exact lv_idiv X.1 X.2.1 hd hne (k p e s m args below meth c R Fin cF ms X H locs cells slots lsA r)
theorem g_irem {x y : Int32} (hd : decode M.2.1 pc = .ok (.irem, 1)) (hne : ¬ y = 0) (k : G E l d M (pc + 1) ls (.int (x - x / y * y) :: st) cnt h mr sr Q) : G E l d M pc ls (.int y :: .int x :: st) cnt h mr sr Q := by
  intro p e s m args below meth c R Fin cF ms X H locs cells slots lsA r
  exact lv_irem X.1 X.2.1 hd hne (k p e s m args below meth c R Fin cF ms X H locs cells slots lsA r)
theorem g_ladd {x y : Int64} (hd : decode M.2.1 pc = .ok (.ladd, 1)) (k : G E l d M (pc + 1) ls (.long (x + y) :: st) cnt h mr sr Q) : G E l d M pc ls (.long y :: .long x :: st) cnt h mr sr Q := by
  intro p e s m args below meth c R Fin cF ms X H locs cells slots lsA r
  exact lv_ladd X.1 X.2.1 hd (k p e s m args below meth c R Fin cF ms X H locs cells slots lsA r)
theorem g_lmul {x y : Int64} (hd : decode M.2.1 pc = .ok (.lmul, 1)) (k : G E l d M (pc + 1) ls (.long (x * y) :: st) cnt h mr sr Q) : G E l d M pc ls (.long y :: .long x :: st) cnt h mr sr Q := by
  intro p e s m args below meth c R Fin cF ms X H locs cells slots lsA r
  exact lv_lmul X.1 X.2.1 hd (k p e s m args below meth c R Fin cF ms X H locs cells slots lsA r)
theorem g_land {x y : Int64} (hd : decode M.2.1 pc = .ok (.land, 1)) (k : G E l d M (pc + 1) ls (.long (x &&& y) :: st) cnt h mr sr Q) : G E l d M pc ls (.long y :: .long x :: st) cnt h mr sr Q := by
  intro p e s m args below meth c R Fin cF ms X H locs cells slots lsA r
  exact lv_land X.1 X.2.1 hd (k p e s m args below meth c R Fin cF ms X H locs cells slots lsA r)
theorem g_ldiv {x y : Int64} (hd : decode M.2.1 pc = .ok (.ldiv, 1)) (hne : ¬ y = 0) (k : G E l d M (pc + 1) ls (.long (x / y) :: st) cnt h mr sr Q) : G E l d M pc ls (.long y :: .long x :: st) cnt h mr sr Q := by
  intro p e s m args below meth c R Fin cF ms X H locs cells slots lsA r
  exact lv_ldiv X.1 X.2.1 hd hne (k p e s m args below meth c R Fin cF ms X H locs cells slots lsA r)
theorem g_lrem {x y : Int64} (hd : decode M.2.1 pc = .ok (.lrem, 1)) (hne : ¬ y = 0) (k : G E l d M (pc + 1) ls (.long (x - x / y * y) :: st) cnt h mr sr Q) : G E l d M pc ls (.long y :: .long x :: st) cnt h mr sr Q := by
  intro p e s m args below meth c R Fin cF ms X H locs cells slots lsA r
  exact lv_lrem X.1 X.2.1 hd hne (k p e s m args below meth c R Fin cF ms X H locs cells slots lsA r)
theorem g_lcmp {x y : Int64} (hd : decode M.2.1 pc = .ok (.lcmp, 1)) (k : G E l d M (pc + 1) ls (.int (lg_cmp x y) :: st) cnt h mr sr Q) : G E l d M pc ls (.long y :: .long x :: st) cnt h mr sr Q := by
  intro p e s m args below meth c R Fin cF ms X H locs cells slots lsA r
  exact W.lcmp X.1 X.2.1 hd (k p e s m args below meth c R Fin cF ms X H locs cells slots lsA r)
theorem g_iushr {x y : Int32} (hd : decode M.2.1 pc = .ok (.iushr, 1)) (k : G E l d M (pc + 1) ls (.int ((x.toUInt32 >>> (y.toUInt32 &&& Int32.toUInt32 31)).toInt32) :: st) cnt h mr sr Q) : G E l d M pc ls (.int y :: .int x :: st) cnt h mr sr Q := by
  intro p e s m args below meth c R Fin cF ms X H locs cells slots lsA r
  exact lv_iushr X.1 X.2.1 hd rfl (k p e s m args below meth c R Fin cF ms X H locs cells slots lsA r)
theorem g_ineg {x : Int32} (hd : decode M.2.1 pc = .ok (.ineg, 1)) (k : G E l d M (pc + 1) ls (.int (-x) :: st) cnt h mr sr Q) : G E l d M pc ls (.int x :: st) cnt h mr sr Q := by
  intro p e s m args below meth c R Fin cF ms X H locs cells slots lsA r
  exact lv_ineg X.1 X.2.1 hd (k p e s m args below meth c R Fin cF ms X H locs cells slots lsA r)
theorem g_i2l {x : Int32} (hd : decode M.2.1 pc = .ok (.i2l, 1)) (k : G E l d M (pc + 1) ls (.long x.toInt64 :: st) cnt h mr sr Q) : G E l d M pc ls (.int x :: st) cnt h mr sr Q := by
  intro p e s m args below meth c R Fin cF ms X H locs cells slots lsA r
  exact lv_i2l X.1 X.2.1 hd rfl (k p e s m args below meth c R Fin cF ms X H locs cells slots lsA r)
theorem g_l2i {x : Int64} (hd : decode M.2.1 pc = .ok (.l2i, 1)) (k : G E l d M (pc + 1) ls (.int x.toInt32 :: st) cnt h mr sr Q) : G E l d M pc ls (.long x :: st) cnt h mr sr Q := by
  intro p e s m args below meth c R Fin cF ms X H locs cells slots lsA r
  exact lv_l2i X.1 X.2.1 hd rfl (k p e s m args below meth c R Fin cF ms X H locs cells slots lsA r)
theorem g_i2b {x : Int32} (hd : decode M.2.1 pc = .ok (.i2b, 1)) (k : G E l d M (pc + 1) ls (.int x.toInt8.toInt32 :: st) cnt h mr sr Q) : G E l d M pc ls (.int x :: st) cnt h mr sr Q := by
  intro p e s m args below meth c R Fin cF ms X H locs cells slots lsA r
  exact lv_i2b X.1 X.2.1 hd rfl (k p e s m args below meth c R Fin cF ms X H locs cells slots lsA r)
theorem g_dup {v : Value} (hd : decode M.2.1 pc = .ok (.dup, 1)) (hc : v.category = 1) (k : G E l d M (pc + 1) ls (v :: v :: st) cnt h mr sr Q) : G E l d M pc ls (v :: st) cnt h mr sr Q := by
  intro p e s m args below meth c R Fin cF ms X H locs cells slots lsA r
  exact lv_dup X.1 X.2.1 hd (by rw [xv_cat]; exact hc) (k p e s m args below meth c R Fin cF ms X H locs cells slots lsA r)
theorem g_pop {v : Value} (hd : decode M.2.1 pc = .ok (.pop, 1)) (hc : v.category = 1) (k : G E l d M (pc + 1) ls st cnt h mr sr Q) : G E l d M pc ls (v :: st) cnt h mr sr Q := by
  intro p e s m args below meth c R Fin cF ms X H locs cells slots lsA r
  exact lv_pop X.1 X.2.1 hd (by rw [xv_cat]; exact hc) (k p e s m args below meth c R Fin cF ms X H locs cells slots lsA r)
theorem g_dup2 {v w : Value} (hd : decode M.2.1 pc = .ok (.dup2, 1)) (hc : v.category = 1) (hc2 : w.category = 1) (k : G E l d M (pc + 1) ls (v :: w :: v :: w :: st) cnt h mr sr Q) : G E l d M pc ls (v :: w :: st) cnt h mr sr Q := by
  intro p e s m args below meth c R Fin cF ms X H locs cells slots lsA r
  exact lv_dup2_11 X.1 X.2.1 hd (by rw [xv_cat]; exact hc) (by rw [xv_cat]; exact hc2) (k p e s m args below meth c R Fin cF ms X H locs cells slots lsA r)
theorem g_goto {off : Int} (tgt : Nat) (hd : decode M.2.1 pc = .ok (.goto off, 3)) (ht : (pc : Int) + off = (tgt : Int)) (k : G E l d M tgt ls st cnt h mr sr Q) : G E l d M pc ls st cnt h mr sr Q := by
  intro p e s m args below meth c R Fin cF ms X H locs cells slots lsA r
  exact lv_goto X.1 X.2.1 hd ht (k p e s m args below meth c R Fin cF ms X H locs cells slots lsA r)
theorem g_ifeq {x : Int32} {off : Int} (tgt : Nat) (hd : decode M.2.1 pc = .ok (.ifCond .eq off, 3)) (ht : (pc : Int) + off = (tgt : Int)) (kt : x = 0 → G E l d M tgt ls st cnt h mr sr Q) (kf : ¬ x = 0 → G E l d M (pc + 3) ls st cnt h mr sr Q) : G E l d M pc ls (.int x :: st) cnt h mr sr Q := by
  intro p e s m args below meth c R Fin cF ms X H locs cells slots lsA r
  exact lv_if_eq X.1 X.2.1 hd ht (fun q => kt q p e s m args below meth c R Fin cF ms X H locs cells slots lsA r) (fun q => kf q p e s m args below meth c R Fin cF ms X H locs cells slots lsA r)
theorem g_ifne {x : Int32} {off : Int} (tgt : Nat) (hd : decode M.2.1 pc = .ok (.ifCond .ne off, 3)) (ht : (pc : Int) + off = (tgt : Int)) (kt : ¬ x = 0 → G E l d M tgt ls st cnt h mr sr Q) (kf : x = 0 → G E l d M (pc + 3) ls st cnt h mr sr Q) : G E l d M pc ls (.int x :: st) cnt h mr sr Q := by
  intro p e s m args below meth c R Fin cF ms X H locs cells slots lsA r
  exact lv_if_ne X.1 X.2.1 hd ht (fun q => kt q p e s m args below meth c R Fin cF ms X H locs cells slots lsA r) (fun q => kf q p e s m args below meth c R Fin cF ms X H locs cells slots lsA r)
theorem g_iflt {x : Int32} {off : Int} (tgt : Nat) (hd : decode M.2.1 pc = .ok (.ifCond .lt off, 3)) (ht : (pc : Int) + off = (tgt : Int)) (kt : x < 0 → G E l d M tgt ls st cnt h mr sr Q) (kf : ¬ x < 0 → G E l d M (pc + 3) ls st cnt h mr sr Q) : G E l d M pc ls (.int x :: st) cnt h mr sr Q := by
  intro p e s m args below meth c R Fin cF ms X H locs cells slots lsA r
  exact lv_if_lt X.1 X.2.1 hd ht (fun q => kt q p e s m args below meth c R Fin cF ms X H locs cells slots lsA r) (fun q => kf q p e s m args below meth c R Fin cF ms X H locs cells slots lsA r)
theorem g_ifge {x : Int32} {off : Int} (tgt : Nat) (hd : decode M.2.1 pc = .ok (.ifCond .ge off, 3)) (ht : (pc : Int) + off = (tgt : Int)) (kt : 0 ≤ x → G E l d M tgt ls st cnt h mr sr Q) (kf : ¬ 0 ≤ x → G E l d M (pc + 3) ls st cnt h mr sr Q) : G E l d M pc ls (.int x :: st) cnt h mr sr Q := by
  intro p e s m args below meth c R Fin cF ms X H locs cells slots lsA r
  exact lv_if_ge X.1 X.2.1 hd ht (fun q => kt q p e s m args below meth c R Fin cF ms X H locs cells slots lsA r) (fun q => kf q p e s m args below meth c R Fin cF ms X H locs cells slots lsA r)
theorem g_ifgt {x : Int32} {off : Int} (tgt : Nat) (hd : decode M.2.1 pc = .ok (.ifCond .gt off, 3)) (ht : (pc : Int) + off = (tgt : Int)) (kt : 0 < x → G E l d M tgt ls st cnt h mr sr Q) (kf : ¬ 0 < x → G E l d M (pc + 3) ls st cnt h mr sr Q) : G E l d M pc ls (.int x :: st) cnt h mr sr Q := by
  intro p e s m args below meth c R Fin cF ms X H locs cells slots lsA r
  exact lv_if_gt X.1 X.2.1 hd ht (fun q => kt q p e s m args below meth c R Fin cF ms X H locs cells slots lsA r) (fun q => kf q p e s m args below meth c R Fin cF ms X H locs cells slots lsA r)
theorem g_ifle {x : Int32} {off : Int} (tgt : Nat) (hd : decode M.2.1 pc = .ok (.ifCond .le off, 3)) (ht : (pc : Int) + off = (tgt : Int)) (kt : x ≤ 0 → G E l d M tgt ls st cnt h mr sr Q) (kf : ¬ x ≤ 0 → G E l d M (pc + 3) ls st cnt h mr sr Q) : G E l d M pc ls (.int x :: st) cnt h mr sr Q := by
  intro p e s m args below meth c R Fin cF ms X H locs cells slots lsA r
  exact lv_if_le X.1 X.2.1 hd ht (fun q => kt q p e s m args below meth c R Fin cF ms X H locs cells slots lsA r) (fun q => kf q p e s m args below meth c R Fin cF ms X H locs cells slots lsA r)
theorem g_icmpeq {x y : Int32} {off : Int} (tgt : Nat) (hd : decode M.2.1 pc = .ok (.if_icmp .eq off, 3)) (ht : (pc : Int) + off = (tgt : Int)) (kt : x = y → G E l d M tgt ls st cnt h mr sr Q) (kf : ¬ x = y → G E l d M (pc + 3) ls st cnt h mr sr Q) : G E l d M pc ls (.int y :: .int x :: st) cnt h mr sr Q := by
  intro p e s m args below meth c R Fin cF ms X H locs cells slots lsA r
  exact lv_icmp_eq X.1 X.2.1 hd ht (fun q => kt q p e s m args below meth c R Fin cF ms X H locs cells slots lsA r) (fun q => kf q p e s m args below meth c R Fin cF ms X H locs cells slots lsA r)
theorem g_icmpne {x y : Int32} {off : Int} (tgt : Nat) (hd : decode M.2.1 pc = .ok (.if_icmp .ne off, 3)) (ht : (pc : Int) + off = (tgt : Int)) (kt : ¬ x = y → G E l d M tgt ls st cnt h mr sr Q) (kf : x = y → G E l d M (pc + 3) ls st cnt h mr sr Q) : G E l d M pc ls (.int y :: .int x :: st) cnt h mr sr Q := by
  intro p e s m args below meth c R Fin cF ms X H locs cells slots lsA r
  exact lv_icmp_ne X.1 X.2.1 hd ht (fun q => kt q p e s m args below meth c R Fin cF ms X H locs cells slots lsA r) (fun q => kf q p e s m args below meth c R Fin cF ms X H locs cells slots lsA r)
theorem g_icmplt {x y : Int32} {off : Int} (tgt : Nat) (hd : decode M.2.1 pc = .ok (.if_icmp .lt off, 3)) (ht : (pc : Int) + off = (tgt : Int)) (kt : x < y → G E l d M tgt ls st cnt h mr sr Q) (kf : ¬ x < y → G E l d M (pc + 3) ls st cnt h mr sr Q) : G E l d M pc ls (.int y :: .int x :: st) cnt h mr sr Q := by
  intro p e s m args below meth c R Fin cF ms X H locs cells slots lsA r
  exact lv_icmp_lt X.1 X.2.1 hd ht (fun q => kt q p e s m args below meth c R Fin cF ms X H locs cells slots lsA r) (fun q => kf q p e s m args below meth c R Fin cF ms X H locs cells slots lsA r)
theorem g_icmpge {x y : Int32} {off : Int} (tgt : Nat) (hd : decode M.2.1 pc = .ok (.if_icmp .ge off, 3)) (ht : (pc : Int) + off = (tgt : Int)) (kt : y ≤ x → G E l d M tgt ls st cnt h mr sr Q) (kf : ¬ y ≤ x → G E l d M (pc + 3) ls st cnt h mr sr Q) : G E l d M pc ls (.int y :: .int x :: st) cnt h mr sr Q := by
  intro p e s m args below meth c R Fin cF ms X H locs cells slots lsA r
  exact lv_icmp_ge X.1 X.2.1 hd ht (fun q => kt q p e s m args below meth c R Fin cF ms X H locs cells slots lsA r) (fun q => kf q p e s m args below meth c R Fin cF ms X H locs cells slots lsA r)
theorem g_icmpgt {x y : Int32} {off : Int} (tgt : Nat) (hd : decode M.2.1 pc = .ok (.if_icmp .gt off, 3)) (ht : (pc : Int) + off = (tgt : Int)) (kt : y < x → G E l d M tgt ls st cnt h mr sr Q) (kf : ¬ y < x → G E l d M (pc + 3) ls st cnt h mr sr Q) : G E l d M pc ls (.int y :: .int x :: st) cnt h mr sr Q := by
  intro p e s m args below meth c R Fin cF ms X H locs cells slots lsA r
  exact lv_icmp_gt X.1 X.2.1 hd ht (fun q => kt q p e s m args below meth c R Fin cF ms X H locs cells slots lsA r) (fun q => kf q p e s m args below meth c R Fin cF ms X H locs cells slots lsA r)
theorem g_icmple {x y : Int32} {off : Int} (tgt : Nat) (hd : decode M.2.1 pc = .ok (.if_icmp .le off, 3)) (ht : (pc : Int) + off = (tgt : Int)) (kt : x ≤ y → G E l d M tgt ls st cnt h mr sr Q) (kf : ¬ x ≤ y → G E l d M (pc + 3) ls st cnt h mr sr Q) : G E l d M pc ls (.int y :: .int x :: st) cnt h mr sr Q := by
  intro p e s m args below meth c R Fin cF ms X H locs cells slots lsA r
  exact lv_icmp_le X.1 X.2.1 hd ht (fun q => kt q p e s m args below meth c R Fin cF ms X H locs cells slots lsA r) (fun q => kf q p e s m args below meth c R Fin cF ms X H locs cells slots lsA r)
theorem xk_inj {E : XE} {s : State} (h : XK E s s.heap) {i j : Nat} (hi : i < 5) (hj : j < 5) : (some (E.2.1 i) = some (E.2.1 j)) ↔ i = j := by
  constructor
  · intro q
    exact h.2.2.2.1.2 i j hi hj (Option.some.inj q)
  · intro q
    rw [q]
theorem g_acmpne {i j : Nat} {off : Int} (tgt : Nat) (hd : decode M.2.1 pc = .ok (.if_acmp .ne off, 3)) (ht : (pc : Int) + off = (tgt : Int)) (hi : i < 5) (hj : j < 5) (kt : ¬ i = j → G E l d M tgt ls st cnt h mr sr Q) (kf : i = j → G E l d M (pc + 3) ls st cnt h mr sr Q) : G E l d M pc ls (.ref (1000 + j) :: .ref (1000 + i) :: st) cnt h mr sr Q := by
  intro p e s m args below meth c R Fin cF ms X H locs cells slots lsA r
  have hz := xk_inj X.2.2.2.2.2.2.2.2.1 hi hj
  have key := lv_acmp_ne (l := l) (e := e) (args := args) (below := below) (meth := meth) (H := H) (locs := locs) (cells := cells) (slots := slots) (Q := Fin) (R := R) (s := s) (m := m) (ls := lsA) (rest := st.map (xv E)) (rx := some (E.2.1 i)) (ry := some (E.2.1 j)) X.1 X.2.1 hd ht (fun q => kt (fun z => q (hz.mpr z)) p e s m args below meth c R Fin cF ms X H locs cells slots lsA r) (fun q => kf (hz.mp q) p e s m args below meth c R Fin cF ms X H locs cells slots lsA r)
  show W p l e R s m args below meth c H locs cells slots Fin (F0 m pc lsA (.ref (xa E (1000 + j)) :: .ref (xa E (1000 + i)) :: st.map (xv E)))
  rw [xa_k hi, xa_k hj]
  exact key
theorem g_acmpeq {i j : Nat} {off : Int} (tgt : Nat) (hd : decode M.2.1 pc = .ok (.if_acmp .eq off, 3)) (ht : (pc : Int) + off = (tgt : Int)) (hi : i < 5) (hj : j < 5) (kt : i = j → G E l d M tgt ls st cnt h mr sr Q) (kf : ¬ i = j → G E l d M (pc + 3) ls st cnt h mr sr Q) : G E l d M pc ls (.ref (1000 + j) :: .ref (1000 + i) :: st) cnt h mr sr Q := by
  intro p e s m args below meth c R Fin cF ms X H locs cells slots lsA r
  have hz := xk_inj X.2.2.2.2.2.2.2.2.1 hi hj
  have key := lv_acmp_eq (l := l) (e := e) (args := args) (below := below) (meth := meth) (H := H) (locs := locs) (cells := cells) (slots := slots) (Q := Fin) (R := R) (s := s) (m := m) (ls := lsA) (rest := st.map (xv E)) (rx := some (E.2.1 i)) (ry := some (E.2.1 j)) X.1 X.2.1 hd ht (fun q => kt (hz.mp q) p e s m args below meth c R Fin cF ms X H locs cells slots lsA r) (fun q => kf (fun z => q (hz.mpr z)) p e s m args below meth c R Fin cF ms X H locs cells slots lsA r)
  show W p l e R s m args below meth c H locs cells slots Fin (F0 m pc lsA (.ref (xa E (1000 + j)) :: .ref (xa E (1000 + i)) :: st.map (xv E)))
  rw [xa_k hi, xa_k hj]
  exact key
theorem g_lookup {dflt : Int} {ps : Array (Int × Int)} {len : Nat} {x : Int32} {off : Int} (tgt : Nat) (hd : decode M.2.1 pc = .ok (.lookupswitch dflt ps, len)) (hp : (ps.toList.zip (ps.toList.drop 1)).all (fun (a, next) => a.1 < next.1) = true) (ho : Op.lookupswitch.offset ps.toList dflt x.toInt = off) (ht : (pc : Int) + off = (tgt : Int)) (k : G E l d M tgt ls st cnt h mr sr Q) : G E l d M pc ls (.int x :: st) cnt h mr sr Q := by
  intro p e s m args below meth c R Fin cF ms X H locs cells slots lsA r
  exact lv_lookup X.1 X.2.1 hd hp ho ht (k p e s m args below meth c R Fin cF ms X H locs cells slots lsA r)
theorem g_tableOut {dflt lo hi : Int} {offs : Array Int} {len : Nat} {x : Int32} (tgt : Nat) (hd : decode M.2.1 pc = .ok (.tableswitch dflt lo hi offs, len)) (hh : x.toInt < lo ∨ hi < x.toInt) (ht : (pc : Int) + dflt = (tgt : Int)) (k : G E l d M tgt ls st cnt h mr sr Q) : G E l d M pc ls (.int x :: st) cnt h mr sr Q := by
  intro p e s m args below meth c R Fin cF ms X H locs cells slots lsA r
  exact lv_tableOut X.1 X.2.1 hd hh ht (k p e s m args below meth c R Fin cF ms X H locs cells slots lsA r)
theorem g_tableIn {dflt lo hi : Int} {offs : Array Int} {len : Nat} {x : Int32} {off : Int} (tgt : Nat) (hd : decode M.2.1 pc = .ok (.tableswitch dflt lo hi offs, len)) (h1 : ¬ x.toInt < lo) (h2 : ¬ hi < x.toInt) (ho : offs[(x.toInt - lo).toNat]? = some off) (ht : (pc : Int) + off = (tgt : Int)) (k : G E l d M tgt ls st cnt h mr sr Q) : G E l d M pc ls (.int x :: st) cnt h mr sr Q := by
  intro p e s m args below meth c R Fin cF ms X H locs cells slots lsA r
  exact lv_tableIn X.1 X.2.1 hd h1 h2 ho ht (k p e s m args below meth c R Fin cF ms X H locs cells slots lsA r)
theorem g_ireturn {x : Int32} {ty : FieldType} (hd : decode M.2.1 pc = .ok (.ireturn, 1)) (ht : M.2.2.2 = some ty) (hn : narrow ty (.int x) = .int x) (hq : Q (some (.int x)) h) : G E l d M pc ls [.int x] cnt h 0 sr Q := by
  intro p e s m args below meth c R Fin cF ms X H locs cells slots lsA r
  have hcF : cnt = cF := r.2.2.2.2.2.1
  subst hcF
  exact X.2.2.2.2.2.2.2.2.2 (some (.int x)) h H locs cells slots lsA ls sr pc r hq ⟨hd, ty, ht, hn⟩
theorem g_lreturn {x : Int64} (hd : decode M.2.1 pc = .ok (.lreturn, 1)) (ht : M.2.2.2 = some .long) (hq : Q (some (.long x)) h) : G E l d M pc ls [.long x] cnt h 0 sr Q := by
  intro p e s m args below meth c R Fin cF ms X H locs cells slots lsA r
  have hcF : cnt = cF := r.2.2.2.2.2.1
  subst hcF
  exact X.2.2.2.2.2.2.2.2.2 (some (.long x)) h H locs cells slots lsA ls sr pc r hq ⟨hd, ht⟩
theorem g_areturn {x : Nat} {n : String} (hd : decode M.2.1 pc = .ok (.areturn, 1)) (ht : M.2.2.2 = some (.object n)) (hq : Q (some (.ref x)) h) : G E l d M pc ls [.ref x] cnt h 0 sr Q := by
  intro p e s m args below meth c R Fin cF ms X H locs cells slots lsA r
  have hcF : cnt = cF := r.2.2.2.2.2.1
  subst hcF
  exact X.2.2.2.2.2.2.2.2.2 (some (.ref x)) h H locs cells slots lsA ls sr pc r hq ⟨hd, n, ht⟩
theorem g_return (hd : decode M.2.1 pc = .ok (.return_, 1)) (ht : M.2.2.2 = none) (hq : Q none h) : G E l d M pc ls [] cnt h 0 sr Q := by
  intro p e s m args below meth c R Fin cF ms X H locs cells slots lsA r
  have hcF : cnt = cF := r.2.2.2.2.2.1
  subst hcF
  exact X.2.2.2.2.2.2.2.2.2 none h H locs cells slots lsA ls sr pc r hq ⟨hd, ht⟩
/-- another heap of the same cells -/
theorem g_heap {h' : XH} (he : xw E cnt h = xw E cnt h') (k : G E l d M pc ls st cnt h' mr sr Q) : G E l d M pc ls st cnt h mr sr Q := by
  intro p e s m args below meth c R Fin cF ms X H locs cells slots lsA r
  exact k p e s m args below meth c R Fin cF ms X H locs cells slots lsA ⟨r.1, r.2.1, he ▸ r.2.2.1, r.2.2.2⟩
/-- less room -/
theorem g_less {sr' : Nat} (h2 : sr' ≤ sr) (k : G E l d M pc ls st cnt h mr sr' Q) : G E l d M pc ls st cnt h mr sr Q := by
  intro p e s m args below meth c R Fin cF ms X H locs cells slots lsA r
  exact k p e s m args below meth c R Fin cF ms X H locs cells slots lsA ⟨r.1, r.2.1, r.2.2.1, r.2.2.2.1, r.2.2.2.2.1, r.2.2.2.2.2.1, by have := r.2.2.2.2.2.2; omega⟩
/-- fewer locals -/
theorem g_locals {ls' : XL} (h1 : ∀ (i : Nat) (v : Value), ls'[i]? = some (some v) → ls[i]? = some (some v)) (k : G E l d M pc ls' st cnt h mr sr Q) : G E l d M pc ls st cnt h mr sr Q := by
  intro p e s m args below meth c R Fin cF ms X H locs cells slots lsA r
  refine k p e s m args below meth c R Fin cF ms X H locs cells slots lsA ⟨r.1, r.2.1, r.2.2.1, r.2.2.2.1, ⟨r.2.2.2.2.1.1, r.2.2.2.2.1.2.1, fun q hq => ?_⟩, r.2.2.2.2.2⟩
  obtain ⟨i, v, h2, h3⟩ := xl_mem.mp hq
  exact r.2.2.2.2.1.2.2 q (xl_mem.mpr ⟨i, v, h1 i v h2, h3⟩)
end XRows
